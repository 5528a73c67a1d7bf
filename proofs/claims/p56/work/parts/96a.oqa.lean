/-- a limited flow: as much as its source has at most, and by its share -/
theorem lf_share {n : Nat} {v : qB} (hw : WF n v) (hN : nN v ≤ 48) {s : Nat} (hs : s < 2 * nN v) (h : ¬ pfl v s = nI 0) :
    (OZ v (2 * nN v) (srcF v (pfl v s) s) ≤ (v 2 (srcF v (pfl v s) s)).toInt ∧ lfl v s = pfl v s) ∨
    ((v 2 (srcF v (pfl v s) s)).toInt < OZ v (2 * nN v) (srcF v (pfl v s) s) ∧ az (lfl v s) * OZ v (2 * nN v) (srcF v (pfl v s) s) ≤ az (pfl v s) * (v 2 (srcF v (pfl v s) s)).toInt) := by
  obtain ⟨h1, h2, h3⟩ := OZ_eq hw (2 * nN v) (srcF v (pfl v s) s) (by omega)
  have hW := (hw.2.1.2.1 (srcF v (pfl v s) s)).1
  by_cases q : outF v (2 * nN v) (srcF v (pfl v s) s) ≤ v 2 (srcF v (pfl v s) s)
  · left
    have q' := q
    rw [x_le, h1] at q'
    refine ⟨q', ?_⟩
    unfold lfl
    rw [if_neg h, if_pos q]
  · right
    have q' := q
    rw [x_le, h1] at q'
    refine ⟨by omega, ?_⟩
    have e : lfl v s = shr (pfl v s) (v 2 (srcF v (pfl v s) s)) (outF v (2 * nN v) (srcF v (pfl v s) s)) := by
      unfold lfl
      rw [if_neg h, if_neg q]
    rw [e]
    generalize v 2 (srcF v (pfl v s) s) = W at *
    generalize hO : outF v (2 * nN v) (srcF v (pfl v s) s) = O at *
    rw [← h1]
    have ht := shr_toInt (f := pfl v s) (W := W) (O := O) hW (by omega)
    have hOp : 0 < O.toInt := by omega
    unfold az
    rw [ht]
    have key : ((pfl v s).toInt * W.toInt).tdiv O.toInt * O.toInt = (pfl v s).toInt * W.toInt - ((pfl v s).toInt * W.toInt).tmod O.toInt := by
      have := Int.tdiv_mul_add_tmod ((pfl v s).toInt * W.toInt) O.toInt
      omega
    by_cases z : 0 ≤ (pfl v s).toInt
    · have p1 : 0 ≤ (pfl v s).toInt * W.toInt := Int.mul_nonneg z hW
      have p2 : 0 ≤ ((pfl v s).toInt * W.toInt).tdiv O.toInt := Int.tdiv_nonneg p1 (by omega)
      have p3 : 0 ≤ ((pfl v s).toInt * W.toInt).tmod O.toInt := Int.tmod_nonneg _ p1
      rw [if_pos p2, if_pos z, key]
      omega
    · have p0 : (pfl v s).toInt * W.toInt = -((-(pfl v s).toInt) * W.toInt) := by rw [Int.neg_mul, Int.neg_neg]
      have p1 : 0 ≤ (-(pfl v s).toInt) * W.toInt := Int.mul_nonneg (by omega) hW
      have p2 : 0 ≤ ((-(pfl v s).toInt) * W.toInt).tdiv O.toInt := Int.tdiv_nonneg p1 (by omega)
      have p3 : ((pfl v s).toInt * W.toInt).tdiv O.toInt = -(((-(pfl v s).toInt) * W.toInt).tdiv O.toInt) := by rw [p0, Int.neg_tdiv]
      have p4 := Int.tdiv_mul_add_tmod ((-(pfl v s).toInt) * W.toInt) O.toInt
      have p5 : 0 ≤ ((-(pfl v s).toInt) * W.toInt).tmod O.toInt := Int.tmod_nonneg _ p1
      rw [if_neg z, p3]
      split
      · rename_i z2
        have z3 : ((-(pfl v s).toInt) * W.toInt).tdiv O.toInt = 0 := by omega
        rw [z3]
        simp only [Int.neg_zero, Int.zero_mul]
        exact p1
      · rw [Int.neg_neg]
        omega
theorem mul_le_cancel {a b c : Int} (hc : 0 < c) (h : a * c ≤ b * c) : a ≤ b := Int.le_of_mul_le_mul_right h hc
theorem lf_le {n : Nat} {v : qB} (hw : WF n v) (hN : nN v ≤ 48) {s : Nat} (hs : s < 2 * nN v) (h : ¬ pfl v s = nI 0) : az (lfl v s) ≤ (v 2 (srcF v (pfl v s) s)).toInt := by
  have hm := OZ_mem h (2 * nN v) hs
  have hW := (hw.2.1.2.1 (srcF v (pfl v s) s)).1
  rcases lf_share hw hN hs h with ⟨h1, h2⟩ | ⟨h1, h2⟩
  · rw [h2]
    omega
  · have h3 : az (pfl v s) * (v 2 (srcF v (pfl v s) s)).toInt ≤ OZ v (2 * nN v) (srcF v (pfl v s) s) * (v 2 (srcF v (pfl v s) s)).toInt := Int.mul_le_mul_of_nonneg_right hm hW
    refine mul_le_cancel (c := OZ v (2 * nN v) (srcF v (pfl v s) s)) (by omega) ?_
    rw [Int.mul_comm (v 2 (srcF v (pfl v s) s)).toInt]
    exact Int.le_trans h2 h3
theorem lf_bd {n : Nat} {v : qB} (hw : WF n v) (hN : nN v ≤ 48) {s : Nat} (hs : s < 2 * nN v) : -100000 ≤ (lfl v s).toInt ∧ (lfl v s).toInt ≤ 100000 := by
  by_cases h : pfl v s = nI 0
  · have e : lfl v s = nI 0 := by
      unfold lfl
      rw [if_pos h]
    rw [e, nI_toInt (by decide)]
    decide
  · have h1 := lf_le hw hN hs h
    have h2 := (hw.2.1.2.1 (srcF v (pfl v s) s)).2
    unfold az at h1
    split at h1 <;> omega
/-- what leaves a cell in truth -/
def TZ (v : qB) : Nat → Nat → Int
  | 0, _ => 0
  | n + 1, c => if lfl v n = nI 0 then TZ v n c else if c = srcF v (lfl v n) n then TZ v n c + az (lfl v n) else TZ v n c
theorem TZ_le {n : Nat} {v : qB} (hw : WF n v) (hN : nN v ≤ 48) (c : Nat) : TZ v (2 * nN v) c ≤ (v 2 c).toInt := by
  have hw2 : ∀ c, 0 ≤ (v 2 c).toInt := fun c => (hw.2.1.2.1 c).1
  have hW := hw2 c
  by_cases hO : OZ v (2 * nN v) c ≤ (v 2 c).toInt
  · have key : ∀ i, i ≤ 2 * nN v → TZ v i c ≤ OZ v i c := by
      intro i
      induction i with
      | zero => intro _; exact Int.le_refl _
      | succ i ih =>
        intro hi
        have h1 := ih (by omega)
        show (if lfl v i = nI 0 then TZ v i c else if c = srcF v (lfl v i) i then TZ v i c + az (lfl v i) else TZ v i c) ≤ (if pfl v i = nI 0 then OZ v i c else if c = srcF v (pfl v i) i then OZ v i c + az (pfl v i) else OZ v i c)
        have hn := az_nn (x := pfl v i)
        by_cases q : lfl v i = nI 0
        · rw [if_pos q]
          repeat' split
          all_goals omega
        · have hp := lfl_pfl q
          have hs := (lfl_src hw2 q).1
          rw [if_neg q, if_neg hp, hs]
          by_cases q2 : c = srcF v (pfl v i) i
          · rw [if_pos q2, if_pos q2]
            rcases lf_share hw hN (s := i) (by omega) hp with ⟨_, e⟩ | ⟨e, _⟩
            · rw [e]
              omega
            · rw [← q2] at e
              omega
          · rw [if_neg q2, if_neg q2]
            exact h1
    have := key _ (Nat.le_refl _)
    omega
  · have key : ∀ i, i ≤ 2 * nN v → TZ v i c * OZ v (2 * nN v) c ≤ OZ v i c * (v 2 c).toInt := by
      intro i
      induction i with
      | zero =>
        intro _
        show (0 : Int) * _ ≤ 0 * _
        rw [Int.zero_mul, Int.zero_mul]
        exact Int.le_refl _
      | succ i ih =>
        intro hi
        have h1 := ih (by omega)
        show (if lfl v i = nI 0 then TZ v i c else if c = srcF v (lfl v i) i then TZ v i c + az (lfl v i) else TZ v i c) * _ ≤ (if pfl v i = nI 0 then OZ v i c else if c = srcF v (pfl v i) i then OZ v i c + az (pfl v i) else OZ v i c) * _
        have hn := az_nn (x := pfl v i)
        have hmul : 0 ≤ az (pfl v i) * (v 2 c).toInt := Int.mul_nonneg hn hW
        by_cases q : lfl v i = nI 0
        · rw [if_pos q]
          split
          · exact h1
          · split
            · rw [Int.add_mul]
              omega
            · exact h1
        · have hp := lfl_pfl q
          have hs := (lfl_src hw2 q).1
          rw [if_neg q, if_neg hp, hs]
          by_cases q2 : c = srcF v (pfl v i) i
          · rw [if_pos q2, if_pos q2, Int.add_mul, Int.add_mul]
            rcases lf_share hw hN (s := i) (by omega) hp with ⟨e, _⟩ | ⟨_, e⟩
            · rw [← q2] at e
              omega
            · rw [← q2] at e
              omega
          · rw [if_neg q2, if_neg q2]
            exact h1
    have h2 := key _ (Nat.le_refl _)
    refine mul_le_cancel (c := OZ v (2 * nN v) c) (by omega) ?_
    rw [Int.mul_comm (v 2 c).toInt]
    exact h2
theorem wat_ge {n : Nat} {v : qB} (hw : WF n v) (hN : nN v ≤ 48) (c : Nat) : ∀ i, i ≤ 2 * nN v → (v 2 c).toInt - TZ v i c ≤ (watF v i c).toInt ∧ (watF v i c).toInt ≤ (v 2 c).toInt + (i : Int) * 100000 ∧ 0 ≤ TZ v i c ∧ TZ v i c ≤ (i : Int) * 100000
  | 0, _ => by
    refine ⟨?_, ?_, Int.le_refl _, ?_⟩
    · show (v 2 c).toInt - 0 ≤ (v 2 c).toInt
      omega
    · show (v 2 c).toInt ≤ (v 2 c).toInt + ((0 : Nat) : Int) * 100000
      omega
    · show (0 : Int) ≤ ((0 : Nat) : Int) * 100000
      decide
  | i + 1, hi => by
    obtain ⟨h1, h2, h3, h4⟩ := wat_ge hw hN c i (by omega)
    have hw2 : ∀ c, 0 ≤ (v 2 c).toInt := fun c => (hw.2.1.2.1 c).1
    have hb := lf_bd hw hN (s := i) (by omega)
    have hv := hw.2.1.2.1 c
    have hm := bound_n (n := i) (m := 100000) (by omega) (by decide)
    have hs : ((i + 1 : Nat) : Int) * 100000 = (i : Int) * 100000 + 100000 := by
      push_cast
      omega
    have e1 : watF v (i + 1) c = if lfl v i = nI 0 then watF v i c else if c = i / 2 then watF v i c - lfl v i else if c = far (nW v) i then watF v i c + lfl v i else watF v i c := rfl
    have e2 : TZ v (i + 1) c = if lfl v i = nI 0 then TZ v i c else if c = srcF v (lfl v i) i then TZ v i c + az (lfl v i) else TZ v i c := rfl
    rw [e1, e2, hs]
    by_cases q : lfl v i = nI 0
    · rw [if_pos q, if_pos q]
      omega
    · rw [if_neg q, if_neg q]
      have hsub : (watF v i c - lfl v i).toInt = (watF v i c).toInt - (lfl v i).toInt := z_sub (by omega) (by omega)
      have hadd : (watF v i c + lfl v i).toInt = (watF v i c).toInt + (lfl v i).toInt := z_add (by omega) (by omega)
      have h0 : (nI 0).toInt = 0 := nI_toInt (by decide)
      unfold srcF az
      by_cases c1 : lfl v i ≤ nI 0
      · have c1' := c1
        rw [x_le, h0] at c1'
        rw [if_pos c1]
        by_cases c2 : c = i / 2
        · rw [if_pos c2, hsub]
          repeat' split
          all_goals omega
        · rw [if_neg c2]
          by_cases c3 : c = far (nW v) i
          · rw [if_pos c3, if_pos c3, hadd]
            split <;> omega
          · rw [if_neg c3, if_neg c3]
            omega
      · have c1' := c1
        rw [x_le, h0] at c1'
        rw [if_neg c1]
        by_cases c2 : c = i / 2
        · rw [if_pos c2, if_pos c2, hsub]
          split <;> omega
        · rw [if_neg c2, if_neg c2]
          by_cases c3 : c = far (nW v) i
          · rw [if_pos c3, hadd]
            omega
          · rw [if_neg c3]
            omega
theorem wat_nn {n : Nat} {v : qB} (hw : WF n v) (hN : nN v ≤ 48) (c : Nat) : 0 ≤ (watF v (2 * nN v) c).toInt ∧ (watF v (2 * nN v) c).toInt ≤ 9700000 := by
  obtain ⟨h1, h2, h3, h4⟩ := wat_ge hw hN c _ (Nat.le_refl _)
  have h5 := TZ_le hw hN c
  have hv := hw.2.1.2.1 c
  have hm := bound_n (n := 2 * nN v) (m := 100000) (by omega) (by decide)
  omega
theorem riv_nn {n : Nat} {v : qB} (hw : WF n v) (hN : nN v ≤ 48) (c : Nat) : ∀ k, k ≤ rcN v → k ≤ 4 → 0 ≤ (rivF v k c).toInt ∧ (rivF v k c).toInt ≤ 9700000 + (k : Int) * 1000
  | 0, _, _ => by
    have := wat_nn hw hN c
    show 0 ≤ (watF v (2 * nN v) c).toInt ∧ (watF v (2 * nN v) c).toInt ≤ 9700000 + ((0 : Nat) : Int) * 1000
    omega
  | k + 1, h1, h2 => by
    obtain ⟨h3, h4⟩ := riv_nn hw hN c k (by omega) (by omega)
    have h5 := hw.2.1.2.2.2.2 k h1
    have e : rivF v (k + 1) c = if c = (v 7 k).toNatClampNeg then rivF v k c + v 8 k else rivF v k c := rfl
    rw [e]
    have hs : ((k + 1 : Nat) : Int) * 1000 = (k : Int) * 1000 + 1000 := by
      push_cast
      omega
    rw [hs]
    split
    · rw [z_add (by omega) (by omega)]
      omega
    · omega
theorem led_bd (x b : Int32) : 0 ≤ (led x b).toInt ∧ (led x b).toInt ≤ 100000 := by
  have h0 : (nI 0).toInt = 0 := nI_toInt (by decide)
  unfold led
  by_cases h1 : x - b < 100000
  · rw [if_pos h1]
    have h1' := h1
    rw [x_lt, x100] at h1'
    by_cases h2 : nI 0 < x - b
    · rw [if_pos h2]
      rw [x_lt, h0] at h2
      omega
    · rw [if_neg h2, h0]
      omega
  · rw [if_neg h1]
    have h2 : nI 0 < (100000 : Int32) := by decide +kernel
    rw [if_pos h2, x100]
    omega


