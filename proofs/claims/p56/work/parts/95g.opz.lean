theorem z_add {x y : Int32} (h1 : -2147483648 ≤ x.toInt + y.toInt) (h2 : x.toInt + y.toInt < 2147483648) : (x + y).toInt = x.toInt + y.toInt := by
  rw [Int32.toInt_add, bm32 h1 h2]
theorem z_sub {x y : Int32} (h1 : -2147483648 ≤ x.toInt - y.toInt) (h2 : x.toInt - y.toInt < 2147483648) : (x - y).toInt = x.toInt - y.toInt := by
  rw [Int32.toInt_sub, bm32 h1 h2]
theorem z_mul {x y : Int32} (h1 : -2147483648 ≤ x.toInt * y.toInt) (h2 : x.toInt * y.toInt < 2147483648) : (x * y).toInt = x.toInt * y.toInt := by
  rw [Int32.toInt_mul, bm32 h1 h2]
theorem tdiv_abs {a b : Int} (hb : 1 ≤ b) {m : Int} (h1 : -m ≤ a) (h2 : a ≤ m) : -m ≤ a.tdiv b ∧ a.tdiv b ≤ m := by
  have h : (a.tdiv b).natAbs ≤ a.natAbs := by
    rw [Int.natAbs_tdiv]
    exact Nat.div_le_self _ _
  omega
theorem z_div {x : Int32} {d : Nat} (hd : 1 ≤ d) (hd2 : d < 2 ^ 31) {m : Int} (hm : m < 2147483648) (h1 : -m ≤ x.toInt) (h2 : x.toInt ≤ m) : (x / nI d).toInt = x.toInt.tdiv d ∧ -m ≤ (x / nI d).toInt ∧ (x / nI d).toInt ≤ m := by
  have h3 := tdiv_abs (b := (d : Int)) (by omega) h1 h2
  have e : (x / nI d).toInt = x.toInt.tdiv d := by
    rw [Int32.toInt_div, nI_toInt hd2, bm32 (by omega) (by omega)]
  rw [e]
  exact ⟨rfl, h3⟩
def az (x : Int32) : Int := if 0 ≤ x.toInt then x.toInt else -x.toInt
theorem az_ab {x : Int32} {m : Int} (hm : m < 2147483648) (h1 : -m ≤ x.toInt) (h2 : x.toInt ≤ m) : (ab x).toInt = az x := by
  unfold ab az
  have h0 : (nI 0).toInt = 0 := nI_toInt (by decide)
  by_cases h : nI 0 ≤ x
  · have h' := h
    rw [x_le, h0] at h'
    rw [if_pos h, if_pos h']
  · have h' := h
    rw [x_le, h0] at h'
    rw [if_neg h, if_neg h', z_sub (by omega) (by omega), h0]
    omega
theorem pf_bd {n : Nat} {v : qB} (hw : WF n v) (s : Nat) : -202050 ≤ (pfl v s).toInt ∧ (pfl v s).toInt ≤ 202050 := by
  have h0 : (nI 0).toInt = 0 := nI_toInt (by decide)
  obtain ⟨⟨k, wd, hg, st, p, d, rc, pc, a0, a1, a2, a3, a4, a5, a6, a7, a8, a9, b0, b1, b2, b3, b4, b5, b6, b7, b8, b9, c0, c1, c2⟩, ⟨w1, w2, w4, w5, w8⟩, -⟩ := hw
  have hl : ∀ c, -1000 ≤ (lev v c).toInt ∧ (lev v c).toInt ≤ 101000 := by
    intro c
    have q1 := w1 c
    have q2 := w2 c
    unfold lev
    rw [z_add (by omega) (by omega)]
    omega
  have hwn : -50 ≤ (wnd v s).toInt ∧ (wnd v s).toInt ≤ 50 := by
    unfold wnd
    split
    · rw [h0]; omega
    · split
      · exact c2
      · exact c1
  have q1 := hl (s / 2)
  have q2 := hl (far (nW v) s)
  have q3 : (lev v (s / 2) - lev v (far (nW v) s)).toInt = (lev v (s / 2)).toInt - (lev v (far (nW v) s)).toInt := z_sub (by omega) (by omega)
  have hp : (nI p).toInt = (p : Int) := nI_toInt (by omega)
  have q4 : -816000 ≤ (p : Int) * ((lev v (s / 2)).toInt - (lev v (far (nW v) s)).toInt) ∧ (p : Int) * ((lev v (s / 2)).toInt - (lev v (far (nW v) s)).toInt) ≤ 816000 := by
    have e1 : (p : Int) * ((lev v (s / 2)).toInt - (lev v (far (nW v) s)).toInt) ≤ (p : Int) * 102000 := Int.mul_le_mul_of_nonneg_left (by omega) (by omega)
    have e2 : (p : Int) * (-102000) ≤ (p : Int) * ((lev v (s / 2)).toInt - (lev v (far (nW v) s)).toInt) := Int.mul_le_mul_of_nonneg_left (by omega) (by omega)
    omega
  have q5 : (v 0 8 * (lev v (s / 2) - lev v (far (nW v) s))).toInt = (p : Int) * ((lev v (s / 2)).toInt - (lev v (far (nW v) s)).toInt) := by
    rw [b0, z_mul (by rw [hp, q3]; omega) (by rw [hp, q3]; omega), hp, q3]
  have q6 : -102000 ≤ (v 0 8 * (lev v (s / 2) - lev v (far (nW v) s)) / nI 8).toInt ∧ (v 0 8 * (lev v (s / 2) - lev v (far (nW v) s)) / nI 8).toInt ≤ 102000 := by
    have e := (z_div (x := v 0 8 * (lev v (s / 2) - lev v (far (nW v) s))) (d := 8) (by decide) (by decide) (m := 816000) (by decide) (by omega) (by omega)).1
    rw [e]
    have e2 : ((v 0 8 * (lev v (s / 2) - lev v (far (nW v) s))).toInt.tdiv 8).natAbs ≤ 102000 := by
      rw [Int.natAbs_tdiv]
      have : (v 0 8 * (lev v (s / 2) - lev v (far (nW v) s))).toInt.natAbs ≤ 816000 := by omega
      exact Nat.le_trans (Nat.div_le_div_right this) (by decide)
    have e3 : (((8 : Nat) : Int)) = 8 := rfl
    rw [e3]
    omega
  have q7 := w4 s
  have q8 : -202050 ≤ (pf0 v s).toInt ∧ (pf0 v s).toInt ≤ 202050 := by
    unfold pf0
    have e1 := z_add (x := v 4 s) (y := v 0 8 * (lev v (s / 2) - lev v (far (nW v) s)) / nI 8) (by omega) (by omega)
    rw [z_add (by rw [e1]; omega) (by rw [e1]; omega), e1]
    omega
  have q9 : -202050 ≤ (pf1 v s).toInt ∧ (pf1 v s).toInt ≤ 202050 := by
    unfold pf1
    rw [b3]
    obtain ⟨e1, e2, e3⟩ := z_div (x := pf0 v s) (d := d) (by omega) (by omega) (m := 202050) (by decide) q8.1 q8.2
    have e4 : 0 ≤ (pf0 v s).toInt → 0 ≤ (pf0 v s / nI d).toInt ∧ (pf0 v s / nI d).toInt ≤ (pf0 v s).toInt := by
      intro z
      rw [e1]
      refine ⟨Int.tdiv_nonneg z (by omega), ?_⟩
      have := (tdiv_abs (a := (pf0 v s).toInt) (b := (d : Int)) (by omega) (m := (pf0 v s).toInt) (by omega) (by omega)).2
      exact this
    have e5 : (pf0 v s).toInt ≤ 0 → (pf0 v s).toInt ≤ (pf0 v s / nI d).toInt ∧ (pf0 v s / nI d).toInt ≤ 0 := by
      intro z
      rw [e1]
      have e6 : (pf0 v s).toInt.tdiv d = -((-(pf0 v s).toInt).tdiv d) := by rw [← Int.neg_tdiv, Int.neg_neg]
      have e7 := Int.tdiv_nonneg (a := -(pf0 v s).toInt) (b := (d : Int)) (by omega) (by omega)
      have e8 := (tdiv_abs (a := -(pf0 v s).toInt) (b := (d : Int)) (by omega) (m := -(pf0 v s).toInt) (by omega) (by omega)).2
      omega
    rw [z_sub (by omega) (by omega)]
    omega
  unfold pfl pfv
  repeat' split
  all_goals first | exact q9 | (rw [h0]; omega)
theorem bound_n {n : Nat} {m : Int} (hn : n ≤ 96) (hm : 0 ≤ m) : (n : Int) * m ≤ 96 * m := Int.mul_le_mul_of_nonneg_right (by omega) hm
/-- what would leave a cell, as a number -/
def OZ (v : qB) : Nat → Nat → Int
  | 0, _ => 0
  | n + 1, c => if pfl v n = nI 0 then OZ v n c else if c = srcF v (pfl v n) n then OZ v n c + az (pfl v n) else OZ v n c
theorem az_nn {x : Int32} : 0 ≤ az x := by
  unfold az
  split <;> omega
theorem az_bd {x : Int32} {m : Int} (h1 : -m ≤ x.toInt) (h2 : x.toInt ≤ m) : az x ≤ m := by
  unfold az
  split <;> omega
theorem OZ_eq {n : Nat} {v : qB} (hw : WF n v) : ∀ i c, i ≤ 96 → (outF v i c).toInt = OZ v i c ∧ 0 ≤ OZ v i c ∧ OZ v i c ≤ (i : Int) * 202050
  | 0, c, _ => ⟨nI_toInt (by decide), Int.le_refl _, by show (0 : Int) ≤ ((0 : Nat) : Int) * 202050; decide⟩
  | i + 1, c, hi => by
    obtain ⟨h1, h2, h3⟩ := OZ_eq hw i c (by omega)
    have hb := pf_bd hw i
    have ha := az_ab (x := pfl v i) (m := 202050) (by decide) hb.1 hb.2
    have hz := az_bd (x := pfl v i) (m := 202050) hb.1 hb.2
    have hn := az_nn (x := pfl v i)
    have hm := bound_n (n := i) (m := 202050) (by omega) (by decide)
    have hs : ((i + 1 : Nat) : Int) * 202050 = (i : Int) * 202050 + 202050 := by
      push_cast
      omega
    have e : outF v (i + 1) c = if pfl v i = nI 0 then outF v i c else if c = srcF v (pfl v i) i then outF v i c + ab (pfl v i) else outF v i c := rfl
    have e2 : OZ v (i + 1) c = if pfl v i = nI 0 then OZ v i c else if c = srcF v (pfl v i) i then OZ v i c + az (pfl v i) else OZ v i c := rfl
    rw [e, e2, hs]
    by_cases q : pfl v i = nI 0
    · rw [if_pos q, if_pos q]
      exact ⟨h1, h2, by omega⟩
    · rw [if_neg q, if_neg q]
      by_cases q2 : c = srcF v (pfl v i) i
      · rw [if_pos q2, if_pos q2, z_add (by rw [h1, ha]; omega) (by rw [h1, ha]; omega), h1, ha]
        exact ⟨rfl, by omega, by omega⟩
      · rw [if_neg q2, if_neg q2]
        exact ⟨h1, h2, by omega⟩
theorem OZ_mem {v : qB} {s : Nat} (hp : ¬ pfl v s = nI 0) : ∀ i, s < i → az (pfl v s) ≤ OZ v i (srcF v (pfl v s) s) := by
  intro i
  have nn : ∀ i c, 0 ≤ OZ v i c := by
    intro i c
    induction i with
    | zero => exact Int.le_refl _
    | succ i ih =>
      show 0 ≤ (if pfl v i = nI 0 then OZ v i c else if c = srcF v (pfl v i) i then OZ v i c + az (pfl v i) else OZ v i c)
      have := az_nn (x := pfl v i)
      repeat' split
      all_goals omega
  induction i with
  | zero => intro h; exact absurd h (Nat.not_lt_zero _)
  | succ i ih =>
    intro h
    show _ ≤ (if pfl v i = nI 0 then OZ v i _ else if srcF v (pfl v s) s = srcF v (pfl v i) i then OZ v i _ + az (pfl v i) else OZ v i _)
    by_cases q : s = i
    · subst q
      rw [if_neg hp, if_pos rfl]
      have := nn s (srcF v (pfl v s) s)
      omega
    · have h1 := ih (by omega)
      have := az_nn (x := pfl v i)
      repeat' split
      all_goals omega


