def far (w s : Nat) : Nat := if s % 2 = 1 then s / 2 + w else s / 2 + 1
def sd (w N s : Nat) : Bool := decide (s < 2 * N) && (if s % 2 = 1 then decide (s / 2 + w < N) else decide (s / 2 % w + 1 < w))
theorem sd_lt {w N s : Nat} (h : sd w N s = true) : s < 2 * N := by
  unfold sd at h
  rw [Bool.and_eq_true] at h
  exact of_decide_eq_true h.1
theorem sd_far {w hh s : Nat} (hw : 0 < w) (h : sd w (w * hh) s = true) : far w s < w * hh ∧ far w s ≠ s / 2 := by
  have h1 := sd_lt h
  unfold sd at h
  rw [Bool.and_eq_true] at h
  have h2 := h.2
  unfold far
  by_cases q : s % 2 = 1
  · rw [if_pos q] at h2
    rw [if_pos q]
    have := of_decide_eq_true h2
    omega
  · rw [if_neg q] at h2
    rw [if_neg q]
    have h3 := of_decide_eq_true h2
    refine ⟨?_, by omega⟩
    have h4 : s / 2 < w * hh := by omega
    have h5 := Nat.div_add_mod (s / 2) w
    have h6 : s / 2 / w < hh := by
      rw [Nat.div_lt_iff_lt_mul hw, Nat.mul_comm]
      exact h4
    have h7 : w * (s / 2 / w) + w ≤ w * hh := by
      have := Nat.mul_le_mul_left w h6
      rw [Nat.mul_succ] at this
      exact this
    omega
def wnd (v : qB) (s : Nat) : Int32 := if v 0 0 = nI 3 then nI 0 else if s % 2 = 1 then v 0 11 else v 0 10
def lev (v : qB) (c : Nat) : Int32 := v 1 c + v 2 c
/-- the flow of a side as it is pushed, ahead of what lies in the way -/
def pf0 (v : qB) (s : Nat) : Int32 := v 4 s + v 0 8 * (lev v (s / 2) - lev v (far (nW v) s)) / nI 8 + wnd v s
def pf1 (v : qB) (s : Nat) : Int32 := pf0 v s - pf0 v s / v 0 9
def pfv (v : qB) (s : Nat) : Int32 :=
  if pf1 v s ≤ nI 0 then (if v 2 (far (nW v) s) = nI 0 then nI 0 else if v 1 (s / 2) < lev v (far (nW v) s) then pf1 v s else nI 0)
  else (if v 2 (s / 2) = nI 0 then nI 0 else if v 1 (far (nW v) s) < lev v (s / 2) then pf1 v s else nI 0)
/-- a side's flow: none where there is no side, or a shut one -/
def pfl (v : qB) (s : Nat) : Int32 := if sd (nW v) (nN v) s = true ∧ v 5 s = nI 0 then pfv v s else nI 0
def ab (x : Int32) : Int32 := if nI 0 ≤ x then x else nI 0 - x
def srcF (v : qB) (f : Int32) (s : Nat) : Nat := if f ≤ nI 0 then far (nW v) s else s / 2
/-- what would leave a cell by the first n sides -/
def outF (v : qB) : Nat → Nat → Int32
  | 0, _ => nI 0
  | n + 1, c => if pfl v n = nI 0 then outF v n c else if c = srcF v (pfl v n) n then outF v n c + ab (pfl v n) else outF v n c
def shr (x y z : Int32) : Int32 := Int64.toInt32 (Int32.toInt64 x * Int32.toInt64 y / Int32.toInt64 z)
/-- a side's flow, limited -/
def lfl (v : qB) (s : Nat) : Int32 := if pfl v s = nI 0 then nI 0 else if outF v (2 * nN v) (srcF v (pfl v s) s) ≤ v 2 (srcF v (pfl v s) s) then pfl v s else shr (pfl v s) (v 2 (srcF v (pfl v s) s)) (outF v (2 * nN v) (srcF v (pfl v s) s))
def watF (v : qB) : Nat → Nat → Int32
  | 0, c => v 2 c
  | n + 1, c => if lfl v n = nI 0 then watF v n c else if c = n / 2 then watF v n c - lfl v n else if c = far (nW v) n then watF v n c + lfl v n else watF v n c
def dstF (v : qB) (f : Int32) (s : Nat) : Nat := if f ≤ nI 0 then s / 2 else far (nW v) s
def stuF (v : qB) (k : Nat) : Nat → Nat → Int32
  | 0, c => v 3 (k * 48 + c)
  | n + 1, c => if lfl v n = nI 0 then stuF v k n c else if c = srcF v (lfl v n) n then stuF v k n c - shr (v 3 (k * 48 + c)) (ab (lfl v n)) (v 2 c) else if c = dstF v (lfl v n) n then stuF v k n c + shr (v 3 (k * 48 + srcF v (lfl v n) n)) (ab (lfl v n)) (v 2 (srcF v (lfl v n) n)) else stuF v k n c
def rivF (v : qB) : Nat → Nat → Int32
  | 0, c => watF v (2 * nN v) c
  | k + 1, c => if c = (v 7 k).toNatClampNeg then rivF v k c + v 8 k else rivF v k c
def rainF (v : qB) : Nat → Int32
  | 0 => nI 0
  | k + 1 => rainF v k + v 8 k
def rcN (v : qB) : Nat := (v 0 12).toNatClampNeg
/-- too much water somewhere -/
def tmF (v : qB) : Bool := (List.range (nN v)).any (fun c => !decide (rivF v (rcN v) c ≤ 100000))

theorem tmF_t {v : qB} {c : Nat} (hc : c < nN v) (h : ¬ rivF v (rcN v) c ≤ 100000) : tmF v = true := List.any_eq_true.mpr ⟨c, List.mem_range.mpr hc, by simp only [h, decide_false, Bool.not_false]⟩
theorem tmF_f {v : qB} (h : ∀ c, c < nN v → rivF v (rcN v) c ≤ 100000) : tmF v = false := by
  refine nf (fun q => ?_)
  obtain ⟨c, h1, h2⟩ := List.any_eq_true.mp q
  have h3 := h c (List.mem_range.mp h1)
  simp only [h3, decide_true, Bool.not_true, Bool.false_eq_true] at h2
/-- a board's table before the rim is led -/
def st0 (v : qB) : qB := fun t s => match t with
  | 0 => if s = 4 then v 0 4 + rainF v (rcN v) else v 0 s
  | 2 => if s < nN v then rivF v (rcN v) s else v 2 s
  | 3 => if s % 48 < nN v ∧ s < 144 then stuF v (s / 48) (2 * nN v) (s % 48) else v 3 s
  | 4 => if s < 2 * nN v then lfl v s else v 4 s
  | t => v t s
def led (x b : Int32) : Int32 := if nI 0 < (if x - b < 100000 then x - b else 100000) then (if x - b < 100000 then x - b else 100000) else nI 0
/-- the rim led to a level, row by row -/
def rimF (x : Int32) (v : qB) : Nat → qB
  | 0 => v
  | y + 1 => bset (bset (rimF x v y) 0 5 (rimF x v y 0 5 + (led x (v 1 (y * nW v)) - rimF x v y 2 (y * nW v)))) 2 (y * nW v) (led x (v 1 (y * nW v)))
def nxt (t : Option Int32) (v : qB) : qB := match t with
  | none => bset (st0 v) 0 3 (v 0 3 + nI 1)
  | some x => bset (rimF x (st0 v) (nH v)) 0 3 (v 0 3 + nI 1)

theorem rv_1 {μ : qM} {b : Nat} : ∀ s, s < 48 → μ.1 37 b s = cB μ b 1 s := fun s h => (cR_1 h).symm
theorem rv_2 {μ : qM} {b : Nat} : ∀ s, s < 48 → μ.1 38 b s = cB μ b 2 s := fun s h => (cR_2 h).symm
theorem rv_3 {μ : qM} {b : Nat} : ∀ s, s < 144 → μ.1 39 b s = cB μ b 3 s := fun s h => (cR_3 h).symm
theorem rv_4 {μ : qM} {b : Nat} : ∀ s, s < 96 → μ.1 40 b s = cB μ b 4 s := fun s h => (cR_4 h).symm
theorem rv_5 {μ : qM} {b : Nat} : ∀ s, s < 96 → μ.1 41 b s = cB μ b 5 s := fun s h => (cR_5 h).symm
/-- the numbers of a board that a step reads, in the class's cells -/
def SN (v : qB) (u : qM) (o : Nat) : Prop := u.1 2 o 11 = v 0 0 ∧ u.1 2 o 12 = v 0 1 ∧ u.1 2 o 13 = v 0 2 ∧ u.1 3 o 0 = v 0 8 ∧ u.1 3 o 1 = v 0 9 ∧ u.1 3 o 2 = v 0 10 ∧ u.1 3 o 3 = v 0 11 ∧ (∀ c, c < 48 → u.1 37 o c = v 1 c) ∧ (∀ c, c < 48 → u.1 38 o c = v 2 c) ∧ (∀ c, c < 96 → u.1 40 o c = v 4 c) ∧ (∀ c, c < 96 → u.1 41 o c = v 5 c)
/-- the sizes of a board -/
def DW (v : qB) (w h : Nat) : Prop := v 0 1 = nI w ∧ v 0 2 = nI h ∧ 2 ≤ w ∧ w ≤ 8 ∧ 1 ≤ h ∧ h ≤ 6 ∧ nW v = w ∧ nH v = h ∧ nN v = w * h ∧ w * h ≤ 48
theorem GD.dw {v : qB} (h : GD v) : ∃ w h, DW v w h := by
  obtain ⟨w, hh, e1, e2, h1, h2, h3, h4⟩ := h
  obtain ⟨g1, g2, g3⟩ := GD.nn e1 e2 h2 h4
  exact ⟨w, hh, e1, e2, h1, h2, h3, h4, g2, g3, g1, Nat.mul_le_mul h2 h4⟩
theorem SN.mk {u : qM} {o : Nat} : SN (cB u o) u o := ⟨rfl, rfl, rfl, rfl, rfl, rfl, rfl, rv_1, rv_2, rv_4, rv_5⟩
theorem SN.fr {v : qB} {u u' : qM} {o : Nat} (h : SN v u o) (e : ∀ k, k < 47 → u'.1 k o = u.1 k o) : SN v u' o := by
  unfold SN
  rw [e 2 (by decide), e 3 (by decide), e 37 (by decide), e 38 (by decide), e 40 (by decide), e 41 (by decide)]
  exact h
theorem ev_farCell {v : qB} {o s w h : Nat} {u : qM} {P : Int32 → qM → Prop} (hd : DW v w h) (hs : s < 96) (hn : SN v u o) (K : P (nI (far w s)) u) : Ev (f_X0_farCell o (nI s) u) P := by
  obtain ⟨d1, d2, d3, d4, d5, d6, d7, d8, d9, d10⟩ := hd
  have e2 : u.1 2 o 12 = nI w := hn.2.1.trans d1
  unfold far at K
  rcases (show s % 2 = 1 ∨ s % 2 = 0 by omega) with q | q
  · rw [if_pos q] at K
    simp (disch := first | omega | decide) only [Nat.reduceAdd, Nat.reduceMul, ↓ev_bd, ↓ev_ck, ↓ev_if, ↓ev_lt, ↓ev_jn, ↓ev_so, ↓reduceIte, ↓ev_within, ↓ev_isBoard, ↓ev_isNumber, ↓ev_foundN, ↓ev_found_1, ↓ev_found_2, ↓ev_found_3, ↓ev_found_4, ↓ev_found_5, true_and, and_true, and_self, eq_self, not_true_eq_false, not_false_eq_true, ite_true, ite_false, true_or, or_true, false_or, or_false, false_and, and_false, ← zi_ni_0, ← zi_ni_1, ← zi_ni_2, ← zi_ni_3, ← zi_ni_4, ← zi_ni_5, ← zi_ni_6, ← zi_ni_7, ← zi_ni_8, ← zi_ni_9, ← zi_ni_10, ← zi_ni_12, ← zi_ni_24, ← zi_ni_25, ← zi_ni_40, ← zi_ni_45, ← zi_ni_47, ← zi_ni_48, ← zi_ni_95, ← zi_ni_96, ← zi_ni_97, ← zi_ni_100, ← zi_ni_144, ← zi_ni_288, nI_ltI, nI_leI, nI_eqI, nlt_T, nlt_F, nle_T, nle_F, neq_T, neq_F, nI_add, pk_mul, nI_clamp, q_inT, ng_lt, ng_tl, ng_le, ng_el, ng_eq, ng_qe, q_b0, q_b1, nar_0, nar_1, b01, b01', q_bn0, q_bn1, nar_n0, nar_n1, si_k, si_i, si_s, si_e, si_2, sl_1, sl_22, sl_k, sl_i, sl_s, sl_e, sp_1, sp_21, sp_22, sc_k, sc_i, sc_e, sc_2, mF_k, mF_2, mF_0, ↓eu_X0_farCell, e2, pk_div, pk_rem', n_rem]
    exact K
  · rw [if_neg (by omega)] at K
    simp (disch := first | omega | decide) only [Nat.reduceAdd, Nat.reduceMul, ↓ev_bd, ↓ev_ck, ↓ev_if, ↓ev_lt, ↓ev_jn, ↓ev_so, ↓reduceIte, ↓ev_within, ↓ev_isBoard, ↓ev_isNumber, ↓ev_foundN, ↓ev_found_1, ↓ev_found_2, ↓ev_found_3, ↓ev_found_4, ↓ev_found_5, true_and, and_true, and_self, eq_self, not_true_eq_false, not_false_eq_true, ite_true, ite_false, true_or, or_true, false_or, or_false, false_and, and_false, ← zi_ni_0, ← zi_ni_1, ← zi_ni_2, ← zi_ni_3, ← zi_ni_4, ← zi_ni_5, ← zi_ni_6, ← zi_ni_7, ← zi_ni_8, ← zi_ni_9, ← zi_ni_10, ← zi_ni_12, ← zi_ni_24, ← zi_ni_25, ← zi_ni_40, ← zi_ni_45, ← zi_ni_47, ← zi_ni_48, ← zi_ni_95, ← zi_ni_96, ← zi_ni_97, ← zi_ni_100, ← zi_ni_144, ← zi_ni_288, nI_ltI, nI_leI, nI_eqI, nlt_T, nlt_F, nle_T, nle_F, neq_T, neq_F, nI_add, pk_mul, nI_clamp, q_inT, ng_lt, ng_tl, ng_le, ng_el, ng_eq, ng_qe, q_b0, q_b1, nar_0, nar_1, b01, b01', q_bn0, q_bn1, nar_n0, nar_n1, si_k, si_i, si_s, si_e, si_2, sl_1, sl_22, sl_k, sl_i, sl_s, sl_e, sp_1, sp_21, sp_22, sc_k, sc_i, sc_e, sc_2, mF_k, mF_2, mF_0, ↓eu_X0_farCell, e2, pk_div, pk_rem', n_rem]
    exact K
theorem ev_hasSide {v : qB} {o s w h : Nat} {u : qM} {P : Int32 → qM → Prop} (hd : DW v w h) (hs : s < 96) (hn : SN v u o) (K1 : sd w (w * h) s = true → P 1 u) (K0 : sd w (w * h) s = false → P 0 u) : Ev (f_X0_hasSide o (nI s) u) P := by
  obtain ⟨d1, d2, d3, d4, d5, d6, d7, d8, d9, d10⟩ := hd
  have e2 : u.1 2 o 12 = nI w := hn.2.1.trans d1
  have e3 : u.1 2 o 13 = nI h := hn.2.2.1.trans d2
  have h2w : 2 * w * h = 2 * (w * h) := Nat.mul_assoc _ _ _
  have hm : s / 2 % w < w := Nat.mod_lt _ (by omega)
  unfold sd at K1 K0
  by_cases hx : s < 2 * (w * h)
  · rw [decide_eq_true hx, Bool.true_and] at K1 K0
    rcases (show s % 2 = 1 ∨ s % 2 = 0 by omega) with q | q
    · rw [if_pos q] at K1 K0
      by_cases hy : s / 2 + w < w * h
      · simp (disch := first | omega | decide) only [Nat.reduceAdd, Nat.reduceMul, ↓ev_bd, ↓ev_ck, ↓ev_if, ↓ev_lt, ↓ev_jn, ↓ev_so, ↓reduceIte, ↓ev_within, ↓ev_isBoard, ↓ev_isNumber, ↓ev_foundN, ↓ev_found_1, ↓ev_found_2, ↓ev_found_3, ↓ev_found_4, ↓ev_found_5, true_and, and_true, and_self, eq_self, not_true_eq_false, not_false_eq_true, ite_true, ite_false, true_or, or_true, false_or, or_false, false_and, and_false, ← zi_ni_0, ← zi_ni_1, ← zi_ni_2, ← zi_ni_3, ← zi_ni_4, ← zi_ni_5, ← zi_ni_6, ← zi_ni_7, ← zi_ni_8, ← zi_ni_9, ← zi_ni_10, ← zi_ni_12, ← zi_ni_24, ← zi_ni_25, ← zi_ni_40, ← zi_ni_45, ← zi_ni_47, ← zi_ni_48, ← zi_ni_95, ← zi_ni_96, ← zi_ni_97, ← zi_ni_100, ← zi_ni_144, ← zi_ni_288, nI_ltI, nI_leI, nI_eqI, nlt_T, nlt_F, nle_T, nle_F, neq_T, neq_F, nI_add, pk_mul, nI_clamp, q_inT, ng_lt, ng_tl, ng_le, ng_el, ng_eq, ng_qe, q_b0, q_b1, nar_0, nar_1, b01, b01', q_bn0, q_bn1, nar_n0, nar_n1, si_k, si_i, si_s, si_e, si_2, sl_1, sl_22, sl_k, sl_i, sl_s, sl_e, sp_1, sp_21, sp_22, sc_k, sc_i, sc_e, sc_2, mF_k, mF_2, mF_0, ↓eu_X0_hasSide, e2, e3, pk_sub, pk_div, pk_rem', n_rem, q_nzI]
        exact K1 (decide_eq_true hy)
      · simp (disch := first | omega | decide) only [Nat.reduceAdd, Nat.reduceMul, ↓ev_bd, ↓ev_ck, ↓ev_if, ↓ev_lt, ↓ev_jn, ↓ev_so, ↓reduceIte, ↓ev_within, ↓ev_isBoard, ↓ev_isNumber, ↓ev_foundN, ↓ev_found_1, ↓ev_found_2, ↓ev_found_3, ↓ev_found_4, ↓ev_found_5, true_and, and_true, and_self, eq_self, not_true_eq_false, not_false_eq_true, ite_true, ite_false, true_or, or_true, false_or, or_false, false_and, and_false, ← zi_ni_0, ← zi_ni_1, ← zi_ni_2, ← zi_ni_3, ← zi_ni_4, ← zi_ni_5, ← zi_ni_6, ← zi_ni_7, ← zi_ni_8, ← zi_ni_9, ← zi_ni_10, ← zi_ni_12, ← zi_ni_24, ← zi_ni_25, ← zi_ni_40, ← zi_ni_45, ← zi_ni_47, ← zi_ni_48, ← zi_ni_95, ← zi_ni_96, ← zi_ni_97, ← zi_ni_100, ← zi_ni_144, ← zi_ni_288, nI_ltI, nI_leI, nI_eqI, nlt_T, nlt_F, nle_T, nle_F, neq_T, neq_F, nI_add, pk_mul, nI_clamp, q_inT, ng_lt, ng_tl, ng_le, ng_el, ng_eq, ng_qe, q_b0, q_b1, nar_0, nar_1, b01, b01', q_bn0, q_bn1, nar_n0, nar_n1, si_k, si_i, si_s, si_e, si_2, sl_1, sl_22, sl_k, sl_i, sl_s, sl_e, sp_1, sp_21, sp_22, sc_k, sc_i, sc_e, sc_2, mF_k, mF_2, mF_0, ↓eu_X0_hasSide, e2, e3, pk_sub, pk_div, pk_rem', n_rem, q_nzI]
        exact K0 (decide_eq_false hy)
    · rw [if_neg (by omega)] at K1 K0
      by_cases hy : s / 2 % w + 1 < w
      · simp (disch := first | omega | decide) only [Nat.reduceAdd, Nat.reduceMul, ↓ev_bd, ↓ev_ck, ↓ev_if, ↓ev_lt, ↓ev_jn, ↓ev_so, ↓reduceIte, ↓ev_within, ↓ev_isBoard, ↓ev_isNumber, ↓ev_foundN, ↓ev_found_1, ↓ev_found_2, ↓ev_found_3, ↓ev_found_4, ↓ev_found_5, true_and, and_true, and_self, eq_self, not_true_eq_false, not_false_eq_true, ite_true, ite_false, true_or, or_true, false_or, or_false, false_and, and_false, ← zi_ni_0, ← zi_ni_1, ← zi_ni_2, ← zi_ni_3, ← zi_ni_4, ← zi_ni_5, ← zi_ni_6, ← zi_ni_7, ← zi_ni_8, ← zi_ni_9, ← zi_ni_10, ← zi_ni_12, ← zi_ni_24, ← zi_ni_25, ← zi_ni_40, ← zi_ni_45, ← zi_ni_47, ← zi_ni_48, ← zi_ni_95, ← zi_ni_96, ← zi_ni_97, ← zi_ni_100, ← zi_ni_144, ← zi_ni_288, nI_ltI, nI_leI, nI_eqI, nlt_T, nlt_F, nle_T, nle_F, neq_T, neq_F, nI_add, pk_mul, nI_clamp, q_inT, ng_lt, ng_tl, ng_le, ng_el, ng_eq, ng_qe, q_b0, q_b1, nar_0, nar_1, b01, b01', q_bn0, q_bn1, nar_n0, nar_n1, si_k, si_i, si_s, si_e, si_2, sl_1, sl_22, sl_k, sl_i, sl_s, sl_e, sp_1, sp_21, sp_22, sc_k, sc_i, sc_e, sc_2, mF_k, mF_2, mF_0, ↓eu_X0_hasSide, e2, e3, pk_sub, pk_div, pk_rem', n_rem, q_nzI]
        exact K1 (decide_eq_true hy)
      · simp (disch := first | omega | decide) only [Nat.reduceAdd, Nat.reduceMul, ↓ev_bd, ↓ev_ck, ↓ev_if, ↓ev_lt, ↓ev_jn, ↓ev_so, ↓reduceIte, ↓ev_within, ↓ev_isBoard, ↓ev_isNumber, ↓ev_foundN, ↓ev_found_1, ↓ev_found_2, ↓ev_found_3, ↓ev_found_4, ↓ev_found_5, true_and, and_true, and_self, eq_self, not_true_eq_false, not_false_eq_true, ite_true, ite_false, true_or, or_true, false_or, or_false, false_and, and_false, ← zi_ni_0, ← zi_ni_1, ← zi_ni_2, ← zi_ni_3, ← zi_ni_4, ← zi_ni_5, ← zi_ni_6, ← zi_ni_7, ← zi_ni_8, ← zi_ni_9, ← zi_ni_10, ← zi_ni_12, ← zi_ni_24, ← zi_ni_25, ← zi_ni_40, ← zi_ni_45, ← zi_ni_47, ← zi_ni_48, ← zi_ni_95, ← zi_ni_96, ← zi_ni_97, ← zi_ni_100, ← zi_ni_144, ← zi_ni_288, nI_ltI, nI_leI, nI_eqI, nlt_T, nlt_F, nle_T, nle_F, neq_T, neq_F, nI_add, pk_mul, nI_clamp, q_inT, ng_lt, ng_tl, ng_le, ng_el, ng_eq, ng_qe, q_b0, q_b1, nar_0, nar_1, b01, b01', q_bn0, q_bn1, nar_n0, nar_n1, si_k, si_i, si_s, si_e, si_2, sl_1, sl_22, sl_k, sl_i, sl_s, sl_e, sp_1, sp_21, sp_22, sc_k, sc_i, sc_e, sc_2, mF_k, mF_2, mF_0, ↓eu_X0_hasSide, e2, e3, pk_sub, pk_div, pk_rem', n_rem, q_nzI]
        exact K0 (decide_eq_false hy)
  · rw [decide_eq_false hx, Bool.false_and] at K0
    simp (disch := first | omega | decide) only [Nat.reduceAdd, Nat.reduceMul, ↓ev_bd, ↓ev_ck, ↓ev_if, ↓ev_lt, ↓ev_jn, ↓ev_so, ↓reduceIte, ↓ev_within, ↓ev_isBoard, ↓ev_isNumber, ↓ev_foundN, ↓ev_found_1, ↓ev_found_2, ↓ev_found_3, ↓ev_found_4, ↓ev_found_5, true_and, and_true, and_self, eq_self, not_true_eq_false, not_false_eq_true, ite_true, ite_false, true_or, or_true, false_or, or_false, false_and, and_false, ← zi_ni_0, ← zi_ni_1, ← zi_ni_2, ← zi_ni_3, ← zi_ni_4, ← zi_ni_5, ← zi_ni_6, ← zi_ni_7, ← zi_ni_8, ← zi_ni_9, ← zi_ni_10, ← zi_ni_12, ← zi_ni_24, ← zi_ni_25, ← zi_ni_40, ← zi_ni_45, ← zi_ni_47, ← zi_ni_48, ← zi_ni_95, ← zi_ni_96, ← zi_ni_97, ← zi_ni_100, ← zi_ni_144, ← zi_ni_288, nI_ltI, nI_leI, nI_eqI, nlt_T, nlt_F, nle_T, nle_F, neq_T, neq_F, nI_add, pk_mul, nI_clamp, q_inT, ng_lt, ng_tl, ng_le, ng_el, ng_eq, ng_qe, q_b0, q_b1, nar_0, nar_1, b01, b01', q_bn0, q_bn1, nar_n0, nar_n1, si_k, si_i, si_s, si_e, si_2, sl_1, sl_22, sl_k, sl_i, sl_s, sl_e, sp_1, sp_21, sp_22, sc_k, sc_i, sc_e, sc_2, mF_k, mF_2, mF_0, ↓eu_X0_hasSide, e2, e3, pk_sub, pk_div, pk_rem', n_rem, q_nzI]
    exact K0 rfl
theorem ev_level {v : qB} {o c : Nat} {u : qM} {P : Int32 → qM → Prop} (hc : c < 48) (hn : SN v u o) (K : P (lev v c) u) : Ev (f_X0_level o (nI c) u) P := by
  have e1 := hn.2.2.2.2.2.2.2.1 c hc
  have e2 := hn.2.2.2.2.2.2.2.2.1 c hc
  simp (disch := first | omega | decide) only [Nat.reduceAdd, Nat.reduceMul, ↓ev_bd, ↓ev_ck, ↓ev_if, ↓ev_lt, ↓ev_jn, ↓ev_so, ↓reduceIte, ↓ev_within, ↓ev_isBoard, ↓ev_isNumber, ↓ev_foundN, ↓ev_found_1, ↓ev_found_2, ↓ev_found_3, ↓ev_found_4, ↓ev_found_5, true_and, and_true, and_self, eq_self, not_true_eq_false, not_false_eq_true, ite_true, ite_false, true_or, or_true, false_or, or_false, false_and, and_false, ← zi_ni_0, ← zi_ni_1, ← zi_ni_2, ← zi_ni_3, ← zi_ni_4, ← zi_ni_5, ← zi_ni_6, ← zi_ni_7, ← zi_ni_8, ← zi_ni_9, ← zi_ni_10, ← zi_ni_12, ← zi_ni_24, ← zi_ni_25, ← zi_ni_40, ← zi_ni_45, ← zi_ni_47, ← zi_ni_48, ← zi_ni_95, ← zi_ni_96, ← zi_ni_97, ← zi_ni_100, ← zi_ni_144, ← zi_ni_288, nI_ltI, nI_leI, nI_eqI, nlt_T, nlt_F, nle_T, nle_F, neq_T, neq_F, nI_add, pk_mul, nI_clamp, q_inT, ng_lt, ng_tl, ng_le, ng_el, ng_eq, ng_qe, q_b0, q_b1, nar_0, nar_1, b01, b01', q_bn0, q_bn1, nar_n0, nar_n1, si_k, si_i, si_s, si_e, si_2, sl_1, sl_22, sl_k, sl_i, sl_s, sl_e, sp_1, sp_21, sp_22, sc_k, sc_i, sc_e, sc_2, mF_k, mF_2, mF_0, ↓eu_X0_level, e1, e2]
  exact K
theorem ev_windAt {v : qB} {o s : Nat} {u : qM} {P : Int32 → qM → Prop} (hs : s < 96) (hn : SN v u o) (K : P (wnd v s) u) : Ev (f_X0_windAt o (nI s) u) P := by
  obtain ⟨a1, a2, a3, a4, a5, a6, a7, -⟩ := hn
  unfold wnd at K
  by_cases hk : v 0 0 = nI 3
  · rw [if_pos hk] at K
    simp (disch := first | omega | decide) only [Nat.reduceAdd, Nat.reduceMul, ↓ev_bd, ↓ev_ck, ↓ev_if, ↓ev_lt, ↓ev_jn, ↓ev_so, ↓reduceIte, ↓ev_within, ↓ev_isBoard, ↓ev_isNumber, ↓ev_foundN, ↓ev_found_1, ↓ev_found_2, ↓ev_found_3, ↓ev_found_4, ↓ev_found_5, true_and, and_true, and_self, eq_self, not_true_eq_false, not_false_eq_true, ite_true, ite_false, true_or, or_true, false_or, or_false, false_and, and_false, ← zi_ni_0, ← zi_ni_1, ← zi_ni_2, ← zi_ni_3, ← zi_ni_4, ← zi_ni_5, ← zi_ni_6, ← zi_ni_7, ← zi_ni_8, ← zi_ni_9, ← zi_ni_10, ← zi_ni_12, ← zi_ni_24, ← zi_ni_25, ← zi_ni_40, ← zi_ni_45, ← zi_ni_47, ← zi_ni_48, ← zi_ni_95, ← zi_ni_96, ← zi_ni_97, ← zi_ni_100, ← zi_ni_144, ← zi_ni_288, nI_ltI, nI_leI, nI_eqI, nlt_T, nlt_F, nle_T, nle_F, neq_T, neq_F, nI_add, pk_mul, nI_clamp, q_inT, ng_lt, ng_tl, ng_le, ng_el, ng_eq, ng_qe, q_b0, q_b1, nar_0, nar_1, b01, b01', q_bn0, q_bn1, nar_n0, nar_n1, si_k, si_i, si_s, si_e, si_2, sl_1, sl_22, sl_k, sl_i, sl_s, sl_e, sp_1, sp_21, sp_22, sc_k, sc_i, sc_e, sc_2, mF_k, mF_2, mF_0, ↓eu_X0_windAt, a1, a6, a7, hk, pk_div, pk_rem', n_rem]
    exact K
  · rw [if_neg hk] at K
    rcases (show s % 2 = 1 ∨ s % 2 = 0 by omega) with q | q
    · rw [if_pos q] at K
      simp (disch := first | omega | decide) only [Nat.reduceAdd, Nat.reduceMul, ↓ev_bd, ↓ev_ck, ↓ev_if, ↓ev_lt, ↓ev_jn, ↓ev_so, ↓reduceIte, ↓ev_within, ↓ev_isBoard, ↓ev_isNumber, ↓ev_foundN, ↓ev_found_1, ↓ev_found_2, ↓ev_found_3, ↓ev_found_4, ↓ev_found_5, true_and, and_true, and_self, eq_self, not_true_eq_false, not_false_eq_true, ite_true, ite_false, true_or, or_true, false_or, or_false, false_and, and_false, ← zi_ni_0, ← zi_ni_1, ← zi_ni_2, ← zi_ni_3, ← zi_ni_4, ← zi_ni_5, ← zi_ni_6, ← zi_ni_7, ← zi_ni_8, ← zi_ni_9, ← zi_ni_10, ← zi_ni_12, ← zi_ni_24, ← zi_ni_25, ← zi_ni_40, ← zi_ni_45, ← zi_ni_47, ← zi_ni_48, ← zi_ni_95, ← zi_ni_96, ← zi_ni_97, ← zi_ni_100, ← zi_ni_144, ← zi_ni_288, nI_ltI, nI_leI, nI_eqI, nlt_T, nlt_F, nle_T, nle_F, neq_T, neq_F, nI_add, pk_mul, nI_clamp, q_inT, ng_lt, ng_tl, ng_le, ng_el, ng_eq, ng_qe, q_b0, q_b1, nar_0, nar_1, b01, b01', q_bn0, q_bn1, nar_n0, nar_n1, si_k, si_i, si_s, si_e, si_2, sl_1, sl_22, sl_k, sl_i, sl_s, sl_e, sp_1, sp_21, sp_22, sc_k, sc_i, sc_e, sc_2, mF_k, mF_2, mF_0, ↓eu_X0_windAt, a1, a6, a7, hk, pk_div, pk_rem', n_rem]
      exact K
    · rw [if_neg (by omega)] at K
      simp (disch := first | omega | decide) only [Nat.reduceAdd, Nat.reduceMul, ↓ev_bd, ↓ev_ck, ↓ev_if, ↓ev_lt, ↓ev_jn, ↓ev_so, ↓reduceIte, ↓ev_within, ↓ev_isBoard, ↓ev_isNumber, ↓ev_foundN, ↓ev_found_1, ↓ev_found_2, ↓ev_found_3, ↓ev_found_4, ↓ev_found_5, true_and, and_true, and_self, eq_self, not_true_eq_false, not_false_eq_true, ite_true, ite_false, true_or, or_true, false_or, or_false, false_and, and_false, ← zi_ni_0, ← zi_ni_1, ← zi_ni_2, ← zi_ni_3, ← zi_ni_4, ← zi_ni_5, ← zi_ni_6, ← zi_ni_7, ← zi_ni_8, ← zi_ni_9, ← zi_ni_10, ← zi_ni_12, ← zi_ni_24, ← zi_ni_25, ← zi_ni_40, ← zi_ni_45, ← zi_ni_47, ← zi_ni_48, ← zi_ni_95, ← zi_ni_96, ← zi_ni_97, ← zi_ni_100, ← zi_ni_144, ← zi_ni_288, nI_ltI, nI_leI, nI_eqI, nlt_T, nlt_F, nle_T, nle_F, neq_T, neq_F, nI_add, pk_mul, nI_clamp, q_inT, ng_lt, ng_tl, ng_le, ng_el, ng_eq, ng_qe, q_b0, q_b1, nar_0, nar_1, b01, b01', q_bn0, q_bn1, nar_n0, nar_n1, si_k, si_i, si_s, si_e, si_2, sl_1, sl_22, sl_k, sl_i, sl_s, sl_e, sp_1, sp_21, sp_22, sc_k, sc_i, sc_e, sc_2, mF_k, mF_2, mF_0, ↓eu_X0_windAt, a1, a6, a7, hk, pk_div, pk_rem', n_rem]
      exact K
/-- what a step needs of a board's numbers -/
def SG (v : qB) (w h : Nat) : Prop := DW v w h ∧ ∃ d : Nat, v 0 9 = nI d ∧ 2 ≤ d ∧ d ≤ 1000
theorem ev_pushed {v : qB} {o s w h : Nat} {u : qM} {P : Int32 → qM → Prop} (hg : SG v w h) (hs : sd w (w * h) s = true) (hn : SN v u o) (K : P (pfv v s) u) : Ev (f_X8_pushed o (nI s) u) P := by
  obtain ⟨hd, d, hd1, hd2, hd3⟩ := hg
  have hdw := hd
  obtain ⟨d1, d2, d3, d4, d5, d6, d7, d8, d9, d10⟩ := hdw
  have h1 := sd_lt hs
  obtain ⟨h2, h3⟩ := sd_far (by omega) hs
  unfold pfv pf1 pf0 at K
  rw [d7, hd1] at K
  simp (disch := first | omega | decide) only [Nat.reduceAdd, Nat.reduceMul, ↓ev_bd, ↓ev_ck, ↓ev_if, ↓ev_lt, ↓ev_jn, ↓ev_so, ↓reduceIte, ↓ev_within, ↓ev_isBoard, ↓ev_isNumber, ↓ev_foundN, ↓ev_found_1, ↓ev_found_2, ↓ev_found_3, ↓ev_found_4, ↓ev_found_5, true_and, and_true, and_self, eq_self, not_true_eq_false, not_false_eq_true, ite_true, ite_false, true_or, or_true, false_or, or_false, false_and, and_false, ← zi_ni_0, ← zi_ni_1, ← zi_ni_2, ← zi_ni_3, ← zi_ni_4, ← zi_ni_5, ← zi_ni_6, ← zi_ni_7, ← zi_ni_8, ← zi_ni_9, ← zi_ni_10, ← zi_ni_12, ← zi_ni_24, ← zi_ni_25, ← zi_ni_40, ← zi_ni_45, ← zi_ni_47, ← zi_ni_48, ← zi_ni_95, ← zi_ni_96, ← zi_ni_97, ← zi_ni_100, ← zi_ni_144, ← zi_ni_288, nI_ltI, nI_leI, nI_eqI, nlt_T, nlt_F, nle_T, nle_F, neq_T, neq_F, nI_add, pk_mul, nI_clamp, q_inT, ng_lt, ng_tl, ng_le, ng_el, ng_eq, ng_qe, q_b0, q_b1, nar_0, nar_1, b01, b01', q_bn0, q_bn1, nar_n0, nar_n1, si_k, si_i, si_s, si_e, si_2, sl_1, sl_22, sl_k, sl_i, sl_s, sl_e, sp_1, sp_21, sp_22, sc_k, sc_i, sc_e, sc_2, mF_k, mF_2, mF_0, ↓eu_X8_pushed, pk_div, pk_rem', n_rem]
  refine ev_farCell hd (by omega) hn ?_
  try simp (disch := first | omega | decide) only [Nat.reduceAdd, Nat.reduceMul, ↓ev_bd, ↓ev_ck, ↓ev_if, ↓ev_lt, ↓ev_jn, ↓ev_so, ↓reduceIte, ↓ev_within, ↓ev_isBoard, ↓ev_isNumber, ↓ev_foundN, ↓ev_found_1, ↓ev_found_2, ↓ev_found_3, ↓ev_found_4, ↓ev_found_5, true_and, and_true, and_self, eq_self, not_true_eq_false, not_false_eq_true, ite_true, ite_false, true_or, or_true, false_or, or_false, false_and, and_false, ← zi_ni_0, ← zi_ni_1, ← zi_ni_2, ← zi_ni_3, ← zi_ni_4, ← zi_ni_5, ← zi_ni_6, ← zi_ni_7, ← zi_ni_8, ← zi_ni_9, ← zi_ni_10, ← zi_ni_12, ← zi_ni_24, ← zi_ni_25, ← zi_ni_40, ← zi_ni_45, ← zi_ni_47, ← zi_ni_48, ← zi_ni_95, ← zi_ni_96, ← zi_ni_97, ← zi_ni_100, ← zi_ni_144, ← zi_ni_288, nI_ltI, nI_leI, nI_eqI, nlt_T, nlt_F, nle_T, nle_F, neq_T, neq_F, nI_add, pk_mul, nI_clamp, q_inT, ng_lt, ng_tl, ng_le, ng_el, ng_eq, ng_qe, q_b0, q_b1, nar_0, nar_1, b01, b01', q_bn0, q_bn1, nar_n0, nar_n1, si_k, si_i, si_s, si_e, si_2, sl_1, sl_22, sl_k, sl_i, sl_s, sl_e, sp_1, sp_21, sp_22, sc_k, sc_i, sc_e, sc_2, mF_k, mF_2, mF_0, pk_div]
  refine ev_level (by omega) hn ?_
  try simp (disch := first | omega | decide) only [Nat.reduceAdd, Nat.reduceMul, ↓ev_bd, ↓ev_ck, ↓ev_if, ↓ev_lt, ↓ev_jn, ↓ev_so, ↓reduceIte, ↓ev_within, ↓ev_isBoard, ↓ev_isNumber, ↓ev_foundN, ↓ev_found_1, ↓ev_found_2, ↓ev_found_3, ↓ev_found_4, ↓ev_found_5, true_and, and_true, and_self, eq_self, not_true_eq_false, not_false_eq_true, ite_true, ite_false, true_or, or_true, false_or, or_false, false_and, and_false, ← zi_ni_0, ← zi_ni_1, ← zi_ni_2, ← zi_ni_3, ← zi_ni_4, ← zi_ni_5, ← zi_ni_6, ← zi_ni_7, ← zi_ni_8, ← zi_ni_9, ← zi_ni_10, ← zi_ni_12, ← zi_ni_24, ← zi_ni_25, ← zi_ni_40, ← zi_ni_45, ← zi_ni_47, ← zi_ni_48, ← zi_ni_95, ← zi_ni_96, ← zi_ni_97, ← zi_ni_100, ← zi_ni_144, ← zi_ni_288, nI_ltI, nI_leI, nI_eqI, nlt_T, nlt_F, nle_T, nle_F, neq_T, neq_F, nI_add, pk_mul, nI_clamp, q_inT, ng_lt, ng_tl, ng_le, ng_el, ng_eq, ng_qe, q_b0, q_b1, nar_0, nar_1, b01, b01', q_bn0, q_bn1, nar_n0, nar_n1, si_k, si_i, si_s, si_e, si_2, sl_1, sl_22, sl_k, sl_i, sl_s, sl_e, sp_1, sp_21, sp_22, sc_k, sc_i, sc_e, sc_2, mF_k, mF_2, mF_0, pk_div]
  refine ev_level (by omega) hn ?_
  try simp (disch := first | omega | decide) only [Nat.reduceAdd, Nat.reduceMul, ↓ev_bd, ↓ev_ck, ↓ev_if, ↓ev_lt, ↓ev_jn, ↓ev_so, ↓reduceIte, ↓ev_within, ↓ev_isBoard, ↓ev_isNumber, ↓ev_foundN, ↓ev_found_1, ↓ev_found_2, ↓ev_found_3, ↓ev_found_4, ↓ev_found_5, true_and, and_true, and_self, eq_self, not_true_eq_false, not_false_eq_true, ite_true, ite_false, true_or, or_true, false_or, or_false, false_and, and_false, ← zi_ni_0, ← zi_ni_1, ← zi_ni_2, ← zi_ni_3, ← zi_ni_4, ← zi_ni_5, ← zi_ni_6, ← zi_ni_7, ← zi_ni_8, ← zi_ni_9, ← zi_ni_10, ← zi_ni_12, ← zi_ni_24, ← zi_ni_25, ← zi_ni_40, ← zi_ni_45, ← zi_ni_47, ← zi_ni_48, ← zi_ni_95, ← zi_ni_96, ← zi_ni_97, ← zi_ni_100, ← zi_ni_144, ← zi_ni_288, nI_ltI, nI_leI, nI_eqI, nlt_T, nlt_F, nle_T, nle_F, neq_T, neq_F, nI_add, pk_mul, nI_clamp, q_inT, ng_lt, ng_tl, ng_le, ng_el, ng_eq, ng_qe, q_b0, q_b1, nar_0, nar_1, b01, b01', q_bn0, q_bn1, nar_n0, nar_n1, si_k, si_i, si_s, si_e, si_2, sl_1, sl_22, sl_k, sl_i, sl_s, sl_e, sp_1, sp_21, sp_22, sc_k, sc_i, sc_e, sc_2, mF_k, mF_2, mF_0, pk_div]
  refine ev_windAt (by omega) hn ?_
  obtain ⟨a1, a2, a3, a4, a5, a6, a7, a8, a9, a10, a11⟩ := hn
  have b1 := a8 (s / 2) (by omega)
  have b2 := a8 (far w s) (by omega)
  have b3 := a9 (s / 2) (by omega)
  have b4 := a9 (far w s) (by omega)
  have b5 := a10 s (by omega)
  simp (disch := first | omega | decide) only [Nat.reduceAdd, Nat.reduceMul, ↓ev_bd, ↓ev_ck, ↓ev_if, ↓ev_lt, ↓ev_jn, ↓ev_so, ↓reduceIte, ↓ev_within, ↓ev_isBoard, ↓ev_isNumber, ↓ev_foundN, ↓ev_found_1, ↓ev_found_2, ↓ev_found_3, ↓ev_found_4, ↓ev_found_5, true_and, and_true, and_self, eq_self, not_true_eq_false, not_false_eq_true, ite_true, ite_false, true_or, or_true, false_or, or_false, false_and, and_false, ← zi_ni_0, ← zi_ni_1, ← zi_ni_2, ← zi_ni_3, ← zi_ni_4, ← zi_ni_5, ← zi_ni_6, ← zi_ni_7, ← zi_ni_8, ← zi_ni_9, ← zi_ni_10, ← zi_ni_12, ← zi_ni_24, ← zi_ni_25, ← zi_ni_40, ← zi_ni_45, ← zi_ni_47, ← zi_ni_48, ← zi_ni_95, ← zi_ni_96, ← zi_ni_97, ← zi_ni_100, ← zi_ni_144, ← zi_ni_288, nI_ltI, nI_leI, nI_eqI, nlt_T, nlt_F, nle_T, nle_F, neq_T, neq_F, nI_add, pk_mul, nI_clamp, q_inT, ng_lt, ng_tl, ng_le, ng_el, ng_eq, ng_qe, q_b0, q_b1, nar_0, nar_1, b01, b01', q_bn0, q_bn1, nar_n0, nar_n1, si_k, si_i, si_s, si_e, si_2, sl_1, sl_22, sl_k, sl_i, sl_s, sl_e, sp_1, sp_21, sp_22, sc_k, sc_i, sc_e, sc_2, mF_k, mF_2, mF_0, a4, a5, b1, b2, b3, b4, b5, hd1, q_nzI]
  generalize hf : v 4 s + v 0 8 * (lev v (s / 2) - lev v (far w s)) / nI 8 + wnd v s - (v 4 s + v 0 8 * (lev v (s / 2) - lev v (far w s)) / nI 8 + wnd v s) / nI d = f at K ⊢
  by_cases c1 : f ≤ nI 0
  · by_cases c2 : nI 0 ≤ f
    · have c3 : f = nI 0 := by
        rw [x_le] at c1 c2
        rw [x_eq]
        omega
      subst c3
      simp only [if_pos c1, if_pos c2, ite_self] at K ⊢
      exact K
    · by_cases c3 : v 2 (far w s) = nI 0
      · simp only [if_pos c1, if_neg c2, if_pos c3] at K ⊢
        exact K
      · by_cases c4 : v 1 (s / 2) < lev v (far w s)
        · simp only [if_pos c1, if_neg c2, if_neg c3, if_pos c4] at K ⊢
          exact K
        · simp only [if_pos c1, if_neg c2, if_neg c3, if_neg c4] at K ⊢
          exact K
  · by_cases c2 : nI 0 ≤ f
    · by_cases c3 : v 2 (s / 2) = nI 0
      · simp only [if_neg c1, if_pos c2, if_pos c3] at K ⊢
        exact K
      · by_cases c4 : v 1 (far w s) < lev v (s / 2)
        · simp only [if_neg c1, if_pos c2, if_neg c3, if_pos c4] at K ⊢
          exact K
        · simp only [if_neg c1, if_pos c2, if_neg c3, if_neg c4] at K ⊢
          exact K
    · exact absurd (Int32.le_of_lt (x_nle.mp c1)) c2


