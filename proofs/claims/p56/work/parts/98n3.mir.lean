/-! p56: a step of a board in the mirror is the mirror of its step. First: sides in the mirror. -/
theorem neg_dv {x : Int32} {d : Nat} (hd : 1 ≤ d) (hd2 : d < 2 ^ 31) (h1 : -1000000 ≤ x.toInt) (h2 : x.toInt ≤ 1000000) : -x / nI d = -(x / nI d) := by
  have e := z_neg (x := x) (by omega)
  obtain ⟨a1, a2, a3⟩ := z_div (x := x) hd hd2 (m := 1000000) (by decide) h1 h2
  obtain ⟨b1, -, -⟩ := z_div (x := -x) hd hd2 (m := 1000000) (by decide) (by omega) (by omega)
  rw [x_eq, b1, z_neg (x := x / nI d) (by omega), a1, e, Int.neg_tdiv]
theorem pf0_bd {n : Nat} {v : qB} (hw : WF n v) (s : Nat) : (-1000000 ≤ (v 0 8 * (lev v (s / 2) - lev v (far (nW v) s))).toInt ∧ (v 0 8 * (lev v (s / 2) - lev v (far (nW v) s))).toInt ≤ 1000000) ∧ -1000000 ≤ (pf0 v s).toInt ∧ (pf0 v s).toInt ≤ 1000000 := by
  have h0 : (nI 0).toInt = 0 := nI_toInt (by decide)
  obtain ⟨⟨k, wd, hg, st, p, d, rc, pc, a0, a1, a2, a3, a4, a5, a6, a7, a8, a9, b0, b1, b2, b3, b4, b5, b6, b7, b8, b9, c0, c1, c2⟩, ⟨w1, w2, w4, w5, w8⟩, -⟩ := hw
  have hl : ∀ c, -1000 ≤ (lev v c).toInt ∧ (lev v c).toInt ≤ 101000 := by
    intro c
    have q1 := w1 c
    have q2 := w2 c
    unfold lev
    rw [z_add (by omega) (by omega)]
    omega
  have hwn : -50 ≤ (wnd v s).toInt ∧ (wnd v s).toInt ≤ 50 := by
    unfold wnd
    split
    · rw [h0]; omega
    · split
      · exact c2
      · exact c1
  have q1 := hl (s / 2)
  have q2 := hl (far (nW v) s)
  have q3 : (lev v (s / 2) - lev v (far (nW v) s)).toInt = (lev v (s / 2)).toInt - (lev v (far (nW v) s)).toInt := z_sub (by omega) (by omega)
  have hp : (nI p).toInt = (p : Int) := nI_toInt (by omega)
  have q4 : -816000 ≤ (p : Int) * ((lev v (s / 2)).toInt - (lev v (far (nW v) s)).toInt) ∧ (p : Int) * ((lev v (s / 2)).toInt - (lev v (far (nW v) s)).toInt) ≤ 816000 := by
    have e1 : (p : Int) * ((lev v (s / 2)).toInt - (lev v (far (nW v) s)).toInt) ≤ (p : Int) * 102000 := Int.mul_le_mul_of_nonneg_left (by omega) (by omega)
    have e2 : (p : Int) * (-102000) ≤ (p : Int) * ((lev v (s / 2)).toInt - (lev v (far (nW v) s)).toInt) := Int.mul_le_mul_of_nonneg_left (by omega) (by omega)
    omega
  have q5 : (v 0 8 * (lev v (s / 2) - lev v (far (nW v) s))).toInt = (p : Int) * ((lev v (s / 2)).toInt - (lev v (far (nW v) s)).toInt) := by
    rw [b0, z_mul (by rw [hp, q3]; omega) (by rw [hp, q3]; omega), hp, q3]
  have q6 := (z_div (x := v 0 8 * (lev v (s / 2) - lev v (far (nW v) s))) (d := 8) (by decide) (by decide) (m := 816000) (by decide) (by omega) (by omega)).2
  have q7 := w4 s
  refine ⟨by omega, ?_⟩
  unfold pf0
  have e1 := z_add (x := v 4 s) (y := v 0 8 * (lev v (s / 2) - lev v (far (nW v) s)) / nI 8) (by omega) (by omega)
  rw [z_add (by rw [e1]; omega) (by rw [e1]; omega), e1]
  omega
theorem WF.drag {n : Nat} {v : qB} (h : WF n v) : ∃ d : Nat, v 0 9 = nI d ∧ 2 ≤ d ∧ d ≤ 1000 := by
  obtain ⟨⟨k, wd, hg, st, p, d, rc, pc, a0, a1, a2, a3, a4, a5, a6, a7, a8, a9, b0, b1, b2, b3, b4, b5, -⟩, -⟩ := h
  exact ⟨d, b3, b4, b5⟩
/-! The mirror read place by place. -/
theorem mir_1 {v : qB} {c : Nat} : mir v 1 c = if c < nN v then v 1 (opw (nW v) c) else v 1 c := by
  show Gs (D1 (nN v)) (opw (nW v)) id id (v 1) (nN v) c = _
  rw [Gs_N (D := D1 (nN v)) (κ := id) (fun s q => (of_decide_eq_true q : s < nN v))]
  unfold D1
  by_cases h : c < nN v
  · rw [if_pos (decide_eq_true h), if_pos h]
    rfl
  · rw [if_neg (by rw [decide_eq_false h]; decide), if_neg h]
theorem mir_2 {v : qB} {c : Nat} : mir v 2 c = if c < nN v then v 2 (opw (nW v) c) else v 2 c := by
  show Gs (D1 (nN v)) (opw (nW v)) id id (v 2) (nN v) c = _
  rw [Gs_N (D := D1 (nN v)) (κ := id) (fun s q => (of_decide_eq_true q : s < nN v))]
  unfold D1
  by_cases h : c < nN v
  · rw [if_pos (decide_eq_true h), if_pos h]
    rfl
  · rw [if_neg (by rw [decide_eq_false h]; decide), if_neg h]
theorem mir_3 {v : qB} {s : Nat} : mir v 3 s = if s < 144 ∧ s % 48 < nN v then v 3 (s3 (nW v) s) else v 3 s := by
  show Gs (D3 (nN v)) (s3 (nW v)) k3 id (v 3) (3 * nN v) s = _
  rw [Gs_N (fun s q => by
    obtain ⟨q1, q2⟩ := of_decide_eq_true q
    unfold k3
    omega)]
  unfold D3
  by_cases h : s < 144 ∧ s % 48 < nN v
  · rw [if_pos (decide_eq_true h), if_pos h]
    rfl
  · rw [if_neg (by rw [decide_eq_false h]; decide), if_neg h]
theorem mir_4o {v : qB} {s : Nat} (ho : s % 2 = 1) : mir v 4 s = if s / 2 < nN v then v 4 (so (nW v) s) else v 4 s := by
  show (if s % 2 = 1 then Gs (Do (nN v)) (so (nW v)) hf2 id (v 4) (nN v) s else _) = _
  rw [if_pos ho, Gs_N (fun s q => (of_decide_eq_true q).2)]
  unfold Do
  by_cases h : s / 2 < nN v
  · rw [if_pos (decide_eq_true ⟨ho, h⟩), if_pos h]
    rfl
  · rw [if_neg (by rw [decide_eq_false (fun q => h q.2)]; decide), if_neg h]
theorem mir_4e {v : qB} {s : Nat} (he : s % 2 = 0) : mir v 4 s = if s / 2 < nN v ∧ s / 2 % nW v + 1 < nW v then -(v 4 (se (nW v) s)) else v 4 s := by
  show (if s % 2 = 1 then _ else Gs (De (nW v) (nN v)) (se (nW v)) hf2 (fun x => -x) (v 4) (nN v) s) = _
  rw [if_neg (by omega), Gs_N (fun s q => (of_decide_eq_true q).2.1)]
  unfold De
  by_cases h : s / 2 < nN v ∧ s / 2 % nW v + 1 < nW v
  · rw [if_pos (decide_eq_true ⟨he, h⟩), if_pos h]
  · rw [if_neg (by rw [decide_eq_false (fun q => h q.2)]; decide), if_neg h]
theorem mir_5o {v : qB} {s : Nat} (ho : s % 2 = 1) : mir v 5 s = if s / 2 < nN v then v 5 (so (nW v) s) else v 5 s := by
  show (if s % 2 = 1 then Gs (Do (nN v)) (so (nW v)) hf2 id (v 5) (nN v) s else _) = _
  rw [if_pos ho, Gs_N (fun s q => (of_decide_eq_true q).2)]
  unfold Do
  by_cases h : s / 2 < nN v
  · rw [if_pos (decide_eq_true ⟨ho, h⟩), if_pos h]
    rfl
  · rw [if_neg (by rw [decide_eq_false (fun q => h q.2)]; decide), if_neg h]
theorem mir_5e {v : qB} {s : Nat} (he : s % 2 = 0) : mir v 5 s = if s / 2 < nN v ∧ s / 2 % nW v + 1 < nW v then v 5 (se (nW v) s) else v 5 s := by
  show (if s % 2 = 1 then _ else Gs (De (nW v) (nN v)) (se (nW v)) hf2 id (v 5) (nN v) s) = _
  rw [if_neg (by omega), Gs_N (fun s q => (of_decide_eq_true q).2.1)]
  unfold De
  by_cases h : s / 2 < nN v ∧ s / 2 % nW v + 1 < nW v
  · rw [if_pos (decide_eq_true ⟨he, h⟩), if_pos h]
    rfl
  · rw [if_neg (by rw [decide_eq_false (fun q => h q.2)]; decide), if_neg h]
/-! Sides in the mirror. -/
theorem opw_a {w c : Nat} (h1 : 2 ≤ w) : opw w (c + w) = opw w c + w := by
  unfold opw
  rw [Nat.add_mod_right]
  have h2 : c % w ≤ c := Nat.mod_le _ _
  have h3 : c % w < w := Nat.mod_lt _ (by omega)
  omega
theorem sd_odd {w N s : Nat} (ho : s % 2 = 1) : sd w N s = true ↔ s / 2 < N ∧ s / 2 + w < N := by
  unfold sd
  rw [if_pos ho, Bool.and_eq_true, decide_eq_true_iff, decide_eq_true_iff]
  constructor <;> intro h <;> exact ⟨by omega, h.2⟩
theorem sd_evn {w N s : Nat} (he : s % 2 = 0) : sd w N s = true ↔ s / 2 < N ∧ s / 2 % w + 1 < w := by
  unfold sd
  rw [if_neg (by omega), Bool.and_eq_true, decide_eq_true_iff, decide_eq_true_iff]
  constructor <;> intro h <;> exact ⟨by omega, h.2⟩
theorem so_f {w h s : Nat} (h1 : 2 ≤ w) (h2 : w ≤ 8) (ho : s % 2 = 1) (hs : sd w (w * h) s = true) : sd w (w * h) (so w s) = true ∧ so w s % 2 = 1 ∧ so w s / 2 = opw w (s / 2) ∧ far w (so w s) = opw w (far w s) ∧ so w (so w s) = s := by
  obtain ⟨a1, a2⟩ := (sd_odd ho).mp hs
  have g := opw_f h1 h2 a2
  have g2 := opw_f h1 h2 a1
  rw [opw_a h1] at g
  have e1 : so w s % 2 = 1 := by
    unfold so
    omega
  have e2 : so w s / 2 = opw w (s / 2) := by
    unfold so
    omega
  refine ⟨(sd_odd e1).mpr ⟨?_, ?_⟩, e1, e2, ?_, (ivo h1 h2 s (decide_eq_true ⟨ho, a1⟩)).2⟩
  · rw [e2]
    exact g2.1
  · rw [e2]
    exact g.1
  · unfold far
    rw [if_pos e1, if_pos ho, e2, opw_a h1]
theorem se_f {w h s : Nat} (h1 : 2 ≤ w) (h2 : w ≤ 8) (he : s % 2 = 0) (hs : sd w (w * h) s = true) : sd w (w * h) (se w s) = true ∧ se w s % 2 = 0 ∧ se w s / 2 = opw w (far w s) ∧ far w (se w s) = opw w (s / 2) ∧ se w (se w s) = s := by
  obtain ⟨a1, a2⟩ := (sd_evn he).mp hs
  obtain ⟨g1, g2, g3⟩ := opw_f h1 h2 a1
  obtain ⟨k1, k2, k3, k4⟩ := g3 a2
  have e1 : se w s % 2 = 0 := by
    unfold se
    omega
  have e2 : se w s / 2 = opw w (s / 2) - 1 := by
    unfold se
    omega
  have ef : far w s = s / 2 + 1 := if_neg (by omega)
  refine ⟨(sd_evn e1).mpr ⟨by rw [e2]; exact k4, by rw [e2]; exact k2⟩, e1, ?_, ?_, (ive h1 h2 s (decide_eq_true ⟨he, a1, a2⟩)).2⟩
  · rw [e2, ef, ← k3]
    exact (opw_f h1 h2 k4).2.1.symm
  · have : far w (se w s) = se w s / 2 + 1 := if_neg (by omega)
    rw [this, e2]
    omega
/-- the side that stands for s in the mirror, and the sign of its flow -/
def sg (w N s : Nat) : Nat := if sd w N s = true then (if s % 2 = 1 then so w s else se w s) else s
def sn (s : Nat) (x : Int32) : Int32 := if s % 2 = 1 then x else -x
theorem n_zero : -(nI 0) = (nI 0 : Int32) := by decide +kernel
theorem sn_0 {s : Nat} : sn s (nI 0) = nI 0 := by
  unfold sn
  split
  · rfl
  · exact n_zero
theorem sg_lt {w h s : Nat} (h1 : 2 ≤ w) (h2 : w ≤ 8) (hs : s < 2 * (w * h)) : sg w (w * h) s < 2 * (w * h) := by
  unfold sg
  by_cases q : sd w (w * h) s = true
  · rw [if_pos q]
    rcases (show s % 2 = 1 ∨ s % 2 = 0 by omega) with o | e
    · rw [if_pos o]
      exact sd_lt (so_f h1 h2 o q).1
    · rw [if_neg (by omega)]
      exact sd_lt (se_f h1 h2 e q).1
  · rw [if_neg q]
    exact hs
theorem sg_iv {w h s : Nat} (h1 : 2 ≤ w) (h2 : w ≤ 8) : sg w (w * h) (sg w (w * h) s) = s := by
  by_cases q : sd w (w * h) s = true
  · rcases (show s % 2 = 1 ∨ s % 2 = 0 by omega) with o | e
    · obtain ⟨k1, k2, -, -, k5⟩ := so_f h1 h2 o q
      have e1 : sg w (w * h) s = so w s := by
        unfold sg
        rw [if_pos q, if_pos o]
      rw [e1]
      unfold sg
      rw [if_pos k1, if_pos k2, k5]
    · obtain ⟨k1, k2, -, -, k5⟩ := se_f h1 h2 e q
      have e1 : sg w (w * h) s = se w s := by
        unfold sg
        rw [if_pos q, if_neg (by omega)]
      rw [e1]
      unfold sg
      rw [if_pos k1, if_neg (by omega), k5]
  · have e1 : sg w (w * h) s = s := if_neg q
    rw [e1, e1]
/-! A sum over all places in another order. -/
theorem asum_dl {g : Nat → Int32} {a : Nat} : ∀ N, asum (fun r => if r = a then g r else nI 0) N = if a < N then g a else nI 0
  | 0 => by rw [if_neg (Nat.not_lt_zero _)]; rfl
  | N + 1 => by
    have z : (nI 0 : Int32) = 0 := rfl
    rw [asum_s, asum_dl N]
    by_cases e : N = a
    · subst e
      rw [if_neg (Nat.lt_irrefl _), if_pos rfl, if_pos (Nat.lt_succ_self _), z, Int32.zero_add]
    · rw [if_neg e]
      by_cases q : a < N
      · rw [if_pos q, if_pos (by omega), z, Int32.add_zero]
      · rw [if_neg q, if_neg (by omega), z, Int32.add_zero]
theorem asum_z {M : Nat} : asum (fun _ => nI 0) M = nI 0 := by
  induction M with
  | zero => rfl
  | succ M ih =>
    rw [asum_s, ih]
    decide +kernel
theorem asum_sw {F : Nat → Nat → Int32} {M : Nat} : ∀ N, asum (fun s => asum (fun r => F s r) M) N = asum (fun r => asum (fun s => F s r) N) M
  | 0 => asum_z.symm
  | N + 1 => by
    rw [asum_s, asum_sw N]
    exact (asum_add (f := fun r => asum (fun s => F s r) N) (g := fun r => F N r) M).symm
theorem asum_pm {f : Nat → Int32} {σ : Nat → Nat} {M : Nat} (h1 : ∀ s, s < M → σ s < M) (h2 : ∀ s, σ (σ s) = s) : asum (fun s => f (σ s)) M = asum f M := by
  have e1 : asum (fun s => f (σ s)) M = asum (fun s => asum (fun r => if r = σ s then f r else nI 0) M) M := asum_eq M (fun s hs => by
    show f (σ s) = asum (fun r => if r = σ s then f r else nI 0) M
    rw [asum_dl, if_pos (h1 s hs)])
  rw [e1, asum_sw M]
  refine asum_eq M (fun r hr => ?_)
  have e2 : asum (fun s => if r = σ s then f r else nI 0) M = asum (fun s => if s = σ r then f r else nI 0) M := asum_eq M (fun s _ => by
    by_cases q : r = σ s
    · rw [if_pos q, if_pos (by rw [q, h2])]
    · rw [if_neg q, if_neg (fun z => q (by rw [z, h2]))])
  rw [e2, asum_dl (g := fun _ => f r), if_pos (h1 r hr)]
