/-! p56: the law's end: a nest of one cell. First what a still nest is. -/
/-- a still nest of one cell: no flows, all alike -/
def NZ (v : qB) (w0 B0 : Int32) : Prop := v 0 0 = nI 2 ∧ v 0 1 = nI 2 ∧ v 0 2 = nI 2 ∧ v 0 12 = nI 0 ∧ v 0 10 = nI 0 ∧ v 0 11 = nI 0 ∧ (∀ s, s < 8 → v 4 s = nI 0) ∧ (∀ q, q < 4 → v 1 q = B0) ∧ (∀ q, q < 4 → v 2 q = w0)
theorem NZ.dw {v : qB} {w0 B0 : Int32} (h : NZ v w0 B0) : DW v 2 2 := by
  obtain ⟨h0, h1, h2, -⟩ := h
  obtain ⟨g1, g2, g3⟩ := GD.nn h1 h2 (by decide) (by decide)
  exact ⟨h1, h2, by decide, by decide, by decide, by decide, g2, g3, g1, by decide⟩
theorem NZ_pfl {n : Nat} {v : qB} {w0 B0 : Int32} (hw : WF n v) (h : NZ v w0 B0) (s : Nat) : pfl v s = nI 0 := by
  have hd := h.dw
  obtain ⟨d1, d2, d3, d4, d5, d6, d7, d8, d9, d10⟩ := hd
  obtain ⟨h0, h1, h2, h3, h4, h5, h6, h7, h8⟩ := h
  obtain ⟨dd, e1, e2, e3⟩ := hw.drag
  by_cases q : sd (nW v) (nN v) s = true
  · rw [d7, d9] at q
    have l1 := sd_lt q
    obtain ⟨f1, f2⟩ := sd_far (w := 2) (hh := 2) (by decide) q
    have z : (nI 0 : Int32) = 0 := rfl
    have lv : ∀ c, c < 4 → lev v c = B0 + w0 := fun c hc => by
      unfold lev
      rw [h7 c hc, h8 c hc]
    have wn : wnd v s = nI 0 := by
      unfold wnd
      rw [h4, h5]
      split
      · rfl
      · split <;> rfl
    have p0 : pf0 v s = nI 0 := by
      unfold pf0
      rw [h6 s (by omega), d7, lv _ (by omega), lv _ (by omega), wn, Int32.sub_self]
      have : v 0 8 * 0 = 0 := Int32.mul_zero
      rw [this]
      decide +kernel
    have p1 : pf1 v s = nI 0 := by
      unfold pf1
      rw [p0, e1]
      have zd : (nI 0 : Int32) / nI dd = nI 0 := by
        have := (z_div (x := nI 0) (d := dd) (by omega) (by omega) (m := 0) (by decide) (by decide +kernel) (by decide +kernel)).1
        rw [eq0_iff, this]
        have : (nI 0).toInt = 0 := nI_toInt (by decide)
        rw [this, Int.zero_tdiv]
      rw [zd]
      decide +kernel
    unfold pfl
    rw [show pfv v s = nI 0 from ?_]
    · split <;> rfl
    · unfold pfv
      rw [p1]
      repeat' split
      all_goals rfl
  · exact pfl_no q
theorem NZ_lfl {n : Nat} {v : qB} {w0 B0 : Int32} (hw : WF n v) (h : NZ v w0 B0) (s : Nat) : lfl v s = nI 0 := if_pos (NZ_pfl hw h s)
theorem NZ_wat {n : Nat} {v : qB} {w0 B0 : Int32} (hw : WF n v) (h : NZ v w0 B0) (c : Nat) : ∀ i, watF v i c = v 2 c
  | 0 => rfl
  | i + 1 => (if_pos (NZ_lfl hw h i)).trans (NZ_wat hw h c i)
theorem NZ_nxt {n : Nat} {v : qB} {w0 B0 : Int32} (hw : WF n v) (h : NZ v w0 B0) : NZ (nxt none v) w0 B0 := by
  have hd := h.dw
  have hl := NZ_lfl hw h
  have hwt := NZ_wat hw h
  obtain ⟨d1, d2, d3, d4, d5, d6, d7, d8, d9, d10⟩ := hd
  obtain ⟨h0, h1, h2, h3, h4, h5, h6, h7, h8⟩ := h
  have rc : rcN v = 0 := by
    unfold rcN
    rw [h3]
    decide +kernel
  have n0 : ∀ s, s ≠ 3 → s ≠ 4 → s ≠ 5 → nxt none v 0 s = v 0 s := fun s a b c => nxt_s a b c
  refine ⟨(n0 0 (by decide) (by decide) (by decide)).trans h0, (n0 1 (by decide) (by decide) (by decide)).trans h1, (n0 2 (by decide) (by decide) (by decide)).trans h2, (n0 12 (by decide) (by decide) (by decide)).trans h3, (n0 10 (by decide) (by decide) (by decide)).trans h4, (n0 11 (by decide) (by decide) (by decide)).trans h5, fun s hs => ?_, fun q hq => ?_, fun q hq => ?_⟩
  · rw [nxt_x (by decide)]
    show (if s < 2 * nN v then lfl v s else v 4 s) = nI 0
    rw [d9, if_pos (by omega)]
    exact hl s
  · rw [nxt_t (.inl rfl)]
    exact h7 q hq
  · rw [nxt_x (by decide)]
    show (if q < nN v then rivF v (rcN v) q else v 2 q) = w0
    rw [d9, if_pos (by omega), rc]
    show watF v (2 * nN v) q = w0
    rw [hwt q]
    exact h8 q hq
theorem td_2 {sz : Nat → Int32} {rw : Nat → Nat → Int32} {v : qB} (h : v 0 0 = nI 2 ∨ v 0 0 = nI 0) : td v sz rw = none := by
  unfold td
  refine if_neg (fun q => ?_)
  rcases h with h | h <;> rw [h] at q <;> rcases q.1 with z | z <;> exact absurd z (by decide +kernel)
theorem NZ_it {sz : Nat → Int32} {rw : Nat → Nat → Int32} {w0 B0 : Int32} : ∀ (k n : Nat) (B : Int) (v : qB), BI n B v → NZ v w0 B0 → B + (k : Int) * 1000 ≤ 90000 → NZ (itn sz rw k v) w0 B0
  | 0, _, _, _, _, h, _ => h
  | k + 1, n, B, v, hI, h, hB => by
    have hk : ((k + 1 : Nat) : Int) * 1000 = (k : Int) * 1000 + 1000 := by
      push_cast
      omega
    rw [hk] at hB
    have hk0 : (0 : Int) ≤ (k : Int) * 1000 := by omega
    rw [itn_s, td_2 (.inl h.1)]
    exact NZ_it k (n + 1) (B + 1000) _ (BI_step hI (by omega) (fun x q => by cases q)).2 (NZ_nxt hI.1 h) (by omega)
theorem lay_1 {W X Y c : Nat} {vd v : qB} : layF 1 W X Y vd v 1 1 c = if c < 4 then vd 1 (Y * W + X) else v 1 c := by
  have e : ∀ q, q < 4 → fineN 1 0 q = q := fun q hq => fine1 hq
  show lay1 1 W X Y 0 vd (lay1 1 W X Y 0 vd (lay1 1 W X Y 0 vd (lay1 1 W X Y 0 vd v 0) 1) 2) 3 1 c = _
  unfold lay1
  rw [und1, e 0 (by decide), e 1 (by decide), e 2 (by decide), e 3 (by decide)]
  rw [bs_t (t' := 1) (t := 2) (by decide), bs_c, bs_t (t' := 1) (t := 2) (by decide), bs_c, bs_t (t' := 1) (t := 2) (by decide), bs_c, bs_t (t' := 1) (t := 2) (by decide), bs_c]
  by_cases z : c < 4
  · rw [if_pos z]
    rcases (show c = 0 ∨ c = 1 ∨ c = 2 ∨ c = 3 by omega) with rfl | rfl | rfl | rfl <;> simp
  · rw [if_neg z, if_neg (by omega), if_neg (by omega), if_neg (by omega), if_neg (by omega)]
theorem lay_2 {W X Y c : Nat} {vd v : qB} : layF 1 W X Y vd v 1 2 c = if c < 4 then vd 2 (Y * W + X) else v 2 c := by
  have e : ∀ q, q < 4 → fineN 1 0 q = q := fun q hq => fine1 hq
  show lay1 1 W X Y 0 vd (lay1 1 W X Y 0 vd (lay1 1 W X Y 0 vd (lay1 1 W X Y 0 vd v 0) 1) 2) 3 2 c = _
  unfold lay1
  rw [und1, e 0 (by decide), e 1 (by decide), e 2 (by decide), e 3 (by decide)]
  rw [bs_c, bs_t (t' := 2) (t := 1) (by decide), bs_c, bs_t (t' := 2) (t := 1) (by decide), bs_c, bs_t (t' := 2) (t := 1) (by decide), bs_c, bs_t (t' := 2) (t := 1) (by decide)]
  by_cases z : c < 4
  · rw [if_pos z]
    rcases (show c = 0 ∨ c = 1 ∨ c = 2 ∨ c = 3 by omega) with rfl | rfl | rfl | rfl <;> simp
  · rw [if_neg z, if_neg (by omega), if_neg (by omega), if_neg (by omega), if_neg (by omega)]
/-- the nest as it is laid -/
theorem lay_NZ {n : Nat} {B : Int} {W H X Y : Nat} {vd v : qB} (hd : DW vd W H) (hI : BI n B vd) (hX : X < W) (hY : Y < H) : NZ (layF 1 W X Y vd (rstB (nI 2) (nI 2) (nI 2) v) 1) (vd 2 (Y * W + X)) (vd 1 (Y * W + X)) ∧ BI n (4 * B) (layF 1 W X Y vd (rstB (nI 2) (nI 2) (nI 2) v) 1) := by
  have hU : Y * W + X < nN vd := by
    rw [hd.2.2.2.2.2.2.2.2.1]
    exact und_lt hX hY
  have o : ∀ t, t ≠ 1 → t ≠ 2 → layF 1 W X Y vd (rstB (nI 2) (nI 2) (nI 2) v) 1 t = rstB (nI 2) (nI 2) (nI 2) v t := fun t a b => layF_o a b 1
  have hz : NZ (layF 1 W X Y vd (rstB (nI 2) (nI 2) (nI 2) v) 1) (vd 2 (Y * W + X)) (vd 1 (Y * W + X)) := by
    refine ⟨?_, ?_, ?_, ?_, ?_, ?_, fun s _ => ?_, fun q hq => ?_, fun q hq => ?_⟩
    · rw [o 0 (by decide) (by decide)]; rfl
    · rw [o 0 (by decide) (by decide)]; rfl
    · rw [o 0 (by decide) (by decide)]; rfl
    · rw [o 0 (by decide) (by decide)]; rfl
    · rw [o 0 (by decide) (by decide)]; rfl
    · rw [o 0 (by decide) (by decide)]; rfl
    · rw [o 4 (by decide) (by decide)]; rfl
    · rw [lay_1, if_pos hq]
    · rw [lay_2, if_pos hq]
  refine ⟨hz, ?_⟩
  have hN := hz.dw.2.2.2.2.2.2.2.2.1
  have hw : WF n (layF 1 W X Y vd (rstB (nI 2) (nI 2) (nI 2) v) 1) := WF_layF hI.1 (rst_WF (by decide) (by decide) (by decide) (by decide) (by decide)) 1
  have hwt := hI.wat hU
  obtain ⟨z0, z1, z2, z3, z4, z5, z6, z7, z8⟩ := hz
  refine ⟨hw, ?_, fun c hc => ?_, ?_, ?_, fun c hc => ?_⟩
  · rw [hN]
    show 0 + (layF 1 W X Y vd (rstB (nI 2) (nI 2) (nI 2) v) 1 2 0).toInt + (layF 1 W X Y vd (rstB (nI 2) (nI 2) (nI 2) v) 1 2 1).toInt + (layF 1 W X Y vd (rstB (nI 2) (nI 2) (nI 2) v) 1 2 2).toInt + (layF 1 W X Y vd (rstB (nI 2) (nI 2) (nI 2) v) 1 2 3).toInt ≤ 4 * B
    rw [z8 0 (by decide), z8 1 (by decide), z8 2 (by decide), z8 3 (by decide)]
    omega
  · rw [o 3 (by decide) (by decide)]
    show 0 ≤ (nI 0).toInt
    decide +kernel
  · rw [hN]
    show 0 + (layF 1 W X Y vd (rstB (nI 2) (nI 2) (nI 2) v) 1 3 (1 * 48 + 0)).toInt + (layF 1 W X Y vd (rstB (nI 2) (nI 2) (nI 2) v) 1 3 (1 * 48 + 1)).toInt + (layF 1 W X Y vd (rstB (nI 2) (nI 2) (nI 2) v) 1 3 (1 * 48 + 2)).toInt + (layF 1 W X Y vd (rstB (nI 2) (nI 2) (nI 2) v) 1 3 (1 * 48 + 3)).toInt ≤ 6000
    rw [o 3 (by decide) (by decide)]
    show 0 + (nI 0).toInt + (nI 0).toInt + (nI 0).toInt + (nI 0).toInt ≤ 6000
    decide +kernel
  · have rc : rcN (layF 1 W X Y vd (rstB (nI 2) (nI 2) (nI 2) v) 1) = 0 := by
      unfold rcN
      rw [z3]
      decide +kernel
    rw [rc]
    show 0 ≤ (nI 0).toInt ∧ (nI 0).toInt ≤ 39
    decide +kernel
  · rw [hN] at hc
    rw [z7 c hc]
    exact hI.2.2.2.2.2 _ hU
