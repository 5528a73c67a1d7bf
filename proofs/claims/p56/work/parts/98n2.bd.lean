/-! p56: no stuff is taken that is not there; sums as whole numbers; the bounds of a run. -/
theorem shr_st {a q W : Int32} (ha : 0 ≤ a.toInt ∧ a.toInt ≤ 100000) (hq : 0 ≤ q.toInt) (hqW : q.toInt ≤ W.toInt) (hW : 0 < W.toInt) (hW2 : W.toInt ≤ 100000) : 0 ≤ (shr a q W).toInt ∧ (shr a q W).toInt ≤ a.toInt ∧ (shr a q W).toInt * W.toInt ≤ a.toInt * q.toInt := by
  have p0 : 0 ≤ a.toInt * q.toInt := Int.mul_nonneg ha.1 hq
  have p1 : a.toInt * q.toInt ≤ a.toInt * W.toInt := Int.mul_le_mul_of_nonneg_left hqW ha.1
  have p2 : a.toInt * W.toInt ≤ 100000 * W.toInt := Int.mul_le_mul_of_nonneg_right ha.2 (by omega)
  have d0 : 0 ≤ (a.toInt * q.toInt).tdiv W.toInt := Int.tdiv_nonneg p0 (by omega)
  have d1 := Int.tdiv_mul_add_tmod (a.toInt * q.toInt) W.toInt
  have d2 : 0 ≤ (a.toInt * q.toInt).tmod W.toInt := Int.tmod_nonneg _ p0
  have d3 : (a.toInt * q.toInt).tdiv W.toInt * W.toInt ≤ a.toInt * q.toInt := by omega
  have d4 : (a.toInt * q.toInt).tdiv W.toInt ≤ a.toInt := mul_le_cancel hW (Int.le_trans d3 p1)
  have e : (shr a q W).toInt = (a.toInt * q.toInt).tdiv W.toInt := by
    unfold shr
    rw [Int64.toInt_toInt32, Int64.toInt_div, Int64.toInt_mul, Int32.toInt_toInt64, Int32.toInt_toInt64, Int32.toInt_toInt64, bm64 (z := a.toInt * q.toInt) (by omega) (by omega), bm64 (z := (a.toInt * q.toInt).tdiv W.toInt) (by omega) (by omega), bm32 (by omega) (by omega)]
  rw [e]
  exact ⟨d0, d4, d3⟩
/-- of a stuff, what is taken from a cell -/
def SO (v : qB) (k : Nat) : Nat → Nat → Int
  | 0, _ => 0
  | n + 1, c => if lfl v n = nI 0 then SO v k n c else if c = srcF v (lfl v n) n then SO v k n c + (shr (v 3 (k * 48 + c)) (ab (lfl v n)) (v 2 c)).toInt else SO v k n c
theorem tk_st {n : Nat} {v : qB} {k s : Nat} (hw : WF n v) (hs2 : s < 2 * nN v) (hs : ∀ c, c < nN v → 0 ≤ (v 3 (k * 48 + c)).toInt ∧ (v 3 (k * 48 + c)).toInt ≤ 100000) (q : ¬ lfl v s = nI 0) : srcF v (lfl v s) s < nN v ∧ dstF v (lfl v s) s < nN v ∧ srcF v (lfl v s) s ≠ dstF v (lfl v s) s ∧ 0 < (v 2 (srcF v (lfl v s) s)).toInt ∧
    0 ≤ (shr (v 3 (k * 48 + srcF v (lfl v s) s)) (ab (lfl v s)) (v 2 (srcF v (lfl v s) s))).toInt ∧ (shr (v 3 (k * 48 + srcF v (lfl v s) s)) (ab (lfl v s)) (v 2 (srcF v (lfl v s) s))).toInt ≤ 100000 ∧
    (shr (v 3 (k * 48 + srcF v (lfl v s) s)) (ab (lfl v s)) (v 2 (srcF v (lfl v s) s))).toInt * (v 2 (srcF v (lfl v s) s)).toInt ≤ (v 3 (k * 48 + srcF v (lfl v s) s)).toInt * az (lfl v s) := by
  obtain ⟨w, h, hd⟩ := hw.dw
  have hN := nN_48 hw.gd
  have hw2 : ∀ c, 0 ≤ (v 2 c).toInt := fun c => (hw.2.1.2.1 c).1
  obtain ⟨h1, h2, h3⟩ := srcF_lt (f := lfl v s) hd (lfl_sd q)
  rw [← hd.2.2.2.2.2.2.2.2.1] at h1 h2
  have h4 := lfl_wat hw2 q
  rw [eq0_iff] at h4
  have h5 := hw2 (srcF v (lfl v s) s)
  have h6 := (hw.2.1.2.1 (srcF v (lfl v s) s)).2
  have h7 := lf_le hw hN hs2 (lfl_pfl q)
  rw [← (lfl_src hw2 q).1] at h7
  have hb := lf_bd hw hN hs2
  have h8 := az_ab (x := lfl v s) (m := 100000) (by decide) hb.1 hb.2
  have h9 := az_nn (x := lfl v s)
  have hp : 0 < (v 2 (srcF v (lfl v s) s)).toInt := by omega
  obtain ⟨k1, k2, k3⟩ := shr_st (hs _ h1) (q := ab (lfl v s)) (W := v 2 (srcF v (lfl v s) s)) (by omega) (by omega) hp h6
  rw [h8] at k3
  have := (hs _ h1).2
  exact ⟨h1, h2, h3, hp, k1, by omega, k3⟩
theorem SO_W {n : Nat} {v : qB} {k c : Nat} (hw : WF n v) (hs : ∀ c, c < nN v → 0 ≤ (v 3 (k * 48 + c)).toInt ∧ (v 3 (k * 48 + c)).toInt ≤ 100000) : ∀ i, i ≤ 2 * nN v → 0 ≤ SO v k i c ∧ SO v k i c ≤ (i : Int) * 100000 ∧ SO v k i c * (v 2 c).toInt ≤ (v 3 (k * 48 + c)).toInt * TZ v i c ∧ ((v 2 c).toInt = 0 → SO v k i c = 0)
  | 0, _ => by
    refine ⟨Int.le_refl _, ?_, ?_, fun _ => rfl⟩
    · show (0 : Int) ≤ ((0 : Nat) : Int) * 100000
      decide
    · show (0 : Int) * _ ≤ _ * 0
      rw [Int.zero_mul, Int.mul_zero]
      exact Int.le_refl _
  | i + 1, hi => by
    obtain ⟨h1, h2, h3, h4⟩ := SO_W (c := c) hw hs i (by omega)
    have e1 : SO v k (i + 1) c = if lfl v i = nI 0 then SO v k i c else if c = srcF v (lfl v i) i then SO v k i c + (shr (v 3 (k * 48 + c)) (ab (lfl v i)) (v 2 c)).toInt else SO v k i c := rfl
    have e2 : TZ v (i + 1) c = if lfl v i = nI 0 then TZ v i c else if c = srcF v (lfl v i) i then TZ v i c + az (lfl v i) else TZ v i c := rfl
    have hm : ((i + 1 : Nat) : Int) * 100000 = (i : Int) * 100000 + 100000 := by
      push_cast
      omega
    rw [e1, e2, hm]
    by_cases q : lfl v i = nI 0
    · rw [if_pos q, if_pos q]
      exact ⟨h1, by omega, h3, h4⟩
    · rw [if_neg q, if_neg q]
      by_cases q2 : c = srcF v (lfl v i) i
      · obtain ⟨-, -, -, k1, k2, k3, k4⟩ := tk_st hw (s := i) (by omega) hs q
        rw [← q2] at k1 k2 k3 k4
        rw [if_pos q2, if_pos q2, Int.add_mul, Int.mul_add]
        exact ⟨by omega, by omega, by omega, fun z => by omega⟩
      · rw [if_neg q2, if_neg q2]
        exact ⟨h1, by omega, h3, h4⟩
theorem SO_le {n : Nat} {v : qB} {k c : Nat} (hw : WF n v) (hs : ∀ c, c < nN v → 0 ≤ (v 3 (k * 48 + c)).toInt ∧ (v 3 (k * 48 + c)).toInt ≤ 100000) (hc : c < nN v) : SO v k (2 * nN v) c ≤ (v 3 (k * 48 + c)).toInt := by
  obtain ⟨h1, h2, h3, h4⟩ := SO_W (c := c) hw hs _ (Nat.le_refl _)
  have hN := nN_48 hw.gd
  have hT := TZ_le hw hN c
  have ha := (hs c hc).1
  have hW := (hw.2.1.2.1 c).1
  rcases Int.lt_or_eq_of_le hW with hp | hz
  · refine mul_le_cancel hp (Int.le_trans h3 ?_)
    exact Int.mul_le_mul_of_nonneg_left hT ha
  · rw [h4 hz.symm]
    exact ha
theorem stu_ge {n : Nat} {v : qB} {k c : Nat} (hw : WF n v) (hs : ∀ c, c < nN v → 0 ≤ (v 3 (k * 48 + c)).toInt ∧ (v 3 (k * 48 + c)).toInt ≤ 100000) (hc : c < nN v) : ∀ i, i ≤ 2 * nN v → (v 3 (k * 48 + c)).toInt - SO v k i c ≤ (stuF v k i c).toInt ∧ (stuF v k i c).toInt ≤ (v 3 (k * 48 + c)).toInt + (i : Int) * 100000
  | 0, _ => by
    show (v 3 (k * 48 + c)).toInt - 0 ≤ (v 3 (k * 48 + c)).toInt ∧ (v 3 (k * 48 + c)).toInt ≤ (v 3 (k * 48 + c)).toInt + ((0 : Nat) : Int) * 100000
    omega
  | i + 1, hi => by
    obtain ⟨h1, h2⟩ := stu_ge hw hs hc i (by omega)
    obtain ⟨s1, s2, -, -⟩ := SO_W (c := c) hw hs i (by omega)
    have hN := nN_48 hw.gd
    have hb := bound_n (n := i) (m := 100000) (by omega) (by decide)
    have ha := hs c hc
    have hm : ((i + 1 : Nat) : Int) * 100000 = (i : Int) * 100000 + 100000 := by
      push_cast
      omega
    have e1 : SO v k (i + 1) c = if lfl v i = nI 0 then SO v k i c else if c = srcF v (lfl v i) i then SO v k i c + (shr (v 3 (k * 48 + c)) (ab (lfl v i)) (v 2 c)).toInt else SO v k i c := rfl
    have e2 : stuF v k (i + 1) c = if lfl v i = nI 0 then stuF v k i c else if c = srcF v (lfl v i) i then stuF v k i c - shr (v 3 (k * 48 + c)) (ab (lfl v i)) (v 2 c) else if c = dstF v (lfl v i) i then stuF v k i c + shr (v 3 (k * 48 + srcF v (lfl v i) i)) (ab (lfl v i)) (v 2 (srcF v (lfl v i) i)) else stuF v k i c := rfl
    rw [e1, e2, hm]
    by_cases q : lfl v i = nI 0
    · rw [if_pos q, if_pos q]
      omega
    · rw [if_neg q, if_neg q]
      obtain ⟨-, -, -, k1, k2, k3, k4⟩ := tk_st hw (s := i) (by omega) hs q
      by_cases q2 : c = srcF v (lfl v i) i
      · rw [← q2] at k2 k3
        rw [if_pos q2, if_pos q2, z_sub (by omega) (by omega)]
        omega
      · rw [if_neg q2, if_neg q2]
        by_cases q3 : c = dstF v (lfl v i) i
        · rw [if_pos q3, z_add (by omega) (by omega)]
          omega
        · rw [if_neg q3]
          omega
theorem stu_nn {n : Nat} {v : qB} {k c : Nat} (hw : WF n v) (hs : ∀ c, c < nN v → 0 ≤ (v 3 (k * 48 + c)).toInt ∧ (v 3 (k * 48 + c)).toInt ≤ 100000) (hc : c < nN v) : 0 ≤ (stuF v k (2 * nN v) c).toInt ∧ (stuF v k (2 * nN v) c).toInt ≤ 9700000 := by
  obtain ⟨h1, h2⟩ := stu_ge hw hs hc _ (Nat.le_refl _)
  have h3 := SO_le hw hs hc
  have hN := nN_48 hw.gd
  have hb := bound_n (n := 2 * nN v) (m := 100000) (by omega) (by decide)
  have ha := hs c hc
  omega
/-- a sum as a whole number -/
def isum (f : Nat → Int32) : Nat → Int
  | 0 => 0
  | n + 1 => isum f n + (f n).toInt
theorem isum_s {f : Nat → Int32} {N : Nat} : isum f (N + 1) = isum f N + (f N).toInt := rfl
theorem isum_nn {f : Nat → Int32} : ∀ N, (∀ c, c < N → 0 ≤ (f c).toInt) → 0 ≤ isum f N
  | 0, _ => Int.le_refl _
  | N + 1, h => by
    have h1 := isum_nn N (fun c hc => h c (by omega))
    have h2 := h N (by omega)
    rw [isum_s]
    omega
theorem isum_mem {f : Nat → Int32} {c : Nat} : ∀ N, (∀ c, c < N → 0 ≤ (f c).toInt) → c < N → (f c).toInt ≤ isum f N
  | 0, _, q => absurd q (Nat.not_lt_zero _)
  | N + 1, h, q => by
    have h1 := isum_nn N (fun c hc => h c (by omega))
    have h2 := h N (by omega)
    rw [isum_s]
    by_cases e : c = N
    · subst e
      omega
    · have := isum_mem N (fun c hc => h c (by omega)) (show c < N by omega)
      omega
theorem isum_eq {f g : Nat → Int32} : ∀ N, (∀ i, i < N → f i = g i) → isum f N = isum g N
  | 0, _ => rfl
  | N + 1, h => by rw [isum_s, isum_s, isum_eq N (fun i hi => h i (by omega)), h N (by omega)]
theorem isum_bd {f : Nat → Int32} {M : Int} (h0 : 0 ≤ M) : ∀ N, (∀ c, c < N → (f c).toInt ≤ M) → isum f N ≤ (N : Int) * M
  | 0, _ => by
    show (0 : Int) ≤ ((0 : Nat) : Int) * M
    simp
  | N + 1, h => by
    have h1 := isum_bd h0 N (fun c hc => h c (by omega))
    have h2 := h N (by omega)
    have : ((N + 1 : Nat) : Int) * M = (N : Int) * M + M := by
      push_cast
      rw [Int.add_mul, Int.one_mul]
    rw [isum_s, this]
    omega
theorem asum_int {f : Nat → Int32} : ∀ N, N ≤ 48 → (∀ c, c < N → 0 ≤ (f c).toInt ∧ (f c).toInt ≤ 9800000) → (asum f N).toInt = isum f N
  | 0, _, _ => nI_toInt (by decide)
  | N + 1, hN, h => by
    have h1 := asum_int N (by omega) (fun c hc => h c (by omega))
    have h2 := isum_nn (f := f) N (fun c hc => (h c (by omega)).1)
    have h3 := isum_bd (f := f) (M := 9800000) (by decide) N (fun c hc => (h c (by omega)).2)
    have h4 := h N (by omega)
    rw [isum_s, asum_s, z_add (by rw [h1]; omega) (by rw [h1]; omega), h1]
theorem isum_upd {f g : Nat → Int32} {a : Nat} (h : ∀ i, i ≠ a → g i = f i) : ∀ N, a < N → isum g N = isum f N + ((g a).toInt - (f a).toInt)
  | 0, q => absurd q (Nat.not_lt_zero _)
  | N + 1, q => by
    rw [isum_s, isum_s]
    by_cases e : a = N
    · subst e
      rw [isum_eq a (fun i hi => h i (by omega))]
      omega
    · rw [isum_upd h N (by omega), h N (fun z => e z.symm)]
      omega
theorem led_sm {x b : Int32} (hx : -1000 ≤ x.toInt ∧ x.toInt ≤ 100) (hb : -30 ≤ b.toInt ∧ b.toInt ≤ 1000) : (led x b).toInt ≤ 130 := by
  have h0 : (nI 0).toInt = 0 := nI_toInt (by decide)
  have e : (x - b).toInt = x.toInt - b.toInt := z_sub (by omega) (by omega)
  have c1 : x - b < 100000 := by
    rw [x_lt, x100, e]
    omega
  unfold led
  rw [if_pos c1]
  split <;> omega
theorem rim_isum {x : Int32} {v : qB} {w h : Nat} (hd : DW v w h) (hx : -1000 ≤ x.toInt ∧ x.toInt ≤ 100) (hb : ∀ c, c < nN v → -30 ≤ (v 1 c).toInt ∧ (v 1 c).toInt ≤ 1000) (h2 : ∀ c, 0 ≤ (v 2 c).toInt) : ∀ y, y ≤ h → (∀ c, 0 ≤ (rimF x v y 2 c).toInt) ∧ isum (rimF x v y 2) (nN v) ≤ isum (v 2) (nN v) + (y : Int) * 130
  | 0, _ => by
    refine ⟨h2, ?_⟩
    show isum (v 2) (nN v) ≤ isum (v 2) (nN v) + ((0 : Nat) : Int) * 130
    omega
  | y + 1, hy => by
    obtain ⟨i1, i2⟩ := rim_isum hd hx hb h2 y (by omega)
    obtain ⟨d1, d2, d3, d4, d5, d6, d7, d8, d9, d10⟩ := hd
    have hc : y * nW v < nN v := by
      rw [d7, d9]
      have h1 : (y + 1) * w ≤ h * w := Nat.mul_le_mul_right w hy
      rw [Nat.add_mul, Nat.mul_comm h w] at h1
      omega
    have e2 : ∀ s, rimF x v (y + 1) 2 s = if s = y * nW v then led x (v 1 (y * nW v)) else rimF x v y 2 s := by
      intro s
      show bset (bset (rimF x v y) 0 5 _) 2 (y * nW v) (led x (v 1 (y * nW v))) 2 s = _
      rw [bs_c, bs_t (by decide)]
    have l1 := led_bd x (v 1 (y * nW v))
    have l2 := led_sm hx (hb _ hc)
    refine ⟨fun c => ?_, ?_⟩
    · rw [e2]
      split
      · exact l1.1
      · exact i1 c
    · have u := isum_upd (f := rimF x v y 2) (g := rimF x v (y + 1) 2) (a := y * nW v) (fun i hi => by rw [e2, if_neg hi]) (nN v) hc
      have i3 := i1 (y * nW v)
      rw [u, e2, if_pos rfl]
      push_cast
      omega
/-- a board in the run of the law: how much water there is, stuff 1, the rain of a step, the bottoms -/
def BI (n : Nat) (B : Int) (v : qB) : Prop := WF n v ∧ isum (v 2) (nN v) ≤ B ∧ (∀ c, c < nN v → 0 ≤ (v 3 (1 * 48 + c)).toInt) ∧ isum (fun c => v 3 (1 * 48 + c)) (nN v) ≤ 6000 ∧ (0 ≤ (rainF v (rcN v)).toInt ∧ (rainF v (rcN v)).toInt ≤ 39) ∧ (∀ c, c < nN v → -30 ≤ (v 1 c).toInt)
theorem BI.st {n : Nat} {B : Int} {v : qB} (h : BI n B v) : ∀ c, c < nN v → 0 ≤ (v 3 (1 * 48 + c)).toInt ∧ (v 3 (1 * 48 + c)).toInt ≤ 100000 := fun c hc => by
  obtain ⟨-, -, h3, h4, -, -⟩ := h
  have := isum_mem (f := fun c => v 3 (1 * 48 + c)) (nN v) h3 hc
  have h5 : (v 3 (1 * 48 + c)).toInt ≤ isum (fun c => v 3 (1 * 48 + c)) (nN v) := this
  exact ⟨h3 c hc, by omega⟩
theorem BI.wat {n : Nat} {B : Int} {v : qB} (h : BI n B v) {c : Nat} (hc : c < nN v) : 0 ≤ (v 2 c).toInt ∧ (v 2 c).toInt ≤ B := by
  have h0 : ∀ c, 0 ≤ (v 2 c).toInt := fun c => (h.1.2.1.2.1 c).1
  exact ⟨h0 c, Int.le_trans (isum_mem (nN v) (fun c _ => h0 c) hc) h.2.1⟩
theorem rain_e {v v' : qB} (e : v' 8 = v 8) : ∀ k, rainF v' k = rainF v k
  | 0 => rfl
  | k + 1 => by
    show rainF v' k + v' 8 k = rainF v k + v 8 k
    rw [rain_e e k, e]
theorem nxt_t {v : qB} {t : Option Int32} {a : Nat} (h : a = 1 ∨ a = 5 ∨ a = 6 ∨ a = 7 ∨ a = 8) : nxt t v a = v a := by
  cases t with
  | none => rcases h with rfl | rfl | rfl | rfl | rfl <;> exact bs_t (by decide)
  | some x => rcases h with rfl | rfl | rfl | rfl | rfl <;> exact (bs_t (by decide)).trans (rim_tt (by decide) (by decide) _)
theorem BI_step {n : Nat} {B : Int} {v : qB} {t : Option Int32} (h : BI n B v) (hB : B ≤ 90000) (ht : ∀ x, t = some x → -1000 ≤ x.toInt ∧ x.toInt ≤ 100) : tmF v = false ∧ BI (n + 1) (B + 1000) (nxt t v) := by
  have hst := h.st
  obtain ⟨hw, h2, h3, h4, h5, h6⟩ := h
  obtain ⟨w, hg, hd⟩ := hw.dw
  have hN := nN_48 hw.gd
  have hrc : rcN v ≤ 4 := by
    obtain ⟨⟨k, wd, hg, st, p, d, rc, pc, a0, a1, a2, a3, a4, a5, a6, a7, a8, a9, b0, b1, b2, b3, b4, b5, b6, b7, -⟩, -⟩ := hw
    unfold rcN
    rw [b6, nI_clamp (by omega)]
    exact b7
  have r0 : ∀ c, c < nN v → 0 ≤ (rivF v (rcN v) c).toInt ∧ (rivF v (rcN v) c).toInt ≤ 9800000 := fun c hc => by
    have := riv_nn hw hN c (rcN v) (Nat.le_refl _) hrc
    have h9 : (rcN v : Int) ≤ 4 := by omega
    omega
  have w0 : ∀ c, 0 ≤ (v 2 c).toInt := fun c => (hw.2.1.2.1 c).1
  have r1 := asum_int (f := rivF v (rcN v)) (nN v) hN r0
  have r2 := asum_int (f := v 2) (nN v) hN (fun c hc => ⟨w0 c, by have := (hw.2.1.2.1 c).2; omega⟩)
  have r3 := riv_sum hd hw.riv (rcN v) (Nat.le_refl _)
  have r4 := isum_nn (f := v 2) (nN v) (fun c _ => w0 c)
  have r5 : isum (rivF v (rcN v)) (nN v) = isum (v 2) (nN v) + (rainF v (rcN v)).toInt := by
    rw [← r1, r3, z_add (by rw [r2]; omega) (by rw [r2]; omega), r2]
  have tm : tmF v = false := tmF_f (fun c hc => by
    have := isum_mem (f := rivF v (rcN v)) (nN v) (fun c hc => (r0 c hc).1) hc
    rw [x_le, x100]
    omega)
  refine ⟨tm, WF_nxt hw tm, ?_, ?_, ?_, ?_, ?_⟩
  · rw [nxt_N.1]
    have s2 : isum (st0 v 2) (nN v) = isum (rivF v (rcN v)) (nN v) := isum_eq _ (fun c hc => if_pos hc)
    cases t with
    | none =>
      have e2 : nxt none v 2 = st0 v 2 := bs_t (by decide)
      rw [e2, s2, r5]
      omega
    | some x =>
      have e2 : nxt (some x) v 2 = rimF x (st0 v) (nH v) 2 := bs_t (by decide)
      have hn : nN (st0 v) = nN v := nN_s (st0_s (by decide)) (st0_s (by decide))
      have hH : nH v = hg := hd.2.2.2.2.2.2.2.1
      have m := rim_isum (x := x) (DW_st0 hd) (ht x rfl) (fun c hc => by
        rw [hn] at hc
        exact ⟨h6 c hc, (hw.2.1.1 c).2⟩) (fun c => (WF_st0 hw tm).2.1.2.1 c |>.1) (nH v) (by rw [hH]; exact Nat.le_refl _)
      have hg6 : hg ≤ 6 := hd.2.2.2.2.2.1
      rw [hn, s2, r5, hH] at m
      rw [e2, hH]
      omega
  · intro c hc
    rw [nxt_N.1] at hc
    rw [nxt_3 (by decide) hc hN]
    exact (stu_nn hw hst hc).1
  · rw [nxt_N.1]
    have q1 : isum (fun c => nxt t v 3 (1 * 48 + c)) (nN v) = isum (stuF v 1 (2 * nN v)) (nN v) := isum_eq _ (fun c hc => nxt_3 (by decide) hc hN)
    have q2 := asum_int (f := stuF v 1 (2 * nN v)) (nN v) hN (fun c hc => by have := stu_nn hw hst hc; omega)
    have q3 := asum_int (f := fun c => v 3 (1 * 48 + c)) (nN v) hN (fun c hc => by
      have := hst c hc
      exact ⟨this.1, by
        show (v 3 (1 * 48 + c)).toInt ≤ 9800000
        omega⟩)
    rw [q1, ← q2, stu_sum hd, q3]
    exact h4
  · have e : rcN (nxt t v) = rcN v := by
      unfold rcN
      rw [nxt_s (by decide) (by decide) (by decide)]
    rw [e, rain_e (nxt_t (by decide))]
    exact h5
  · intro c hc
    rw [nxt_N.1] at hc
    rw [nxt_t (by decide)]
    exact h6 c hc
