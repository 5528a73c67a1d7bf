/-! p56: sums over cells (Int32, that wraps): water, rivers, the rim, stuffs. -/
theorem asum_s {f : Nat → Int32} {N : Nat} : asum f (N + 1) = asum f N + f N := rfl
theorem asum_add {f g : Nat → Int32} : ∀ N, asum (fun i => f i + g i) N = asum f N + asum g N
  | 0 => by
    show nI 0 = nI 0 + nI 0
    decide +kernel
  | N + 1 => by
    rw [asum_s, asum_s, asum_s, asum_add N]
    grind
theorem asum_upd {f g : Nat → Int32} {a : Nat} (h : ∀ i, i ≠ a → g i = f i) : ∀ N, a < N → asum g N = asum f N + (g a - f a)
  | 0, q => absurd q (Nat.not_lt_zero _)
  | N + 1, q => by
    rw [asum_s, asum_s]
    by_cases e : a = N
    · subst e
      rw [asum_eq a (fun i hi => h i (by omega))]
      grind
    · rw [asum_upd h N (by omega), h N (fun z => e z.symm)]
      grind
theorem wat_sum {v : qB} {w h : Nat} (hd : DW v w h) : ∀ n, asum (watF v n) (nN v) = asum (v 2) (nN v)
  | 0 => rfl
  | n + 1 => by
    have hdd := hd
    obtain ⟨d1, d2, d3, d4, d5, d6, d7, d8, d9, d10⟩ := hdd
    rw [← wat_sum hd n]
    by_cases q : lfl v n = nI 0
    · exact asum_eq _ (fun c _ => if_pos q)
    · have hs := lfl_sd q
      have h1 := sd_lt hs
      rw [d7, d9] at hs
      obtain ⟨h2, h3⟩ := sd_far (by omega) hs
      rw [← d9] at h2
      have e1 : ∀ c, watF v (n + 1) c = if c = n / 2 then watF v n c - lfl v n else if c = far w n then watF v n c + lfl v n else watF v n c := fun c => by
        rw [← d7]
        exact if_neg q
      generalize hg : (fun c => if c = n / 2 then watF v n c - lfl v n else watF v n c) = g
      have g1 : ∀ c, g c = if c = n / 2 then watF v n c - lfl v n else watF v n c := fun c => by rw [← hg]
      have a1 := asum_upd (f := watF v n) (g := g) (a := n / 2) (fun i hi => by rw [g1, if_neg hi]) (nN v) (by omega)
      have a2 := asum_upd (f := g) (g := watF v (n + 1)) (a := far w n) (fun i hi => by
        rw [g1, e1]
        by_cases z : i = n / 2
        · rw [if_pos z, if_pos z]
        · rw [if_neg z, if_neg z, if_neg hi]) (nN v) h2
      rw [a2, a1, g1, g1, e1, if_pos rfl, if_neg h3, if_neg h3, if_pos rfl]
      grind
theorem riv_sum {v : qB} {w h : Nat} (hd : DW v w h) (hr : ∀ k, k < rcN v → ∃ c, c < nN v ∧ v 7 k = nI c) : ∀ k, k ≤ rcN v → asum (rivF v k) (nN v) = asum (v 2) (nN v) + rainF v k
  | 0, _ => by
    show asum (watF v (2 * nN v)) (nN v) = asum (v 2) (nN v) + nI 0
    rw [wat_sum hd]
    have : (nI 0 : Int32) = 0 := rfl
    rw [this]
    grind
  | k + 1, hk => by
    obtain ⟨c, hc, e⟩ := hr k (by omega)
    have hN : nN v ≤ 48 := by
      have := hd.2.2.2.2.2.2.2.2
      omega
    have hcl : (v 7 k).toNatClampNeg = c := by rw [e, nI_clamp (by omega)]
    have e1 : ∀ i, rivF v (k + 1) i = if i = c then rivF v k i + v 8 k else rivF v k i := fun i => by
      rw [← hcl]
      rfl
    have a1 := asum_upd (f := rivF v k) (g := rivF v (k + 1)) (a := c) (fun i hi => by rw [e1, if_neg hi]) (nN v) hc
    rw [a1, e1, if_pos rfl, riv_sum hd hr k (by omega)]
    show _ = asum (v 2) (nN v) + (rainF v k + v 8 k)
    grind
theorem rim_sum {x : Int32} {v : qB} {w h : Nat} (hd : DW v w h) : ∀ y, y ≤ h → asum (rimF x v y 2) (nN v) - rimF x v y 0 5 = asum (v 2) (nN v) - v 0 5
  | 0, _ => rfl
  | y + 1, hy => by
    have hdd := hd
    obtain ⟨d1, d2, d3, d4, d5, d6, d7, d8, d9, d10⟩ := hdd
    have ih := rim_sum (x := x) hd y (by omega)
    have hc : y * nW v < nN v := by
      rw [d7, d9]
      have h1 : (y + 1) * w ≤ h * w := Nat.mul_le_mul_right w hy
      rw [Nat.add_mul, Nat.mul_comm h w] at h1
      omega
    have e2 : rimF x v (y + 1) 2 = bset (rimF x v y) 2 (y * nW v) (led x (v 1 (y * nW v))) 2 := by
      funext s
      show bset (bset (rimF x v y) 0 5 _) 2 (y * nW v) (led x (v 1 (y * nW v))) 2 s = _
      rw [bs_c, bs_c, bs_t (by decide)]
    have e5 : rimF x v (y + 1) 0 5 = rimF x v y 0 5 + (led x (v 1 (y * nW v)) - rimF x v y 2 (y * nW v)) := by
      show bset (bset (rimF x v y) 0 5 _) 2 (y * nW v) (led x (v 1 (y * nW v))) 0 5 = _
      rw [bs_t (by decide), bs_e]
    have a1 := asum_upd (f := rimF x v y 2) (g := rimF x v (y + 1) 2) (a := y * nW v) (fun i hi => by rw [e2, bs_s hi]) (nN v) hc
    rw [a1, e5, e2, bs_e]
    grind
theorem rim_05 {x : Int32} {v : qB} : ∀ y s, s ≠ 5 → rimF x v y 0 s = v 0 s
  | 0, _, _ => rfl
  | y + 1, s, hs => by
    show bset (bset (rimF x v y) 0 5 _) 2 (y * nW v) (led x (v 1 (y * nW v))) 0 s = _
    rw [bs_t (by decide), bs_s hs, rim_05 y s hs]
theorem rim_tt {x : Int32} {v : qB} {t : Nat} (h0 : t ≠ 0) (h2 : t ≠ 2) : ∀ y, rimF x v y t = v t
  | 0 => rfl
  | y + 1 => by
    show bset (bset (rimF x v y) 0 5 _) 2 (y * nW v) (led x (v 1 (y * nW v))) t = _
    rw [bs_t h2, bs_t h0, rim_tt h0 h2 y]
theorem DW_st0 {v : qB} {w h : Nat} (hd : DW v w h) : DW (st0 v) w h := DW_s hd (st0_s (by decide)) (st0_s (by decide))
theorem WF.dw {n : Nat} {v : qB} (h : WF n v) : ∃ w hg, DW v w hg := h.gd.dw
theorem WF.riv {n : Nat} {v : qB} (h : WF n v) : ∀ k, k < rcN v → ∃ c, c < nN v ∧ v 7 k = nI c := h.2.2.1
theorem nxt_mass {n : Nat} {v : qB} {t : Option Int32} (hw : WF n v) : tel (nxt t v) 4 - tel (nxt t v) 5 - tel (nxt t v) 6 = tel v 4 - tel v 5 - tel v 6 := by
  obtain ⟨w, h, hd⟩ := hw.dw
  have hN : nN (nxt t v) = nN v := nxt_N.1
  have r := riv_sum hd hw.riv (rcN v) (Nat.le_refl _)
  have s2 : asum (st0 v 2) (nN v) = asum (rivF v (rcN v)) (nN v) := asum_eq _ (fun c hc => if_pos hc)
  have s4 : st0 v 0 4 = v 0 4 + rainF v (rcN v) := rfl
  have s5 : st0 v 0 5 = v 0 5 := rfl
  show asum (nxt t v 2) (nN (nxt t v)) - nxt t v 0 4 - nxt t v 0 5 = asum (v 2) (nN v) - v 0 4 - v 0 5
  rw [hN]
  cases t with
  | none =>
    have e2 : nxt none v 2 = st0 v 2 := bs_t (by decide)
    have e4 : nxt none v 0 4 = st0 v 0 4 := bs_s (by decide)
    have e5 : nxt none v 0 5 = st0 v 0 5 := bs_s (by decide)
    rw [e2, e4, e5, s2, r, s4, s5]
    grind
  | some x =>
    have e2 : nxt (some x) v 2 = rimF x (st0 v) (nH v) 2 := bs_t (by decide)
    have e4 : nxt (some x) v 0 4 = rimF x (st0 v) (nH v) 0 4 := bs_s (by decide)
    have e5 : nxt (some x) v 0 5 = rimF x (st0 v) (nH v) 0 5 := bs_s (by decide)
    have hn : nN (st0 v) = nN v := nN_s (st0_s (by decide)) (st0_s (by decide))
    have m := rim_sum (x := x) (DW_st0 hd) (nH v) (by rw [hd.2.2.2.2.2.2.2.1]; exact Nat.le_refl _)
    rw [hn] at m
    rw [e2, e4, e5, rim_05 _ 4 (by decide), s4]
    rw [s2, r, s5] at m
    grind
theorem stu_sum {v : qB} {w h k : Nat} (hd : DW v w h) : ∀ n, asum (stuF v k n) (nN v) = asum (fun c => v 3 (k * 48 + c)) (nN v)
  | 0 => rfl
  | n + 1 => by
    rw [← stu_sum hd n]
    by_cases q : lfl v n = nI 0
    · exact asum_eq _ (fun c _ => if_pos q)
    · obtain ⟨h1, h2, h3⟩ := srcF_lt (f := lfl v n) hd (lfl_sd q)
      have hdd := hd
      obtain ⟨d1, d2, d3, d4, d5, d6, d7, d8, d9, d10⟩ := hdd
      rw [← d9] at h1 h2
      generalize hp : srcF v (lfl v n) n = p at *
      generalize hr : dstF v (lfl v n) n = r at *
      have e1 : ∀ c, stuF v k (n + 1) c = if c = p then stuF v k n c - shr (v 3 (k * 48 + c)) (ab (lfl v n)) (v 2 c) else if c = r then stuF v k n c + shr (v 3 (k * 48 + p)) (ab (lfl v n)) (v 2 p) else stuF v k n c := fun c => by
        rw [← hp, ← hr]
        exact if_neg q
      generalize hg : (fun c => if c = p then stuF v k n c - shr (v 3 (k * 48 + c)) (ab (lfl v n)) (v 2 c) else stuF v k n c) = g
      have g1 : ∀ c, g c = if c = p then stuF v k n c - shr (v 3 (k * 48 + c)) (ab (lfl v n)) (v 2 c) else stuF v k n c := fun c => by rw [← hg]
      have a1 := asum_upd (f := stuF v k n) (g := g) (a := p) (fun i hi => by rw [g1, if_neg hi]) (nN v) h1
      have a2 := asum_upd (f := g) (g := stuF v k (n + 1)) (a := r) (fun i hi => by
        rw [g1, e1]
        by_cases z : i = p
        · rw [if_pos z, if_pos z]
        · rw [if_neg z, if_neg z, if_neg hi]) (nN v) h2
      rw [a2, a1, g1, g1, e1, if_pos rfl, if_neg (Ne.symm h3), if_neg (Ne.symm h3), if_pos rfl]
      grind
theorem nxt_3 {v : qB} {t : Option Int32} {k c : Nat} (hk : k < 3) (hc : c < nN v) (hN : nN v ≤ 48) : nxt t v 3 (k * 48 + c) = stuF v k (2 * nN v) c := by
  have e : st0 v 3 (k * 48 + c) = stuF v k (2 * nN v) c := by
    show (if (k * 48 + c) % 48 < nN v ∧ k * 48 + c < 144 then stuF v ((k * 48 + c) / 48) (2 * nN v) ((k * 48 + c) % 48) else v 3 (k * 48 + c)) = _
    rw [show (k * 48 + c) % 48 = c by omega, show (k * 48 + c) / 48 = k by omega, if_pos ⟨hc, by omega⟩]
  cases t with
  | none => exact (congrFun (bs_t (by decide)) _).trans e
  | some x => exact (congrFun ((bs_t (by decide)).trans (rim_tt (by decide) (by decide) _)) _).trans e
theorem nxt_stuff {n : Nat} {v : qB} {t : Option Int32} (hw : WF n v) : tel (nxt t v) 8 = tel v 8 := by
  obtain ⟨w, h, hd⟩ := hw.dw
  have hN : nN (nxt t v) = nN v := nxt_N.1
  have h48 := nN_48 hw.gd
  show asum (fun c => nxt t v 3 (1 * 48 + c)) (nN (nxt t v)) = asum (fun c => v 3 (1 * 48 + c)) (nN v)
  rw [hN, ← stu_sum hd (k := 1) (2 * nN v)]
  exact asum_eq _ (fun c hc => nxt_3 (by decide) hc h48)
