/-! p56: a step in the mirror, side by side. -/
theorem mlev {v : qB} {c : Nat} (hc : c < nN v) : lev (mir v) c = lev v (opw (nW v) c) := by
  unfold lev
  rw [mir_1, mir_2, if_pos hc, if_pos hc]
theorem mir_1c {v : qB} {w h c : Nat} (hd : DW v w h) (hc : c < w * h) : mir v 1 c = v 1 (opw w c) := by
  rw [mir_1, hd.2.2.2.2.2.2.2.2.1, hd.2.2.2.2.2.2.1, if_pos hc]
theorem mir_2c {v : qB} {w h c : Nat} (hd : DW v w h) (hc : c < w * h) : mir v 2 c = v 2 (opw w c) := by
  rw [mir_2, hd.2.2.2.2.2.2.2.2.1, hd.2.2.2.2.2.2.1, if_pos hc]
theorem mlevc {v : qB} {w h c : Nat} (hd : DW v w h) (hc : c < w * h) : lev (mir v) c = lev v (opw w c) := by
  unfold lev
  rw [mir_1c hd hc, mir_2c hd hc]
theorem pf0_o {v : qB} {w h s : Nat} (hd : DW v w h) (ho : s % 2 = 1) (hs : sd w (w * h) s = true) : pf0 (mir v) s = pf0 v (so w s) := by
  have hdd := hd
  obtain ⟨d1, d2, d3, d4, d5, d6, d7, d8, d9, d10⟩ := hdd
  obtain ⟨k1, k2, k3, k4, k5⟩ := so_f d3 d4 ho hs
  obtain ⟨a1, a2⟩ := (sd_odd ho).mp hs
  obtain ⟨f1, f2⟩ := sd_far (by omega) hs
  have hW : nW (mir v) = w := d7
  unfold pf0
  rw [hW, mlev (by rw [d9]; exact a1), mlev (by rw [d9]; exact f1), mir_4o ho, if_pos (by rw [d9]; exact a1), d7, k3, k4]
  have e : wnd (mir v) s = wnd v (so w s) := by
    unfold wnd
    rw [if_pos ho, if_pos k2]
    rfl
  rw [e]
  rfl
theorem pf0_e {n : Nat} {v : qB} {w h s : Nat} (hw : WF n v) (hd : DW v w h) (he : s % 2 = 0) (hs : sd w (w * h) s = true) : pf0 (mir v) s = -(pf0 v (se w s)) := by
  have hb := (pf0_bd hw (se w s)).1
  have hdd := hd
  obtain ⟨d1, d2, d3, d4, d5, d6, d7, d8, d9, d10⟩ := hdd
  obtain ⟨k1, k2, k3, k4, k5⟩ := se_f d3 d4 he hs
  obtain ⟨a1, a2⟩ := (sd_evn he).mp hs
  obtain ⟨f1, f2⟩ := sd_far (by omega) hs
  have hW : nW (mir v) = w := d7
  rw [d7, k3, k4] at hb
  unfold pf0
  rw [hW, mlev (by rw [d9]; exact a1), mlev (by rw [d9]; exact f1), mir_4e he, if_pos (by rw [d9, d7]; exact ⟨a1, a2⟩), d7, k3, k4]
  have e : wnd (mir v) s = -(wnd v (se w s)) := by
    show (if v 0 0 = nI 3 then nI 0 else if s % 2 = 1 then v 0 11 else -(v 0 10)) = -(if v 0 0 = nI 3 then nI 0 else if se w s % 2 = 1 then v 0 11 else v 0 10)
    rw [if_neg (show ¬ s % 2 = 1 by omega), if_neg (show ¬ se w s % 2 = 1 by omega)]
    split
    · exact n_zero.symm
    · rfl
  have e8 : mir v 0 8 = v 0 8 := rfl
  have e2 : v 0 8 * (lev v (opw w (s / 2)) - lev v (opw w (far w s))) = -(v 0 8 * (lev v (opw w (far w s)) - lev v (opw w (s / 2)))) := by grind
  rw [e, e8, e2, neg_dv (by decide) (by decide) hb.1 hb.2]
  grind
theorem pf1_e {n : Nat} {v : qB} {w h s : Nat} (hw : WF n v) (hd : DW v w h) (he : s % 2 = 0) (hs : sd w (w * h) s = true) : pf1 (mir v) s = -(pf1 v (se w s)) := by
  obtain ⟨d, e1, e2, e3⟩ := hw.drag
  have hb := (pf0_bd hw (se w s)).2
  have e9 : mir v 0 9 = v 0 9 := rfl
  unfold pf1
  rw [pf0_e hw hd he hs, e9, e1, neg_dv (by omega) (by omega) hb.1 hb.2]
  grind
theorem pf1_bd {n : Nat} {v : qB} (hw : WF n v) (s : Nat) : -2000000 ≤ (pf1 v s).toInt ∧ (pf1 v s).toInt ≤ 2000000 := by
  obtain ⟨d, e1, e2, e3⟩ := hw.drag
  have hb := (pf0_bd hw s).2
  unfold pf1
  rw [e1]
  have q := (z_div (x := pf0 v s) (d := d) (by omega) (by omega) (m := 1000000) (by decide) hb.1 hb.2).2
  rw [z_sub (by omega) (by omega)]
  omega
theorem pfv_o {v : qB} {w h s : Nat} (hd : DW v w h) (ho : s % 2 = 1) (hs : sd w (w * h) s = true) : pfv (mir v) s = pfv v (so w s) := by
  have e0 := pf0_o hd ho hs
  have e1 : pf1 (mir v) s = pf1 v (so w s) := by
    unfold pf1
    rw [e0]
    rfl
  have hdd := hd
  obtain ⟨d1, d2, d3, d4, d5, d6, d7, d8, d9, d10⟩ := hdd
  obtain ⟨k1, k2, k3, k4, k5⟩ := so_f d3 d4 ho hs
  obtain ⟨a1, a2⟩ := (sd_odd ho).mp hs
  obtain ⟨f1, f2⟩ := sd_far (by omega) hs
  have hW : nW (mir v) = w := d7
  unfold pfv
  rw [e1, hW, mlevc hd a1, mlevc hd f1, mir_1c hd a1, mir_1c hd f1, mir_2c hd a1, mir_2c hd f1, d7, k3, k4]
theorem pfv_e {n : Nat} {v : qB} {w h s : Nat} (hw : WF n v) (hd : DW v w h) (he : s % 2 = 0) (hs : sd w (w * h) s = true) : pfv (mir v) s = -(pfv v (se w s)) := by
  have e1 := pf1_e hw hd he hs
  have hb := pf1_bd hw (se w s)
  have hdd := hd
  obtain ⟨d1, d2, d3, d4, d5, d6, d7, d8, d9, d10⟩ := hdd
  obtain ⟨k1, k2, k3, k4, k5⟩ := se_f d3 d4 he hs
  obtain ⟨a1, a2⟩ := (sd_evn he).mp hs
  obtain ⟨f1, f2⟩ := sd_far (by omega) hs
  have hW : nW (mir v) = w := d7
  unfold pfv
  rw [e1, hW, mlevc hd a1, mlevc hd f1, mir_1c hd a1, mir_1c hd f1, mir_2c hd a1, mir_2c hd f1, d7, k3, k4]
  generalize pf1 v (se w s) = g at hb
  have hn : (-g).toInt = -g.toInt := z_neg (by omega)
  rcases (show g.toInt < 0 ∨ g.toInt = 0 ∨ 0 < g.toInt by omega) with q | q | q
  · have u1 : ¬ -g ≤ nI 0 := by rw [le0_iff]; omega
    have u2 : g ≤ nI 0 := by rw [le0_iff]; omega
    rw [if_neg u1, if_pos u2]
    by_cases c1 : v 2 (opw w (s / 2)) = nI 0
    · rw [if_pos c1, if_pos c1, n_zero]
    · rw [if_neg c1, if_neg c1]
      by_cases c2 : v 1 (opw w (far w s)) < lev v (opw w (s / 2))
      · rw [if_pos c2, if_pos c2]
      · rw [if_neg c2, if_neg c2, n_zero]
  · have g0 : g = nI 0 := eq0_iff.mpr q
    subst g0
    have u1 : (nI 0 : Int32) ≤ nI 0 := by rw [le0_iff]; omega
    rw [n_zero, if_pos u1, if_pos u1]
    have z : ∀ (a b : Prop) [Decidable a] [Decidable b], (if a then nI 0 else if b then nI 0 else nI 0) = (nI 0 : Int32) := fun a b _ _ => by
      split
      · rfl
      · split <;> rfl
    rw [z, z, n_zero]
  · have u1 : -g ≤ nI 0 := by rw [le0_iff]; omega
    have u2 : ¬ g ≤ nI 0 := by rw [le0_iff]; omega
    rw [if_pos u1, if_neg u2]
    by_cases c1 : v 2 (opw w (far w s)) = nI 0
    · rw [if_pos c1, if_pos c1, n_zero]
    · rw [if_neg c1, if_neg c1]
      by_cases c2 : v 1 (opw w (s / 2)) < lev v (opw w (far w s))
      · rw [if_pos c2, if_pos c2]
      · rw [if_neg c2, if_neg c2, n_zero]
theorem pfl_no {v : qB} {s : Nat} (h : ¬ sd (nW v) (nN v) s = true) : pfl v s = nI 0 := if_neg (fun q => h q.1)
theorem pfl_m {n : Nat} {v : qB} {w h : Nat} (hw : WF n v) (hd : DW v w h) (s : Nat) : pfl (mir v) s = sn s (pfl v (sg w (w * h) s)) := by
  have hdd := hd
  obtain ⟨d1, d2, d3, d4, d5, d6, d7, d8, d9, d10⟩ := hdd
  have hW : nW (mir v) = w := d7
  have hN : nN (mir v) = w * h := d9
  by_cases q : sd w (w * h) s = true
  · rcases (show s % 2 = 1 ∨ s % 2 = 0 by omega) with o | e
    · obtain ⟨k1, k2, k3, k4, k5⟩ := so_f d3 d4 o q
      obtain ⟨a1, a2⟩ := (sd_odd o).mp q
      have e1 : sg w (w * h) s = so w s := by
        unfold sg
        rw [if_pos q, if_pos o]
      rw [e1]
      unfold sn
      rw [if_pos o]
      have m5 : mir v 5 s = v 5 (so w s) := by rw [mir_5o o, d9, if_pos a1, d7]
      unfold pfl
      rw [hW, hN, d7, d9, pfv_o hd o q, m5]
      by_cases c : v 5 (so w s) = nI 0
      · rw [if_pos ⟨q, c⟩, if_pos ⟨k1, c⟩]
      · rw [if_neg (fun z => c z.2), if_neg (fun z => c z.2)]
    · obtain ⟨k1, k2, k3, k4, k5⟩ := se_f d3 d4 e q
      obtain ⟨a1, a2⟩ := (sd_evn e).mp q
      have e1 : sg w (w * h) s = se w s := by
        unfold sg
        rw [if_pos q, if_neg (by omega)]
      rw [e1]
      unfold sn
      rw [if_neg (by omega)]
      have m5 : mir v 5 s = v 5 (se w s) := by rw [mir_5e e, d9, d7, if_pos ⟨a1, a2⟩]
      unfold pfl
      rw [hW, hN, d7, d9, pfv_e hw hd e q, m5]
      by_cases c : v 5 (se w s) = nI 0
      · rw [if_pos ⟨q, c⟩, if_pos ⟨k1, c⟩]
      · rw [if_neg (fun z => c z.2), if_neg (fun z => c z.2), n_zero]
  · have e1 : sg w (w * h) s = s := if_neg q
    rw [e1, pfl_no (v := v) (by rw [d7, d9]; exact q), pfl_no (v := mir v) (by rw [hW, hN]; exact q), sn_0]
theorem sn_z {s : Nat} {x : Int32} (hb : -1000000 ≤ x.toInt) : sn s x = nI 0 ↔ x = nI 0 := by
  unfold sn
  split
  · exact Iff.rfl
  · rw [eq0_iff, eq0_iff, z_neg (by omega)]
    omega
theorem ab_sn {s : Nat} {x : Int32} (h1 : -1000000 ≤ x.toInt) (h2 : x.toInt ≤ 1000000) : ab (sn s x) = ab x := by
  unfold sn
  split
  · rfl
  · have hn : (-x).toInt = -x.toInt := z_neg (by omega)
    rw [x_eq, az_ab (m := 1000000) (by decide) (by omega) (by omega), az_ab (m := 1000000) (by decide) (by omega) (by omega)]
    unfold az
    rw [hn]
    split <;> split <;> omega
/-- source and destination of a flow f on side s, in the mirror -/
theorem src_m {v : qB} {w h s : Nat} {x : Int32} (hd : DW v w h) (hs : sd w (w * h) s = true) (hx : ¬ x = nI 0) (hb : -1000000 ≤ x.toInt) : srcF (mir v) (sn s x) s = opw w (srcF v x (sg w (w * h) s)) ∧ dstF (mir v) (sn s x) s = opw w (dstF v x (sg w (w * h) s)) := by
  have hdd := hd
  obtain ⟨d1, d2, d3, d4, d5, d6, d7, d8, d9, d10⟩ := hdd
  have hW : nW (mir v) = w := d7
  obtain ⟨f1, f2⟩ := sd_far (by omega) hs
  unfold srcF dstF
  rw [hW, d7]
  rcases (show s % 2 = 1 ∨ s % 2 = 0 by omega) with o | e
  · obtain ⟨k1, k2, k3, k4, k5⟩ := so_f d3 d4 o hs
    obtain ⟨a1, a2⟩ := (sd_odd o).mp hs
    have e1 : sg w (w * h) s = so w s := by
      unfold sg
      rw [if_pos hs, if_pos o]
    have e2 : sn s x = x := if_pos o
    rw [e1, e2, k3, k4]
    have o1 := (opw_f d3 d4 a1).2.1
    have o2 := (opw_f d3 d4 f1).2.1
    by_cases c : x ≤ nI 0
    · rw [if_pos c, if_pos c, if_pos c, if_pos c, o1, o2]
      exact ⟨rfl, rfl⟩
    · rw [if_neg c, if_neg c, if_neg c, if_neg c, o1, o2]
      exact ⟨rfl, rfl⟩
  · obtain ⟨k1, k2, k3, k4, k5⟩ := se_f d3 d4 e hs
    obtain ⟨a1, a2⟩ := (sd_evn e).mp hs
    have e1 : sg w (w * h) s = se w s := by
      unfold sg
      rw [if_pos hs, if_neg (by omega)]
    have e2 : sn s x = -x := if_neg (by omega)
    have o1 := (opw_f d3 d4 a1).2.1
    have o2 := (opw_f d3 d4 f1).2.1
    have hn : (-x).toInt = -x.toInt := z_neg (by omega)
    have hx' : ¬ x.toInt = 0 := fun z => hx (eq0_iff.mpr z)
    rw [e1, e2, k3, k4]
    by_cases c : x ≤ nI 0
    · have c' : ¬ -x ≤ nI 0 := by
        rw [le0_iff] at c ⊢
        omega
      rw [if_pos c, if_neg c', if_pos c, if_neg c', o1, o2]
      exact ⟨rfl, rfl⟩
    · have c' : -x ≤ nI 0 := by
        rw [le0_iff] at c ⊢
        omega
      rw [if_neg c, if_pos c', if_neg c, if_pos c', o1, o2]
      exact ⟨rfl, rfl⟩
/-! Sums over sides. -/
def oT (v : qB) (c s : Nat) : Int32 := if pfl v s = nI 0 then nI 0 else if c = srcF v (pfl v s) s then ab (pfl v s) else nI 0
theorem out_s {v : qB} {c : Nat} : ∀ n, outF v n c = asum (oT v c) n
  | 0 => rfl
  | n + 1 => by
    have z : (nI 0 : Int32) = 0 := rfl
    rw [asum_s, ← out_s n]
    show (if pfl v n = nI 0 then outF v n c else if c = srcF v (pfl v n) n then outF v n c + ab (pfl v n) else outF v n c) = outF v n c + oT v c n
    unfold oT
    by_cases q : pfl v n = nI 0
    · rw [if_pos q, if_pos q, z, Int32.add_zero]
    · rw [if_neg q, if_neg q]
      by_cases q2 : c = srcF v (pfl v n) n
      · rw [if_pos q2, if_pos q2]
      · rw [if_neg q2, if_neg q2, z, Int32.add_zero]
def wT (v : qB) (c s : Nat) : Int32 := if lfl v s = nI 0 then nI 0 else if c = s / 2 then -(lfl v s) else if c = far (nW v) s then lfl v s else nI 0
theorem wat_s {v : qB} {c : Nat} : ∀ n, watF v n c = v 2 c + asum (wT v c) n
  | 0 => by
    have z : (nI 0 : Int32) = 0 := rfl
    show v 2 c = v 2 c + nI 0
    rw [z, Int32.add_zero]
  | n + 1 => by
    have z : (nI 0 : Int32) = 0 := rfl
    have ih := wat_s (v := v) (c := c) n
    rw [asum_s]
    show (if lfl v n = nI 0 then watF v n c else if c = n / 2 then watF v n c - lfl v n else if c = far (nW v) n then watF v n c + lfl v n else watF v n c) = v 2 c + (asum (wT v c) n + wT v c n)
    have e : wT v c n = if lfl v n = nI 0 then nI 0 else if c = n / 2 then -(lfl v n) else if c = far (nW v) n then lfl v n else nI 0 := rfl
    rw [e]
    by_cases q : lfl v n = nI 0
    · rw [if_pos q, if_pos q, ih, z, Int32.add_zero]
    · rw [if_neg q, if_neg q]
      by_cases q2 : c = n / 2
      · rw [if_pos q2, if_pos q2, ih]
        grind
      · rw [if_neg q2, if_neg q2]
        by_cases q3 : c = far (nW v) n
        · rw [if_pos q3, if_pos q3, ih]
          grind
        · rw [if_neg q3, if_neg q3, ih, z, Int32.add_zero]
def sT (v : qB) (k c s : Nat) : Int32 := if lfl v s = nI 0 then nI 0 else if c = srcF v (lfl v s) s then -(shr (v 3 (k * 48 + c)) (ab (lfl v s)) (v 2 c)) else if c = dstF v (lfl v s) s then shr (v 3 (k * 48 + srcF v (lfl v s) s)) (ab (lfl v s)) (v 2 (srcF v (lfl v s) s)) else nI 0
theorem stu_s {v : qB} {k c : Nat} : ∀ n, stuF v k n c = v 3 (k * 48 + c) + asum (sT v k c) n
  | 0 => by
    have z : (nI 0 : Int32) = 0 := rfl
    show v 3 (k * 48 + c) = v 3 (k * 48 + c) + nI 0
    rw [z, Int32.add_zero]
  | n + 1 => by
    have z : (nI 0 : Int32) = 0 := rfl
    have ih := stu_s (v := v) (k := k) (c := c) n
    rw [asum_s]
    show (if lfl v n = nI 0 then stuF v k n c else if c = srcF v (lfl v n) n then stuF v k n c - shr (v 3 (k * 48 + c)) (ab (lfl v n)) (v 2 c) else if c = dstF v (lfl v n) n then stuF v k n c + shr (v 3 (k * 48 + srcF v (lfl v n) n)) (ab (lfl v n)) (v 2 (srcF v (lfl v n) n)) else stuF v k n c) = v 3 (k * 48 + c) + (asum (sT v k c) n + sT v k c n)
    have e : sT v k c n = if lfl v n = nI 0 then nI 0 else if c = srcF v (lfl v n) n then -(shr (v 3 (k * 48 + c)) (ab (lfl v n)) (v 2 c)) else if c = dstF v (lfl v n) n then shr (v 3 (k * 48 + srcF v (lfl v n) n)) (ab (lfl v n)) (v 2 (srcF v (lfl v n) n)) else nI 0 := rfl
    rw [e]
    by_cases q : lfl v n = nI 0
    · rw [if_pos q, if_pos q, ih, z, Int32.add_zero]
    · rw [if_neg q, if_neg q]
      by_cases q2 : c = srcF v (lfl v n) n
      · rw [if_pos q2, if_pos q2, ih]
        grind
      · rw [if_neg q2, if_neg q2]
        by_cases q3 : c = dstF v (lfl v n) n
        · rw [if_pos q3, if_pos q3, ih]
          grind
        · rw [if_neg q3, if_neg q3, ih, z, Int32.add_zero]
