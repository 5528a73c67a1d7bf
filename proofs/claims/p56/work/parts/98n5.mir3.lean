/-! p56: a step in the mirror, the whole. -/
theorem sg_no {w N s : Nat} (h : ¬ sd w N s = true) : sg w N s = s := if_neg h
theorem sd_of_sg {w N s : Nat} (h : sd w N (sg w N s) = true) : sd w N s = true := by
  by_cases q : sd w N s = true
  · exact q
  · rw [sg_no q] at h
    exact absurd h q
theorem opw_sw {w h a b : Nat} (h1 : 2 ≤ w) (h2 : w ≤ 8) (ha : a < w * h) (hb : b < w * h) : a = opw w b ↔ opw w a = b := by
  constructor
  · intro e
    rw [e]
    exact (opw_f h1 h2 hb).2.1
  · intro e
    rw [← e]
    exact (opw_f h1 h2 ha).2.1.symm
theorem pf_bd' {n : Nat} {v : qB} (hw : WF n v) (s : Nat) : -1000000 ≤ (pfl v s).toInt ∧ (pfl v s).toInt ≤ 1000000 := by
  have := pf_bd hw s
  omega
theorem out_m {n : Nat} {v : qB} {w h c : Nat} (hw : WF n v) (hd : DW v w h) (hc : c < w * h) : outF (mir v) (2 * (w * h)) c = outF v (2 * (w * h)) (opw w c) := by
  have hdd := hd
  obtain ⟨d1, d2, d3, d4, d5, d6, d7, d8, d9, d10⟩ := hdd
  rw [out_s, out_s, ← asum_pm (f := oT v (opw w c)) (σ := sg w (w * h)) (fun s hs => sg_lt d3 d4 hs) (fun s => sg_iv d3 d4)]
  refine asum_eq _ (fun s hs => ?_)
  show oT (mir v) c s = oT v (opw w c) (sg w (w * h) s)
  have hb := pf_bd' hw (sg w (w * h) s)
  unfold oT
  rw [pfl_m hw hd]
  by_cases q : pfl v (sg w (w * h) s) = nI 0
  · rw [if_pos ((sn_z hb.1).mpr q), if_pos q]
  · have q1 := pfl_sd q
    rw [d7, d9] at q1
    have q2 := sd_of_sg q1
    obtain ⟨m1, -⟩ := src_m hd q2 q hb.1
    have l1 := (srcF_lt (f := pfl v (sg w (w * h) s)) hd (by rw [d7, d9]; exact q1)).1
    rw [if_neg (fun z => q ((sn_z hb.1).mp z)), if_neg q, m1, ab_sn hb.1 hb.2]
    by_cases z : opw w c = srcF v (pfl v (sg w (w * h) s)) (sg w (w * h) s)
    · rw [if_pos ((opw_sw d3 d4 hc l1).mpr z), if_pos z]
    · rw [if_neg (fun y => z ((opw_sw d3 d4 hc l1).mp y)), if_neg z]
theorem shr_neg {f W O : Int32} (hf : -1000000 ≤ f.toInt ∧ f.toInt ≤ 1000000) (h0 : 0 ≤ W.toInt) (h1 : W.toInt < O.toInt) : shr (-f) W O = -(shr f W O) := by
  have e1 := shr_toInt (f := f) h0 h1
  have e2 := shr_toInt (f := -f) h0 h1
  have hn : ((f.toInt * W.toInt).tdiv O.toInt).natAbs ≤ f.toInt.natAbs := by
    rw [Int.natAbs_tdiv, Int.natAbs_mul]
    have h3 : W.toInt.natAbs ≤ O.toInt.natAbs := by omega
    calc f.toInt.natAbs * W.toInt.natAbs / O.toInt.natAbs ≤ f.toInt.natAbs * O.toInt.natAbs / O.toInt.natAbs := Nat.div_le_div_right (Nat.mul_le_mul_left _ h3)
      _ = f.toInt.natAbs := Nat.mul_div_cancel _ (by omega)
  rw [x_eq, e2, z_neg (x := f) (by omega), z_neg (x := shr f W O) (by rw [e1]; omega), e1, Int.neg_mul, Int.neg_tdiv]
theorem lfl_m {n : Nat} {v : qB} {w h : Nat} (hw : WF n v) (hd : DW v w h) (s : Nat) : lfl (mir v) s = sn s (lfl v (sg w (w * h) s)) := by
  have hdd := hd
  obtain ⟨d1, d2, d3, d4, d5, d6, d7, d8, d9, d10⟩ := hdd
  have hN : nN (mir v) = w * h := d9
  have hb := pf_bd' hw (sg w (w * h) s)
  unfold lfl
  rw [pfl_m hw hd, hN, d9]
  by_cases q : pfl v (sg w (w * h) s) = nI 0
  · rw [if_pos ((sn_z hb.1).mpr q), if_pos q, sn_0]
  · have q1 := pfl_sd q
    rw [d7, d9] at q1
    have q2 := sd_of_sg q1
    obtain ⟨m1, -⟩ := src_m hd q2 q hb.1
    have l1 := (srcF_lt (f := pfl v (sg w (w * h) s)) hd (by rw [d7, d9]; exact q1)).1
    have l2 := opw_f d3 d4 l1
    rw [if_neg (fun z => q ((sn_z hb.1).mp z)), if_neg q, m1, out_m hw hd l2.1, l2.2.1, mir_2c hd l2.1, l2.2.1]
    generalize srcF v (pfl v (sg w (w * h) s)) (sg w (w * h) s) = p at *
    by_cases c : outF v (2 * (w * h)) p ≤ v 2 p
    · rw [if_pos c, if_pos c]
    · rw [if_neg c, if_neg c]
      have c' := c
      rw [x_le] at c'
      unfold sn
      split
      · rfl
      · exact shr_neg hb (hw.2.1.2.1 p).1 (by omega)
theorem lf_bd' {n : Nat} {v : qB} (hw : WF n v) {s : Nat} (hs : s < 2 * nN v) : -1000000 ≤ (lfl v s).toInt ∧ (lfl v s).toInt ≤ 1000000 := by
  have := lf_bd hw (nN_48 hw.gd) hs
  omega
theorem lfl_no {v : qB} {s : Nat} (h : ¬ sd (nW v) (nN v) s = true) : lfl v s = nI 0 := if_pos (pfl_no h)
theorem wT_m {n : Nat} {v : qB} {w h c s : Nat} (hw : WF n v) (hd : DW v w h) (hc : c < w * h) (hs : s < 2 * (w * h)) : wT (mir v) c s = wT v (opw w c) (sg w (w * h) s) := by
  have hdd := hd
  obtain ⟨d1, d2, d3, d4, d5, d6, d7, d8, d9, d10⟩ := hdd
  have hW : nW (mir v) = w := d7
  have hb := lf_bd' hw (s := sg w (w * h) s) (by rw [d9]; exact sg_lt d3 d4 hs)
  unfold wT
  rw [lfl_m hw hd, hW, d7]
  by_cases q : lfl v (sg w (w * h) s) = nI 0
  · rw [if_pos ((sn_z hb.1).mpr q), if_pos q]
  · rw [if_neg (fun z => q ((sn_z hb.1).mp z)), if_neg q]
    have q1 := lfl_sd q
    rw [d7, d9] at q1
    have q2 := sd_of_sg q1
    obtain ⟨f1, f2⟩ := sd_far (by omega) q2
    rcases (show s % 2 = 1 ∨ s % 2 = 0 by omega) with o | e
    · obtain ⟨k1, k2, k3, k4, k5⟩ := so_f d3 d4 o q2
      obtain ⟨a1, a2⟩ := (sd_odd o).mp q2
      have e1 : sg w (w * h) s = so w s := by
        unfold sg
        rw [if_pos q2, if_pos o]
      have e2 : ∀ x, sn s x = x := fun x => if_pos o
      rw [e2, e1, k3, k4]
      have i1 : (c = s / 2) ↔ opw w c = opw w (s / 2) := by
        constructor
        · intro z; rw [z]
        · intro z
          have := (opw_f d3 d4 hc).2.1
          rw [z, (opw_f d3 d4 a1).2.1] at this
          exact this.symm
      have i2 : (c = far w s) ↔ opw w c = opw w (far w s) := by
        constructor
        · intro z; rw [z]
        · intro z
          have := (opw_f d3 d4 hc).2.1
          rw [z, (opw_f d3 d4 f1).2.1] at this
          exact this.symm
      by_cases z1 : c = s / 2
      · rw [if_pos z1, if_pos (i1.mp z1)]
      · rw [if_neg z1, if_neg (fun y => z1 (i1.mpr y))]
        by_cases z2 : c = far w s
        · rw [if_pos z2, if_pos (i2.mp z2)]
        · rw [if_neg z2, if_neg (fun y => z2 (i2.mpr y))]
    · obtain ⟨k1, k2, k3, k4, k5⟩ := se_f d3 d4 e q2
      obtain ⟨a1, a2⟩ := (sd_evn e).mp q2
      have e1 : sg w (w * h) s = se w s := by
        unfold sg
        rw [if_pos q2, if_neg (by omega)]
      have e2 : ∀ x, sn s x = -x := fun x => if_neg (by omega)
      rw [e2, e1, k3, k4]
      have i1 : (c = s / 2) ↔ opw w c = opw w (s / 2) := by
        constructor
        · intro z; rw [z]
        · intro z
          have := (opw_f d3 d4 hc).2.1
          rw [z, (opw_f d3 d4 a1).2.1] at this
          exact this.symm
      have i2 : (c = far w s) ↔ opw w c = opw w (far w s) := by
        constructor
        · intro z; rw [z]
        · intro z
          have := (opw_f d3 d4 hc).2.1
          rw [z, (opw_f d3 d4 f1).2.1] at this
          exact this.symm
      by_cases z1 : c = s / 2
      · have z3 : ¬ opw w c = opw w (far w s) := fun y => f2 ((i2.mpr y).symm.trans z1)
        rw [if_pos z1, if_neg z3, if_pos (i1.mp z1), Int32.neg_neg]
      · rw [if_neg z1]
        by_cases z2 : c = far w s
        · rw [if_pos z2, if_pos (i2.mp z2)]
        · rw [if_neg z2, if_neg (fun y => z2 (i2.mpr y)), if_neg (fun y => z1 (i1.mpr y))]
theorem sT_m {n : Nat} {v : qB} {w h k c s : Nat} (hw : WF n v) (hd : DW v w h) (hk : k < 3) (hc : c < w * h) (hs : s < 2 * (w * h)) : sT (mir v) k c s = sT v k (opw w c) (sg w (w * h) s) := by
  have hdd := hd
  obtain ⟨d1, d2, d3, d4, d5, d6, d7, d8, d9, d10⟩ := hdd
  have hb := lf_bd' hw (s := sg w (w * h) s) (by rw [d9]; exact sg_lt d3 d4 hs)
  have m3 : ∀ x, x < w * h → mir v 3 (k * 48 + x) = v 3 (k * 48 + opw w x) := fun x hx => by
    rw [mir_3, d9, d7, if_pos (by omega)]
    unfold s3
    rw [show (k * 48 + x) / 48 = k by omega, show (k * 48 + x) % 48 = x by omega, Nat.mul_comm 48 k]
  have m2 : ∀ x, x < w * h → mir v 2 x = v 2 (opw w x) := fun x hx => mir_2c hd hx
  unfold sT
  rw [lfl_m hw hd]
  by_cases q : lfl v (sg w (w * h) s) = nI 0
  · rw [if_pos ((sn_z hb.1).mpr q), if_pos q]
  · have q1 := lfl_sd q
    rw [d7, d9] at q1
    have q2 := sd_of_sg q1
    obtain ⟨g1, g2⟩ := src_m hd q2 q hb.1
    obtain ⟨l1, l2, l3⟩ := srcF_lt (f := lfl v (sg w (w * h) s)) hd (by rw [d7, d9]; exact q1)
    rw [if_neg (fun z => q ((sn_z hb.1).mp z)), if_neg q, g1, g2, ab_sn hb.1 hb.2, m3 _ (opw_f d3 d4 l1).1, m2 _ (opw_f d3 d4 l1).1, (opw_f d3 d4 l1).2.1, m3 c hc, m2 c hc]
    by_cases z1 : opw w c = srcF v (lfl v (sg w (w * h) s)) (sg w (w * h) s)
    · rw [if_pos ((opw_sw d3 d4 hc l1).mpr z1), if_pos z1]
    · rw [if_neg (fun y => z1 ((opw_sw d3 d4 hc l1).mp y)), if_neg z1]
      by_cases z2 : opw w c = dstF v (lfl v (sg w (w * h) s)) (sg w (w * h) s)
      · rw [if_pos ((opw_sw d3 d4 hc l2).mpr z2), if_pos z2]
      · rw [if_neg (fun y => z2 ((opw_sw d3 d4 hc l2).mp y)), if_neg z2]
theorem wat_m {n : Nat} {v : qB} {w h c : Nat} (hw : WF n v) (hd : DW v w h) (hc : c < w * h) : watF (mir v) (2 * (w * h)) c = watF v (2 * (w * h)) (opw w c) := by
  have hdd := hd
  obtain ⟨d1, d2, d3, d4, d5, d6, d7, d8, d9, d10⟩ := hdd
  rw [wat_s, wat_s, ← asum_pm (f := wT v (opw w c)) (σ := sg w (w * h)) (fun s hs => sg_lt d3 d4 hs) (fun s => sg_iv d3 d4), mir_2c hd hc, asum_eq (f := wT (mir v) c) (g := fun s => wT v (opw w c) (sg w (w * h) s)) _ (fun s hs => wT_m hw hd hc hs)]
theorem stu_m {n : Nat} {v : qB} {w h k c : Nat} (hw : WF n v) (hd : DW v w h) (hk : k < 3) (hc : c < w * h) : stuF (mir v) k (2 * (w * h)) c = stuF v k (2 * (w * h)) (opw w c) := by
  have hdd := hd
  obtain ⟨d1, d2, d3, d4, d5, d6, d7, d8, d9, d10⟩ := hdd
  have m3 : mir v 3 (k * 48 + c) = v 3 (k * 48 + opw w c) := by
    rw [mir_3, d9, d7, if_pos (by omega)]
    unfold s3
    rw [show (k * 48 + c) / 48 = k by omega, show (k * 48 + c) % 48 = c by omega, Nat.mul_comm 48 k]
  rw [stu_s, stu_s, ← asum_pm (f := sT v k (opw w c)) (σ := sg w (w * h)) (fun s hs => sg_lt d3 d4 hs) (fun s => sg_iv d3 d4), m3, asum_eq (f := sT (mir v) k c) (g := fun s => sT v k (opw w c) (sg w (w * h) s)) _ (fun s hs => sT_m hw hd hk hc hs)]
theorem riv_m {n : Nat} {v : qB} {w h c : Nat} (hw : WF n v) (hd : DW v w h) (hc : c < w * h) : ∀ k, k ≤ rcN v → rivF (mir v) k c = rivF v k (opw w c)
  | 0, _ => by
    have d9 := hd.2.2.2.2.2.2.2.2.1
    have hN : nN (mir v) = w * h := d9
    show watF (mir v) (2 * nN (mir v)) c = watF v (2 * nN v) (opw w c)
    rw [hN, d9, wat_m hw hd hc]
  | k + 1, hk => by
    have ih := riv_m hw hd hc k (by omega)
    obtain ⟨d1, d2, d3, d4, d5, d6, d7, d8, d9, d10⟩ := hd
    obtain ⟨a, ha, e⟩ := hw.riv k (by omega)
    rw [d9] at ha
    have e7 : mir v 7 k = nI (opw w a) := by
      show (if k < rcN v then nI (opw (nW v) (v 7 k).toNatClampNeg) else v 7 k) = _
      rw [if_pos (by omega), e, nI_clamp (by omega), d7]
    have l := (opw_f d3 d4 ha).1
    show (if c = (mir v 7 k).toNatClampNeg then rivF (mir v) k c + mir v 8 k else rivF (mir v) k c) = (if opw w c = (v 7 k).toNatClampNeg then rivF v k (opw w c) + v 8 k else rivF v k (opw w c))
    rw [ih, e7, e, nI_clamp (by omega), nI_clamp (by omega)]
    by_cases z : opw w c = a
    · rw [if_pos ((opw_sw d3 d4 hc ha).mpr z), if_pos z]
      rfl
    · rw [if_neg (fun y => z ((opw_sw d3 d4 hc ha).mp y)), if_neg z]
theorem nxt_n {v : qB} {t s : Nat} : nxt none v t s = if t = 0 ∧ s = 3 then v 0 3 + nI 1 else st0 v t s := rfl
theorem nxt_x {v : qB} {t s : Nat} (ht : t ≠ 0) : nxt none v t s = st0 v t s := if_neg (fun q => ht q.1)
theorem nxt_mir {n : Nat} {v : qB} (hw : WF n v) : nxt none (mir v) = mir (nxt none v) := by
  obtain ⟨w, h, hd⟩ := hw.dw
  have hdd := hd
  obtain ⟨d1, d2, d3, d4, d5, d6, d7, d8, d9, d10⟩ := hdd
  have hN : nN (mir v) = w * h := d9
  have hW : nW (mir v) = w := d7
  have hrc : rcN (mir v) = rcN v := rfl
  have xN : nN (nxt none v) = w * h := nxt_N.1.trans d9
  have xW : nW (nxt none v) = w := nxt_N.2.1.trans d7
  have xr : rcN (nxt none v) = rcN v := by
    unfold rcN
    rw [nxt_s (by decide) (by decide) (by decide)]
  funext t s
  rcases (show t = 0 ∨ t = 1 ∨ t = 2 ∨ t = 3 ∨ t = 4 ∨ t = 5 ∨ t = 6 ∨ t = 7 ∨ t = 8 ∨ 9 ≤ t by omega) with rfl | rfl | rfl | rfl | rfl | rfl | rfl | rfl | rfl | ht
  · show nxt none (mir v) 0 s = (if s = 10 then -(nxt none v 0 10) else nxt none v 0 s)
    rw [nxt_n, nxt_n, nxt_n]
    by_cases z3 : s = 3
    · subst z3
      rfl
    · rw [if_neg (fun q => z3 q.2), if_neg (show ¬ (0 = 0 ∧ 10 = 3) by decide), if_neg (show ¬ (0 = 0 ∧ s = 3) from fun q => z3 q.2)]
      show (if s = 4 then mir v 0 4 + rainF (mir v) (rcN (mir v)) else mir v 0 s) = (if s = 10 then -(v 0 10) else (if s = 4 then v 0 4 + rainF v (rcN v) else v 0 s))
      by_cases z4 : s = 4
      · subst z4
        rw [if_pos rfl, if_neg (by decide), if_pos rfl, hrc, rain_e (v := v) (v' := mir v) rfl]
        rfl
      · rw [if_neg z4, if_neg z4]
        rfl
  · rw [mir_1, xN, xW, nxt_t (.inl rfl), nxt_t (.inl rfl), mir_1, d9, d7]
  · rw [mir_2, xN, xW, nxt_x (by decide), nxt_x (by decide), nxt_x (by decide)]
    show (if s < nN (mir v) then rivF (mir v) (rcN (mir v)) s else mir v 2 s) = (if s < w * h then (if opw w s < nN v then rivF v (rcN v) (opw w s) else v 2 (opw w s)) else (if s < nN v then rivF v (rcN v) s else v 2 s))
    rw [hN, hrc, d9]
    by_cases z : s < w * h
    · rw [if_pos z, if_pos z, if_pos (opw_f d3 d4 z).1, riv_m hw hd z _ (Nat.le_refl _)]
    · rw [if_neg z, if_neg z, if_neg z, mir_2, d9, if_neg z]
  · rw [mir_3, xN, xW, nxt_x (by decide), nxt_x (by decide), nxt_x (by decide)]
    show (if s % 48 < nN (mir v) ∧ s < 144 then stuF (mir v) (s / 48) (2 * nN (mir v)) (s % 48) else mir v 3 s) = (if s < 144 ∧ s % 48 < w * h then (if s3 w s % 48 < nN v ∧ s3 w s < 144 then stuF v (s3 w s / 48) (2 * nN v) (s3 w s % 48) else v 3 (s3 w s)) else (if s % 48 < nN v ∧ s < 144 then stuF v (s / 48) (2 * nN v) (s % 48) else v 3 s))
    rw [hN, d9]
    by_cases z : s < 144 ∧ s % 48 < w * h
    · have l := (opw_f d3 d4 z.2).1
      have e1 : s3 w s % 48 = opw w (s % 48) := by
        unfold s3
        omega
      have e2 : s3 w s / 48 = s / 48 := by
        unfold s3
        omega
      have e3 : s3 w s < 144 := by
        unfold s3
        omega
      rw [if_pos ⟨z.2, z.1⟩, if_pos z, e1, e2, if_pos ⟨l, e3⟩, stu_m hw hd (by omega) z.2]
    · rw [if_neg (fun q => z ⟨q.2, q.1⟩), if_neg z, if_neg (fun q => z ⟨q.2, q.1⟩), mir_3, d9, if_neg z]
  · have L : nxt none (mir v) 4 s = if s < 2 * (w * h) then lfl (mir v) s else mir v 4 s := by
      rw [nxt_x (by decide)]
      show (if s < 2 * nN (mir v) then lfl (mir v) s else mir v 4 s) = _
      rw [hN]
    have R : ∀ a, nxt none v 4 a = if a < 2 * (w * h) then lfl v a else v 4 a := fun a => by
      rw [nxt_x (by decide)]
      show (if a < 2 * nN v then lfl v a else v 4 a) = _
      rw [d9]
    rw [L]
    rcases (show s % 2 = 1 ∨ s % 2 = 0 by omega) with o | e
    · rw [mir_4o o, mir_4o o, xN, xW, R, R, d9, d7]
      by_cases z : s / 2 < w * h
      · have l : so w s < 2 * (w * h) := by
          have := (opw_f d3 d4 z).1
          unfold so
          omega
        rw [if_pos (show s < 2 * (w * h) by omega), if_pos z, if_pos l, lfl_m hw hd]
        have e2 : ∀ x, sn s x = x := fun x => if_pos o
        rw [e2]
        by_cases y : sd w (w * h) s = true
        · have e1 : sg w (w * h) s = so w s := by
            unfold sg
            rw [if_pos y, if_pos o]
          rw [e1]
        · have iv := ivo d3 d4 s (decide_eq_true ⟨o, z⟩)
          have y2 : ¬ sd w (w * h) (so w s) = true := fun q => by
            have o2 : so w s % 2 = 1 := by
              unfold so
              omega
            have q3 := (so_f d3 d4 o2 q).1
            rw [iv.2] at q3
            exact y q3
          rw [sg_no y, lfl_no (v := v) (by rw [d7, d9]; exact y), lfl_no (v := v) (by rw [d7, d9]; exact y2)]
      · rw [if_neg (show ¬ s < 2 * (w * h) by omega), if_neg z, if_neg z, if_neg (show ¬ s < 2 * (w * h) by omega)]
    · rw [mir_4e e, mir_4e e, xN, xW, R, R, d9, d7]
      by_cases z : s / 2 < w * h ∧ s / 2 % w + 1 < w
      · have y : sd w (w * h) s = true := (sd_evn e).mpr z
        have l := sd_lt (se_f d3 d4 e y).1
        have e1 : sg w (w * h) s = se w s := by
          unfold sg
          rw [if_pos y, if_neg (by omega)]
        have e2 : ∀ x, sn s x = -x := fun x => if_neg (by omega)
        rw [if_pos (show s < 2 * (w * h) by omega), if_pos z, if_pos l, lfl_m hw hd, e1, e2]
      · have y : ¬ sd w (w * h) s = true := fun q => z ((sd_evn e).mp q)
        rw [if_neg z, if_neg z]
        by_cases z2 : s < 2 * (w * h)
        · rw [if_pos z2, if_pos z2, lfl_no (v := v) (by rw [d7, d9]; exact y), lfl_no (v := mir v) (by rw [hW, hN]; exact y)]
        · rw [if_neg z2, if_neg z2]
  · rcases (show s % 2 = 1 ∨ s % 2 = 0 by omega) with o | e
    · rw [nxt_t (.inr (.inl rfl)), mir_5o o, mir_5o o, xN, xW, nxt_t (.inr (.inl rfl)), d9, d7]
    · rw [nxt_t (.inr (.inl rfl)), mir_5e e, mir_5e e, xN, xW, nxt_t (.inr (.inl rfl)), d9, d7]
  · rfl
  · show nxt none (mir v) 7 s = (if s < rcN (nxt none v) then nI (opw (nW (nxt none v)) (nxt none v 7 s).toNatClampNeg) else nxt none v 7 s)
    rw [xr, xW, nxt_t (by decide), nxt_t (by decide)]
    show (if s < rcN v then nI (opw (nW v) (v 7 s).toNatClampNeg) else v 7 s) = _
    rw [d7]
  · rfl
  · obtain ⟨z, rfl⟩ : ∃ z, t = z + 9 := ⟨t - 9, by omega⟩
    rfl
theorem mir_mir4 {n : Nat} {v : qB} (hw : WF n v) {s : Nat} : mir (mir v) 4 s = v 4 s := by
  obtain ⟨w, h, hd⟩ := hw.dw
  obtain ⟨d1, d2, d3, d4, d5, d6, d7, d8, d9, d10⟩ := hd
  have hN : nN (mir v) = w * h := d9
  have hW : nW (mir v) = w := d7
  rcases (show s % 2 = 1 ∨ s % 2 = 0 by omega) with o | e
  · rw [mir_4o o, hN, hW]
    by_cases z : s / 2 < w * h
    · have iv := ivo d3 d4 s (decide_eq_true ⟨o, z⟩)
      have o2 := of_decide_eq_true iv.1
      rw [if_pos z, mir_4o o2.1, d9, if_pos o2.2, d7, iv.2]
    · rw [if_neg z, mir_4o o, d9, if_neg z]
  · rw [mir_4e e, hN, hW]
    by_cases z : s / 2 < w * h ∧ s / 2 % w + 1 < w
    · have iv := ive d3 d4 s (decide_eq_true ⟨e, z⟩)
      have o2 := of_decide_eq_true iv.1
      rw [if_pos z, mir_4e o2.1, d9, d7, if_pos o2.2, iv.2, Int32.neg_neg]
    · rw [if_neg z, mir_4e e, d9, d7, if_neg z]
