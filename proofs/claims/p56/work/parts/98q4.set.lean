/-! p56: the law's beginning: the sea is laid, the board is set and kept. -/
/-- the sea laid as far as cell i, on a fresh board r -/
def SeaI (r : qB) (i : Nat) (v : qB) : Prop := (∀ t, t ≠ 1 → t ≠ 2 → t ≠ 3 → v t = r t) ∧ (∀ c, -30 ≤ (v 1 c).toInt ∧ (v 1 c).toInt ≤ 30) ∧ (∀ c, 0 ≤ (v 2 c).toInt ∧ (v 2 c).toInt ≤ 119) ∧ (∀ c, i ≤ c → v 2 c = nI 0) ∧ (∀ c, c < 48 → 0 ≤ (v 3 (48 + c)).toInt ∧ (v 3 (48 + c)).toInt ≤ 199) ∧ (∀ c, i ≤ c → c < 48 → v 3 (48 + c) = nI 0)
theorem SeaI_0 {k w h : Int32} {v : qB} : SeaI (rstB k w h v) 0 (rstB k w h v) := by
  have h0 : (nI 0).toInt = 0 := nI_toInt (by decide)
  have e1 : ∀ c, rstB k w h v 1 c = nI 0 := fun c => rfl
  have e2 : ∀ c, rstB k w h v 2 c = nI 0 := fun c => rfl
  have e3 : ∀ c, rstB k w h v 3 c = nI 0 := fun c => rfl
  refine ⟨fun _ _ _ _ => rfl, fun c => ?_, fun c => ?_, fun c _ => rfl, fun c _ => ?_, fun c _ _ => rfl⟩
  · rw [e1, h0]; omega
  · rw [e2, h0]; omega
  · rw [e3, h0]; omega
theorem SeaI_s {r v : qB} {i : Nat} {x y z : Int32} (h : SeaI r i v) (hi : i < 48) (hx : -30 ≤ x.toInt ∧ x.toInt ≤ 30) (hy : 0 ≤ y.toInt ∧ y.toInt ≤ 119) (hz : 0 ≤ z.toInt ∧ z.toInt ≤ 199) : SeaI r (i + 1) (bset (bset (bset v 1 i x) 2 i y) 3 (48 + i) z) := by
  obtain ⟨h1, h2, h3, h4, h5, h6⟩ := h
  have e1 : ∀ c, bset (bset (bset v 1 i x) 2 i y) 3 (48 + i) z 1 c = if c = i then x else v 1 c := fun c => by rw [bs_t (by decide), bs_t (by decide), bs_c]
  have e2 : ∀ c, bset (bset (bset v 1 i x) 2 i y) 3 (48 + i) z 2 c = if c = i then y else v 2 c := fun c => by rw [bs_t (by decide), bs_c, bs_t (by decide)]
  have e3 : ∀ c, bset (bset (bset v 1 i x) 2 i y) 3 (48 + i) z 3 c = if c = 48 + i then z else v 3 c := fun c => by rw [bs_c, bs_t (by decide), bs_t (by decide)]
  refine ⟨fun t a b c => ?_, fun c => ?_, fun c => ?_, fun c hc => ?_, fun c hc => ?_, fun c hc hc2 => ?_⟩
  · rw [bs_t c, bs_t b, bs_t a]
    exact h1 t a b c
  · rw [e1]
    split
    · exact hx
    · exact h2 c
  · rw [e2]
    split
    · exact hy
    · exact h3 c
  · rw [e2, if_neg (by omega)]
    exact h4 c (by omega)
  · rw [e3]
    split
    · exact hz
    · exact h5 c hc
  · rw [e3, if_neg (by omega)]
    exact h6 c (by omega) hc2
/-- what is known of the board while it is set -/
def PS (W H k : Nat) (v : qB) : Prop := BI 0 3570 v ∧ DW v W H ∧ v 0 0 = nI k ∧ v 5 0 = nI 0 ∧ v 0 4 = nI 0 ∧ v 0 5 = nI 0
theorem Sea_PS {W H k i : Nat} {v v0 : qB} (hk : k = 0 ∨ k = 1 ∨ k = 3) (hW : 2 ≤ W ∧ W ≤ 6) (hH : 1 ≤ H ∧ H ≤ 5) (h : SeaI (rstB (nI k) (nI W) (nI H) v0) i v) : PS W H k v ∧ v 0 12 = nI 0 := by
  obtain ⟨h1, h2, h3, h4, h5, h6⟩ := h
  have hr : WF 0 (rstB (nI k) (nI W) (nI H) v0) := rst_WF (by omega) (by omega) (by omega) (by omega) (by omega)
  have e0 := h1 0 (by decide) (by decide) (by decide)
  have e4 := h1 4 (by decide) (by decide) (by decide)
  have e5 := h1 5 (by decide) (by decide) (by decide)
  have e6 := h1 6 (by decide) (by decide) (by decide)
  have e7 := h1 7 (by decide) (by decide) (by decide)
  have e8 := h1 8 (by decide) (by decide) (by decide)
  have e12 : v 0 12 = nI 0 := by rw [e0]; rfl
  have w1 : WF1 v := by
    refine ⟨fun c => ?_, fun c => ?_, fun c => ?_, fun c => ?_, fun q hq => ?_⟩
    · have := h2 c; omega
    · have := h3 c; omega
    · rw [e4]; exact hr.2.1.2.2.1 c
    · rw [e5]; exact hr.2.1.2.2.2.1 c
    · rw [e12, nI_clamp (by decide)] at hq
      exact absurd hq (Nat.not_lt_zero _)
  have hw : WF 0 v := ⟨WF0_t e0 hr.1, w1, WF2_t e0 e6 e7 hr.2.2⟩
  have hd : DW v W H := by
    have a1 : v 0 1 = nI W := by rw [e0]; rfl
    have a2 : v 0 2 = nI H := by rw [e0]; rfl
    obtain ⟨g1, g2, g3⟩ := GD.nn a1 a2 (by omega) (by omega)
    exact ⟨a1, a2, by omega, by omega, by omega, by omega, g2, g3, g1, Nat.mul_le_mul (show W ≤ 8 by omega) (show H ≤ 6 by omega)⟩
  have hN : nN v ≤ 30 := by
    rw [hd.2.2.2.2.2.2.2.2.1]
    exact Nat.mul_le_mul hW.2 hH.2
  have rc : rcN v = 0 := by
    unfold rcN
    rw [e12]
    decide +kernel
  refine ⟨⟨⟨hw, ?_, fun c hc => ?_, ?_, ?_, fun c _ => (h2 c).1⟩, hd, ?_, ?_, ?_, ?_⟩, e12⟩
  · have := isum_bd (f := v 2) (M := 119) (by decide) (nN v) (fun c _ => (h3 c).2)
    omega
  · rw [Nat.one_mul]
    exact (h5 c (by omega)).1
  · have := isum_bd (f := fun c => v 3 (1 * 48 + c)) (M := 199) (by decide) (nN v) (fun c hc => by
      have := (h5 c (by omega)).2
      show (v 3 (1 * 48 + c)).toInt ≤ 199
      rw [Nat.one_mul]
      exact this)
    omega
  · rw [rc]
    show 0 ≤ (nI 0).toInt ∧ (nI 0).toInt ≤ 39
    decide +kernel
  · rw [e0]; rfl
  · rw [e5]; rfl
  · rw [e0]; rfl
  · rw [e0]; rfl
theorem PS_num {W H k s : Nat} {v : qB} {x : Int32} (h : PS W H k v) (hs : s = 6 ∨ s = 7 ∨ s = 8 ∨ s = 9 ∨ s = 10 ∨ s = 11) (hw : WF 0 (bset v 0 s x)) : PS W H k (bset v 0 s x) := by
  obtain ⟨⟨a1, a2, a3, a4, a5, a6⟩, b1, b2, b3, b4, b5⟩ := h
  have hN : nN (bset v 0 s x) = nN v := nN_s (bs_s (by omega)) (bs_s (by omega))
  have rc : rcN (bset v 0 s x) = rcN v := by
    unfold rcN
    rw [bs_s (by omega)]
  refine ⟨⟨hw, ?_, ?_, ?_, ?_, ?_⟩, DW_s b1 (bs_s (by omega)) (bs_s (by omega)), ?_, ?_, ?_, ?_⟩
  · rw [hN, bs_t (by decide)]; exact a2
  · rw [hN, bs_t (by decide)]; exact a3
  · rw [hN, bs_t (by decide)]; exact a4
  · rw [rc, rain_e (v := v) (bs_t (by decide))]; exact a5
  · rw [hN, bs_t (by decide)]; exact a6
  · rw [bs_s (by omega)]; exact b2
  · rw [bs_t (by decide)]; exact b3
  · rw [bs_s (by omega)]; exact b4
  · rw [bs_s (by omega)]; exact b5
theorem PS_gate {W H k : Nat} {v : qB} {x : Int32} (h : PS W H k v) (hx : x = 0 ∨ x = 1) : BI 0 3570 (bset v 5 0 x) ∧ DW (bset v 5 0 x) W H := by
  obtain ⟨⟨a1, a2, a3, a4, a5, a6⟩, b1, b2, b3, b4, b5⟩ := h
  have e : bset v 5 0 x 0 = v 0 := bs_t (by decide)
  have hN : nN (bset v 5 0 x) = nN v := nN_t e
  have rc : rcN (bset v 5 0 x) = rcN v := by
    unfold rcN
    rw [e]
  refine ⟨⟨WF_shut a1 hx, ?_, ?_, ?_, ?_, ?_⟩, DW_s b1 (by rw [e]) (by rw [e])⟩
  · rw [hN, bs_t (by decide)]; exact a2
  · rw [hN, bs_t (by decide)]; exact a3
  · rw [hN, bs_t (by decide)]; exact a4
  · rw [rc, rain_e (v := v) (bs_t (by decide))]; exact a5
  · rw [hN, bs_t (by decide)]; exact a6
theorem PS_riv {W H k c m : Nat} {v : qB} (h : PS W H k v) (h12 : v 0 12 = nI 0) (hc : c < W * H) (hm : m < 40) : PS W H k (bset (bset (bset v 7 0 (nI c)) 8 0 (nI m)) 0 12 (nI 1)) := by
  obtain ⟨⟨a1, a2, a3, a4, a5, a6⟩, b1, b2, b3, b4, b5⟩ := h
  generalize hv : bset (bset (bset v 7 0 (nI c)) 8 0 (nI m)) 0 12 (nI 1) = v'
  have e0 : ∀ s, s ≠ 12 → v' 0 s = v 0 s := fun s q => by rw [← hv, bs_s q, bs_t (by decide), bs_t (by decide)]
  have e12 : v' 0 12 = nI 1 := by rw [← hv, bs_e]
  have e7 : v' 7 0 = nI c := by rw [← hv, bs_t (by decide), bs_t (by decide), bs_e]
  have e8 : v' 8 0 = nI m := by rw [← hv, bs_t (by decide), bs_e]
  have et : ∀ t, t ≠ 0 → t ≠ 7 → t ≠ 8 → v' t = v t := fun t p q r => by rw [← hv, bs_t p, bs_t r, bs_t q]
  have hN : nN v' = nN v := nN_s (e0 1 (by decide)) (e0 2 (by decide))
  have hm0 : (nI m).toInt = m := nI_toInt (by omega)
  have hz0 : (nI 0).toInt = 0 := nI_toInt (by decide)
  have hw : WF 0 v' := by
    obtain ⟨⟨k', wd, hg, st, p, d, rc, pc, c0, c1, c2, c3, c4, c5, c6, c7, c8, c9, g0, g1, g2, g3, g4, g5, g6, g7, g8, g9, f0, f1, f2⟩, ⟨w1, w2, w3, w4, w5⟩, ⟨z1, z2⟩⟩ := a1
    refine ⟨⟨k', wd, hg, st, p, d, 1, pc, ?_, c1, ?_, c3, c4, ?_, c6, c7, ?_, c9, ?_, g1, g2, ?_, g4, g5, e12, by decide, ?_, g9, ?_, ?_, ?_⟩, ⟨fun c => ?_, fun c => ?_, fun c => ?_, fun c => ?_, fun q hq => ?_⟩, fun q hq => ?_, fun q hq => ?_⟩
    · rw [e0 0 (by decide)]; exact c0
    · rw [e0 1 (by decide)]; exact c2
    · rw [e0 2 (by decide)]; exact c5
    · rw [e0 3 (by decide)]; exact c8
    · rw [e0 8 (by decide)]; exact g0
    · rw [e0 9 (by decide)]; exact g3
    · rw [e0 13 (by decide)]; exact g8
    · rw [e0 6 (by decide)]; exact f0
    · rw [e0 10 (by decide)]; exact f1
    · rw [e0 11 (by decide)]; exact f2
    · rw [et 1 (by decide) (by decide) (by decide)]; exact w1 c
    · rw [et 2 (by decide) (by decide) (by decide)]; exact w2 c
    · rw [et 4 (by decide) (by decide) (by decide)]; exact w3 c
    · rw [et 5 (by decide) (by decide) (by decide)]; exact w4 c
    · rw [e12, nI_clamp (by decide)] at hq
      have : q = 0 := by omega
      subst this
      rw [e8, hm0]
      omega
    · rw [e12, nI_clamp (by decide)] at hq
      have : q = 0 := by omega
      subst this
      exact ⟨c, by rw [hN, b1.2.2.2.2.2.2.2.2.1]; exact hc, e7⟩
    · rw [e0 13 (by decide)] at hq
      rw [hN, et 6 (by decide) (by decide) (by decide)]
      exact z2 q hq
  have rc : rcN v' = 1 := by
    unfold rcN
    rw [e12]
    decide +kernel
  refine ⟨⟨hw, ?_, ?_, ?_, ?_, ?_⟩, DW_s b1 (e0 1 (by decide)) (e0 2 (by decide)), ?_, ?_, ?_, ?_⟩
  · rw [hN, et 2 (by decide) (by decide) (by decide)]; exact a2
  · rw [hN, et 3 (by decide) (by decide) (by decide)]; exact a3
  · rw [hN, et 3 (by decide) (by decide) (by decide)]; exact a4
  · rw [rc]
    show 0 ≤ (nI 0 + v' 8 0).toInt ∧ (nI 0 + v' 8 0).toInt ≤ 39
    rw [e8, z_add (by omega) (by omega)]
    omega
  · rw [hN, et 1 (by decide) (by decide) (by decide)]; exact a6
  · rw [e0 0 (by decide)]; exact b2
  · rw [et 5 (by decide) (by decide) (by decide)]; exact b3
  · rw [e0 4 (by decide)]; exact b4
  · rw [e0 5 (by decide)]; exact b5
section LS
variable {μ : qM} {sz : Nat → Int32} {rw : Nat → Nat → Int32} {th : Nat → Bool} {V : Nat → qB} {L mk rs : Nat → Nat → Int32} {b0 l0 : Nat} {f0 : Nat → Int32} {W H : Nat}
theorem sea_w {i m : Nat} {x y : Int32} {r : qB} {g : Int32 → qM → Option (Int32 × qM)} {j2 : qM → Option (Int32 × qM)} {P : Int32 → qM → Prop} (h : St μ sz rw th (vset V 0 (bset (V 0) 1 i x)) L mk rs) (t0 : th 0 = true) (hd : DW (V 0) W H) (hi : i < W * H) (hm : m < 120) (hx : -30 ≤ x.toInt ∧ x.toInt ≤ 30) (hs : SeaI r i (V 0)) (K : ∀ u' V', St u' sz rw th V' L mk rs → SeaI r (i + 1) (V' 0) → (∀ b, b ≠ 0 → V' b = V b) → Ev (g (nI 1) u') P) :
    Ev (q_bd (f_X10_water 0 (nI i) (nI m) μ) (fun (x13 : Int32) (u9 : qM) => if x13 = 0 then q_bd (f_L_low y 200 u9) (fun (x14 : Int32) (u10 : qM) => q_bd (f_X10_spill 0 (nI i) 1 x14 u10) (fun (x15 : Int32) (u11 : qM) => if x15 = 0 then g 1 u11 else j2 u11)) else j2 u9)) P := by
  have h48 := hd.2.2.2.2.2.2.2.2.2
  have hm0 : (nI m).toInt = m := nI_toInt (by omega)
  have hz0 : (nI 0).toInt = 0 := nI_toInt (by decide)
  have d1 : DW (vset V 0 (bset (V 0) 1 i x) 0) W H := by
    rw [vs_e]
    exact DW_s hd (by rw [bs_t (by decide)]) (by rw [bs_t (by decide)])
  refine ev_bd.mpr (ev_water (b := 0) (x := nI m) h (by decide) t0 d1 hi (by rw [x_le, x_le, x100]; omega) (fun u1 h1 => ?_))
  rw [vs_vs, vs_e] at h1
  rw [vs_e, bs_t (by decide)]
  refine ev_yes (hs.2.2.2.1 i (Nat.le_refl _)) ?_
  refine ev_bd.mpr (ev_low (n := 200) (by decide) (by decide) (fun p hp => ?_))
  have hp0 : (nI p).toInt = p := nI_toInt (by omega)
  have d2 : DW (vset V 0 (bset (bset (V 0) 1 i x) 2 i (nI m)) 0) W H := by
    rw [vs_e]
    exact DW_s hd (by rw [bs_t (by decide), bs_t (by decide)]) (by rw [bs_t (by decide), bs_t (by decide)])
  refine ev_bd.mpr (ev_spill (b := 0) (x := nI p) h1 (by decide) t0 d2 hi (by rw [x_le, x_le, x100]; omega) (fun u2 h2 => ?_))
  rw [vs_vs, vs_e] at h2
  rw [vs_e, bs_t (by decide), bs_t (by decide)]
  refine ev_yes (hs.2.2.2.2.2 i (Nat.le_refl _) (by omega)) ?_
  refine K u2 _ h2 ?_ (fun b hb => vs_n hb)
  rw [vs_e]
  exact SeaI_s hs (by omega) hx (by omega) (by omega)
theorem ev_sea {r : qB} {P : Int32 → qM → Prop} (h : St μ sz rw th V L mk rs) (hl : l0 ≤ 260) (t0 : th 0 = true) (hd : DW (V 0) W H) (h12 : ∀ t, t ≠ 1 → t ≠ 2 → t ≠ 3 → V 0 t = r t) (hs : SeaI r 0 (V 0)) (K : ∀ u' V', St u' sz rw th V' L mk rs → SeaI r (W * H) (V' 0) → (∀ b, b ≠ 0 → V' b = V b) → P (nI 1) u') : Ev (f_L_sea b0 l0 f0 0 10 (nI (W * H)) μ) P := by
  have h48 := hd.2.2.2.2.2.2.2.2.2
  have hr1 : r 0 1 = nI W := by rw [← h12 0 (by decide) (by decide) (by decide)]; exact hd.1
  have hr2 : r 0 2 = nI H := by rw [← h12 0 (by decide) (by decide) (by decide)]; exact hd.2.1
  refine eu_L_sea.mpr ?_
  refine lpa (fun f b x t => L_L_sea_6 0 b0 l0 f0 10 (nI (W * H)) f b x t (fun (x17 : Int32) u13 => q_ck (q_b x17) (some (x17, u13)))) (fun i b t => b = nI 1 ∧ ∃ V' : Nat → qB, St t sz rw th V' L mk rs ∧ SeaI r i (V' 0) ∧ ∀ b, b ≠ 0 → V' b = V b) (W * H) (by omega) (nI 1) μ ⟨rfl, V, h, hs, fun _ _ => rfl⟩ ?_ ?_
  · rintro f i b w hi ⟨rfl, V', g1, g2, g3⟩ K'
    have ea : nI i + 1 = nI (i + 1) := nI_add i 1
    have e10 : (10 : Int32) + nI i = nI (10 + i) := nI_add 10 i
    have hd' : DW (V' 0) W H := DW_s hd (by rw [g2.1 0 (by decide) (by decide) (by decide), hr1]; exact hd.1.symm) (by rw [g2.1 0 (by decide) (by decide) (by decide), hr2]; exact hd.2.1.symm)
    refine eu_L_L_sea_6.mpr (ev_not (by rw [nI_leI (by omega) (by omega)]; omega) (ev_not (by decide +kernel) ?_))
    rw [e10]
    refine ev_bd.mpr (ev_lcell hl (by omega) (fun x6 => ?_))
    refine ev_bd.mpr (ev_low (n := 61) (by decide) (by decide) (fun j hj => ?_))
    have hj0 : (nI j).toInt = j := nI_toInt (by omega)
    have h30 : (30 : Int32).toInt = 30 := by decide +kernel
    have hx : (nI j - 30).toInt = (j : Int) - 30 := by rw [z_sub (by omega) (by omega), hj0, h30]
    have m1000 : (-1000 : Int32).toInt = -1000 := by decide +kernel
    have p1000 : (1000 : Int32).toInt = 1000 := by decide +kernel
    refine ev_bd.mpr (ev_bottom (b := 0) (x := nI j - 30) g1 (by decide) t0 hd' hi (by rw [x_le, x_le, hx, m1000, p1000]; omega) (fun u1 h1 => ?_))
    refine ev_jn.mpr (ev_jn.mpr (ev_yes rfl ?_))
    refine ev_bd.mpr (ev_low (n := 4) (by decide) (by decide) (fun j4 _ => ?_))
    have fin : ∀ u' V'', St u' sz rw th V'' L mk rs → SeaI r (i + 1) (V'' 0) → (∀ b, b ≠ 0 → V'' b = V' b) → Ev (q_lt (nI i + 1) (fun (x10 : Int32) => L_L_sea_6 0 b0 l0 f0 10 (nI (W * H)) f (nI 1) x10 u' (fun (x17 : Int32) u13 => q_ck (q_b x17) (some (x17, u13))))) P := fun u' V'' q1 q2 q3 => by
      refine ev_lt.mpr ?_
      rw [ea]
      exact K' _ _ ⟨rfl, V'', q1, q2, fun b hb => (q3 b hb).trans (g3 b hb)⟩
    refine ev_jn.mpr ?_
    by_cases z : nI j4 = 0
    · refine ev_yes z ?_
      exact sea_w (m := 0) (r := r) (g := fun (x9 : Int32) (u5 : qM) => q_lt (nI i + 1) (fun (x10 : Int32) => L_L_sea_6 0 b0 l0 f0 10 (nI (W * H)) f x9 x10 u5 (fun (x17 : Int32) u13 => q_ck (q_b x17) (some (x17, u13))))) h1 t0 hd' hi (by decide) (by omega) g2 fin
    · refine ev_not z ?_
      refine ev_bd.mpr (ev_low (n := 120) (by decide) (by decide) (fun m hm => ?_))
      exact sea_w (m := m) (r := r) (g := fun (x9 : Int32) (u5 : qM) => q_lt (nI i + 1) (fun (x10 : Int32) => L_L_sea_6 0 b0 l0 f0 10 (nI (W * H)) f x9 x10 u5 (fun (x17 : Int32) u13 => q_ck (q_b x17) (some (x17, u13))))) h1 t0 hd' hi hm (by omega) g2 fin
  · rintro f b w ⟨rfl, V', g1, g2, g3⟩
    refine eu_L_L_sea_6.mpr (ev_yes (Int32.le_refl _) ?_)
    refine ev_ck.mpr ⟨by decide +kernel, ev_so.mpr ?_⟩
    exact K w V' g1 g2 g3
end LS
