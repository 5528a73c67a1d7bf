/-! p56: the law's end, from the nest on. -/
def one : Int32 → qM → Prop := fun v _ => v = 1
theorem NZ_tel {v : qB} {w0 B0 : Int32} (h : NZ v w0 B0) : tel v 4 = nI 0 + w0 + w0 + w0 + w0 := by
  have hN := h.dw.2.2.2.2.2.2.2.2.1
  obtain ⟨h0, h1, h2, h3, h4, h5, h6, h7, h8⟩ := h
  show asum (v 2) (nN v) = _
  rw [hN]
  show nI 0 + v 2 0 + v 2 1 + v 2 2 + v 2 3 = _
  rw [h8 0 (by decide), h8 1 (by decide), h8 2 (by decide), h8 3 (by decide)]
theorem NU.w0 {V : Nat → qB} {L : Nat → Nat → Int32} {W H X Y c : Nat} {x : Int32} (h : NU V L W H X Y) : NU (vset V 0 (bset (V 0) 2 c x)) L W H X Y := by
  unfold NU
  rw [vs_e, vs_n (by decide), bs_t (by decide)]
  exact h
theorem NU.w2 {V : Nat → qB} {L : Nat → Nat → Int32} {W H X Y : Nat} {v : qB} (h : NU V L W H X Y) (e0 : v 0 0 = V 2 0 0) (e1 : v 0 1 = V 2 0 1) (e2 : v 0 2 = V 2 0 2) : NU (vset V 2 v) L W H X Y := by
  unfold NU
  rw [vs_e, vs_n (by decide), e0, e1, e2]
  exact h
theorem DW_w {v : qB} {W H c : Nat} {x : Int32} (h : DW v W H) : DW (bset v 2 c x) W H := DW_s h (by rw [bs_t (by decide)]) (by rw [bs_t (by decide)])
theorem ev_yes {α : Type} {c : Prop} [Decidable c] {a b : Option (α × qM)} {P : α → qM → Prop} (h : c) (K : Ev a P) : Ev (if c then a else b) P := ev_if.mpr (by rw [if_pos h]; exact K)
section LT
variable {μ : qM} {sz : Nat → Int32} {rw : Nat → Nat → Int32} {th : Nat → Bool} {V : Nat → qB} {L mk rs : Nat → Nat → Int32} {b0 l0 : Nat} {f0 : Nat → Int32} {W H X Y : Nat} {w1 : Int32}
theorem t900 (h : St μ sz rw th V L mk rs) (t0 : th 0 = true) (hd : DW (V 0) W H) (hX : X < W) (hY : Y < H) (e : V 0 2 (Y * W + X) = w1 + nI 11) : Ev (C_L_law_900 b0 l0 f0 (nI W) (nI X) (nI Y) w1 μ) one := by
  refine eu_C_L_law_900.mpr (ev_bd.mpr ?_)
  rw [pk_mul, nI_add]
  refine ev_at1 (b := 0) h (by decide) t0 hd (und_lt hX hY) (fun u' h' => ?_)
  exact ev_yes e (ev_so.mpr rfl)
theorem t884 (h : St μ sz rw th V L mk rs) (t0 : th 0 = true) (t2 : th 2 = true) (hn : NU V L W H X Y) (hd : DW (V 0) W H) (hr : rs 2 0 = nI 0) (hb : 0 ≤ w1.toInt ∧ w1.toInt ≤ 30000) (hf : ∀ q, q < 4 → V 2 2 q = w1 + nI 11) (e : V 0 2 (Y * W + X) = w1 + nI 11) : Ev (C_L_law_884 b0 l0 f0 (nI W) (nI X) (nI Y) w1 μ) one := by
  have h11 : (nI 11).toInt = 11 := nI_toInt (by decide)
  have hb2 : 0 ≤ (w1 + nI 11).toInt ∧ (w1 + nI 11).toInt ≤ 100000 := by
    rw [z_add (by omega) (by omega)]
    omega
  have hX := hn.2.2.2.2.2.2.2.2.1
  have hY := hn.2.2.2.2.2.2.2.2.2.1
  refine eu_C_L_law_884.mpr (ev_bd.mpr (ev_up h t2 hn hr hb2 hf (fun u' mk' rs' h' k1 k2 k3 => ?_)))
  refine ev_yes rfl ?_
  refine ev_bd.mpr (eu_X10_asked.mpr (ev_so.mpr (ev_yes (by rw [k3, e, Int32.sub_self]) ?_)))
  refine t900 h' t0 ?_ hX hY ?_
  · rw [vs_e]
    exact DW_w hd
  · rw [vs_e, bs_e]
theorem t866 (h : St μ sz rw th V L mk rs) (t0 : th 0 = true) (t2 : th 2 = true) (hn : NU V L W H X Y) (hd : DW (V 0) W H) (hr : rs 2 0 = nI 0) (hm : mk 2 0 = w1) (hb : 0 ≤ w1.toInt ∧ w1.toInt ≤ 30000) (hf : ∀ q, q < 4 → V 2 2 q = w1) (e : V 0 2 (Y * W + X) = w1 + nI 11) : Ev (C_L_law_866 b0 l0 f0 (nI W) (nI X) (nI Y) w1 μ) one := by
  have h11 : (nI 11).toInt = 11 := nI_toInt (by decide)
  have hb2 : 0 ≤ (w1 + nI 11).toInt ∧ (w1 + nI 11).toInt ≤ 100000 := by
    rw [z_add (by omega) (by omega)]
    omega
  refine eu_C_L_law_866.mpr (ev_bd.mpr (ev_down h t2 hn hr hm hf e hb2 (fun u' v2 mk' rs' h' k1 k2 k3 k4 k5 => ?_)))
  refine ev_yes rfl ?_
  have e44 : (nI 0 + (w1 + nI 11) + (w1 + nI 11) + (w1 + nI 11) + (w1 + nI 11)) - (nI 0 + w1 + w1 + w1 + w1) = 44 := by
    have z11 : (nI 11 : Int32) = 11 := rfl
    rw [z11]
    grind
  refine ev_bd.mpr (eu_X10_asked.mpr (ev_so.mpr (ev_yes (by rw [k5, e44]) ?_)))
  refine t884 h' t0 t2 (hn.w2 (by rw [k1 0 (by decide)]) (by rw [k1 0 (by decide)]) (by rw [k1 0 (by decide)])) ?_ k4 hb (fun q hq => ?_) ?_
  · rw [vs_n (by decide)]
    exact hd
  · rw [vs_e, k2, if_pos hq]
  · rw [vs_n (by decide)]
    exact e
theorem t829 (h : St μ sz rw th V L mk rs) (t0 : th 0 = true) (t2 : th 2 = true) (hn : NU V L W H X Y) (hd : DW (V 0) W H) (hr : rs 2 0 = nI 0) (hm : mk 2 0 = w1) (hb : 0 ≤ w1.toInt ∧ w1.toInt ≤ 30000) (hf : ∀ q, q < 4 → V 2 2 q = w1) (e : V 0 2 (Y * W + X) = w1) : Ev (C_L_law_829 b0 l0 f0 (nI W) (nI X) (nI Y) μ) one := by
  have h11 : (nI 11).toInt = 11 := nI_toInt (by decide)
  have h0 : (nI 0).toInt = 0 := nI_toInt (by decide)
  have hx : nI 0 ≤ w1 + nI 11 ∧ w1 + nI 11 ≤ 100000 := by
    rw [x_le, x_le, z_add (by omega) (by omega), x100]
    omega
  have hX := hn.2.2.2.2.2.2.2.2.1
  have hY := hn.2.2.2.2.2.2.2.2.2.1
  refine eu_C_L_law_829.mpr (ev_bd.mpr ?_)
  rw [pk_mul, nI_add]
  refine ev_at1 (b := 0) h (by decide) t0 hd (und_lt hX hY) (fun u' h' => ?_)
  rw [e]
  refine ev_bd.mpr (ev_water (b := 0) (x := w1 + nI 11) h' (by decide) t0 hd (und_lt hX hY) hx (fun u2 h2 => ?_))
  refine ev_jn.mpr (ev_jn.mpr (ev_yes e ?_))
  refine t866 h2 t0 t2 hn.w0 ?_ hr hm hb (fun q hq => ?_) ?_
  · rw [vs_e]
    exact DW_w hd
  · rw [vs_n (by decide)]
    exact hf q hq
  · rw [vs_e, bs_e]
/-- the law's end, what it keeps of the nest -/
def TS (μ : qM) (sz : Nat → Int32) (rw : Nat → Nat → Int32) (th : Nat → Bool) (V : Nat → qB) (L mk rs : Nat → Nat → Int32) (W H X Y n : Nat) (B : Int) (w1 : Int32) : Prop := St μ sz rw th V L mk rs ∧ th 0 = true ∧ th 2 = true ∧ NU V L W H X Y ∧ DW (V 0) W H ∧ rs 2 0 = nI 0 ∧ (0 ≤ w1.toInt ∧ w1.toInt ≤ 30000) ∧ mk 2 0 = w1 ∧ (∃ B0, NZ (V 2) w1 B0) ∧ V 0 2 (Y * W + X) = w1 ∧ BI n B (V 2) ∧ B ≤ 86000 ∧ n ≤ 1000 ∧ SZ sz
theorem t811 {n : Nat} {B : Int} (h : TS μ sz rw th V L mk rs W H X Y n B w1) : Ev (C_L_law_811 b0 l0 f0 (nI W) (nI X) (nI Y) μ) one := by
  obtain ⟨h, t0, t2, hn, hd, hr, hb, hm, ⟨B0, hz⟩, e, hI, hB, hnn, hS⟩ := h
  have hf := hz.2.2.2.2.2.2.2.2
  refine eu_C_L_law_811.mpr (ev_bd.mpr (ev_up h t2 hn hr (by omega) hf (fun u' mk' rs' h' k1 k2 k3 => ?_)))
  refine ev_yes rfl ?_
  refine ev_bd.mpr (eu_X10_asked.mpr (ev_so.mpr (ev_yes (by rw [k3, e, Int32.sub_self]) ?_)))
  refine t829 h' t0 t2 hn.w0 ?_ k2 k1 hb (fun q hq => ?_) ?_
  · rw [vs_e]
    exact DW_w hd
  · rw [vs_n (by decide)]
    exact hf q hq
  · rw [vs_e, bs_e]
theorem t800 {n : Nat} {B : Int} {x : Int32} (h : TS μ sz rw th V L mk rs W H X Y n B w1) (hx : tel (V 2) 4 = x) : Ev (C_L_law_800 b0 l0 f0 (nI W) (nI X) (nI Y) x μ) one := by
  have hh := h
  obtain ⟨h1, t0, t2, hr⟩ := hh
  have hI := h.2.2.2.2.2.2.2.2.2.2.1
  refine eu_C_L_law_800.mpr (ev_bd.mpr (ev_told (b := 2) (m := 4) h1 (by decide) t2 hI.1.gd (by decide) (fun u' h' => ?_)))
  exact ev_yes hx (t811 ⟨h', t0, t2, hr⟩)
theorem t782 {n : Nat} {B : Int} (h : TS μ sz rw th V L mk rs W H X Y n B w1) (hB2 : B ≤ 82500) (hn2 : n ≤ 900) : Ev (C_L_law_782 b0 l0 f0 (nI W) (nI X) (nI Y) μ) one := by
  obtain ⟨h, t0, t2, hn, hd, hr, hb, hm, ⟨B0, hz⟩, e, hI, hB, hnn, hS⟩ := h
  have hT : TK sz rw (V 2) := .inl (.inr hz.1)
  refine eu_C_L_law_782.mpr (ev_bd.mpr (ev_told (b := 2) (m := 4) h (by decide) t2 hI.1.gd (by decide) (fun u1 h1 => ?_)))
  refine ev_bd.mpr (ev_step (b := 2) (N := 3) h1 (by decide) (by decide) t2 hS hI (by omega) (by omega) hT (fun u2 h2 => ?_))
  have z2 := NZ_it (sz := sz) (rw := rw) 3 n B _ hI hz (by omega)
  have i2 := (BI_it (sz := sz) (rw := rw) 3 n B _ hI hT (by omega)).1
  refine ev_yes rfl ?_
  refine t800 (w1 := w1) (n := n + 3) (B := B + ((3 : Nat) : Int) * 1000) ⟨h2, t0, t2, hn.w2 (z2.1.trans hz.1.symm) (z2.2.1.trans hz.2.1.symm) (z2.2.2.1.trans hz.2.2.1.symm), ?_, hr, hb, hm, ⟨B0, ?_⟩, ?_, ?_, by omega, by omega, hS⟩ ?_
  · rw [vs_n (by decide)]
    exact hd
  · rw [vs_e]
    exact z2
  · rw [vs_n (by decide)]
    exact e
  · rw [vs_e]
    exact i2
  · rw [vs_e, NZ_tel z2, NZ_tel hz]
theorem t763 {n : Nat} {B : Int} (h : TS μ sz rw th V L mk rs W H X Y n B w1) (hB2 : B ≤ 82500) (hn2 : n ≤ 900) : Ev (C_L_law_763 b0 l0 f0 (nI W) (nI X) (nI Y) μ) one := by
  have hh := h
  obtain ⟨h1, t0, t2, hr⟩ := hh
  refine eu_C_L_law_763.mpr (ev_bd.mpr (ev_mark h1 t2 hr.1 hr.2.2.1 (fun u' h' k => ?_)))
  refine ev_yes rfl ?_
  refine ev_bd.mpr (eu_X10_asked.mpr (ev_so.mpr (ev_yes (k.trans rfl) ?_)))
  exact t782 ⟨h', t0, t2, hr⟩ hB2 hn2
theorem t747 {n : Nat} {B : Int} (h : TS μ sz rw th V L mk rs W H X Y n B w1) (hB2 : B ≤ 82500) (hn2 : n ≤ 900) : Ev (C_L_law_747 b0 l0 f0 (nI W) (nI X) (nI Y) μ) one := by
  obtain ⟨h, t0, t2, hn, hd, hr, hb, hm, ⟨B0, hz⟩, e, hI, hB, hnn, hS⟩ := h
  have hf := hz.2.2.2.2.2.2.2.2
  refine eu_C_L_law_747.mpr (ev_bd.mpr (ev_down h t2 hn hr hm hf e (by omega) (fun u' v2 mk' rs' h' k1 k2 k3 k4 k5 => ?_)))
  refine ev_yes rfl ?_
  refine ev_bd.mpr (eu_X10_asked.mpr (ev_so.mpr (ev_yes (by rw [k5, Int32.sub_self]) ?_)))
  have ev : v2 = V 2 := by
    funext t c
    by_cases z : t = 2
    · subst z
      rw [k2]
      by_cases y : c < 4
      · rw [if_pos y, hf c y]
      · rw [if_neg y]
    · rw [k1 t z]
  rw [ev, vs_self] at h'
  exact t763 ⟨h', t0, t2, hn, hd, k4, hb, k3, ⟨B0, hz⟩, e, hI, hB, hnn, hS⟩ hB2 hn2
theorem t731 {n : Nat} {B : Int} (h : TS μ sz rw th V L mk rs W H X Y n B w1) (hB2 : B ≤ 82500) (hn2 : n ≤ 900) : Ev (C_L_law_731 b0 l0 f0 (nI W) (nI X) (nI Y) μ) one := by
  obtain ⟨h, t0, t2, hn, hd, hr, hb, hm, ⟨B0, hz⟩, e, hI, hB, hnn, hS⟩ := h
  have hf := hz.2.2.2.2.2.2.2.2
  refine eu_C_L_law_731.mpr (ev_bd.mpr (ev_up h t2 hn hr (by omega) hf (fun u' mk' rs' h' k1 k2 k3 => ?_)))
  refine ev_yes rfl ?_
  refine ev_bd.mpr (eu_X10_asked.mpr (ev_so.mpr (ev_yes (by rw [k3, e, Int32.sub_self]) ?_)))
  refine t747 (w1 := w1) (n := n) (B := B) ⟨h', t0, t2, hn.w0, ?_, k2, hb, k1, ⟨B0, ?_⟩, ?_, ?_, hB, hnn, hS⟩ hB2 hn2
  · rw [vs_e]
    exact DW_w hd
  · rw [vs_n (by decide)]
    exact hz
  · rw [vs_e, bs_e]
  · rw [vs_n (by decide)]
    exact hI
theorem t691 {n : Nat} {B : Int} (h : St μ sz rw th V L mk rs) (hl : l0 ≤ 260) (t0 : th 0 = true) (hn : NN th V) (hd : DW (V 0) W H) (hI : BI n B (V 0)) (hB : B ≤ 20600) (hnn : n ≤ 900) (hS : SZ sz) : Ev (C_L_law_691 b0 l0 f0 (nI W) (nI H) μ) one := by
  have hW := hd.2.2.1
  have hW8 := hd.2.2.2.1
  have hH := hd.2.2.2.2.1
  have hH6 := hd.2.2.2.2.2.1
  refine eu_C_L_law_691.mpr (ev_bd.mpr (ev_lcell (k := 46) hl (by decide) (fun x99 => ?_)))
  refine ev_bd.mpr (ev_low (by omega) (by omega) (fun X hX => ?_))
  refine ev_bd.mpr (ev_lcell (k := 47) hl (by decide) (fun x101 => ?_))
  refine ev_bd.mpr (ev_low (by omega) (by omega) (fun Y hY => ?_))
  refine ev_bd.mpr (ev_nest h t0 hn hd hX hY (fun u' L' mk' rs' h' k1 k2 k3 k4 k5 => ?_))
  refine ev_yes rfl ?_
  have hU : Y * W + X < nN (V 0) := by
    rw [hd.2.2.2.2.2.2.2.2.1]
    exact und_lt hX hY
  have hw := hI.wat hU
  obtain ⟨z1, z2⟩ := lay_NZ (v := V 2) hd hI hX hY
  have t0' : tput th 2 0 = true := by
    unfold tput
    rw [t0]
    rfl
  refine t731 (H := H) (w1 := V 0 2 (Y * W + X)) (n := n) (B := 4 * B) ⟨h', t0', rfl, ?_, ?_, k5, by omega, k4, ⟨V 0 1 (Y * W + X), ?_⟩, ?_, ?_, by omega, by omega, hS⟩ (by omega) hnn
  · unfold NU
    rw [vs_e, vs_n (by decide)]
    exact ⟨z1.1, z1.2.1, z1.2.2.1, hd.1, hd.2.1, k1, k2, k3, hX, hY, hW8, hH6, hd.2.2.2.2.2.2.2.2.2⟩
  · rw [vs_n (by decide)]
    exact hd
  · rw [vs_e]
    exact z1
  · rw [vs_n (by decide)]
  · rw [vs_e]
    exact z2
end LT
