/-! p56: the law's middle: twelve steps, what is kept, the mirror. -/
theorem ev_not {α : Type} {c : Prop} [Decidable c] {a b : Option (α × qM)} {P : α → qM → Prop} (h : ¬ c) (K : Ev b P) : Ev (if c then a else b) P := ev_if.mpr (by rw [if_neg h]; exact K)
theorem NN_w {th : Nat → Bool} {V : Nat → qB} {b : Nat} {v : qB} (h : NN th V) (hv : ¬ v 0 0 = nI 2) : NN th (vset V b v) := fun x hx ht => by
  by_cases z : x = b
  · subst z
    rw [vs_e]
    exact hv
  · rw [vs_n z]
    exact h x hx ht
theorem mir_00 {v : qB} : mir v 0 0 = v 0 0 := rfl
theorem mir_dw {v : qB} {W H : Nat} (h : DW v W H) : DW (mir v) W H := DW_s h rfl rfl
theorem nxt_dw {v : qB} {W H : Nat} {t : Option Int32} (h : DW v W H) : DW (nxt t v) W H := DW_s h (nxt_s (by decide) (by decide) (by decide)) (nxt_s (by decide) (by decide) (by decide))
theorem it_dw {sz : Nat → Int32} {rw : Nat → Nat → Int32} {W H : Nat} : ∀ k v, DW v W H → DW (itn sz rw k v) W H
  | 0, _, h => h
  | k + 1, _, h => it_dw k _ (nxt_dw h)
theorem it_00 {sz : Nat → Int32} {rw : Nat → Nat → Int32} : ∀ k v, itn sz rw k v 0 0 = v 0 0
  | 0, _ => rfl
  | k + 1, v => (it_00 k _).trans (nxt_s (by decide) (by decide) (by decide))
section LM
variable {μ : qM} {sz : Nat → Int32} {rw : Nat → Nat → Int32} {th : Nat → Bool} {V : Nat → qB} {L mk rs : Nat → Nat → Int32} {b0 l0 : Nat} {f0 : Nat → Int32} {W H : Nat}
theorem lp632 {e : qM → Option (Int32 × qM)} {P : Int32 → qM → Prop} (h : St μ sz rw th V L mk rs) (t0 : th 0 = true) (t1 : th 1 = true) (d0 : DW (V 0) W H) (d1 : DW (V 1) W H) (hf : ∀ s, V 1 4 s = V 0 4 s) (K : ∀ u', St u' sz rw th V L mk rs → Ev (e u') P) : Ev (L_L_law_632 b0 l0 f0 (nI W) (nI H) (nI (W * H)) q_fu (nI 0) μ e) P := by
  have hN := d0.2.2.2.2.2.2.2.2.2
  have e2 : 2 * nI (W * H) = nI (2 * (W * H)) := pk_mul 2 (W * H)
  refine lpc (fun f x t => L_L_law_632 b0 l0 f0 (nI W) (nI H) (nI (W * H)) f x t e) (fun _ t => St t sz rw th V L mk rs) (2 * (W * H)) (by omega) μ h ?_ ?_
  · intro f i w hi hw K'
    refine eu_L_L_law_632.mpr (ev_not (by rw [e2, nI_leI (by omega) (by omega)]; omega) ?_)
    have ea : nI i + 1 = nI (i + 1) := nI_add i 1
    refine ev_bd.mpr (ev_flow (b := 0) hw (by decide) t0 d0 hi (fun q u1 h1 k1 => ?_) (fun q u1 h1 => ?_))
    · refine ev_bd.mpr (eu_X10_asked.mpr (ev_so.mpr (ev_bd.mpr (ev_flow (b := 1) h1 (by decide) t1 d1 hi (fun _ u2 h2 k2 => ?_) (fun q2 => by rw [q] at q2; cases q2)))))
      refine ev_yes rfl (ev_jn.mpr (ev_yes rfl (ev_bd.mpr (eu_X10_asked.mpr (ev_so.mpr (ev_yes ?_ (ev_lt.mpr ?_)))))))
      · rw [k2, k1]
        exact hf i
      · rw [ea]
        exact K' _ h2
    · refine ev_bd.mpr (eu_X10_asked.mpr (ev_so.mpr (ev_bd.mpr (ev_flow (b := 1) h1 (by decide) t1 d1 hi (fun q2 => by rw [q] at q2; cases q2) (fun _ u2 h2 => ?_)))))
      refine ev_yes rfl (ev_jn.mpr (ev_not (by decide +kernel) (ev_lt.mpr ?_)))
      rw [ea]
      exact K' _ h2
  · intro f w hw
    exact eu_L_L_law_632.mpr (ev_yes (by rw [e2]; exact Int32.le_refl _) (K w hw))
theorem t618 {n : Nat} {B : Int} (h : St μ sz rw th V L mk rs) (hl : l0 ≤ 260) (t0 : th 0 = true) (t1 : th 1 = true) (hn : NN th V) (hd : DW (V 0) W H) (hI : BI n B (V 0)) (hB : B ≤ 20600) (hnn : n ≤ 900) (hS : SZ sz) (e1 : V 1 = mir (V 0)) : Ev (C_L_law_618 b0 l0 f0 (nI W) (nI H) (nI (W * H)) μ) one := by
  have d1 : DW (V 1) W H := by rw [e1]; exact mir_dw hd
  have w1 : WF n (V 1) := by rw [e1]; exact WF_mir hI.1
  refine eu_C_L_law_618.mpr (ev_bd.mpr (ev_mirror (b := 1) h (by decide) t1 hn d1 w1 (fun u' h' => ?_)))
  refine ev_yes rfl (eu_C_L_law_629.mpr ?_)
  refine lp632 h' t0 t1 ?_ ?_ (fun s => ?_) (fun u2 h2 => ?_)
  · rw [vs_n (by decide)]
    exact hd
  · rw [vs_e]
    exact mir_dw d1
  · rw [vs_e, vs_n (by decide), e1]
    exact mir_mir4 hI.1
  · refine t691 (n := n) (B := B) h2 hl t0 (NN_w hn ?_) ?_ ?_ hB hnn hS
    · rw [mir_00]
      exact hn 1 (by decide) t1
    · rw [vs_n (by decide)]
      exact hd
    · rw [vs_n (by decide)]
      exact hI
theorem x_op {c : Nat} (h2 : 2 ≤ W) (h8 : W ≤ 8) (hc : c < 48) : ((((nI c / nI W) * nI W) + nI W) - 1) - (nI c - nI c / nI W * nI W) = nI (opw W c) := by
  have hm : c % W < W := Nat.mod_lt _ (by omega)
  have hq : W * (c / W) + c % W = c := Nat.div_add_mod c W
  have hq2 : c / W * W = W * (c / W) := Nat.mul_comm _ _
  rw [pk_div (by omega) (by omega) (by omega), pk_mul, pk_rem', nI_add]
  have e1 : nI (c / W * W + W) - 1 = nI (c / W * W + W - 1) := pk_sub (b := 1) (by omega)
  rw [e1, pk_sub (by omega)]
  congr 1
  unfold opw
  omega
theorem lp542 {x : Int32} {e : qM → Option (Int32 × qM)} {P : Int32 → qM → Prop} (h : St μ sz rw th V L mk rs) (t0 : th 0 = true) (t1 : th 1 = true) (hd : DW (V 0) W H) (e1 : V 1 = mir (V 0)) (K : ∀ u', St u' sz rw th V L mk rs → Ev (e u') P) : Ev (L_L_law_542 b0 l0 f0 (nI W) (nI H) (nI (W * H)) x q_fu (nI 0) μ e) P := by
  obtain ⟨k1, k2, k3, k4, k5, k6, k7, k8, k9, hN⟩ := id hd
  have d1 : DW (V 1) W H := by rw [e1]; exact mir_dw hd
  refine lpc (fun f y t => L_L_law_542 b0 l0 f0 (nI W) (nI H) (nI (W * H)) x f y t e) (fun _ t => St t sz rw th V L mk rs) (W * H) (by omega) μ h ?_ ?_
  · intro f i w hi hw K'
    have ea : nI i + 1 = nI (i + 1) := nI_add i 1
    have o := opw_f k3 k4 hi
    refine eu_L_L_law_542.mpr (ev_not (by rw [nI_leI (by omega) (by omega)]; omega) ?_)
    refine ev_ck.mpr ⟨q_nzI (by omega) (by omega), ev_ck.mpr ⟨q_nzI (by omega) (by omega), ev_lt.mpr ?_⟩⟩
    rw [x_op k3 k4 (by omega)]
    refine ev_bd.mpr (ev_at1 (b := 0) hw (by decide) t0 hd hi (fun u1 h1 => ?_))
    refine ev_bd.mpr (ev_at1 (b := 1) h1 (by decide) t1 d1 o.1 (fun u2 h2 => ?_))
    refine ev_yes ?_ ?_
    · rw [e1, mir_2c hd o.1, o.2.1]
    refine ev_bd.mpr (ev_at4 (b := 0) h2 (by decide) t0 hd hi (fun u3 h3 => ?_))
    refine ev_bd.mpr (ev_at4 (b := 1) h3 (by decide) t1 d1 o.1 (fun u4 h4 => ?_))
    refine ev_yes ?_ (ev_lt.mpr ?_)
    · rw [e1, mir_3, k9, k7, if_pos (by omega)]
      unfold s3
      rw [show (1 * 48 + opw W i) / 48 = 1 by omega, show (1 * 48 + opw W i) % 48 = opw W i by omega, o.2.1]
    · rw [ea]
      exact K' _ h4
  · intro f w hw
    exact eu_L_L_law_542.mpr (ev_yes (Int32.le_refl _) (K w hw))
theorem tm_mir {n : Nat} {v : qB} (hd : DW v W H) (hw : WF n v) (h : tmF v = false) : tmF (mir v) = false := by
  have k9 := hd.2.2.2.2.2.2.2.2.1
  refine tmF_f (fun c hc => ?_)
  have hc' : c < W * H := by
    have : nN (mir v) = nN v := rfl
    rw [this, k9] at hc
    exact hc
  have e : rcN (mir v) = rcN v := rfl
  rw [e, riv_m hw hd hc' _ (Nat.le_refl _), x_le, x100]
  exact tmF_le h (by rw [k9]; exact (opw_f hd.2.2.1 hd.2.2.2.1 hc').1)
theorem t508 {n : Nat} {B : Int} (h : St μ sz rw th V L mk rs) (hl : l0 ≤ 260) (t0 : th 0 = true) (t1 : th 1 = true) (hn : NN th V) (hd : DW (V 0) W H) (hI : BI n B (V 0)) (hB : B ≤ 15600) (hnn : n ≤ 800) (hS : SZ sz) (e1 : V 1 = mir (V 0)) (h0 : V 0 0 0 = nI 0) : Ev (C_L_law_508 b0 l0 f0 (nI W) (nI H) (nI (W * H)) μ) one := by
  have h48 := hd.2.2.2.2.2.2.2.2.2
  have hI0 : BI (n + 0) (B + ((0 : Nat) : Int) * 1000) (V 0) := by
    have e : B + ((0 : Nat) : Int) * 1000 = B := by omega
    rw [e]
    exact hI
  refine eu_C_L_law_508.mpr ?_
  refine lpc (fun f y t => L_L_law_511 b0 l0 f0 (nI W) (nI H) (nI (W * H)) f y t (fun u113 => C_L_law_618 b0 l0 f0 (nI W) (nI H) (nI (W * H)) u113)) (fun i t => ∃ V' : Nat → qB, St t sz rw th V' L mk rs ∧ NN th V' ∧ DW (V' 0) W H ∧ BI (n + i) (B + (i : Int) * 1000) (V' 0) ∧ V' 1 = mir (V' 0) ∧ V' 0 0 0 = nI 0) 5 (by decide) μ ⟨V, h, hn, hd, hI0, e1, h0⟩ ?_ ?_
  · rintro f i w hi ⟨V', g1, g2, g3, g4, g5, g6⟩ K'
    have ea : nI i + 1 = nI (i + 1) := nI_add i 1
    have hx : ∀ x, (none : Option Int32) = some x → -1000 ≤ x.toInt ∧ x.toInt ≤ 100 := fun x q => by cases q
    have st := BI_step (t := none) g4 (by omega) hx
    have hk : ¬ V' 0 0 0 = nI 2 := by rw [g6]; decide +kernel
    refine eu_L_L_law_511.mpr (ev_not (by
      have : ¬ (nI 5 ≤ nI i) := by rw [nI_leI (by decide) (by omega)]; omega
      exact this) ?_)
    refine ev_bd.mpr (ev_step1 (b := 0) (n := n + i) g1 (by decide) t0 hS g4.1 st.1 (by omega) (fun u1 h1 => ?_))
    rw [td_2 (.inr g6)] at h1
    refine ev_yes rfl ?_
    have w1 : WF (n + i) (V' 1) := by rw [g5]; exact WF_mir g4.1
    refine ev_bd.mpr (ev_step1 (b := 1) (n := n + i) h1 (by decide) t1 hS (by rw [vs_n (by decide)]; exact w1) (by rw [vs_n (by decide), g5]; exact tm_mir g3 g4.1 st.1) (by omega) (fun u2 h2 => ?_))
    rw [vs_n (by decide), g5, td_2 (.inr (mir_00.trans g6)), nxt_mir g4.1] at h2
    refine ev_yes rfl ?_
    have n00 : nxt none (V' 0) 0 0 = nI 0 := (nxt_s (by decide) (by decide) (by decide)).trans g6
    have n2 : ¬ nxt none (V' 0) 0 0 = nI 2 := by rw [n00]; decide +kernel
    refine lp542 h2 t0 t1 ?_ ?_ (fun u3 h3 => ?_)
    · rw [vs_n (by decide), vs_e]
      exact nxt_dw g3
    · rw [vs_e, vs_n (by decide), vs_e]
    refine ev_lt.mpr ?_
    rw [ea]
    refine K' u3 ⟨_, h3, NN_w (NN_w g2 n2) (by rw [mir_00]; exact n2), ?_, ?_, ?_, ?_⟩
    · rw [vs_n (by decide), vs_e]
      exact nxt_dw g3
    · rw [vs_n (by decide), vs_e]
      have e : B + ((i + 1 : Nat) : Int) * 1000 = B + (i : Int) * 1000 + 1000 := by
        push_cast
        omega
      rw [e, ← Nat.add_assoc]
      exact st.2
    · rw [vs_e, vs_n (by decide), vs_e]
    · rw [vs_n (by decide), vs_e]
      exact n00
  · rintro f w ⟨V', g1, g2, g3, g4, g5, g6⟩
    refine eu_L_L_law_511.mpr (ev_yes (Int32.le_refl _) ?_)
    exact t618 (n := n + 5) (B := B + ((5 : Nat) : Int) * 1000) g1 hl t0 t1 g2 g3 g4 (by omega) (by omega) hS g5
theorem t492 {n k : Nat} {B : Int} (hk : k < 3) (h : St μ sz rw th V L mk rs) (hl : l0 ≤ 260) (t0 : th 0 = true) (t1 : th 1 = true) (hn : NN th V) (hd : DW (V 0) W H) (hI : BI n B (V 0)) (hB : B ≤ 15600) (hnn : n ≤ 800) (hS : SZ sz) (e1 : V 1 = V 0) (h0 : k = 0 → V 0 0 0 = nI 0) : Ev (C_L_law_492 b0 l0 f0 (nI W) (nI H) (nI k) (nI (W * H)) μ) one := by
  refine eu_C_L_law_492.mpr ?_
  by_cases z : k = 0
  · subst z
    refine ev_yes rfl (eu_C_L_law_497.mpr ?_)
    have d1 : DW (V 1) W H := by rw [e1]; exact hd
    refine ev_bd.mpr (ev_mirror (b := 1) h (by decide) t1 hn d1 (by rw [e1]; exact hI.1) (fun u' h' => ?_))
    refine ev_yes rfl ?_
    refine t508 (n := n) (B := B) h' hl t0 t1 (NN_w hn (by rw [mir_00]; exact hn 1 (by decide) t1)) ?_ ?_ hB hnn hS ?_ ?_
    · rw [vs_n (by decide)]
      exact hd
    · rw [vs_n (by decide)]
      exact hI
    · rw [vs_e, vs_n (by decide), e1]
    · rw [vs_n (by decide)]
      exact h0 rfl
  · refine ev_not (fun q => z ((nI_eq (a := k) (b := 0) (by omega) (by decide)).mp q)) ?_
    exact t691 (n := n) (B := B) h hl t0 hn hd hI (by omega) (by omega) hS
theorem lp439 {x y : Int32} {e : qM → Option (Int32 × qM)} {P : Int32 → qM → Prop} (h : St μ sz rw th V L mk rs) (t0 : th 0 = true) (t1 : th 1 = true) (hd : DW (V 0) W H) (e1 : V 1 = V 0) (K : ∀ u', St u' sz rw th V L mk rs → Ev (e u') P) : Ev (L_L_law_439 b0 l0 f0 (nI W) x y (nI (W * H)) q_fu (nI 0) μ e) P := by
  have hN := hd.2.2.2.2.2.2.2.2.2
  have d1 : DW (V 1) W H := by rw [e1]; exact hd
  refine lpc (fun f z t => L_L_law_439 b0 l0 f0 (nI W) x y (nI (W * H)) f z t e) (fun _ t => St t sz rw th V L mk rs) (W * H) (by omega) μ h ?_ ?_
  · intro f i w hi hw K'
    have ea : nI i + 1 = nI (i + 1) := nI_add i 1
    refine eu_L_L_law_439.mpr (ev_not (by rw [nI_leI (by omega) (by omega)]; omega) ?_)
    refine ev_bd.mpr (ev_at1 (b := 0) hw (by decide) t0 hd hi (fun u1 h1 => ?_))
    refine ev_bd.mpr (ev_at1 (b := 1) h1 (by decide) t1 d1 hi (fun u2 h2 => ?_))
    refine ev_yes (by rw [e1]) ?_
    refine ev_bd.mpr (ev_at4 (b := 0) h2 (by decide) t0 hd hi (fun u3 h3 => ?_))
    refine ev_bd.mpr (ev_at4 (b := 1) h3 (by decide) t1 d1 hi (fun u4 h4 => ?_))
    refine ev_yes (by rw [e1]) (ev_lt.mpr ?_)
    rw [ea]
    exact K' _ h4
  · intro f w hw
    exact eu_L_L_law_439.mpr (ev_yes (Int32.le_refl _) (K w hw))
theorem t422 {n k : Nat} {B : Int} {v : qB} (hk : k < 3) (h : St μ sz rw th V L mk rs) (hl : l0 ≤ 260) (t0 : th 0 = true) (t1 : th 1 = true) (hn : NN th V) (hd : DW v W H) (hI : BI n B v) (hB : B ≤ 3600) (hnn : n ≤ 700) (hS : SZ sz) (hT : TK sz rw v) (e0 : V 0 = itn sz rw 12 v) (e1 : V 1 = v) (h0 : k = 0 → v 0 0 = nI 0) : Ev (C_L_law_422 b0 l0 f0 (nI W) (nI H) (nI k) (nI (W * H)) μ) one := by
  have i2 := (BI_it (sz := sz) (rw := rw) 12 n B v hI hT (by omega)).1
  refine eu_C_L_law_422.mpr (ev_bd.mpr (ev_step (b := 1) (N := 12) h (by decide) (by decide) t1 hS (by rw [e1]; exact hI) (by omega) (by omega) (by rw [e1]; exact hT) (fun u1 h1 => ?_)))
  rw [e1] at h1
  refine ev_yes rfl (eu_C_L_law_436.mpr ?_)
  have d2 : DW (itn sz rw 12 v) W H := it_dw 12 v hd
  have n1 : ¬ itn sz rw 12 v 0 0 = nI 2 := by
    rw [← e0]
    exact hn 0 (by decide) t0
  refine lp439 h1 t0 t1 ?_ ?_ (fun u2 h2 => ?_)
  · rw [vs_n (by decide), e0]
    exact d2
  · rw [vs_e, vs_n (by decide), e0]
  refine t492 (n := n + 12) (B := B + ((12 : Nat) : Int) * 1000) hk h2 hl t0 t1 (NN_w hn n1) ?_ ?_ (by omega) (by omega) hS ?_ (fun z => ?_)
  · rw [vs_n (by decide), e0]
    exact d2
  · rw [vs_n (by decide), e0]
    exact i2
  · rw [vs_e, vs_n (by decide), e0]
  · rw [vs_n (by decide), e0, it_00]
    exact h0 z
theorem mass_it {sz : Nat → Int32} {rw : Nat → Nat → Int32} : ∀ (k n : Nat) (B : Int) (v : qB), BI n B v → TK sz rw v → B + (k : Int) * 1000 ≤ 90000 → tel (itn sz rw k v) 4 - tel (itn sz rw k v) 5 - tel (itn sz rw k v) 6 = tel v 4 - tel v 5 - tel v 6 ∧ tel (itn sz rw k v) 8 = tel v 8
  | 0, _, _, _, _, _, _ => ⟨rfl, rfl⟩
  | k + 1, n, B, v, hI, hT, hB => by
    have hk : ((k + 1 : Nat) : Int) * 1000 = (k : Int) * 1000 + 1000 := by
      push_cast
      omega
    rw [hk] at hB
    have hk0 : (0 : Int) ≤ (k : Int) * 1000 := by omega
    obtain ⟨a, b⟩ := mass_it k (n + 1) (B + 1000) _ (BI_step hI (by omega) (TK_td hT)).2 (TK_nxt (t := td v sz rw) hT) (by omega)
    rw [itn_s]
    exact ⟨a.trans (nxt_mass hI.1), b.trans (nxt_stuff hI.1)⟩
theorem lp368 {n : Nat} {B : Int} {x y z1 z2 z3 : Int32} {e : qM → Option (Int32 × qM)} {P : Int32 → qM → Prop} (h : St μ sz rw th V L mk rs) (t0 : th 0 = true) (hd : DW (V 0) W H) (hI : BI n B (V 0)) (K : ∀ u', St u' sz rw th V L mk rs → Ev (e u') P) : Ev (L_L_law_368 b0 l0 f0 (nI W) x y (nI (W * H)) z1 z2 z3 q_fu (nI 0) μ e) P := by
  obtain ⟨k1, k2, k3, k4, k5, k6, k7, k8, k9, hN⟩ := id hd
  refine lpc (fun f z t => L_L_law_368 b0 l0 f0 (nI W) x y (nI (W * H)) z1 z2 z3 f z t e) (fun _ t => St t sz rw th V L mk rs) (W * H) (by omega) μ h ?_ ?_
  · intro f i w hi hw K'
    have ea : nI i + 1 = nI (i + 1) := nI_add i 1
    have h0 : (0 : Int32).toInt = 0 := by decide +kernel
    have hb := hI.1.2.1.2.1 i
    have hs := hI.2.2.1 i (by rw [k9]; exact hi)
    refine eu_L_L_law_368.mpr (ev_not (by rw [nI_leI (by omega) (by omega)]; omega) ?_)
    refine ev_bd.mpr (ev_at1 (b := 0) hw (by decide) t0 hd hi (fun u1 h1 => ?_))
    refine ev_not (by rw [x_lt, h0]; omega) (ev_not (by rw [x_lt, x100]; omega) ?_)
    refine ev_bd.mpr (ev_at4 (b := 0) h1 (by decide) t0 hd hi (fun u2 h2 => ?_))
    refine ev_yes (by rw [x_le, h0]; exact hs) (ev_lt.mpr ?_)
    rw [ea]
    exact K' _ h2
  · intro f w hw
    exact eu_L_L_law_368.mpr (ev_yes (Int32.le_refl _) (K w hw))
theorem t288 {n k : Nat} {B : Int} {v : qB} (hk : k < 3) (h : St μ sz rw th V L mk rs) (hl : l0 ≤ 260) (t0 : th 0 = true) (t1 : th 1 = true) (hn : NN th V) (hd : DW v W H) (hI : BI n B v) (hB : B ≤ 3600) (hnn : n ≤ 700) (hS : SZ sz) (hT : TK sz rw v) (e0 : V 0 = v) (e1 : V 1 = v) (h0 : k = 0 → v 0 0 = nI 0) (q5 : tel v 5 = 0) (q6 : tel v 6 = 0) : Ev (C_L_law_288 b0 l0 f0 (nI W) (nI H) (nI k) (nI (W * H)) μ) one := by
  have hv2 : ¬ v 0 0 = nI 2 := by
    rw [← e0]
    exact hn 0 (by decide) t0
  refine eu_C_L_law_288.mpr (ev_bd.mpr (ev_told (b := 0) (m := 4) h (by decide) t0 (by rw [e0]; exact hI.1.gd) (by decide) (fun u1 h1 => ?_)))
  refine ev_bd.mpr (ev_told (b := 0) (m := 8) h1 (by decide) t0 (by rw [e0]; exact hI.1.gd) (by decide) (fun u2 h2 => ?_))
  rw [e0]
  refine lpc (fun f y t => L_L_law_308 b0 l0 f0 (nI W) (nI H) (nI k) (nI (W * H)) (tel v 4) (tel v 8) f y t (fun u52 => C_L_law_422 b0 l0 f0 (nI W) (nI H) (nI k) (nI (W * H)) u52)) (fun i t => ∃ V' : Nat → qB, St t sz rw th V' L mk rs ∧ NN th V' ∧ V' 0 = itn sz rw i v ∧ V' 1 = v) 12 (by decide) u2 ⟨V, h2, hn, e0, e1⟩ ?_ ?_
  · rintro f i w hi ⟨V', g1, g2, g3, g4⟩ K'
    have ea : nI i + 1 = nI (i + 1) := nI_add i 1
    obtain ⟨i1, i2⟩ := BI_it (sz := sz) (rw := rw) i n B v hI hT (by omega)
    obtain ⟨j1, j2⟩ := BI_it (sz := sz) (rw := rw) (i + 1) n B v hI hT (by push_cast; omega)
    obtain ⟨m1, m2⟩ := mass_it (sz := sz) (rw := rw) (i + 1) n B v hI hT (by push_cast; omega)
    have e12 : ¬ (nI 12 ≤ nI i) := by rw [nI_leI (by decide) (by omega)]; omega
    refine eu_L_L_law_308.mpr (ev_not e12 ?_)
    have st := BI_step i1 (by omega) (TK_td i2)
    refine ev_bd.mpr (ev_step1 (b := 0) (n := n + i) g1 (by decide) t0 hS (by rw [g3]; exact i1.1) (by rw [g3]; exact st.1) (by omega) (fun u3 h3 => ?_))
    rw [g3, ← itn_r] at h3
    refine ev_yes rfl ?_
    have hgd : GD (vset V' 0 (itn sz rw (i + 1) v) 0) := by
      rw [vs_e]
      exact j1.1.gd
    refine ev_bd.mpr (ev_told (b := 0) (m := 4) h3 (by decide) t0 hgd (by decide) (fun u4 h4 => ?_))
    refine ev_bd.mpr (ev_told (b := 0) (m := 5) h4 (by decide) t0 hgd (by decide) (fun u5 h5 => ?_))
    refine ev_bd.mpr (ev_told (b := 0) (m := 6) h5 (by decide) t0 hgd (by decide) (fun u6 h6 => ?_))
    refine ev_yes ?_ ?_
    · rw [vs_e, m1, q5, q6, Int32.sub_zero, Int32.sub_zero]
    refine ev_bd.mpr (ev_told (b := 0) (m := 8) h6 (by decide) t0 hgd (by decide) (fun u7 h7 => ?_))
    refine ev_yes ?_ ?_
    · rw [vs_e]
      exact m2
    refine lp368 (n := n + (i + 1)) (B := B + ((i + 1 : Nat) : Int) * 1000) h7 t0 ?_ ?_ (fun u8 h8 => ?_)
    · rw [vs_e]
      exact it_dw (i + 1) v hd
    · rw [vs_e]
      exact j1
    refine ev_lt.mpr ?_
    rw [ea]
    refine K' u8 ⟨_, h8, NN_w g2 ?_, ?_, ?_⟩
    · rw [it_00]
      exact hv2
    · rw [vs_e]
    · rw [vs_n (by decide)]
      exact g4
  · rintro f w ⟨V', g1, g2, g3, g4⟩
    refine eu_L_L_law_308.mpr (ev_yes (Int32.le_refl _) ?_)
    exact t422 (n := n) (B := B) hk g1 hl t0 t1 g2 hd hI hB hnn hS hT g3 g4 h0
end LM
