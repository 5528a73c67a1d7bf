/-! play: a step keeps what is read; what an item does. -/
theorem Ev.and {α : Type} {o : Option (α × qM)} {P Q : α → qM → Prop} (h1 : Ev o P) (h2 : Ev o Q) : Ev o (fun v u => P v u ∧ Q v u) := by
  obtain ⟨v, u, e, p⟩ := h1
  obtain ⟨v', u', e', q⟩ := h2
  rw [e] at e'
  injection e' with e'
  injection e' with e1 e2
  subst e1
  subst e2
  exact ⟨v, u, e, p, q⟩
def FS (c c' : qM) : Prop := (∀ a i s, a = 7 ∨ a = 31 ∨ a = 32 ∨ a = 33 ∨ a = 34 ∨ a = 0 → c'.1 a i s = c.1 a i s) ∧ c'.2 = c.2
theorem step1f {n b : Nat} {c m0 : qM} {P : Int32 → qM → Prop} (hn : n + 1 ≤ 2000000) (h : Rel n (mix c m0)) (hb : b < 6) (ht : c.1 2 b 10 = nI 1) (K : ∀ r c', FS c c' → P r c') : Ev (f_X10_stepWhole (nI b) c) P := by
  obtain ⟨hw, hs, hB, hG⟩ := h.cls hb ht
  obtain ⟨w, hh, hd⟩ := hw.gd.dw
  have hN : nN (cB c b) = w * hh := hd.2.2.2.2.2.2.2.2.1
  have h48 : w * hh ≤ 48 := hd.2.2.2.2.2.2.2.2.2
  simp (disch := first | omega | decide) only [Nat.reduceAdd, Nat.reduceMul, ↓ev_ck, ↓ev_if, ↓ev_lt, ↓ev_jn, ↓ev_so, ↓reduceIte, ↓ev_within, ↓ev_in, ↓ev_isBoard, ↓ev_isGauge, ↓ev_isNumber, ↓ev_isSix, ↓ev_isEight, ↓ev_foundN, ↓ev_meetsN, ↓ev_found_1, ↓ev_meets_1, ↓ev_found_2, ↓ev_meets_2, ↓ev_found_3, ↓ev_meets_3, ↓ev_found_4, ↓ev_meets_4, ↓ev_found_5, ↓ev_meets_5, true_and, and_true, and_self, eq_self, not_true_eq_false, not_false_eq_true, ite_true, ite_false, true_or, or_true, false_or, or_false, false_and, and_false, ← zi_ni_0, ← zi_ni_1, ← zi_ni_2, ← zi_ni_3, ← zi_ni_4, ← zi_ni_5, ← zi_ni_6, ← zi_ni_7, ← zi_ni_8, ← zi_ni_9, ← zi_ni_10, ← zi_ni_12, ← zi_ni_24, ← zi_ni_25, ← zi_ni_40, ← zi_ni_45, ← zi_ni_47, ← zi_ni_48, ← zi_ni_95, ← zi_ni_96, ← zi_ni_97, ← zi_ni_100, ← zi_ni_144, ← zi_ni_288, nI_ltI, nI_leI, nI_eqI, nlt_T, nlt_F, nle_T, nle_F, neq_T, neq_F, nI_add, pk_mul, nI_clamp, q_inT, ng_lt, ng_tl, ng_le, ng_el, ng_eq, ng_qe, q_b0, q_b1, nar_0, nar_1, b01, b01', q_bn0, q_bn1, nar_n0, nar_n1, si_k, si_i, si_s, si_e, si_2, sl_1, sl_22, sl_k, sl_i, sl_s, sl_e, sp_1, sp_21, sp_22, sc_k, sc_i, sc_e, sc_2, mF_k, mM_k, mF_2, mM_2, mF_0, mM_11, ↓eu_X10_stepWhole]
  refine ev_bd.mpr (ev_advance (n := n) (by omega) hw hs (fun htm c1 hA hc1 => ?_) (fun htm c1 hA hc1 => ?_))
  · try simp (disch := first | omega | decide) only [Nat.reduceAdd, Nat.reduceMul, ↓ev_ck, ↓ev_if, ↓ev_lt, ↓ev_jn, ↓ev_so, ↓reduceIte, ↓ev_within, ↓ev_in, ↓ev_isBoard, ↓ev_isGauge, ↓ev_isNumber, ↓ev_isSix, ↓ev_isEight, ↓ev_foundN, ↓ev_meetsN, ↓ev_found_1, ↓ev_meets_1, ↓ev_found_2, ↓ev_meets_2, ↓ev_found_3, ↓ev_meets_3, ↓ev_found_4, ↓ev_meets_4, ↓ev_found_5, ↓ev_meets_5, true_and, and_true, and_self, eq_self, not_true_eq_false, not_false_eq_true, ite_true, ite_false, true_or, or_true, false_or, or_false, false_and, and_false, ← zi_ni_0, ← zi_ni_1, ← zi_ni_2, ← zi_ni_3, ← zi_ni_4, ← zi_ni_5, ← zi_ni_6, ← zi_ni_7, ← zi_ni_8, ← zi_ni_9, ← zi_ni_10, ← zi_ni_12, ← zi_ni_24, ← zi_ni_25, ← zi_ni_40, ← zi_ni_45, ← zi_ni_47, ← zi_ni_48, ← zi_ni_95, ← zi_ni_96, ← zi_ni_97, ← zi_ni_100, ← zi_ni_144, ← zi_ni_288, nI_ltI, nI_leI, nI_eqI, nlt_T, nlt_F, nle_T, nle_F, neq_T, neq_F, nI_add, pk_mul, nI_clamp, q_inT, ng_lt, ng_tl, ng_le, ng_el, ng_eq, ng_qe, q_b0, q_b1, nar_0, nar_1, b01, b01', q_bn0, q_bn1, nar_n0, nar_n1, si_k, si_i, si_s, si_e, si_2, sl_1, sl_22, sl_k, sl_i, sl_s, sl_e, sp_1, sp_21, sp_22, sc_k, sc_i, sc_e, sc_2, mF_k, mM_k, mF_2, mM_2, mF_0, mM_11]
    exact K _ c1 ⟨fun a i s q => hA.1 a i s (by omega) (by omega), hA.2⟩
  · have hX := WF_nxt (t := tdC c (cB c b)) hw htm
    have hdX : DW (nxt (tdC c (cB c b)) (cB c b)) w hh := DW_s hd (nxt_s (by decide) (by decide) (by decide)) (nxt_s (by decide) (by decide) (by decide))
    generalize nxt (tdC c (cB c b)) (cB c b) = X at *
    try simp (disch := first | omega | decide) only [Nat.reduceAdd, Nat.reduceMul, ↓ev_ck, ↓ev_if, ↓ev_lt, ↓ev_jn, ↓ev_so, ↓reduceIte, ↓ev_within, ↓ev_in, ↓ev_isBoard, ↓ev_isGauge, ↓ev_isNumber, ↓ev_isSix, ↓ev_isEight, ↓ev_foundN, ↓ev_meetsN, ↓ev_found_1, ↓ev_meets_1, ↓ev_found_2, ↓ev_meets_2, ↓ev_found_3, ↓ev_meets_3, ↓ev_found_4, ↓ev_meets_4, ↓ev_found_5, ↓ev_meets_5, true_and, and_true, and_self, eq_self, not_true_eq_false, not_false_eq_true, ite_true, ite_false, true_or, or_true, false_or, or_false, false_and, and_false, ← zi_ni_0, ← zi_ni_1, ← zi_ni_2, ← zi_ni_3, ← zi_ni_4, ← zi_ni_5, ← zi_ni_6, ← zi_ni_7, ← zi_ni_8, ← zi_ni_9, ← zi_ni_10, ← zi_ni_12, ← zi_ni_24, ← zi_ni_25, ← zi_ni_40, ← zi_ni_45, ← zi_ni_47, ← zi_ni_48, ← zi_ni_95, ← zi_ni_96, ← zi_ni_97, ← zi_ni_100, ← zi_ni_144, ← zi_ni_288, nI_ltI, nI_leI, nI_eqI, nlt_T, nlt_F, nle_T, nle_F, neq_T, neq_F, nI_add, pk_mul, nI_clamp, q_inT, ng_lt, ng_tl, ng_le, ng_el, ng_eq, ng_qe, q_b0, q_b1, nar_0, nar_1, b01, b01', q_bn0, q_bn1, nar_n0, nar_n1, si_k, si_i, si_s, si_e, si_2, sl_1, sl_22, sl_k, sl_i, sl_s, sl_e, sp_1, sp_21, sp_22, sc_k, sc_i, sc_e, sc_2, mF_k, mM_k, mF_2, mM_2, mF_0, mM_11]
    rw [hN] at hB hG
    refine lp_cb (v := X) hb hdX hX.2.1.2.2.1 (by rw [← hc1]; exact SN.mk) (fun k hk hq => by
      rw [hA.1 8 k 0 (by omega) (by omega)] at hq
      rw [hA.1 8 k 1 (by omega) (by omega), hA.1 8 k 2 (by omega) (by omega)]
      exact hB k hk hq) (fun c2 p1 p2 p3 => ?_)
    have q9 : ∀ k s, c1.1 9 k s = c.1 9 k s := fun k s => hA.1 9 k s (by omega) (by omega)
    have hc2 : cB c2 b = X := by
      rw [← hc1]
      apply cB_ext <;> exact funext (fun s => p1 _ b s (by omega))
    refine lp_cg (v := X) (N := w * hh) hb h48 (by rw [← hc2]; exact SN.mk) (fun g hg hq => by
      rw [p1 9 g 2 (by omega), q9] at hq
      rw [p1 9 g 3 (by omega), p1 9 g 4 (by omega), p1 9 g 5 (by omega), q9, q9, q9]
      exact hG g hg hq) (fun c3 r1 r2 r3 => ?_)
    try simp (disch := first | omega | decide) only [Nat.reduceAdd, Nat.reduceMul, ↓ev_ck, ↓ev_if, ↓ev_lt, ↓ev_jn, ↓ev_so, ↓reduceIte, ↓ev_within, ↓ev_in, ↓ev_isBoard, ↓ev_isGauge, ↓ev_isNumber, ↓ev_isSix, ↓ev_isEight, ↓ev_foundN, ↓ev_meetsN, ↓ev_found_1, ↓ev_meets_1, ↓ev_found_2, ↓ev_meets_2, ↓ev_found_3, ↓ev_meets_3, ↓ev_found_4, ↓ev_meets_4, ↓ev_found_5, ↓ev_meets_5, true_and, and_true, and_self, eq_self, not_true_eq_false, not_false_eq_true, ite_true, ite_false, true_or, or_true, false_or, or_false, false_and, and_false, ← zi_ni_0, ← zi_ni_1, ← zi_ni_2, ← zi_ni_3, ← zi_ni_4, ← zi_ni_5, ← zi_ni_6, ← zi_ni_7, ← zi_ni_8, ← zi_ni_9, ← zi_ni_10, ← zi_ni_12, ← zi_ni_24, ← zi_ni_25, ← zi_ni_40, ← zi_ni_45, ← zi_ni_47, ← zi_ni_48, ← zi_ni_95, ← zi_ni_96, ← zi_ni_97, ← zi_ni_100, ← zi_ni_144, ← zi_ni_288, nI_ltI, nI_leI, nI_eqI, nlt_T, nlt_F, nle_T, nle_F, neq_T, neq_F, nI_add, pk_mul, nI_clamp, q_inT, ng_lt, ng_tl, ng_le, ng_el, ng_eq, ng_qe, q_b0, q_b1, nar_0, nar_1, b01, b01', q_bn0, q_bn1, nar_n0, nar_n1, si_k, si_i, si_s, si_e, si_2, sl_1, sl_22, sl_k, sl_i, sl_s, sl_e, sp_1, sp_21, sp_22, sc_k, sc_i, sc_e, sc_2, mF_k, mM_k, mF_2, mM_2, mF_0, mM_11]
    exact K _ c3 ⟨fun a i s q => by rw [r1 a i s (by omega), p1 a i s (by omega)]; exact hA.1 a i s (by omega) (by omega), by rw [r2, p2, hA.2]⟩
theorem step1x {n b : Nat} {c m0 : qM} {P : Int32 → qM → Prop} (hn : n + 1 ≤ 2000000) (h : Rel n (mix c m0)) (hb : b < 6) (ht : c.1 2 b 10 = nI 1) (K : ∀ r c', FS c c' → FC c c' → (r = 0 ∨ r = 1) → c'.1 2 b 10 = nI 1 → (∀ m, Rel n (mix c m) → Ev (f_X11_stepOnce (nI b) m) (fun r' m' => r' = r ∧ FM m m' ∧ Rel (n + 1) (mix c' m'))) → P r c') : Ev (f_X10_stepWhole (nI b) c) P := by
  have h1 := step1f (P := fun _ c' => FS c c') hn h hb ht (fun _ _ q => q)
  have h2 := step1 (P := fun r c' => FC c c' ∧ (r = 0 ∨ r = 1) ∧ c'.1 2 b 10 = nI 1 ∧ (∀ m, Rel n (mix c m) → Ev (f_X11_stepOnce (nI b) m) (fun r' m' => r' = r ∧ FM m m' ∧ Rel (n + 1) (mix c' m')))) hn h hb ht (fun r c' q1 q2 q3 q4 => ⟨q1, q2, q3, q4⟩)
  exact (h1.and h2).mono (fun r c' q => K r c' q.1 q.2.1 q.2.2.1 q.2.2.2.1 q.2.2.2.2)
theorem Rel_bd {n j : Nat} {μ μ' : qM} {X : qB} (h : Rel n μ) (h1 : μ.1 2 j 10 = nI 1) (hI : ∀ a i s, ¬ scr a i s → isCK a = false → isMK a = false → μ'.1 a i s = μ.1 a i s) (hL : ∀ a s, a = 0 ∨ a = 10 ∨ (a = 11 ∧ (s = 3 ∨ s = 4 ∨ s = 5)) → μ'.2.1 a 0 s = μ.2.1 a 0 s) (h10 : ∀ b, b < 6 → μ'.1 2 b 10 = μ.1 2 b 10) (hcO : ∀ b, b < 6 → b ≠ j → cB μ' b = cB μ b) (hmO : ∀ b, b < 6 → b ≠ j → mB μ' b = mB μ b) (hc : cB μ' j = X) (hm : mB μ' j = X) (hX0 : X 0 0 = cB μ j 0 0) (hX1 : X 0 1 = cB μ j 0 1) (hX2 : X 0 2 = cB μ j 0 2) (hW : WF (n + 1) X) : Rel (n + 1) μ' := by
  have T : ∀ a, isCK a = false → isMK a = false → (∀ i s, ¬ scr a i s) → μ'.1 a = μ.1 a := fun a q1 q2 q => funext (fun i => funext (fun s => hI a i s (q i s) q1 q2))
  have TI : ∀ a i, isCK a = false → isMK a = false → (∀ s, ¬ scr a i s) → μ'.1 a i = μ.1 a i := fun a i q1 q2 q => funext (fun s => hI a i s (q s) q1 q2)
  have e11 : ∀ s, s = 0 ∨ s = 2 ∨ s = 55 ∨ s = 56 ∨ s = 57 ∨ s = 61 → μ'.1 11 0 s = μ.1 11 0 s := fun s q => hI 11 0 s (by unfold scr; omega) rfl rfl
  have hR := h
  obtain ⟨h0, h1', h2, h3, h4, h5, h6, h7, h8⟩ := h
  refine Rel_36 ?_ (R1_ext (TI 33 0 rfl rfl (fun s => by unfold scr; omega)) (T 66 rfl rfl (fun i s => by unfold scr; omega)) (T 67 rfl rfl (fun i s => by unfold scr; omega)) (T 30 rfl rfl (fun i s => by unfold scr; omega)) h1') (R2_ext (TI 33 1 rfl rfl (fun s => by unfold scr; omega)) (T 69 rfl rfl (fun i s => by unfold scr; omega)) (T 70 rfl rfl (fun i s => by unfold scr; omega)) (T 31 rfl rfl (fun i s => by unfold scr; omega)) h2) (R36 X hR h1 hcO hmO hc hm hX0 hX1 hX2 hW h10 (fun b hb => TI 5 b rfl rfl (fun s => by unfold scr; omega)) (fun b hb => TI 45 b rfl rfl (fun s => by unfold scr; omega)) (fun b hb => TI 46 b rfl rfl (fun s => by unfold scr; omega)) (T 96 rfl rfl (fun i s => by unfold scr; omega)) (T 97 rfl rfl (fun i s => by unfold scr; omega)) (T 98 rfl rfl (fun i s => by unfold scr; omega)) (fun s hs => hI 99 0 s (by unfold scr; omega) rfl rfl) (fun s hs => hI 100 0 s (by unfold scr; omega) rfl rfl) (T 8 rfl rfl (fun i s => by unfold scr; omega)) (T 105 rfl rfl (fun i s => by unfold scr; omega)) (T 106 rfl rfl (fun i s => by unfold scr; omega)) (T 107 rfl rfl (fun i s => by unfold scr; omega)) (T 9 rfl rfl (fun i s => by unfold scr; omega)) (T 52 rfl rfl (fun i s => by unfold scr; omega)) (T 53 rfl rfl (fun i s => by unfold scr; omega)) (T 108 rfl rfl (fun i s => by unfold scr; omega)) (T 109 rfl rfl (fun i s => by unfold scr; omega)) (T 110 rfl rfl (fun i s => by unfold scr; omega)) (T 111 rfl rfl (fun i s => by unfold scr; omega)) (T 112 rfl rfl (fun i s => by unfold scr; omega))) (R7_ext (hI 0 0 14 (by unfold scr; omega) rfl rfl) (e11 61 (by decide)) (TI 33 2 rfl rfl (fun s => by unfold scr; omega)) (T 122 rfl rfl (fun i s => by unfold scr; omega)) (T 123 rfl rfl (fun i s => by unfold scr; omega)) (T 32 rfl rfl (fun i s => by unfold scr; omega)) (T 34 rfl rfl (fun i s => by unfold scr; omega)) (T 124 rfl rfl (fun i s => by unfold scr; omega)) h7) (R8_ext (TI 10 0 rfl rfl (fun s => by unfold scr; omega)) (e11 55 (by decide)) (e11 56 (by decide)) (e11 57 (by decide)) (hL 11 3 (by decide)) (funext (fun s => hL 10 s (.inr (.inl rfl)))) h8)
  obtain ⟨a1, a2, a3, a4, a5⟩ := h0
  refine ⟨?_, ?_, ?_, ?_, fun i hi => ?_⟩
  · rw [e11 2 (by decide), hI 0 0 15 (by unfold scr; omega) rfl rfl]; exact a1
  · rw [e11 0 (by decide), hI 0 0 16 (by unfold scr; omega) rfl rfl]; exact a2
  · rw [hL 11 4 (by decide), hL 0 17 (by decide)]; exact a3
  · rw [hL 11 5 (by decide), hL 0 18 (by decide)]; exact a4
  · rw [hI 61 0 i (by unfold scr; omega) rfl rfl, hI 36 0 i (by unfold scr; omega) rfl rfl]; exact a5 i hi
def rvx (a x : Int32) : Int32 := if a * x / 100 < 1000 then a * x / 100 else 1000
def riv (v : qB) (x : Int32) : qB := fun t s => if t = 8 ∧ s < rcN v then rvx (v 8 s) x else v t s
/-- what an item does on a board -/
def ob (v : qB) (l x : Int32) : qB := if l = 71 then (if sd (nW v) (nN v) x.toNatClampNeg = true then bset v 5 x.toNatClampNeg (if v 5 x.toNatClampNeg = nI 0 then nI 1 else nI 0) else v) else if l = 80 then bset v 0 8 x else if l = 82 then riv v x else if l = 84 then (if v 0 0 = nI 1 ∨ v 0 0 = nI 3 then bset v 0 7 x else v) else if l = 86 then bset v 0 11 x else if l = 87 then bset v 0 10 x else v
theorem ob_0 {v : qB} {l x : Int32} {s : Nat} (h : s = 0 ∨ s = 1 ∨ s = 2 ∨ s = 3 ∨ s = 12) : ob v l x 0 s = v 0 s := by
  unfold ob
  by_cases c1 : l = 71
  · rw [if_pos c1]
    by_cases q : sd (nW v) (nN v) x.toNatClampNeg = true
    · rw [if_pos q, bs_t (by decide)]
    · rw [if_neg q]
  rw [if_neg c1]
  by_cases c2 : l = 80
  · rw [if_pos c2, bs_s (by omega)]
  rw [if_neg c2]
  by_cases c3 : l = 82
  · rw [if_pos c3]
    exact if_neg (fun q => by omega)
  rw [if_neg c3]
  by_cases c4 : l = 84
  · rw [if_pos c4]
    by_cases q : v 0 0 = nI 1 ∨ v 0 0 = nI 3
    · rw [if_pos q, bs_s (by omega)]
    · rw [if_neg q]
  rw [if_neg c4]
  by_cases c5 : l = 86
  · rw [if_pos c5, bs_s (by omega)]
  rw [if_neg c5]
  by_cases c6 : l = 87
  · rw [if_pos c6, bs_s (by omega)]
  rw [if_neg c6]
theorem rvx_bd {a x : Int32} (ha : 0 ≤ a.toInt ∧ a.toInt ≤ 1000) (hx : 0 ≤ x.toInt ∧ x.toInt ≤ 1000) : 0 ≤ (rvx a x).toInt ∧ (rvx a x).toInt ≤ 1000 := by
  obtain ⟨A, hA, rfl⟩ : ∃ A : Nat, A ≤ 1000 ∧ a = nI A := ⟨a.toInt.toNat, by omega, Int32.toInt_inj.mp (by rw [nI_toInt (by omega)]; omega)⟩
  obtain ⟨B, hB, rfl⟩ : ∃ B : Nat, B ≤ 1000 ∧ x = nI B := ⟨x.toInt.toNat, by omega, Int32.toInt_inj.mp (by rw [nI_toInt (by omega)]; omega)⟩
  have hm : A * B ≤ 1000000 := Nat.mul_le_mul hA hB
  have e : nI A * nI B / 100 = nI (A * B / 100) := by
    rw [pk_mul, show (100 : Int32) = nI 100 from rfl, pk_div (by omega) (by decide) (by decide)]
  unfold rvx
  rw [e]
  by_cases q : nI (A * B / 100) < 1000
  · rw [if_pos q]
    rw [show (1000 : Int32) = nI 1000 from rfl, nI_ltI (by omega) (by decide)] at q
    rw [nI_toInt (by omega)]
    omega
  · rw [if_neg q]
    decide +kernel
theorem WF_ob {n : Nat} {v : qB} {l x : Int32} (h : WF n v) (hl : tHas l = true) (hx : ¬ (x < tLo l ∨ tHi l < x)) : WF n (ob v l x) := by
  have x1 : tLo l ≤ x := x_nlt.mp (fun z => hx (.inl z))
  have x2 : x ≤ tHi l := x_nlt.mp (fun z => hx (.inr z))
  unfold ob
  rcases tHas_c hl with hl | hl | hl | hl | hl | hl | hl <;> subst hl
  · rw [tLo_87, x_le, show (-50 : Int32).toInt = -50 by decide +kernel] at x1
    rw [tHi_87, x_le, show (50 : Int32).toInt = 50 by decide +kernel] at x2
    exact WF_num h (.inr (.inr (.inr (.inl rfl)))) ⟨fun q => (by cases q), fun q => (by cases q), fun q => (by cases q), fun _ => ⟨x1, x2⟩⟩
  · rw [tLo_86, x_le, show (-50 : Int32).toInt = -50 by decide +kernel] at x1
    rw [tHi_86, x_le, show (50 : Int32).toInt = 50 by decide +kernel] at x2
    exact WF_num h (.inr (.inr (.inr (.inr rfl)))) ⟨fun q => (by cases q), fun q => (by cases q), fun q => (by cases q), fun _ => ⟨x1, x2⟩⟩
  · exact h
  · show WF n (if sd (nW v) (nN v) x.toNatClampNeg = true then bset v 5 x.toNatClampNeg (if v 5 x.toNatClampNeg = nI 0 then nI 1 else nI 0) else v)
    by_cases q : sd (nW v) (nN v) x.toNatClampNeg = true
    · rw [if_pos q]
      refine WF_shut h ?_
      by_cases z : v 5 x.toNatClampNeg = nI 0
      · rw [if_pos z]; exact .inr rfl
      · rw [if_neg z]; exact .inl rfl
    · rw [if_neg q]; exact h
  · show WF n (if v 0 0 = nI 1 ∨ v 0 0 = nI 3 then bset v 0 7 x else v)
    by_cases q : v 0 0 = nI 1 ∨ v 0 0 = nI 3
    · rw [if_pos q]
      exact WF_any h (.inr (.inr rfl))
    · rw [if_neg q]; exact h
  · rw [tLo_80, x_le, show (1 : Int32).toInt = 1 by decide +kernel] at x1
    rw [tHi_80, x_le, show (8 : Int32).toInt = 8 by decide +kernel] at x2
    exact WF_num h (.inr (.inl rfl)) ⟨fun q => (by cases q), fun _ => ⟨x.toInt.toNat, Int32.toInt_inj.mp (by rw [nI_toInt (by omega)]; omega), by omega, by omega⟩, fun q => (by cases q), fun q => (by rcases q with q | q <;> cases q)⟩
  · rw [tLo_82, x_le, show (0 : Int32).toInt = 0 by decide +kernel] at x1
    rw [tHi_82, x_le, show (1000 : Int32).toInt = 1000 by decide +kernel] at x2
    obtain ⟨g0, ⟨b1, b2, b3, b4, b5⟩, c1, c2⟩ := h
    show WF n (riv v x)
    have t : ∀ t, t ≠ 8 → riv v x t = v t := fun t ht => funext (fun s => if_neg (fun q => ht q.1))
    refine ⟨WF0_t (t 0 (by decide)) g0, ⟨fun s => ?_, fun s => ?_, fun s => ?_, fun s => ?_, fun s hs => ?_⟩, WF2_t (t 0 (by decide)) (t 6 (by decide)) (t 7 (by decide)) ⟨c1, c2⟩⟩
    · rw [t 1 (by decide)]; exact b1 s
    · rw [t 2 (by decide)]; exact b2 s
    · rw [t 4 (by decide)]; exact b3 s
    · rw [t 5 (by decide)]; exact b4 s
    · have hs' : s < rcN v := hs
      rw [show riv v x 8 s = rvx (v 8 s) x from if_pos ⟨rfl, hs'⟩]
      exact rvx_bd (b5 s hs') ⟨x1, x2⟩
