/-! alarm: the weight that the class is alarmed with. -/
def wIt (μ : qM) (k : Nat) : List (Int32 × Int32) := (tAl (μ.1 32 k) (μ.1 33 2 k).toNatClampNeg 41 0 0).1
/-- the weight of the worlds that come to the level, the first k -/
def aws (T : qB → Option Int32) (q : Nat) (y : Int32) (μ : qM) (v : qB) : Nat → Int32
  | 0 => nI 0
  | k + 1 => if alL T q y (wIt μ k) v = true then aws T q y μ v k + μ.1 34 0 k else aws T q y μ v k
theorem aws_y {T : qB → Option Int32} {q k : Nat} {y : Int32} {μ : qM} {v : qB} (h : alL T q y (wIt μ k) v = true) : aws T q y μ v (k + 1) = aws T q y μ v k + μ.1 34 0 k := if_pos h
theorem aws_n {T : qB → Option Int32} {q k : Nat} {y : Int32} {μ : qM} {v : qB} (h : ¬ alL T q y (wIt μ k) v = true) : aws T q y μ v (k + 1) = aws T q y μ v k := if_neg h
theorem ev_trialC {T : qB → Option Int32} {q k L n : Nat} {y : Int32} {u : qM} {P : Int32 → qM → Prop} (hq : q < 48) (hk : k < 8) (hL : L ≤ 40) (hn : n ≤ 1500000) (e33 : u.1 33 2 k = nI L) (hno : (tAl (u.1 32 k) L 41 0 0).2 = none) (hw : WF n (cB u 6)) (hs : SZ (u.1 33 0)) (hT : ∀ v, tdC u v = T v) (K : ∀ u', C7 u u' → P (if alL T q y (wIt u k) (cB u 6) = true then nI 1 else nI 0) u') : Ev (f_X10_trialComesTo (nI k) (nI q) y u) P := by
  have ew : wIt u k = (tAl (u.1 32 k) L 41 0 0).1 := by
    unfold wIt
    rw [e33, nI_clamp (by omega)]
  rw [ew] at K
  refine eu_X10_trialComesTo.mpr ?_
  simp (disch := first | omega | decide) only [Nat.reduceAdd, Nat.reduceMul, ↓ev_bd, ↓ev_ck, ↓ev_if, ↓ev_lt, ↓ev_jn, ↓ev_so, ↓reduceIte, ↓ev_within, ↓ev_in, ↓ev_isBoard, ↓ev_isGauge, ↓ev_isNumber, ↓ev_isSix, ↓ev_isEight, ↓ev_foundN, ↓ev_meetsN, ↓ev_found_1, ↓ev_meets_1, ↓ev_found_2, ↓ev_meets_2, ↓ev_found_3, ↓ev_meets_3, ↓ev_found_4, ↓ev_meets_4, ↓ev_found_5, ↓ev_meets_5, true_and, and_true, and_self, eq_self, not_true_eq_false, not_false_eq_true, ite_true, ite_false, true_or, or_true, false_or, or_false, false_and, and_false, ← zi_ni_0, ← zi_ni_1, ← zi_ni_2, ← zi_ni_3, ← zi_ni_4, ← zi_ni_5, ← zi_ni_6, ← zi_ni_7, ← zi_ni_8, ← zi_ni_9, ← zi_ni_10, ← zi_ni_12, ← zi_ni_24, ← zi_ni_25, ← zi_ni_40, ← zi_ni_45, ← zi_ni_47, ← zi_ni_48, ← zi_ni_95, ← zi_ni_96, ← zi_ni_97, ← zi_ni_100, ← zi_ni_144, ← zi_ni_288, nI_ltI, nI_leI, nI_eqI, nlt_T, nlt_F, nle_T, nle_F, neq_T, neq_F, nI_add, pk_mul, nI_clamp, q_inT, ng_lt, ng_tl, ng_le, ng_el, ng_eq, ng_qe, q_b0, q_b1, nar_0, nar_1, b01, b01', q_bn0, q_bn1, nar_n0, nar_n1, si_k, si_i, si_s, si_e, si_2, sl_1, sl_22, sl_k, sl_i, sl_s, sl_e, sp_1, sp_21, sp_22, sc_k, sc_i, sc_e, sc_2, mF_k, mM_k, mF_2, mM_2, mF_0, mM_11, e33]
  refine ev_open (by decide) (ia_32 hk) (al_32 k) hL (fun u2 x1 x2 x3 x4 x5 => ?_)
  have c1 : cB u2 6 = cB u 6 := by apply cB_ext <;> exact funext (fun s => x1.1 _ 6 s (by omega))
  have f33 : u2.1 33 = u.1 33 := funext (fun i => funext (fun s => x1.1 33 i s (by omega)))
  have f30 : u2.1 30 = u.1 30 := funext (fun i => funext (fun s => x1.1 30 i s (by omega)))
  try simp (disch := first | omega | decide) only [Nat.reduceAdd, Nat.reduceMul, ↓ev_bd, ↓ev_ck, ↓ev_if, ↓ev_lt, ↓ev_jn, ↓ev_so, ↓reduceIte, ↓ev_within, ↓ev_in, ↓ev_isBoard, ↓ev_isGauge, ↓ev_isNumber, ↓ev_isSix, ↓ev_isEight, ↓ev_foundN, ↓ev_meetsN, ↓ev_found_1, ↓ev_meets_1, ↓ev_found_2, ↓ev_meets_2, ↓ev_found_3, ↓ev_meets_3, ↓ev_found_4, ↓ev_meets_4, ↓ev_found_5, ↓ev_meets_5, true_and, and_true, and_self, eq_self, not_true_eq_false, not_false_eq_true, ite_true, ite_false, true_or, or_true, false_or, or_false, false_and, and_false, ← zi_ni_0, ← zi_ni_1, ← zi_ni_2, ← zi_ni_3, ← zi_ni_4, ← zi_ni_5, ← zi_ni_6, ← zi_ni_7, ← zi_ni_8, ← zi_ni_9, ← zi_ni_10, ← zi_ni_12, ← zi_ni_24, ← zi_ni_25, ← zi_ni_40, ← zi_ni_45, ← zi_ni_47, ← zi_ni_48, ← zi_ni_95, ← zi_ni_96, ← zi_ni_97, ← zi_ni_100, ← zi_ni_144, ← zi_ni_288, nI_ltI, nI_leI, nI_eqI, nlt_T, nlt_F, nle_T, nle_F, neq_T, neq_F, nI_add, pk_mul, nI_clamp, q_inT, ng_lt, ng_tl, ng_le, ng_el, ng_eq, ng_qe, q_b0, q_b1, nar_0, nar_1, b01, b01', q_bn0, q_bn1, nar_n0, nar_n1, si_k, si_i, si_s, si_e, si_2, sl_1, sl_22, sl_k, sl_i, sl_s, sl_e, sp_1, sp_21, sp_22, sc_k, sc_i, sc_e, sc_2, mF_k, mM_k, mF_2, mM_2, mF_0, mM_11]
  refine acL (T := T) (n := n) hq rfl 41 0 (nI 0) 0 u2 q_fu P (by omega) (by decide) (Nat.le_refl _) (Nat.zero_le L) x2 x3 x4 x5 hno (by omega) (by rw [c1]; exact hw) (by rw [f33]; exact hs) (fun v => by rw [← hT v]; unfold tdC; rw [f33, f30]) (fun h c' h2 => ?_) (fun h c' h2 => ?_)
  · have K := K c' (x1.c7.tr h2)
    rw [c1] at h
    rw [if_neg (by rw [show tAl (u.1 32 k) L 41 0 0 = tAl (u.1 32 k) L 41 0 (nI 0) from rfl, h]; decide)] at K
    exact ⟨ev_so.mpr K, ev_so.mpr K⟩
  · have K := K c' (x1.c7.tr h2)
    rw [c1] at h
    rw [if_pos (by rw [show tAl (u.1 32 k) L 41 0 0 = tAl (u.1 32 k) L 41 0 (nI 0) from rfl, h])] at K
    exact ev_so.mpr K
