/-! alarm: a world tried by the class. -/
/-- steps of a trial: none where the time does not come, some none where the level is come to -/
def alS (T : qB → Option Int32) (q : Nat) (y : Int32) : Nat → qB → Option (Option qB)
  | 0, v => some (some v)
  | k + 1, v => if tmF v = true then none else if lev (nxt (T v) v) q < y then alS T q y k (nxt (T v) v) else some none
theorem alS_t {T : qB → Option Int32} {q k : Nat} {y : Int32} {v : qB} (h : tmF v = true) : alS T q y (k + 1) v = none := if_pos h
theorem alS_l {T : qB → Option Int32} {q k : Nat} {y : Int32} {v : qB} (h : tmF v = false) (h2 : lev (nxt (T v) v) q < y) : alS T q y (k + 1) v = alS T q y k (nxt (T v) v) := (if_neg (by rw [h]; decide)).trans (if_pos h2)
theorem alS_h {T : qB → Option Int32} {q k : Nat} {y : Int32} {v : qB} (h : tmF v = false) (h2 : ¬ lev (nxt (T v) v) q < y) : alS T q y (k + 1) v = some none := (if_neg (by rw [h]; decide)).trans (if_neg h2)
/-- does a world come to the level -/
def alL (T : qB → Option Int32) (q : Nat) (y : Int32) : List (Int32 × Int32) → qB → Bool
  | [], _ => false
  | a :: r, v => match alS T q y (if a.1 = 83 then a.2.toNatClampNeg else 0) (ob v a.1 a.2) with
    | none => false
    | some none => true
    | some (some w) => alL T q y r w
theorem alL_c {T : qB → Option Int32} {q : Nat} {y : Int32} {a : Int32 × Int32} {r : List (Int32 × Int32)} {v : qB} : alL T q y (a :: r) v = (match alS T q y (if a.1 = 83 then a.2.toNatClampNeg else 0) (ob v a.1 a.2) with
    | none => false
    | some none => true
    | some (some w) => alL T q y r w) := rfl
theorem acS {T : qB → Option Int32} {q S : Nat} {y x4 : Int32} {e1 e2 e3 : qM → Option (Int32 × qM)} (hq : q < 48) (hS24 : S ≤ 24) : ∀ k i n (u : qM) F (P : Int32 → qM → Prop), i + k = S → k < F → n + k ≤ 2000000 → WF n (cB u 6) → SZ (u.1 33 0) → (∀ v, tdC u v = T v) → (alS T q y k (cB u 6) = none → ∀ u', FA 6 u u' → Ev (e2 u') P) → (alS T q y k (cB u 6) = some none → ∀ u', FA 6 u u' → Ev (e3 u') P) → (∀ w, alS T q y k (cB u 6) = some (some w) → WF (n + k) w → ∀ u', FA 6 u u' → cB u' 6 = w → Ev (e1 u') P) → Ev (L_X10_trialComesTo_78 (nI q) y x4 (nI S) F (nI i) u e1 e2 e3) P := by
  intro k
  induction k with
  | zero =>
    intro i n u F P hi hF hn hw hs hT K2 K3 K1
    obtain ⟨F, rfl⟩ : ∃ F', F = F' + 1 := ⟨F - 1, by omega⟩
    have K := K1 _ rfl hw u FA.rf rfl
    refine eu_L_X10_trialComesTo_78.mpr ?_
    simp (disch := first | omega | decide) only [Nat.reduceAdd, Nat.reduceMul, ↓ev_bd, ↓ev_ck, ↓ev_if, ↓ev_lt, ↓ev_jn, ↓ev_so, ↓reduceIte, ↓ev_within, ↓ev_in, ↓ev_isBoard, ↓ev_isGauge, ↓ev_isNumber, ↓ev_isSix, ↓ev_isEight, ↓ev_foundN, ↓ev_meetsN, ↓ev_found_1, ↓ev_meets_1, ↓ev_found_2, ↓ev_meets_2, ↓ev_found_3, ↓ev_meets_3, ↓ev_found_4, ↓ev_meets_4, ↓ev_found_5, ↓ev_meets_5, true_and, and_true, and_self, eq_self, not_true_eq_false, not_false_eq_true, ite_true, ite_false, true_or, or_true, false_or, or_false, false_and, and_false, ← zi_ni_0, ← zi_ni_1, ← zi_ni_2, ← zi_ni_3, ← zi_ni_4, ← zi_ni_5, ← zi_ni_6, ← zi_ni_7, ← zi_ni_8, ← zi_ni_9, ← zi_ni_10, ← zi_ni_12, ← zi_ni_24, ← zi_ni_25, ← zi_ni_40, ← zi_ni_45, ← zi_ni_47, ← zi_ni_48, ← zi_ni_95, ← zi_ni_96, ← zi_ni_97, ← zi_ni_100, ← zi_ni_144, ← zi_ni_288, nI_ltI, nI_leI, nI_eqI, nlt_T, nlt_F, nle_T, nle_F, neq_T, neq_F, nI_add, pk_mul, nI_clamp, q_inT, ng_lt, ng_tl, ng_le, ng_el, ng_eq, ng_qe, q_b0, q_b1, nar_0, nar_1, b01, b01', q_bn0, q_bn1, nar_n0, nar_n1, si_k, si_i, si_s, si_e, si_2, sl_1, sl_22, sl_k, sl_i, sl_s, sl_e, sp_1, sp_21, sp_22, sc_k, sc_i, sc_e, sc_2, mF_k, mM_k, mF_2, mM_2, mF_0, mM_11]
    exact K
  | succ k ih =>
    intro i n u F P hi hF hn hw hs hT K2 K3 K1
    obtain ⟨F, rfl⟩ : ∃ F', F = F' + 1 := ⟨F - 1, by omega⟩
    refine eu_L_X10_trialComesTo_78.mpr ?_
    simp (disch := first | omega | decide) only [Nat.reduceAdd, Nat.reduceMul, ↓ev_ck, ↓ev_if, ↓ev_lt, ↓ev_jn, ↓ev_so, ↓reduceIte, ↓ev_within, ↓ev_in, ↓ev_isBoard, ↓ev_isGauge, ↓ev_isNumber, ↓ev_isSix, ↓ev_isEight, ↓ev_foundN, ↓ev_meetsN, ↓ev_found_1, ↓ev_meets_1, ↓ev_found_2, ↓ev_meets_2, ↓ev_found_3, ↓ev_meets_3, ↓ev_found_4, ↓ev_meets_4, ↓ev_found_5, ↓ev_meets_5, true_and, and_true, and_self, eq_self, not_true_eq_false, not_false_eq_true, ite_true, ite_false, true_or, or_true, false_or, or_false, false_and, and_false, ← zi_ni_0, ← zi_ni_1, ← zi_ni_2, ← zi_ni_3, ← zi_ni_4, ← zi_ni_5, ← zi_ni_6, ← zi_ni_7, ← zi_ni_8, ← zi_ni_9, ← zi_ni_10, ← zi_ni_12, ← zi_ni_24, ← zi_ni_25, ← zi_ni_40, ← zi_ni_45, ← zi_ni_47, ← zi_ni_48, ← zi_ni_95, ← zi_ni_96, ← zi_ni_97, ← zi_ni_100, ← zi_ni_144, ← zi_ni_288, nI_ltI, nI_leI, nI_eqI, nlt_T, nlt_F, nle_T, nle_F, neq_T, neq_F, nI_add, pk_mul, nI_clamp, q_inT, ng_lt, ng_tl, ng_le, ng_el, ng_eq, ng_qe, q_b0, q_b1, nar_0, nar_1, b01, b01', q_bn0, q_bn1, nar_n0, nar_n1, si_k, si_i, si_s, si_e, si_2, sl_1, sl_22, sl_k, sl_i, sl_s, sl_e, sp_1, sp_21, sp_22, sc_k, sc_i, sc_e, sc_2, mF_k, mM_k, mF_2, mM_2, mF_0, mM_11]
    refine ev_bd.mpr (ev_advance (n := n) (by omega) hw hs (fun htm u' hFA hcb => ?_) (fun htm u' hFA hcb => ?_))
    · have K := K2 (alS_t htm) u' hFA
      simp (disch := first | omega | decide) only [Nat.reduceAdd, Nat.reduceMul, ↓ev_bd, ↓ev_ck, ↓ev_if, ↓ev_lt, ↓ev_jn, ↓ev_so, ↓reduceIte, ↓ev_within, ↓ev_in, ↓ev_isBoard, ↓ev_isGauge, ↓ev_isNumber, ↓ev_isSix, ↓ev_isEight, ↓ev_foundN, ↓ev_meetsN, ↓ev_found_1, ↓ev_meets_1, ↓ev_found_2, ↓ev_meets_2, ↓ev_found_3, ↓ev_meets_3, ↓ev_found_4, ↓ev_meets_4, ↓ev_found_5, ↓ev_meets_5, true_and, and_true, and_self, eq_self, not_true_eq_false, not_false_eq_true, ite_true, ite_false, true_or, or_true, false_or, or_false, false_and, and_false, ← zi_ni_0, ← zi_ni_1, ← zi_ni_2, ← zi_ni_3, ← zi_ni_4, ← zi_ni_5, ← zi_ni_6, ← zi_ni_7, ← zi_ni_8, ← zi_ni_9, ← zi_ni_10, ← zi_ni_12, ← zi_ni_24, ← zi_ni_25, ← zi_ni_40, ← zi_ni_45, ← zi_ni_47, ← zi_ni_48, ← zi_ni_95, ← zi_ni_96, ← zi_ni_97, ← zi_ni_100, ← zi_ni_144, ← zi_ni_288, nI_ltI, nI_leI, nI_eqI, nlt_T, nlt_F, nle_T, nle_F, neq_T, neq_F, nI_add, pk_mul, nI_clamp, q_inT, ng_lt, ng_tl, ng_le, ng_el, ng_eq, ng_qe, q_b0, q_b1, nar_0, nar_1, b01, b01', q_bn0, q_bn1, nar_n0, nar_n1, si_k, si_i, si_s, si_e, si_2, sl_1, sl_22, sl_k, sl_i, sl_s, sl_e, sp_1, sp_21, sp_22, sc_k, sc_i, sc_e, sc_2, mF_k, mM_k, mF_2, mM_2, mF_0, mM_11]
      exact K
    · rw [hT] at hcb
      have f33 : u'.1 33 = u.1 33 := funext (fun i => funext (fun s => hFA.1 33 i s (by omega) (by omega)))
      have f30 : u'.1 30 = u.1 30 := funext (fun i => funext (fun s => hFA.1 30 i s (by omega) (by omega)))
      have hw' : WF (n + 1) (cB u' 6) := by rw [hcb]; exact WF_nxt hw htm
      have hT' : ∀ v, tdC u' v = T v := fun v => by
        rw [← hT v]
        unfold tdC
        rw [f33, f30]
      simp (disch := first | omega | decide) only [Nat.reduceAdd, Nat.reduceMul, ↓ev_ck, ↓ev_if, ↓ev_lt, ↓ev_jn, ↓ev_so, ↓reduceIte, ↓ev_within, ↓ev_in, ↓ev_isBoard, ↓ev_isGauge, ↓ev_isNumber, ↓ev_isSix, ↓ev_isEight, ↓ev_foundN, ↓ev_meetsN, ↓ev_found_1, ↓ev_meets_1, ↓ev_found_2, ↓ev_meets_2, ↓ev_found_3, ↓ev_meets_3, ↓ev_found_4, ↓ev_meets_4, ↓ev_found_5, ↓ev_meets_5, true_and, and_true, and_self, eq_self, not_true_eq_false, not_false_eq_true, ite_true, ite_false, true_or, or_true, false_or, or_false, false_and, and_false, ← zi_ni_0, ← zi_ni_1, ← zi_ni_2, ← zi_ni_3, ← zi_ni_4, ← zi_ni_5, ← zi_ni_6, ← zi_ni_7, ← zi_ni_8, ← zi_ni_9, ← zi_ni_10, ← zi_ni_12, ← zi_ni_24, ← zi_ni_25, ← zi_ni_40, ← zi_ni_45, ← zi_ni_47, ← zi_ni_48, ← zi_ni_95, ← zi_ni_96, ← zi_ni_97, ← zi_ni_100, ← zi_ni_144, ← zi_ni_288, nI_ltI, nI_leI, nI_eqI, nlt_T, nlt_F, nle_T, nle_F, neq_T, neq_F, nI_add, pk_mul, nI_clamp, q_inT, ng_lt, ng_tl, ng_le, ng_el, ng_eq, ng_qe, q_b0, q_b1, nar_0, nar_1, b01, b01', q_bn0, q_bn1, nar_n0, nar_n1, si_k, si_i, si_s, si_e, si_2, sl_1, sl_22, sl_k, sl_i, sl_s, sl_e, sp_1, sp_21, sp_22, sc_k, sc_i, sc_e, sc_2, mF_k, mM_k, mF_2, mM_2, mF_0, mM_11]
      refine ev_bd.mpr (ev_level hq SN.mk ?_)
      rw [hcb]
      by_cases z : lev (nxt (T (cB u 6)) (cB u 6)) q < y
      · have IH := ih (i + 1) (n + 1) u' F P (by omega) (by omega) (by omega) hw' (by rw [f33]; exact hs) hT' (fun h u2 h2 => K2 (by rw [hcb] at h; rw [alS_l htm z]; exact h) u2 (hFA.tr h2)) (fun h u2 h2 => K3 (by rw [hcb] at h; rw [alS_l htm z]; exact h) u2 (hFA.tr h2)) (fun w h h0 u2 h2 h3 => K1 w (by rw [hcb] at h; rw [alS_l htm z]; exact h) (by rwa [show n + 1 + k = n + (k + 1) by omega] at h0) u2 (hFA.tr h2) h3)
        simp (disch := first | omega | decide) only [Nat.reduceAdd, Nat.reduceMul, ↓ev_bd, ↓ev_ck, ↓ev_if, ↓ev_lt, ↓ev_jn, ↓ev_so, ↓reduceIte, ↓ev_within, ↓ev_in, ↓ev_isBoard, ↓ev_isGauge, ↓ev_isNumber, ↓ev_isSix, ↓ev_isEight, ↓ev_foundN, ↓ev_meetsN, ↓ev_found_1, ↓ev_meets_1, ↓ev_found_2, ↓ev_meets_2, ↓ev_found_3, ↓ev_meets_3, ↓ev_found_4, ↓ev_meets_4, ↓ev_found_5, ↓ev_meets_5, true_and, and_true, and_self, eq_self, not_true_eq_false, not_false_eq_true, ite_true, ite_false, true_or, or_true, false_or, or_false, false_and, and_false, ← zi_ni_0, ← zi_ni_1, ← zi_ni_2, ← zi_ni_3, ← zi_ni_4, ← zi_ni_5, ← zi_ni_6, ← zi_ni_7, ← zi_ni_8, ← zi_ni_9, ← zi_ni_10, ← zi_ni_12, ← zi_ni_24, ← zi_ni_25, ← zi_ni_40, ← zi_ni_45, ← zi_ni_47, ← zi_ni_48, ← zi_ni_95, ← zi_ni_96, ← zi_ni_97, ← zi_ni_100, ← zi_ni_144, ← zi_ni_288, nI_ltI, nI_leI, nI_eqI, nlt_T, nlt_F, nle_T, nle_F, neq_T, neq_F, nI_add, pk_mul, nI_clamp, q_inT, ng_lt, ng_tl, ng_le, ng_el, ng_eq, ng_qe, q_b0, q_b1, nar_0, nar_1, b01, b01', q_bn0, q_bn1, nar_n0, nar_n1, si_k, si_i, si_s, si_e, si_2, sl_1, sl_22, sl_k, sl_i, sl_s, sl_e, sp_1, sp_21, sp_22, sc_k, sc_i, sc_e, sc_2, mF_k, mM_k, mF_2, mM_2, mF_0, mM_11, z]
        exact IH
      · have K := K3 (alS_h htm z) u' hFA
        simp (disch := first | omega | decide) only [Nat.reduceAdd, Nat.reduceMul, ↓ev_bd, ↓ev_ck, ↓ev_if, ↓ev_lt, ↓ev_jn, ↓ev_so, ↓reduceIte, ↓ev_within, ↓ev_in, ↓ev_isBoard, ↓ev_isGauge, ↓ev_isNumber, ↓ev_isSix, ↓ev_isEight, ↓ev_foundN, ↓ev_meetsN, ↓ev_found_1, ↓ev_meets_1, ↓ev_found_2, ↓ev_meets_2, ↓ev_found_3, ↓ev_meets_3, ↓ev_found_4, ↓ev_meets_4, ↓ev_found_5, ↓ev_meets_5, true_and, and_true, and_self, eq_self, not_true_eq_false, not_false_eq_true, ite_true, ite_false, true_or, or_true, false_or, or_false, false_and, and_false, ← zi_ni_0, ← zi_ni_1, ← zi_ni_2, ← zi_ni_3, ← zi_ni_4, ← zi_ni_5, ← zi_ni_6, ← zi_ni_7, ← zi_ni_8, ← zi_ni_9, ← zi_ni_10, ← zi_ni_12, ← zi_ni_24, ← zi_ni_25, ← zi_ni_40, ← zi_ni_45, ← zi_ni_47, ← zi_ni_48, ← zi_ni_95, ← zi_ni_96, ← zi_ni_97, ← zi_ni_100, ← zi_ni_144, ← zi_ni_288, nI_ltI, nI_leI, nI_eqI, nlt_T, nlt_F, nle_T, nle_F, neq_T, neq_F, nI_add, pk_mul, nI_clamp, q_inT, ng_lt, ng_tl, ng_le, ng_el, ng_eq, ng_qe, q_b0, q_b1, nar_0, nar_1, b01, b01', q_bn0, q_bn1, nar_n0, nar_n1, si_k, si_i, si_s, si_e, si_2, sl_1, sl_22, sl_k, sl_i, sl_s, sl_e, sp_1, sp_21, sp_22, sc_k, sc_i, sc_e, sc_2, mF_k, mM_k, mF_2, mM_2, mF_0, mM_11, z]
        exact K
def C7 (u t : qM) : Prop := (∀ a i s, ¬ (47 ≤ a ∧ a ≤ 50) → ¬ (a = 7 ∧ i = 0) → ¬ (i = 6 ∧ (a = 2 ∨ a = 3 ∨ a = 4 ∨ a = 5 ∨ (37 ≤ a ∧ a ≤ 44))) → t.1 a i s = u.1 a i s) ∧ t.2.1 = u.2.1
theorem C7.rf {u : qM} : C7 u u := ⟨fun _ _ _ _ _ _ => rfl, rfl⟩
theorem C7.tr {a b c : qM} (h : C7 a b) (h2 : C7 b c) : C7 a c := ⟨fun x i s q1 q2 q3 => (h2.1 x i s q1 q2 q3).trans (h.1 x i s q1 q2 q3), h2.2.trans h.2⟩
theorem C7.kp {u t : qM} (h : C7 u t) : Kp u t := ⟨fun a i s q => h.1 a i s (fun z => q (by unfold scr; omega)) (fun z => q (by unfold scr; omega)) (fun z => q (by unfold scr; omega)), fun a s _ => by rw [h.2]⟩
theorem C7.fc {u t : qM} (h : C7 u t) : FC u t := ⟨fun a q => funext (fun i => funext (fun s => h.1 a i s (by have := isM_t q; omega) (by have := isM_t q; omega) (by have := isM_t q; omega))), by rw [h.2]⟩
theorem FA.c7 {u t : qM} (h : FA 6 u t) : C7 u t := ⟨fun a i s q2 _ q3 => h.1 a i s (by omega) (by omega), by rw [h.2]⟩
theorem FO.c7 {u t : qM} (h : FO u t) : C7 u t := ⟨fun a i s _ q2 _ => h.1 a i s q2, h.2⟩
theorem C7.cb {u t : qM} {b : Nat} (h : C7 u t) (hb : b < 6) : cB t b = cB u b := by
  apply cB_ext <;> exact funext (fun s => h.1 _ b s (by decide) (by omega) (by omega))
theorem acL {T : qB → Option Int32} {k i L q : Nat} {y : Int32} {f : Nat → Int32} {e1 e2 e3 : qM → Option (Int32 × qM)} (hq : q < 48) (hk : k = 32) : ∀ N a st j n (c : qM) F (P : Int32 → qM → Prop), L - a < N → N < F → 2 * j ≤ a → a ≤ L → SC k i L f c → c.1 7 0 2 = nI a → c.1 7 0 5 = st → c.1 7 0 6 = -nI 9 → (tAl f L N a st).2 = none → n + 30 * N ≤ 2000000 → WF n (cB c 6) → SZ (c.1 33 0) → (∀ v, tdC c v = T v) →
    (alL T q y (tAl f L N a st).1 (cB c 6) = false → ∀ c', C7 c c' → Ev (e1 c') P ∧ Ev (e2 c') P) → (alL T q y (tAl f L N a st).1 (cB c 6) = true → ∀ c', C7 c c' → Ev (e3 c') P) → Ev (L_X10_trialComesTo_28 (nI q) y F (nI j) c e1 e2 e3) P := by
  intro N
  induction N with
  | zero => intro a st j n c F P hN; omega
  | succ N ih =>
  intro a st j n c F P hN hF hj haL hSC ha h5 h6 hno hn hw hsz hT K0 K1
  obtain ⟨F, rfl⟩ : ∃ F', F = F' + 1 := ⟨F - 1, by omega⟩
  have h4 := hSC.2.2.2.1
  have hbk := tsk_le (f := f) (L - a) a
  refine eu_L_X10_trialComesTo_28.mpr ?_
  simp (disch := first | omega | decide) only [Nat.reduceAdd, Nat.reduceMul, ↓ev_bd, ↓ev_ck, ↓ev_if, ↓ev_lt, ↓ev_jn, ↓ev_so, ↓reduceIte, ↓ev_within, ↓ev_in, ↓ev_isBoard, ↓ev_isGauge, ↓ev_isNumber, ↓ev_isSix, ↓ev_isEight, ↓ev_foundN, ↓ev_meetsN, ↓ev_found_1, ↓ev_meets_1, ↓ev_found_2, ↓ev_meets_2, ↓ev_found_3, ↓ev_meets_3, ↓ev_found_4, ↓ev_meets_4, ↓ev_found_5, ↓ev_meets_5, true_and, and_true, and_self, eq_self, not_true_eq_false, not_false_eq_true, ite_true, ite_false, true_or, or_true, false_or, or_false, false_and, and_false, ← zi_ni_0, ← zi_ni_1, ← zi_ni_2, ← zi_ni_3, ← zi_ni_4, ← zi_ni_5, ← zi_ni_6, ← zi_ni_7, ← zi_ni_8, ← zi_ni_9, ← zi_ni_10, ← zi_ni_12, ← zi_ni_24, ← zi_ni_25, ← zi_ni_40, ← zi_ni_45, ← zi_ni_47, ← zi_ni_48, ← zi_ni_95, ← zi_ni_96, ← zi_ni_97, ← zi_ni_100, ← zi_ni_144, ← zi_ni_288, nI_ltI, nI_leI, nI_eqI, nlt_T, nlt_F, nle_T, nle_F, neq_T, neq_F, nI_add, pk_mul, nI_clamp, q_inT, ng_lt, ng_tl, ng_le, ng_el, ng_eq, ng_qe, q_b0, q_b1, nar_0, nar_1, b01, b01', q_bn0, q_bn1, nar_n0, nar_n1, si_k, si_i, si_s, si_e, si_2, sl_1, sl_22, sl_k, sl_i, sl_s, sl_e, sp_1, sp_21, sp_22, sc_k, sc_i, sc_e, sc_2, mF_k, mM_k, mF_2, mM_2, mF_0, mM_11]
  refine ev_next hSC ha haL h5 h6 (fun z u1 g1 g2 => ?_) (fun p z z2 u1 g1 g2 => ?_) (fun x a2 st2 z z2 u1 g1 g2 g3 g4 g5 g6 => ?_)
  · rw [tAl_e z] at K0
    have K := (K0 rfl u1 g1.fo.c7).1
    simp (disch := first | omega | decide) only [Nat.reduceAdd, Nat.reduceMul, ↓ev_bd, ↓ev_ck, ↓ev_if, ↓ev_lt, ↓ev_jn, ↓ev_so, ↓reduceIte, ↓ev_within, ↓ev_in, ↓ev_isBoard, ↓ev_isGauge, ↓ev_isNumber, ↓ev_isSix, ↓ev_isEight, ↓ev_foundN, ↓ev_meetsN, ↓ev_found_1, ↓ev_meets_1, ↓ev_found_2, ↓ev_meets_2, ↓ev_found_3, ↓ev_meets_3, ↓ev_found_4, ↓ev_meets_4, ↓ev_found_5, ↓ev_meets_5, true_and, and_true, and_self, eq_self, not_true_eq_false, not_false_eq_true, ite_true, ite_false, true_or, or_true, false_or, or_false, false_and, and_false, ← zi_ni_0, ← zi_ni_1, ← zi_ni_2, ← zi_ni_3, ← zi_ni_4, ← zi_ni_5, ← zi_ni_6, ← zi_ni_7, ← zi_ni_8, ← zi_ni_9, ← zi_ni_10, ← zi_ni_12, ← zi_ni_24, ← zi_ni_25, ← zi_ni_40, ← zi_ni_45, ← zi_ni_47, ← zi_ni_48, ← zi_ni_95, ← zi_ni_96, ← zi_ni_97, ← zi_ni_100, ← zi_ni_144, ← zi_ni_288, nI_ltI, nI_leI, nI_eqI, nlt_T, nlt_F, nle_T, nle_F, neq_T, neq_F, nI_add, pk_mul, nI_clamp, q_inT, ng_lt, ng_tl, ng_le, ng_el, ng_eq, ng_qe, q_b0, q_b1, nar_0, nar_1, b01, b01', q_bn0, q_bn1, nar_n0, nar_n1, si_k, si_i, si_s, si_e, si_2, sl_1, sl_22, sl_k, sl_i, sl_s, sl_e, sp_1, sp_21, sp_22, sc_k, sc_i, sc_e, sc_2, mF_k, mM_k, mF_2, mM_2, mF_0, mM_11]
    exact K
  · rw [tAl_l z z2] at hno
    cases hno
  · obtain ⟨w1, w2, w3, w4⟩ := tIt_r (by omega) z2
    rw [tAl_r z z2] at hno K0 K1
    generalize hlv : f (tsk f (L - a) a) = l at *
    have hno2 : (tAl f L N a2 st2).2 = none := hno
    have hS1 := hSC.f7 g1
    have c1 : cB u1 6 = cB c 6 := by apply cB_ext <;> exact funext (fun s => g1.1 _ 6 s (by omega))
    obtain ⟨w, hh, hd⟩ := hw.gd.dw
    simp (disch := first | omega | decide) only [Nat.reduceAdd, Nat.reduceMul, ↓ev_bd, ↓ev_ck, ↓ev_if, ↓ev_lt, ↓ev_jn, ↓ev_so, ↓reduceIte, ↓ev_within, ↓ev_in, ↓ev_isBoard, ↓ev_isGauge, ↓ev_isNumber, ↓ev_isSix, ↓ev_isEight, ↓ev_foundN, ↓ev_meetsN, ↓ev_found_1, ↓ev_meets_1, ↓ev_found_2, ↓ev_meets_2, ↓ev_found_3, ↓ev_meets_3, ↓ev_found_4, ↓ev_meets_4, ↓ev_found_5, ↓ev_meets_5, true_and, and_true, and_self, eq_self, not_true_eq_false, not_false_eq_true, ite_true, ite_false, true_or, or_true, false_or, or_false, false_and, and_false, ← zi_ni_0, ← zi_ni_1, ← zi_ni_2, ← zi_ni_3, ← zi_ni_4, ← zi_ni_5, ← zi_ni_6, ← zi_ni_7, ← zi_ni_8, ← zi_ni_9, ← zi_ni_10, ← zi_ni_12, ← zi_ni_24, ← zi_ni_25, ← zi_ni_40, ← zi_ni_45, ← zi_ni_47, ← zi_ni_48, ← zi_ni_95, ← zi_ni_96, ← zi_ni_97, ← zi_ni_100, ← zi_ni_144, ← zi_ni_288, nI_ltI, nI_leI, nI_eqI, nlt_T, nlt_F, nle_T, nle_F, neq_T, neq_F, nI_add, pk_mul, nI_clamp, q_inT, ng_lt, ng_tl, ng_le, ng_el, ng_eq, ng_qe, q_b0, q_b1, nar_0, nar_1, b01, b01', q_bn0, q_bn1, nar_n0, nar_n1, si_k, si_i, si_s, si_e, si_2, sl_1, sl_22, sl_k, sl_i, sl_s, sl_e, sp_1, sp_21, sp_22, sc_k, sc_i, sc_e, sc_2, mF_k, mM_k, mF_2, mM_2, mF_0, mM_11, g3, g4]
    refine ev_obey (n := n) (w := w) (h := hh) (by rw [c1]; exact hd) (by rw [c1]; exact hw) w3 w4 (fun u2 p1 p2 p3 => ?_)
    have cc2 : C7 c u2 := g1.fo.c7.tr ⟨fun a' i' s _ _ q3 => p1 a' i' s (by omega), by rw [p2]⟩
    have C3 : cB u2 6 = ob (cB c 6) l x := by rw [p3, c1]
    have s7 : ∀ s, u2.1 7 0 s = u1.1 7 0 s := fun s => p1 7 0 s (by omega)
    have hS2 : SC k i L f u2 := by
      obtain ⟨a1, a2', a3, a4, a5, a6, a7⟩ := hS1
      exact ⟨by rw [p2]; exact a1, a2', a3, a4, a5, by rw [← a6]; exact funext (fun s => p1 k i s (by omega)), (s7 1).trans a7⟩
    have r3 : u2.1 7 0 3 = l := (s7 3).trans g3
    have r4 : u2.1 7 0 4 = x := (s7 4).trans g4
    have f33 : u2.1 33 = c.1 33 := funext (fun i => funext (fun s => cc2.1 33 i s (by decide) (by omega) (by omega)))
    have f30 : u2.1 30 = c.1 30 := funext (fun i => funext (fun s => cc2.1 30 i s (by decide) (by omega) (by omega)))
    have hw2 : WF n (cB u2 6) := by rw [C3]; exact WF_ob hw w3 w4
    have hT2 : ∀ v, tdC u2 v = T v := fun v => by
      rw [← hT v]
      unfold tdC
      rw [f33, f30]
    obtain ⟨S, hS24, eS, hSx⟩ : ∃ S : Nat, S ≤ 24 ∧ (if l = 83 then x.toNatClampNeg else 0) = S ∧ (l = 83 → x = nI S) := by
      by_cases l83 : l = 83
      · subst l83
        obtain ⟨S, h1, rfl⟩ := x_S w4
        exact ⟨S, h1, by rw [if_pos rfl, nI_clamp (by omega)], fun _ => rfl⟩
      · exact ⟨0, by decide, if_neg l83, fun z => absurd z l83⟩
    rw [alL_c] at K0 K1
    dsimp only at K0 K1
    rw [eS, ← C3] at K0 K1
    have go : Ev (L_X10_trialComesTo_78 (nI q) y (nI j) (nI S) q_fu (nI 0) u2 (fun u9 => L_X10_trialComesTo_28 (nI q) y F (nI (j + 1)) u9 e1 e2 e3) (fun u10 => e2 u10) (fun u11 => e3 u11)) P := by
      refine acS (T := T) hq hS24 S 0 n u2 q_fu P (Nat.zero_add S) (Nat.lt_of_le_of_lt hS24 (by decide)) (by omega) hw2 (by rw [f33]; exact hsz) hT2 (fun h c3 h3 => ?_) (fun h c3 h3 => ?_) (fun v h hwv c3 h3 h3b => ?_)
      · rw [h] at K0
        exact (K0 rfl c3 (cc2.tr h3.c7)).2
      · rw [h] at K1
        exact K1 rfl c3 (cc2.tr h3.c7)
      · rw [h] at K0 K1
        dsimp only at K0 K1
        have g33 : c3.1 33 = u2.1 33 := funext (fun i => funext (fun s => h3.1 33 i s (by omega) (by omega)))
        have g30 : c3.1 30 = u2.1 30 := funext (fun i => funext (fun s => h3.1 30 i s (by omega) (by omega)))
        have s73 : ∀ s, c3.1 7 0 s = u2.1 7 0 s := fun s => h3.1 7 0 s (by omega) (by omega)
        have hS3 : SC k i L f c3 := by
          obtain ⟨a1, a2', a3, a4, a5, a6, a7⟩ := hS2
          exact ⟨by rw [h3.2]; exact a1, a2', a3, a4, a5, by rw [← a6]; exact funext (fun s => h3.1 k i s (by omega) (by omega)), (s73 1).trans a7⟩
        exact ih a2 st2 (j + 1) (n + S) c3 F P (by omega) (by omega) (by omega) w2 hS3 ((s73 2).trans ((s7 2).trans g2)) ((s73 5).trans ((s7 5).trans g5)) ((s73 6).trans ((s7 6).trans g6)) hno2 (by omega) (by rw [h3b]; exact hwv) (by rw [g33, f33]; exact hsz) (fun v => by rw [← hT2 v]; unfold tdC; rw [g33, g30]) (fun q1 c4 q2 => K0 (by rw [h3b] at q1; exact q1) c4 ((cc2.tr h3.c7).tr q2)) (fun q1 c4 q2 => K1 (by rw [h3b] at q1; exact q1) c4 ((cc2.tr h3.c7).tr q2))
    by_cases l83 : l = 83
    · have hx := hSx l83
      simp (disch := first | omega | decide) only [Nat.reduceAdd, Nat.reduceMul, ↓ev_bd, ↓ev_ck, ↓ev_if, ↓ev_lt, ↓ev_jn, ↓ev_so, ↓reduceIte, ↓ev_within, ↓ev_in, ↓ev_isBoard, ↓ev_isGauge, ↓ev_isNumber, ↓ev_isSix, ↓ev_isEight, ↓ev_foundN, ↓ev_meetsN, ↓ev_found_1, ↓ev_meets_1, ↓ev_found_2, ↓ev_meets_2, ↓ev_found_3, ↓ev_meets_3, ↓ev_found_4, ↓ev_meets_4, ↓ev_found_5, ↓ev_meets_5, true_and, and_true, and_self, eq_self, not_true_eq_false, not_false_eq_true, ite_true, ite_false, true_or, or_true, false_or, or_false, false_and, and_false, ← zi_ni_0, ← zi_ni_1, ← zi_ni_2, ← zi_ni_3, ← zi_ni_4, ← zi_ni_5, ← zi_ni_6, ← zi_ni_7, ← zi_ni_8, ← zi_ni_9, ← zi_ni_10, ← zi_ni_12, ← zi_ni_24, ← zi_ni_25, ← zi_ni_40, ← zi_ni_45, ← zi_ni_47, ← zi_ni_48, ← zi_ni_95, ← zi_ni_96, ← zi_ni_97, ← zi_ni_100, ← zi_ni_144, ← zi_ni_288, nI_ltI, nI_leI, nI_eqI, nlt_T, nlt_F, nle_T, nle_F, neq_T, neq_F, nI_add, pk_mul, nI_clamp, q_inT, ng_lt, ng_tl, ng_le, ng_el, ng_eq, ng_qe, q_b0, q_b1, nar_0, nar_1, b01, b01', q_bn0, q_bn1, nar_n0, nar_n1, si_k, si_i, si_s, si_e, si_2, sl_1, sl_22, sl_k, sl_i, sl_s, sl_e, sp_1, sp_21, sp_22, sc_k, sc_i, sc_e, sc_2, mF_k, mM_k, mF_2, mM_2, mF_0, mM_11, ↓eu_X6_stepsOfItem, r3, r4, l83, hx]
      exact go
    · rw [if_neg l83] at eS
      subst eS
      simp (disch := first | omega | decide) only [Nat.reduceAdd, Nat.reduceMul, ↓ev_bd, ↓ev_ck, ↓ev_if, ↓ev_lt, ↓ev_jn, ↓ev_so, ↓reduceIte, ↓ev_within, ↓ev_in, ↓ev_isBoard, ↓ev_isGauge, ↓ev_isNumber, ↓ev_isSix, ↓ev_isEight, ↓ev_foundN, ↓ev_meetsN, ↓ev_found_1, ↓ev_meets_1, ↓ev_found_2, ↓ev_meets_2, ↓ev_found_3, ↓ev_meets_3, ↓ev_found_4, ↓ev_meets_4, ↓ev_found_5, ↓ev_meets_5, true_and, and_true, and_self, eq_self, not_true_eq_false, not_false_eq_true, ite_true, ite_false, true_or, or_true, false_or, or_false, false_and, and_false, ← zi_ni_0, ← zi_ni_1, ← zi_ni_2, ← zi_ni_3, ← zi_ni_4, ← zi_ni_5, ← zi_ni_6, ← zi_ni_7, ← zi_ni_8, ← zi_ni_9, ← zi_ni_10, ← zi_ni_12, ← zi_ni_24, ← zi_ni_25, ← zi_ni_40, ← zi_ni_45, ← zi_ni_47, ← zi_ni_48, ← zi_ni_95, ← zi_ni_96, ← zi_ni_97, ← zi_ni_100, ← zi_ni_144, ← zi_ni_288, nI_ltI, nI_leI, nI_eqI, nlt_T, nlt_F, nle_T, nle_F, neq_T, neq_F, nI_add, pk_mul, nI_clamp, q_inT, ng_lt, ng_tl, ng_le, ng_el, ng_eq, ng_qe, q_b0, q_b1, nar_0, nar_1, b01, b01', q_bn0, q_bn1, nar_n0, nar_n1, si_k, si_i, si_s, si_e, si_2, sl_1, sl_22, sl_k, sl_i, sl_s, sl_e, sp_1, sp_21, sp_22, sc_k, sc_i, sc_e, sc_2, mF_k, mM_k, mF_2, mM_2, mF_0, mM_11, ↓eu_X6_stepsOfItem, r3, l83]
      exact go
