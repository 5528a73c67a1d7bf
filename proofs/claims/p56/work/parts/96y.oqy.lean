def lay1 (wd W x y k : Nat) (vd v : qB) (q : Nat) : qB := bset (bset v 1 (fineN wd k q) (vd 1 (undN wd W x y k))) 2 (fineN wd k q) (vd 2 (undN wd W x y k))
def layK (wd W x y : Nat) (vd v : qB) (k : Nat) : qB := lay1 wd W x y k vd (lay1 wd W x y k vd (lay1 wd W x y k vd (lay1 wd W x y k vd v 0) 1) 2) 3
def layF (wd W x y : Nat) (vd v : qB) : Nat → qB
  | 0 => v
  | k + 1 => layK wd W x y vd (layF wd W x y vd v k) k
theorem lay1_o {wd W x y k q t : Nat} {vd v : qB} (h1 : t ≠ 1) (h2 : t ≠ 2) : lay1 wd W x y k vd v q t = v t := by
  unfold lay1
  rw [bs_t h2, bs_t h1]
theorem layF_o {wd W x y t : Nat} {vd v : qB} (h1 : t ≠ 1) (h2 : t ≠ 2) : ∀ k, layF wd W x y vd v k t = v t
  | 0 => rfl
  | k + 1 => by
    show layK wd W x y vd (layF wd W x y vd v k) k t = v t
    unfold layK
    rw [lay1_o h1 h2, lay1_o h1 h2, lay1_o h1 h2, lay1_o h1 h2]
    exact layF_o h1 h2 k
theorem WF_lay1 {n m wd W x y k q : Nat} {vd v : qB} (hd : WF m vd) (h : WF n v) : WF n (lay1 wd W x y k vd v q) := WF_water (WF_bottom h (hd.2.1.1 _)) (hd.2.1.2.1 _)
theorem WF_layF {n m wd W x y : Nat} {vd v : qB} (hd : WF m vd) (h : WF n v) : ∀ k, WF n (layF wd W x y vd v k)
  | 0 => h
  | k + 1 => WF_lay1 hd (WF_lay1 hd (WF_lay1 hd (WF_lay1 hd (WF_layF hd h k))))
def LC (b : Nat) (c u : qM) : Prop := (∀ a i s, ¬ (i = b ∧ (a = 37 ∨ a = 38)) → u.1 a i s = c.1 a i s) ∧ u.2 = c.2
theorem LC.si {b a s : Nat} {x : Int32} {c u : qM} (h : LC b c u) (ha : a = 37 ∨ a = 38) : LC b c (q_si u a b s x) := by
  refine ⟨fun a' i s' q => ?_, h.2⟩
  rw [si_n (by omega)]
  exact h.1 a' i s' q
theorem ly22 {b d wd hg W x y k q f : Nat} {c u : qM} {vd v : qB} {e : qM → Option (Unit × qM)} {P : Unit → qM → Prop} (hbd : d ≠ b) (hw : 1 ≤ wd) (hw4 : wd ≤ 4) (hg3 : hg ≤ 3) (hk : k < wd * hg) (hS : undN wd W x y k < 48) (hq : q < 4) (e2 : c.1 2 b 12 = nI (2 * wd)) (h1 : LC b c u) (h2 : cB u b = v) (h3 : cB c d = vd) (K : ∀ u', LC b c u' → cB u' b = lay1 wd W x y k vd v q → Ev (L_X0_layOn_22 b d (nI k) (nI (undN wd W x y k)) f (nI (q + 1)) u' e) P) : Ev (L_X0_layOn_22 b d (nI k) (nI (undN wd W x y k)) (f + 1) (nI q) u e) P := by
  have hk2 : k < 12 := Nat.lt_of_lt_of_le hk (Nat.mul_le_mul hw4 hg3)
  have hlt : fineN wd k q < 48 := Nat.lt_of_lt_of_le (fineN_lt hw hk hq) (Nat.mul_le_mul (Nat.mul_le_mul_left 2 hw4) (Nat.mul_le_mul_left 2 hg3))
  have hf : ∀ P, Ev (f_X0_fineCell b (nI k) (nI q) u) P ↔ P (nI (fineN wd k q)) u := fun P => ev_fineC hw hw4 hk2 hq ((h1.1 2 b 12 (by omega)).trans e2)
  have g1 : u.1 37 d (undN wd W x y k) = vd 1 (undN wd W x y k) := (h1.1 37 d _ (by omega)).trans (by rw [← h3, cR_1 hS])
  have g2 : u.1 38 d (undN wd W x y k) = vd 2 (undN wd W x y k) := (h1.1 38 d _ (by omega)).trans (by rw [← h3, cR_2 hS])
  have K1 := K _ ((h1.si (s := fineN wd k q) (x := vd 1 (undN wd W x y k)) (.inl rfl)).si (s := fineN wd k q) (x := vd 2 (undN wd W x y k)) (.inr rfl)) (by rw [cW_2 hlt, cW_1 hlt, h2]; rfl)
  generalize undN wd W x y k = S at *
  simp (disch := first | omega | decide) only [Nat.reduceAdd, Nat.reduceMul, ↓ev_bd, ↓ev_ck, ↓ev_if, ↓ev_lt, ↓ev_jn, ↓ev_so, ↓reduceIte, ↓ev_within, ↓ev_isBoard, ↓ev_isNumber, ↓ev_foundN, ↓ev_found_1, ↓ev_found_2, ↓ev_found_3, ↓ev_found_4, ↓ev_found_5, true_and, and_true, and_self, eq_self, not_true_eq_false, not_false_eq_true, ite_true, ite_false, true_or, or_true, false_or, or_false, false_and, and_false, ← zi_ni_0, ← zi_ni_1, ← zi_ni_2, ← zi_ni_3, ← zi_ni_4, ← zi_ni_5, ← zi_ni_6, ← zi_ni_7, ← zi_ni_8, ← zi_ni_9, ← zi_ni_10, ← zi_ni_12, ← zi_ni_24, ← zi_ni_25, ← zi_ni_40, ← zi_ni_45, ← zi_ni_47, ← zi_ni_48, ← zi_ni_95, ← zi_ni_96, ← zi_ni_97, ← zi_ni_100, ← zi_ni_144, ← zi_ni_288, nI_ltI, nI_leI, nI_eqI, nlt_T, nlt_F, nle_T, nle_F, neq_T, neq_F, nI_add, pk_mul, nI_clamp, q_inT, ng_lt, ng_tl, ng_le, ng_el, ng_eq, ng_qe, q_b0, q_b1, nar_0, nar_1, b01, b01', q_bn0, q_bn1, nar_n0, nar_n1, si_k, si_i, si_s, si_e, si_2, sl_1, sl_22, sl_k, sl_i, sl_s, sl_e, sp_1, sp_21, sp_22, sc_k, sc_i, sc_e, sc_2, mF_k, mF_2, mF_0, ↓eu_L_X0_layOn_22, ↓hf, g1, g2]
  exact K1
theorem ev_lay {b d wd hg x y W H : Nat} {vd v : qB} {u : qM} {P : Unit → qM → Prop} (hbd : d ≠ b) (hw : 1 ≤ wd) (hw4 : wd ≤ 4) (hg3 : hg ≤ 3) (hx : x + wd ≤ W) (hy : y + hg ≤ H) (hWH : W * H ≤ 48) (u3 : u.1 2 b 12 = nI (2 * wd)) (u4 : u.1 2 b 13 = nI (2 * hg)) (u5 : u.1 2 d 12 = nI W) (u6 : u.1 5 b 3 = nI x) (u7 : u.1 5 b 4 = nI y) (h2 : cB u b = v) (h3 : cB u d = vd) (K : ∀ u', (∀ a i s, ¬ (i = b ∧ (a = 37 ∨ a = 38 ∨ a = 45 ∨ a = 46)) → u'.1 a i s = u.1 a i s) → u'.2 = u.2 → cB u' b = layF wd W x y vd v (wd * hg) → (∀ t, t < wd * hg → u'.1 45 b t = vd 2 (undN wd W x y t) ∧ u'.1 46 b t = nI 0) → P () u') : Ev (f_X0_layOn b d u) P := by
  have hN : wd * hg ≤ 12 := Nat.mul_le_mul hw4 hg3
  have hN4 : 2 * wd * (2 * hg) / 4 = wd * hg := by
    rw [show 2 * wd * (2 * hg) = 4 * (wd * hg) by rw [Nat.mul_mul_mul_comm]]
    omega
  have hN48 : 2 * wd * (2 * hg) ≤ 48 := by
    rw [show 2 * wd * (2 * hg) = 4 * (wd * hg) by rw [Nat.mul_mul_mul_comm]]
    omega
  refine eu_X0_layOn.mpr ?_
  refine lpc (fun f i t => L_X0_layOn_2 b d f i t (fun u11 => some ((), u11))) (fun k t => (∀ a i s, ¬ (i = b ∧ (a = 37 ∨ a = 38 ∨ a = 45 ∨ a = 46)) → t.1 a i s = u.1 a i s) ∧ t.2 = u.2 ∧ cB t b = layF wd W x y vd v k ∧ (∀ j, j < k → t.1 45 b j = vd 2 (undN wd W x y j) ∧ t.1 46 b j = nI 0)) (wd * hg) (by omega) u ⟨fun _ _ _ _ => rfl, rfl, h2, fun j hj => absurd hj (Nat.not_lt_zero j)⟩ ?_ ?_
  · rintro F k c hk ⟨a1, a2, a3, a4⟩ K2
    have hk2 : k < 12 := by omega
    have hS : undN wd W x y k < 48 := Nat.lt_of_lt_of_le (undN_lt hw hk hx hy) hWH
    have v3 : c.1 2 b 12 = nI (2 * wd) := (a1 2 b 12 (by omega)).trans u3
    have v4 : c.1 2 b 13 = nI (2 * hg) := (a1 2 b 13 (by omega)).trans u4
    have v5 : c.1 2 d 12 = nI W := (a1 2 d 12 (by omega)).trans u5
    have v6 : c.1 5 b 3 = nI x := (a1 5 b 3 (by omega)).trans u6
    have v7 : c.1 5 b 4 = nI y := (a1 5 b 4 (by omega)).trans u7
    have hcd : cB c d = vd := by
      rw [← h3]
      apply cB_ext <;> exact funext (fun s => a1 _ d s (by omega))
    have hund : ∀ P, Ev (f_X0_underCell b (nI k) d c) P ↔ P (nI (undN wd W x y k)) c := fun P => ev_undC hw hw4 hk2 v3 v5 v6 v7
    show Ev (L_X0_layOn_2 b d (F + 1) (nI k) c _) P
    refine Ev.hide (fun P' K' => ?_)
    simp (disch := first | omega | decide) only [Nat.reduceAdd, Nat.reduceMul, ↓ev_bd, ↓ev_ck, ↓ev_if, ↓ev_lt, ↓ev_jn, ↓ev_so, ↓reduceIte, ↓ev_within, ↓ev_isBoard, ↓ev_isNumber, ↓ev_foundN, ↓ev_found_1, ↓ev_found_2, ↓ev_found_3, ↓ev_found_4, ↓ev_found_5, true_and, and_true, and_self, eq_self, not_true_eq_false, not_false_eq_true, ite_true, ite_false, true_or, or_true, false_or, or_false, false_and, and_false, ← zi_ni_0, ← zi_ni_1, ← zi_ni_2, ← zi_ni_3, ← zi_ni_4, ← zi_ni_5, ← zi_ni_6, ← zi_ni_7, ← zi_ni_8, ← zi_ni_9, ← zi_ni_10, ← zi_ni_12, ← zi_ni_24, ← zi_ni_25, ← zi_ni_40, ← zi_ni_45, ← zi_ni_47, ← zi_ni_48, ← zi_ni_95, ← zi_ni_96, ← zi_ni_97, ← zi_ni_100, ← zi_ni_144, ← zi_ni_288, nI_ltI, nI_leI, nI_eqI, nlt_T, nlt_F, nle_T, nle_F, neq_T, neq_F, nI_add, pk_mul, nI_clamp, q_inT, ng_lt, ng_tl, ng_le, ng_el, ng_eq, ng_qe, q_b0, q_b1, nar_0, nar_1, b01, b01', q_bn0, q_bn1, nar_n0, nar_n1, si_k, si_i, si_s, si_e, si_2, sl_1, sl_22, sl_k, sl_i, sl_s, sl_e, sp_1, sp_21, sp_22, sc_k, sc_i, sc_e, sc_2, mF_k, mF_2, mF_0, ↓eu_L_X0_layOn_2, ↓eu_X0_cells, ↓hund, v3, v4, pk_div, hN4]
    obtain ⟨f, hf⟩ : ∃ f, q_fu = f + 1 + 1 + 1 + 1 + 1 := ⟨3995, rfl⟩
    rw [hf]
    refine ly22 (c := c) hbd hw hw4 hg3 hk hS (by decide) v3 ⟨fun _ _ _ _ => rfl, rfl⟩ a3 hcd (fun t1 p1 q1 => ?_)
    refine ly22 (c := c) hbd hw hw4 hg3 hk hS (by decide) v3 p1 q1 hcd (fun t2 p2 q2 => ?_)
    refine ly22 (c := c) hbd hw hw4 hg3 hk hS (by decide) v3 p2 q2 hcd (fun t3 p3 q3 => ?_)
    refine ly22 (c := c) hbd hw hw4 hg3 hk hS (by decide) v3 p3 q3 hcd (fun t4 p4 q4 => ?_)
    have q5 : cB t4 b = layF wd W x y vd v (k + 1) := q4
    have g2 : t4.1 38 d (undN wd W x y k) = vd 2 (undN wd W x y k) := (p4.1 38 d _ (by omega)).trans (by rw [← hcd, cR_2 hS])
    have K3 := K2 (q_si (q_si t4 45 b k (vd 2 (undN wd W x y k))) 46 b k (nI 0)) ⟨fun a i s q => ?_, p4.2.trans a2, ?_, fun j hj => ?_⟩
    · generalize undN wd W x y k = S at *
      simp (disch := first | omega | decide) only [Nat.reduceAdd, Nat.reduceMul, ↓ev_bd, ↓ev_ck, ↓ev_if, ↓ev_lt, ↓ev_jn, ↓ev_so, ↓reduceIte, ↓ev_within, ↓ev_isBoard, ↓ev_isNumber, ↓ev_foundN, ↓ev_found_1, ↓ev_found_2, ↓ev_found_3, ↓ev_found_4, ↓ev_found_5, true_and, and_true, and_self, eq_self, not_true_eq_false, not_false_eq_true, ite_true, ite_false, true_or, or_true, false_or, or_false, false_and, and_false, ← zi_ni_0, ← zi_ni_1, ← zi_ni_2, ← zi_ni_3, ← zi_ni_4, ← zi_ni_5, ← zi_ni_6, ← zi_ni_7, ← zi_ni_8, ← zi_ni_9, ← zi_ni_10, ← zi_ni_12, ← zi_ni_24, ← zi_ni_25, ← zi_ni_40, ← zi_ni_45, ← zi_ni_47, ← zi_ni_48, ← zi_ni_95, ← zi_ni_96, ← zi_ni_97, ← zi_ni_100, ← zi_ni_144, ← zi_ni_288, nI_ltI, nI_leI, nI_eqI, nlt_T, nlt_F, nle_T, nle_F, neq_T, neq_F, nI_add, pk_mul, nI_clamp, q_inT, ng_lt, ng_tl, ng_le, ng_el, ng_eq, ng_qe, q_b0, q_b1, nar_0, nar_1, b01, b01', q_bn0, q_bn1, nar_n0, nar_n1, si_k, si_i, si_s, si_e, si_2, sl_1, sl_22, sl_k, sl_i, sl_s, sl_e, sp_1, sp_21, sp_22, sc_k, sc_i, sc_e, sc_2, mF_k, mF_2, mF_0, ↓eu_L_X0_layOn_22, g2]
      exact K3.mono K'
    · rw [si_n (by omega), si_n (by omega), p4.1 a i s (by omega)]
      exact a1 a i s q
    · rw [cB_o (by decide), cB_o (by decide), q5]
    · rw [si_k (show (45 : Nat) ≠ 46 by decide)]
      by_cases z : j = k
      · rw [z, si_e, si_e]
        exact ⟨rfl, rfl⟩
      · rw [si_s z, si_s z, si_k (show (46 : Nat) ≠ 45 by decide), p4.1 45 b j (by omega), p4.1 46 b j (by omega)]
        exact a4 j (by omega)
  · rintro F c ⟨a1, a2, a3, a4⟩
    have v3 : c.1 2 b 12 = nI (2 * wd) := (a1 2 b 12 (by omega)).trans u3
    have v4 : c.1 2 b 13 = nI (2 * hg) := (a1 2 b 13 (by omega)).trans u4
    show Ev (L_X0_layOn_2 b d (F + 1) (nI (wd * hg)) c _) P
    simp (disch := first | omega | decide) only [Nat.reduceAdd, Nat.reduceMul, ↓ev_bd, ↓ev_ck, ↓ev_if, ↓ev_lt, ↓ev_jn, ↓ev_so, ↓reduceIte, ↓ev_within, ↓ev_isBoard, ↓ev_isNumber, ↓ev_foundN, ↓ev_found_1, ↓ev_found_2, ↓ev_found_3, ↓ev_found_4, ↓ev_found_5, true_and, and_true, and_self, eq_self, not_true_eq_false, not_false_eq_true, ite_true, ite_false, true_or, or_true, false_or, or_false, false_and, and_false, ← zi_ni_0, ← zi_ni_1, ← zi_ni_2, ← zi_ni_3, ← zi_ni_4, ← zi_ni_5, ← zi_ni_6, ← zi_ni_7, ← zi_ni_8, ← zi_ni_9, ← zi_ni_10, ← zi_ni_12, ← zi_ni_24, ← zi_ni_25, ← zi_ni_40, ← zi_ni_45, ← zi_ni_47, ← zi_ni_48, ← zi_ni_95, ← zi_ni_96, ← zi_ni_97, ← zi_ni_100, ← zi_ni_144, ← zi_ni_288, nI_ltI, nI_leI, nI_eqI, nlt_T, nlt_F, nle_T, nle_F, neq_T, neq_F, nI_add, pk_mul, nI_clamp, q_inT, ng_lt, ng_tl, ng_le, ng_el, ng_eq, ng_qe, q_b0, q_b1, nar_0, nar_1, b01, b01', q_bn0, q_bn1, nar_n0, nar_n1, si_k, si_i, si_s, si_e, si_2, sl_1, sl_22, sl_k, sl_i, sl_s, sl_e, sp_1, sp_21, sp_22, sc_k, sc_i, sc_e, sc_2, mF_k, mF_2, mF_0, ↓eu_L_X0_layOn_2, ↓eu_X0_cells, v3, v4, pk_div, hN4]
    exact K c a1 a2 a3 a4
