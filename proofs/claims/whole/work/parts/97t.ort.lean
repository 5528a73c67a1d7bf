/-! Texts: the reference reads. -/
noncomputable def rdE (k1 i1 : Nat) (x1 x2 : Int32) (n : Nat) (x3 x4 x5 x8 : Int32) (e1 : qM → Option (Int32 × qM)) (e2 e3 e4 e5 : Int32 → qM → Option (Int32 × qM)) (x18 x19 x20 : Int32) (u8 : qM) : Option (Int32 × qM) := if x19 = 0 then e4 x18 u8 else q_jn (fun (x21 : Int32) (u9 : qM) => q_jn (fun (x22 : Int32) (u10 : qM) => q_lt (x3 + x22) (fun (x23 : Int32) => q_bd (f_X11_may x5 x21 u10) (fun (x24 : Int32) (u11 : qM) => if x24 = 0 then e5 x4 u11 else if x23 ≤ 24 then q_ck (q_in (u11.1 11 0 11) 40) (q_lt (q_si u11 72 0 (Int32.toNatClampNeg (u11.1 11 0 11)) x5) (fun (u12 : qM) => q_ck (q_in (u12.1 11 0 11) 40) (q_lt (q_si u12 73 0 (Int32.toNatClampNeg (u12.1 11 0 11)) x21) (fun (u13 : qM) => q_lt (q_si u13 11 0 11 ((u13.1 11 0 11) + 1)) (fun (u14 : qM) => L_X11_reads_11 k1 i1 x1 x2 n x23 x18 u14 e1 e2 e3 e4 e5))))) else e5 x4 u11))) (fun j4 => q_jn (fun  (u15 : qM) => j4 0 u15) (fun j5 => if x5 = 83 then q_bd (f_X11_may x5 x21 u9) (fun (x25 : Int32) (u16 : qM) => if x25 = 0 then j5 u16 else j4 x21 u16) else j5 u9))) (fun j3 => if x8 = 0 then j3 x20 u8 else j3 (-x20) u8)
theorem eu_rdE {k1 i1 : Nat} {x1 x2 : Int32} {n : Nat} {x3 x4 x5 x8 : Int32} {e1 : qM → Option (Int32 × qM)} {e2 e3 e4 e5 : Int32 → qM → Option (Int32 × qM)} {x18 x19 x20 : Int32} {u8 : qM} {P : Int32 → qM → Prop} : Ev (rdE k1 i1 x1 x2 n x3 x4 x5 x8 e1 e2 e3 e4 e5 x18 x19 x20 u8) P ↔ Ev (if x19 = 0 then e4 x18 u8 else q_jn (fun (x21 : Int32) (u9 : qM) => q_jn (fun (x22 : Int32) (u10 : qM) => q_lt (x3 + x22) (fun (x23 : Int32) => q_bd (f_X11_may x5 x21 u10) (fun (x24 : Int32) (u11 : qM) => if x24 = 0 then e5 x4 u11 else if x23 ≤ 24 then q_ck (q_in (u11.1 11 0 11) 40) (q_lt (q_si u11 72 0 (Int32.toNatClampNeg (u11.1 11 0 11)) x5) (fun (u12 : qM) => q_ck (q_in (u12.1 11 0 11) 40) (q_lt (q_si u12 73 0 (Int32.toNatClampNeg (u12.1 11 0 11)) x21) (fun (u13 : qM) => q_lt (q_si u13 11 0 11 ((u13.1 11 0 11) + 1)) (fun (u14 : qM) => L_X11_reads_11 k1 i1 x1 x2 n x23 x18 u14 e1 e2 e3 e4 e5))))) else e5 x4 u11))) (fun j4 => q_jn (fun  (u15 : qM) => j4 0 u15) (fun j5 => if x5 = 83 then q_bd (f_X11_may x5 x21 u9) (fun (x25 : Int32) (u16 : qM) => if x25 = 0 then j5 u16 else j4 x21 u16) else j5 u9))) (fun j3 => if x8 = 0 then j3 x20 u8 else j3 (-x20) u8)) P := Iff.rfl
noncomputable def rdM (k1 i1 : Nat) (x1 x2 : Int32) (n : Nat) (x3 x4 x5 x7 : Int32) (e1 : qM → Option (Int32 × qM)) (e2 e3 e4 e5 : Int32 → qM → Option (Int32 × qM)) (x8 : Int32) (u4 : qM) : Option (Int32 × qM) := q_jn (fun (x9 : Int32) (u5 : qM) => q_lt (x7 + x9) (fun (x10 : Int32) => L_X11_reads_101 k1 i1 x1 x2 x3 x5 x4 x8 q_fu x10 0 0 u5 (fun x18 x19 x20 u8 => rdE k1 i1 x1 x2 n x3 x4 x5 x8 e1 e2 e3 e4 e5 x18 x19 x20 u8) (fun x26 u17 => e3 x26 u17))) (fun j2 => if x8 = 0 then j2 0 u4 else j2 1 u4)
theorem eu_rdM {k1 i1 : Nat} {x1 x2 : Int32} {n : Nat} {x3 x4 x5 x7 : Int32} {e1 : qM → Option (Int32 × qM)} {e2 e3 e4 e5 : Int32 → qM → Option (Int32 × qM)} {x8 : Int32} {u4 : qM} {P : Int32 → qM → Prop} : Ev (rdM k1 i1 x1 x2 n x3 x4 x5 x7 e1 e2 e3 e4 e5 x8 u4) P ↔ Ev (q_jn (fun (x9 : Int32) (u5 : qM) => q_lt (x7 + x9) (fun (x10 : Int32) => L_X11_reads_101 k1 i1 x1 x2 x3 x5 x4 x8 q_fu x10 0 0 u5 (fun x18 x19 x20 u8 => rdE k1 i1 x1 x2 n x3 x4 x5 x8 e1 e2 e3 e4 e5 x18 x19 x20 u8) (fun x26 u17 => e3 x26 u17))) (fun j2 => if x8 = 0 then j2 0 u4 else j2 1 u4)) P := Iff.rfl
theorem eu_reads11 {k1 i1 : Nat} {x1 x2 : Int32} {n : Nat} {x3 x4 : Int32} {u2 : qM} {e1 : qM → Option (Int32 × qM)} {e2 e3 e4 e5 : Int32 → qM → Option (Int32 × qM)} {P : Int32 → qM → Prop} : Ev (L_X11_reads_11 k1 i1 x1 x2 (n + 1) x3 x4 u2 e1 e2 e3 e4 e5) P ↔ Ev (if x2 ≤ x4 then e1 u2 else q_ck (q_in (x1 + x4) (q_al k1 i1)) (q_lt (u2.1 k1 i1 (Int32.toNatClampNeg (x1 + x4))) (fun (x5 : Int32) => if x5 = 32 then q_lt (x4 + 1) (fun (x27 : Int32) => L_X11_reads_11 k1 i1 x1 x2 n x3 x27 u2 e1 e2 e3 e4 e5) else q_bd (f_X11_isLetter x5 u2) (fun (x6 : Int32) (u3 : qM) => if x6 = 0 then e2 x4 u3 else q_lt (x4 + 1) (fun (x7 : Int32) => q_jn (fun (x8 : Int32) (u4 : qM) => rdM k1 i1 x1 x2 n x3 x4 x5 x7 e1 e2 e3 e4 e5 x8 u4) (fun j1 => q_jn (fun  (u18 : qM) => j1 0 u18) (fun j6 => if x2 ≤ x7 then j6 u3 else q_ck (q_in (x1 + x7) (q_al k1 i1)) (if (u3.1 k1 i1 (Int32.toNatClampNeg (x1 + x7))) = 45 then j1 1 u3 else j6 u3)))))))) P := Iff.rfl
theorem ev_isLetterT {l : Int32} {u : qM} {P : Int32 → qM → Prop} (hl : tHas l = true) : Ev (f_X11_isLetter l u) P ↔ P 1 u := by
  refine eu_X11_isLetter.trans (ev_jn.trans (ev_jn.trans ?_))
  rcases tHas_c hl with hl | hl | hl | hl | hl | hl | hl <;> subst hl
  · rw [if_pos rfl]
    exact ev_ck.trans ⟨fun q => ev_so.mp q.2, fun q => ⟨by decide +kernel, ev_so.mpr q⟩⟩
  · rw [if_neg (show ¬ (86 : Int32) = 87 by decide +kernel), if_pos rfl]
    exact ev_ck.trans ⟨fun q => ev_so.mp q.2, fun q => ⟨by decide +kernel, ev_so.mpr q⟩⟩
  · rw [if_neg (show ¬ (83 : Int32) = 87 by decide +kernel), if_neg (show ¬ (83 : Int32) = 86 by decide +kernel), if_pos rfl]
    exact ev_ck.trans ⟨fun q => ev_so.mp q.2, fun q => ⟨by decide +kernel, ev_so.mpr q⟩⟩
  · rw [if_neg (show ¬ (71 : Int32) = 87 by decide +kernel), if_neg (show ¬ (71 : Int32) = 86 by decide +kernel), if_neg (show ¬ (71 : Int32) = 83 by decide +kernel), if_pos rfl]
    exact ev_ck.trans ⟨fun q => ev_so.mp q.2, fun q => ⟨by decide +kernel, ev_so.mpr q⟩⟩
  · rw [if_neg (show ¬ (84 : Int32) = 87 by decide +kernel), if_neg (show ¬ (84 : Int32) = 86 by decide +kernel), if_neg (show ¬ (84 : Int32) = 83 by decide +kernel), if_neg (show ¬ (84 : Int32) = 71 by decide +kernel), if_pos rfl]
    exact ev_ck.trans ⟨fun q => ev_so.mp q.2, fun q => ⟨by decide +kernel, ev_so.mpr q⟩⟩
  · rw [if_neg (show ¬ (80 : Int32) = 87 by decide +kernel), if_neg (show ¬ (80 : Int32) = 86 by decide +kernel), if_neg (show ¬ (80 : Int32) = 83 by decide +kernel), if_neg (show ¬ (80 : Int32) = 71 by decide +kernel), if_neg (show ¬ (80 : Int32) = 84 by decide +kernel), if_pos rfl]
    exact ev_ck.trans ⟨fun q => ev_so.mp q.2, fun q => ⟨by decide +kernel, ev_so.mpr q⟩⟩
  · rw [if_neg (show ¬ (82 : Int32) = 87 by decide +kernel), if_neg (show ¬ (82 : Int32) = 86 by decide +kernel), if_neg (show ¬ (82 : Int32) = 83 by decide +kernel), if_neg (show ¬ (82 : Int32) = 71 by decide +kernel), if_neg (show ¬ (82 : Int32) = 84 by decide +kernel), if_neg (show ¬ (82 : Int32) = 80 by decide +kernel), if_pos rfl]
    exact ev_ck.trans ⟨fun q => ev_so.mp q.2, fun q => ⟨by decide +kernel, ev_so.mpr q⟩⟩

theorem ev_isLetterF {l : Int32} {u : qM} {P : Int32 → qM → Prop} (hl : tHas l = false) : Ev (f_X11_isLetter l u) P ↔ P 0 u := by
  obtain ⟨h87, h86, h83, h71, h84, h80, h82⟩ := tHas_n hl
  refine eu_X11_isLetter.trans (ev_jn.trans (ev_jn.trans ?_))
  rw [if_neg h87, if_neg h86, if_neg h83, if_neg h71, if_neg h84, if_neg h80, if_neg h82]
  exact ev_ck.trans ⟨fun q => ev_so.mp q.2, fun q => ⟨by decide +kernel, ev_so.mpr q⟩⟩
theorem ev_may {l n : Int32} {u : qM} {P : Int32 → qM → Prop} (hl : tHas l = true) : Ev (f_X11_may l n u) P ↔ P (if tLo l ≤ n ∧ n ≤ tHi l then 1 else 0) u := by
  refine eu_X11_may.trans ?_
  rcases tHas_c hl with hl | hl | hl | hl | hl | hl | hl <;> subst hl
  · rw [tLo_87, tHi_87, if_neg (show ¬ (87 : Int32) = 71 by decide +kernel), if_neg (show ¬ (87 : Int32) = 80 by decide +kernel), if_neg (show ¬ (87 : Int32) = 83 by decide +kernel), if_neg (show ¬ (87 : Int32) = 84 by decide +kernel), if_neg (show ¬ (87 : Int32) = 86 by decide +kernel), if_pos rfl]
    exact ev_bd.trans (ev_in.trans (ev_ck.trans ⟨fun q => ev_so.mp q.2, fun q => ⟨b01, ev_so.mpr q⟩⟩))
  · rw [tLo_86, tHi_86, if_neg (show ¬ (86 : Int32) = 71 by decide +kernel), if_neg (show ¬ (86 : Int32) = 80 by decide +kernel), if_neg (show ¬ (86 : Int32) = 83 by decide +kernel), if_neg (show ¬ (86 : Int32) = 84 by decide +kernel), if_pos rfl]
    exact ev_bd.trans (ev_in.trans (ev_ck.trans ⟨fun q => ev_so.mp q.2, fun q => ⟨b01, ev_so.mpr q⟩⟩))
  · rw [tLo_83, tHi_83, if_neg (show ¬ (83 : Int32) = 71 by decide +kernel), if_neg (show ¬ (83 : Int32) = 80 by decide +kernel), if_pos rfl]
    exact ev_bd.trans (ev_in.trans (ev_ck.trans ⟨fun q => ev_so.mp q.2, fun q => ⟨b01, ev_so.mpr q⟩⟩))
  · rw [tLo_71, tHi_71, if_pos rfl]
    exact ev_bd.trans (ev_in.trans (ev_ck.trans ⟨fun q => ev_so.mp q.2, fun q => ⟨b01, ev_so.mpr q⟩⟩))
  · rw [tLo_84, tHi_84, if_neg (show ¬ (84 : Int32) = 71 by decide +kernel), if_neg (show ¬ (84 : Int32) = 80 by decide +kernel), if_neg (show ¬ (84 : Int32) = 83 by decide +kernel), if_pos rfl]
    exact ev_bd.trans (ev_in.trans (ev_ck.trans ⟨fun q => ev_so.mp q.2, fun q => ⟨b01, ev_so.mpr q⟩⟩))
  · rw [tLo_80, tHi_80, if_neg (show ¬ (80 : Int32) = 71 by decide +kernel), if_pos rfl]
    exact ev_bd.trans (ev_in.trans (ev_ck.trans ⟨fun q => ev_so.mp q.2, fun q => ⟨b01, ev_so.mpr q⟩⟩))
  · rw [tLo_82, tHi_82, if_neg (show ¬ (82 : Int32) = 71 by decide +kernel), if_neg (show ¬ (82 : Int32) = 80 by decide +kernel), if_neg (show ¬ (82 : Int32) = 83 by decide +kernel), if_neg (show ¬ (82 : Int32) = 84 by decide +kernel), if_neg (show ¬ (82 : Int32) = 86 by decide +kernel), if_neg (show ¬ (82 : Int32) = 87 by decide +kernel)]
    exact ev_bd.trans (ev_in.trans (ev_ck.trans ⟨fun q => ev_so.mp q.2, fun q => ⟨b01, ev_so.mpr q⟩⟩))

def nth : List (Int32 × Int32) → Nat → Int32 × Int32
  | [], _ => (0, 0)
  | x :: _, 0 => x
  | _ :: t, n + 1 => nth t n
theorem nth_lt {m : List (Int32 × Int32)} : ∀ (l : List (Int32 × Int32)) (j : Nat), j < l.length → nth (l ++ m) j = nth l j
  | [], _, h => absurd h (Nat.not_lt_zero _)
  | _ :: _, 0, _ => rfl
  | _ :: t, j + 1, h => nth_lt t j (Nat.lt_of_succ_lt_succ h)
theorem nth_eq {m : List (Int32 × Int32)} {x : Int32 × Int32} : ∀ (l : List (Int32 × Int32)), nth (l ++ x :: m) l.length = x
  | [] => rfl
  | _ :: t => nth_eq t
/-- the items that the reference has read -/
def IT (u : qM) (l : List (Int32 × Int32)) : Prop := u.1 11 0 11 = nI l.length ∧ ∀ j, j < l.length → u.1 72 0 j = (nth l j).1 ∧ u.1 73 0 j = (nth l j).2
theorem IT.push {u : qM} {l : List (Int32 × Int32)} {a b : Int32} (h : IT u l) : IT (q_si (q_si (q_si u 72 0 l.length a) 73 0 l.length b) 11 0 11 (nI (l.length + 1))) (l ++ [(a, b)]) := by
  have hlen : (l ++ [(a, b)]).length = l.length + 1 := by rw [List.length_append]; rfl
  refine ⟨by rw [si_e, hlen], fun j hj => ?_⟩
  rw [hlen] at hj
  rw [si_k (show (72 : Nat) ≠ 11 by decide), si_k (show (73 : Nat) ≠ 11 by decide), si_k (show (72 : Nat) ≠ 73 by decide)]
  by_cases q : j = l.length
  · rw [q, si_e, si_e, nth_eq]
    exact ⟨rfl, rfl⟩
  · rw [si_s q, si_s q, si_k (by decide), nth_lt l j (by omega)]
    exact h.2 j (by omega)
def FR (u u' : qM) : Prop := (∀ a j s, ¬ (a = 72 ∨ a = 73 ∨ (a = 11 ∧ j = 0 ∧ s = 11)) → u'.1 a j s = u.1 a j s) ∧ u'.2 = u.2
theorem FR.rf {u : qM} : FR u u := ⟨fun _ _ _ _ => rfl, rfl⟩
theorem FR.tr {a b c : qM} (h : FR a b) (h2 : FR b c) : FR a c := ⟨fun x j s q => (h2.1 x j s q).trans (h.1 x j s q), h2.2.trans h.2⟩
theorem scr_72 {i s : Nat} : scr 72 i s := by
  unfold scr
  simp only [true_or, or_true]
theorem scr_73 {i s : Nat} : scr 73 i s := by
  unfold scr
  simp only [true_or, or_true]
theorem scr_11 {i : Nat} : scr 11 i 11 := .inl (by decide)
theorem FR.kp {u u' : qM} (h : FR u u') : Kp u u' := Kp.of (fun a i s q => h.1 a i s (fun z => q (by
  rcases z with rfl | rfl | ⟨rfl, -, rfl⟩
  · exact scr_72
  · exact scr_73
  · exact scr_11))) h.2
theorem FR.push {u : qM} {n m : Nat} {a b x : Int32} : FR u (q_si (q_si (q_si u 72 0 n a) 73 0 m b) 11 0 11 x) := ⟨fun y j s q => by rw [si_n (by omega), si_n (by omega), si_n (by omega)], rfl⟩
/-- the source: the first L of f stand from B on in row i1 of kind k1 -/
def SRC (k1 i1 B L : Nat) (f : Nat → Int32) (u : qM) : Prop := L ≤ 40 ∧ B + L ≤ q_al k1 i1 ∧ q_al k1 i1 ≤ 400 ∧ k1 ≠ 72 ∧ k1 ≠ 73 ∧ k1 ≠ 11 ∧ ∀ i, i < L → u.1 k1 i1 (B + i) = f i
theorem SRC.fr {k1 i1 B L : Nat} {f : Nat → Int32} {u u' : qM} (h : SRC k1 i1 B L f u) (g : FR u u') : SRC k1 i1 B L f u' := by
  obtain ⟨a1, a2, a3, a4, a5, a6, a7⟩ := h
  exact ⟨a1, a2, a3, a4, a5, a6, fun i hi => (g.1 k1 i1 _ (by omega)).trans (a7 i hi)⟩
theorem lp_101 {k1 i1 B L c : Nat} {f : Nat → Int32} {x3 x5 x4 x8 : Int32} {u : qM} {e1 : Int32 → Int32 → Int32 → qM → Option (Int32 × qM)} {e2 : Int32 → qM → Option (Int32 × qM)} {P : Int32 → qM → Prop} (h : SRC k1 i1 B L f u) (hc : c ≤ L) (K4 : ¬ 5 ≤ tdg f (L - c) c → Ev (e1 (nI (c + tdg f (L - c) c)) (nI (tdg f (L - c) c)) (tvl f c (tdg f (L - c) c)) u) P) (K5 : 5 ≤ tdg f (L - c) c → Ev (e2 (nI (c + 4)) u) P) : ∀ d q F, q + d = min 4 (tdg f (L - c) c) → d < F → Ev (L_X11_reads_101 k1 i1 (nI B) (nI L) x3 x5 x4 x8 F (nI (c + q)) (nI q) (tvl f c q) u e1 e2) P := by
  obtain ⟨a1, a2, a3, a4, a5, a6, a7⟩ := h
  have hle := tdg_le (f := f) (L - c) c
  intro d
  induction d with
  | zero =>
    intro q F hq hF
    obtain ⟨F, rfl⟩ : ∃ F', F = F' + 1 := ⟨F - 1, by omega⟩
    by_cases h5 : 5 ≤ tdg f (L - c) c
    · have q4 : q = 4 := by omega
      subst q4
      obtain ⟨z1, z2, z3⟩ := tdg_lt (f := f) (L - c) c 4 (by omega)
      have r7 := a7 (c + 4) (by omega)
      have i7 : (nI 48 ≤ f (c + 4) ∧ f (c + 4) ≤ 57) = True := eq_true ⟨z2, z3⟩
      have K := K5 h5
      generalize tvl f c 4 = v at *
      simp (disch := first | omega | decide) only [Nat.reduceAdd, Nat.reduceMul, ↓ev_bd, ↓ev_ck, ↓ev_if, ↓ev_lt, ↓ev_jn, ↓ev_so, ↓reduceIte, ↓ev_within, ↓ev_in, ↓ev_isBoard, ↓ev_isGauge, ↓ev_isNumber, ↓ev_isSix, ↓ev_isEight, ↓ev_foundN, ↓ev_meetsN, ↓ev_found_1, ↓ev_meets_1, ↓ev_found_2, ↓ev_meets_2, ↓ev_found_3, ↓ev_meets_3, ↓ev_found_4, ↓ev_meets_4, ↓ev_found_5, ↓ev_meets_5, true_and, and_true, and_self, eq_self, not_true_eq_false, not_false_eq_true, ite_true, ite_false, true_or, or_true, false_or, or_false, false_and, and_false, ← zi_ni_0, ← zi_ni_1, ← zi_ni_2, ← zi_ni_3, ← zi_ni_4, ← zi_ni_5, ← zi_ni_6, ← zi_ni_7, ← zi_ni_8, ← zi_ni_9, ← zi_ni_10, ← zi_ni_12, ← zi_ni_24, ← zi_ni_25, ← zi_ni_40, ← zi_ni_45, ← zi_ni_47, ← zi_ni_48, ← zi_ni_95, ← zi_ni_96, ← zi_ni_97, ← zi_ni_100, ← zi_ni_144, ← zi_ni_288, nI_ltI, nI_leI, nI_eqI, nlt_T, nlt_F, nle_T, nle_F, neq_T, neq_F, nI_add, pk_mul, nI_clamp, q_inT, ng_lt, ng_tl, ng_le, ng_el, ng_eq, ng_qe, q_b0, q_b1, nar_0, nar_1, b01, b01', q_bn0, q_bn1, nar_n0, nar_n1, si_k, si_i, si_s, si_e, si_2, sl_1, sl_22, sl_k, sl_i, sl_s, sl_e, sp_1, sp_21, sp_22, sc_k, sc_i, sc_e, sc_2, mF_k, mM_k, mF_2, mM_2, mF_0, mM_11, ↓eu_L_X11_reads_101, r7, i7]
      exact K
    · have hqm : q = tdg f (L - c) c := by omega
      have K := K4 h5
      rw [← hqm] at K
      generalize hv : tvl f c q = v at *
      by_cases hcl : c + q < L
      · have r7 := a7 (c + q) hcl
        have z2 := tdg_end (f := f) (L - c) c (by omega)
        rw [← hqm] at z2
        have i7 : (nI 48 ≤ f (c + q) ∧ f (c + q) ≤ 57) = False := eq_false z2
        simp (disch := first | omega | decide) only [Nat.reduceAdd, Nat.reduceMul, ↓ev_bd, ↓ev_ck, ↓ev_if, ↓ev_lt, ↓ev_jn, ↓ev_so, ↓reduceIte, ↓ev_within, ↓ev_in, ↓ev_isBoard, ↓ev_isGauge, ↓ev_isNumber, ↓ev_isSix, ↓ev_isEight, ↓ev_foundN, ↓ev_meetsN, ↓ev_found_1, ↓ev_meets_1, ↓ev_found_2, ↓ev_meets_2, ↓ev_found_3, ↓ev_meets_3, ↓ev_found_4, ↓ev_meets_4, ↓ev_found_5, ↓ev_meets_5, true_and, and_true, and_self, eq_self, not_true_eq_false, not_false_eq_true, ite_true, ite_false, true_or, or_true, false_or, or_false, false_and, and_false, ← zi_ni_0, ← zi_ni_1, ← zi_ni_2, ← zi_ni_3, ← zi_ni_4, ← zi_ni_5, ← zi_ni_6, ← zi_ni_7, ← zi_ni_8, ← zi_ni_9, ← zi_ni_10, ← zi_ni_12, ← zi_ni_24, ← zi_ni_25, ← zi_ni_40, ← zi_ni_45, ← zi_ni_47, ← zi_ni_48, ← zi_ni_95, ← zi_ni_96, ← zi_ni_97, ← zi_ni_100, ← zi_ni_144, ← zi_ni_288, nI_ltI, nI_leI, nI_eqI, nlt_T, nlt_F, nle_T, nle_F, neq_T, neq_F, nI_add, pk_mul, nI_clamp, q_inT, ng_lt, ng_tl, ng_le, ng_el, ng_eq, ng_qe, q_b0, q_b1, nar_0, nar_1, b01, b01', q_bn0, q_bn1, nar_n0, nar_n1, si_k, si_i, si_s, si_e, si_2, sl_1, sl_22, sl_k, sl_i, sl_s, sl_e, sp_1, sp_21, sp_22, sc_k, sc_i, sc_e, sc_2, mF_k, mM_k, mF_2, mM_2, mF_0, mM_11, ↓eu_L_X11_reads_101, r7, i7]
        exact K
      · simp (disch := first | omega | decide) only [Nat.reduceAdd, Nat.reduceMul, ↓ev_bd, ↓ev_ck, ↓ev_if, ↓ev_lt, ↓ev_jn, ↓ev_so, ↓reduceIte, ↓ev_within, ↓ev_in, ↓ev_isBoard, ↓ev_isGauge, ↓ev_isNumber, ↓ev_isSix, ↓ev_isEight, ↓ev_foundN, ↓ev_meetsN, ↓ev_found_1, ↓ev_meets_1, ↓ev_found_2, ↓ev_meets_2, ↓ev_found_3, ↓ev_meets_3, ↓ev_found_4, ↓ev_meets_4, ↓ev_found_5, ↓ev_meets_5, true_and, and_true, and_self, eq_self, not_true_eq_false, not_false_eq_true, ite_true, ite_false, true_or, or_true, false_or, or_false, false_and, and_false, ← zi_ni_0, ← zi_ni_1, ← zi_ni_2, ← zi_ni_3, ← zi_ni_4, ← zi_ni_5, ← zi_ni_6, ← zi_ni_7, ← zi_ni_8, ← zi_ni_9, ← zi_ni_10, ← zi_ni_12, ← zi_ni_24, ← zi_ni_25, ← zi_ni_40, ← zi_ni_45, ← zi_ni_47, ← zi_ni_48, ← zi_ni_95, ← zi_ni_96, ← zi_ni_97, ← zi_ni_100, ← zi_ni_144, ← zi_ni_288, nI_ltI, nI_leI, nI_eqI, nlt_T, nlt_F, nle_T, nle_F, neq_T, neq_F, nI_add, pk_mul, nI_clamp, q_inT, ng_lt, ng_tl, ng_le, ng_el, ng_eq, ng_qe, q_b0, q_b1, nar_0, nar_1, b01, b01', q_bn0, q_bn1, nar_n0, nar_n1, si_k, si_i, si_s, si_e, si_2, sl_1, sl_22, sl_k, sl_i, sl_s, sl_e, sp_1, sp_21, sp_22, sc_k, sc_i, sc_e, sc_2, mF_k, mM_k, mF_2, mM_2, mF_0, mM_11, ↓eu_L_X11_reads_101]
        exact K
  | succ d ih =>
    intro q F hq hF
    obtain ⟨F, rfl⟩ : ∃ F', F = F' + 1 := ⟨F - 1, by omega⟩
    obtain ⟨z1, z2, z3⟩ := tdg_lt (f := f) (L - c) c q (by omega)
    have r7 := a7 (c + q) (by omega)
    have i7 : (nI 48 ≤ f (c + q) ∧ f (c + q) ≤ 57) = True := eq_true ⟨z2, z3⟩
    have K := ih (q + 1) F (by omega) (by omega)
    have hv : tvl f c (q + 1) = nI 10 * tvl f c q + f (c + q) - nI 48 := rfl
    rw [hv] at K
    generalize tvl f c q = v at *
    have hq4 : ¬ q = 4 := by omega
    rw [show c + (q + 1) = c + q + 1 by omega] at K
    simp (disch := first | omega | decide) only [Nat.reduceAdd, Nat.reduceMul, ↓ev_bd, ↓ev_ck, ↓ev_if, ↓ev_lt, ↓ev_jn, ↓ev_so, ↓reduceIte, ↓ev_within, ↓ev_in, ↓ev_isBoard, ↓ev_isGauge, ↓ev_isNumber, ↓ev_isSix, ↓ev_isEight, ↓ev_foundN, ↓ev_meetsN, ↓ev_found_1, ↓ev_meets_1, ↓ev_found_2, ↓ev_meets_2, ↓ev_found_3, ↓ev_meets_3, ↓ev_found_4, ↓ev_meets_4, ↓ev_found_5, ↓ev_meets_5, true_and, and_true, and_self, eq_self, not_true_eq_false, not_false_eq_true, ite_true, ite_false, true_or, or_true, false_or, or_false, false_and, and_false, ← zi_ni_0, ← zi_ni_1, ← zi_ni_2, ← zi_ni_3, ← zi_ni_4, ← zi_ni_5, ← zi_ni_6, ← zi_ni_7, ← zi_ni_8, ← zi_ni_9, ← zi_ni_10, ← zi_ni_12, ← zi_ni_24, ← zi_ni_25, ← zi_ni_40, ← zi_ni_45, ← zi_ni_47, ← zi_ni_48, ← zi_ni_95, ← zi_ni_96, ← zi_ni_97, ← zi_ni_100, ← zi_ni_144, ← zi_ni_288, nI_ltI, nI_leI, nI_eqI, nlt_T, nlt_F, nle_T, nle_F, neq_T, neq_F, nI_add, pk_mul, nI_clamp, q_inT, ng_lt, ng_tl, ng_le, ng_el, ng_eq, ng_qe, q_b0, q_b1, nar_0, nar_1, b01, b01', q_bn0, q_bn1, nar_n0, nar_n1, si_k, si_i, si_s, si_e, si_2, sl_1, sl_22, sl_k, sl_i, sl_s, sl_e, sp_1, sp_21, sp_22, sc_k, sc_i, sc_e, sc_2, mF_k, mM_k, mF_2, mM_2, mF_0, mM_11, ↓eu_L_X11_reads_101, r7, i7, hq4]
    exact K
