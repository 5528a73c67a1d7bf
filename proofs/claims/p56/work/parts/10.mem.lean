/-! The memory of both systems in one: ints (fields and rows) by kind, number and place; longs; the row that the Script reads. Kinds: layout.py's table (wip/whole/gen). -/
abbrev qM : Type := (Nat → Nat → Nat → Int32) × (Nat → Nat → Nat → Int64) × (Nat × Nat)
def q_si (μ : qM) (k i s : Nat) (v : Int32) : qM := (fun a b c => if a = k ∧ b = i ∧ c = s then v else μ.1 a b c, μ.2)
def q_sl (μ : qM) (k i s : Nat) (v : Int64) : qM := (μ.1, fun a b c => if a = k ∧ b = i ∧ c = s then v else μ.2.1 a b c, μ.2.2)
def q_sp (μ : qM) (q : Nat × Nat) : qM := (μ.1, μ.2.1, q)
def q_sc (μ : qM) (k0 i0 k1 i1 sp dp n : Nat) : qM := (fun a b c => if a = k1 ∧ b = i1 then va_cpy (μ.1 k0 i0) (μ.1 k1 i1) sp dp n c else μ.1 a b c, μ.2)
abbrev qG : Type := va_G × (Nat → Nat → Nat) × (Nat → ClassId) × Nat
def q_ad (G : qG) (k i : Nat) : Nat := G.2.1 k i
def q_atL : List Nat := [9, 9, 9, 9, 9, 9, 9, 9, 9, 9, 9, 9, 9, 9, 9, 9, 9, 9, 9, 9, 6, 3, 4, 5, 9, 9, 9, 9, 9, 9, 0, 0, 0, 0, 0, 0, 0, 0, 0, 0, 0, 1, 0, 0, 0, 0, 0, 0, 0, 0, 0, 0, 0, 1, 9, 9, 9, 9, 9, 9]
def q_at (k : Nat) : Nat := q_atL.getD k 9
def q_cnL : List Nat := [1, 3, 7, 7, 7, 7, 1, 1, 8, 8, 2, 0, 0, 0, 0, 0, 0, 0, 0, 0, 3, 1, 1, 1, 0, 0, 0, 0, 0, 0, 6, 6, 8, 3, 1, 1, 1, 7, 7, 7, 7, 7, 7, 7, 7, 7, 7, 1, 1, 1, 1, 1, 8, 8, 0, 0, 0, 0, 0, 0]
def q_cn (k : Nat) : Nat := q_cnL.getD k 0
def q_slen (i : Nat) : Nat := if i = 2 then 8 else 6
def q_alL : List Nat := [0, 0, 0, 0, 0, 0, 0, 0, 0, 0, 0, 0, 0, 0, 0, 0, 0, 0, 0, 0, 0, 6, 8, 8, 0, 0, 0, 0, 0, 0, 48, 40, 40, 0, 8, 9, 6, 48, 48, 144, 96, 96, 4, 4, 4, 12, 12, 96, 48, 48, 48, 0, 48, 48, 0, 0, 0, 0, 0, 0]
def q_al (k i : Nat) : Nat := if k = 20 ∨ k = 33 then q_slen i else q_alL.getD k 0
def q_ok (k i : Nat) : Bool := decide (i < q_cn k)
def q_pt (k i e : Nat) : Nat × Nat := if k = 20 then (30 + i, e) else if k = 21 then (2, e) else if k = 22 then (8, e) else (9, e)
def q_fl (G : qG) (f : Nat → Int32) (g : Nat → Int64) (q : Nat × Nat) (k i : Nat) : Nat × List Value := match k with
  | 0 => (10, [.ref (q_ad G 1 0), .ref (q_ad G 1 1), .ref (q_ad G 1 2), .ref (q_ad G 34 0), .ref (q_ad G 21 0), .ref (q_ad G 2 6), .ref (q_ad G 6 0), .ref (q_ad G 7 0), .ref (q_ad G 22 0), .ref (q_ad G 23 0), .ref (q_ad G 10 0), .ref (q_ad G 10 1), .ref (q_ad G 35 0), .ref (q_ad G 36 0), .int (f 14), .int (f 15), .int (f 16), .long (g 17), .long (g 18)])
  | 1 => (7, [.ref (q_ad G 20 i), .ref (q_ad G 33 i)])
  | 2 => (0, [.ref (q_ad G 37 i), .ref (q_ad G 38 i), .ref (q_ad G 39 i), .ref (q_ad G 40 i), .ref (q_ad G 41 i), .ref (q_ad G 3 i), .ref (q_ad G 4 i), .ref (q_ad G 5 i), .ref (q_ad G 42 i), .int (f 9), .int (f 10), .int (f 11), .int (f 12), .int (f 13), .int (f 14), .int (f 15), .int (f 16), .int (f 17), .int (f 18)])
  | 3 => (3, [.int (f 0), .int (f 1), .int (f 2), .int (f 3)])
  | 4 => (5, [.ref (q_ad G 43 i), .ref (q_ad G 44 i), .int (f 2)])
  | 5 => (4, [.ref (q_ad G 45 i), .ref (q_ad G 46 i), .int (f 2), .int (f 3), .int (f 4)])
  | 6 => (8, [.ref (q_ad G 47 0), .ref (q_ad G 48 0), .ref (q_ad G 49 0), .ref (q_ad G 50 0)])
  | 7 => (6, [.ref (q_ad G q.1 q.2), .int (f 1), .int (f 2), .int (f 3), .int (f 4), .int (f 5), .int (f 6)])
  | 8 => (1, [.int (f 0), .int (f 1), .int (f 2)])
  | 9 => (2, [.ref (q_ad G 52 i), .ref (q_ad G 53 i), .int (f 2), .int (f 3), .int (f 4), .int (f 5)])
  | _ => (9, [.long (g 0), .long (g 1), .int (f 2)])
def q_re (G : qG) (f : Nat → Int32) (g : Nat → Int64) (q : Nat × Nat) (k i : Nat) : va_E := match q_at k with
  | 0 => .inl (G.2.2.1 0, q_al k i, .inl f)
  | 1 => .inl (G.2.2.1 1, q_al k i, .inl f)
  | 2 => .inl (G.2.2.1 2, q_al k i, .inr (.inl g))
  | 9 => .inr (q_fl G f g q k i)
  | c => .inl (G.2.2.1 c, q_al k i, .inr (.inr (.inr (.inr (fun e => some (q_ad G (q_pt k i e).1 (q_pt k i e).2))))))
def q_rep (G : qG) (μ : qM) (k i : Nat) : va_E := q_re G (μ.1 k i) (μ.2.1 k i) μ.2.2 k i
def q_objs : List (Nat × Nat) := (List.range 60).flatMap (fun k => (List.range (q_cn k)).map (fun i => (k, i)))
def q_pic (G : qG) (μ : qM) : va_W := q_objs.map (fun o => (q_ad G o.1 o.2, q_rep G μ o.1 o.2))
def q_A (G : qG) : Nat → Prop := fun q => G.2.2.2 ≤ q
def q_tys (G : qG) : List (ClassId × FieldType) := [(G.2.2.1 0, .int), (G.2.2.1 1, .boolean), (G.2.2.1 2, .int), (G.2.2.1 3, .object "SeaCells$Board"), (G.2.2.1 4, .object "SeaCells$Boat"), (G.2.2.1 5, .object "SeaCells$Gauge"), (G.2.2.1 6, .array .int)]
def q_W (G : qG) (μ : qM) (H : Heap) : Prop := va_P G.1 vwCl (q_pic G μ) H
def q_D (G : qG) : Prop := ∀ μ : qM, va_D (q_A G) (q_pic G μ)
def q_K (G : qG) (s : State) : Prop := va_K G.1 vwCl (q_tys G) s
theorem q_cn_k {k i : Nat} (h : q_ok k i = true) : k < 60 := by
  rcases Nat.lt_or_ge k 60 with h1 | h1
  · exact h1
  · exfalso
    have h2 : i < q_cn k := of_decide_eq_true h
    have h3 : q_cn k = 0 := by
      unfold q_cn
      rw [List.getD_eq_getElem?_getD, List.getElem?_eq_none (Nat.le_trans (by decide +kernel) h1)]
      rfl
    omega
theorem q_mem {k i : Nat} (h : q_ok k i = true) : (k, i) ∈ q_objs := by
  refine List.mem_flatMap.mpr ⟨k, List.mem_range.mpr (q_cn_k h), List.mem_map.mpr ⟨i, List.mem_range.mpr (of_decide_eq_true h), rfl⟩⟩
theorem q_mem_ok {k i : Nat} (h : (k, i) ∈ q_objs) : q_ok k i = true := by
  obtain ⟨k', -, h1⟩ := List.mem_flatMap.mp h
  obtain ⟨i', h2, h3⟩ := List.mem_map.mp h1
  cases h3
  exact decide_eq_true (List.mem_range.mp h2)
theorem q_ix {k i : Nat} (h : q_ok k i = true) : ∃ q0 : Nat, q_objs[q0]? = some (k, i) := List.getElem?_of_mem (q_mem h)
set_option maxRecDepth 100000 in
theorem q_nd0 : va_nd (q_objs.map (fun o => 1000 * o.1 + o.2)) = true := by decide +kernel
theorem q_nd {j j' : Nat} {o : Nat × Nat} (h : q_objs[j]? = some o) (h' : q_objs[j']? = some o) : j = j' :=
  va_nd_inj _ q_nd0 j j' (1000 * o.1 + o.2) (by rw [List.getElem?_map, h]; rfl) (by rw [List.getElem?_map, h']; rfl)
theorem q_pic_at {G : qG} {μ : qM} {q0 k i : Nat} (h : q_objs[q0]? = some (k, i)) : (q_pic G μ)[q0]? = some (q_ad G k i, q_rep G μ k i) := by
  unfold q_pic
  rw [List.getElem?_map, h]
  rfl
theorem q_set {G : qG} {μ μ' : qM} {k i q0 : Nat} (h0 : q_objs[q0]? = some (k, i)) (h : ∀ a b, (a, b) ∈ q_objs → ¬ (a = k ∧ b = i) → q_rep G μ' a b = q_rep G μ a b) : (q_pic G μ).set q0 (q_ad G k i, q_rep G μ' k i) = q_pic G μ' := by
  apply List.ext_getElem?
  intro j
  have hl : q0 < (q_pic G μ).length := by
    unfold q_pic
    rw [List.length_map]
    exact (List.getElem?_eq_some_iff.mp h0).1
  by_cases hj : j = q0
  · subst hj
    rw [List.getElem?_set_self hl, q_pic_at h0]
  · rw [List.getElem?_set_ne (Ne.symm hj)]
    unfold q_pic
    rw [List.getElem?_map, List.getElem?_map]
    cases ho : q_objs[j]? with
    | none => rfl
    | some o =>
      have hne : ¬ (o.1 = k ∧ o.2 = i) := fun q => hj (q_nd ho (by rw [h0, ← q.1, ← q.2]))
      show some (q_ad G o.1 o.2, q_rep G μ o.1 o.2) = some (q_ad G o.1 o.2, q_rep G μ' o.1 o.2)
      rw [h _ _ (List.mem_of_getElem? ho) hne]
theorem q_rep_si {G : qG} {μ : qM} {k i s : Nat} {v : Int32} (a b : Nat) (h : ¬ (a = k ∧ b = i)) : q_rep G (q_si μ k i s v) a b = q_rep G μ a b := by
  unfold q_rep q_si
  have e : (fun c => if a = k ∧ b = i ∧ c = s then v else μ.1 a b c) = μ.1 a b := by
    funext c
    rw [if_neg (fun q => h ⟨q.1, q.2.1⟩)]
  dsimp only
  rw [e]
theorem q_rep_sl {G : qG} {μ : qM} {k i s : Nat} {v : Int64} (a b : Nat) (h : ¬ (a = k ∧ b = i)) : q_rep G (q_sl μ k i s v) a b = q_rep G μ a b := by
  unfold q_rep q_sl
  have e : (fun c => if a = k ∧ b = i ∧ c = s then v else μ.2.1 a b c) = μ.2.1 a b := by
    funext c
    rw [if_neg (fun q => h ⟨q.1, q.2.1⟩)]
  dsimp only
  rw [e]
theorem q_rep_sc {G : qG} {μ : qM} {k0 i0 k i sp dp n : Nat} (a b : Nat) (h : ¬ (a = k ∧ b = i)) : q_rep G (q_sc μ k0 i0 k i sp dp n) a b = q_rep G μ a b := by
  unfold q_rep q_sc
  have e : (fun c => if a = k ∧ b = i then va_cpy (μ.1 k0 i0) (μ.1 k i) sp dp n c else μ.1 a b c) = μ.1 a b := by
    funext c
    rw [if_neg h]
  dsimp only
  rw [e]
theorem q_fl_q {G : qG} {f : Nat → Int32} {g : Nat → Int64} {q q' : Nat × Nat} {k i : Nat} (h : k ≠ 7) : q_fl G f g q k i = q_fl G f g q' k i := by
  unfold q_fl
  split <;> first | rfl | exact absurd rfl h
theorem q_rep_sp {G : qG} {μ : qM} {q : Nat × Nat} (a b : Nat) (h : ¬ (a = 7)) : q_rep G (q_sp μ q) a b = q_rep G μ a b := by
  unfold q_rep q_sp q_re
  dsimp only
  rw [q_fl_q (q := q) (q' := μ.2.2) h]
theorem q_si_same (μ : qM) (k i s : Nat) (v : Int32) : (q_si μ k i s v).1 k i = upd (μ.1 k i) s v := by
  funext c
  unfold q_si upd
  by_cases h : c = s
  · simp [h]
  · simp [h]
theorem q_sl_same (μ : qM) (k i s : Nat) (v : Int64) : (q_sl μ k i s v).2.1 k i = vp_updL (μ.2.1 k i) s v := by
  funext c
  unfold q_sl vp_updL
  by_cases h : c = s
  · simp [h]
  · simp [h]
theorem q_sc_same (μ : qM) (k0 i0 k i sp dp n : Nat) : (q_sc μ k0 i0 k i sp dp n).1 k i = va_cpy (μ.1 k0 i0) (μ.1 k i) sp dp n := by
  funext c
  unfold q_sc
  simp
theorem q_rep0 {G : qG} {μ : qM} {k i : Nat} (h : q_at k = 0) : q_rep G μ k i = .inl (G.2.2.1 0, q_al k i, .inl (μ.1 k i)) := by
  unfold q_rep q_re
  rw [h]
  rfl
theorem q_rep1 {G : qG} {μ : qM} {k i : Nat} (h : q_at k = 1) : q_rep G μ k i = .inl (G.2.2.1 1, q_al k i, .inl (μ.1 k i)) := by
  unfold q_rep q_re
  rw [h]
  rfl
theorem q_rep2 {G : qG} {μ : qM} {k i : Nat} (h : q_at k = 2) : q_rep G μ k i = .inl (G.2.2.1 2, q_al k i, .inr (.inl (μ.2.1 k i))) := by
  unfold q_rep q_re
  rw [h]
  rfl
theorem q_rep9 {G : qG} {μ : qM} {k i : Nat} (h : q_at k = 9) : q_rep G μ k i = .inr (q_fl G (μ.1 k i) (μ.2.1 k i) μ.2.2 k i) := by
  unfold q_rep q_re
  rw [h]
  rfl
theorem q_repR {G : qG} {μ : qM} {k i : Nat} (c : Nat) (h : q_at k = c) (h3 : 3 ≤ c) (h9 : c < 9) : q_rep G μ k i = .inl (G.2.2.1 c, q_al k i, .inr (.inr (.inr (.inr (fun e => some (q_ad G (q_pt k i e).1 (q_pt k i e).2)))))) := by
  subst h
  unfold q_rep q_re
  split
  · omega
  · omega
  · omega
  · omega
  · rfl
theorem at_0 : q_at 0 = 9 := by decide +kernel
theorem cn_0 : q_cn 0 = 1 := by decide +kernel
theorem ok_0 {i : Nat} (h : i < 1) : q_ok 0 i = true := decide_eq_true (by rw [cn_0]; exact h)
theorem at_1 : q_at 1 = 9 := by decide +kernel
theorem cn_1 : q_cn 1 = 3 := by decide +kernel
theorem ok_1 {i : Nat} (h : i < 3) : q_ok 1 i = true := decide_eq_true (by rw [cn_1]; exact h)
theorem at_2 : q_at 2 = 9 := by decide +kernel
theorem cn_2 : q_cn 2 = 7 := by decide +kernel
theorem ok_2 {i : Nat} (h : i < 7) : q_ok 2 i = true := decide_eq_true (by rw [cn_2]; exact h)
theorem at_3 : q_at 3 = 9 := by decide +kernel
theorem cn_3 : q_cn 3 = 7 := by decide +kernel
theorem ok_3 {i : Nat} (h : i < 7) : q_ok 3 i = true := decide_eq_true (by rw [cn_3]; exact h)
theorem at_4 : q_at 4 = 9 := by decide +kernel
theorem cn_4 : q_cn 4 = 7 := by decide +kernel
theorem ok_4 {i : Nat} (h : i < 7) : q_ok 4 i = true := decide_eq_true (by rw [cn_4]; exact h)
theorem at_5 : q_at 5 = 9 := by decide +kernel
theorem cn_5 : q_cn 5 = 7 := by decide +kernel
theorem ok_5 {i : Nat} (h : i < 7) : q_ok 5 i = true := decide_eq_true (by rw [cn_5]; exact h)
theorem at_6 : q_at 6 = 9 := by decide +kernel
theorem cn_6 : q_cn 6 = 1 := by decide +kernel
theorem ok_6 {i : Nat} (h : i < 1) : q_ok 6 i = true := decide_eq_true (by rw [cn_6]; exact h)
theorem at_7 : q_at 7 = 9 := by decide +kernel
theorem cn_7 : q_cn 7 = 1 := by decide +kernel
theorem ok_7 {i : Nat} (h : i < 1) : q_ok 7 i = true := decide_eq_true (by rw [cn_7]; exact h)
theorem at_8 : q_at 8 = 9 := by decide +kernel
theorem cn_8 : q_cn 8 = 8 := by decide +kernel
theorem ok_8 {i : Nat} (h : i < 8) : q_ok 8 i = true := decide_eq_true (by rw [cn_8]; exact h)
theorem at_9 : q_at 9 = 9 := by decide +kernel
theorem cn_9 : q_cn 9 = 8 := by decide +kernel
theorem ok_9 {i : Nat} (h : i < 8) : q_ok 9 i = true := decide_eq_true (by rw [cn_9]; exact h)
theorem at_10 : q_at 10 = 9 := by decide +kernel
theorem cn_10 : q_cn 10 = 2 := by decide +kernel
theorem ok_10 {i : Nat} (h : i < 2) : q_ok 10 i = true := decide_eq_true (by rw [cn_10]; exact h)
theorem at_20 : q_at 20 = 6 := by decide +kernel
theorem cn_20 : q_cn 20 = 3 := by decide +kernel
theorem ok_20 {i : Nat} (h : i < 3) : q_ok 20 i = true := decide_eq_true (by rw [cn_20]; exact h)
theorem at_21 : q_at 21 = 3 := by decide +kernel
theorem al_21 (i : Nat) : q_al 21 i = 6 := by unfold q_al; rw [if_neg (by decide)]; decide +kernel
theorem cn_21 : q_cn 21 = 1 := by decide +kernel
theorem ok_21 {i : Nat} (h : i < 1) : q_ok 21 i = true := decide_eq_true (by rw [cn_21]; exact h)
theorem at_22 : q_at 22 = 4 := by decide +kernel
theorem al_22 (i : Nat) : q_al 22 i = 8 := by unfold q_al; rw [if_neg (by decide)]; decide +kernel
theorem cn_22 : q_cn 22 = 1 := by decide +kernel
theorem ok_22 {i : Nat} (h : i < 1) : q_ok 22 i = true := decide_eq_true (by rw [cn_22]; exact h)
theorem at_23 : q_at 23 = 5 := by decide +kernel
theorem al_23 (i : Nat) : q_al 23 i = 8 := by unfold q_al; rw [if_neg (by decide)]; decide +kernel
theorem cn_23 : q_cn 23 = 1 := by decide +kernel
theorem ok_23 {i : Nat} (h : i < 1) : q_ok 23 i = true := decide_eq_true (by rw [cn_23]; exact h)
theorem at_30 : q_at 30 = 0 := by decide +kernel
theorem al_30 (i : Nat) : q_al 30 i = 48 := by unfold q_al; rw [if_neg (by decide)]; decide +kernel
theorem cn_30 : q_cn 30 = 6 := by decide +kernel
theorem ok_30 {i : Nat} (h : i < 6) : q_ok 30 i = true := decide_eq_true (by rw [cn_30]; exact h)
theorem at_31 : q_at 31 = 0 := by decide +kernel
theorem al_31 (i : Nat) : q_al 31 i = 40 := by unfold q_al; rw [if_neg (by decide)]; decide +kernel
theorem cn_31 : q_cn 31 = 6 := by decide +kernel
theorem ok_31 {i : Nat} (h : i < 6) : q_ok 31 i = true := decide_eq_true (by rw [cn_31]; exact h)
theorem at_32 : q_at 32 = 0 := by decide +kernel
theorem al_32 (i : Nat) : q_al 32 i = 40 := by unfold q_al; rw [if_neg (by decide)]; decide +kernel
theorem cn_32 : q_cn 32 = 8 := by decide +kernel
theorem ok_32 {i : Nat} (h : i < 8) : q_ok 32 i = true := decide_eq_true (by rw [cn_32]; exact h)
theorem at_33 : q_at 33 = 0 := by decide +kernel
theorem cn_33 : q_cn 33 = 3 := by decide +kernel
theorem ok_33 {i : Nat} (h : i < 3) : q_ok 33 i = true := decide_eq_true (by rw [cn_33]; exact h)
theorem at_34 : q_at 34 = 0 := by decide +kernel
theorem al_34 (i : Nat) : q_al 34 i = 8 := by unfold q_al; rw [if_neg (by decide)]; decide +kernel
theorem cn_34 : q_cn 34 = 1 := by decide +kernel
theorem ok_34 {i : Nat} (h : i < 1) : q_ok 34 i = true := decide_eq_true (by rw [cn_34]; exact h)
theorem at_35 : q_at 35 = 0 := by decide +kernel
theorem al_35 (i : Nat) : q_al 35 i = 9 := by unfold q_al; rw [if_neg (by decide)]; decide +kernel
theorem cn_35 : q_cn 35 = 1 := by decide +kernel
theorem ok_35 {i : Nat} (h : i < 1) : q_ok 35 i = true := decide_eq_true (by rw [cn_35]; exact h)
theorem at_36 : q_at 36 = 0 := by decide +kernel
theorem al_36 (i : Nat) : q_al 36 i = 6 := by unfold q_al; rw [if_neg (by decide)]; decide +kernel
theorem cn_36 : q_cn 36 = 1 := by decide +kernel
theorem ok_36 {i : Nat} (h : i < 1) : q_ok 36 i = true := decide_eq_true (by rw [cn_36]; exact h)
theorem at_37 : q_at 37 = 0 := by decide +kernel
theorem al_37 (i : Nat) : q_al 37 i = 48 := by unfold q_al; rw [if_neg (by decide)]; decide +kernel
theorem cn_37 : q_cn 37 = 7 := by decide +kernel
theorem ok_37 {i : Nat} (h : i < 7) : q_ok 37 i = true := decide_eq_true (by rw [cn_37]; exact h)
theorem at_38 : q_at 38 = 0 := by decide +kernel
theorem al_38 (i : Nat) : q_al 38 i = 48 := by unfold q_al; rw [if_neg (by decide)]; decide +kernel
theorem cn_38 : q_cn 38 = 7 := by decide +kernel
theorem ok_38 {i : Nat} (h : i < 7) : q_ok 38 i = true := decide_eq_true (by rw [cn_38]; exact h)
theorem at_39 : q_at 39 = 0 := by decide +kernel
theorem al_39 (i : Nat) : q_al 39 i = 144 := by unfold q_al; rw [if_neg (by decide)]; decide +kernel
theorem cn_39 : q_cn 39 = 7 := by decide +kernel
theorem ok_39 {i : Nat} (h : i < 7) : q_ok 39 i = true := decide_eq_true (by rw [cn_39]; exact h)
theorem at_40 : q_at 40 = 0 := by decide +kernel
theorem al_40 (i : Nat) : q_al 40 i = 96 := by unfold q_al; rw [if_neg (by decide)]; decide +kernel
theorem cn_40 : q_cn 40 = 7 := by decide +kernel
theorem ok_40 {i : Nat} (h : i < 7) : q_ok 40 i = true := decide_eq_true (by rw [cn_40]; exact h)
theorem at_41 : q_at 41 = 1 := by decide +kernel
theorem al_41 (i : Nat) : q_al 41 i = 96 := by unfold q_al; rw [if_neg (by decide)]; decide +kernel
theorem cn_41 : q_cn 41 = 7 := by decide +kernel
theorem ok_41 {i : Nat} (h : i < 7) : q_ok 41 i = true := decide_eq_true (by rw [cn_41]; exact h)
theorem at_42 : q_at 42 = 0 := by decide +kernel
theorem al_42 (i : Nat) : q_al 42 i = 4 := by unfold q_al; rw [if_neg (by decide)]; decide +kernel
theorem cn_42 : q_cn 42 = 7 := by decide +kernel
theorem ok_42 {i : Nat} (h : i < 7) : q_ok 42 i = true := decide_eq_true (by rw [cn_42]; exact h)
theorem at_43 : q_at 43 = 0 := by decide +kernel
theorem al_43 (i : Nat) : q_al 43 i = 4 := by unfold q_al; rw [if_neg (by decide)]; decide +kernel
theorem cn_43 : q_cn 43 = 7 := by decide +kernel
theorem ok_43 {i : Nat} (h : i < 7) : q_ok 43 i = true := decide_eq_true (by rw [cn_43]; exact h)
theorem at_44 : q_at 44 = 0 := by decide +kernel
theorem al_44 (i : Nat) : q_al 44 i = 4 := by unfold q_al; rw [if_neg (by decide)]; decide +kernel
theorem cn_44 : q_cn 44 = 7 := by decide +kernel
theorem ok_44 {i : Nat} (h : i < 7) : q_ok 44 i = true := decide_eq_true (by rw [cn_44]; exact h)
theorem at_45 : q_at 45 = 0 := by decide +kernel
theorem al_45 (i : Nat) : q_al 45 i = 12 := by unfold q_al; rw [if_neg (by decide)]; decide +kernel
theorem cn_45 : q_cn 45 = 7 := by decide +kernel
theorem ok_45 {i : Nat} (h : i < 7) : q_ok 45 i = true := decide_eq_true (by rw [cn_45]; exact h)
theorem at_46 : q_at 46 = 0 := by decide +kernel
theorem al_46 (i : Nat) : q_al 46 i = 12 := by unfold q_al; rw [if_neg (by decide)]; decide +kernel
theorem cn_46 : q_cn 46 = 7 := by decide +kernel
theorem ok_46 {i : Nat} (h : i < 7) : q_ok 46 i = true := decide_eq_true (by rw [cn_46]; exact h)
theorem at_47 : q_at 47 = 0 := by decide +kernel
theorem al_47 (i : Nat) : q_al 47 i = 96 := by unfold q_al; rw [if_neg (by decide)]; decide +kernel
theorem cn_47 : q_cn 47 = 1 := by decide +kernel
theorem ok_47 {i : Nat} (h : i < 1) : q_ok 47 i = true := decide_eq_true (by rw [cn_47]; exact h)
theorem at_48 : q_at 48 = 0 := by decide +kernel
theorem al_48 (i : Nat) : q_al 48 i = 48 := by unfold q_al; rw [if_neg (by decide)]; decide +kernel
theorem cn_48 : q_cn 48 = 1 := by decide +kernel
theorem ok_48 {i : Nat} (h : i < 1) : q_ok 48 i = true := decide_eq_true (by rw [cn_48]; exact h)
theorem at_49 : q_at 49 = 0 := by decide +kernel
theorem al_49 (i : Nat) : q_al 49 i = 48 := by unfold q_al; rw [if_neg (by decide)]; decide +kernel
theorem cn_49 : q_cn 49 = 1 := by decide +kernel
theorem ok_49 {i : Nat} (h : i < 1) : q_ok 49 i = true := decide_eq_true (by rw [cn_49]; exact h)
theorem at_50 : q_at 50 = 0 := by decide +kernel
theorem al_50 (i : Nat) : q_al 50 i = 48 := by unfold q_al; rw [if_neg (by decide)]; decide +kernel
theorem cn_50 : q_cn 50 = 1 := by decide +kernel
theorem ok_50 {i : Nat} (h : i < 1) : q_ok 50 i = true := decide_eq_true (by rw [cn_50]; exact h)
theorem at_51 : q_at 51 = 0 := by decide +kernel
theorem al_51 (i : Nat) : q_al 51 i = 0 := by unfold q_al; rw [if_neg (by decide)]; decide +kernel
theorem cn_51 : q_cn 51 = 1 := by decide +kernel
theorem ok_51 {i : Nat} (h : i < 1) : q_ok 51 i = true := decide_eq_true (by rw [cn_51]; exact h)
theorem at_52 : q_at 52 = 0 := by decide +kernel
theorem al_52 (i : Nat) : q_al 52 i = 48 := by unfold q_al; rw [if_neg (by decide)]; decide +kernel
theorem cn_52 : q_cn 52 = 8 := by decide +kernel
theorem ok_52 {i : Nat} (h : i < 8) : q_ok 52 i = true := decide_eq_true (by rw [cn_52]; exact h)
theorem at_53 : q_at 53 = 1 := by decide +kernel
theorem al_53 (i : Nat) : q_al 53 i = 48 := by unfold q_al; rw [if_neg (by decide)]; decide +kernel
theorem cn_53 : q_cn 53 = 8 := by decide +kernel
theorem ok_53 {i : Nat} (h : i < 8) : q_ok 53 i = true := decide_eq_true (by rw [cn_53]; exact h)
theorem al_20 (i : Nat) : q_al 20 i = q_slen i := rfl
theorem al_33 (i : Nat) : q_al 33 i = q_slen i := rfl
