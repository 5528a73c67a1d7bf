/-! gates: the best posts. -/
theorem Kg.rf {u : qM} : Kg u u := ⟨fun _ _ _ _ _ _ => rfl, fun _ _ => rfl, fun _ _ => rfl⟩
theorem Kg.tr {a b c : qM} (h : Kg a b) (h2 : Kg b c) : Kg a c := ⟨fun x i s q1 q2 q3 => (h2.1 x i s q1 q2 q3).trans (h.1 x i s q1 q2 q3), fun x q1 => (h2.2.1 x q1).trans (h.2.1 x q1), fun x q => (h2.2.2 x q).trans (h.2.2 x q)⟩
theorem Kg.b74 {u : qM} {x : Int32} : Kg u (q_si u 74 0 7 x) := ⟨fun b j t q _ _ => congrFun (congrFun (si_k (show b ≠ 74 from fun z => by rw [z] at q; cases q)) j) t, fun c q => mV_0_0 (by omega), fun _ _ => rfl⟩
theorem N6.kg {u t : qM} (h : N6 u) (hk : Kg u t) : N6 t := fun k q => by
  rw [hk.1 105 0 k rfl (scr_no (by decide) (fun z => by cases z)) (fun z => by unfold hib at z; omega), hk.1 108 0 k rfl (scr_no (by decide) (fun z => by cases z)) (fun z => by unfold hib at z; omega)]
  exact h k q
theorem Kg.eq {u t : qM} {a s : Nat} (h : Kg u t) (h2 : a = 105 ∨ a = 108 ∨ a = 66 ∨ a = 67 ∨ a = 96) : t.1 a 0 s = u.1 a 0 s := h.1 a 0 s (nf (fun z => by
  rcases h2 with rfl | rfl | rfl | rfl | rfl <;> cases z)) (scr_no (by omega) (fun z => by omega)) (fun z => by unfold hib at z; omega)
theorem Kg.td {u t : qM} {v : qB} (h : Kg u t) : tdM t v = tdM u v := by
  unfold tdM
  rw [show t.1 66 0 = u.1 66 0 from funext (fun s => h.eq (by decide)), show (fun (r i : Nat) => t.1 67 0 (48 * r + i)) = (fun r i => u.1 67 0 (48 * r + i)) from funext (fun r => funext (fun i => h.eq (by decide)))]
theorem WM7.kg {μ u t : qM} {m : Nat} (h : WM7 μ u m) (hk : Kg u t) : WM7 μ t m := by
  obtain ⟨h1, h2, h3⟩ := h
  refine ⟨h1, (hk.1 11 0 61 rfl (scr_w (by decide)) (fun z => by unfold hib at z; omega)).trans h2, fun k q => ?_⟩
  obtain ⟨L, a1, a2, a3, a4, a5, wt, a6, a7, a8⟩ := h3 k q
  exact ⟨L, a1, a2, a3, (hk.1 122 0 k rfl (scr_w (.inl rfl)) (fun z => by unfold hib at z; omega)).trans a4, fun i hi => (hk.1 123 0 _ rfl (scr_w (.inr (.inl rfl))) (fun z => by unfold hib at z; omega)).trans (a5 i hi), wt, a6, a7, (hk.1 124 0 k rfl (scr_w (.inr (.inr (.inl rfl)))) (fun z => by unfold hib at z; omega)).trans a8⟩
theorem Kg.frac {u t : qM} {A B : Int64} (h : Kg u t) : Kg (q_sl (q_sl u 11 0 4 A) 11 0 5 B) (q_sl (q_sl t 11 0 4 A) 11 0 5 B) := by
  refine ⟨h.1, h.2.1, fun a q => ?_⟩
  have e := h.2.2 a q
  by_cases z : a = 11
  · subst z
    funext i s
    by_cases y : i = 0 ∧ s = 5
    · rw [y.1, y.2, sl_e, sl_e]
    · by_cases y2 : i = 0 ∧ s = 4
      · have e4 : ∀ w : qM, (q_sl (q_sl w 11 0 4 A) 11 0 5 B).2.1 11 0 4 = A := fun w => (sl_s (by decide)).trans sl_e
        rw [y2.1, y2.2, e4, e4]
      · have e5 : ∀ w : qM, (q_sl (q_sl w 11 0 4 A) 11 0 5 B).2.1 11 i s = w.2.1 11 i s := fun w => (if_neg (fun p => y ⟨p.2.1, p.2.2⟩)).trans (if_neg (fun p => y2 ⟨p.2.1, p.2.2⟩))
        rw [e5, e5]
        exact congrFun (congrFun e i) s
  · rw [sl_k z, sl_k z, sl_k z, sl_k z]
    exact e
/-- the number of bits of a number below 16 -/
def pop (k : Nat) : Nat := k % 2 + k / 2 % 2 + k / 4 % 2 + k / 8 % 2
theorem pop_le {k : Nat} : pop k ≤ 4 := by unfold pop; omega
theorem ev_bitC {k : Nat} {u : qM} {P : Int32 → qM → Prop} (hk : k < 16) : Ev (f_J6_bitCount_0f7a4 (nI k) u) P ↔ P (nI (pop k)) u := by
  have e : ∀ j : Fin 16, (fun x => q_lt (x - ((((x : Int32).toUInt32 >>> (Int32.toUInt32 1 &&& Int32.toUInt32 31)).toInt32) &&& 1431655765)) (fun (x2 : Int32) => q_lt ((x2 &&& 858993459) + ((((x2 : Int32).toUInt32 >>> (Int32.toUInt32 2 &&& Int32.toUInt32 31)).toInt32) &&& 858993459)) (fun (x3 : Int32) => q_lt ((x3 + (((x3 : Int32).toUInt32 >>> (Int32.toUInt32 4 &&& Int32.toUInt32 31)).toInt32)) &&& 252645135) (fun (x4 : Int32) => q_lt (x4 + (((x4 : Int32).toUInt32 >>> (Int32.toUInt32 8 &&& Int32.toUInt32 31)).toInt32)) (fun (x5 : Int32) => q_lt (x5 + (((x5 : Int32).toUInt32 >>> (Int32.toUInt32 16 &&& Int32.toUInt32 31)).toInt32)) (fun (x6 : Int32) => x6 &&& 63)))))) (nI j.1) = nI (pop j.1) := by decide +kernel
  have e2 : f_J6_bitCount_0f7a4 (nI k) u = some (nI (pop k), u) := congrArg (fun x => some (x, u)) (e ⟨k, hk⟩)
  rw [e2]
  exact ev_so
theorem bits_s {x1 : Int32} {n : Nat} {x2 x3 : Int32} {u : qM} {e : Int32 → qM → Option (Int32 × qM)} (h : ¬ 4 ≤ x3) : L_X11_bits_4 x1 (n + 1) x2 x3 u e = L_X11_bits_4 x1 n (x2 + ((x1 >>> (x3 &&& 31)) &&& 1)) (x3 + 1) u e := if_neg h
theorem bits_e {x1 : Int32} {n : Nat} {x2 x3 : Int32} {u : qM} {e : Int32 → qM → Option (Int32 × qM)} (h : 4 ≤ x3) : L_X11_bits_4 x1 (n + 1) x2 x3 u e = e x2 u := if_pos h
theorem ev_bits {k : Nat} {u : qM} {P : Int32 → qM → Prop} (hk : k < 16) : Ev (f_X11_bits (nI k) u) P ↔ P (nI (pop k)) u := by
  have e : ∀ j : Fin 16, (fun x : Int32 => 0 + ((x >>> ((0 : Int32) &&& 31)) &&& 1) + ((x >>> ((0 + 1 : Int32) &&& 31)) &&& 1) + ((x >>> ((0 + 1 + 1 : Int32) &&& 31)) &&& 1) + ((x >>> ((0 + 1 + 1 + 1 : Int32) &&& 31)) &&& 1)) (nI j.1) = nI (pop j.1) := by decide +kernel
  have e2 : f_X11_bits (nI k) u = some (nI (pop k), u) := by
    show L_X11_bits_4 (nI k) (3995 + 1 + 1 + 1 + 1 + 1) 0 0 u (fun x6 u2 => some (x6, u2)) = _
    rw [bits_s (by decide +kernel), bits_s (by decide +kernel), bits_s (by decide +kernel), bits_s (by decide +kernel), bits_e (by decide +kernel)]
    exact congrArg (fun x => some (x, u)) (e ⟨k, hk⟩)
  rw [e2]
  exact ev_so
/-- the best of the numbers below x -/
def gb (f : Nat → Nat) : Nat → Nat
  | 0 => 0
  | x + 1 => if f x < f (gb f x) ∨ (f x = f (gb f x) ∧ pop x < pop (gb f x)) then x else gb f x
theorem gb_y {f : Nat → Nat} {x : Nat} (h : f x < f (gb f x) ∨ (f x = f (gb f x) ∧ pop x < pop (gb f x))) : gb f (x + 1) = x := if_pos h
theorem gb_n {f : Nat → Nat} {x : Nat} (h : ¬ (f x < f (gb f x) ∨ (f x = f (gb f x) ∧ pop x < pop (gb f x)))) : gb f (x + 1) = gb f x := if_neg h
theorem gb_le {f : Nat → Nat} : ∀ x, gb f x ≤ x
  | 0 => Nat.le_refl _
  | x + 1 => by
    have := gb_le (f := f) x
    by_cases h : f x < f (gb f x) ∨ (f x = f (gb f x) ∧ pop x < pop (gb f x))
    · rw [gb_y h]; omega
    · rw [gb_n h]; omega
theorem gb_lt {f : Nat → Nat} {x : Nat} (h : 1 ≤ x) : gb f x < x := by
  obtain ⟨x, rfl⟩ : ∃ x', x = x' + 1 := ⟨x - 1, by omega⟩
  have := gb_le (f := f) x
  by_cases h : f x < f (gb f x) ∨ (f x = f (gb f x) ∧ pop x < pop (gb f x))
  · rw [gb_y h]; omega
  · rw [gb_n h]; omega
theorem gb_1 {f : Nat → Nat} : gb f 1 = 0 := by
  have := gb_lt (f := f) (x := 1) (Nat.le_refl _)
  omega
theorem shl4 {pc : Nat} (h : pc ≤ 4) : ∃ N, 1 ≤ N ∧ N ≤ 16 ∧ nI 1 <<< (nI pc &&& 31) = nI N := by
  have e : ∀ j : Fin 5, nI 1 <<< (nI j.1 &&& 31) = nI (2 ^ j.1) := by decide +kernel
  refine ⟨2 ^ pc, Nat.one_le_two_pow, ?_, e ⟨pc, by omega⟩⟩
  have : pc = 0 ∨ pc = 1 ∨ pc = 2 ∨ pc = 3 ∨ pc = 4 := by omega
  rcases this with rfl | rfl | rfl | rfl | rfl <;> decide
