/-! fit: a trial. -/
def hib (a i s : Nat) : Prop := i = 0 ∧ ((a = 110 ∧ 8 ≤ s) ∨ ((a = 111 ∨ a = 112) ∧ 384 ≤ s))
/-- what a trial leaves of the reference: all boards but the trial's, and all that the relation looks at -/
def Km (u t : qM) : Prop := (∀ a i s, isMK a = false → ¬ scr a i s → ¬ hib a i s → t.1 a i s = u.1 a i s) ∧ (∀ c, c < 8 → c ≠ 6 → mB t c = mB u c) ∧ (∀ a, a ≠ 119 → t.2.1 a = u.2.1 a)
theorem Km.rf {u : qM} : Km u u := ⟨fun _ _ _ _ _ _ => rfl, fun _ _ _ => rfl, fun _ _ => rfl⟩
theorem Km.tr {a b c : qM} (h : Km a b) (h2 : Km b c) : Km a c := ⟨fun x i s q1 q2 q3 => (h2.1 x i s q1 q2 q3).trans (h.1 x i s q1 q2 q3), fun x q1 q2 => (h2.2.1 x q1 q2).trans (h.2.1 x q1 q2), fun x q => (h2.2.2 x q).trans (h.2.2 x q)⟩
theorem Km.si {u : qM} {a i s : Nat} {x : Int32} (h : isMK a = false) (h2 : ∀ j t, a = a → j = i → t = s → scr a j t) : Km u (q_si u a i s x) := ⟨fun b j t _ q2 _ => si_n (fun z => q2 (by rw [z.1]; exact h2 j t rfl z.2.1 z.2.2)), fun c _ _ => mB_o h, fun _ _ => rfl⟩
theorem Km.b77 {u : qM} {x : Int32} : Km u (q_si u 77 0 6 x) := ⟨fun b j t q _ _ => congrFun (congrFun (si_k (show b ≠ 77 from fun z => by rw [z] at q; cases q)) j) t, fun c _ q => mV_0_8 q, fun _ _ => rfl⟩
theorem Km.b74 {u : qM} {x : Int32} : Km u (q_si u 74 0 6 x) := ⟨fun b j t q _ _ => congrFun (congrFun (si_k (show b ≠ 74 from fun z => by rw [z] at q; cases q)) j) t, fun c _ q => mV_0_0 q, fun _ _ => rfl⟩
theorem Km.sl {u : qM} {s : Nat} {x : Int64} : Km u (q_sl u 119 0 s x) := ⟨fun _ _ _ _ _ _ => rfl, fun c _ _ => mB_sl, fun a q => sl_k q⟩
/-- no boat and no gauge on the trial's board -/
def N6 (u : qM) : Prop := ∀ k, k < 8 → ¬ u.1 105 0 k = nI 6 ∧ ¬ u.1 108 0 k = nI 6
theorem scr_no {a i s : Nat} (h : a = 105 ∨ a = 108 ∨ a = 66 ∨ a = 67 ∨ a = 91 ∨ a = 96) (h2 : a = 91 → s < 288) : ¬ scr a i s := by
  unfold scr
  omega
theorem N6.km {u t : qM} (h : N6 u) (hk : Km u t) : N6 t := fun k q => by
  rw [hk.1 105 0 k rfl (scr_no (by decide) (fun z => by cases z)) (fun z => by unfold hib at z; omega), hk.1 108 0 k rfl (scr_no (by decide) (fun z => by cases z)) (fun z => by unfold hib at z; omega)]
  exact h k q
theorem N6_Rel {n : Nat} {m : qM} (h : Rel n m) : N6 m := by
  have z9 : ¬ (-9 : Int32) = nI 6 := by decide +kernel
  refine fun k hk => ⟨fun q => ?_, fun q => ?_⟩
  · rcases h.2.2.2.2.2.1 k hk with ⟨-, z⟩ | ⟨x, c', d, hx, z1, z2, z3, z4⟩
    · rw [q] at z
      exact z9 z.symm
    · rw [q, nI_eq (by omega) (by omega)] at z3
      omega
  · rcases h.2.2.2.2.2.2.1 k hk with ⟨-, z⟩ | ⟨x, c', f, n', hx, z1, z2, z3, z4⟩
    · rw [q] at z
      exact z9 z.symm
    · rw [q, nI_eq (by omega) (by omega)] at z3
      omega
theorem FG.km {m m' : qM} (h : FG 6 m m') (h2 : NOB 6 m m') (h3 : N6 m) : Km m m' := by
  refine ⟨fun a i s q1 q2 q3 => ?_, fun c hc hn => ?_, fun a _ => by rw [h.2]⟩
  · by_cases z : a < 101 ∨ 104 < a
    · by_cases z2 : i = 0 ∧ (a = 106 ∨ a = 110 ∨ a = 111 ∨ a = 112)
      · obtain ⟨rfl, z2⟩ := z2
        rcases z2 with rfl | rfl | rfl | rfl
        · by_cases y : s < 8
          · exact h2.1 s y (h3 s y).1
          · exact h.1 106 0 s (by omega) (by omega)
        · have y : s < 8 := by unfold hib at q3; omega
          exact (h2.2 s y (h3 s y).2).1
        · have y : s < 384 := by unfold hib at q3; omega
          have r := ((h2.2 (s / 48) (by omega) (h3 _ (by omega)).2).2 (s % 48) (by omega)).1
          rwa [show 48 * (s / 48) + s % 48 = s by omega] at r
        · have y : s < 384 := by unfold hib at q3; omega
          have r := ((h2.2 (s / 48) (by omega) (h3 _ (by omega)).2).2 (s % 48) (by omega)).2
          rwa [show 48 * (s / 48) + s % 48 = s by omega] at r
      · refine h.1 a i s z (fun y => ?_)
        have y2 : a = 81 ∨ a = 82 ∨ a = 83 ∨ a = 92 ∨ a = 93 ∨ a = 94 := by omega
        rcases y2 with rfl | rfl | rfl | rfl | rfl | rfl <;> cases q1
    · exact absurd (show scr a i s by unfold scr; omega) q2
  · exact mB_pt (fun a ha => h.1 a 0 c (by omega) (by omega)) (fun a s ha hs => h.1 a 0 _ (by omega) (by omega)) (fun a s ha hs => h.1 a 0 _ (by omega) (by omega)) (fun s hs => h.1 93 0 _ (by omega) (by omega)) (fun a s ha hs => h.1 a 0 _ (by omega) (by omega))
/-- as Km, but the board of the gates is free too -/
def Kg (u t : qM) : Prop := (∀ a i s, isMK a = false → ¬ scr a i s → ¬ hib a i s → t.1 a i s = u.1 a i s) ∧ (∀ c, c < 6 → mB t c = mB u c) ∧ (∀ a, a ≠ 119 → t.2.1 a = u.2.1 a)
theorem Rel_kg {n : Nat} {m t : qM} (hk : Kg m t) (h : Rel n m) : Rel n t := by
  obtain ⟨hI, kB, kL⟩ := hk
  have hL : ∀ a s, a = 0 ∨ a = 10 ∨ a = 11 → t.2.1 a 0 s = m.2.1 a 0 s := fun a s q => by rw [kL a (by omega)]
  have T : ∀ a, isMK a = false → (∀ i s, ¬ scr a i s) → a ≠ 110 → a ≠ 111 → a ≠ 112 → t.1 a = m.1 a := fun a q0 q q1 q2 q3 => funext (fun i => funext (fun s => hI a i s q0 (q i s) (fun z => by unfold hib at z; omega)))
  have TI : ∀ a i, isMK a = false → (∀ s, ¬ scr a i s) → a ≠ 110 → a ≠ 111 → a ≠ 112 → t.1 a i = m.1 a i := fun a i q0 q q1 q2 q3 => funext (fun s => hI a i s q0 (q s) (fun z => by unfold hib at z; omega))
  obtain ⟨h0, h1, h2, h3, h4, h5, h6, h7, h8⟩ := h
  have hc : ∀ b, b < 6 → cB t b = cB m b := fun b hb => by apply cB_ext <;> exact TI _ b rfl (fun s => by unfold scr; omega) (by decide) (by decide) (by decide)
  have hm : ∀ b, b < 6 → mB t b = mB m b := fun b hb => kB b hb
  have t2 : ∀ b, b < 6 → t.1 2 b 10 = m.1 2 b 10 := fun b hb => hI 2 b 10 rfl (by unfold scr; omega) (by unfold hib; omega)
  have t5 : ∀ b, b < 6 → t.1 5 b = m.1 5 b := fun b hb => TI 5 b rfl (fun s => by unfold scr; omega) (by decide) (by decide) (by decide)
  have t45 : ∀ b, b < 6 → t.1 45 b = m.1 45 b := fun b hb => TI 45 b rfl (fun s => by unfold scr; omega) (by decide) (by decide) (by decide)
  have t46 : ∀ b, b < 6 → t.1 46 b = m.1 46 b := fun b hb => TI 46 b rfl (fun s => by unfold scr; omega) (by decide) (by decide) (by decide)
  have e11 : ∀ s, s = 0 ∨ s = 2 ∨ s = 55 ∨ s = 56 ∨ s = 57 ∨ s = 61 → t.1 11 0 s = m.1 11 0 s := fun s q => hI 11 0 s rfl (by unfold scr; omega) (by unfold hib; omega)
  have D : ∀ a, a = 66 ∨ a = 67 ∨ a = 69 ∨ a = 70 ∨ a = 96 ∨ a = 97 ∨ a = 98 ∨ a = 105 ∨ a = 106 ∨ a = 107 ∨ a = 108 ∨ a = 109 ∨ a = 122 ∨ a = 123 ∨ a = 124 ∨ a = 33 ∨ a = 30 ∨ a = 31 ∨ a = 8 ∨ a = 9 ∨ a = 52 ∨ a = 53 ∨ a = 32 ∨ a = 34 → t.1 a = m.1 a := fun a q => T a (nf (fun z => by
    have := isMK_96 z
    omega)) (fun i s => by unfold scr; omega) (by omega) (by omega) (by omega)
  refine ⟨?_, R1_ext (by rw [D 33 (by decide)]) (D 66 (by decide)) (D 67 (by decide)) (D 30 (by decide)) h1, R2_ext (by rw [D 33 (by decide)]) (D 69 (by decide)) (D 70 (by decide)) (D 31 (by decide)) h2, R3_ext (Nat.le_refl _) hc hm t2 t5 t45 t46 (D 96 (by decide)) (D 97 (by decide)) (D 98 (by decide)) (fun s hs => hI 99 0 s rfl (by unfold scr; omega) (by unfold hib; omega)) (fun s hs => hI 100 0 s rfl (by unfold scr; omega) (by unfold hib; omega)) h3, R4_ext hc t2 t5 h4, R5_ext hc t2 (D 8 (by decide)) (D 105 (by decide)) (D 106 (by decide)) (D 107 (by decide)) h5, ?_, R7_ext (hI 0 0 14 rfl (by unfold scr; omega) (by unfold hib; omega)) (e11 61 (by decide)) (by rw [D 33 (by decide)]) (D 122 (by decide)) (D 123 (by decide)) (D 32 (by decide)) (D 34 (by decide)) (D 124 (by decide)) h7, R8_ext (TI 10 0 rfl (fun s => by unfold scr; omega) (by decide) (by decide) (by decide)) (e11 55 (by decide)) (e11 56 (by decide)) (e11 57 (by decide)) (hL 11 3 (by decide)) (funext (fun s => hL 10 s (.inr (.inl rfl)))) h8⟩
  · obtain ⟨a1, a2, a3, a4, a5⟩ := h0
    refine ⟨?_, ?_, ?_, ?_, fun i hi => ?_⟩
    · rw [e11 2 (by decide), hI 0 0 15 rfl (by unfold scr; omega) (by unfold hib; omega)]; exact a1
    · rw [e11 0 (by decide), hI 0 0 16 rfl (by unfold scr; omega) (by unfold hib; omega)]; exact a2
    · rw [hL 11 4 (by decide), hL 0 17 (by decide)]; exact a3
    · rw [hL 11 5 (by decide), hL 0 18 (by decide)]; exact a4
    · rw [hI 61 0 i rfl (by unfold scr; omega) (by unfold hib; omega), hI 36 0 i rfl (by unfold scr; omega) (by unfold hib; omega)]; exact a5 i hi
  · intro g hg
    rw [D 9 (by decide), D 108 (by decide), D 109 (by decide), D 52 (by decide), D 53 (by decide)]
    rcases h6 g hg with z | ⟨b, x, f, n', hb, z1, z2, z3, z4, z5, z6, z7, z8, z9, z10, z11, z12⟩
    · exact .inl z
    · refine .inr ⟨b, x, f, n', hb, by rw [t2 b hb]; exact z1, z2, z3, by rw [hc b hb]; exact z4, z5, z6, z7, z8, z9, z10, ?_, fun i hi => ?_⟩
      · rw [hI 110 0 g rfl (by unfold scr; omega) (by unfold hib; omega)]; exact z11
      · rw [hI 111 0 _ rfl (by unfold scr; omega) (by unfold hib; omega), hI 112 0 _ rfl (by unfold scr; omega) (by unfold hib; omega)]
        exact z12 i hi
theorem Km.kg {u t : qM} (h : Km u t) : Kg u t := ⟨h.1, fun c q => h.2.1 c (by omega) (by omega), h.2.2⟩
theorem Rel_km {n : Nat} {m t : qM} (hk : Km m t) (h : Rel n m) : Rel n t := Rel_kg hk.kg h
