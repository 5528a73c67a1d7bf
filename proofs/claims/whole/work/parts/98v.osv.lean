/-! alarm: what is told. -/
theorem shP_0 {v : qB} : ∀ k, k ≤ 4 → shP v (nI 0) k = v
  | 0, _ => rfl
  | k + 1, h => by
    have hk : k = 0 ∨ k = 1 ∨ k = 2 ∨ k = 3 := by omega
    have z : ¬ (((nI 0) >>> (nI k &&& 31)) &&& nI 1) = nI 1 := by
      rcases hk with rfl | rfl | rfl | rfl <;> decide +kernel
    rw [shP_n z]
    exact shP_0 k (by omega)
theorem Rel_frac {n : Nat} {u : qM} {A B : Int64} (h : Rel n u) : Rel n (q_sl (q_sl (q_sl (q_sl u 0 0 17 A) 0 0 18 B) 11 0 4 A) 11 0 5 B) := by
  have g : Rel (n + 1) u := h.succ
  obtain ⟨h0, h1, h2, h3, h4, h5, h6, h7, h8⟩ := h
  obtain ⟨a1, a2, a3, a4, a5⟩ := h0
  refine ⟨⟨a1, a2, ?_, ?_, a5⟩, h1, h2, h3, h4, h5, h6, h7, ?_⟩
  · rw [sl_s (by decide), sl_e, sl_k (by decide), sl_k (by decide), sl_s (by decide), sl_e]
  · rw [sl_e, sl_k (by decide), sl_k (by decide), sl_e]
  · obtain ⟨b1, b2, b3, b4⟩ := h8
    refine ⟨b1, b2, ?_, ?_⟩
    · rw [sl_s (by decide), sl_s (by decide), sl_k (by decide), sl_k (by decide), sl_k (by decide), sl_k (by decide), sl_k (by decide), sl_k (by decide)]
      exact b3
    · intro q
      rw [sl_k (by decide), sl_k (by decide), sl_k (by decide), sl_k (by decide)]
      exact b4 q
theorem Km.frac {u t : qM} {A B : Int64} (h : Km u t) : Km (q_sl (q_sl u 11 0 4 A) 11 0 5 B) (q_sl (q_sl t 11 0 4 A) 11 0 5 B) := by
  refine ⟨h.1, h.2.1, fun a q => ?_⟩
  have e := h.2.2 a q
  by_cases z : a = 11
  · subst z
    funext i s
    by_cases y : i = 0 ∧ s = 5
    · rw [y.1, y.2, sl_e, sl_e]
    · by_cases y2 : i = 0 ∧ s = 4
      · have e4 : ∀ w : qM, (q_sl (q_sl w 11 0 4 A) 11 0 5 B).2.1 11 0 4 = A := fun w => (sl_s (by decide)).trans sl_e
        rw [y2.1, y2.2, e4, e4]
      · have e5 : ∀ w : qM, (q_sl (q_sl w 11 0 4 A) 11 0 5 B).2.1 11 i s = w.2.1 11 i s := fun w => (if_neg (fun p => y ⟨p.2.1, p.2.2⟩)).trans (if_neg (fun p => y2 ⟨p.2.1, p.2.2⟩))
        rw [e5, e5]
        exact congrFun (congrFun e i) s
  · rw [sl_k z, sl_k z, sl_k z, sl_k z]
    exact e
