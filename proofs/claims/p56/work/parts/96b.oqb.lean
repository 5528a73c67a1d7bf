theorem tmF_le {v : qB} (h : tmF v = false) {c : Nat} (hc : c < nN v) : (rivF v (rcN v) c).toInt ≤ 100000 := by
  by_cases q : rivF v (rcN v) c ≤ 100000
  · rw [x_le, x100] at q
    exact q
  · rw [tmF_t hc q] at h
    cases h
theorem st0_s {v : qB} {s : Nat} (q : s ≠ 4) : st0 v 0 s = v 0 s := if_neg q
theorem WF_st0 {n : Nat} {v : qB} (hw : WF n v) (ht : tmF v = false) : WF n (st0 v) := by
  have hN := nN_48 hw.gd
  have e1 : nN (st0 v) = nN v := nN_s (st0_s (by decide)) (st0_s (by decide))
  have hrc : rcN v ≤ 4 := by
    obtain ⟨⟨k, wd, hg, st, p, d, rc, pc, a0, a1, a2, a3, a4, a5, a6, a7, a8, a9, b0, b1, b2, b3, b4, b5, b6, b7, -⟩, -⟩ := hw
    unfold rcN
    rw [b6, nI_clamp (by omega)]
    exact b7
  refine ⟨?_, ⟨fun c => hw.2.1.1 c, fun c => ?_, fun s => ?_, fun s => hw.2.1.2.2.2.1 s, fun k hk => ?_⟩, ⟨fun k hk => ?_, fun k hk => ?_⟩⟩
  · unfold WF0
    rw [st0_s (s := 0) (by decide), st0_s (s := 1) (by decide), st0_s (s := 2) (by decide), st0_s (s := 3) (by decide), st0_s (s := 8) (by decide), st0_s (s := 9) (by decide), st0_s (s := 12) (by decide), st0_s (s := 13) (by decide), st0_s (s := 6) (by decide), st0_s (s := 10) (by decide), st0_s (s := 11) (by decide)]
    exact hw.1
  · show 0 ≤ (if c < nN v then rivF v (rcN v) c else v 2 c).toInt ∧ (if c < nN v then rivF v (rcN v) c else v 2 c).toInt ≤ 100000
    by_cases q : c < nN v
    · rw [if_pos q]
      exact ⟨(riv_nn hw hN c (rcN v) (Nat.le_refl _) hrc).1, tmF_le ht q⟩
    · rw [if_neg q]
      exact hw.2.1.2.1 c
  · show -100000 ≤ (if s < 2 * nN v then lfl v s else v 4 s).toInt ∧ (if s < 2 * nN v then lfl v s else v 4 s).toInt ≤ 100000
    by_cases q : s < 2 * nN v
    · rw [if_pos q]
      exact lf_bd hw hN q
    · rw [if_neg q]
      exact hw.2.1.2.2.1 s
  · rw [st0_s (by decide)] at hk
    exact hw.2.1.2.2.2.2 k hk
  · rw [st0_s (by decide)] at hk
    rw [e1]
    exact hw.2.2.1 k hk
  · rw [st0_s (by decide)] at hk
    rw [e1]
    exact hw.2.2.2 k hk
theorem WF_rim {n : Nat} {x : Int32} {v : qB} (hw : WF n v) (y : Nat) : WF n (rimF x v y) := by
  induction y with
  | zero => exact hw
  | succ y ih => exact WF_water (WF_any ih (.inr (.inl rfl))) (led_bd _ _)
theorem WF_stp {n st : Nat} {v : qB} (hw : WF n v) (hs : st ≤ n + 1) : WF (n + 1) (bset v 0 3 (nI st)) := by
  have e : ∀ i, i ≠ 3 → bset v 0 3 (nI st) 0 i = v 0 i := fun i q => bs_s q
  refine ⟨?_, WF1_t (e 12 (by decide)) (bs_t (by decide)) (bs_t (by decide)) (bs_t (by decide)) (bs_t (by decide)) (bs_t (by decide)) hw.2.1, ?_⟩
  · obtain ⟨k, wd, hg, st', p, d, rc, pc, a0, a1, a2, a3, a4, a5, a6, a7, a8, a9, ar⟩ := hw.1
    refine ⟨k, wd, hg, st, p, d, rc, pc, (e 0 (by decide)).trans a0, a1, (e 1 (by decide)).trans a2, a3, a4, (e 2 (by decide)).trans a5, a6, a7, bs_e, hs, ?_⟩
    rw [e 8 (by decide), e 9 (by decide), e 12 (by decide), e 13 (by decide), e 6 (by decide), e 10 (by decide), e 11 (by decide)]
    exact ar
  · unfold WF2
    rw [e 12 (by decide), e 13 (by decide), nN_s (e 1 (by decide)) (e 2 (by decide)), bs_t (by decide), bs_t (by decide)]
    exact hw.2.2
theorem WF_nxt {n : Nat} {v : qB} {t : Option Int32} (hw : WF n v) (ht : tmF v = false) : WF (n + 1) (nxt t v) := by
  obtain ⟨st, h1, h2⟩ : ∃ st, v 0 3 = nI st ∧ st ≤ n := by
    obtain ⟨⟨k, wd, hg, st, p, d, rc, pc, a0, a1, a2, a3, a4, a5, a6, a7, a8, a9, -⟩, -⟩ := hw
    exact ⟨st, a8, a9⟩
  rw [nxt_A, h1, nI_add]
  have hA : WF n (nxtA t v) := by
    cases t with
    | none => exact WF_st0 hw ht
    | some x => exact WF_rim (WF_st0 hw ht) _
  exact WF_stp hA (by omega)
theorem nxt_s {v : qB} {t : Option Int32} {s : Nat} (h3 : s ≠ 3) (h4 : s ≠ 4) (h5 : s ≠ 5) : nxt t v 0 s = v 0 s := by
  rw [nxt_A, bs_s h3]
  cases t with
  | none => exact st0_s h4
  | some x => exact (rim_0 h5).trans (st0_s h4)
theorem nxt_N {v : qB} {t : Option Int32} : nN (nxt t v) = nN v ∧ nW (nxt t v) = nW v ∧ nH (nxt t v) = nH v := ⟨nN_s (nxt_s (by decide) (by decide) (by decide)) (nxt_s (by decide) (by decide) (by decide)), nW_s (nxt_s (by decide) (by decide) (by decide)), nH_s (nxt_s (by decide) (by decide) (by decide))⟩
