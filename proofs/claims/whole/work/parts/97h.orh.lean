/-! mirror, the call. -/
theorem mB_pt {u u' : qM} {x : Nat} (g1 : ∀ a, (74 ≤ a ∧ a ≤ 86) ∨ a = 89 → u'.1 a 0 x = u.1 a 0 x) (g2 : ∀ a s, a = 87 ∨ a = 88 ∨ a = 90 → s < 4 → u'.1 a 0 (4 * x + s) = u.1 a 0 (4 * x + s)) (g3 : ∀ a s, a = 91 ∨ a = 92 → s < 48 → u'.1 a 0 (48 * x + s) = u.1 a 0 (48 * x + s)) (g4 : ∀ s, s < 144 → u'.1 93 0 (144 * x + s) = u.1 93 0 (144 * x + s)) (g5 : ∀ a s, a = 94 ∨ a = 95 → s < 96 → u'.1 a 0 (96 * x + s) = u.1 a 0 (96 * x + s)) : mB u' x = mB u x := by
  funext t s
  rcases (show t = 0 ∨ t = 1 ∨ t = 2 ∨ t = 3 ∨ t = 4 ∨ t = 5 ∨ t = 6 ∨ t = 7 ∨ t = 8 ∨ 9 ≤ t by omega) with rfl | rfl | rfl | rfl | rfl | rfl | rfl | rfl | rfl | ht
  · rcases (show s = 0 ∨ s = 1 ∨ s = 2 ∨ s = 3 ∨ s = 4 ∨ s = 5 ∨ s = 6 ∨ s = 7 ∨ s = 8 ∨ s = 9 ∨ s = 10 ∨ s = 11 ∨ s = 12 ∨ s = 13 ∨ 14 ≤ s by omega) with rfl | rfl | rfl | rfl | rfl | rfl | rfl | rfl | rfl | rfl | rfl | rfl | rfl | rfl | hs
    · exact g1 74 (by omega)
    · exact g1 75 (by omega)
    · exact g1 76 (by omega)
    · exact g1 81 (by omega)
    · exact g1 82 (by omega)
    · exact g1 83 (by omega)
    · exact g1 84 (by omega)
    · exact g1 85 (by omega)
    · exact g1 77 (by omega)
    · exact g1 78 (by omega)
    · exact g1 79 (by omega)
    · exact g1 80 (by omega)
    · exact g1 86 (by omega)
    · exact g1 89 (by omega)
    · obtain ⟨z, rfl⟩ : ∃ z, s = z + 14 := ⟨s - 14, by omega⟩
      rfl
  · show (if s < 48 then u'.1 91 0 (48 * x + s) else 0) = (if s < 48 then u.1 91 0 (48 * x + s) else 0)
    by_cases q : s < 48
    · rw [if_pos q, if_pos q]
      exact g3 91 s (by omega) q
    · rw [if_neg q, if_neg q]
  · show (if s < 48 then u'.1 92 0 (48 * x + s) else 0) = (if s < 48 then u.1 92 0 (48 * x + s) else 0)
    by_cases q : s < 48
    · rw [if_pos q, if_pos q]
      exact g3 92 s (by omega) q
    · rw [if_neg q, if_neg q]
  · show (if s < 144 then u'.1 93 0 (144 * x + s) else 0) = (if s < 144 then u.1 93 0 (144 * x + s) else 0)
    by_cases q : s < 144
    · rw [if_pos q, if_pos q]
      exact g4 s q
    · rw [if_neg q, if_neg q]
  · show (if s < 96 then u'.1 94 0 (96 * x + s) else 0) = (if s < 96 then u.1 94 0 (96 * x + s) else 0)
    by_cases q : s < 96
    · rw [if_pos q, if_pos q]
      exact g5 94 s (by omega) q
    · rw [if_neg q, if_neg q]
  · show (if s < 96 then u'.1 95 0 (96 * x + s) else 0) = (if s < 96 then u.1 95 0 (96 * x + s) else 0)
    by_cases q : s < 96
    · rw [if_pos q, if_pos q]
      exact g5 95 s (by omega) q
    · rw [if_neg q, if_neg q]
  · show (if s < 4 then u'.1 90 0 (4 * x + s) else 0) = (if s < 4 then u.1 90 0 (4 * x + s) else 0)
    by_cases q : s < 4
    · rw [if_pos q, if_pos q]
      exact g2 90 s (by omega) q
    · rw [if_neg q, if_neg q]
  · show (if s < 4 then u'.1 87 0 (4 * x + s) else 0) = (if s < 4 then u.1 87 0 (4 * x + s) else 0)
    by_cases q : s < 4
    · rw [if_pos q, if_pos q]
      exact g2 87 s (by omega) q
    · rw [if_neg q, if_neg q]
  · show (if s < 4 then u'.1 88 0 (4 * x + s) else 0) = (if s < 4 then u.1 88 0 (4 * x + s) else 0)
    by_cases q : s < 4
    · rw [if_pos q, if_pos q]
      exact g2 88 s (by omega) q
    · rw [if_neg q, if_neg q]
  · obtain ⟨z, rfl⟩ : ∃ z, t = z + 9 := ⟨t - 9, by omega⟩
    rfl

theorem mB_mir {u u' : qM} {b w h rc : Nat} {v : qB} (h1 : 2 ≤ w) (h2 : w ≤ 8) (hN : w * h ≤ 48) (hW : nW v = w) (hNN : nN v = w * h) (hrc : rcN v = rc) (hrc4 : rc ≤ 4) (hv : mB u b = v) (r1 : ∀ a, ((74 ≤ a ∧ a ≤ 86) ∨ a = 89) ∧ a ≠ 79 → u'.1 a 0 b = u.1 a 0 b) (r10 : u'.1 79 0 b = -(v 0 10)) (r2 : ∀ a s, a = 88 ∨ a = 90 → s < 4 → u'.1 a 0 (4 * b + s) = u.1 a 0 (4 * b + s)) (r7 : ∀ s, s < 4 → u'.1 87 0 (4 * b + s) = if s < rc then nI (opw w (u.1 87 0 (4 * b + s)).toNatClampNeg) else u.1 87 0 (4 * b + s)) (m1 : (∀ s, s < 48 → u'.1 91 0 (48 * b + s) = Ms (D1 (w * h)) (opw w) id id (v 1) (w * h) s)) (m2 : (∀ s, s < 48 → u'.1 92 0 (48 * b + s) = Ms (D1 (w * h)) (opw w) id id (v 2) (w * h) s)) (m3 : (∀ s, s < 144 → u'.1 93 0 (144 * b + s) = Ms (D3 (w * h)) (s3 w) k3 id (v 3) (3 * (w * h)) s)) (m4 : (∀ s, s < 96 → s % 2 = 1 → u'.1 94 0 (96 * b + s) = Ms (Do (w * h)) (so w) hf2 id (v 4) (w * h) s)) (m5 : (∀ s, s < 96 → s % 2 = 0 → u'.1 94 0 (96 * b + s) = Ms (De w (w * h)) (se w) hf2 (fun x => -x) (v 4) (w * h) s)) (m6 : (∀ s, s < 96 → s % 2 = 1 → u'.1 95 0 (96 * b + s) = Ms (Do (w * h)) (so w) hf2 id (v 5) (w * h) s)) (m7 : (∀ s, s < 96 → s % 2 = 0 → u'.1 95 0 (96 * b + s) = Ms (De w (w * h)) (se w) hf2 id (v 5) (w * h) s)) : mB u' b = mir v := by
  have hz1 : ∀ s, 48 ≤ s → v 1 s = 0 := fun s q => by rw [← hv]; exact if_neg (by omega)
  have hz2 : ∀ s, 48 ≤ s → v 2 s = 0 := fun s q => by rw [← hv]; exact if_neg (by omega)
  have hz3 : ∀ s, 144 ≤ s → v 3 s = 0 := fun s q => by rw [← hv]; exact if_neg (by omega)
  have hz4 : ∀ s, 96 ≤ s → v 4 s = 0 := fun s q => by rw [← hv]; exact if_neg (by omega)
  have hz5 : ∀ s, 96 ≤ s → v 5 s = 0 := fun s q => by rw [← hv]; exact if_neg (by omega)
  have N1 : ∀ f s, Ms (D1 (w * h)) (opw w) id id f (w * h) s = Gs (D1 (w * h)) (opw w) id id f (w * h) s := fun f s => Ms_N (κ := id) (iv1 h1 h2) (fun s q => of_decide_eq_true q) s
  have N3 : ∀ f s, Ms (D3 (w * h)) (s3 w) k3 id f (3 * (w * h)) s = Gs (D3 (w * h)) (s3 w) k3 id f (3 * (w * h)) s := fun f s => Ms_N (iv3 h1 h2 hN) (fun s q => by have := of_decide_eq_true q; unfold k3; omega) s
  have NO : ∀ nn f s, Ms (Do (w * h)) (so w) hf2 nn f (w * h) s = Gs (Do (w * h)) (so w) hf2 nn f (w * h) s := fun nn f s => Ms_N (ivo h1 h2) (fun s q => (of_decide_eq_true q).2) s
  have NE : ∀ nn f s, Ms (De w (w * h)) (se w) hf2 nn f (w * h) s = Gs (De w (w * h)) (se w) hf2 nn f (w * h) s := fun nn f s => Ms_N (ive h1 h2) (fun s q => (of_decide_eq_true q).2.1) s
  have L1 : ∀ s, D1 (w * h) s = true → s < 48 := fun s q => by have := of_decide_eq_true q; omega
  have L3 : ∀ s, D3 (w * h) s = true → s < 144 := fun s q => (of_decide_eq_true q).1
  have LO : ∀ s, Do (w * h) s = true → s < 96 := fun s q => by have := (of_decide_eq_true q).2; omega
  have LE : ∀ s, De w (w * h) s = true → s < 96 := fun s q => by have := (of_decide_eq_true q).2.1; omega
  funext t s
  rcases (show t = 0 ∨ t = 1 ∨ t = 2 ∨ t = 3 ∨ t = 4 ∨ t = 5 ∨ t = 6 ∨ t = 7 ∨ t = 8 ∨ 9 ≤ t by omega) with rfl | rfl | rfl | rfl | rfl | rfl | rfl | rfl | rfl | ht
  · rcases (show s = 0 ∨ s = 1 ∨ s = 2 ∨ s = 3 ∨ s = 4 ∨ s = 5 ∨ s = 6 ∨ s = 7 ∨ s = 8 ∨ s = 9 ∨ s = 10 ∨ s = 11 ∨ s = 12 ∨ s = 13 ∨ 14 ≤ s by omega) with rfl | rfl | rfl | rfl | rfl | rfl | rfl | rfl | rfl | rfl | rfl | rfl | rfl | rfl | hs
    · exact (r1 74 (by omega)).trans (congrFun (congrFun hv 0) 0)
    · exact (r1 75 (by omega)).trans (congrFun (congrFun hv 0) 1)
    · exact (r1 76 (by omega)).trans (congrFun (congrFun hv 0) 2)
    · exact (r1 81 (by omega)).trans (congrFun (congrFun hv 0) 3)
    · exact (r1 82 (by omega)).trans (congrFun (congrFun hv 0) 4)
    · exact (r1 83 (by omega)).trans (congrFun (congrFun hv 0) 5)
    · exact (r1 84 (by omega)).trans (congrFun (congrFun hv 0) 6)
    · exact (r1 85 (by omega)).trans (congrFun (congrFun hv 0) 7)
    · exact (r1 77 (by omega)).trans (congrFun (congrFun hv 0) 8)
    · exact (r1 78 (by omega)).trans (congrFun (congrFun hv 0) 9)
    · exact r10
    · exact (r1 80 (by omega)).trans (congrFun (congrFun hv 0) 11)
    · exact (r1 86 (by omega)).trans (congrFun (congrFun hv 0) 12)
    · exact (r1 89 (by omega)).trans (congrFun (congrFun hv 0) 13)
    · obtain ⟨z, rfl⟩ : ∃ z, s = z + 14 := ⟨s - 14, by omega⟩
      show (0 : Int32) = if z + 14 = 10 then -(v 0 10) else v 0 (z + 14)
      rw [if_neg (by omega), ← hv]
      rfl
  · show (if s < 48 then u'.1 91 0 (48 * b + s) else 0) = Gs (D1 (nN v)) (opw (nW v)) id id (v 1) (nN v) s
    by_cases q : s < 48
    · rw [if_pos q, m1 s q, hNN, hW, N1]
    · rw [if_neg q, hNN, hW]
      exact ((if_neg (fun z => q (L1 s z.1))).trans (hz1 s (by omega))).symm
  · show (if s < 48 then u'.1 92 0 (48 * b + s) else 0) = Gs (D1 (nN v)) (opw (nW v)) id id (v 2) (nN v) s
    by_cases q : s < 48
    · rw [if_pos q, m2 s q, hNN, hW, N1]
    · rw [if_neg q, hNN, hW]
      exact ((if_neg (fun z => q (L1 s z.1))).trans (hz2 s (by omega))).symm
  · show (if s < 144 then u'.1 93 0 (144 * b + s) else 0) = Gs (D3 (nN v)) (s3 (nW v)) k3 id (v 3) (3 * nN v) s
    by_cases q : s < 144
    · rw [if_pos q, m3 s q, hNN, hW, N3]
    · rw [if_neg q, hNN, hW]
      exact ((if_neg (fun z => q (L3 s z.1))).trans (hz3 s (by omega))).symm
  · show (if s < 96 then u'.1 94 0 (96 * b + s) else 0) = if s % 2 = 1 then Gs (Do (nN v)) (so (nW v)) hf2 id (v 4) (nN v) s else Gs (De (nW v) (nN v)) (se (nW v)) hf2 (fun x => -x) (v 4) (nN v) s
    rw [hNN, hW]
    by_cases q : s < 96
    · rw [if_pos q]
      by_cases p : s % 2 = 1
      · rw [if_pos p, m4 s q p, NO]
      · rw [if_neg p, m5 s q (by omega), NE]
    · rw [if_neg q]
      by_cases p : s % 2 = 1
      · rw [if_pos p]
        exact ((if_neg (fun z => q (LO s z.1))).trans (hz4 s (by omega))).symm
      · rw [if_neg p]
        exact ((if_neg (fun z => q (LE s z.1))).trans (hz4 s (by omega))).symm
  · show (if s < 96 then u'.1 95 0 (96 * b + s) else 0) = if s % 2 = 1 then Gs (Do (nN v)) (so (nW v)) hf2 id (v 5) (nN v) s else Gs (De (nW v) (nN v)) (se (nW v)) hf2 id (v 5) (nN v) s
    rw [hNN, hW]
    by_cases q : s < 96
    · rw [if_pos q]
      by_cases p : s % 2 = 1
      · rw [if_pos p, m6 s q p, NO]
      · rw [if_neg p, m7 s q (by omega), NE]
    · rw [if_neg q]
      by_cases p : s % 2 = 1
      · rw [if_pos p]
        exact ((if_neg (fun z => q (LO s z.1))).trans (hz5 s (by omega))).symm
      · rw [if_neg p]
        exact ((if_neg (fun z => q (LE s z.1))).trans (hz5 s (by omega))).symm
  · show (if s < 4 then u'.1 90 0 (4 * b + s) else 0) = v 6 s
    by_cases q : s < 4
    · rw [if_pos q, r2 90 s (by omega) q, ← hv, mR_6 q]
    · rw [if_neg q, ← hv]
      exact (if_neg q).symm
  · show (if s < 4 then u'.1 87 0 (4 * b + s) else 0) = if s < rcN v then nI (opw (nW v) (v 7 s).toNatClampNeg) else v 7 s
    rw [hW, hrc]
    by_cases q : s < 4
    · rw [if_pos q, r7 s q, ← hv, mR_7 q]
    · rw [if_neg q, if_neg (by omega), ← hv]
      exact (if_neg q).symm
  · show (if s < 4 then u'.1 88 0 (4 * b + s) else 0) = v 8 s
    by_cases q : s < 4
    · rw [if_pos q, r2 88 s (by omega) q, ← hv, mR_8 q]
    · rw [if_neg q, ← hv]
      exact (if_neg q).symm
  · obtain ⟨z, rfl⟩ : ∃ z, t = z + 9 := ⟨t - 9, by omega⟩
    show (0 : Int32) = v (z + 9) s
    rw [← hv]
    rfl

