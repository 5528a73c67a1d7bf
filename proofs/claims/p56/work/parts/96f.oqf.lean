theorem DW_s {v v' : qB} {w h : Nat} (hd : DW v w h) (e1 : v' 0 1 = v 0 1) (e2 : v' 0 2 = v 0 2) : DW v' w h := by
  obtain ⟨d1, d2, d3, d4, d5, d6, d7, d8, d9, d10⟩ := hd
  exact ⟨e1.trans d1, e2.trans d2, d3, d4, d5, d6, (nW_s e1).trans d7, (nH_s e2).trans d8, (nN_s e1 e2).trans d9, d10⟩
