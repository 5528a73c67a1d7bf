theorem si_n {μ : qM} {k i s a b c : Nat} {v : Int32} (h : ¬ (a = k ∧ b = i ∧ c = s)) : (q_si μ k i s v).1 a b c = μ.1 a b c := if_neg h
