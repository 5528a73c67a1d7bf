theorem lfl_sd {v : qB} {s : Nat} (h : ¬ lfl v s = nI 0) : sd (nW v) (nN v) s = true := pfl_sd (lfl_pfl h)
