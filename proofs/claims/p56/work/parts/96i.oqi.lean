theorem nI0 : (nI 0).toInt = 0 := by decide +kernel
