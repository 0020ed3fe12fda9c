theorem zz_k0 : dSc SD0 = 1 := by decide +kernel
theorem zz_k1 : dSc (kSet SD0) = 1 := by decide +kernel
