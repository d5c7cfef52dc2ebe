/-! the search, 32768 to 40959 -/
theorem d_k32 : d_rng 10 32768 d_ok = true := by decide +kernel
theorem d_k33 : d_rng 10 33792 d_ok = true := by decide +kernel
theorem d_k34 : d_rng 10 34816 d_ok = true := by decide +kernel
theorem d_k35 : d_rng 10 35840 d_ok = true := by decide +kernel
theorem d_k36 : d_rng 10 36864 d_ok = true := by decide +kernel
theorem d_k37 : d_rng 10 37888 d_ok = true := by decide +kernel
theorem d_k38 : d_rng 10 38912 d_ok = true := by decide +kernel
theorem d_k39 : d_rng 10 39936 d_ok = true := by decide +kernel
