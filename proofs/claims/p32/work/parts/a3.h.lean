/-! the search, 57344 to 65535 -/
theorem d_k56 : d_rng 10 57344 d_ok = true := by decide +kernel
theorem d_k57 : d_rng 10 58368 d_ok = true := by decide +kernel
theorem d_k58 : d_rng 10 59392 d_ok = true := by decide +kernel
theorem d_k59 : d_rng 10 60416 d_ok = true := by decide +kernel
theorem d_k60 : d_rng 10 61440 d_ok = true := by decide +kernel
theorem d_k61 : d_rng 10 62464 d_ok = true := by decide +kernel
theorem d_k62 : d_rng 10 63488 d_ok = true := by decide +kernel
theorem d_k63 : d_rng 10 64512 d_ok = true := by decide +kernel
