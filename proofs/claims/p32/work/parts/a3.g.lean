/-! the search, 49152 to 57343 -/
theorem d_k48 : d_rng 10 49152 d_ok = true := by decide +kernel
theorem d_k49 : d_rng 10 50176 d_ok = true := by decide +kernel
theorem d_k50 : d_rng 10 51200 d_ok = true := by decide +kernel
theorem d_k51 : d_rng 10 52224 d_ok = true := by decide +kernel
theorem d_k52 : d_rng 10 53248 d_ok = true := by decide +kernel
theorem d_k53 : d_rng 10 54272 d_ok = true := by decide +kernel
theorem d_k54 : d_rng 10 55296 d_ok = true := by decide +kernel
theorem d_k55 : d_rng 10 56320 d_ok = true := by decide +kernel
