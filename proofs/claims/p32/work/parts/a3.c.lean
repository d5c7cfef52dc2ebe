/-! the search, 16384 to 24575 -/
theorem d_k16 : d_rng 10 16384 d_ok = true := by decide +kernel
theorem d_k17 : d_rng 10 17408 d_ok = true := by decide +kernel
theorem d_k18 : d_rng 10 18432 d_ok = true := by decide +kernel
theorem d_k19 : d_rng 10 19456 d_ok = true := by decide +kernel
theorem d_k20 : d_rng 10 20480 d_ok = true := by decide +kernel
theorem d_k21 : d_rng 10 21504 d_ok = true := by decide +kernel
theorem d_k22 : d_rng 10 22528 d_ok = true := by decide +kernel
theorem d_k23 : d_rng 10 23552 d_ok = true := by decide +kernel
