/-! the search, 0 to 8191 -/
theorem d_k0 : d_rng 10 0 d_ok = true := by decide +kernel
theorem d_k1 : d_rng 10 1024 d_ok = true := by decide +kernel
theorem d_k2 : d_rng 10 2048 d_ok = true := by decide +kernel
theorem d_k3 : d_rng 10 3072 d_ok = true := by decide +kernel
theorem d_k4 : d_rng 10 4096 d_ok = true := by decide +kernel
theorem d_k5 : d_rng 10 5120 d_ok = true := by decide +kernel
theorem d_k6 : d_rng 10 6144 d_ok = true := by decide +kernel
theorem d_k7 : d_rng 10 7168 d_ok = true := by decide +kernel
