/-! the search, 8192 to 16383 -/
theorem d_k8 : d_rng 10 8192 d_ok = true := by decide +kernel
theorem d_k9 : d_rng 10 9216 d_ok = true := by decide +kernel
theorem d_k10 : d_rng 10 10240 d_ok = true := by decide +kernel
theorem d_k11 : d_rng 10 11264 d_ok = true := by decide +kernel
theorem d_k12 : d_rng 10 12288 d_ok = true := by decide +kernel
theorem d_k13 : d_rng 10 13312 d_ok = true := by decide +kernel
theorem d_k14 : d_rng 10 14336 d_ok = true := by decide +kernel
theorem d_k15 : d_rng 10 15360 d_ok = true := by decide +kernel
