/-! the search, 40960 to 49151 -/
theorem d_k40 : d_rng 10 40960 d_ok = true := by decide +kernel
theorem d_k41 : d_rng 10 41984 d_ok = true := by decide +kernel
theorem d_k42 : d_rng 10 43008 d_ok = true := by decide +kernel
theorem d_k43 : d_rng 10 44032 d_ok = true := by decide +kernel
theorem d_k44 : d_rng 10 45056 d_ok = true := by decide +kernel
theorem d_k45 : d_rng 10 46080 d_ok = true := by decide +kernel
theorem d_k46 : d_rng 10 47104 d_ok = true := by decide +kernel
theorem d_k47 : d_rng 10 48128 d_ok = true := by decide +kernel
