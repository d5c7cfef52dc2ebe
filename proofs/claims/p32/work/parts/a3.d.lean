/-! the search, 24576 to 32767 -/
theorem d_k24 : d_rng 10 24576 d_ok = true := by decide +kernel
theorem d_k25 : d_rng 10 25600 d_ok = true := by decide +kernel
theorem d_k26 : d_rng 10 26624 d_ok = true := by decide +kernel
theorem d_k27 : d_rng 10 27648 d_ok = true := by decide +kernel
theorem d_k28 : d_rng 10 28672 d_ok = true := by decide +kernel
theorem d_k29 : d_rng 10 29696 d_ok = true := by decide +kernel
theorem d_k30 : d_rng 10 30720 d_ok = true := by decide +kernel
theorem d_k31 : d_rng 10 31744 d_ok = true := by decide +kernel
