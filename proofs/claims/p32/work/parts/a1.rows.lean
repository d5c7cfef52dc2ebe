/-! the rows of bits -/
theorem d_T2_ok : d_T2 = d_bld 16 0 (d_p 3265436265) := by decide +kernel
theorem d_b2_ok {l h : Nat} (hl : l < 65536) (hh : h < 65536) (hx : d_it 2 (65536 * h + l) / 65536 % 11 = 4) : (d_b2 l).testBit h = true := by
  rw [d_it_lin 2 (by omega), show d_a 2 = 3265436265 by decide +kernel, show d_c 2 = 3554416254 by decide +kernel, d_hi] at hx
  have q := d_bt (l := l) (c := 3554416254) (d_dbl d_T2_ok) (V := 38361) (by decide) hh
  rw [hx] at q
  exact q
theorem d_T4_ok : d_T4 = d_bld 16 0 (d_p 3993403153) := by decide +kernel
theorem d_b4_ok {l h : Nat} (hl : l < 65536) (hh : h < 65536) (hx : d_it 4 (65536 * h + l) / 65536 % 11 = 4) : (d_b4 l).testBit h = true := by
  rw [d_it_lin 4 (by omega), show d_a 4 = 3993403153 by decide +kernel, show d_c 4 = 3596950572 by decide +kernel, d_hi] at hx
  have q := d_bt (l := l) (c := 3596950572) (d_dbl d_T4_ok) (V := 20977) (by decide) hh
  rw [hx] at q
  exact q
theorem d_T5_ok : d_T5 = d_bld 16 0 (d_p 3953215549) := by decide +kernel
theorem d_b5_ok {l h : Nat} (hl : l < 65536) (hh : h < 65536) (hx : d_it 5 (65536 * h + l) / 65536 % 11 = 4) : (d_b5 l).testBit h = true := by
  rw [d_it_lin 5 (by omega), show d_a 5 = 3953215549 by decide +kernel, show d_c 5 = 229283573 by decide +kernel, d_hi] at hx
  have q := d_bt (l := l) (c := 229283573) (d_dbl d_T5_ok) (V := 36629) (by decide) hh
  rw [hx] at q
  exact q
theorem d_T6_ok : d_T6 = d_bld 16 0 (d_p 3554433017) := by decide +kernel
theorem d_b6_ok {l h : Nat} (hl : l < 65536) (hh : h < 65536) (hx : d_it 6 (65536 * h + l) / 65536 % 11 = 4) : (d_b6 l).testBit h = true := by
  rw [d_it_lin 6 (by omega), show d_a 6 = 3554433017 by decide +kernel, show d_c 6 = 3256818826 by decide +kernel, d_hi] at hx
  have q := d_bt (l := l) (c := 3256818826) (d_dbl d_T6_ok) (V := 47689) (by decide) hh
  rw [hx] at q
  exact q
theorem d_T9_ok : d_T9 = d_bld 16 0 (d_p 268046093) := by decide +kernel
theorem d_b9_ok {l h : Nat} (hl : l < 65536) (hh : h < 65536) (hx : d_it 9 (65536 * h + l) / 65536 % 11 = 4) : (d_b9 l).testBit h = true := by
  rw [d_it_lin 9 (by omega), show d_a 9 = 268046093 by decide +kernel, show d_c 9 = 2941955441 by decide +kernel, d_hi] at hx
  have q := d_bt (l := l) (c := 2941955441) (d_dbl d_T9_ok) (V := 22469) (by decide) hh
  rw [hx] at q
  exact q
theorem d_T11_ok : d_T11 = d_bld 16 0 (d_p 1524104789) := by decide +kernel
theorem d_b11_ok {l h : Nat} (hl : l < 65536) (hh : h < 65536) (hx : d_it 11 (65536 * h + l) / 65536 % 11 = 4) : (d_b11 l).testBit h = true := by
  rw [d_it_lin 11 (by omega), show d_a 11 = 1524104789 by decide +kernel, show d_c 11 = 2951033815 by decide +kernel, d_hi] at hx
  have q := d_bt (l := l) (c := 2951033815) (d_dbl d_T11_ok) (V := 3837) (by decide) hh
  rw [hx] at q
  exact q
theorem d_T12_ok : d_T12 = d_bld 16 0 (d_p 3358797873) := by decide +kernel
theorem d_b12_ok {l h : Nat} (hl : l < 65536) (hh : h < 65536) (hx : d_it 12 (65536 * h + l) / 65536 % 11 = 4) : (d_b12 l).testBit h = true := by
  rw [d_it_lin 12 (by omega), show d_a 12 = 3358797873 by decide +kernel, show d_c 12 = 1772930244 by decide +kernel, d_hi] at hx
  have q := d_bt (l := l) (c := 1772930244) (d_dbl d_T12_ok) (V := 10449) (by decide) hh
  rw [hx] at q
  exact q
theorem d_T13_ok : d_T13 = d_bld 16 0 (d_p 2371908317) := by decide +kernel
theorem d_b13_ok {l h : Nat} (hl : l < 65536) (hh : h < 65536) (hx : d_it 13 (65536 * h + l) / 65536 % 11 = 4) : (d_b13 l).testBit h = true := by
  rw [d_it_lin 13 (by omega), show d_a 13 = 2371908317 by decide +kernel, show d_c 13 = 2518396845 by decide +kernel, d_hi] at hx
  have q := d_bt (l := l) (c := 2518396845) (d_dbl d_T13_ok) (V := 62837) (by decide) hh
  rw [hx] at q
  exact q
theorem d_T16_ok : d_T16 = d_bld 16 0 (d_p 1601471041) := by decide +kernel
theorem d_b16_ok {l h : Nat} (hl : l < 65536) (hh : h < 65536) (hx : d_it 16 (65536 * h + l) / 65536 % 11 = 4) : (d_b16 l).testBit h = true := by
  rw [d_it_lin 16 (by omega), show d_a 16 = 1601471041 by decide +kernel, show d_c 16 = 1695770928 by decide +kernel, d_hi] at hx
  have q := d_bt (l := l) (c := 1695770928) (d_dbl d_T16_ok) (V := 36289) (by decide) hh
  rw [hx] at q
  exact q
theorem d_T18_ok : d_T18 = d_bld 16 0 (d_p 3964044969) := by decide +kernel
theorem d_b18_ok {l h : Nat} (hl : l < 65536) (hh : h < 65536) (hx : d_it 18 (65536 * h + l) / 65536 % 11 = 4) : (d_b18 l).testBit h = true := by
  rw [d_it_lin 18 (by omega), show d_a 18 = 3964044969 by decide +kernel, show d_c 18 = 3866696494 by decide +kernel, d_hi] at hx
  have q := d_bt (l := l) (c := 3866696494) (d_dbl d_T18_ok) (V := 32153) (by decide) hh
  rw [hx] at q
  exact q
theorem d_T19_ok : d_T19 = d_bld 16 0 (d_p 650433525) := by decide +kernel
theorem d_b19_ok {l h : Nat} (hl : l < 65536) (hh : h < 65536) (hx : d_it 19 (65536 * h + l) / 65536 % 11 = 4) : (d_b19 l).testBit h = true := by
  rw [d_it_lin 19 (by omega), show d_a 19 = 650433525 by decide +kernel, show d_c 19 = 3144468175 by decide +kernel, d_hi] at hx
  have q := d_bt (l := l) (c := 3144468175) (d_dbl d_T19_ok) (V := 93) (by decide) hh
  rw [hx] at q
  exact q
theorem d_T20_ok : d_T20 = d_bld 16 0 (d_p 2665538897) := by decide +kernel
theorem d_b20_ok {l h : Nat} (hl : l < 65536) (hh : h < 65536) (hx : d_it 20 (65536 * h + l) / 65536 % 11 = 4) : (d_b20 l).testBit h = true := by
  rw [d_it_lin 20 (by omega), show d_a 20 = 2665538897 by decide +kernel, show d_c 20 = 1157490780 by decide +kernel, d_hi] at hx
  have q := d_bt (l := l) (c := 1157490780) (d_dbl d_T20_ok) (V := 33713) (by decide) hh
  rw [hx] at q
  exact q
theorem d_T23_ok : d_T23 = d_bld 16 0 (d_p 4126580293) := by decide +kernel
theorem d_b23_ok {l h : Nat} (hl : l < 65536) (hh : h < 65536) (hx : d_it 23 (65536 * h + l) / 65536 % 11 = 4) : (d_b23 l).testBit h = true := by
  rw [d_it_lin 23 (by omega), show d_a 23 = 4126580293 by decide +kernel, show d_c 23 = 1511588075 by decide +kernel, d_hi] at hx
  have q := d_bt (l := l) (c := 1511588075) (d_dbl d_T23_ok) (V := 50317) (by decide) hh
  rw [hx] at q
  exact q
theorem d_T25_ok : d_T25 = d_bld 16 0 (d_p 2936433741) := by decide +kernel
theorem d_b25_ok {l h : Nat} (hl : l < 65536) (hh : h < 65536) (hx : d_it 25 (65536 * h + l) / 65536 % 11 = 4) : (d_b25 l).testBit h = true := by
  rw [d_it_lin 25 (by omega), show d_a 25 = 2936433741 by decide +kernel, show d_c 25 = 2103497953 by decide +kernel, d_hi] at hx
  have q := d_bt (l := l) (c := 2103497953) (d_dbl d_T25_ok) (V := 44165) (by decide) hh
  rw [hx] at q
  exact q
theorem d_T26_ok : d_T26 = d_bld 16 0 (d_p 3410596553) := by decide +kernel
theorem d_b26_ok {l h : Nat} (hl : l < 65536) (hh : h < 65536) (hx : d_it 26 (65536 * h + l) / 65536 % 11 = 4) : (d_b26 l).testBit h = true := by
  rw [d_it_lin 26 (by omega), show d_a 26 = 3410596553 by decide +kernel, show d_c 26 = 2854052358 by decide +kernel, d_hi] at hx
  have q := d_bt (l := l) (c := 2854052358) (d_dbl d_T26_ok) (V := 10105) (by decide) hh
  rw [hx] at q
  exact q
theorem d_T27_ok : d_T27 = d_bld 16 0 (d_p 2307046805) := by decide +kernel
theorem d_b27_ok {l h : Nat} (hl : l < 65536) (hh : h < 65536) (hx : d_it 27 (65536 * h + l) / 65536 % 11 = 4) : (d_b27 l).testBit h = true := by
  rw [d_it_lin 27 (by omega), show d_a 27 = 2307046805 by decide +kernel, show d_c 27 = 3104096455 by decide +kernel, d_hi] at hx
  have q := d_bt (l := l) (c := 3104096455) (d_dbl d_T27_ok) (V := 42429) (by decide) hh
  rw [hx] at q
  exact q
theorem d_T30_ok : d_T30 = d_bld 16 0 (d_p 1315599961) := by decide +kernel
theorem d_b30_ok {l h : Nat} (hl : l < 65536) (hh : h < 65536) (hx : d_it 30 (65536 * h + l) / 65536 % 11 = 4) : (d_b30 l).testBit h = true := by
  rw [d_it_lin 30 (by omega), show d_a 30 = 1315599961 by decide +kernel, show d_c 30 = 2518522002 by decide +kernel, d_hi] at hx
  have q := d_bt (l := l) (c := 2518522002) (d_dbl d_T30_ok) (V := 29161) (by decide) hh
  rw [hx] at q
  exact q
theorem d_T32_ok : d_T32 = d_bld 16 0 (d_p 2335052929) := by decide +kernel
theorem d_b32_ok {l h : Nat} (hl : l < 65536) (hh : h < 65536) (hx : d_it 32 (65536 * h + l) / 65536 % 11 = 4) : (d_b32 l).testBit h = true := by
  rw [d_it_lin 32 (by omega), show d_a 32 = 2335052929 by decide +kernel, show d_c 32 = 1680572000 by decide +kernel, d_hi] at hx
  have q := d_bt (l := l) (c := 1680572000) (d_dbl d_T32_ok) (V := 11137) (by decide) hh
  rw [hx] at q
  exact q
theorem d_T33_ok : d_T33 = d_bld 16 0 (d_p 3919841517) := by decide +kernel
theorem d_b33_ok {l h : Nat} (hl : l < 65536) (hh : h < 65536) (hx : d_it 33 (65536 * h + l) / 65536 % 11 = 4) : (d_b33 l).testBit h = true := by
  rw [d_it_lin 33 (by omega), show d_a 33 = 3919841517 by decide +kernel, show d_c 33 = 88489753 by decide +kernel, d_hi] at hx
  have q := d_bt (l := l) (c := 88489753) (d_dbl d_T33_ok) (V := 38117) (by decide) hh
  rw [hx] at q
  exact q
theorem d_T34_ok : d_T34 = d_bld 16 0 (d_p 2313028329) := by decide +kernel
theorem d_b34_ok {l h : Nat} (hl : l < 65536) (hh : h < 65536) (hx : d_it 34 (65536 * h + l) / 65536 % 11 = 4) : (d_b34 l).testBit h = true := by
  rw [d_it_lin 34 (by omega), show d_a 34 = 2313028329 by decide +kernel, show d_c 34 = 3430460382 by decide +kernel, d_hi] at hx
  have q := d_bt (l := l) (c := 3430460382) (d_dbl d_T34_ok) (V := 62809) (by decide) hh
  rw [hx] at q
  exact q
theorem d_T37_ok : d_T37 = d_bld 16 0 (d_p 1876961981) := by decide +kernel
theorem d_b37_ok {l h : Nat} (hl : l < 65536) (hh : h < 65536) (hx : d_it 37 (65536 * h + l) / 65536 % 11 = 4) : (d_b37 l).testBit h = true := by
  rw [d_it_lin 37 (by omega), show d_a 37 = 1876961981 by decide +kernel, show d_c 37 = 3253908437 by decide +kernel, d_hi] at hx
  have q := d_bt (l := l) (c := 3253908437) (d_dbl d_T37_ok) (V := 41109) (by decide) hh
  rw [hx] at q
  exact q
theorem d_T39_ok : d_T39 = d_bld 16 0 (d_p 37828997) := by decide +kernel
theorem d_b39_ok {l h : Nat} (hl : l < 65536) (hh : h < 65536) (hx : d_it 39 (65536 * h + l) / 65536 % 11 = 4) : (d_b39 l).testBit h = true := by
  rw [d_it_lin 39 (by omega), show d_a 39 = 37828997 by decide +kernel, show d_c 39 = 2539649755 by decide +kernel, d_hi] at hx
  have q := d_bt (l := l) (c := 2539649755) (d_dbl d_T39_ok) (V := 55117) (by decide) hh
  rw [hx] at q
  exact q
theorem d_T40_ok : d_T40 = d_bld 16 0 (d_p 388629409) := by decide +kernel
theorem d_b40_ok {l h : Nat} (hl : l < 65536) (hh : h < 65536) (hx : d_it 40 (65536 * h + l) / 65536 % 11 = 4) : (d_b40 l).testBit h = true := by
  rw [d_it_lin 40 (by omega), show d_a 40 = 388629409 by decide +kernel, show d_c 40 = 1387182456 by decide +kernel, d_hi] at hx
  have q := d_bt (l := l) (c := 1387182456) (d_dbl d_T40_ok) (V := 41057) (by decide) hh
  rw [hx] at q
  exact q
theorem d_T41_ok : d_T41 = d_bld 16 0 (d_p 1501862285) := by decide +kernel
theorem d_b41_ok {l h : Nat} (hl : l < 65536) (hh : h < 65536) (hx : d_it 41 (65536 * h + l) / 65536 % 11 = 4) : (d_b41 l).testBit h = true := by
  rw [d_it_lin 41 (by omega), show d_a 41 = 1501862285 by decide +kernel, show d_c 41 = 1538766929 by decide +kernel, d_hi] at hx
  have q := d_bt (l := l) (c := 1538766929) (d_dbl d_T41_ok) (V := 20805) (by decide) hh
  rw [hx] at q
  exact q
theorem d_T44_ok : d_T44 = d_bld 16 0 (d_p 626859185) := by decide +kernel
theorem d_b44_ok {l h : Nat} (hl : l < 65536) (hh : h < 65536) (hx : d_it 44 (65536 * h + l) / 65536 % 11 = 4) : (d_b44 l).testBit h = true := by
  rw [d_it_lin 44 (by omega), show d_a 44 = 626859185 by decide +kernel, show d_c 44 = 3939628324 by decide +kernel, d_hi] at hx
  have q := d_bt (l := l) (c := 3939628324) (d_dbl d_T44_ok) (V := 44113) (by decide) hh
  rw [hx] at q
  exact q
theorem d_T46_ok : d_T46 = d_bld 16 0 (d_p 2692038297) := by decide +kernel
theorem d_b46_ok {l h : Nat} (hl : l < 65536) (hh : h < 65536) (hx : d_it 46 (65536 * h + l) / 65536 % 11 = 4) : (d_b46 l).testBit h = true := by
  rw [d_it_lin 46 (by omega), show d_a 46 = 2692038297 by decide +kernel, show d_c 46 = 3661187650 by decide +kernel, d_hi] at hx
  have q := d_bt (l := l) (c := 3661187650) (d_dbl d_T46_ok) (V := 13737) (by decide) hh
  rw [hx] at q
  exact q
theorem d_T47_ok : d_T47 = d_bld 16 0 (d_p 1314145573) := by decide +kernel
theorem d_b47_ok {l h : Nat} (hl : l < 65536) (hh : h < 65536) (hx : d_it 47 (65536 * h + l) / 65536 % 11 = 4) : (d_b47 l).testBit h = true := by
  rw [d_it_lin 47 (by omega), show d_a 47 = 1314145573 by decide +kernel, show d_c 47 = 2417027667 by decide +kernel, d_hi] at hx
  have q := d_bt (l := l) (c := 2417027667) (d_dbl d_T47_ok) (V := 20141) (by decide) hh
  rw [hx] at q
  exact q
theorem d_T48_ok : d_T48 = d_bld 16 0 (d_p 3868243649) := by decide +kernel
theorem d_b48_ok {l h : Nat} (hl : l < 65536) (hh : h < 65536) (hx : d_it 48 (65536 * h + l) / 65536 % 11 = 4) : (d_b48 l).testBit h = true := by
  rw [d_it_lin 48 (by omega), show d_a 48 = 3868243649 by decide +kernel, show d_c 48 = 3452649360 by decide +kernel, d_hi] at hx
  have q := d_bt (l := l) (c := 3452649360) (d_dbl d_T48_ok) (V := 55617) (by decide) hh
  rw [hx] at q
  exact q
theorem d_T51_ok : d_T51 = d_bld 16 0 (d_p 113504885) := by decide +kernel
theorem d_b51_ok {l h : Nat} (hl : l < 65536) (hh : h < 65536) (hx : d_it 51 (65536 * h + l) / 65536 % 11 = 4) : (d_b51 l).testBit h = true := by
  rw [d_it_lin 51 (by omega), show d_a 51 = 113504885 by decide +kernel, show d_c 51 = 1941297327 by decide +kernel, d_hi] at hx
  have q := d_bt (l := l) (c := 1941297327) (d_dbl d_T51_ok) (V := 52701) (by decide) hh
  rw [hx] at q
  exact q
theorem d_T53_ok : d_T53 = d_bld 16 0 (d_p 3192050685) := by decide +kernel
theorem d_b53_ok {l h : Nat} (hl : l < 65536) (hh : h < 65536) (hx : d_it 53 (65536 * h + l) / 65536 % 11 = 4) : (d_b53 l).testBit h = true := by
  rw [d_it_lin 53 (by omega), show d_a 53 = 3192050685 by decide +kernel, show d_c 53 = 1787378757 by decide +kernel, d_hi] at hx
  have q := d_bt (l := l) (c := 1787378757) (d_dbl d_T53_ok) (V := 8533) (by decide) hh
  rw [hx] at q
  exact q
theorem d_T54_ok : d_T54 = d_bld 16 0 (d_p 2444843193) := by decide +kernel
theorem d_b54_ok {l h : Nat} (hl : l < 65536) (hh : h < 65536) (hx : d_it 54 (65536 * h + l) / 65536 % 11 = 4) : (d_b54 l).testBit h = true := by
  rw [d_it_lin 54 (by omega), show d_a 54 = 2444843193 by decide +kernel, show d_c 54 = 1328144282 by decide +kernel, d_hi] at hx
  have q := d_bt (l := l) (c := 1328144282) (d_dbl d_T54_ok) (V := 11657) (by decide) hh
  rw [hx] at q
  exact q
theorem d_T55_ok : d_T55 = d_bld 16 0 (d_p 487138501) := by decide +kernel
theorem d_b55_ok {l h : Nat} (hl : l < 65536) (hh : h < 65536) (hx : d_it 55 (65536 * h + l) / 65536 % 11 = 4) : (d_b55 l).testBit h = true := by
  rw [d_it_lin 55 (by omega), show d_a 55 = 487138501 by decide +kernel, show d_c 55 = 2182172875 by decide +kernel, d_hi] at hx
  have q := d_bt (l := l) (c := 2182172875) (d_dbl d_T55_ok) (V := 47629) (by decide) hh
  rw [hx] at q
  exact q
theorem d_T58_ok : d_T58 = d_bld 16 0 (d_p 2997398345) := by decide +kernel
theorem d_b58_ok {l h : Nat} (hl : l < 65536) (hh : h < 65536) (hx : d_it 58 (65536 * h + l) / 65536 % 11 = 4) : (d_b58 l).testBit h = true := by
  rw [d_it_lin 58 (by omega), show d_a 58 = 2997398345 by decide +kernel, show d_c 58 = 1203133286 by decide +kernel, d_hi] at hx
  have q := d_bt (l := l) (c := 1203133286) (d_dbl d_T58_ok) (V := 14073) (by decide) hh
  rw [hx] at q
  exact q
theorem d_T60_ok : d_T60 = d_bld 16 0 (d_p 1953114865) := by decide +kernel
theorem d_b60_ok {l h : Nat} (hl : l < 65536) (hh : h < 65536) (hx : d_it 60 (65536 * h + l) / 65536 % 11 = 4) : (d_b60 l).testBit h = true := by
  rw [d_it_lin 60 (by omega), show d_a 60 = 1953114865 by decide +kernel, show d_c 60 = 321843028 by decide +kernel, d_hi] at hx
  have q := d_bt (l := l) (c := 321843028) (d_dbl d_T60_ok) (V := 34321) (by decide) hh
  rw [hx] at q
  exact q
theorem d_T61_ok : d_T61 = d_bld 16 0 (d_p 1370470045) := by decide +kernel
theorem d_b61_ok {l h : Nat} (hl : l < 65536) (hh : h < 65536) (hx : d_it 61 (65536 * h + l) / 65536 % 11 = 4) : (d_b61 l).testBit h = true := by
  rw [d_it_lin 61 (by omega), show d_a 61 = 1370470045 by decide +kernel, show d_c 61 = 3873419005 by decide +kernel, d_hi] at hx
  have q := d_bt (l := l) (c := 3873419005) (d_dbl d_T61_ok) (V := 32693) (by decide) hh
  rw [hx] at q
  exact q
theorem d_T62_ok : d_T62 = d_bld 16 0 (d_p 1810011865) := by decide +kernel
theorem d_b62_ok {l h : Nat} (hl : l < 65536) (hh : h < 65536) (hx : d_it 62 (65536 * h + l) / 65536 % 11 = 4) : (d_b62 l).testBit h = true := by
  rw [d_it_lin 62 (by omega), show d_a 62 = 1810011865 by decide +kernel, show d_c 62 = 154978290 by decide +kernel, d_hi] at hx
  have q := d_bt (l := l) (c := 154978290) (d_dbl d_T62_ok) (V := 35177) (by decide) hh
  rw [hx] at q
  exact q
theorem d_T65_ok : d_T65 = d_bld 16 0 (d_p 3589342061) := by decide +kernel
theorem d_b65_ok {l h : Nat} (hl : l < 65536) (hh : h < 65536) (hx : d_it 65 (65536 * h + l) / 65536 % 11 = 4) : (d_b65 l).testBit h = true := by
  rw [d_it_lin 65 (by omega), show d_a 65 = 3589342061 by decide +kernel, show d_c 65 = 1929199097 by decide +kernel, d_hi] at hx
  have q := d_bt (l := l) (c := 1929199097) (d_dbl d_T65_ok) (V := 32357) (by decide) hh
  rw [hx] at q
  exact q
theorem d_T67_ok : d_T67 = d_bld 16 0 (d_p 2162424245) := by decide +kernel
theorem d_b67_ok {l h : Nat} (hl : l < 65536) (hh : h < 65536) (hx : d_it 67 (65536 * h + l) / 65536 % 11 = 4) : (d_b67 l).testBit h = true := by
  rw [d_it_lin 67 (by omega), show d_a 67 = 2162424245 by decide +kernel, show d_c 67 = 1049906079 by decide +kernel, d_hi] at hx
  have q := d_bt (l := l) (c := 1049906079) (d_dbl d_T67_ok) (V := 60573) (by decide) hh
  rw [hx] at q
  exact q
theorem d_T68_ok : d_T68 = d_bld 16 0 (d_p 1847883793) := by decide +kernel
theorem d_b68_ok {l h : Nat} (hl : l < 65536) (hh : h < 65536) (hx : d_it 68 (65536 * h + l) / 65536 % 11 = 4) : (d_b68 l).testBit h = true := by
  rw [d_it_lin 68 (by omega), show d_a 68 = 1847883793 by decide +kernel, show d_c 68 = 2955465964 by decide +kernel, d_hi] at hx
  have q := d_bt (l := l) (c := 2955465964) (d_dbl d_T68_ok) (V := 30961) (by decide) hh
  rw [hx] at q
  exact q
theorem d_T69_ok : d_T69 = d_bld 16 0 (d_p 809651517) := by decide +kernel
theorem d_b69_ok {l h : Nat} (hl : l < 65536) (hh : h < 65536) (hx : d_it 69 (65536 * h + l) / 65536 % 11 = 4) : (d_b69 l).testBit h = true := by
  rw [d_it_lin 69 (by omega), show d_a 69 = 809651517 by decide +kernel, show d_c 69 = 214614197 by decide +kernel, d_hi] at hx
  have q := d_bt (l := l) (c := 214614197) (d_dbl d_T69_ok) (V := 61973) (by decide) hh
  rw [hx] at q
  exact q
