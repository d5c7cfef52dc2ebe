/-! the draws of the acts: at most nine opens among eleven, but for two starts -/
theorem d_all {l : Nat} (hl : l < 65536) : d_ok l = true := by
  obtain ⟨j, hj, h1, h2⟩ : ∃ j, j < 64 ∧ 1024 * j ≤ l ∧ l < 1024 * j + 1024 := ⟨l / 1024, by omega, by omega, by omega⟩
  have e : (2 : Nat) ^ 10 = 1024 := rfl
  match j, hj with
  | 0, _ => exact d_rng_ok d_ok 10 0 d_k0 l (by omega) (by omega)
  | 1, _ => exact d_rng_ok d_ok 10 1024 d_k1 l (by omega) (by omega)
  | 2, _ => exact d_rng_ok d_ok 10 2048 d_k2 l (by omega) (by omega)
  | 3, _ => exact d_rng_ok d_ok 10 3072 d_k3 l (by omega) (by omega)
  | 4, _ => exact d_rng_ok d_ok 10 4096 d_k4 l (by omega) (by omega)
  | 5, _ => exact d_rng_ok d_ok 10 5120 d_k5 l (by omega) (by omega)
  | 6, _ => exact d_rng_ok d_ok 10 6144 d_k6 l (by omega) (by omega)
  | 7, _ => exact d_rng_ok d_ok 10 7168 d_k7 l (by omega) (by omega)
  | 8, _ => exact d_rng_ok d_ok 10 8192 d_k8 l (by omega) (by omega)
  | 9, _ => exact d_rng_ok d_ok 10 9216 d_k9 l (by omega) (by omega)
  | 10, _ => exact d_rng_ok d_ok 10 10240 d_k10 l (by omega) (by omega)
  | 11, _ => exact d_rng_ok d_ok 10 11264 d_k11 l (by omega) (by omega)
  | 12, _ => exact d_rng_ok d_ok 10 12288 d_k12 l (by omega) (by omega)
  | 13, _ => exact d_rng_ok d_ok 10 13312 d_k13 l (by omega) (by omega)
  | 14, _ => exact d_rng_ok d_ok 10 14336 d_k14 l (by omega) (by omega)
  | 15, _ => exact d_rng_ok d_ok 10 15360 d_k15 l (by omega) (by omega)
  | 16, _ => exact d_rng_ok d_ok 10 16384 d_k16 l (by omega) (by omega)
  | 17, _ => exact d_rng_ok d_ok 10 17408 d_k17 l (by omega) (by omega)
  | 18, _ => exact d_rng_ok d_ok 10 18432 d_k18 l (by omega) (by omega)
  | 19, _ => exact d_rng_ok d_ok 10 19456 d_k19 l (by omega) (by omega)
  | 20, _ => exact d_rng_ok d_ok 10 20480 d_k20 l (by omega) (by omega)
  | 21, _ => exact d_rng_ok d_ok 10 21504 d_k21 l (by omega) (by omega)
  | 22, _ => exact d_rng_ok d_ok 10 22528 d_k22 l (by omega) (by omega)
  | 23, _ => exact d_rng_ok d_ok 10 23552 d_k23 l (by omega) (by omega)
  | 24, _ => exact d_rng_ok d_ok 10 24576 d_k24 l (by omega) (by omega)
  | 25, _ => exact d_rng_ok d_ok 10 25600 d_k25 l (by omega) (by omega)
  | 26, _ => exact d_rng_ok d_ok 10 26624 d_k26 l (by omega) (by omega)
  | 27, _ => exact d_rng_ok d_ok 10 27648 d_k27 l (by omega) (by omega)
  | 28, _ => exact d_rng_ok d_ok 10 28672 d_k28 l (by omega) (by omega)
  | 29, _ => exact d_rng_ok d_ok 10 29696 d_k29 l (by omega) (by omega)
  | 30, _ => exact d_rng_ok d_ok 10 30720 d_k30 l (by omega) (by omega)
  | 31, _ => exact d_rng_ok d_ok 10 31744 d_k31 l (by omega) (by omega)
  | 32, _ => exact d_rng_ok d_ok 10 32768 d_k32 l (by omega) (by omega)
  | 33, _ => exact d_rng_ok d_ok 10 33792 d_k33 l (by omega) (by omega)
  | 34, _ => exact d_rng_ok d_ok 10 34816 d_k34 l (by omega) (by omega)
  | 35, _ => exact d_rng_ok d_ok 10 35840 d_k35 l (by omega) (by omega)
  | 36, _ => exact d_rng_ok d_ok 10 36864 d_k36 l (by omega) (by omega)
  | 37, _ => exact d_rng_ok d_ok 10 37888 d_k37 l (by omega) (by omega)
  | 38, _ => exact d_rng_ok d_ok 10 38912 d_k38 l (by omega) (by omega)
  | 39, _ => exact d_rng_ok d_ok 10 39936 d_k39 l (by omega) (by omega)
  | 40, _ => exact d_rng_ok d_ok 10 40960 d_k40 l (by omega) (by omega)
  | 41, _ => exact d_rng_ok d_ok 10 41984 d_k41 l (by omega) (by omega)
  | 42, _ => exact d_rng_ok d_ok 10 43008 d_k42 l (by omega) (by omega)
  | 43, _ => exact d_rng_ok d_ok 10 44032 d_k43 l (by omega) (by omega)
  | 44, _ => exact d_rng_ok d_ok 10 45056 d_k44 l (by omega) (by omega)
  | 45, _ => exact d_rng_ok d_ok 10 46080 d_k45 l (by omega) (by omega)
  | 46, _ => exact d_rng_ok d_ok 10 47104 d_k46 l (by omega) (by omega)
  | 47, _ => exact d_rng_ok d_ok 10 48128 d_k47 l (by omega) (by omega)
  | 48, _ => exact d_rng_ok d_ok 10 49152 d_k48 l (by omega) (by omega)
  | 49, _ => exact d_rng_ok d_ok 10 50176 d_k49 l (by omega) (by omega)
  | 50, _ => exact d_rng_ok d_ok 10 51200 d_k50 l (by omega) (by omega)
  | 51, _ => exact d_rng_ok d_ok 10 52224 d_k51 l (by omega) (by omega)
  | 52, _ => exact d_rng_ok d_ok 10 53248 d_k52 l (by omega) (by omega)
  | 53, _ => exact d_rng_ok d_ok 10 54272 d_k53 l (by omega) (by omega)
  | 54, _ => exact d_rng_ok d_ok 10 55296 d_k54 l (by omega) (by omega)
  | 55, _ => exact d_rng_ok d_ok 10 56320 d_k55 l (by omega) (by omega)
  | 56, _ => exact d_rng_ok d_ok 10 57344 d_k56 l (by omega) (by omega)
  | 57, _ => exact d_rng_ok d_ok 10 58368 d_k57 l (by omega) (by omega)
  | 58, _ => exact d_rng_ok d_ok 10 59392 d_k58 l (by omega) (by omega)
  | 59, _ => exact d_rng_ok d_ok 10 60416 d_k59 l (by omega) (by omega)
  | 60, _ => exact d_rng_ok d_ok 10 61440 d_k60 l (by omega) (by omega)
  | 61, _ => exact d_rng_ok d_ok 10 62464 d_k61 l (by omega) (by omega)
  | 62, _ => exact d_rng_ok d_ok 10 63488 d_k62 l (by omega) (by omega)
  | 63, _ => exact d_rng_ok d_ok 10 64512 d_k63 l (by omega) (by omega)
  | j + 64, hj => exact absurd hj (by omega)
/-- the first n acts from x are opens -/
def d_P : Nat → Nat → Prop
  | 0, _ => True
  | n + 1, x => d_it 2 x / 65536 % 11 = 4 ∧ d_P n (d_it 7 x)
theorem d_P0 (x : Nat) : d_P 0 x := by unfold d_P; exact trivial
theorem d_P1 {x : Nat} (c : d_it 2 x / 65536 % 11 = 4) : d_P (0 + 1) x := by rw [d_P]; exact And.intro c (d_P0 _)
theorem d_P_at : ∀ (n : Nat) {x : Nat}, d_P n x → ∀ j, j < n → d_it (7 * j + 2) x / 65536 % 11 = 4
  | 0, _, _, j, hj => absurd hj (Nat.not_lt_zero _)
  | n + 1, x, h, 0, _ => h.1
  | n + 1, x, h, j + 1, hj => by
    have q := d_P_at n h.2 j (by omega)
    rw [← d_it_add] at q
    rw [show 7 * (j + 1) + 2 = 7 * j + 2 + 7 by omega]
    exact q
theorem d_exc {l h : Nat} (e : (d_ex l).testBit h = true) : 65536 * h + l = 4290658113 ∨ 65536 * h + l = 3002308795 ∨ 65536 * h + l = 1366730941 ∨ 65536 * h + l = 4215984062 := by have q := d_ex_h e; omega
theorem d_c10 {l h : Nat} (hl : l < 65536) (hh : h < 65536) (h1 : ∀ j, j < 10 → d_it (7 * j + 2) (65536 * h + l) / 65536 % 11 = 4) : 65536 * h + l = 4290658113 ∨ 65536 * h + l = 3002308795 ∨ 65536 * h + l = 1366730941 ∨ 65536 * h + l = 4215984062 := by
  have q : d_t1 l = true := (Bool.and_eq_true_iff.mp (d_all hl)).1
  unfold d_t1 at q
  have q := (Bool.or_eq_true_iff.mp q).resolve_left (d_an_ne hh (fun f hf => by
    simp only [List.mem_cons, List.not_mem_nil, or_false] at hf
    rcases hf with rfl | rfl | rfl | rfl | rfl
    · exact d_b2_ok hl hh (h1 0 (by decide))
    · exact d_b9_ok hl hh (h1 1 (by decide))
    · exact d_b16_ok hl hh (h1 2 (by decide))
    · exact d_b23_ok hl hh (h1 3 (by decide))
    · exact d_b30_ok hl hh (h1 4 (by decide))
    ))
  have q := (Bool.and_eq_true_iff.mp (Bool.and_eq_true_iff.mp (Bool.and_eq_true_iff.mp q).1).1).1
  have q := (Bool.or_eq_true_iff.mp q).resolve_left (d_an_ne hh (fun f hf => by
    simp only [List.mem_cons, List.not_mem_nil, or_false] at hf
    rcases hf with rfl | rfl | rfl | rfl | rfl | rfl
    · exact d_b2_ok hl hh (h1 0 (by decide))
    · exact d_b9_ok hl hh (h1 1 (by decide))
    · exact d_b16_ok hl hh (h1 2 (by decide))
    · exact d_b23_ok hl hh (h1 3 (by decide))
    · exact d_b30_ok hl hh (h1 4 (by decide))
    · exact d_b37_ok hl hh (h1 5 (by decide))
    ))
  exact d_exc (d_okv_h hh (fun f hf => by
    simp only [List.mem_cons, List.not_mem_nil, or_false] at hf
    rcases hf with rfl | rfl | rfl | rfl | rfl | rfl | rfl | rfl | rfl | rfl
    · exact d_b2_ok hl hh (h1 0 (by decide))
    · exact d_b9_ok hl hh (h1 1 (by decide))
    · exact d_b16_ok hl hh (h1 2 (by decide))
    · exact d_b23_ok hl hh (h1 3 (by decide))
    · exact d_b30_ok hl hh (h1 4 (by decide))
    · exact d_b37_ok hl hh (h1 5 (by decide))
    · exact d_b44_ok hl hh (h1 6 (by decide))
    · exact d_b51_ok hl hh (h1 7 (by decide))
    · exact d_b58_ok hl hh (h1 8 (by decide))
    · exact d_b65_ok hl hh (h1 9 (by decide))
    ) q)
theorem d_c0_2 {l h : Nat} (hl : l < 65536) (hh : h < 65536) (h1 : ∀ j, j < 0 → d_it (7 * j + 2) (65536 * h + l) / 65536 % 11 = 4) (h2 : ∀ j, j < 10 → d_it (7 * (j + 0) + 4) (65536 * h + l) / 65536 % 11 = 4) : 65536 * h + l = 4290658113 ∨ 65536 * h + l = 3002308795 ∨ 65536 * h + l = 1366730941 ∨ 65536 * h + l = 4215984062 := by
  have q : d_s2 l = true := (Bool.and_eq_true_iff.mp (Bool.and_eq_true_iff.mp (d_all hl)).2).1
  unfold d_s2 at q
  have q := (Bool.or_eq_true_iff.mp q).resolve_left (d_an_ne hh (fun f hf => by
    simp only [List.mem_cons, List.not_mem_nil, or_false] at hf
    rcases hf with rfl | rfl | rfl | rfl | rfl
    · exact d_b39_ok hl hh (h2 5 (by decide))
    · exact d_b46_ok hl hh (h2 6 (by decide))
    · exact d_b53_ok hl hh (h2 7 (by decide))
    · exact d_b60_ok hl hh (h2 8 (by decide))
    · exact d_b67_ok hl hh (h2 9 (by decide))
    ))
  have q := (Bool.and_eq_true_iff.mp q).1
  have q := (Bool.or_eq_true_iff.mp q).resolve_left (d_an_ne hh (fun f hf => by
    simp only [List.mem_cons, List.not_mem_nil, or_false] at hf
    rcases hf with rfl | rfl | rfl | rfl | rfl | rfl
    · exact d_b39_ok hl hh (h2 5 (by decide))
    · exact d_b46_ok hl hh (h2 6 (by decide))
    · exact d_b53_ok hl hh (h2 7 (by decide))
    · exact d_b60_ok hl hh (h2 8 (by decide))
    · exact d_b67_ok hl hh (h2 9 (by decide))
    · exact d_b4_ok hl hh (h2 0 (by decide))
    ))
  exact d_exc (d_okv_h hh (fun f hf => by
    simp only [List.mem_cons, List.not_mem_nil, or_false] at hf
    rcases hf with rfl | rfl | rfl | rfl | rfl | rfl | rfl | rfl | rfl | rfl
    · exact d_b4_ok hl hh (h2 0 (by decide))
    · exact d_b11_ok hl hh (h2 1 (by decide))
    · exact d_b18_ok hl hh (h2 2 (by decide))
    · exact d_b25_ok hl hh (h2 3 (by decide))
    · exact d_b32_ok hl hh (h2 4 (by decide))
    · exact d_b39_ok hl hh (h2 5 (by decide))
    · exact d_b46_ok hl hh (h2 6 (by decide))
    · exact d_b53_ok hl hh (h2 7 (by decide))
    · exact d_b60_ok hl hh (h2 8 (by decide))
    · exact d_b67_ok hl hh (h2 9 (by decide))
    ) q)
theorem d_c0_3 {l h : Nat} (hl : l < 65536) (hh : h < 65536) (h1 : ∀ j, j < 0 → d_it (7 * j + 2) (65536 * h + l) / 65536 % 11 = 4) (h2 : ∀ j, j < 10 → d_it (7 * (j + 0) + 5) (65536 * h + l) / 65536 % 11 = 4) : 65536 * h + l = 4290658113 ∨ 65536 * h + l = 3002308795 ∨ 65536 * h + l = 1366730941 ∨ 65536 * h + l = 4215984062 := by
  have q : d_s3 l = true := (Bool.and_eq_true_iff.mp (Bool.and_eq_true_iff.mp (Bool.and_eq_true_iff.mp (d_all hl)).2).2).1
  unfold d_s3 at q
  have q := (Bool.or_eq_true_iff.mp q).resolve_left (d_an_ne hh (fun f hf => by
    simp only [List.mem_cons, List.not_mem_nil, or_false] at hf
    rcases hf with rfl | rfl | rfl | rfl | rfl
    · exact d_b40_ok hl hh (h2 5 (by decide))
    · exact d_b47_ok hl hh (h2 6 (by decide))
    · exact d_b54_ok hl hh (h2 7 (by decide))
    · exact d_b61_ok hl hh (h2 8 (by decide))
    · exact d_b68_ok hl hh (h2 9 (by decide))
    ))
  have q := (Bool.and_eq_true_iff.mp q).1
  have q := (Bool.or_eq_true_iff.mp q).resolve_left (d_an_ne hh (fun f hf => by
    simp only [List.mem_cons, List.not_mem_nil, or_false] at hf
    rcases hf with rfl | rfl | rfl | rfl | rfl | rfl
    · exact d_b40_ok hl hh (h2 5 (by decide))
    · exact d_b47_ok hl hh (h2 6 (by decide))
    · exact d_b54_ok hl hh (h2 7 (by decide))
    · exact d_b61_ok hl hh (h2 8 (by decide))
    · exact d_b68_ok hl hh (h2 9 (by decide))
    · exact d_b5_ok hl hh (h2 0 (by decide))
    ))
  exact d_exc (d_okv_h hh (fun f hf => by
    simp only [List.mem_cons, List.not_mem_nil, or_false] at hf
    rcases hf with rfl | rfl | rfl | rfl | rfl | rfl | rfl | rfl | rfl | rfl
    · exact d_b5_ok hl hh (h2 0 (by decide))
    · exact d_b12_ok hl hh (h2 1 (by decide))
    · exact d_b19_ok hl hh (h2 2 (by decide))
    · exact d_b26_ok hl hh (h2 3 (by decide))
    · exact d_b33_ok hl hh (h2 4 (by decide))
    · exact d_b40_ok hl hh (h2 5 (by decide))
    · exact d_b47_ok hl hh (h2 6 (by decide))
    · exact d_b54_ok hl hh (h2 7 (by decide))
    · exact d_b61_ok hl hh (h2 8 (by decide))
    · exact d_b68_ok hl hh (h2 9 (by decide))
    ) q)
theorem d_c0_4 {l h : Nat} (hl : l < 65536) (hh : h < 65536) (h1 : ∀ j, j < 0 → d_it (7 * j + 2) (65536 * h + l) / 65536 % 11 = 4) (h2 : ∀ j, j < 10 → d_it (7 * (j + 0) + 6) (65536 * h + l) / 65536 % 11 = 4) : 65536 * h + l = 4290658113 ∨ 65536 * h + l = 3002308795 ∨ 65536 * h + l = 1366730941 ∨ 65536 * h + l = 4215984062 := by
  have q : d_s4 l = true := (Bool.and_eq_true_iff.mp (Bool.and_eq_true_iff.mp (Bool.and_eq_true_iff.mp (d_all hl)).2).2).2
  unfold d_s4 at q
  have q := (Bool.or_eq_true_iff.mp q).resolve_left (d_an_ne hh (fun f hf => by
    simp only [List.mem_cons, List.not_mem_nil, or_false] at hf
    rcases hf with rfl | rfl | rfl | rfl | rfl
    · exact d_b41_ok hl hh (h2 5 (by decide))
    · exact d_b48_ok hl hh (h2 6 (by decide))
    · exact d_b55_ok hl hh (h2 7 (by decide))
    · exact d_b62_ok hl hh (h2 8 (by decide))
    · exact d_b69_ok hl hh (h2 9 (by decide))
    ))
  have q := (Bool.and_eq_true_iff.mp q).1
  have q := (Bool.or_eq_true_iff.mp q).resolve_left (d_an_ne hh (fun f hf => by
    simp only [List.mem_cons, List.not_mem_nil, or_false] at hf
    rcases hf with rfl | rfl | rfl | rfl | rfl | rfl
    · exact d_b41_ok hl hh (h2 5 (by decide))
    · exact d_b48_ok hl hh (h2 6 (by decide))
    · exact d_b55_ok hl hh (h2 7 (by decide))
    · exact d_b62_ok hl hh (h2 8 (by decide))
    · exact d_b69_ok hl hh (h2 9 (by decide))
    · exact d_b6_ok hl hh (h2 0 (by decide))
    ))
  exact d_exc (d_okv_h hh (fun f hf => by
    simp only [List.mem_cons, List.not_mem_nil, or_false] at hf
    rcases hf with rfl | rfl | rfl | rfl | rfl | rfl | rfl | rfl | rfl | rfl
    · exact d_b6_ok hl hh (h2 0 (by decide))
    · exact d_b13_ok hl hh (h2 1 (by decide))
    · exact d_b20_ok hl hh (h2 2 (by decide))
    · exact d_b27_ok hl hh (h2 3 (by decide))
    · exact d_b34_ok hl hh (h2 4 (by decide))
    · exact d_b41_ok hl hh (h2 5 (by decide))
    · exact d_b48_ok hl hh (h2 6 (by decide))
    · exact d_b55_ok hl hh (h2 7 (by decide))
    · exact d_b62_ok hl hh (h2 8 (by decide))
    · exact d_b69_ok hl hh (h2 9 (by decide))
    ) q)
theorem d_c1_2 {l h : Nat} (hl : l < 65536) (hh : h < 65536) (h1 : ∀ j, j < 1 → d_it (7 * j + 2) (65536 * h + l) / 65536 % 11 = 4) (h2 : ∀ j, j < 9 → d_it (7 * (j + 1) + 4) (65536 * h + l) / 65536 % 11 = 4) : 65536 * h + l = 4290658113 ∨ 65536 * h + l = 3002308795 ∨ 65536 * h + l = 1366730941 ∨ 65536 * h + l = 4215984062 := by
  have q : d_s2 l = true := (Bool.and_eq_true_iff.mp (Bool.and_eq_true_iff.mp (d_all hl)).2).1
  unfold d_s2 at q
  have q := (Bool.or_eq_true_iff.mp q).resolve_left (d_an_ne hh (fun f hf => by
    simp only [List.mem_cons, List.not_mem_nil, or_false] at hf
    rcases hf with rfl | rfl | rfl | rfl | rfl
    · exact d_b39_ok hl hh (h2 4 (by decide))
    · exact d_b46_ok hl hh (h2 5 (by decide))
    · exact d_b53_ok hl hh (h2 6 (by decide))
    · exact d_b60_ok hl hh (h2 7 (by decide))
    · exact d_b67_ok hl hh (h2 8 (by decide))
    ))
  have q := (Bool.and_eq_true_iff.mp q).2
  have q := (Bool.or_eq_true_iff.mp q).resolve_left (d_an_ne hh (fun f hf => by
    simp only [List.mem_cons, List.not_mem_nil, or_false] at hf
    rcases hf with rfl | rfl | rfl | rfl | rfl | rfl
    · exact d_b39_ok hl hh (h2 4 (by decide))
    · exact d_b46_ok hl hh (h2 5 (by decide))
    · exact d_b53_ok hl hh (h2 6 (by decide))
    · exact d_b60_ok hl hh (h2 7 (by decide))
    · exact d_b67_ok hl hh (h2 8 (by decide))
    · exact d_b2_ok hl hh (h1 0 (by decide))
    ))
  have q := (Bool.and_eq_true_iff.mp (Bool.and_eq_true_iff.mp (Bool.and_eq_true_iff.mp q).1).1).1
  exact d_exc (d_okv_h hh (fun f hf => by
    simp only [List.mem_cons, List.not_mem_nil, or_false] at hf
    rcases hf with rfl | rfl | rfl | rfl | rfl | rfl | rfl | rfl | rfl | rfl
    · exact d_b2_ok hl hh (h1 0 (by decide))
    · exact d_b11_ok hl hh (h2 0 (by decide))
    · exact d_b18_ok hl hh (h2 1 (by decide))
    · exact d_b25_ok hl hh (h2 2 (by decide))
    · exact d_b32_ok hl hh (h2 3 (by decide))
    · exact d_b39_ok hl hh (h2 4 (by decide))
    · exact d_b46_ok hl hh (h2 5 (by decide))
    · exact d_b53_ok hl hh (h2 6 (by decide))
    · exact d_b60_ok hl hh (h2 7 (by decide))
    · exact d_b67_ok hl hh (h2 8 (by decide))
    ) q)
theorem d_c1_3 {l h : Nat} (hl : l < 65536) (hh : h < 65536) (h1 : ∀ j, j < 1 → d_it (7 * j + 2) (65536 * h + l) / 65536 % 11 = 4) (h2 : ∀ j, j < 9 → d_it (7 * (j + 1) + 5) (65536 * h + l) / 65536 % 11 = 4) : 65536 * h + l = 4290658113 ∨ 65536 * h + l = 3002308795 ∨ 65536 * h + l = 1366730941 ∨ 65536 * h + l = 4215984062 := by
  have q : d_s3 l = true := (Bool.and_eq_true_iff.mp (Bool.and_eq_true_iff.mp (Bool.and_eq_true_iff.mp (d_all hl)).2).2).1
  unfold d_s3 at q
  have q := (Bool.or_eq_true_iff.mp q).resolve_left (d_an_ne hh (fun f hf => by
    simp only [List.mem_cons, List.not_mem_nil, or_false] at hf
    rcases hf with rfl | rfl | rfl | rfl | rfl
    · exact d_b40_ok hl hh (h2 4 (by decide))
    · exact d_b47_ok hl hh (h2 5 (by decide))
    · exact d_b54_ok hl hh (h2 6 (by decide))
    · exact d_b61_ok hl hh (h2 7 (by decide))
    · exact d_b68_ok hl hh (h2 8 (by decide))
    ))
  have q := (Bool.and_eq_true_iff.mp q).2
  have q := (Bool.or_eq_true_iff.mp q).resolve_left (d_an_ne hh (fun f hf => by
    simp only [List.mem_cons, List.not_mem_nil, or_false] at hf
    rcases hf with rfl | rfl | rfl | rfl | rfl | rfl
    · exact d_b40_ok hl hh (h2 4 (by decide))
    · exact d_b47_ok hl hh (h2 5 (by decide))
    · exact d_b54_ok hl hh (h2 6 (by decide))
    · exact d_b61_ok hl hh (h2 7 (by decide))
    · exact d_b68_ok hl hh (h2 8 (by decide))
    · exact d_b2_ok hl hh (h1 0 (by decide))
    ))
  have q := (Bool.and_eq_true_iff.mp (Bool.and_eq_true_iff.mp (Bool.and_eq_true_iff.mp q).1).1).1
  exact d_exc (d_okv_h hh (fun f hf => by
    simp only [List.mem_cons, List.not_mem_nil, or_false] at hf
    rcases hf with rfl | rfl | rfl | rfl | rfl | rfl | rfl | rfl | rfl | rfl
    · exact d_b2_ok hl hh (h1 0 (by decide))
    · exact d_b12_ok hl hh (h2 0 (by decide))
    · exact d_b19_ok hl hh (h2 1 (by decide))
    · exact d_b26_ok hl hh (h2 2 (by decide))
    · exact d_b33_ok hl hh (h2 3 (by decide))
    · exact d_b40_ok hl hh (h2 4 (by decide))
    · exact d_b47_ok hl hh (h2 5 (by decide))
    · exact d_b54_ok hl hh (h2 6 (by decide))
    · exact d_b61_ok hl hh (h2 7 (by decide))
    · exact d_b68_ok hl hh (h2 8 (by decide))
    ) q)
theorem d_c1_4 {l h : Nat} (hl : l < 65536) (hh : h < 65536) (h1 : ∀ j, j < 1 → d_it (7 * j + 2) (65536 * h + l) / 65536 % 11 = 4) (h2 : ∀ j, j < 9 → d_it (7 * (j + 1) + 6) (65536 * h + l) / 65536 % 11 = 4) : 65536 * h + l = 4290658113 ∨ 65536 * h + l = 3002308795 ∨ 65536 * h + l = 1366730941 ∨ 65536 * h + l = 4215984062 := by
  have q : d_s4 l = true := (Bool.and_eq_true_iff.mp (Bool.and_eq_true_iff.mp (Bool.and_eq_true_iff.mp (d_all hl)).2).2).2
  unfold d_s4 at q
  have q := (Bool.or_eq_true_iff.mp q).resolve_left (d_an_ne hh (fun f hf => by
    simp only [List.mem_cons, List.not_mem_nil, or_false] at hf
    rcases hf with rfl | rfl | rfl | rfl | rfl
    · exact d_b41_ok hl hh (h2 4 (by decide))
    · exact d_b48_ok hl hh (h2 5 (by decide))
    · exact d_b55_ok hl hh (h2 6 (by decide))
    · exact d_b62_ok hl hh (h2 7 (by decide))
    · exact d_b69_ok hl hh (h2 8 (by decide))
    ))
  have q := (Bool.and_eq_true_iff.mp q).2
  have q := (Bool.or_eq_true_iff.mp q).resolve_left (d_an_ne hh (fun f hf => by
    simp only [List.mem_cons, List.not_mem_nil, or_false] at hf
    rcases hf with rfl | rfl | rfl | rfl | rfl | rfl
    · exact d_b41_ok hl hh (h2 4 (by decide))
    · exact d_b48_ok hl hh (h2 5 (by decide))
    · exact d_b55_ok hl hh (h2 6 (by decide))
    · exact d_b62_ok hl hh (h2 7 (by decide))
    · exact d_b69_ok hl hh (h2 8 (by decide))
    · exact d_b2_ok hl hh (h1 0 (by decide))
    ))
  have q := (Bool.and_eq_true_iff.mp (Bool.and_eq_true_iff.mp (Bool.and_eq_true_iff.mp q).1).1).1
  exact d_exc (d_okv_h hh (fun f hf => by
    simp only [List.mem_cons, List.not_mem_nil, or_false] at hf
    rcases hf with rfl | rfl | rfl | rfl | rfl | rfl | rfl | rfl | rfl | rfl
    · exact d_b2_ok hl hh (h1 0 (by decide))
    · exact d_b13_ok hl hh (h2 0 (by decide))
    · exact d_b20_ok hl hh (h2 1 (by decide))
    · exact d_b27_ok hl hh (h2 2 (by decide))
    · exact d_b34_ok hl hh (h2 3 (by decide))
    · exact d_b41_ok hl hh (h2 4 (by decide))
    · exact d_b48_ok hl hh (h2 5 (by decide))
    · exact d_b55_ok hl hh (h2 6 (by decide))
    · exact d_b62_ok hl hh (h2 7 (by decide))
    · exact d_b69_ok hl hh (h2 8 (by decide))
    ) q)
theorem d_c2_2 {l h : Nat} (hl : l < 65536) (hh : h < 65536) (h1 : ∀ j, j < 2 → d_it (7 * j + 2) (65536 * h + l) / 65536 % 11 = 4) (h2 : ∀ j, j < 8 → d_it (7 * (j + 2) + 4) (65536 * h + l) / 65536 % 11 = 4) : 65536 * h + l = 4290658113 ∨ 65536 * h + l = 3002308795 ∨ 65536 * h + l = 1366730941 ∨ 65536 * h + l = 4215984062 := by
  have q : d_s2 l = true := (Bool.and_eq_true_iff.mp (Bool.and_eq_true_iff.mp (d_all hl)).2).1
  unfold d_s2 at q
  have q := (Bool.or_eq_true_iff.mp q).resolve_left (d_an_ne hh (fun f hf => by
    simp only [List.mem_cons, List.not_mem_nil, or_false] at hf
    rcases hf with rfl | rfl | rfl | rfl | rfl
    · exact d_b39_ok hl hh (h2 3 (by decide))
    · exact d_b46_ok hl hh (h2 4 (by decide))
    · exact d_b53_ok hl hh (h2 5 (by decide))
    · exact d_b60_ok hl hh (h2 6 (by decide))
    · exact d_b67_ok hl hh (h2 7 (by decide))
    ))
  have q := (Bool.and_eq_true_iff.mp q).2
  have q := (Bool.or_eq_true_iff.mp q).resolve_left (d_an_ne hh (fun f hf => by
    simp only [List.mem_cons, List.not_mem_nil, or_false] at hf
    rcases hf with rfl | rfl | rfl | rfl | rfl | rfl
    · exact d_b39_ok hl hh (h2 3 (by decide))
    · exact d_b46_ok hl hh (h2 4 (by decide))
    · exact d_b53_ok hl hh (h2 5 (by decide))
    · exact d_b60_ok hl hh (h2 6 (by decide))
    · exact d_b67_ok hl hh (h2 7 (by decide))
    · exact d_b2_ok hl hh (h1 0 (by decide))
    ))
  have q := (Bool.and_eq_true_iff.mp (Bool.and_eq_true_iff.mp (Bool.and_eq_true_iff.mp q).1).1).2
  exact d_exc (d_okv_h hh (fun f hf => by
    simp only [List.mem_cons, List.not_mem_nil, or_false] at hf
    rcases hf with rfl | rfl | rfl | rfl | rfl | rfl | rfl | rfl | rfl | rfl
    · exact d_b2_ok hl hh (h1 0 (by decide))
    · exact d_b9_ok hl hh (h1 1 (by decide))
    · exact d_b18_ok hl hh (h2 0 (by decide))
    · exact d_b25_ok hl hh (h2 1 (by decide))
    · exact d_b32_ok hl hh (h2 2 (by decide))
    · exact d_b39_ok hl hh (h2 3 (by decide))
    · exact d_b46_ok hl hh (h2 4 (by decide))
    · exact d_b53_ok hl hh (h2 5 (by decide))
    · exact d_b60_ok hl hh (h2 6 (by decide))
    · exact d_b67_ok hl hh (h2 7 (by decide))
    ) q)
theorem d_c2_3 {l h : Nat} (hl : l < 65536) (hh : h < 65536) (h1 : ∀ j, j < 2 → d_it (7 * j + 2) (65536 * h + l) / 65536 % 11 = 4) (h2 : ∀ j, j < 8 → d_it (7 * (j + 2) + 5) (65536 * h + l) / 65536 % 11 = 4) : 65536 * h + l = 4290658113 ∨ 65536 * h + l = 3002308795 ∨ 65536 * h + l = 1366730941 ∨ 65536 * h + l = 4215984062 := by
  have q : d_s3 l = true := (Bool.and_eq_true_iff.mp (Bool.and_eq_true_iff.mp (Bool.and_eq_true_iff.mp (d_all hl)).2).2).1
  unfold d_s3 at q
  have q := (Bool.or_eq_true_iff.mp q).resolve_left (d_an_ne hh (fun f hf => by
    simp only [List.mem_cons, List.not_mem_nil, or_false] at hf
    rcases hf with rfl | rfl | rfl | rfl | rfl
    · exact d_b40_ok hl hh (h2 3 (by decide))
    · exact d_b47_ok hl hh (h2 4 (by decide))
    · exact d_b54_ok hl hh (h2 5 (by decide))
    · exact d_b61_ok hl hh (h2 6 (by decide))
    · exact d_b68_ok hl hh (h2 7 (by decide))
    ))
  have q := (Bool.and_eq_true_iff.mp q).2
  have q := (Bool.or_eq_true_iff.mp q).resolve_left (d_an_ne hh (fun f hf => by
    simp only [List.mem_cons, List.not_mem_nil, or_false] at hf
    rcases hf with rfl | rfl | rfl | rfl | rfl | rfl
    · exact d_b40_ok hl hh (h2 3 (by decide))
    · exact d_b47_ok hl hh (h2 4 (by decide))
    · exact d_b54_ok hl hh (h2 5 (by decide))
    · exact d_b61_ok hl hh (h2 6 (by decide))
    · exact d_b68_ok hl hh (h2 7 (by decide))
    · exact d_b2_ok hl hh (h1 0 (by decide))
    ))
  have q := (Bool.and_eq_true_iff.mp (Bool.and_eq_true_iff.mp (Bool.and_eq_true_iff.mp q).1).1).2
  exact d_exc (d_okv_h hh (fun f hf => by
    simp only [List.mem_cons, List.not_mem_nil, or_false] at hf
    rcases hf with rfl | rfl | rfl | rfl | rfl | rfl | rfl | rfl | rfl | rfl
    · exact d_b2_ok hl hh (h1 0 (by decide))
    · exact d_b9_ok hl hh (h1 1 (by decide))
    · exact d_b19_ok hl hh (h2 0 (by decide))
    · exact d_b26_ok hl hh (h2 1 (by decide))
    · exact d_b33_ok hl hh (h2 2 (by decide))
    · exact d_b40_ok hl hh (h2 3 (by decide))
    · exact d_b47_ok hl hh (h2 4 (by decide))
    · exact d_b54_ok hl hh (h2 5 (by decide))
    · exact d_b61_ok hl hh (h2 6 (by decide))
    · exact d_b68_ok hl hh (h2 7 (by decide))
    ) q)
theorem d_c2_4 {l h : Nat} (hl : l < 65536) (hh : h < 65536) (h1 : ∀ j, j < 2 → d_it (7 * j + 2) (65536 * h + l) / 65536 % 11 = 4) (h2 : ∀ j, j < 8 → d_it (7 * (j + 2) + 6) (65536 * h + l) / 65536 % 11 = 4) : 65536 * h + l = 4290658113 ∨ 65536 * h + l = 3002308795 ∨ 65536 * h + l = 1366730941 ∨ 65536 * h + l = 4215984062 := by
  have q : d_s4 l = true := (Bool.and_eq_true_iff.mp (Bool.and_eq_true_iff.mp (Bool.and_eq_true_iff.mp (d_all hl)).2).2).2
  unfold d_s4 at q
  have q := (Bool.or_eq_true_iff.mp q).resolve_left (d_an_ne hh (fun f hf => by
    simp only [List.mem_cons, List.not_mem_nil, or_false] at hf
    rcases hf with rfl | rfl | rfl | rfl | rfl
    · exact d_b41_ok hl hh (h2 3 (by decide))
    · exact d_b48_ok hl hh (h2 4 (by decide))
    · exact d_b55_ok hl hh (h2 5 (by decide))
    · exact d_b62_ok hl hh (h2 6 (by decide))
    · exact d_b69_ok hl hh (h2 7 (by decide))
    ))
  have q := (Bool.and_eq_true_iff.mp q).2
  have q := (Bool.or_eq_true_iff.mp q).resolve_left (d_an_ne hh (fun f hf => by
    simp only [List.mem_cons, List.not_mem_nil, or_false] at hf
    rcases hf with rfl | rfl | rfl | rfl | rfl | rfl
    · exact d_b41_ok hl hh (h2 3 (by decide))
    · exact d_b48_ok hl hh (h2 4 (by decide))
    · exact d_b55_ok hl hh (h2 5 (by decide))
    · exact d_b62_ok hl hh (h2 6 (by decide))
    · exact d_b69_ok hl hh (h2 7 (by decide))
    · exact d_b2_ok hl hh (h1 0 (by decide))
    ))
  have q := (Bool.and_eq_true_iff.mp (Bool.and_eq_true_iff.mp (Bool.and_eq_true_iff.mp q).1).1).2
  exact d_exc (d_okv_h hh (fun f hf => by
    simp only [List.mem_cons, List.not_mem_nil, or_false] at hf
    rcases hf with rfl | rfl | rfl | rfl | rfl | rfl | rfl | rfl | rfl | rfl
    · exact d_b2_ok hl hh (h1 0 (by decide))
    · exact d_b9_ok hl hh (h1 1 (by decide))
    · exact d_b20_ok hl hh (h2 0 (by decide))
    · exact d_b27_ok hl hh (h2 1 (by decide))
    · exact d_b34_ok hl hh (h2 2 (by decide))
    · exact d_b41_ok hl hh (h2 3 (by decide))
    · exact d_b48_ok hl hh (h2 4 (by decide))
    · exact d_b55_ok hl hh (h2 5 (by decide))
    · exact d_b62_ok hl hh (h2 6 (by decide))
    · exact d_b69_ok hl hh (h2 7 (by decide))
    ) q)
theorem d_c3_2 {l h : Nat} (hl : l < 65536) (hh : h < 65536) (h1 : ∀ j, j < 3 → d_it (7 * j + 2) (65536 * h + l) / 65536 % 11 = 4) (h2 : ∀ j, j < 7 → d_it (7 * (j + 3) + 4) (65536 * h + l) / 65536 % 11 = 4) : 65536 * h + l = 4290658113 ∨ 65536 * h + l = 3002308795 ∨ 65536 * h + l = 1366730941 ∨ 65536 * h + l = 4215984062 := by
  have q : d_s2 l = true := (Bool.and_eq_true_iff.mp (Bool.and_eq_true_iff.mp (d_all hl)).2).1
  unfold d_s2 at q
  have q := (Bool.or_eq_true_iff.mp q).resolve_left (d_an_ne hh (fun f hf => by
    simp only [List.mem_cons, List.not_mem_nil, or_false] at hf
    rcases hf with rfl | rfl | rfl | rfl | rfl
    · exact d_b39_ok hl hh (h2 2 (by decide))
    · exact d_b46_ok hl hh (h2 3 (by decide))
    · exact d_b53_ok hl hh (h2 4 (by decide))
    · exact d_b60_ok hl hh (h2 5 (by decide))
    · exact d_b67_ok hl hh (h2 6 (by decide))
    ))
  have q := (Bool.and_eq_true_iff.mp q).2
  have q := (Bool.or_eq_true_iff.mp q).resolve_left (d_an_ne hh (fun f hf => by
    simp only [List.mem_cons, List.not_mem_nil, or_false] at hf
    rcases hf with rfl | rfl | rfl | rfl | rfl | rfl
    · exact d_b39_ok hl hh (h2 2 (by decide))
    · exact d_b46_ok hl hh (h2 3 (by decide))
    · exact d_b53_ok hl hh (h2 4 (by decide))
    · exact d_b60_ok hl hh (h2 5 (by decide))
    · exact d_b67_ok hl hh (h2 6 (by decide))
    · exact d_b2_ok hl hh (h1 0 (by decide))
    ))
  have q := (Bool.and_eq_true_iff.mp (Bool.and_eq_true_iff.mp q).1).2
  exact d_exc (d_okv_h hh (fun f hf => by
    simp only [List.mem_cons, List.not_mem_nil, or_false] at hf
    rcases hf with rfl | rfl | rfl | rfl | rfl | rfl | rfl | rfl | rfl | rfl
    · exact d_b2_ok hl hh (h1 0 (by decide))
    · exact d_b9_ok hl hh (h1 1 (by decide))
    · exact d_b16_ok hl hh (h1 2 (by decide))
    · exact d_b25_ok hl hh (h2 0 (by decide))
    · exact d_b32_ok hl hh (h2 1 (by decide))
    · exact d_b39_ok hl hh (h2 2 (by decide))
    · exact d_b46_ok hl hh (h2 3 (by decide))
    · exact d_b53_ok hl hh (h2 4 (by decide))
    · exact d_b60_ok hl hh (h2 5 (by decide))
    · exact d_b67_ok hl hh (h2 6 (by decide))
    ) q)
theorem d_c3_3 {l h : Nat} (hl : l < 65536) (hh : h < 65536) (h1 : ∀ j, j < 3 → d_it (7 * j + 2) (65536 * h + l) / 65536 % 11 = 4) (h2 : ∀ j, j < 7 → d_it (7 * (j + 3) + 5) (65536 * h + l) / 65536 % 11 = 4) : 65536 * h + l = 4290658113 ∨ 65536 * h + l = 3002308795 ∨ 65536 * h + l = 1366730941 ∨ 65536 * h + l = 4215984062 := by
  have q : d_s3 l = true := (Bool.and_eq_true_iff.mp (Bool.and_eq_true_iff.mp (Bool.and_eq_true_iff.mp (d_all hl)).2).2).1
  unfold d_s3 at q
  have q := (Bool.or_eq_true_iff.mp q).resolve_left (d_an_ne hh (fun f hf => by
    simp only [List.mem_cons, List.not_mem_nil, or_false] at hf
    rcases hf with rfl | rfl | rfl | rfl | rfl
    · exact d_b40_ok hl hh (h2 2 (by decide))
    · exact d_b47_ok hl hh (h2 3 (by decide))
    · exact d_b54_ok hl hh (h2 4 (by decide))
    · exact d_b61_ok hl hh (h2 5 (by decide))
    · exact d_b68_ok hl hh (h2 6 (by decide))
    ))
  have q := (Bool.and_eq_true_iff.mp q).2
  have q := (Bool.or_eq_true_iff.mp q).resolve_left (d_an_ne hh (fun f hf => by
    simp only [List.mem_cons, List.not_mem_nil, or_false] at hf
    rcases hf with rfl | rfl | rfl | rfl | rfl | rfl
    · exact d_b40_ok hl hh (h2 2 (by decide))
    · exact d_b47_ok hl hh (h2 3 (by decide))
    · exact d_b54_ok hl hh (h2 4 (by decide))
    · exact d_b61_ok hl hh (h2 5 (by decide))
    · exact d_b68_ok hl hh (h2 6 (by decide))
    · exact d_b2_ok hl hh (h1 0 (by decide))
    ))
  have q := (Bool.and_eq_true_iff.mp (Bool.and_eq_true_iff.mp q).1).2
  exact d_exc (d_okv_h hh (fun f hf => by
    simp only [List.mem_cons, List.not_mem_nil, or_false] at hf
    rcases hf with rfl | rfl | rfl | rfl | rfl | rfl | rfl | rfl | rfl | rfl
    · exact d_b2_ok hl hh (h1 0 (by decide))
    · exact d_b9_ok hl hh (h1 1 (by decide))
    · exact d_b16_ok hl hh (h1 2 (by decide))
    · exact d_b26_ok hl hh (h2 0 (by decide))
    · exact d_b33_ok hl hh (h2 1 (by decide))
    · exact d_b40_ok hl hh (h2 2 (by decide))
    · exact d_b47_ok hl hh (h2 3 (by decide))
    · exact d_b54_ok hl hh (h2 4 (by decide))
    · exact d_b61_ok hl hh (h2 5 (by decide))
    · exact d_b68_ok hl hh (h2 6 (by decide))
    ) q)
theorem d_c3_4 {l h : Nat} (hl : l < 65536) (hh : h < 65536) (h1 : ∀ j, j < 3 → d_it (7 * j + 2) (65536 * h + l) / 65536 % 11 = 4) (h2 : ∀ j, j < 7 → d_it (7 * (j + 3) + 6) (65536 * h + l) / 65536 % 11 = 4) : 65536 * h + l = 4290658113 ∨ 65536 * h + l = 3002308795 ∨ 65536 * h + l = 1366730941 ∨ 65536 * h + l = 4215984062 := by
  have q : d_s4 l = true := (Bool.and_eq_true_iff.mp (Bool.and_eq_true_iff.mp (Bool.and_eq_true_iff.mp (d_all hl)).2).2).2
  unfold d_s4 at q
  have q := (Bool.or_eq_true_iff.mp q).resolve_left (d_an_ne hh (fun f hf => by
    simp only [List.mem_cons, List.not_mem_nil, or_false] at hf
    rcases hf with rfl | rfl | rfl | rfl | rfl
    · exact d_b41_ok hl hh (h2 2 (by decide))
    · exact d_b48_ok hl hh (h2 3 (by decide))
    · exact d_b55_ok hl hh (h2 4 (by decide))
    · exact d_b62_ok hl hh (h2 5 (by decide))
    · exact d_b69_ok hl hh (h2 6 (by decide))
    ))
  have q := (Bool.and_eq_true_iff.mp q).2
  have q := (Bool.or_eq_true_iff.mp q).resolve_left (d_an_ne hh (fun f hf => by
    simp only [List.mem_cons, List.not_mem_nil, or_false] at hf
    rcases hf with rfl | rfl | rfl | rfl | rfl | rfl
    · exact d_b41_ok hl hh (h2 2 (by decide))
    · exact d_b48_ok hl hh (h2 3 (by decide))
    · exact d_b55_ok hl hh (h2 4 (by decide))
    · exact d_b62_ok hl hh (h2 5 (by decide))
    · exact d_b69_ok hl hh (h2 6 (by decide))
    · exact d_b2_ok hl hh (h1 0 (by decide))
    ))
  have q := (Bool.and_eq_true_iff.mp (Bool.and_eq_true_iff.mp q).1).2
  exact d_exc (d_okv_h hh (fun f hf => by
    simp only [List.mem_cons, List.not_mem_nil, or_false] at hf
    rcases hf with rfl | rfl | rfl | rfl | rfl | rfl | rfl | rfl | rfl | rfl
    · exact d_b2_ok hl hh (h1 0 (by decide))
    · exact d_b9_ok hl hh (h1 1 (by decide))
    · exact d_b16_ok hl hh (h1 2 (by decide))
    · exact d_b27_ok hl hh (h2 0 (by decide))
    · exact d_b34_ok hl hh (h2 1 (by decide))
    · exact d_b41_ok hl hh (h2 2 (by decide))
    · exact d_b48_ok hl hh (h2 3 (by decide))
    · exact d_b55_ok hl hh (h2 4 (by decide))
    · exact d_b62_ok hl hh (h2 5 (by decide))
    · exact d_b69_ok hl hh (h2 6 (by decide))
    ) q)
theorem d_c4_2 {l h : Nat} (hl : l < 65536) (hh : h < 65536) (h1 : ∀ j, j < 4 → d_it (7 * j + 2) (65536 * h + l) / 65536 % 11 = 4) (h2 : ∀ j, j < 6 → d_it (7 * (j + 4) + 4) (65536 * h + l) / 65536 % 11 = 4) : 65536 * h + l = 4290658113 ∨ 65536 * h + l = 3002308795 ∨ 65536 * h + l = 1366730941 ∨ 65536 * h + l = 4215984062 := by
  have q : d_s2 l = true := (Bool.and_eq_true_iff.mp (Bool.and_eq_true_iff.mp (d_all hl)).2).1
  unfold d_s2 at q
  have q := (Bool.or_eq_true_iff.mp q).resolve_left (d_an_ne hh (fun f hf => by
    simp only [List.mem_cons, List.not_mem_nil, or_false] at hf
    rcases hf with rfl | rfl | rfl | rfl | rfl
    · exact d_b39_ok hl hh (h2 1 (by decide))
    · exact d_b46_ok hl hh (h2 2 (by decide))
    · exact d_b53_ok hl hh (h2 3 (by decide))
    · exact d_b60_ok hl hh (h2 4 (by decide))
    · exact d_b67_ok hl hh (h2 5 (by decide))
    ))
  have q := (Bool.and_eq_true_iff.mp q).2
  have q := (Bool.or_eq_true_iff.mp q).resolve_left (d_an_ne hh (fun f hf => by
    simp only [List.mem_cons, List.not_mem_nil, or_false] at hf
    rcases hf with rfl | rfl | rfl | rfl | rfl | rfl
    · exact d_b39_ok hl hh (h2 1 (by decide))
    · exact d_b46_ok hl hh (h2 2 (by decide))
    · exact d_b53_ok hl hh (h2 3 (by decide))
    · exact d_b60_ok hl hh (h2 4 (by decide))
    · exact d_b67_ok hl hh (h2 5 (by decide))
    · exact d_b2_ok hl hh (h1 0 (by decide))
    ))
  have q := (Bool.and_eq_true_iff.mp q).2
  exact d_exc (d_okv_h hh (fun f hf => by
    simp only [List.mem_cons, List.not_mem_nil, or_false] at hf
    rcases hf with rfl | rfl | rfl | rfl | rfl | rfl | rfl | rfl | rfl | rfl
    · exact d_b2_ok hl hh (h1 0 (by decide))
    · exact d_b9_ok hl hh (h1 1 (by decide))
    · exact d_b16_ok hl hh (h1 2 (by decide))
    · exact d_b23_ok hl hh (h1 3 (by decide))
    · exact d_b32_ok hl hh (h2 0 (by decide))
    · exact d_b39_ok hl hh (h2 1 (by decide))
    · exact d_b46_ok hl hh (h2 2 (by decide))
    · exact d_b53_ok hl hh (h2 3 (by decide))
    · exact d_b60_ok hl hh (h2 4 (by decide))
    · exact d_b67_ok hl hh (h2 5 (by decide))
    ) q)
theorem d_c4_3 {l h : Nat} (hl : l < 65536) (hh : h < 65536) (h1 : ∀ j, j < 4 → d_it (7 * j + 2) (65536 * h + l) / 65536 % 11 = 4) (h2 : ∀ j, j < 6 → d_it (7 * (j + 4) + 5) (65536 * h + l) / 65536 % 11 = 4) : 65536 * h + l = 4290658113 ∨ 65536 * h + l = 3002308795 ∨ 65536 * h + l = 1366730941 ∨ 65536 * h + l = 4215984062 := by
  have q : d_s3 l = true := (Bool.and_eq_true_iff.mp (Bool.and_eq_true_iff.mp (Bool.and_eq_true_iff.mp (d_all hl)).2).2).1
  unfold d_s3 at q
  have q := (Bool.or_eq_true_iff.mp q).resolve_left (d_an_ne hh (fun f hf => by
    simp only [List.mem_cons, List.not_mem_nil, or_false] at hf
    rcases hf with rfl | rfl | rfl | rfl | rfl
    · exact d_b40_ok hl hh (h2 1 (by decide))
    · exact d_b47_ok hl hh (h2 2 (by decide))
    · exact d_b54_ok hl hh (h2 3 (by decide))
    · exact d_b61_ok hl hh (h2 4 (by decide))
    · exact d_b68_ok hl hh (h2 5 (by decide))
    ))
  have q := (Bool.and_eq_true_iff.mp q).2
  have q := (Bool.or_eq_true_iff.mp q).resolve_left (d_an_ne hh (fun f hf => by
    simp only [List.mem_cons, List.not_mem_nil, or_false] at hf
    rcases hf with rfl | rfl | rfl | rfl | rfl | rfl
    · exact d_b40_ok hl hh (h2 1 (by decide))
    · exact d_b47_ok hl hh (h2 2 (by decide))
    · exact d_b54_ok hl hh (h2 3 (by decide))
    · exact d_b61_ok hl hh (h2 4 (by decide))
    · exact d_b68_ok hl hh (h2 5 (by decide))
    · exact d_b2_ok hl hh (h1 0 (by decide))
    ))
  have q := (Bool.and_eq_true_iff.mp q).2
  exact d_exc (d_okv_h hh (fun f hf => by
    simp only [List.mem_cons, List.not_mem_nil, or_false] at hf
    rcases hf with rfl | rfl | rfl | rfl | rfl | rfl | rfl | rfl | rfl | rfl
    · exact d_b2_ok hl hh (h1 0 (by decide))
    · exact d_b9_ok hl hh (h1 1 (by decide))
    · exact d_b16_ok hl hh (h1 2 (by decide))
    · exact d_b23_ok hl hh (h1 3 (by decide))
    · exact d_b33_ok hl hh (h2 0 (by decide))
    · exact d_b40_ok hl hh (h2 1 (by decide))
    · exact d_b47_ok hl hh (h2 2 (by decide))
    · exact d_b54_ok hl hh (h2 3 (by decide))
    · exact d_b61_ok hl hh (h2 4 (by decide))
    · exact d_b68_ok hl hh (h2 5 (by decide))
    ) q)
theorem d_c4_4 {l h : Nat} (hl : l < 65536) (hh : h < 65536) (h1 : ∀ j, j < 4 → d_it (7 * j + 2) (65536 * h + l) / 65536 % 11 = 4) (h2 : ∀ j, j < 6 → d_it (7 * (j + 4) + 6) (65536 * h + l) / 65536 % 11 = 4) : 65536 * h + l = 4290658113 ∨ 65536 * h + l = 3002308795 ∨ 65536 * h + l = 1366730941 ∨ 65536 * h + l = 4215984062 := by
  have q : d_s4 l = true := (Bool.and_eq_true_iff.mp (Bool.and_eq_true_iff.mp (Bool.and_eq_true_iff.mp (d_all hl)).2).2).2
  unfold d_s4 at q
  have q := (Bool.or_eq_true_iff.mp q).resolve_left (d_an_ne hh (fun f hf => by
    simp only [List.mem_cons, List.not_mem_nil, or_false] at hf
    rcases hf with rfl | rfl | rfl | rfl | rfl
    · exact d_b41_ok hl hh (h2 1 (by decide))
    · exact d_b48_ok hl hh (h2 2 (by decide))
    · exact d_b55_ok hl hh (h2 3 (by decide))
    · exact d_b62_ok hl hh (h2 4 (by decide))
    · exact d_b69_ok hl hh (h2 5 (by decide))
    ))
  have q := (Bool.and_eq_true_iff.mp q).2
  have q := (Bool.or_eq_true_iff.mp q).resolve_left (d_an_ne hh (fun f hf => by
    simp only [List.mem_cons, List.not_mem_nil, or_false] at hf
    rcases hf with rfl | rfl | rfl | rfl | rfl | rfl
    · exact d_b41_ok hl hh (h2 1 (by decide))
    · exact d_b48_ok hl hh (h2 2 (by decide))
    · exact d_b55_ok hl hh (h2 3 (by decide))
    · exact d_b62_ok hl hh (h2 4 (by decide))
    · exact d_b69_ok hl hh (h2 5 (by decide))
    · exact d_b2_ok hl hh (h1 0 (by decide))
    ))
  have q := (Bool.and_eq_true_iff.mp q).2
  exact d_exc (d_okv_h hh (fun f hf => by
    simp only [List.mem_cons, List.not_mem_nil, or_false] at hf
    rcases hf with rfl | rfl | rfl | rfl | rfl | rfl | rfl | rfl | rfl | rfl
    · exact d_b2_ok hl hh (h1 0 (by decide))
    · exact d_b9_ok hl hh (h1 1 (by decide))
    · exact d_b16_ok hl hh (h1 2 (by decide))
    · exact d_b23_ok hl hh (h1 3 (by decide))
    · exact d_b34_ok hl hh (h2 0 (by decide))
    · exact d_b41_ok hl hh (h2 1 (by decide))
    · exact d_b48_ok hl hh (h2 2 (by decide))
    · exact d_b55_ok hl hh (h2 3 (by decide))
    · exact d_b62_ok hl hh (h2 4 (by decide))
    · exact d_b69_ok hl hh (h2 5 (by decide))
    ) q)
theorem d_c5_2 {l h : Nat} (hl : l < 65536) (hh : h < 65536) (h1 : ∀ j, j < 5 → d_it (7 * j + 2) (65536 * h + l) / 65536 % 11 = 4) (h2 : ∀ j, j < 5 → d_it (7 * (j + 5) + 4) (65536 * h + l) / 65536 % 11 = 4) : 65536 * h + l = 4290658113 ∨ 65536 * h + l = 3002308795 ∨ 65536 * h + l = 1366730941 ∨ 65536 * h + l = 4215984062 := by
  have q : d_t1 l = true := (Bool.and_eq_true_iff.mp (d_all hl)).1
  unfold d_t1 at q
  have q := (Bool.or_eq_true_iff.mp q).resolve_left (d_an_ne hh (fun f hf => by
    simp only [List.mem_cons, List.not_mem_nil, or_false] at hf
    rcases hf with rfl | rfl | rfl | rfl | rfl
    · exact d_b2_ok hl hh (h1 0 (by decide))
    · exact d_b9_ok hl hh (h1 1 (by decide))
    · exact d_b16_ok hl hh (h1 2 (by decide))
    · exact d_b23_ok hl hh (h1 3 (by decide))
    · exact d_b30_ok hl hh (h1 4 (by decide))
    ))
  have q := (Bool.and_eq_true_iff.mp (Bool.and_eq_true_iff.mp (Bool.and_eq_true_iff.mp q).1).1).2
  have q := (Bool.or_eq_true_iff.mp q).resolve_left (d_an_ne hh (fun f hf => by
    simp only [List.mem_cons, List.not_mem_nil, or_false] at hf
    rcases hf with rfl | rfl | rfl | rfl | rfl | rfl
    · exact d_b2_ok hl hh (h1 0 (by decide))
    · exact d_b9_ok hl hh (h1 1 (by decide))
    · exact d_b16_ok hl hh (h1 2 (by decide))
    · exact d_b23_ok hl hh (h1 3 (by decide))
    · exact d_b30_ok hl hh (h1 4 (by decide))
    · exact d_b67_ok hl hh (h2 4 (by decide))
    ))
  have q := (Bool.and_eq_true_iff.mp (Bool.and_eq_true_iff.mp (Bool.and_eq_true_iff.mp (Bool.and_eq_true_iff.mp q).1).1).1).1
  exact d_exc (d_okv_h hh (fun f hf => by
    simp only [List.mem_cons, List.not_mem_nil, or_false] at hf
    rcases hf with rfl | rfl | rfl | rfl | rfl | rfl | rfl | rfl | rfl | rfl
    · exact d_b2_ok hl hh (h1 0 (by decide))
    · exact d_b9_ok hl hh (h1 1 (by decide))
    · exact d_b16_ok hl hh (h1 2 (by decide))
    · exact d_b23_ok hl hh (h1 3 (by decide))
    · exact d_b30_ok hl hh (h1 4 (by decide))
    · exact d_b39_ok hl hh (h2 0 (by decide))
    · exact d_b46_ok hl hh (h2 1 (by decide))
    · exact d_b53_ok hl hh (h2 2 (by decide))
    · exact d_b60_ok hl hh (h2 3 (by decide))
    · exact d_b67_ok hl hh (h2 4 (by decide))
    ) q)
theorem d_c5_3 {l h : Nat} (hl : l < 65536) (hh : h < 65536) (h1 : ∀ j, j < 5 → d_it (7 * j + 2) (65536 * h + l) / 65536 % 11 = 4) (h2 : ∀ j, j < 5 → d_it (7 * (j + 5) + 5) (65536 * h + l) / 65536 % 11 = 4) : 65536 * h + l = 4290658113 ∨ 65536 * h + l = 3002308795 ∨ 65536 * h + l = 1366730941 ∨ 65536 * h + l = 4215984062 := by
  have q : d_t1 l = true := (Bool.and_eq_true_iff.mp (d_all hl)).1
  unfold d_t1 at q
  have q := (Bool.or_eq_true_iff.mp q).resolve_left (d_an_ne hh (fun f hf => by
    simp only [List.mem_cons, List.not_mem_nil, or_false] at hf
    rcases hf with rfl | rfl | rfl | rfl | rfl
    · exact d_b2_ok hl hh (h1 0 (by decide))
    · exact d_b9_ok hl hh (h1 1 (by decide))
    · exact d_b16_ok hl hh (h1 2 (by decide))
    · exact d_b23_ok hl hh (h1 3 (by decide))
    · exact d_b30_ok hl hh (h1 4 (by decide))
    ))
  have q := (Bool.and_eq_true_iff.mp (Bool.and_eq_true_iff.mp q).1).2
  have q := (Bool.or_eq_true_iff.mp q).resolve_left (d_an_ne hh (fun f hf => by
    simp only [List.mem_cons, List.not_mem_nil, or_false] at hf
    rcases hf with rfl | rfl | rfl | rfl | rfl | rfl
    · exact d_b2_ok hl hh (h1 0 (by decide))
    · exact d_b9_ok hl hh (h1 1 (by decide))
    · exact d_b16_ok hl hh (h1 2 (by decide))
    · exact d_b23_ok hl hh (h1 3 (by decide))
    · exact d_b30_ok hl hh (h1 4 (by decide))
    · exact d_b68_ok hl hh (h2 4 (by decide))
    ))
  have q := (Bool.and_eq_true_iff.mp (Bool.and_eq_true_iff.mp (Bool.and_eq_true_iff.mp (Bool.and_eq_true_iff.mp q).1).1).1).1
  exact d_exc (d_okv_h hh (fun f hf => by
    simp only [List.mem_cons, List.not_mem_nil, or_false] at hf
    rcases hf with rfl | rfl | rfl | rfl | rfl | rfl | rfl | rfl | rfl | rfl
    · exact d_b2_ok hl hh (h1 0 (by decide))
    · exact d_b9_ok hl hh (h1 1 (by decide))
    · exact d_b16_ok hl hh (h1 2 (by decide))
    · exact d_b23_ok hl hh (h1 3 (by decide))
    · exact d_b30_ok hl hh (h1 4 (by decide))
    · exact d_b40_ok hl hh (h2 0 (by decide))
    · exact d_b47_ok hl hh (h2 1 (by decide))
    · exact d_b54_ok hl hh (h2 2 (by decide))
    · exact d_b61_ok hl hh (h2 3 (by decide))
    · exact d_b68_ok hl hh (h2 4 (by decide))
    ) q)
theorem d_c5_4 {l h : Nat} (hl : l < 65536) (hh : h < 65536) (h1 : ∀ j, j < 5 → d_it (7 * j + 2) (65536 * h + l) / 65536 % 11 = 4) (h2 : ∀ j, j < 5 → d_it (7 * (j + 5) + 6) (65536 * h + l) / 65536 % 11 = 4) : 65536 * h + l = 4290658113 ∨ 65536 * h + l = 3002308795 ∨ 65536 * h + l = 1366730941 ∨ 65536 * h + l = 4215984062 := by
  have q : d_t1 l = true := (Bool.and_eq_true_iff.mp (d_all hl)).1
  unfold d_t1 at q
  have q := (Bool.or_eq_true_iff.mp q).resolve_left (d_an_ne hh (fun f hf => by
    simp only [List.mem_cons, List.not_mem_nil, or_false] at hf
    rcases hf with rfl | rfl | rfl | rfl | rfl
    · exact d_b2_ok hl hh (h1 0 (by decide))
    · exact d_b9_ok hl hh (h1 1 (by decide))
    · exact d_b16_ok hl hh (h1 2 (by decide))
    · exact d_b23_ok hl hh (h1 3 (by decide))
    · exact d_b30_ok hl hh (h1 4 (by decide))
    ))
  have q := (Bool.and_eq_true_iff.mp q).2
  have q := (Bool.or_eq_true_iff.mp q).resolve_left (d_an_ne hh (fun f hf => by
    simp only [List.mem_cons, List.not_mem_nil, or_false] at hf
    rcases hf with rfl | rfl | rfl | rfl | rfl | rfl
    · exact d_b2_ok hl hh (h1 0 (by decide))
    · exact d_b9_ok hl hh (h1 1 (by decide))
    · exact d_b16_ok hl hh (h1 2 (by decide))
    · exact d_b23_ok hl hh (h1 3 (by decide))
    · exact d_b30_ok hl hh (h1 4 (by decide))
    · exact d_b69_ok hl hh (h2 4 (by decide))
    ))
  have q := (Bool.and_eq_true_iff.mp (Bool.and_eq_true_iff.mp (Bool.and_eq_true_iff.mp (Bool.and_eq_true_iff.mp q).1).1).1).1
  exact d_exc (d_okv_h hh (fun f hf => by
    simp only [List.mem_cons, List.not_mem_nil, or_false] at hf
    rcases hf with rfl | rfl | rfl | rfl | rfl | rfl | rfl | rfl | rfl | rfl
    · exact d_b2_ok hl hh (h1 0 (by decide))
    · exact d_b9_ok hl hh (h1 1 (by decide))
    · exact d_b16_ok hl hh (h1 2 (by decide))
    · exact d_b23_ok hl hh (h1 3 (by decide))
    · exact d_b30_ok hl hh (h1 4 (by decide))
    · exact d_b41_ok hl hh (h2 0 (by decide))
    · exact d_b48_ok hl hh (h2 1 (by decide))
    · exact d_b55_ok hl hh (h2 2 (by decide))
    · exact d_b62_ok hl hh (h2 3 (by decide))
    · exact d_b69_ok hl hh (h2 4 (by decide))
    ) q)
theorem d_c6_2 {l h : Nat} (hl : l < 65536) (hh : h < 65536) (h1 : ∀ j, j < 6 → d_it (7 * j + 2) (65536 * h + l) / 65536 % 11 = 4) (h2 : ∀ j, j < 4 → d_it (7 * (j + 6) + 4) (65536 * h + l) / 65536 % 11 = 4) : 65536 * h + l = 4290658113 ∨ 65536 * h + l = 3002308795 ∨ 65536 * h + l = 1366730941 ∨ 65536 * h + l = 4215984062 := by
  have q : d_t1 l = true := (Bool.and_eq_true_iff.mp (d_all hl)).1
  unfold d_t1 at q
  have q := (Bool.or_eq_true_iff.mp q).resolve_left (d_an_ne hh (fun f hf => by
    simp only [List.mem_cons, List.not_mem_nil, or_false] at hf
    rcases hf with rfl | rfl | rfl | rfl | rfl
    · exact d_b2_ok hl hh (h1 0 (by decide))
    · exact d_b9_ok hl hh (h1 1 (by decide))
    · exact d_b16_ok hl hh (h1 2 (by decide))
    · exact d_b23_ok hl hh (h1 3 (by decide))
    · exact d_b30_ok hl hh (h1 4 (by decide))
    ))
  have q := (Bool.and_eq_true_iff.mp (Bool.and_eq_true_iff.mp (Bool.and_eq_true_iff.mp q).1).1).2
  have q := (Bool.or_eq_true_iff.mp q).resolve_left (d_an_ne hh (fun f hf => by
    simp only [List.mem_cons, List.not_mem_nil, or_false] at hf
    rcases hf with rfl | rfl | rfl | rfl | rfl | rfl
    · exact d_b2_ok hl hh (h1 0 (by decide))
    · exact d_b9_ok hl hh (h1 1 (by decide))
    · exact d_b16_ok hl hh (h1 2 (by decide))
    · exact d_b23_ok hl hh (h1 3 (by decide))
    · exact d_b30_ok hl hh (h1 4 (by decide))
    · exact d_b67_ok hl hh (h2 3 (by decide))
    ))
  have q := (Bool.and_eq_true_iff.mp (Bool.and_eq_true_iff.mp (Bool.and_eq_true_iff.mp (Bool.and_eq_true_iff.mp q).1).1).1).2
  exact d_exc (d_okv_h hh (fun f hf => by
    simp only [List.mem_cons, List.not_mem_nil, or_false] at hf
    rcases hf with rfl | rfl | rfl | rfl | rfl | rfl | rfl | rfl | rfl | rfl
    · exact d_b2_ok hl hh (h1 0 (by decide))
    · exact d_b9_ok hl hh (h1 1 (by decide))
    · exact d_b16_ok hl hh (h1 2 (by decide))
    · exact d_b23_ok hl hh (h1 3 (by decide))
    · exact d_b30_ok hl hh (h1 4 (by decide))
    · exact d_b37_ok hl hh (h1 5 (by decide))
    · exact d_b46_ok hl hh (h2 0 (by decide))
    · exact d_b53_ok hl hh (h2 1 (by decide))
    · exact d_b60_ok hl hh (h2 2 (by decide))
    · exact d_b67_ok hl hh (h2 3 (by decide))
    ) q)
theorem d_c6_3 {l h : Nat} (hl : l < 65536) (hh : h < 65536) (h1 : ∀ j, j < 6 → d_it (7 * j + 2) (65536 * h + l) / 65536 % 11 = 4) (h2 : ∀ j, j < 4 → d_it (7 * (j + 6) + 5) (65536 * h + l) / 65536 % 11 = 4) : 65536 * h + l = 4290658113 ∨ 65536 * h + l = 3002308795 ∨ 65536 * h + l = 1366730941 ∨ 65536 * h + l = 4215984062 := by
  have q : d_t1 l = true := (Bool.and_eq_true_iff.mp (d_all hl)).1
  unfold d_t1 at q
  have q := (Bool.or_eq_true_iff.mp q).resolve_left (d_an_ne hh (fun f hf => by
    simp only [List.mem_cons, List.not_mem_nil, or_false] at hf
    rcases hf with rfl | rfl | rfl | rfl | rfl
    · exact d_b2_ok hl hh (h1 0 (by decide))
    · exact d_b9_ok hl hh (h1 1 (by decide))
    · exact d_b16_ok hl hh (h1 2 (by decide))
    · exact d_b23_ok hl hh (h1 3 (by decide))
    · exact d_b30_ok hl hh (h1 4 (by decide))
    ))
  have q := (Bool.and_eq_true_iff.mp (Bool.and_eq_true_iff.mp q).1).2
  have q := (Bool.or_eq_true_iff.mp q).resolve_left (d_an_ne hh (fun f hf => by
    simp only [List.mem_cons, List.not_mem_nil, or_false] at hf
    rcases hf with rfl | rfl | rfl | rfl | rfl | rfl
    · exact d_b2_ok hl hh (h1 0 (by decide))
    · exact d_b9_ok hl hh (h1 1 (by decide))
    · exact d_b16_ok hl hh (h1 2 (by decide))
    · exact d_b23_ok hl hh (h1 3 (by decide))
    · exact d_b30_ok hl hh (h1 4 (by decide))
    · exact d_b68_ok hl hh (h2 3 (by decide))
    ))
  have q := (Bool.and_eq_true_iff.mp (Bool.and_eq_true_iff.mp (Bool.and_eq_true_iff.mp (Bool.and_eq_true_iff.mp q).1).1).1).2
  exact d_exc (d_okv_h hh (fun f hf => by
    simp only [List.mem_cons, List.not_mem_nil, or_false] at hf
    rcases hf with rfl | rfl | rfl | rfl | rfl | rfl | rfl | rfl | rfl | rfl
    · exact d_b2_ok hl hh (h1 0 (by decide))
    · exact d_b9_ok hl hh (h1 1 (by decide))
    · exact d_b16_ok hl hh (h1 2 (by decide))
    · exact d_b23_ok hl hh (h1 3 (by decide))
    · exact d_b30_ok hl hh (h1 4 (by decide))
    · exact d_b37_ok hl hh (h1 5 (by decide))
    · exact d_b47_ok hl hh (h2 0 (by decide))
    · exact d_b54_ok hl hh (h2 1 (by decide))
    · exact d_b61_ok hl hh (h2 2 (by decide))
    · exact d_b68_ok hl hh (h2 3 (by decide))
    ) q)
theorem d_c6_4 {l h : Nat} (hl : l < 65536) (hh : h < 65536) (h1 : ∀ j, j < 6 → d_it (7 * j + 2) (65536 * h + l) / 65536 % 11 = 4) (h2 : ∀ j, j < 4 → d_it (7 * (j + 6) + 6) (65536 * h + l) / 65536 % 11 = 4) : 65536 * h + l = 4290658113 ∨ 65536 * h + l = 3002308795 ∨ 65536 * h + l = 1366730941 ∨ 65536 * h + l = 4215984062 := by
  have q : d_t1 l = true := (Bool.and_eq_true_iff.mp (d_all hl)).1
  unfold d_t1 at q
  have q := (Bool.or_eq_true_iff.mp q).resolve_left (d_an_ne hh (fun f hf => by
    simp only [List.mem_cons, List.not_mem_nil, or_false] at hf
    rcases hf with rfl | rfl | rfl | rfl | rfl
    · exact d_b2_ok hl hh (h1 0 (by decide))
    · exact d_b9_ok hl hh (h1 1 (by decide))
    · exact d_b16_ok hl hh (h1 2 (by decide))
    · exact d_b23_ok hl hh (h1 3 (by decide))
    · exact d_b30_ok hl hh (h1 4 (by decide))
    ))
  have q := (Bool.and_eq_true_iff.mp q).2
  have q := (Bool.or_eq_true_iff.mp q).resolve_left (d_an_ne hh (fun f hf => by
    simp only [List.mem_cons, List.not_mem_nil, or_false] at hf
    rcases hf with rfl | rfl | rfl | rfl | rfl | rfl
    · exact d_b2_ok hl hh (h1 0 (by decide))
    · exact d_b9_ok hl hh (h1 1 (by decide))
    · exact d_b16_ok hl hh (h1 2 (by decide))
    · exact d_b23_ok hl hh (h1 3 (by decide))
    · exact d_b30_ok hl hh (h1 4 (by decide))
    · exact d_b69_ok hl hh (h2 3 (by decide))
    ))
  have q := (Bool.and_eq_true_iff.mp (Bool.and_eq_true_iff.mp (Bool.and_eq_true_iff.mp (Bool.and_eq_true_iff.mp q).1).1).1).2
  exact d_exc (d_okv_h hh (fun f hf => by
    simp only [List.mem_cons, List.not_mem_nil, or_false] at hf
    rcases hf with rfl | rfl | rfl | rfl | rfl | rfl | rfl | rfl | rfl | rfl
    · exact d_b2_ok hl hh (h1 0 (by decide))
    · exact d_b9_ok hl hh (h1 1 (by decide))
    · exact d_b16_ok hl hh (h1 2 (by decide))
    · exact d_b23_ok hl hh (h1 3 (by decide))
    · exact d_b30_ok hl hh (h1 4 (by decide))
    · exact d_b37_ok hl hh (h1 5 (by decide))
    · exact d_b48_ok hl hh (h2 0 (by decide))
    · exact d_b55_ok hl hh (h2 1 (by decide))
    · exact d_b62_ok hl hh (h2 2 (by decide))
    · exact d_b69_ok hl hh (h2 3 (by decide))
    ) q)
theorem d_c7_2 {l h : Nat} (hl : l < 65536) (hh : h < 65536) (h1 : ∀ j, j < 7 → d_it (7 * j + 2) (65536 * h + l) / 65536 % 11 = 4) (h2 : ∀ j, j < 3 → d_it (7 * (j + 7) + 4) (65536 * h + l) / 65536 % 11 = 4) : 65536 * h + l = 4290658113 ∨ 65536 * h + l = 3002308795 ∨ 65536 * h + l = 1366730941 ∨ 65536 * h + l = 4215984062 := by
  have q : d_t1 l = true := (Bool.and_eq_true_iff.mp (d_all hl)).1
  unfold d_t1 at q
  have q := (Bool.or_eq_true_iff.mp q).resolve_left (d_an_ne hh (fun f hf => by
    simp only [List.mem_cons, List.not_mem_nil, or_false] at hf
    rcases hf with rfl | rfl | rfl | rfl | rfl
    · exact d_b2_ok hl hh (h1 0 (by decide))
    · exact d_b9_ok hl hh (h1 1 (by decide))
    · exact d_b16_ok hl hh (h1 2 (by decide))
    · exact d_b23_ok hl hh (h1 3 (by decide))
    · exact d_b30_ok hl hh (h1 4 (by decide))
    ))
  have q := (Bool.and_eq_true_iff.mp (Bool.and_eq_true_iff.mp (Bool.and_eq_true_iff.mp q).1).1).2
  have q := (Bool.or_eq_true_iff.mp q).resolve_left (d_an_ne hh (fun f hf => by
    simp only [List.mem_cons, List.not_mem_nil, or_false] at hf
    rcases hf with rfl | rfl | rfl | rfl | rfl | rfl
    · exact d_b2_ok hl hh (h1 0 (by decide))
    · exact d_b9_ok hl hh (h1 1 (by decide))
    · exact d_b16_ok hl hh (h1 2 (by decide))
    · exact d_b23_ok hl hh (h1 3 (by decide))
    · exact d_b30_ok hl hh (h1 4 (by decide))
    · exact d_b67_ok hl hh (h2 2 (by decide))
    ))
  have q := (Bool.and_eq_true_iff.mp (Bool.and_eq_true_iff.mp (Bool.and_eq_true_iff.mp q).1).1).2
  exact d_exc (d_okv_h hh (fun f hf => by
    simp only [List.mem_cons, List.not_mem_nil, or_false] at hf
    rcases hf with rfl | rfl | rfl | rfl | rfl | rfl | rfl | rfl | rfl | rfl
    · exact d_b2_ok hl hh (h1 0 (by decide))
    · exact d_b9_ok hl hh (h1 1 (by decide))
    · exact d_b16_ok hl hh (h1 2 (by decide))
    · exact d_b23_ok hl hh (h1 3 (by decide))
    · exact d_b30_ok hl hh (h1 4 (by decide))
    · exact d_b37_ok hl hh (h1 5 (by decide))
    · exact d_b44_ok hl hh (h1 6 (by decide))
    · exact d_b53_ok hl hh (h2 0 (by decide))
    · exact d_b60_ok hl hh (h2 1 (by decide))
    · exact d_b67_ok hl hh (h2 2 (by decide))
    ) q)
theorem d_c7_3 {l h : Nat} (hl : l < 65536) (hh : h < 65536) (h1 : ∀ j, j < 7 → d_it (7 * j + 2) (65536 * h + l) / 65536 % 11 = 4) (h2 : ∀ j, j < 3 → d_it (7 * (j + 7) + 5) (65536 * h + l) / 65536 % 11 = 4) : 65536 * h + l = 4290658113 ∨ 65536 * h + l = 3002308795 ∨ 65536 * h + l = 1366730941 ∨ 65536 * h + l = 4215984062 := by
  have q : d_t1 l = true := (Bool.and_eq_true_iff.mp (d_all hl)).1
  unfold d_t1 at q
  have q := (Bool.or_eq_true_iff.mp q).resolve_left (d_an_ne hh (fun f hf => by
    simp only [List.mem_cons, List.not_mem_nil, or_false] at hf
    rcases hf with rfl | rfl | rfl | rfl | rfl
    · exact d_b2_ok hl hh (h1 0 (by decide))
    · exact d_b9_ok hl hh (h1 1 (by decide))
    · exact d_b16_ok hl hh (h1 2 (by decide))
    · exact d_b23_ok hl hh (h1 3 (by decide))
    · exact d_b30_ok hl hh (h1 4 (by decide))
    ))
  have q := (Bool.and_eq_true_iff.mp (Bool.and_eq_true_iff.mp q).1).2
  have q := (Bool.or_eq_true_iff.mp q).resolve_left (d_an_ne hh (fun f hf => by
    simp only [List.mem_cons, List.not_mem_nil, or_false] at hf
    rcases hf with rfl | rfl | rfl | rfl | rfl | rfl
    · exact d_b2_ok hl hh (h1 0 (by decide))
    · exact d_b9_ok hl hh (h1 1 (by decide))
    · exact d_b16_ok hl hh (h1 2 (by decide))
    · exact d_b23_ok hl hh (h1 3 (by decide))
    · exact d_b30_ok hl hh (h1 4 (by decide))
    · exact d_b68_ok hl hh (h2 2 (by decide))
    ))
  have q := (Bool.and_eq_true_iff.mp (Bool.and_eq_true_iff.mp (Bool.and_eq_true_iff.mp q).1).1).2
  exact d_exc (d_okv_h hh (fun f hf => by
    simp only [List.mem_cons, List.not_mem_nil, or_false] at hf
    rcases hf with rfl | rfl | rfl | rfl | rfl | rfl | rfl | rfl | rfl | rfl
    · exact d_b2_ok hl hh (h1 0 (by decide))
    · exact d_b9_ok hl hh (h1 1 (by decide))
    · exact d_b16_ok hl hh (h1 2 (by decide))
    · exact d_b23_ok hl hh (h1 3 (by decide))
    · exact d_b30_ok hl hh (h1 4 (by decide))
    · exact d_b37_ok hl hh (h1 5 (by decide))
    · exact d_b44_ok hl hh (h1 6 (by decide))
    · exact d_b54_ok hl hh (h2 0 (by decide))
    · exact d_b61_ok hl hh (h2 1 (by decide))
    · exact d_b68_ok hl hh (h2 2 (by decide))
    ) q)
theorem d_c7_4 {l h : Nat} (hl : l < 65536) (hh : h < 65536) (h1 : ∀ j, j < 7 → d_it (7 * j + 2) (65536 * h + l) / 65536 % 11 = 4) (h2 : ∀ j, j < 3 → d_it (7 * (j + 7) + 6) (65536 * h + l) / 65536 % 11 = 4) : 65536 * h + l = 4290658113 ∨ 65536 * h + l = 3002308795 ∨ 65536 * h + l = 1366730941 ∨ 65536 * h + l = 4215984062 := by
  have q : d_t1 l = true := (Bool.and_eq_true_iff.mp (d_all hl)).1
  unfold d_t1 at q
  have q := (Bool.or_eq_true_iff.mp q).resolve_left (d_an_ne hh (fun f hf => by
    simp only [List.mem_cons, List.not_mem_nil, or_false] at hf
    rcases hf with rfl | rfl | rfl | rfl | rfl
    · exact d_b2_ok hl hh (h1 0 (by decide))
    · exact d_b9_ok hl hh (h1 1 (by decide))
    · exact d_b16_ok hl hh (h1 2 (by decide))
    · exact d_b23_ok hl hh (h1 3 (by decide))
    · exact d_b30_ok hl hh (h1 4 (by decide))
    ))
  have q := (Bool.and_eq_true_iff.mp q).2
  have q := (Bool.or_eq_true_iff.mp q).resolve_left (d_an_ne hh (fun f hf => by
    simp only [List.mem_cons, List.not_mem_nil, or_false] at hf
    rcases hf with rfl | rfl | rfl | rfl | rfl | rfl
    · exact d_b2_ok hl hh (h1 0 (by decide))
    · exact d_b9_ok hl hh (h1 1 (by decide))
    · exact d_b16_ok hl hh (h1 2 (by decide))
    · exact d_b23_ok hl hh (h1 3 (by decide))
    · exact d_b30_ok hl hh (h1 4 (by decide))
    · exact d_b69_ok hl hh (h2 2 (by decide))
    ))
  have q := (Bool.and_eq_true_iff.mp (Bool.and_eq_true_iff.mp (Bool.and_eq_true_iff.mp q).1).1).2
  exact d_exc (d_okv_h hh (fun f hf => by
    simp only [List.mem_cons, List.not_mem_nil, or_false] at hf
    rcases hf with rfl | rfl | rfl | rfl | rfl | rfl | rfl | rfl | rfl | rfl
    · exact d_b2_ok hl hh (h1 0 (by decide))
    · exact d_b9_ok hl hh (h1 1 (by decide))
    · exact d_b16_ok hl hh (h1 2 (by decide))
    · exact d_b23_ok hl hh (h1 3 (by decide))
    · exact d_b30_ok hl hh (h1 4 (by decide))
    · exact d_b37_ok hl hh (h1 5 (by decide))
    · exact d_b44_ok hl hh (h1 6 (by decide))
    · exact d_b55_ok hl hh (h2 0 (by decide))
    · exact d_b62_ok hl hh (h2 1 (by decide))
    · exact d_b69_ok hl hh (h2 2 (by decide))
    ) q)
theorem d_c8_2 {l h : Nat} (hl : l < 65536) (hh : h < 65536) (h1 : ∀ j, j < 8 → d_it (7 * j + 2) (65536 * h + l) / 65536 % 11 = 4) (h2 : ∀ j, j < 2 → d_it (7 * (j + 8) + 4) (65536 * h + l) / 65536 % 11 = 4) : 65536 * h + l = 4290658113 ∨ 65536 * h + l = 3002308795 ∨ 65536 * h + l = 1366730941 ∨ 65536 * h + l = 4215984062 := by
  have q : d_t1 l = true := (Bool.and_eq_true_iff.mp (d_all hl)).1
  unfold d_t1 at q
  have q := (Bool.or_eq_true_iff.mp q).resolve_left (d_an_ne hh (fun f hf => by
    simp only [List.mem_cons, List.not_mem_nil, or_false] at hf
    rcases hf with rfl | rfl | rfl | rfl | rfl
    · exact d_b2_ok hl hh (h1 0 (by decide))
    · exact d_b9_ok hl hh (h1 1 (by decide))
    · exact d_b16_ok hl hh (h1 2 (by decide))
    · exact d_b23_ok hl hh (h1 3 (by decide))
    · exact d_b30_ok hl hh (h1 4 (by decide))
    ))
  have q := (Bool.and_eq_true_iff.mp (Bool.and_eq_true_iff.mp (Bool.and_eq_true_iff.mp q).1).1).2
  have q := (Bool.or_eq_true_iff.mp q).resolve_left (d_an_ne hh (fun f hf => by
    simp only [List.mem_cons, List.not_mem_nil, or_false] at hf
    rcases hf with rfl | rfl | rfl | rfl | rfl | rfl
    · exact d_b2_ok hl hh (h1 0 (by decide))
    · exact d_b9_ok hl hh (h1 1 (by decide))
    · exact d_b16_ok hl hh (h1 2 (by decide))
    · exact d_b23_ok hl hh (h1 3 (by decide))
    · exact d_b30_ok hl hh (h1 4 (by decide))
    · exact d_b67_ok hl hh (h2 1 (by decide))
    ))
  have q := (Bool.and_eq_true_iff.mp (Bool.and_eq_true_iff.mp q).1).2
  exact d_exc (d_okv_h hh (fun f hf => by
    simp only [List.mem_cons, List.not_mem_nil, or_false] at hf
    rcases hf with rfl | rfl | rfl | rfl | rfl | rfl | rfl | rfl | rfl | rfl
    · exact d_b2_ok hl hh (h1 0 (by decide))
    · exact d_b9_ok hl hh (h1 1 (by decide))
    · exact d_b16_ok hl hh (h1 2 (by decide))
    · exact d_b23_ok hl hh (h1 3 (by decide))
    · exact d_b30_ok hl hh (h1 4 (by decide))
    · exact d_b37_ok hl hh (h1 5 (by decide))
    · exact d_b44_ok hl hh (h1 6 (by decide))
    · exact d_b51_ok hl hh (h1 7 (by decide))
    · exact d_b60_ok hl hh (h2 0 (by decide))
    · exact d_b67_ok hl hh (h2 1 (by decide))
    ) q)
theorem d_c8_3 {l h : Nat} (hl : l < 65536) (hh : h < 65536) (h1 : ∀ j, j < 8 → d_it (7 * j + 2) (65536 * h + l) / 65536 % 11 = 4) (h2 : ∀ j, j < 2 → d_it (7 * (j + 8) + 5) (65536 * h + l) / 65536 % 11 = 4) : 65536 * h + l = 4290658113 ∨ 65536 * h + l = 3002308795 ∨ 65536 * h + l = 1366730941 ∨ 65536 * h + l = 4215984062 := by
  have q : d_t1 l = true := (Bool.and_eq_true_iff.mp (d_all hl)).1
  unfold d_t1 at q
  have q := (Bool.or_eq_true_iff.mp q).resolve_left (d_an_ne hh (fun f hf => by
    simp only [List.mem_cons, List.not_mem_nil, or_false] at hf
    rcases hf with rfl | rfl | rfl | rfl | rfl
    · exact d_b2_ok hl hh (h1 0 (by decide))
    · exact d_b9_ok hl hh (h1 1 (by decide))
    · exact d_b16_ok hl hh (h1 2 (by decide))
    · exact d_b23_ok hl hh (h1 3 (by decide))
    · exact d_b30_ok hl hh (h1 4 (by decide))
    ))
  have q := (Bool.and_eq_true_iff.mp (Bool.and_eq_true_iff.mp q).1).2
  have q := (Bool.or_eq_true_iff.mp q).resolve_left (d_an_ne hh (fun f hf => by
    simp only [List.mem_cons, List.not_mem_nil, or_false] at hf
    rcases hf with rfl | rfl | rfl | rfl | rfl | rfl
    · exact d_b2_ok hl hh (h1 0 (by decide))
    · exact d_b9_ok hl hh (h1 1 (by decide))
    · exact d_b16_ok hl hh (h1 2 (by decide))
    · exact d_b23_ok hl hh (h1 3 (by decide))
    · exact d_b30_ok hl hh (h1 4 (by decide))
    · exact d_b68_ok hl hh (h2 1 (by decide))
    ))
  have q := (Bool.and_eq_true_iff.mp (Bool.and_eq_true_iff.mp q).1).2
  exact d_exc (d_okv_h hh (fun f hf => by
    simp only [List.mem_cons, List.not_mem_nil, or_false] at hf
    rcases hf with rfl | rfl | rfl | rfl | rfl | rfl | rfl | rfl | rfl | rfl
    · exact d_b2_ok hl hh (h1 0 (by decide))
    · exact d_b9_ok hl hh (h1 1 (by decide))
    · exact d_b16_ok hl hh (h1 2 (by decide))
    · exact d_b23_ok hl hh (h1 3 (by decide))
    · exact d_b30_ok hl hh (h1 4 (by decide))
    · exact d_b37_ok hl hh (h1 5 (by decide))
    · exact d_b44_ok hl hh (h1 6 (by decide))
    · exact d_b51_ok hl hh (h1 7 (by decide))
    · exact d_b61_ok hl hh (h2 0 (by decide))
    · exact d_b68_ok hl hh (h2 1 (by decide))
    ) q)
theorem d_c8_4 {l h : Nat} (hl : l < 65536) (hh : h < 65536) (h1 : ∀ j, j < 8 → d_it (7 * j + 2) (65536 * h + l) / 65536 % 11 = 4) (h2 : ∀ j, j < 2 → d_it (7 * (j + 8) + 6) (65536 * h + l) / 65536 % 11 = 4) : 65536 * h + l = 4290658113 ∨ 65536 * h + l = 3002308795 ∨ 65536 * h + l = 1366730941 ∨ 65536 * h + l = 4215984062 := by
  have q : d_t1 l = true := (Bool.and_eq_true_iff.mp (d_all hl)).1
  unfold d_t1 at q
  have q := (Bool.or_eq_true_iff.mp q).resolve_left (d_an_ne hh (fun f hf => by
    simp only [List.mem_cons, List.not_mem_nil, or_false] at hf
    rcases hf with rfl | rfl | rfl | rfl | rfl
    · exact d_b2_ok hl hh (h1 0 (by decide))
    · exact d_b9_ok hl hh (h1 1 (by decide))
    · exact d_b16_ok hl hh (h1 2 (by decide))
    · exact d_b23_ok hl hh (h1 3 (by decide))
    · exact d_b30_ok hl hh (h1 4 (by decide))
    ))
  have q := (Bool.and_eq_true_iff.mp q).2
  have q := (Bool.or_eq_true_iff.mp q).resolve_left (d_an_ne hh (fun f hf => by
    simp only [List.mem_cons, List.not_mem_nil, or_false] at hf
    rcases hf with rfl | rfl | rfl | rfl | rfl | rfl
    · exact d_b2_ok hl hh (h1 0 (by decide))
    · exact d_b9_ok hl hh (h1 1 (by decide))
    · exact d_b16_ok hl hh (h1 2 (by decide))
    · exact d_b23_ok hl hh (h1 3 (by decide))
    · exact d_b30_ok hl hh (h1 4 (by decide))
    · exact d_b69_ok hl hh (h2 1 (by decide))
    ))
  have q := (Bool.and_eq_true_iff.mp (Bool.and_eq_true_iff.mp q).1).2
  exact d_exc (d_okv_h hh (fun f hf => by
    simp only [List.mem_cons, List.not_mem_nil, or_false] at hf
    rcases hf with rfl | rfl | rfl | rfl | rfl | rfl | rfl | rfl | rfl | rfl
    · exact d_b2_ok hl hh (h1 0 (by decide))
    · exact d_b9_ok hl hh (h1 1 (by decide))
    · exact d_b16_ok hl hh (h1 2 (by decide))
    · exact d_b23_ok hl hh (h1 3 (by decide))
    · exact d_b30_ok hl hh (h1 4 (by decide))
    · exact d_b37_ok hl hh (h1 5 (by decide))
    · exact d_b44_ok hl hh (h1 6 (by decide))
    · exact d_b51_ok hl hh (h1 7 (by decide))
    · exact d_b62_ok hl hh (h2 0 (by decide))
    · exact d_b69_ok hl hh (h2 1 (by decide))
    ) q)
theorem d_c9_2 {l h : Nat} (hl : l < 65536) (hh : h < 65536) (h1 : ∀ j, j < 9 → d_it (7 * j + 2) (65536 * h + l) / 65536 % 11 = 4) (h2 : ∀ j, j < 1 → d_it (7 * (j + 9) + 4) (65536 * h + l) / 65536 % 11 = 4) : 65536 * h + l = 4290658113 ∨ 65536 * h + l = 3002308795 ∨ 65536 * h + l = 1366730941 ∨ 65536 * h + l = 4215984062 := by
  have q : d_t1 l = true := (Bool.and_eq_true_iff.mp (d_all hl)).1
  unfold d_t1 at q
  have q := (Bool.or_eq_true_iff.mp q).resolve_left (d_an_ne hh (fun f hf => by
    simp only [List.mem_cons, List.not_mem_nil, or_false] at hf
    rcases hf with rfl | rfl | rfl | rfl | rfl
    · exact d_b2_ok hl hh (h1 0 (by decide))
    · exact d_b9_ok hl hh (h1 1 (by decide))
    · exact d_b16_ok hl hh (h1 2 (by decide))
    · exact d_b23_ok hl hh (h1 3 (by decide))
    · exact d_b30_ok hl hh (h1 4 (by decide))
    ))
  have q := (Bool.and_eq_true_iff.mp (Bool.and_eq_true_iff.mp (Bool.and_eq_true_iff.mp q).1).1).2
  have q := (Bool.or_eq_true_iff.mp q).resolve_left (d_an_ne hh (fun f hf => by
    simp only [List.mem_cons, List.not_mem_nil, or_false] at hf
    rcases hf with rfl | rfl | rfl | rfl | rfl | rfl
    · exact d_b2_ok hl hh (h1 0 (by decide))
    · exact d_b9_ok hl hh (h1 1 (by decide))
    · exact d_b16_ok hl hh (h1 2 (by decide))
    · exact d_b23_ok hl hh (h1 3 (by decide))
    · exact d_b30_ok hl hh (h1 4 (by decide))
    · exact d_b67_ok hl hh (h2 0 (by decide))
    ))
  have q := (Bool.and_eq_true_iff.mp q).2
  exact d_exc (d_okv_h hh (fun f hf => by
    simp only [List.mem_cons, List.not_mem_nil, or_false] at hf
    rcases hf with rfl | rfl | rfl | rfl | rfl | rfl | rfl | rfl | rfl | rfl
    · exact d_b2_ok hl hh (h1 0 (by decide))
    · exact d_b9_ok hl hh (h1 1 (by decide))
    · exact d_b16_ok hl hh (h1 2 (by decide))
    · exact d_b23_ok hl hh (h1 3 (by decide))
    · exact d_b30_ok hl hh (h1 4 (by decide))
    · exact d_b37_ok hl hh (h1 5 (by decide))
    · exact d_b44_ok hl hh (h1 6 (by decide))
    · exact d_b51_ok hl hh (h1 7 (by decide))
    · exact d_b58_ok hl hh (h1 8 (by decide))
    · exact d_b67_ok hl hh (h2 0 (by decide))
    ) q)
theorem d_c9_3 {l h : Nat} (hl : l < 65536) (hh : h < 65536) (h1 : ∀ j, j < 9 → d_it (7 * j + 2) (65536 * h + l) / 65536 % 11 = 4) (h2 : ∀ j, j < 1 → d_it (7 * (j + 9) + 5) (65536 * h + l) / 65536 % 11 = 4) : 65536 * h + l = 4290658113 ∨ 65536 * h + l = 3002308795 ∨ 65536 * h + l = 1366730941 ∨ 65536 * h + l = 4215984062 := by
  have q : d_t1 l = true := (Bool.and_eq_true_iff.mp (d_all hl)).1
  unfold d_t1 at q
  have q := (Bool.or_eq_true_iff.mp q).resolve_left (d_an_ne hh (fun f hf => by
    simp only [List.mem_cons, List.not_mem_nil, or_false] at hf
    rcases hf with rfl | rfl | rfl | rfl | rfl
    · exact d_b2_ok hl hh (h1 0 (by decide))
    · exact d_b9_ok hl hh (h1 1 (by decide))
    · exact d_b16_ok hl hh (h1 2 (by decide))
    · exact d_b23_ok hl hh (h1 3 (by decide))
    · exact d_b30_ok hl hh (h1 4 (by decide))
    ))
  have q := (Bool.and_eq_true_iff.mp (Bool.and_eq_true_iff.mp q).1).2
  have q := (Bool.or_eq_true_iff.mp q).resolve_left (d_an_ne hh (fun f hf => by
    simp only [List.mem_cons, List.not_mem_nil, or_false] at hf
    rcases hf with rfl | rfl | rfl | rfl | rfl | rfl
    · exact d_b2_ok hl hh (h1 0 (by decide))
    · exact d_b9_ok hl hh (h1 1 (by decide))
    · exact d_b16_ok hl hh (h1 2 (by decide))
    · exact d_b23_ok hl hh (h1 3 (by decide))
    · exact d_b30_ok hl hh (h1 4 (by decide))
    · exact d_b68_ok hl hh (h2 0 (by decide))
    ))
  have q := (Bool.and_eq_true_iff.mp q).2
  exact d_exc (d_okv_h hh (fun f hf => by
    simp only [List.mem_cons, List.not_mem_nil, or_false] at hf
    rcases hf with rfl | rfl | rfl | rfl | rfl | rfl | rfl | rfl | rfl | rfl
    · exact d_b2_ok hl hh (h1 0 (by decide))
    · exact d_b9_ok hl hh (h1 1 (by decide))
    · exact d_b16_ok hl hh (h1 2 (by decide))
    · exact d_b23_ok hl hh (h1 3 (by decide))
    · exact d_b30_ok hl hh (h1 4 (by decide))
    · exact d_b37_ok hl hh (h1 5 (by decide))
    · exact d_b44_ok hl hh (h1 6 (by decide))
    · exact d_b51_ok hl hh (h1 7 (by decide))
    · exact d_b58_ok hl hh (h1 8 (by decide))
    · exact d_b68_ok hl hh (h2 0 (by decide))
    ) q)
theorem d_c9_4 {l h : Nat} (hl : l < 65536) (hh : h < 65536) (h1 : ∀ j, j < 9 → d_it (7 * j + 2) (65536 * h + l) / 65536 % 11 = 4) (h2 : ∀ j, j < 1 → d_it (7 * (j + 9) + 6) (65536 * h + l) / 65536 % 11 = 4) : 65536 * h + l = 4290658113 ∨ 65536 * h + l = 3002308795 ∨ 65536 * h + l = 1366730941 ∨ 65536 * h + l = 4215984062 := by
  have q : d_t1 l = true := (Bool.and_eq_true_iff.mp (d_all hl)).1
  unfold d_t1 at q
  have q := (Bool.or_eq_true_iff.mp q).resolve_left (d_an_ne hh (fun f hf => by
    simp only [List.mem_cons, List.not_mem_nil, or_false] at hf
    rcases hf with rfl | rfl | rfl | rfl | rfl
    · exact d_b2_ok hl hh (h1 0 (by decide))
    · exact d_b9_ok hl hh (h1 1 (by decide))
    · exact d_b16_ok hl hh (h1 2 (by decide))
    · exact d_b23_ok hl hh (h1 3 (by decide))
    · exact d_b30_ok hl hh (h1 4 (by decide))
    ))
  have q := (Bool.and_eq_true_iff.mp q).2
  have q := (Bool.or_eq_true_iff.mp q).resolve_left (d_an_ne hh (fun f hf => by
    simp only [List.mem_cons, List.not_mem_nil, or_false] at hf
    rcases hf with rfl | rfl | rfl | rfl | rfl | rfl
    · exact d_b2_ok hl hh (h1 0 (by decide))
    · exact d_b9_ok hl hh (h1 1 (by decide))
    · exact d_b16_ok hl hh (h1 2 (by decide))
    · exact d_b23_ok hl hh (h1 3 (by decide))
    · exact d_b30_ok hl hh (h1 4 (by decide))
    · exact d_b69_ok hl hh (h2 0 (by decide))
    ))
  have q := (Bool.and_eq_true_iff.mp q).2
  exact d_exc (d_okv_h hh (fun f hf => by
    simp only [List.mem_cons, List.not_mem_nil, or_false] at hf
    rcases hf with rfl | rfl | rfl | rfl | rfl | rfl | rfl | rfl | rfl | rfl
    · exact d_b2_ok hl hh (h1 0 (by decide))
    · exact d_b9_ok hl hh (h1 1 (by decide))
    · exact d_b16_ok hl hh (h1 2 (by decide))
    · exact d_b23_ok hl hh (h1 3 (by decide))
    · exact d_b30_ok hl hh (h1 4 (by decide))
    · exact d_b37_ok hl hh (h1 5 (by decide))
    · exact d_b44_ok hl hh (h1 6 (by decide))
    · exact d_b51_ok hl hh (h1 7 (by decide))
    · exact d_b58_ok hl hh (h1 8 (by decide))
    · exact d_b69_ok hl hh (h2 0 (by decide))
    ) q)
/-- k acts from x open no more than m accounts; what an act draws is by its number -/
def d_safe : Nat → Nat → Nat → Bool
  | 0, _, _ => true
  | k + 1, m, x =>
    if d_it 2 x / 65536 % 11 = 4 then (match m with
      | 0 => false
      | m + 1 => d_safe k m (d_it 7 x))
    else if d_it 2 x / 65536 % 11 < 4 ∨ d_it 2 x / 65536 % 11 = 7 then d_safe k m (d_it 3 x)
    else if d_it 2 x / 65536 % 11 = 6 then d_safe k m (d_it 4 x)
    else if d_it 2 x / 65536 % 11 = 10 then d_safe k m (d_it 2 x) && d_safe k m (d_it 3 x)
    else d_safe k m (d_it 2 x)
theorem d_safe_o {k m x : Nat} (h : d_it 2 x / 65536 % 11 = 4) : d_safe (k + 1) (m + 1) x = d_safe k m (d_it 7 x) := by
  show (if _ then _ else _) = _
  rw [if_pos h]
theorem d_safe_z {k x : Nat} (h : d_it 2 x / 65536 % 11 = 4) : d_safe (k + 1) 0 x = false := by
  show (if _ then _ else _) = _
  rw [if_pos h]
theorem d_safe_n {k m x : Nat} (h : d_it 2 x / 65536 % 11 ≠ 4) (hf : d_safe (k + 1) m x = false) : ∃ q, (q = 2 ∨ q = 3 ∨ q = 4) ∧ d_safe k m (d_it q x) = false := by
  have hf : (if d_it 2 x / 65536 % 11 = 4 then _ else if d_it 2 x / 65536 % 11 < 4 ∨ d_it 2 x / 65536 % 11 = 7 then d_safe k m (d_it 3 x)
    else if d_it 2 x / 65536 % 11 = 6 then d_safe k m (d_it 4 x)
    else if d_it 2 x / 65536 % 11 = 10 then d_safe k m (d_it 2 x) && d_safe k m (d_it 3 x)
    else d_safe k m (d_it 2 x)) = false := hf
  rw [if_neg h] at hf
  by_cases c1 : d_it 2 x / 65536 % 11 < 4 ∨ d_it 2 x / 65536 % 11 = 7
  · rw [if_pos c1] at hf; exact ⟨3, by decide, hf⟩
  · rw [if_neg c1] at hf
    by_cases c2 : d_it 2 x / 65536 % 11 = 6
    · rw [if_pos c2] at hf; exact ⟨4, by decide, hf⟩
    · rw [if_neg c2] at hf
      by_cases c3 : d_it 2 x / 65536 % 11 = 10
      · rw [if_pos c3] at hf
        cases e : d_safe k m (d_it 2 x) with
        | false => exact ⟨2, by decide, e⟩
        | true =>
          rw [e, Bool.true_and] at hf
          exact ⟨3, by decide, hf⟩
      · rw [if_neg c3] at hf; exact ⟨2, by decide, hf⟩
theorem d_safe_big : ∀ (k m x : Nat), k ≤ m → d_safe k m x = true
  | 0, _, _, _ => rfl
  | k + 1, 0, x, h => absurd h (by omega)
  | k + 1, m + 1, x, h => by
    by_cases c : d_it 2 x / 65536 % 11 = 4
    · rw [d_safe_o c]; exact d_safe_big k m _ (by omega)
    · cases e : d_safe (k + 1) (m + 1) x with
      | true => rfl
      | false =>
        obtain ⟨q, -, hq⟩ := d_safe_n c e
        rw [d_safe_big k (m + 1) _ (by omega)] at hq
        exact hq.symm
theorem d_safe_A0 (x : Nat) (h : d_safe (0 + 1) 0 x = false) : d_P (0 + 1) x := by
  by_cases c : d_it 2 x / 65536 % 11 = 4
  · exact d_P1 c
  · have q := d_safe_n (k := 0) (m := 0) c h
    exact Exists.elim q (fun q hq => absurd hq.2 (by rw [d_safe_big 0 0 _ (Nat.le_refl _)]; decide))
theorem d_safe_A : ∀ (k x : Nat), d_safe (k + 1) k x = false → d_P (k + 1) x := by
  intro k
  induction k with
  | zero => intro x h; exact d_safe_A0 x h
  | succ k ih =>
    intro x h
    by_cases c : d_it 2 x / 65536 % 11 = 4
    · rw [d_safe_o c] at h
      exact And.intro c (ih _ h)
    · obtain ⟨q, -, hq⟩ := d_safe_n c h
      rw [d_safe_big _ _ _ (Nat.le_refl _)] at hq
      cases hq
theorem d_safe_C0 (x : Nat) (h : d_safe (0 + 2) 0 x = false) : d_P (0 + 1) x ∨ ∃ i q, i ≤ 0 ∧ (q = 2 ∨ q = 3 ∨ q = 4) ∧ d_P i x ∧ d_P (0 + 1 - i) (d_it (7 * i + q) x) := by
  by_cases c : d_it 2 x / 65536 % 11 = 4
  · exact Or.inl (d_P1 c)
  · have q := d_safe_n (k := 1) (m := 0) c h
    exact Exists.elim q (fun q hq => Or.inr ⟨0, q, Nat.le_refl _, hq.1, d_P0 _, by rw [show 7 * 0 + q = q by omega]; exact d_safe_A0 _ hq.2⟩)
theorem d_safe_C : ∀ (m x : Nat), d_safe (m + 2) m x = false → d_P (m + 1) x ∨ ∃ i q, i ≤ m ∧ (q = 2 ∨ q = 3 ∨ q = 4) ∧ d_P i x ∧ d_P (m + 1 - i) (d_it (7 * i + q) x) := by
  intro m
  induction m with
  | zero => intro x h; exact d_safe_C0 x h
  | succ m ih =>
    intro x h
    by_cases c : d_it 2 x / 65536 % 11 = 4
    · rw [d_safe_o c] at h
      rcases ih _ h with h | ⟨i, q, h1, h2, h3, h4⟩
      · exact Or.inl (And.intro c h)
      · refine Or.inr ⟨i + 1, q, by omega, h2, And.intro c h3, ?_⟩
        rw [← d_it_add, show 7 * i + q + 7 = 7 * (i + 1) + q by omega] at h4
        rw [show m + 1 + 1 - (i + 1) = m + 1 - i by omega]
        exact h4
    · obtain ⟨q, h2, hq⟩ := d_safe_n c h
      refine Or.inr ⟨0, q, by omega, h2, d_P0 _, ?_⟩
      have := d_safe_A (m + 1) _ hq
      rw [show 7 * 0 + q = q by omega]
      exact this
theorem d_sure {x : Nat} (hx : x < 4294967296) : d_safe 11 9 x = true ∨ x = 4290658113 ∨ x = 1366730941 := by
  cases e : d_safe 11 9 x with
  | true => exact Or.inl rfl
  | false =>
    refine Or.inr ?_
    obtain ⟨h, l, hh, hl, rfl⟩ : ∃ h l, h < 65536 ∧ l < 65536 ∧ x = 65536 * h + l := ⟨x / 65536, x % 65536, by omega, by omega, by omega⟩
    have k1 : d_safe 11 9 3002308795 = true := by decide +kernel
    have k2 : d_safe 11 9 4215984062 = true := by decide +kernel
    have key : 65536 * h + l = 4290658113 ∨ 65536 * h + l = 3002308795 ∨ 65536 * h + l = 1366730941 ∨ 65536 * h + l = 4215984062 := by
      rcases d_safe_C 9 _ e with p | ⟨i, q, hi, hq, p1, p2⟩
      · exact d_c10 hl hh (d_P_at 10 p)
      · have h1 := d_P_at i p1
        have h2 : ∀ j, j < 10 - i → d_it (7 * (j + i) + (q + 2)) (65536 * h + l) / 65536 % 11 = 4 := fun j hj => by
          have t := d_P_at (10 - i) p2 j hj
          rw [← d_it_add, show 7 * j + 2 + (7 * i + q) = 7 * (j + i) + (q + 2) by omega] at t
          exact t
        rcases (show i = 0 ∨ i = 1 ∨ i = 2 ∨ i = 3 ∨ i = 4 ∨ i = 5 ∨ i = 6 ∨ i = 7 ∨ i = 8 ∨ i = 9 by omega) with rfl | rfl | rfl | rfl | rfl | rfl | rfl | rfl | rfl | rfl
        · rcases hq with rfl | rfl | rfl
          · exact d_c0_2 hl hh h1 h2
          · exact d_c0_3 hl hh h1 h2
          · exact d_c0_4 hl hh h1 h2
        · rcases hq with rfl | rfl | rfl
          · exact d_c1_2 hl hh h1 h2
          · exact d_c1_3 hl hh h1 h2
          · exact d_c1_4 hl hh h1 h2
        · rcases hq with rfl | rfl | rfl
          · exact d_c2_2 hl hh h1 h2
          · exact d_c2_3 hl hh h1 h2
          · exact d_c2_4 hl hh h1 h2
        · rcases hq with rfl | rfl | rfl
          · exact d_c3_2 hl hh h1 h2
          · exact d_c3_3 hl hh h1 h2
          · exact d_c3_4 hl hh h1 h2
        · rcases hq with rfl | rfl | rfl
          · exact d_c4_2 hl hh h1 h2
          · exact d_c4_3 hl hh h1 h2
          · exact d_c4_4 hl hh h1 h2
        · rcases hq with rfl | rfl | rfl
          · exact d_c5_2 hl hh h1 h2
          · exact d_c5_3 hl hh h1 h2
          · exact d_c5_4 hl hh h1 h2
        · rcases hq with rfl | rfl | rfl
          · exact d_c6_2 hl hh h1 h2
          · exact d_c6_3 hl hh h1 h2
          · exact d_c6_4 hl hh h1 h2
        · rcases hq with rfl | rfl | rfl
          · exact d_c7_2 hl hh h1 h2
          · exact d_c7_3 hl hh h1 h2
          · exact d_c7_4 hl hh h1 h2
        · rcases hq with rfl | rfl | rfl
          · exact d_c8_2 hl hh h1 h2
          · exact d_c8_3 hl hh h1 h2
          · exact d_c8_4 hl hh h1 h2
        · rcases hq with rfl | rfl | rfl
          · exact d_c9_2 hl hh h1 h2
          · exact d_c9_3 hl hh h1 h2
          · exact d_c9_4 hl hh h1 h2
    rcases key with e9 | e9 | e9 | e9
    · exact Or.inl e9
    · rw [e9, k1] at e; cases e
    · exact Or.inr e9
    · rw [e9, k2] at e; cases e
