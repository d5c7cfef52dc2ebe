/-! a bank drawn and told: the lines -/
theorem e_lens : g_len 49 = 1 ∧ g_len 50 = 5 ∧ g_len 51 = 8 ∧ g_len 52 = 1 ∧ g_len 53 = 6 ∧ g_len 54 = 9 ∧ g_len 55 = 5 ∧ g_len 56 = 14 ∧ g_len 57 = 14 ∧ g_len 58 = 5 ∧ g_len 59 = 4 ∧ g_len 60 = 6 ∧ g_len 61 = 5 ∧ g_len 62 = 5 := by decide +kernel

theorem e_lnd_len {l v1 v2 v3 v4 : Nat} (hl : l < 5) (b1 : v1 < 100) (b2 : v2 < 10000) (b3 : v3 < 1000) (b4 : v4 < 10) : 0 < (e_lnd l v1 v2 v3 v4).length ∧ (e_lnd l v1 v2 v3 v4).length ≤ 29 := by
  obtain ⟨q49, q50, q51, q52, -⟩ := e_lens
  have := e_len6 l hl
  have := (g_dge_lt v1).2.1 b1
  have := (g_dge_lt v2).2.2.2.1 b2
  have := (g_dge_lt v3).2.2.1 b3
  have := (g_dge_lt v4).1 b4
  unfold e_lnd
  split <;> simp only [List.length_append, g_sts_len, g_nb9_len] <;> omega
theorem e_g_len {s1 s2 s3 : Nat} (b1 : s1 < 10) (b2 : s2 < 10) (b3 : s3 < 100000) : (e_g1 s1).length ≤ 10 ∧ (e_g2 s2).length ≤ 6 ∧ (e_g3 s3).length ≤ 34 := by
  obtain ⟨-, -, -, -, -, q54, q55, q56, q57, -⟩ := e_lens
  have := (g_dge_lt s1).1 b1
  have := (g_dge_lt s2).1 b2
  have := (g_dge_lt s3).2.2.2.2
  refine ⟨?_, ?_, ?_⟩
  · unfold e_g1; split <;> simp only [List.length_append, List.length_nil, g_sts_len, g_dg9_len] <;> omega
  · unfold e_g2; split <;> simp only [List.length_append, List.length_nil, g_sts_len, g_dg9_len] <;> omega
  · unfold e_g3; split <;> simp only [List.length_append, List.length_nil, g_sts_len, g_nb9_len] <;> omega
theorem e_slp_len {k l s0 s1 s2 s3 : Nat} (hk : k < 5) (hl : l < 5) (b0 : s0 < 100) (b1 : s1 < 10) (b2 : s2 < 10) (b3 : s3 < 100000) : 0 < (e_slp k l s0 s1 s2 s3).length ∧ (e_slp k l s0 s1 s2 s3).length ≤ 75 := by
  obtain ⟨q49, -, -, q52, q53, -⟩ := e_lens
  have := e_len6 l hl
  have := e_len7 k hk
  have := (g_dge_lt s0).2.1 b0
  have := e_g_len b1 b2 b3
  unfold e_slp
  simp only [List.length_append, g_sts_len, g_nb9_len]
  omega
theorem e_pay_len {k v : Nat} (hk : k < 5) (hv : v < 1000) : 0 < (e_pay k v).length ∧ (e_pay k v).length ≤ 17 := by
  obtain ⟨-, -, -, q52, -, -, -, -, -, q58, -⟩ := e_lens
  have := e_len7 k hk
  have := (g_dge_lt v).2.2.1 hv
  unfold e_pay
  simp only [List.length_append, g_sts_len, g_nb9_len]
  omega
theorem e_wt_len {v : Nat} (hv : v < 10) : 0 < (e_wt v).length ∧ (e_wt v).length ≤ 7 := by
  obtain ⟨-, -, -, q52, -, -, -, -, -, -, q59, -⟩ := e_lens
  have := (g_dge_lt v).1 hv
  unfold e_wt
  simp only [List.length_append, g_sts_len, g_nb9_len]
  omega
theorem e_lr_len {v : Nat} (hv : v < 1000) : 0 < (e_lr v).length ∧ (e_lr v).length ≤ 11 := by
  obtain ⟨-, -, -, q52, -, -, -, -, -, -, -, q60, -⟩ := e_lens
  have := (g_dge_lt v).2.2.1 hv
  unfold e_lr
  simp only [List.length_append, g_sts_len, g_nb9_len]
  omega
theorem e_hm_len {l : Nat} (hl : l < 5) : 0 < (e_hm l).length ∧ (e_hm l).length ≤ 12 := by
  obtain ⟨-, -, -, q52, -, -, -, -, -, -, -, -, q61, -⟩ := e_lens
  have := e_len6 l hl
  unfold e_hm
  simp only [List.length_append, g_sts_len]
  omega
theorem e_od_len {a c : Nat} (ha : a < 3) (hc : c < 3) : 0 < (e_od1 a).length ∧ (e_od1 a).length ≤ 22 ∧ 0 < (e_od2 a c).length ∧ (e_od2 a c).length ≤ 22 := by
  obtain ⟨q49, -, -, q52, -, -, -, -, -, -, -, -, -, q62⟩ := e_lens
  have := e_len8 a ha
  have := e_len8 c hc
  unfold e_od1 e_od2
  simp only [List.length_append, g_sts_len]
  omega

set_option maxRecDepth 100000 in
theorem lL_law1 {G : q_G} {F : q_F} {h : Nat} {Q : q_Q} {kc ks sz : Nat} {T : q_T} {I L : q_I} {P : q_P} {b bk ta d K s v c l : Nat} {lw : Int} {R : Nat → Nat → Int} {bs : List Nat} (hF : q_ok G F YL_drawn h) (hA : q_A G b) (hB : q_TB T b bk R I L P ta bs) (hL1 : b + 452 ≤ ta) (h6 : 6 ≤ h) (hts : ta < s) (hTs : T s = some (.inr (0, 4))) (hs : I s 1 = (v : Int)) (hv5 : v < 100000) (hbl : bs.length ≤ 560) (k0 : ∀ J : q_I, q_TB T b bk R J L P ta (bs ++ e_g1 v) → q_Tk b ta I J → qX G F Q kc ks 349 [(7, .ref s), (6, qI (l : Int)), (5, qI (c : Int)), (4, qI lw), (3, .ref K), (0, .ref b), (1, .ref ta), (2, .ref d)] [] sz T J L P) : qX G F Q kc ks 326 [(7, .ref s), (6, qI (l : Int)), (5, qI (c : Int)), (4, qI lw), (3, .ref K), (0, .ref b), (1, .ref ta), (2, .ref d)] [] sz T I L P := by
  obtain ⟨q49, q50, q51, q52, q53, q54, q55, q56, q57, q58, q59, q60, q61, q62⟩ := e_lens
  have hg4 := (g_dge_lt v).2.2.2.2
  refine q_aload hF 0 rfl dL_drawn_326 ?_
  refine q_iconst hF dL_drawn_328 ?_
  refine q_ialoadv hF (z := (v : Int)) (n := 4) 1 hTs rfl (by decide) (by decide) hs dL_drawn_329 ?_
  refine q_ifle hF (by omega) dL_drawn_330 (fun c330 => ?_) (fun c330 => ?_)
  · refine k0 I (hB.bs ?_) q_Tk.rfl'
    unfold e_g1
    rw [if_pos (by omega), List.append_nil]
  · refine q_aload_n hF 5 rfl rfl dL_drawn_333 ?_
    refine q_aload_n hF 6 rfl rfl dL_drawn_334 ?_
    refine q_ldcK hF (i := 54) (by decide) rfl rfl dL_drawn_335 ?_
    refine q_callS (kc := kc) (ks := ks) (mc' := 0) (ms' := 0) (h' := 4) (st := []) hF sl_RL_134 rfl [.ref b, .ref ta, .ref (q_KS G 54)] rfl rfl (by omega) (Nat.le_of_ble_eq_true rfl) dL_drawn_337 ?_
    refine mL_tell hA (q_Ale hA (by omega)) hB (by omega) (by (try simp only [List.length_append, g_sts_len, g_dg9_len, g_nb9_len, List.length_nil]); omega) (fun I9_1 c337_0_1 c337_1_1 => ?_)
    refine q_aload_n hF 5 rfl rfl dL_drawn_340 ?_
    refine q_aload_n hF 6 rfl rfl dL_drawn_341 ?_
    refine q_aload hF 0 rfl dL_drawn_342 ?_
    refine q_iconst hF dL_drawn_344 ?_
    refine q_ialoadv hF (z := (v : Int)) (n := 4) 1 hTs rfl (by decide) (by decide) ((c337_1_1 _ _ (by omega) (by omega)).trans hs) dL_drawn_345 ?_
    refine q_callS (kc := kc) (ks := ks) (mc' := 0) (ms' := 0) (h' := 4) (st := []) hF sl_RL_138 rfl [.ref b, .ref ta, qI (v : Int)] rfl rfl (by omega) (Nat.le_of_ble_eq_true rfl) dL_drawn_346 ?_
    refine mL_digits (v := v) hA (q_Ale hA (by omega)) c337_0_1 (by omega) (by have := (g_dge_lt v).2.2.2.2; (try simp only [List.length_append, g_sts_len, g_dg9_len, g_nb9_len, List.length_nil]); omega) (fun I9_2 c346_0_2 c346_1_2 => ?_)
    refine k0 _ (c346_0_2.bs ?_) (c337_1_1.tr c346_1_2)
    unfold e_g1
    rw [if_neg (by omega)]
    simp only [List.append_assoc]

set_option maxRecDepth 100000 in
theorem lL_law2 {G : q_G} {F : q_F} {h : Nat} {Q : q_Q} {kc ks sz : Nat} {T : q_T} {I L : q_I} {P : q_P} {b bk ta d K s v c l : Nat} {lw : Int} {R : Nat → Nat → Int} {bs : List Nat} (hF : q_ok G F YL_drawn h) (hA : q_A G b) (hB : q_TB T b bk R I L P ta bs) (hL1 : b + 452 ≤ ta) (h6 : 6 ≤ h) (hts : ta < s) (hTs : T s = some (.inr (0, 4))) (hs : I s 2 = (v : Int)) (hv5 : v < 100000) (hbl : bs.length ≤ 560) (k0 : ∀ J : q_I, q_TB T b bk R J L P ta (bs ++ e_g2 v) → q_Tk b ta I J → qX G F Q kc ks 372 [(7, .ref s), (6, qI (l : Int)), (5, qI (c : Int)), (4, qI lw), (3, .ref K), (0, .ref b), (1, .ref ta), (2, .ref d)] [] sz T J L P) : qX G F Q kc ks 349 [(7, .ref s), (6, qI (l : Int)), (5, qI (c : Int)), (4, qI lw), (3, .ref K), (0, .ref b), (1, .ref ta), (2, .ref d)] [] sz T I L P := by
  obtain ⟨q49, q50, q51, q52, q53, q54, q55, q56, q57, q58, q59, q60, q61, q62⟩ := e_lens
  have hg4 := (g_dge_lt v).2.2.2.2
  refine q_aload hF 0 rfl dL_drawn_349 ?_
  refine q_iconst hF dL_drawn_351 ?_
  refine q_ialoadv hF (z := (v : Int)) (n := 4) 2 hTs rfl (by decide) (by decide) hs dL_drawn_352 ?_
  refine q_ifle hF (by omega) dL_drawn_353 (fun c353 => ?_) (fun c353 => ?_)
  · refine k0 I (hB.bs ?_) q_Tk.rfl'
    unfold e_g2
    rw [if_pos (by omega), List.append_nil]
  · refine q_aload_n hF 5 rfl rfl dL_drawn_356 ?_
    refine q_aload_n hF 6 rfl rfl dL_drawn_357 ?_
    refine q_ldcK hF (i := 55) (by decide) rfl rfl dL_drawn_358 ?_
    refine q_callS (kc := kc) (ks := ks) (mc' := 0) (ms' := 0) (h' := 4) (st := []) hF sl_RL_134 rfl [.ref b, .ref ta, .ref (q_KS G 55)] rfl rfl (by omega) (Nat.le_of_ble_eq_true rfl) dL_drawn_360 ?_
    refine mL_tell hA (q_Ale hA (by omega)) hB (by omega) (by (try simp only [List.length_append, g_sts_len, g_dg9_len, g_nb9_len, List.length_nil]); omega) (fun I9_1 c360_0_1 c360_1_1 => ?_)
    refine q_aload_n hF 5 rfl rfl dL_drawn_363 ?_
    refine q_aload_n hF 6 rfl rfl dL_drawn_364 ?_
    refine q_aload hF 0 rfl dL_drawn_365 ?_
    refine q_iconst hF dL_drawn_367 ?_
    refine q_ialoadv hF (z := (v : Int)) (n := 4) 2 hTs rfl (by decide) (by decide) ((c360_1_1 _ _ (by omega) (by omega)).trans hs) dL_drawn_368 ?_
    refine q_callS (kc := kc) (ks := ks) (mc' := 0) (ms' := 0) (h' := 4) (st := []) hF sl_RL_138 rfl [.ref b, .ref ta, qI (v : Int)] rfl rfl (by omega) (Nat.le_of_ble_eq_true rfl) dL_drawn_369 ?_
    refine mL_digits (v := v) hA (q_Ale hA (by omega)) c360_0_1 (by omega) (by have := (g_dge_lt v).2.2.2.2; (try simp only [List.length_append, g_sts_len, g_dg9_len, g_nb9_len, List.length_nil]); omega) (fun I9_2 c369_0_2 c369_1_2 => ?_)
    refine k0 _ (c369_0_2.bs ?_) (c360_1_1.tr c369_1_2)
    unfold e_g2
    rw [if_neg (by omega)]
    simp only [List.append_assoc]

set_option maxRecDepth 100000 in
theorem lL_law3 {G : q_G} {F : q_F} {h : Nat} {Q : q_Q} {kc ks sz : Nat} {T : q_T} {I L : q_I} {P : q_P} {b bk ta d K s v c l : Nat} {lw : Int} {R : Nat → Nat → Int} {bs : List Nat} (hF : q_ok G F YL_drawn h) (hA : q_A G b) (hB : q_TB T b bk R I L P ta bs) (hL1 : b + 452 ≤ ta) (h6 : 6 ≤ h) (hts : ta < s) (hTs : T s = some (.inr (0, 4))) (hs : I s 3 = (v : Int)) (hv5 : v < 100000) (hbl : bs.length ≤ 560) (k0 : ∀ J : q_I, q_TB T b bk R J L P ta (bs ++ e_g3 v) → q_Tk b ta I J → qX G F Q kc ks 402 [(7, .ref s), (6, qI (l : Int)), (5, qI (c : Int)), (4, qI lw), (3, .ref K), (0, .ref b), (1, .ref ta), (2, .ref d)] [] sz T J L P) : qX G F Q kc ks 372 [(7, .ref s), (6, qI (l : Int)), (5, qI (c : Int)), (4, qI lw), (3, .ref K), (0, .ref b), (1, .ref ta), (2, .ref d)] [] sz T I L P := by
  obtain ⟨q49, q50, q51, q52, q53, q54, q55, q56, q57, q58, q59, q60, q61, q62⟩ := e_lens
  have hg4 := (g_dge_lt v).2.2.2.2
  refine q_aload hF 0 rfl dL_drawn_372 ?_
  refine q_iconst hF dL_drawn_374 ?_
  refine q_ialoadv hF (z := (v : Int)) (n := 4) 3 hTs rfl (by decide) (by decide) hs dL_drawn_375 ?_
  refine q_ifle hF (by omega) dL_drawn_376 (fun c376 => ?_) (fun c376 => ?_)
  · refine k0 I (hB.bs ?_) q_Tk.rfl'
    unfold e_g3
    rw [if_pos (by omega), List.append_nil]
  · refine q_aload_n hF 5 rfl rfl dL_drawn_379 ?_
    refine q_aload_n hF 6 rfl rfl dL_drawn_380 ?_
    refine q_ldcK hF (i := 56) (by decide) rfl rfl dL_drawn_381 ?_
    refine q_callS (kc := kc) (ks := ks) (mc' := 0) (ms' := 0) (h' := 4) (st := []) hF sl_RL_134 rfl [.ref b, .ref ta, .ref (q_KS G 56)] rfl rfl (by omega) (Nat.le_of_ble_eq_true rfl) dL_drawn_383 ?_
    refine mL_tell hA (q_Ale hA (by omega)) hB (by omega) (by (try simp only [List.length_append, g_sts_len, g_dg9_len, g_nb9_len, List.length_nil]); omega) (fun I9_1 c383_0_1 c383_1_1 => ?_)
    refine q_aload_n hF 5 rfl rfl dL_drawn_386 ?_
    refine q_aload_n hF 6 rfl rfl dL_drawn_387 ?_
    refine q_aload hF 0 rfl dL_drawn_388 ?_
    refine q_iconst hF dL_drawn_390 ?_
    refine q_ialoadv hF (z := (v : Int)) (n := 4) 3 hTs rfl (by decide) (by decide) ((c383_1_1 _ _ (by omega) (by omega)).trans hs) dL_drawn_391 ?_
    refine q_callS (kc := kc) (ks := ks) (mc' := 0) (ms' := 0) (h' := 5) (st := []) hF sl_RL_165 rfl [.ref b, .ref ta, qI (v : Int)] rfl rfl (by omega) (Nat.le_of_ble_eq_true rfl) dL_drawn_392 ?_
    refine mL_number (v := v) hA (q_Ale hA (by omega)) c383_0_1 (by omega) (by have := (g_dge_lt v).2.2.2.2; (try simp only [List.length_append, g_sts_len, g_dg9_len, g_nb9_len, List.length_nil]); omega) (fun I9_2 c392_0_2 c392_1_2 => ?_)
    refine q_aload_n hF 5 rfl rfl dL_drawn_395 ?_
    refine q_aload_n hF 6 rfl rfl dL_drawn_396 ?_
    refine q_ldcK hF (i := 57) (by decide) rfl rfl dL_drawn_397 ?_
    refine q_callS (kc := kc) (ks := ks) (mc' := 0) (ms' := 0) (h' := 4) (st := []) hF sl_RL_134 rfl [.ref b, .ref ta, .ref (q_KS G 57)] rfl rfl (by omega) (Nat.le_of_ble_eq_true rfl) dL_drawn_399 ?_
    refine mL_tell hA (q_Ale hA (by omega)) c392_0_2 (by omega) (by have := (g_dge_lt v).2.2.2.2; (try simp only [List.length_append, g_sts_len, g_dg9_len, g_nb9_len, List.length_nil]); omega) (fun I9_3 c399_0_3 c399_1_3 => ?_)
    refine k0 _ (c399_0_3.bs ?_) ((c383_1_1.tr c392_1_2).tr c399_1_3)
    unfold e_g3
    rw [if_neg (by omega)]
    simp only [List.append_assoc]

set_option maxRecDepth 100000 in
theorem lL_line {G : q_G} {F : q_F} {h : Nat} {Q : q_Q} {kc ks sz : Nat} {T : q_T} {I L : q_I} {P : q_P} {b bk ta d K s s0 s1 s2 s3 c l : Nat} {lw : Int} {R : Nat → Nat → Int} {bs : List Nat} (hF : q_ok G F YL_drawn h) (h6 : 6 ≤ h) (hA : q_A G b) (hB : q_TB T b bk R I L P ta bs) (hL1 : b + 452 ≤ ta) (hts : ta < s) (hTs : T s = some (.inr (0, 4))) (hs0 : I s 0 = (s0 : Int)) (hs1 : I s 1 = (s1 : Int)) (hs2 : I s 2 = (s2 : Int)) (hs3 : I s 3 = (s3 : Int)) (hs4 : s0 < 14 ∧ s1 < 4 ∧ s2 < 10 ∧ s3 < 30000) (hc5 : c < 5) (hl5 : l < 5) (hbl : bs.length ≤ 480) (k0 : ∀ J : q_I, q_TB T b bk R J L P ta (bs ++ e_slp c l s0 s1 s2 s3) → q_Tk b ta I J → qX G F Q kc ks 409 [(7, .ref s), (6, qI (l : Int)), (5, qI (c : Int)), (4, qI lw), (3, .ref K), (0, .ref b), (1, .ref ta), (2, .ref d)] [] sz T J L P) : qX G F Q kc ks 281 [(7, .ref s), (6, qI (l : Int)), (5, qI (c : Int)), (4, qI lw), (3, .ref K), (0, .ref b), (1, .ref ta), (2, .ref d)] [] sz T I L P := by
  obtain ⟨q49, q50, q51, q52, q53, q54, q55, q56, q57, q58, q59, q60, q61, q62⟩ := e_lens
  have hg0 := (g_dge_lt s0).2.1 (by omega)
  have hn6 := e_len6 l hl5
  have hn7 := e_len7 c hc5
  refine q_aload_n hF 5 rfl rfl dL_drawn_281 ?_
  refine q_aload_n hF 6 rfl rfl dL_drawn_282 ?_
  refine q_ldcK hF (i := 53) (by decide) rfl rfl dL_drawn_283 ?_
  refine q_callS (kc := kc) (ks := ks) (mc' := 0) (ms' := 0) (h' := 4) (st := []) hF sl_RL_134 rfl [.ref b, .ref ta, .ref (q_KS G 53)] rfl rfl (by omega) (Nat.le_of_ble_eq_true rfl) dL_drawn_285 ?_
  refine mL_tell hA (q_Ale hA (by omega)) hB (by omega) (by (try simp only [List.length_append, g_sts_len, g_dg9_len, g_nb9_len, List.length_nil]); omega) (fun I9_1 c285_0_1 c285_1_1 => ?_)
  refine q_aload_n hF 5 rfl rfl dL_drawn_288 ?_
  refine q_aload_n hF 6 rfl rfl dL_drawn_289 ?_
  refine q_getsSa (a := 80) hF (by decide) (q_mem 1142 (by decide +kernel) rfl) dL_drawn_290 ?_
  refine q_iload hF 2 rfl dL_drawn_293 ?_
  refine q_aldSa hF (a := 80) (by decide) c rfl (by show c < 5; omega) (by omega) dL_drawn_295 ?_
  show qX G F Q kc ks 296 [(7, .ref s), (6, qI (l : Int)), (5, qI (c : Int)), (4, qI lw), (3, .ref K), (0, .ref b), (1, .ref ta), (2, .ref d)] [.ref (q_KS G (63 + c)), .ref ta, .ref b] sz T I9_1 L P
  refine q_callS (kc := kc) (ks := ks) (mc' := 0) (ms' := 0) (h' := 4) (st := []) hF sl_RL_134 rfl [.ref b, .ref ta, .ref (q_KS G (63 + c))] rfl rfl (by omega) (Nat.le_of_ble_eq_true rfl) dL_drawn_296 ?_
  refine mL_tell hA (q_Ale hA (by omega)) c285_0_1 (by omega) (by have := e_len7 c (by omega); (try simp only [List.length_append, g_sts_len, g_dg9_len, g_nb9_len, List.length_nil]); omega) (fun I9_2 c296_0_2 c296_1_2 => ?_)
  refine q_aload_n hF 5 rfl rfl dL_drawn_299 ?_
  refine q_aload_n hF 6 rfl rfl dL_drawn_300 ?_
  refine q_ldcK hF (i := 49) (by decide) rfl rfl dL_drawn_301 ?_
  refine q_callS (kc := kc) (ks := ks) (mc' := 0) (ms' := 0) (h' := 4) (st := []) hF sl_RL_134 rfl [.ref b, .ref ta, .ref (q_KS G 49)] rfl rfl (by omega) (Nat.le_of_ble_eq_true rfl) dL_drawn_303 ?_
  refine mL_tell hA (q_Ale hA (by omega)) c296_0_2 (by omega) (by have := e_len7 c (by omega); (try simp only [List.length_append, g_sts_len, g_dg9_len, g_nb9_len, List.length_nil]); omega) (fun I9_3 c303_0_3 c303_1_3 => ?_)
  refine q_aload_n hF 5 rfl rfl dL_drawn_306 ?_
  refine q_aload_n hF 6 rfl rfl dL_drawn_307 ?_
  refine q_getsSa (a := 81) hF (by decide) (q_mem 1130 (by decide +kernel) rfl) dL_drawn_308 ?_
  refine q_iload hF 1 rfl dL_drawn_311 ?_
  refine q_aldSa hF (a := 81) (by decide) l rfl (by show l < 5; omega) (by omega) dL_drawn_313 ?_
  show qX G F Q kc ks 314 [(7, .ref s), (6, qI (l : Int)), (5, qI (c : Int)), (4, qI lw), (3, .ref K), (0, .ref b), (1, .ref ta), (2, .ref d)] [.ref (q_KS G (68 + l)), .ref ta, .ref b] sz T I9_3 L P
  refine q_callS (kc := kc) (ks := ks) (mc' := 0) (ms' := 0) (h' := 4) (st := []) hF sl_RL_134 rfl [.ref b, .ref ta, .ref (q_KS G (68 + l))] rfl rfl (by omega) (Nat.le_of_ble_eq_true rfl) dL_drawn_314 ?_
  refine mL_tell hA (q_Ale hA (by omega)) c303_0_3 (by omega) (by have := e_len7 c (by omega); have := e_len6 l (by omega); (try simp only [List.length_append, g_sts_len, g_dg9_len, g_nb9_len, List.length_nil]); omega) (fun I9_4 c314_0_4 c314_1_4 => ?_)
  refine q_aload_n hF 5 rfl rfl dL_drawn_317 ?_
  refine q_aload_n hF 6 rfl rfl dL_drawn_318 ?_
  refine q_aload hF 0 rfl dL_drawn_319 ?_
  refine q_iconst hF dL_drawn_321 ?_
  refine q_ialoadv hF (z := (s0 : Int)) (n := 4) 0 hTs rfl (by decide) (by decide) ((c314_1_4 _ _ (by omega) (by omega)).trans ((c303_1_3 _ _ (by omega) (by omega)).trans ((c296_1_2 _ _ (by omega) (by omega)).trans ((c285_1_1 _ _ (by omega) (by omega)).trans hs0)))) dL_drawn_322 ?_
  refine q_callS (kc := kc) (ks := ks) (mc' := 0) (ms' := 0) (h' := 5) (st := []) hF sl_RL_165 rfl [.ref b, .ref ta, qI (s0 : Int)] rfl rfl (by omega) (Nat.le_of_ble_eq_true rfl) dL_drawn_323 ?_
  refine mL_number (v := s0) hA (q_Ale hA (by omega)) c314_0_4 (by omega) (by have := (g_dge_lt s0).2.2.2.2; have := e_len7 c (by omega); have := e_len6 l (by omega); (try simp only [List.length_append, g_sts_len, g_dg9_len, g_nb9_len, List.length_nil]); omega) (fun I9_5 c323_0_5 c323_1_5 => ?_)
  refine lL_law1 (s := s) (v := s1) hF hA c323_0_5 hL1 h6 hts hTs ((c323_1_5 _ _ (by omega) (by omega)).trans ((c314_1_4 _ _ (by omega) (by omega)).trans ((c303_1_3 _ _ (by omega) (by omega)).trans ((c296_1_2 _ _ (by omega) (by omega)).trans ((c285_1_1 _ _ (by omega) (by omega)).trans hs1))))) (by omega) (by simp only [List.length_append, g_sts_len, g_dg9_len, g_nb9_len]; omega) (fun J1 cj1_0 cj1_1 => ?_)
  have hgl1 := e_g_len (s1 := s1) (s2 := s2) (s3 := s3) (by omega) (by omega) (by omega)
  refine lL_law2 (s := s) (v := s2) hF hA cj1_0 hL1 h6 hts hTs ((cj1_1 _ _ (by omega) (by omega)).trans ((c323_1_5 _ _ (by omega) (by omega)).trans ((c314_1_4 _ _ (by omega) (by omega)).trans ((c303_1_3 _ _ (by omega) (by omega)).trans ((c296_1_2 _ _ (by omega) (by omega)).trans ((c285_1_1 _ _ (by omega) (by omega)).trans hs2)))))) (by omega) (by simp only [List.length_append, g_sts_len, g_dg9_len, g_nb9_len]; omega) (fun J2 cj2_0 cj2_1 => ?_)
  have hgl2 := e_g_len (s1 := s1) (s2 := s2) (s3 := s3) (by omega) (by omega) (by omega)
  refine lL_law3 (s := s) (v := s3) hF hA cj2_0 hL1 h6 hts hTs ((cj2_1 _ _ (by omega) (by omega)).trans ((cj1_1 _ _ (by omega) (by omega)).trans ((c323_1_5 _ _ (by omega) (by omega)).trans ((c314_1_4 _ _ (by omega) (by omega)).trans ((c303_1_3 _ _ (by omega) (by omega)).trans ((c296_1_2 _ _ (by omega) (by omega)).trans ((c285_1_1 _ _ (by omega) (by omega)).trans hs3))))))) (by omega) (by simp only [List.length_append, g_sts_len, g_dg9_len, g_nb9_len]; omega) (fun J3 cj3_0 cj3_1 => ?_)
  have hgl3 := e_g_len (s1 := s1) (s2 := s2) (s3 := s3) (by omega) (by omega) (by omega)
  refine q_aload_n hF 5 rfl rfl dL_drawn_402 ?_
  refine q_aload_n hF 6 rfl rfl dL_drawn_403 ?_
  refine q_ldcK hF (i := 52) (by decide) rfl rfl dL_drawn_404 ?_
  refine q_callS (kc := kc) (ks := ks) (mc' := 0) (ms' := 0) (h' := 4) (st := []) hF sl_RL_134 rfl [.ref b, .ref ta, .ref (q_KS G 52)] rfl rfl (by omega) (Nat.le_of_ble_eq_true rfl) dL_drawn_406 ?_
  refine mL_tell hA (q_Ale hA (by omega)) cj3_0 (by omega) (by have := (g_dge_lt s0).2.2.2.2; have := e_len7 c (by omega); have := e_len6 l (by omega); (try simp only [List.length_append, g_sts_len, g_dg9_len, g_nb9_len, List.length_nil]); omega) (fun I9_6 c406_0_6 c406_1_6 => ?_)
  refine k0 _ (c406_0_6.bs ?_) ((((((((c285_1_1.tr c296_1_2).tr c303_1_3).tr c314_1_4).tr c323_1_5).tr cj1_1).tr cj2_1).tr cj3_1).tr c406_1_6)
  unfold e_slp
  simp only [List.append_assoc]
