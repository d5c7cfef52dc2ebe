/-! the law: rows of its own; what it does for each call -/
abbrev YL_law : q_Y := (yL_law, cL_law, 8, some .boolean, [])
/-- the script: n ints at b0 -/
def q_sx (G : q_G) (F : q_F) (b0 n : Nat) (X : Nat → Int) : Prop := match F with
  | (_, _, _, _, s, _, _, _, _, _, _, _) => ∃ xs : Nat → Int32, (∀ j, X j = (xs j).toInt) ∧ va_X b0 n xs s s.heap ∧ b0 < s.heap.size ∧ ¬ q_A G b0
theorem q_sx.r {G : q_G} {F : q_F} {b0 n : Nat} {X : Nat → Int} (h : q_sx G F b0 n X) (j : Nat) : -2147483648 ≤ X j ∧ X j < 2147483648 := by
  obtain ⟨p, l, e, R, s, m, args, below, meth, c, mc, ms⟩ := F
  obtain ⟨xs, h1, -⟩ := h
  rw [h1]
  exact ⟨Int32.minValue_le_toInt (xs j), Int32.toInt_lt (xs j)⟩
section
variable {G : q_G} {F : q_F} {Y : q_Y} {h : Nat} {Q : q_Q} {kc ks pc pc' : Nat} {ls : List (Nat × Value)} {st : List Value} {sz : Nat} {T : q_T} {I L : q_I} {P : q_P} {b0 n : Nat} {X : Nat → Int}
theorem q_sld (hF : q_ok G F Y h) (hS : q_sx G F b0 n X) {j : Int} {i : Nat} (hj : j = (i : Int)) (hi : i < n) (hn : n ≤ 3072) (d : q_d Y.2.1 pc pc' .iaload 1) (k : qX G F Q kc ks pc' ls (qI (X i) :: st) sz T I L P) : qX G F Q kc ks pc ls (qI j :: .ref b0 :: st) sz T I L P := by
  subst hj
  obtain ⟨p, l, e, R, s, m, args, below, meth, c, mc, ms⟩ := F
  obtain ⟨hx, hb, -⟩ := hF
  obtain ⟨d, rfl⟩ := d
  obtain ⟨xs, h1, h2, h3, h4⟩ := hS
  intro H locs cells slots lsA z1 z2 z3 z4 z5 z6
  obtain ⟨w1, w2, w3⟩ := q_ix (i := (i : Int)) (n := n) (by omega) (by omega)
  have e : qI (X i) = .int (xs ((Int32.ofInt (i : Int)).toNatClampNeg)) := by
    rw [w2, h1]
    show Value.int (Int32.ofInt (xs i).toInt) = _
    rw [Int32.ofInt_toInt]
    rfl
  have q := k H locs cells slots lsA z1 z2 z3 z4 z5 z6
  rw [e] at q
  exact va_sld hx hb h2 h3 h4 z3 w1 d q
theorem q_slen (hF : q_ok G F Y h) (hS : q_sx G F b0 n X) (d : q_d Y.2.1 pc pc' .arraylength 1) (k : qX G F Q kc ks pc' ls (qI (n : Int) :: st) sz T I L P) : qX G F Q kc ks pc ls (.ref b0 :: st) sz T I L P := by
  obtain ⟨p, l, e, R, s, m, args, below, meth, c, mc, ms⟩ := F
  obtain ⟨hx, hb, -⟩ := hF
  obtain ⟨d, rfl⟩ := d
  obtain ⟨xs, h1, h2, h3, h4⟩ := hS
  intro H locs cells slots lsA z1 z2 z3 z4 z5 z6
  have q := k H locs cells slots lsA z1 z2 z3 z4 z5 z6
  have e : qI (n : Int) = .int (Int32.ofNat n) := rfl
  rw [e] at q
  exact va_slen hx hb h2 h3 h4 z3 d q
/-- less is taken -/
theorem q_less {kc' ks' : Nat} (hc : kc ≤ kc') (hs : ks ≤ ks') (k : qX G F Q kc ks pc ls st sz T I L P) : qX G F Q kc' ks' pc ls st sz T I L P := by
  obtain ⟨p, l, e, R, s, m, args, below, meth, c, mc, ms⟩ := F
  intro H locs cells slots lsA z1 z2 z3 z4 z5 z6
  exact k H locs cells slots lsA z1 z2 z3 z4 (by omega) (by omega)
/-- the script's int behind i -/
theorem q_arg (hF : q_ok G F Y h) (hS : q_sx G F b0 n X) {i k p1 p2 p3 p4 : Nat} {kI : Int} (j0 j4 : Nat) (hk : kI = (k : Int)) (hi : i + k < n) (hn : n ≤ 3072) (h0 : ls[j0]? = some (0, .ref b0)) (h4 : ls[j4]? = some (4, qI (i : Int))) (d1 : q_d Y.2.1 pc p1 (.aload_n 0) 1) (d2 : q_d Y.2.1 p1 p2 (.iload 4) 2) (d3 : q_d Y.2.1 p2 p3 (.iconst kI) 1) (d4 : q_d Y.2.1 p3 p4 .iadd 1) (d5 : q_d Y.2.1 p4 pc' .iaload 1)
    (kk : qX G F Q kc ks pc' ls (qI (X (i + k)) :: st) sz T I L P) : qX G F Q kc ks pc ls st sz T I L P := by
  subst hk
  refine q_aload_n hF j0 rfl h0 d1 ?_
  refine q_iload hF j4 h4 d2 ?_
  refine q_iconst hF d3 ?_
  refine q_iadd hF d4 ?_
  exact q_sld hF hS (by omega) hi hn d5 kk
end
set_option maxRecDepth 100000 in
theorem sg_feed {G : q_G} {F : q_F} {Q : q_Q} {kc ks sz : Nat} {T : q_T} {I L : q_I} {P : q_P} {b0 n b m o i : Nat} {X : Nat → Int} (hF : q_ok G F YL_law 1395) (hS : q_sx G F b0 n X) (hn : n ≤ 3072) (hi : i + 6 ≤ n) (hX : q_FX G T b m o) (hTb : T b = some (.inl 6)) (hTm : T m = some (.inl 7)) (hG : q_GE T b m I L P)
    (kk : ∀ (sz' : Nat) (I' L' : q_I) (P' : q_P), sz ≤ sz' → q_GE T b m I' L' P' → qX G F Q kc ks 1828 [(0, .ref b0), (1, .ref b), (2, .ref m), (3, .ref o), (4, qI (i : Int))] [] sz' T I' L' P') : qX G F Q (kc + 1) (ks + 6) 172 [(0, .ref b0), (1, .ref b), (2, .ref m), (3, .ref o), (4, qI (i : Int))] [] sz T I L P := by
  have hA0 := hX.1
  refine q_less (kc := kc) (ks := ks) (by omega) (by omega) ?_
  refine q_aload_n hF 1 rfl rfl dL_law_172 ?_
  refine q_arg (i := i) (k := 1) hF hS 0 4 rfl (by omega) hn rfl rfl dL_law_173 dL_law_174 dL_law_176 dL_law_177 dL_law_178 ?_
  refine q_arg (i := i) (k := 2) hF hS 0 4 rfl (by omega) hn rfl rfl dL_law_179 dL_law_180 dL_law_182 dL_law_183 dL_law_184 ?_
  refine q_arg (i := i) (k := 3) hF hS 0 4 rfl (by omega) hn rfl rfl dL_law_185 dL_law_186 dL_law_188 dL_law_189 dL_law_190 ?_
  refine q_arg (i := i) (k := 4) hF hS 0 4 rfl (by omega) hn rfl rfl dL_law_191 dL_law_192 dL_law_194 dL_law_195 dL_law_196 ?_
  refine q_arg (i := i) (k := 5) hF hS 0 4 rfl (by omega) hn rfl rfl dL_law_197 dL_law_198 dL_law_200 dL_law_201 dL_law_202 ?_
  refine q_callV (kc := kc) (ks := ks) (mc' := 0) (ms' := 0) (h' := 1) (st := []) hF vl_RL_97 rfl [qI (X (i + 1)), qI (X (i + 2)), qI (X (i + 3)), qI (X (i + 4)), qI (X (i + 5))] rfl rfl hTb (by decide) (Nat.le_of_ble_eq_true rfl) dL_law_203 ?_
  refine pr_feed hX hG  _ (fun bv I1 L1 P1 kR => ?_)
  refine q_aload_n hF 2 rfl rfl dL_law_206 ?_
  refine q_arg (i := i) (k := 1) hF hS 0 4 rfl (by omega) hn rfl rfl dL_law_207 dL_law_208 dL_law_210 dL_law_211 dL_law_212 ?_
  refine q_arg (i := i) (k := 2) hF hS 0 4 rfl (by omega) hn rfl rfl dL_law_213 dL_law_214 dL_law_216 dL_law_217 dL_law_218 ?_
  refine q_arg (i := i) (k := 3) hF hS 0 4 rfl (by omega) hn rfl rfl dL_law_219 dL_law_220 dL_law_222 dL_law_223 dL_law_224 ?_
  refine q_arg (i := i) (k := 4) hF hS 0 4 rfl (by omega) hn rfl rfl dL_law_225 dL_law_226 dL_law_228 dL_law_229 dL_law_230 ?_
  refine q_arg (i := i) (k := 5) hF hS 0 4 rfl (by omega) hn rfl rfl dL_law_231 dL_law_232 dL_law_234 dL_law_235 dL_law_236 ?_
  refine q_callV (kc := kc) (ks := ks) (mc' := 0) (ms' := 0) (h' := 1) (st := [qI bv]) hF vl_RL_101 rfl [qI (X (i + 1)), qI (X (i + 2)), qI (X (i + 3)), qI (X (i + 4)), qI (X (i + 5))] rfl rfl hTm (by decide) (Nat.le_of_ble_eq_true rfl) dL_law_237 ?_
  refine kR _ (fun I2 L2 hG2 => ?_)
  refine q_icmpeqS hF dL_law_240 ?_
  exact kk _ _ _ _ (Nat.le_refl _) hG2
set_option maxRecDepth 100000 in
theorem sg_text {G : q_G} {F : q_F} {Q : q_Q} {kc ks sz : Nat} {T : q_T} {I L : q_I} {P : q_P} {b0 n b m o i : Nat} {X : Nat → Int} (hF : q_ok G F YL_law 1395) (hS : q_sx G F b0 n X) (hn : n ≤ 3072) (hi : i + 6 ≤ n) (hX : q_FX G T b m o) (hTb : T b = some (.inl 6)) (hTm : T m = some (.inl 7)) (hG : q_GE T b m I L P)
    (kk : ∀ (sz' : Nat) (I' L' : q_I) (P' : q_P), sz ≤ sz' → q_GE T b m I' L' P' → qX G F Q kc ks 1828 [(0, .ref b0), (1, .ref b), (2, .ref m), (3, .ref o), (4, qI (i : Int))] [] sz' T I' L' P') : qX G F Q (kc + 1) (ks + 6) 245 [(0, .ref b0), (1, .ref b), (2, .ref m), (3, .ref o), (4, qI (i : Int))] [] sz T I L P := by
  have hA0 := hX.1
  refine q_aload_n hF 1 rfl rfl dL_law_245 ?_
  refine q_arg (i := i) (k := 1) hF hS 0 4 rfl (by omega) hn rfl rfl dL_law_246 dL_law_247 dL_law_249 dL_law_250 dL_law_251 ?_
  refine q_aload_n hF 3 rfl rfl dL_law_252 ?_
  refine q_callSH (kc := kc) (ks := ks) (mc' := 1) (ms' := 6) (h' := 20) (st := []) hF sl_RL_102 rfl [.ref b, qI (X (i + 1)), .ref o] rfl rfl (by decide) (Nat.le_of_ble_eq_true rfl) dL_law_253 ?_
  refine pr_text hX hG (hS.r _) _ (fun k sz' I1 L1 P1 hsz hk kR => ?_)
  refine q_istore hF (ls' := [(5, qI k), (0, .ref b0), (1, .ref b), (2, .ref m), (3, .ref o), (4, qI (i : Int))]) (by decide) rfl dL_law_256 ?_
  refine q_aload_n hF 3 rfl rfl dL_law_258 ?_
  refine q_arg (i := i) (k := 1) hF hS 1 5 rfl (by omega) hn rfl rfl dL_law_259 dL_law_260 dL_law_262 dL_law_263 dL_law_264 ?_
  refine q_callV (kc := kc) (ks := ks) (mc' := 0) (ms' := 0) (h' := 25) (st := []) hF vl_RL_107 rfl [qI (X (i + 1))] rfl rfl hTm (by decide) (Nat.le_of_ble_eq_true rfl) dL_law_265 ?_
  refine kR _ (fun bv I2 L2 hG2 hth hout => ?_)
  refine q_istore hF (ls' := [(6, qI bv), (5, qI k), (0, .ref b0), (1, .ref b), (2, .ref m), (3, .ref o), (4, qI (i : Int))]) (by decide) rfl dL_law_268 ?_
  refine q_aload_n hF 4 rfl rfl dL_law_270 ?_
  refine q_callV (kc := kc) (ks := ks) (mc' := 0) (ms' := 0) (h' := 0) (st := []) hF vl_RL_108 rfl [] rfl rfl hTm (by decide) (Nat.le_of_ble_eq_true rfl) dL_law_271 ?_
  refine mX8_thrown hTm ?_
  rw [hth]
  refine q_iload hF 1 rfl dL_law_274 ?_
  refine q_icmpeqS hF dL_law_276 ?_
  refine q_iload hF 1 rfl dL_law_281 ?_
  refine q_ifne hF (by omega) dL_law_283 (fun c => ?_) (fun c => ?_)
  · refine q_goto hF dL_law_298 ?_
    refine q_sub [2, 3, 4, 5, 6] rfl ?_
    exact kk _ _ _ _ hsz hG2
  · refine q_aload_n hF 5 rfl rfl dL_law_286 ?_
    refine q_iconst hF dL_law_287 ?_
    refine q_laload hF hX.2.2.2 (by decide) (by decide) dL_law_288 ?_
    rw [show L2 o (0 : Int).toNat = _ from hout c]
    refine q_iload hF 0 rfl dL_law_289 ?_
    refine q_i2lw hF dL_law_291 ?_
    refine q_cmpeqS hF dL_law_292 dL_law_293 ?_
    refine q_goto hF dL_law_298 ?_
    refine q_sub [2, 3, 4, 5, 6] rfl ?_
    exact kk _ _ _ _ hsz hG2
set_option maxRecDepth 100000 in
theorem sg_fault {G : q_G} {F : q_F} {Q : q_Q} {kc ks sz : Nat} {T : q_T} {I L : q_I} {P : q_P} {b0 n b m o i : Nat} {X : Nat → Int} (hF : q_ok G F YL_law 1395) (hS : q_sx G F b0 n X) (hn : n ≤ 3072) (hi : i + 6 ≤ n) (hX : q_FX G T b m o) (hTb : T b = some (.inl 6)) (hTm : T m = some (.inl 7)) (hG : q_GE T b m I L P)
    (kk : ∀ (sz' : Nat) (I' L' : q_I) (P' : q_P), sz ≤ sz' → q_GE T b m I' L' P' → qX G F Q kc ks 1828 [(0, .ref b0), (1, .ref b), (2, .ref m), (3, .ref o), (4, qI (i : Int))] [] sz' T I' L' P') : qX G F Q (kc + 1) (ks + 6) 301 [(0, .ref b0), (1, .ref b), (2, .ref m), (3, .ref o), (4, qI (i : Int))] [] sz T I L P := by
  have hA0 := hX.1
  refine q_less (kc := kc) (ks := ks) (by omega) (by omega) ?_
  refine q_aload_n hF 1 rfl rfl dL_law_301 ?_
  refine q_callV (kc := kc) (ks := ks) (mc' := 0) (ms' := 0) (h' := 1) (st := []) hF vl_RL_112 rfl [] rfl rfl hTb (by decide) (Nat.le_of_ble_eq_true rfl) dL_law_302 ?_
  refine pr_fault hX hG  _ (fun bv I1 L1 P1 kR => ?_)
  refine q_aload_n hF 2 rfl rfl dL_law_305 ?_
  refine q_callV (kc := kc) (ks := ks) (mc' := 0) (ms' := 0) (h' := 0) (st := [qI bv]) hF vl_RL_115 rfl [] rfl rfl hTm (by decide) (Nat.le_of_ble_eq_true rfl) dL_law_306 ?_
  refine kR _ (fun I2 L2 hG2 => ?_)
  refine q_icmpeqS hF dL_law_309 ?_
  exact kk _ _ _ _ (Nat.le_refl _) hG2
set_option maxRecDepth 100000 in
theorem sg_open {G : q_G} {F : q_F} {Q : q_Q} {kc ks sz : Nat} {T : q_T} {I L : q_I} {P : q_P} {b0 n b m o i : Nat} {X : Nat → Int} (hF : q_ok G F YL_law 1395) (hS : q_sx G F b0 n X) (hn : n ≤ 3072) (hi : i + 6 ≤ n) (hX : q_FX G T b m o) (hTb : T b = some (.inl 6)) (hTm : T m = some (.inl 7)) (hG : q_GE T b m I L P)
    (kk : ∀ (sz' : Nat) (I' L' : q_I) (P' : q_P), sz ≤ sz' → q_GE T b m I' L' P' → qX G F Q kc ks 1828 [(0, .ref b0), (1, .ref b), (2, .ref m), (3, .ref o), (4, qI (i : Int))] [] sz' T I' L' P') : qX G F Q (kc + 1) (ks + 6) 314 [(0, .ref b0), (1, .ref b), (2, .ref m), (3, .ref o), (4, qI (i : Int))] [] sz T I L P := by
  have hA0 := hX.1
  refine q_aload_n hF 1 rfl rfl dL_law_314 ?_
  refine q_arg (i := i) (k := 1) hF hS 0 4 rfl (by omega) hn rfl rfl dL_law_315 dL_law_316 dL_law_318 dL_law_319 dL_law_320 ?_
  refine q_arg (i := i) (k := 2) hF hS 0 4 rfl (by omega) hn rfl rfl dL_law_321 dL_law_322 dL_law_324 dL_law_325 dL_law_326 ?_
  refine q_arg (i := i) (k := 3) hF hS 0 4 rfl (by omega) hn rfl rfl dL_law_327 dL_law_328 dL_law_330 dL_law_331 dL_law_332 ?_
  refine q_arg (i := i) (k := 4) hF hS 0 4 rfl (by omega) hn rfl rfl dL_law_333 dL_law_334 dL_law_336 dL_law_337 dL_law_338 ?_
  refine q_aload_n hF 3 rfl rfl dL_law_339 ?_
  refine q_callSH (kc := kc) (ks := ks) (mc' := 1) (ms' := 6) (h' := 5) (st := []) hF sl_RL_116 rfl [.ref b, qI (X (i + 1)), qI (X (i + 2)), qI (X (i + 3)), qI (X (i + 4)), .ref o] rfl rfl (by decide) (Nat.le_of_ble_eq_true rfl) dL_law_340 ?_
  refine pr_open hX hG (hS.r _) (hS.r _) (hS.r _) (hS.r _) _ (fun k sz' I1 L1 P1 hsz hk kR => ?_)
  refine q_istore hF (ls' := [(5, qI k), (0, .ref b0), (1, .ref b), (2, .ref m), (3, .ref o), (4, qI (i : Int))]) (by decide) rfl dL_law_343 ?_
  refine q_aload_n hF 3 rfl rfl dL_law_345 ?_
  refine q_arg (i := i) (k := 1) hF hS 1 5 rfl (by omega) hn rfl rfl dL_law_346 dL_law_347 dL_law_349 dL_law_350 dL_law_351 ?_
  refine q_arg (i := i) (k := 2) hF hS 1 5 rfl (by omega) hn rfl rfl dL_law_352 dL_law_353 dL_law_355 dL_law_356 dL_law_357 ?_
  refine q_arg (i := i) (k := 3) hF hS 1 5 rfl (by omega) hn rfl rfl dL_law_358 dL_law_359 dL_law_361 dL_law_362 dL_law_363 ?_
  refine q_arg (i := i) (k := 4) hF hS 1 5 rfl (by omega) hn rfl rfl dL_law_364 dL_law_365 dL_law_367 dL_law_368 dL_law_369 ?_
  refine q_callV (kc := kc) (ks := ks) (mc' := 0) (ms' := 0) (h' := 4) (st := []) hF vl_RL_119 rfl [qI (X (i + 1)), qI (X (i + 2)), qI (X (i + 3)), qI (X (i + 4))] rfl rfl hTm (by decide) (Nat.le_of_ble_eq_true rfl) dL_law_370 ?_
  refine kR _ (fun bv I2 L2 hG2 hth hout => ?_)
  refine q_istore hF (ls' := [(6, qI bv), (5, qI k), (0, .ref b0), (1, .ref b), (2, .ref m), (3, .ref o), (4, qI (i : Int))]) (by decide) rfl dL_law_373 ?_
  refine q_aload_n hF 4 rfl rfl dL_law_375 ?_
  refine q_callV (kc := kc) (ks := ks) (mc' := 0) (ms' := 0) (h' := 0) (st := []) hF vl_RL_108 rfl [] rfl rfl hTm (by decide) (Nat.le_of_ble_eq_true rfl) dL_law_376 ?_
  refine mX8_thrown hTm ?_
  rw [hth]
  refine q_iload hF 1 rfl dL_law_379 ?_
  refine q_icmpeqS hF dL_law_381 ?_
  refine q_iload hF 1 rfl dL_law_386 ?_
  refine q_ifne hF (by omega) dL_law_388 (fun c => ?_) (fun c => ?_)
  · refine q_goto hF dL_law_403 ?_
    refine q_sub [2, 3, 4, 5, 6] rfl ?_
    exact kk _ _ _ _ hsz hG2
  · refine q_aload_n hF 5 rfl rfl dL_law_391 ?_
    refine q_iconst hF dL_law_392 ?_
    refine q_laload hF hX.2.2.2 (by decide) (by decide) dL_law_393 ?_
    rw [show L2 o (0 : Int).toNat = _ from hout c]
    refine q_iload hF 0 rfl dL_law_394 ?_
    refine q_i2lw hF dL_law_396 ?_
    refine q_cmpeqS hF dL_law_397 dL_law_398 ?_
    refine q_goto hF dL_law_403 ?_
    refine q_sub [2, 3, 4, 5, 6] rfl ?_
    exact kk _ _ _ _ hsz hG2
set_option maxRecDepth 100000 in
theorem sg_contact {G : q_G} {F : q_F} {Q : q_Q} {kc ks sz : Nat} {T : q_T} {I L : q_I} {P : q_P} {b0 n b m o i : Nat} {X : Nat → Int} (hF : q_ok G F YL_law 1395) (hS : q_sx G F b0 n X) (hn : n ≤ 3072) (hi : i + 6 ≤ n) (hX : q_FX G T b m o) (hTb : T b = some (.inl 6)) (hTm : T m = some (.inl 7)) (hG : q_GE T b m I L P)
    (kk : ∀ (sz' : Nat) (I' L' : q_I) (P' : q_P), sz ≤ sz' → q_GE T b m I' L' P' → qX G F Q kc ks 1828 [(0, .ref b0), (1, .ref b), (2, .ref m), (3, .ref o), (4, qI (i : Int))] [] sz' T I' L' P') : qX G F Q (kc + 1) (ks + 6) 406 [(0, .ref b0), (1, .ref b), (2, .ref m), (3, .ref o), (4, qI (i : Int))] [] sz T I L P := by
  have hA0 := hX.1
  refine q_aload_n hF 1 rfl rfl dL_law_406 ?_
  refine q_arg (i := i) (k := 1) hF hS 0 4 rfl (by omega) hn rfl rfl dL_law_407 dL_law_408 dL_law_410 dL_law_411 dL_law_412 ?_
  refine q_aload_n hF 3 rfl rfl dL_law_413 ?_
  refine q_callSH (kc := kc) (ks := ks) (mc' := 1) (ms' := 6) (h' := 5) (st := []) hF sl_RL_120 rfl [.ref b, qI (X (i + 1)), .ref o] rfl rfl (by decide) (Nat.le_of_ble_eq_true rfl) dL_law_414 ?_
  refine pr_contact hX hG (hS.r _) _ (fun k sz' I1 L1 P1 hsz hk kR => ?_)
  refine q_istore hF (ls' := [(5, qI k), (0, .ref b0), (1, .ref b), (2, .ref m), (3, .ref o), (4, qI (i : Int))]) (by decide) rfl dL_law_417 ?_
  refine q_aload_n hF 3 rfl rfl dL_law_419 ?_
  refine q_arg (i := i) (k := 1) hF hS 1 5 rfl (by omega) hn rfl rfl dL_law_420 dL_law_421 dL_law_423 dL_law_424 dL_law_425 ?_
  refine q_callV (kc := kc) (ks := ks) (mc' := 0) (ms' := 0) (h' := 4) (st := []) hF vl_RL_122 rfl [qI (X (i + 1))] rfl rfl hTm (by decide) (Nat.le_of_ble_eq_true rfl) dL_law_426 ?_
  refine kR _ (fun bv I2 L2 hG2 hth hout => ?_)
  refine q_istore hF (ls' := [(6, qI bv), (5, qI k), (0, .ref b0), (1, .ref b), (2, .ref m), (3, .ref o), (4, qI (i : Int))]) (by decide) rfl dL_law_429 ?_
  refine q_aload_n hF 4 rfl rfl dL_law_431 ?_
  refine q_callV (kc := kc) (ks := ks) (mc' := 0) (ms' := 0) (h' := 0) (st := []) hF vl_RL_108 rfl [] rfl rfl hTm (by decide) (Nat.le_of_ble_eq_true rfl) dL_law_432 ?_
  refine mX8_thrown hTm ?_
  rw [hth]
  refine q_iload hF 1 rfl dL_law_435 ?_
  refine q_icmpeqS hF dL_law_437 ?_
  refine q_iload hF 1 rfl dL_law_442 ?_
  refine q_ifne hF (by omega) dL_law_444 (fun c => ?_) (fun c => ?_)
  · refine q_goto hF dL_law_459 ?_
    refine q_sub [2, 3, 4, 5, 6] rfl ?_
    exact kk _ _ _ _ hsz hG2
  · refine q_aload_n hF 5 rfl rfl dL_law_447 ?_
    refine q_iconst hF dL_law_448 ?_
    refine q_laload hF hX.2.2.2 (by decide) (by decide) dL_law_449 ?_
    rw [show L2 o (0 : Int).toNat = _ from hout c]
    refine q_iload hF 0 rfl dL_law_450 ?_
    refine q_i2lw hF dL_law_452 ?_
    refine q_cmpeqS hF dL_law_453 dL_law_454 ?_
    refine q_goto hF dL_law_459 ?_
    refine q_sub [2, 3, 4, 5, 6] rfl ?_
    exact kk _ _ _ _ hsz hG2
set_option maxRecDepth 100000 in
theorem sg_deposit {G : q_G} {F : q_F} {Q : q_Q} {kc ks sz : Nat} {T : q_T} {I L : q_I} {P : q_P} {b0 n b m o i : Nat} {X : Nat → Int} (hF : q_ok G F YL_law 1395) (hS : q_sx G F b0 n X) (hn : n ≤ 3072) (hi : i + 6 ≤ n) (hX : q_FX G T b m o) (hTb : T b = some (.inl 6)) (hTm : T m = some (.inl 7)) (hG : q_GE T b m I L P)
    (kk : ∀ (sz' : Nat) (I' L' : q_I) (P' : q_P), sz ≤ sz' → q_GE T b m I' L' P' → qX G F Q kc ks 1828 [(0, .ref b0), (1, .ref b), (2, .ref m), (3, .ref o), (4, qI (i : Int))] [] sz' T I' L' P') : qX G F Q (kc + 1) (ks + 6) 462 [(0, .ref b0), (1, .ref b), (2, .ref m), (3, .ref o), (4, qI (i : Int))] [] sz T I L P := by
  have hA0 := hX.1
  refine q_aload_n hF 1 rfl rfl dL_law_462 ?_
  refine q_arg (i := i) (k := 1) hF hS 0 4 rfl (by omega) hn rfl rfl dL_law_463 dL_law_464 dL_law_466 dL_law_467 dL_law_468 ?_
  refine q_arg (i := i) (k := 2) hF hS 0 4 rfl (by omega) hn rfl rfl dL_law_469 dL_law_470 dL_law_472 dL_law_473 dL_law_474 ?_
  refine q_aload_n hF 3 rfl rfl dL_law_475 ?_
  refine q_callSH (kc := kc) (ks := ks) (mc' := 1) (ms' := 6) (h' := 5) (st := []) hF sl_RL_123 rfl [.ref b, qI (X (i + 1)), qI (X (i + 2)), .ref o] rfl rfl (by decide) (Nat.le_of_ble_eq_true rfl) dL_law_476 ?_
  refine pr_deposit hX hG (hS.r _) (hS.r _) _ (fun k sz' I1 L1 P1 hsz hk kR => ?_)
  refine q_istore hF (ls' := [(5, qI k), (0, .ref b0), (1, .ref b), (2, .ref m), (3, .ref o), (4, qI (i : Int))]) (by decide) rfl dL_law_479 ?_
  refine q_aload_n hF 3 rfl rfl dL_law_481 ?_
  refine q_arg (i := i) (k := 1) hF hS 1 5 rfl (by omega) hn rfl rfl dL_law_482 dL_law_483 dL_law_485 dL_law_486 dL_law_487 ?_
  refine q_arg (i := i) (k := 2) hF hS 1 5 rfl (by omega) hn rfl rfl dL_law_488 dL_law_489 dL_law_491 dL_law_492 dL_law_493 ?_
  refine q_callV (kc := kc) (ks := ks) (mc' := 0) (ms' := 0) (h' := 4) (st := []) hF vl_RL_126 rfl [qI (X (i + 1)), qI (X (i + 2))] rfl rfl hTm (by decide) (Nat.le_of_ble_eq_true rfl) dL_law_494 ?_
  refine kR _ (fun bv I2 L2 hG2 hth hout => ?_)
  refine q_istore hF (ls' := [(6, qI bv), (5, qI k), (0, .ref b0), (1, .ref b), (2, .ref m), (3, .ref o), (4, qI (i : Int))]) (by decide) rfl dL_law_497 ?_
  refine q_aload_n hF 4 rfl rfl dL_law_499 ?_
  refine q_callV (kc := kc) (ks := ks) (mc' := 0) (ms' := 0) (h' := 0) (st := []) hF vl_RL_108 rfl [] rfl rfl hTm (by decide) (Nat.le_of_ble_eq_true rfl) dL_law_500 ?_
  refine mX8_thrown hTm ?_
  rw [hth]
  refine q_iload hF 1 rfl dL_law_503 ?_
  refine q_icmpeqS hF dL_law_505 ?_
  refine q_iload hF 1 rfl dL_law_510 ?_
  refine q_ifne hF (by omega) dL_law_512 (fun c => ?_) (fun c => ?_)
  · refine q_goto hF dL_law_527 ?_
    refine q_sub [2, 3, 4, 5, 6] rfl ?_
    exact kk _ _ _ _ hsz hG2
  · refine q_aload_n hF 5 rfl rfl dL_law_515 ?_
    refine q_iconst hF dL_law_516 ?_
    refine q_laload hF hX.2.2.2 (by decide) (by decide) dL_law_517 ?_
    rw [show L2 o (0 : Int).toNat = _ from hout c]
    refine q_iload hF 0 rfl dL_law_518 ?_
    refine q_i2lw hF dL_law_520 ?_
    refine q_cmpeqS hF dL_law_521 dL_law_522 ?_
    refine q_goto hF dL_law_527 ?_
    refine q_sub [2, 3, 4, 5, 6] rfl ?_
    exact kk _ _ _ _ hsz hG2
set_option maxRecDepth 100000 in
theorem sg_draw {G : q_G} {F : q_F} {Q : q_Q} {kc ks sz : Nat} {T : q_T} {I L : q_I} {P : q_P} {b0 n b m o i : Nat} {X : Nat → Int} (hF : q_ok G F YL_law 1395) (hS : q_sx G F b0 n X) (hn : n ≤ 3072) (hi : i + 6 ≤ n) (hX : q_FX G T b m o) (hTb : T b = some (.inl 6)) (hTm : T m = some (.inl 7)) (hG : q_GE T b m I L P)
    (kk : ∀ (sz' : Nat) (I' L' : q_I) (P' : q_P), sz ≤ sz' → q_GE T b m I' L' P' → qX G F Q kc ks 1828 [(0, .ref b0), (1, .ref b), (2, .ref m), (3, .ref o), (4, qI (i : Int))] [] sz' T I' L' P') : qX G F Q (kc + 1) (ks + 6) 530 [(0, .ref b0), (1, .ref b), (2, .ref m), (3, .ref o), (4, qI (i : Int))] [] sz T I L P := by
  have hA0 := hX.1
  refine q_aload_n hF 1 rfl rfl dL_law_530 ?_
  refine q_arg (i := i) (k := 1) hF hS 0 4 rfl (by omega) hn rfl rfl dL_law_531 dL_law_532 dL_law_534 dL_law_535 dL_law_536 ?_
  refine q_arg (i := i) (k := 2) hF hS 0 4 rfl (by omega) hn rfl rfl dL_law_537 dL_law_538 dL_law_540 dL_law_541 dL_law_542 ?_
  refine q_aload_n hF 3 rfl rfl dL_law_543 ?_
  refine q_callSH (kc := kc) (ks := ks) (mc' := 1) (ms' := 6) (h' := 5) (st := []) hF sl_RL_127 rfl [.ref b, qI (X (i + 1)), qI (X (i + 2)), .ref o] rfl rfl (by decide) (Nat.le_of_ble_eq_true rfl) dL_law_544 ?_
  refine pr_draw hX hG (hS.r _) (hS.r _) _ (fun k sz' I1 L1 P1 hsz hk kR => ?_)
  refine q_istore hF (ls' := [(5, qI k), (0, .ref b0), (1, .ref b), (2, .ref m), (3, .ref o), (4, qI (i : Int))]) (by decide) rfl dL_law_547 ?_
  refine q_aload_n hF 3 rfl rfl dL_law_549 ?_
  refine q_arg (i := i) (k := 1) hF hS 1 5 rfl (by omega) hn rfl rfl dL_law_550 dL_law_551 dL_law_553 dL_law_554 dL_law_555 ?_
  refine q_arg (i := i) (k := 2) hF hS 1 5 rfl (by omega) hn rfl rfl dL_law_556 dL_law_557 dL_law_559 dL_law_560 dL_law_561 ?_
  refine q_callV (kc := kc) (ks := ks) (mc' := 0) (ms' := 0) (h' := 4) (st := []) hF vl_RL_129 rfl [qI (X (i + 1)), qI (X (i + 2))] rfl rfl hTm (by decide) (Nat.le_of_ble_eq_true rfl) dL_law_562 ?_
  refine kR _ (fun bv I2 L2 hG2 hth hout => ?_)
  refine q_istore hF (ls' := [(6, qI bv), (5, qI k), (0, .ref b0), (1, .ref b), (2, .ref m), (3, .ref o), (4, qI (i : Int))]) (by decide) rfl dL_law_565 ?_
  refine q_aload_n hF 4 rfl rfl dL_law_567 ?_
  refine q_callV (kc := kc) (ks := ks) (mc' := 0) (ms' := 0) (h' := 0) (st := []) hF vl_RL_108 rfl [] rfl rfl hTm (by decide) (Nat.le_of_ble_eq_true rfl) dL_law_568 ?_
  refine mX8_thrown hTm ?_
  rw [hth]
  refine q_iload hF 1 rfl dL_law_571 ?_
  refine q_icmpeqS hF dL_law_573 ?_
  refine q_iload hF 1 rfl dL_law_578 ?_
  refine q_ifne hF (by omega) dL_law_580 (fun c => ?_) (fun c => ?_)
  · refine q_goto hF dL_law_595 ?_
    refine q_sub [2, 3, 4, 5, 6] rfl ?_
    exact kk _ _ _ _ hsz hG2
  · refine q_aload_n hF 5 rfl rfl dL_law_583 ?_
    refine q_iconst hF dL_law_584 ?_
    refine q_laload hF hX.2.2.2 (by decide) (by decide) dL_law_585 ?_
    rw [show L2 o (0 : Int).toNat = _ from hout c]
    refine q_iload hF 0 rfl dL_law_586 ?_
    refine q_i2lw hF dL_law_588 ?_
    refine q_cmpeqS hF dL_law_589 dL_law_590 ?_
    refine q_goto hF dL_law_595 ?_
    refine q_sub [2, 3, 4, 5, 6] rfl ?_
    exact kk _ _ _ _ hsz hG2
set_option maxRecDepth 100000 in
theorem sg_address {G : q_G} {F : q_F} {Q : q_Q} {kc ks sz : Nat} {T : q_T} {I L : q_I} {P : q_P} {b0 n b m o i : Nat} {X : Nat → Int} (hF : q_ok G F YL_law 1395) (hS : q_sx G F b0 n X) (hn : n ≤ 3072) (hi : i + 6 ≤ n) (hX : q_FX G T b m o) (hTb : T b = some (.inl 6)) (hTm : T m = some (.inl 7)) (hG : q_GE T b m I L P)
    (kk : ∀ (sz' : Nat) (I' L' : q_I) (P' : q_P), sz ≤ sz' → q_GE T b m I' L' P' → qX G F Q kc ks 1828 [(0, .ref b0), (1, .ref b), (2, .ref m), (3, .ref o), (4, qI (i : Int))] [] sz' T I' L' P') : qX G F Q (kc + 1) (ks + 6) 598 [(0, .ref b0), (1, .ref b), (2, .ref m), (3, .ref o), (4, qI (i : Int))] [] sz T I L P := by
  have hA0 := hX.1
  refine q_aload_n hF 1 rfl rfl dL_law_598 ?_
  refine q_arg (i := i) (k := 1) hF hS 0 4 rfl (by omega) hn rfl rfl dL_law_599 dL_law_600 dL_law_602 dL_law_603 dL_law_604 ?_
  refine q_arg (i := i) (k := 2) hF hS 0 4 rfl (by omega) hn rfl rfl dL_law_605 dL_law_606 dL_law_608 dL_law_609 dL_law_610 ?_
  refine q_aload_n hF 3 rfl rfl dL_law_611 ?_
  refine q_callSH (kc := kc) (ks := ks) (mc' := 1) (ms' := 6) (h' := 5) (st := []) hF sl_RL_130 rfl [.ref b, qI (X (i + 1)), qI (X (i + 2)), .ref o] rfl rfl (by decide) (Nat.le_of_ble_eq_true rfl) dL_law_612 ?_
  refine pr_address hX hG (hS.r _) (hS.r _) _ (fun k sz' I1 L1 P1 hsz hk kR => ?_)
  refine q_istore hF (ls' := [(5, qI k), (0, .ref b0), (1, .ref b), (2, .ref m), (3, .ref o), (4, qI (i : Int))]) (by decide) rfl dL_law_615 ?_
  refine q_aload_n hF 3 rfl rfl dL_law_617 ?_
  refine q_arg (i := i) (k := 1) hF hS 1 5 rfl (by omega) hn rfl rfl dL_law_618 dL_law_619 dL_law_621 dL_law_622 dL_law_623 ?_
  refine q_arg (i := i) (k := 2) hF hS 1 5 rfl (by omega) hn rfl rfl dL_law_624 dL_law_625 dL_law_627 dL_law_628 dL_law_629 ?_
  refine q_callV (kc := kc) (ks := ks) (mc' := 0) (ms' := 0) (h' := 3) (st := []) hF vl_RL_132 rfl [qI (X (i + 1)), qI (X (i + 2))] rfl rfl hTm (by decide) (Nat.le_of_ble_eq_true rfl) dL_law_630 ?_
  refine kR _ (fun bv I2 L2 hG2 hth hout => ?_)
  refine q_istore hF (ls' := [(6, qI bv), (5, qI k), (0, .ref b0), (1, .ref b), (2, .ref m), (3, .ref o), (4, qI (i : Int))]) (by decide) rfl dL_law_633 ?_
  refine q_aload_n hF 4 rfl rfl dL_law_635 ?_
  refine q_callV (kc := kc) (ks := ks) (mc' := 0) (ms' := 0) (h' := 0) (st := []) hF vl_RL_108 rfl [] rfl rfl hTm (by decide) (Nat.le_of_ble_eq_true rfl) dL_law_636 ?_
  refine mX8_thrown hTm ?_
  rw [hth]
  refine q_iload hF 1 rfl dL_law_639 ?_
  refine q_icmpeqS hF dL_law_641 ?_
  refine q_iload hF 1 rfl dL_law_646 ?_
  refine q_ifne hF (by omega) dL_law_648 (fun c => ?_) (fun c => ?_)
  · refine q_goto hF dL_law_663 ?_
    refine q_sub [2, 3, 4, 5, 6] rfl ?_
    exact kk _ _ _ _ hsz hG2
  · refine q_aload_n hF 5 rfl rfl dL_law_651 ?_
    refine q_iconst hF dL_law_652 ?_
    refine q_laload hF hX.2.2.2 (by decide) (by decide) dL_law_653 ?_
    rw [show L2 o (0 : Int).toNat = _ from hout c]
    refine q_iload hF 0 rfl dL_law_654 ?_
    refine q_i2lw hF dL_law_656 ?_
    refine q_cmpeqS hF dL_law_657 dL_law_658 ?_
    refine q_goto hF dL_law_663 ?_
    refine q_sub [2, 3, 4, 5, 6] rfl ?_
    exact kk _ _ _ _ hsz hG2
set_option maxRecDepth 100000 in
theorem sg_close {G : q_G} {F : q_F} {Q : q_Q} {kc ks sz : Nat} {T : q_T} {I L : q_I} {P : q_P} {b0 n b m o i : Nat} {X : Nat → Int} (hF : q_ok G F YL_law 1395) (hS : q_sx G F b0 n X) (hn : n ≤ 3072) (hi : i + 6 ≤ n) (hX : q_FX G T b m o) (hTb : T b = some (.inl 6)) (hTm : T m = some (.inl 7)) (hG : q_GE T b m I L P)
    (kk : ∀ (sz' : Nat) (I' L' : q_I) (P' : q_P), sz ≤ sz' → q_GE T b m I' L' P' → qX G F Q kc ks 1828 [(0, .ref b0), (1, .ref b), (2, .ref m), (3, .ref o), (4, qI (i : Int))] [] sz' T I' L' P') : qX G F Q (kc + 1) (ks + 6) 666 [(0, .ref b0), (1, .ref b), (2, .ref m), (3, .ref o), (4, qI (i : Int))] [] sz T I L P := by
  have hA0 := hX.1
  refine q_aload_n hF 1 rfl rfl dL_law_666 ?_
  refine q_arg (i := i) (k := 1) hF hS 0 4 rfl (by omega) hn rfl rfl dL_law_667 dL_law_668 dL_law_670 dL_law_671 dL_law_672 ?_
  refine q_aload_n hF 3 rfl rfl dL_law_673 ?_
  refine q_callSH (kc := kc) (ks := ks) (mc' := 1) (ms' := 6) (h' := 5) (st := []) hF sl_RL_133 rfl [.ref b, qI (X (i + 1)), .ref o] rfl rfl (by decide) (Nat.le_of_ble_eq_true rfl) dL_law_674 ?_
  refine pr_close hX hG (hS.r _) _ (fun k sz' I1 L1 P1 hsz hk kR => ?_)
  refine q_istore hF (ls' := [(5, qI k), (0, .ref b0), (1, .ref b), (2, .ref m), (3, .ref o), (4, qI (i : Int))]) (by decide) rfl dL_law_677 ?_
  refine q_aload_n hF 3 rfl rfl dL_law_679 ?_
  refine q_arg (i := i) (k := 1) hF hS 1 5 rfl (by omega) hn rfl rfl dL_law_680 dL_law_681 dL_law_683 dL_law_684 dL_law_685 ?_
  refine q_callV (kc := kc) (ks := ks) (mc' := 0) (ms' := 0) (h' := 4) (st := []) hF vl_RL_135 rfl [qI (X (i + 1))] rfl rfl hTm (by decide) (Nat.le_of_ble_eq_true rfl) dL_law_686 ?_
  refine kR _ (fun bv I2 L2 hG2 hth hout => ?_)
  refine q_istore hF (ls' := [(6, qI bv), (5, qI k), (0, .ref b0), (1, .ref b), (2, .ref m), (3, .ref o), (4, qI (i : Int))]) (by decide) rfl dL_law_689 ?_
  refine q_aload_n hF 4 rfl rfl dL_law_691 ?_
  refine q_callV (kc := kc) (ks := ks) (mc' := 0) (ms' := 0) (h' := 0) (st := []) hF vl_RL_108 rfl [] rfl rfl hTm (by decide) (Nat.le_of_ble_eq_true rfl) dL_law_692 ?_
  refine mX8_thrown hTm ?_
  rw [hth]
  refine q_iload hF 1 rfl dL_law_695 ?_
  refine q_icmpeqS hF dL_law_697 ?_
  refine q_iload hF 1 rfl dL_law_702 ?_
  refine q_ifne hF (by omega) dL_law_704 (fun c => ?_) (fun c => ?_)
  · refine q_goto hF dL_law_719 ?_
    refine q_sub [2, 3, 4, 5, 6] rfl ?_
    exact kk _ _ _ _ hsz hG2
  · refine q_aload_n hF 5 rfl rfl dL_law_707 ?_
    refine q_iconst hF dL_law_708 ?_
    refine q_laload hF hX.2.2.2 (by decide) (by decide) dL_law_709 ?_
    rw [show L2 o (0 : Int).toNat = _ from hout c]
    refine q_iload hF 0 rfl dL_law_710 ?_
    refine q_i2lw hF dL_law_712 ?_
    refine q_cmpeqS hF dL_law_713 dL_law_714 ?_
    refine q_goto hF dL_law_719 ?_
    refine q_sub [2, 3, 4, 5, 6] rfl ?_
    exact kk _ _ _ _ hsz hG2
set_option maxRecDepth 100000 in
theorem sg_months {G : q_G} {F : q_F} {Q : q_Q} {kc ks sz : Nat} {T : q_T} {I L : q_I} {P : q_P} {b0 n b m o i : Nat} {X : Nat → Int} (hF : q_ok G F YL_law 1395) (hS : q_sx G F b0 n X) (hn : n ≤ 3072) (hi : i + 6 ≤ n) (hX : q_FX G T b m o) (hTb : T b = some (.inl 6)) (hTm : T m = some (.inl 7)) (hG : q_GE T b m I L P)
    (kk : ∀ (sz' : Nat) (I' L' : q_I) (P' : q_P), sz ≤ sz' → q_GE T b m I' L' P' → qX G F Q kc ks 1828 [(0, .ref b0), (1, .ref b), (2, .ref m), (3, .ref o), (4, qI (i : Int))] [] sz' T I' L' P') : qX G F Q (kc + 1) (ks + 6) 722 [(0, .ref b0), (1, .ref b), (2, .ref m), (3, .ref o), (4, qI (i : Int))] [] sz T I L P := by
  have hA0 := hX.1
  refine q_aload_n hF 1 rfl rfl dL_law_722 ?_
  refine q_arg (i := i) (k := 1) hF hS 0 4 rfl (by omega) hn rfl rfl dL_law_723 dL_law_724 dL_law_726 dL_law_727 dL_law_728 ?_
  refine q_aload_n hF 3 rfl rfl dL_law_729 ?_
  refine q_callSH (kc := kc) (ks := ks) (mc' := 1) (ms' := 6) (h' := 8) (st := []) hF sl_RL_136 rfl [.ref b, qI (X (i + 1)), .ref o] rfl rfl (by decide) (Nat.le_of_ble_eq_true rfl) dL_law_730 ?_
  refine pr_months hX hG (hS.r _) _ (fun k sz' I1 L1 P1 hsz hk kR => ?_)
  refine q_istore hF (ls' := [(5, qI k), (0, .ref b0), (1, .ref b), (2, .ref m), (3, .ref o), (4, qI (i : Int))]) (by decide) rfl dL_law_733 ?_
  refine q_aload_n hF 3 rfl rfl dL_law_735 ?_
  refine q_arg (i := i) (k := 1) hF hS 1 5 rfl (by omega) hn rfl rfl dL_law_736 dL_law_737 dL_law_739 dL_law_740 dL_law_741 ?_
  refine q_callV (kc := kc) (ks := ks) (mc' := 0) (ms' := 0) (h' := 6) (st := []) hF vl_RL_138 rfl [qI (X (i + 1))] rfl rfl hTm (by decide) (Nat.le_of_ble_eq_true rfl) dL_law_742 ?_
  refine kR _ (fun bv I2 L2 hG2 hth hout => ?_)
  refine q_istore hF (ls' := [(6, qI bv), (5, qI k), (0, .ref b0), (1, .ref b), (2, .ref m), (3, .ref o), (4, qI (i : Int))]) (by decide) rfl dL_law_745 ?_
  refine q_aload_n hF 4 rfl rfl dL_law_747 ?_
  refine q_callV (kc := kc) (ks := ks) (mc' := 0) (ms' := 0) (h' := 0) (st := []) hF vl_RL_108 rfl [] rfl rfl hTm (by decide) (Nat.le_of_ble_eq_true rfl) dL_law_748 ?_
  refine mX8_thrown hTm ?_
  rw [hth]
  refine q_iload hF 1 rfl dL_law_751 ?_
  refine q_icmpeqS hF dL_law_753 ?_
  refine q_iload hF 1 rfl dL_law_758 ?_
  refine q_ifne hF (by omega) dL_law_760 (fun c => ?_) (fun c => ?_)
  · refine q_goto hF dL_law_775 ?_
    refine q_sub [2, 3, 4, 5, 6] rfl ?_
    exact kk _ _ _ _ hsz hG2
  · refine q_aload_n hF 5 rfl rfl dL_law_763 ?_
    refine q_iconst hF dL_law_764 ?_
    refine q_laload hF hX.2.2.2 (by decide) (by decide) dL_law_765 ?_
    rw [show L2 o (0 : Int).toNat = _ from hout c]
    refine q_iload hF 0 rfl dL_law_766 ?_
    refine q_i2lw hF dL_law_768 ?_
    refine q_cmpeqS hF dL_law_769 dL_law_770 ?_
    refine q_goto hF dL_law_775 ?_
    refine q_sub [2, 3, 4, 5, 6] rfl ?_
    exact kk _ _ _ _ hsz hG2
set_option maxRecDepth 100000 in
theorem sg_claim {G : q_G} {F : q_F} {Q : q_Q} {kc ks sz : Nat} {T : q_T} {I L : q_I} {P : q_P} {b0 n b m o i : Nat} {X : Nat → Int} (hF : q_ok G F YL_law 1395) (hS : q_sx G F b0 n X) (hn : n ≤ 3072) (hi : i + 6 ≤ n) (hX : q_FX G T b m o) (hTb : T b = some (.inl 6)) (hTm : T m = some (.inl 7)) (hG : q_GE T b m I L P)
    (kk : ∀ (sz' : Nat) (I' L' : q_I) (P' : q_P), sz ≤ sz' → q_GE T b m I' L' P' → qX G F Q kc ks 1828 [(0, .ref b0), (1, .ref b), (2, .ref m), (3, .ref o), (4, qI (i : Int))] [] sz' T I' L' P') : qX G F Q (kc + 1) (ks + 6) 778 [(0, .ref b0), (1, .ref b), (2, .ref m), (3, .ref o), (4, qI (i : Int))] [] sz T I L P := by
  have hA0 := hX.1
  refine q_aload_n hF 1 rfl rfl dL_law_778 ?_
  refine q_arg (i := i) (k := 1) hF hS 0 4 rfl (by omega) hn rfl rfl dL_law_779 dL_law_780 dL_law_782 dL_law_783 dL_law_784 ?_
  refine q_aload_n hF 3 rfl rfl dL_law_785 ?_
  refine q_callSH (kc := kc) (ks := ks) (mc' := 1) (ms' := 6) (h' := 5) (st := []) hF sl_RL_139 rfl [.ref b, qI (X (i + 1)), .ref o] rfl rfl (by decide) (Nat.le_of_ble_eq_true rfl) dL_law_786 ?_
  refine pr_claim hX hG (hS.r _) _ (fun k sz' I1 L1 P1 hsz hk kR => ?_)
  refine q_istore hF (ls' := [(5, qI k), (0, .ref b0), (1, .ref b), (2, .ref m), (3, .ref o), (4, qI (i : Int))]) (by decide) rfl dL_law_789 ?_
  refine q_aload_n hF 3 rfl rfl dL_law_791 ?_
  refine q_arg (i := i) (k := 1) hF hS 1 5 rfl (by omega) hn rfl rfl dL_law_792 dL_law_793 dL_law_795 dL_law_796 dL_law_797 ?_
  refine q_callV (kc := kc) (ks := ks) (mc' := 0) (ms' := 0) (h' := 4) (st := []) hF vl_RL_141 rfl [qI (X (i + 1))] rfl rfl hTm (by decide) (Nat.le_of_ble_eq_true rfl) dL_law_798 ?_
  refine kR _ (fun bv I2 L2 hG2 hth hout => ?_)
  refine q_lstore hF (ls' := [(6, qL bv), (5, qI k), (0, .ref b0), (1, .ref b), (2, .ref m), (3, .ref o), (4, qI (i : Int))]) (by decide) rfl dL_law_801 ?_
  refine q_aload_n hF 4 rfl rfl dL_law_803 ?_
  refine q_callV (kc := kc) (ks := ks) (mc' := 0) (ms' := 0) (h' := 0) (st := []) hF vl_RL_108 rfl [] rfl rfl hTm (by decide) (Nat.le_of_ble_eq_true rfl) dL_law_804 ?_
  refine mX8_thrown hTm ?_
  rw [hth]
  refine q_iload hF 1 rfl dL_law_807 ?_
  refine q_icmpeqS hF dL_law_809 ?_
  refine q_iload hF 1 rfl dL_law_814 ?_
  refine q_ifne hF (by omega) dL_law_816 (fun c => ?_) (fun c => ?_)
  · refine q_goto hF dL_law_830 ?_
    refine q_sub [2, 3, 4, 5, 6] rfl ?_
    exact kk _ _ _ _ hsz hG2
  · refine q_aload_n hF 5 rfl rfl dL_law_819 ?_
    refine q_iconst hF dL_law_820 ?_
    refine q_laload hF hX.2.2.2 (by decide) (by decide) dL_law_821 ?_
    rw [show L2 o (0 : Int).toNat = _ from hout c]
    refine q_lload hF 0 rfl dL_law_822 ?_
    refine q_cmpeqS hF dL_law_824 dL_law_825 ?_
    refine q_goto hF dL_law_830 ?_
    refine q_sub [2, 3, 4, 5, 6] rfl ?_
    exact kk _ _ _ _ hsz hG2
set_option maxRecDepth 100000 in
theorem sg_pass {G : q_G} {F : q_F} {Q : q_Q} {kc ks sz : Nat} {T : q_T} {I L : q_I} {P : q_P} {b0 n b m o i : Nat} {X : Nat → Int} (hF : q_ok G F YL_law 1395) (hS : q_sx G F b0 n X) (hn : n ≤ 3072) (hi : i + 6 ≤ n) (hX : q_FX G T b m o) (hTb : T b = some (.inl 6)) (hTm : T m = some (.inl 7)) (hG : q_GE T b m I L P)
    (kk : ∀ (sz' : Nat) (I' L' : q_I) (P' : q_P), sz ≤ sz' → q_GE T b m I' L' P' → qX G F Q kc ks 1828 [(0, .ref b0), (1, .ref b), (2, .ref m), (3, .ref o), (4, qI (i : Int))] [] sz' T I' L' P') : qX G F Q (kc + 1) (ks + 6) 833 [(0, .ref b0), (1, .ref b), (2, .ref m), (3, .ref o), (4, qI (i : Int))] [] sz T I L P := by
  have hA0 := hX.1
  refine q_aload_n hF 1 rfl rfl dL_law_833 ?_
  refine q_arg (i := i) (k := 1) hF hS 0 4 rfl (by omega) hn rfl rfl dL_law_834 dL_law_835 dL_law_837 dL_law_838 dL_law_839 ?_
  refine q_aload_n hF 3 rfl rfl dL_law_840 ?_
  refine q_callSH (kc := kc) (ks := ks) (mc' := 1) (ms' := 6) (h' := 5) (st := []) hF sl_RL_142 rfl [.ref b, qI (X (i + 1)), .ref o] rfl rfl (by decide) (Nat.le_of_ble_eq_true rfl) dL_law_841 ?_
  refine pr_pass hX hG (hS.r _) _ (fun k sz' I1 L1 P1 hsz hk kR => ?_)
  refine q_istore hF (ls' := [(5, qI k), (0, .ref b0), (1, .ref b), (2, .ref m), (3, .ref o), (4, qI (i : Int))]) (by decide) rfl dL_law_844 ?_
  refine q_aload_n hF 3 rfl rfl dL_law_846 ?_
  refine q_arg (i := i) (k := 1) hF hS 1 5 rfl (by omega) hn rfl rfl dL_law_847 dL_law_848 dL_law_850 dL_law_851 dL_law_852 ?_
  refine q_callV (kc := kc) (ks := ks) (mc' := 0) (ms' := 0) (h' := 3) (st := []) hF vl_RL_144 rfl [qI (X (i + 1))] rfl rfl hTm (by decide) (Nat.le_of_ble_eq_true rfl) dL_law_853 ?_
  refine kR _ (fun bv I2 L2 hG2 hth hout => ?_)
  refine q_istore hF (ls' := [(6, qI bv), (5, qI k), (0, .ref b0), (1, .ref b), (2, .ref m), (3, .ref o), (4, qI (i : Int))]) (by decide) rfl dL_law_856 ?_
  refine q_aload_n hF 4 rfl rfl dL_law_858 ?_
  refine q_callV (kc := kc) (ks := ks) (mc' := 0) (ms' := 0) (h' := 0) (st := []) hF vl_RL_108 rfl [] rfl rfl hTm (by decide) (Nat.le_of_ble_eq_true rfl) dL_law_859 ?_
  refine mX8_thrown hTm ?_
  rw [hth]
  refine q_iload hF 1 rfl dL_law_862 ?_
  refine q_icmpeqS hF dL_law_864 ?_
  refine q_iload hF 1 rfl dL_law_869 ?_
  refine q_ifne hF (by omega) dL_law_871 (fun c => ?_) (fun c => ?_)
  · refine q_goto hF dL_law_886 ?_
    refine q_sub [2, 3, 4, 5, 6] rfl ?_
    exact kk _ _ _ _ hsz hG2
  · refine q_aload_n hF 5 rfl rfl dL_law_874 ?_
    refine q_iconst hF dL_law_875 ?_
    refine q_laload hF hX.2.2.2 (by decide) (by decide) dL_law_876 ?_
    rw [show L2 o (0 : Int).toNat = _ from hout c]
    refine q_iload hF 0 rfl dL_law_877 ?_
    refine q_i2lw hF dL_law_879 ?_
    refine q_cmpeqS hF dL_law_880 dL_law_881 ?_
    refine q_goto hF dL_law_886 ?_
    refine q_sub [2, 3, 4, 5, 6] rfl ?_
    exact kk _ _ _ _ hsz hG2
set_option maxRecDepth 100000 in
theorem sg_undo {G : q_G} {F : q_F} {Q : q_Q} {kc ks sz : Nat} {T : q_T} {I L : q_I} {P : q_P} {b0 n b m o i : Nat} {X : Nat → Int} (hF : q_ok G F YL_law 1395) (hS : q_sx G F b0 n X) (hn : n ≤ 3072) (hi : i + 6 ≤ n) (hX : q_FX G T b m o) (hTb : T b = some (.inl 6)) (hTm : T m = some (.inl 7)) (hG : q_GE T b m I L P)
    (kk : ∀ (sz' : Nat) (I' L' : q_I) (P' : q_P), sz ≤ sz' → q_GE T b m I' L' P' → qX G F Q kc ks 1828 [(0, .ref b0), (1, .ref b), (2, .ref m), (3, .ref o), (4, qI (i : Int))] [] sz' T I' L' P') : qX G F Q (kc + 1) (ks + 6) 889 [(0, .ref b0), (1, .ref b), (2, .ref m), (3, .ref o), (4, qI (i : Int))] [] sz T I L P := by
  have hA0 := hX.1
  refine q_less (kc := kc) (ks := ks) (by omega) (by omega) ?_
  refine q_aload_n hF 1 rfl rfl dL_law_889 ?_
  refine q_callV (kc := kc) (ks := ks) (mc' := 0) (ms' := 0) (h' := 0) (st := []) hF vl_RL_145 rfl [] rfl rfl hTb (by decide) (Nat.le_of_ble_eq_true rfl) dL_law_890 ?_
  refine pr_undo hX hG  _ (fun bv I1 L1 P1 kR => ?_)
  refine q_aload_n hF 2 rfl rfl dL_law_893 ?_
  refine q_callV (kc := kc) (ks := ks) (mc' := 0) (ms' := 0) (h' := 2) (st := [qI bv]) hF vl_RL_148 rfl [] rfl rfl hTm (by decide) (Nat.le_of_ble_eq_true rfl) dL_law_894 ?_
  refine kR _ (fun I2 L2 hG2 => ?_)
  refine q_icmpeqS hF dL_law_897 ?_
  exact kk _ _ _ _ (Nat.le_refl _) hG2
set_option maxRecDepth 100000 in
theorem sg_told {G : q_G} {F : q_F} {Q : q_Q} {kc ks sz : Nat} {T : q_T} {I L : q_I} {P : q_P} {b0 n b m o i : Nat} {X : Nat → Int} (hF : q_ok G F YL_law 1395) (hS : q_sx G F b0 n X) (hn : n ≤ 3072) (hi : i + 6 ≤ n) (hX : q_FX G T b m o) (hTb : T b = some (.inl 6)) (hTm : T m = some (.inl 7)) (hG : q_GE T b m I L P)
    (kk : ∀ (sz' : Nat) (I' L' : q_I) (P' : q_P), sz ≤ sz' → q_GE T b m I' L' P' → qX G F Q kc ks 1828 [(0, .ref b0), (1, .ref b), (2, .ref m), (3, .ref o), (4, qI (i : Int))] [] sz' T I' L' P') : qX G F Q (kc + 1) (ks + 6) 902 [(0, .ref b0), (1, .ref b), (2, .ref m), (3, .ref o), (4, qI (i : Int))] [] sz T I L P := by
  have hA0 := hX.1
  refine q_aload_n hF 1 rfl rfl dL_law_902 ?_
  refine q_arg (i := i) (k := 1) hF hS 0 4 rfl (by omega) hn rfl rfl dL_law_903 dL_law_904 dL_law_906 dL_law_907 dL_law_908 ?_
  refine q_aload_n hF 3 rfl rfl dL_law_909 ?_
  refine q_callSH (kc := kc) (ks := ks) (mc' := 1) (ms' := 6) (h' := 4) (st := []) hF sl_RL_149 rfl [.ref b, qI (X (i + 1)), .ref o] rfl rfl (by decide) (Nat.le_of_ble_eq_true rfl) dL_law_910 ?_
  refine pr_told hX hG (hS.r _) _ (fun k sz' I1 L1 P1 hsz hk kR => ?_)
  refine q_istore hF (ls' := [(5, qI k), (0, .ref b0), (1, .ref b), (2, .ref m), (3, .ref o), (4, qI (i : Int))]) (by decide) rfl dL_law_913 ?_
  refine q_aload_n hF 3 rfl rfl dL_law_915 ?_
  refine q_arg (i := i) (k := 1) hF hS 1 5 rfl (by omega) hn rfl rfl dL_law_916 dL_law_917 dL_law_919 dL_law_920 dL_law_921 ?_
  refine q_callV (kc := kc) (ks := ks) (mc' := 0) (ms' := 0) (h' := 2) (st := []) hF vl_RL_151 rfl [qI (X (i + 1))] rfl rfl hTm (by decide) (Nat.le_of_ble_eq_true rfl) dL_law_922 ?_
  refine kR _ (fun bv I2 L2 hG2 hth hout => ?_)
  refine q_istore hF (ls' := [(6, qI bv), (5, qI k), (0, .ref b0), (1, .ref b), (2, .ref m), (3, .ref o), (4, qI (i : Int))]) (by decide) rfl dL_law_925 ?_
  refine q_aload_n hF 4 rfl rfl dL_law_927 ?_
  refine q_callV (kc := kc) (ks := ks) (mc' := 0) (ms' := 0) (h' := 0) (st := []) hF vl_RL_108 rfl [] rfl rfl hTm (by decide) (Nat.le_of_ble_eq_true rfl) dL_law_928 ?_
  refine mX8_thrown hTm ?_
  rw [hth]
  refine q_iload hF 1 rfl dL_law_931 ?_
  refine q_icmpeqS hF dL_law_933 ?_
  refine q_iload hF 1 rfl dL_law_938 ?_
  refine q_ifne hF (by omega) dL_law_940 (fun c => ?_) (fun c => ?_)
  · refine q_goto hF dL_law_955 ?_
    refine q_sub [2, 3, 4, 5, 6] rfl ?_
    exact kk _ _ _ _ hsz hG2
  · refine q_aload_n hF 5 rfl rfl dL_law_943 ?_
    refine q_iconst hF dL_law_944 ?_
    refine q_laload hF hX.2.2.2 (by decide) (by decide) dL_law_945 ?_
    rw [show L2 o (0 : Int).toNat = _ from hout c]
    refine q_iload hF 0 rfl dL_law_946 ?_
    refine q_i2lw hF dL_law_948 ?_
    refine q_cmpeqS hF dL_law_949 dL_law_950 ?_
    refine q_goto hF dL_law_955 ?_
    refine q_sub [2, 3, 4, 5, 6] rfl ?_
    exact kk _ _ _ _ hsz hG2
set_option maxRecDepth 100000 in
theorem sg_land {G : q_G} {F : q_F} {Q : q_Q} {kc ks sz : Nat} {T : q_T} {I L : q_I} {P : q_P} {b0 n b m o i : Nat} {X : Nat → Int} (hF : q_ok G F YL_law 1395) (hS : q_sx G F b0 n X) (hn : n ≤ 3072) (hi : i + 6 ≤ n) (hX : q_FX G T b m o) (hTb : T b = some (.inl 6)) (hTm : T m = some (.inl 7)) (hG : q_GE T b m I L P)
    (kk : ∀ (sz' : Nat) (I' L' : q_I) (P' : q_P), sz ≤ sz' → q_GE T b m I' L' P' → qX G F Q kc ks 1828 [(0, .ref b0), (1, .ref b), (2, .ref m), (3, .ref o), (4, qI (i : Int))] [] sz' T I' L' P') : qX G F Q (kc + 1) (ks + 6) 958 [(0, .ref b0), (1, .ref b), (2, .ref m), (3, .ref o), (4, qI (i : Int))] [] sz T I L P := by
  have hA0 := hX.1
  refine q_aload_n hF 1 rfl rfl dL_law_958 ?_
  refine q_arg (i := i) (k := 1) hF hS 0 4 rfl (by omega) hn rfl rfl dL_law_959 dL_law_960 dL_law_962 dL_law_963 dL_law_964 ?_
  refine q_arg (i := i) (k := 2) hF hS 0 4 rfl (by omega) hn rfl rfl dL_law_965 dL_law_966 dL_law_968 dL_law_969 dL_law_970 ?_
  refine q_aload_n hF 3 rfl rfl dL_law_971 ?_
  refine q_callSH (kc := kc) (ks := ks) (mc' := 1) (ms' := 6) (h' := 6) (st := []) hF sl_RL_152 rfl [.ref b, qI (X (i + 1)), qI (X (i + 2)), .ref o] rfl rfl (by decide) (Nat.le_of_ble_eq_true rfl) dL_law_972 ?_
  refine pr_land hX hG (hS.r _) (hS.r _) _ (fun k sz' I1 L1 P1 hsz hk kR => ?_)
  refine q_istore hF (ls' := [(5, qI k), (0, .ref b0), (1, .ref b), (2, .ref m), (3, .ref o), (4, qI (i : Int))]) (by decide) rfl dL_law_975 ?_
  refine q_aload_n hF 3 rfl rfl dL_law_977 ?_
  refine q_arg (i := i) (k := 1) hF hS 1 5 rfl (by omega) hn rfl rfl dL_law_978 dL_law_979 dL_law_981 dL_law_982 dL_law_983 ?_
  refine q_arg (i := i) (k := 2) hF hS 1 5 rfl (by omega) hn rfl rfl dL_law_984 dL_law_985 dL_law_987 dL_law_988 dL_law_989 ?_
  refine q_callV (kc := kc) (ks := ks) (mc' := 0) (ms' := 0) (h' := 4) (st := []) hF vl_RL_154 rfl [qI (X (i + 1)), qI (X (i + 2))] rfl rfl hTm (by decide) (Nat.le_of_ble_eq_true rfl) dL_law_990 ?_
  refine kR _ (fun bv I2 L2 hG2 hth hout => ?_)
  refine q_istore hF (ls' := [(6, qI bv), (5, qI k), (0, .ref b0), (1, .ref b), (2, .ref m), (3, .ref o), (4, qI (i : Int))]) (by decide) rfl dL_law_993 ?_
  refine q_aload_n hF 4 rfl rfl dL_law_995 ?_
  refine q_callV (kc := kc) (ks := ks) (mc' := 0) (ms' := 0) (h' := 0) (st := []) hF vl_RL_108 rfl [] rfl rfl hTm (by decide) (Nat.le_of_ble_eq_true rfl) dL_law_996 ?_
  refine mX8_thrown hTm ?_
  rw [hth]
  refine q_iload hF 1 rfl dL_law_999 ?_
  refine q_icmpeqS hF dL_law_1001 ?_
  refine q_iload hF 1 rfl dL_law_1006 ?_
  refine q_ifne hF (by omega) dL_law_1008 (fun c => ?_) (fun c => ?_)
  · refine q_goto hF dL_law_1023 ?_
    refine q_sub [2, 3, 4, 5, 6] rfl ?_
    exact kk _ _ _ _ hsz hG2
  · refine q_aload_n hF 5 rfl rfl dL_law_1011 ?_
    refine q_iconst hF dL_law_1012 ?_
    refine q_laload hF hX.2.2.2 (by decide) (by decide) dL_law_1013 ?_
    rw [show L2 o (0 : Int).toNat = _ from hout c]
    refine q_iload hF 0 rfl dL_law_1014 ?_
    refine q_i2lw hF dL_law_1016 ?_
    refine q_cmpeqS hF dL_law_1017 dL_law_1018 ?_
    refine q_goto hF dL_law_1023 ?_
    refine q_sub [2, 3, 4, 5, 6] rfl ?_
    exact kk _ _ _ _ hsz hG2
set_option maxRecDepth 100000 in
theorem sg_purse {G : q_G} {F : q_F} {Q : q_Q} {kc ks sz : Nat} {T : q_T} {I L : q_I} {P : q_P} {b0 n b m o i : Nat} {X : Nat → Int} (hF : q_ok G F YL_law 1395) (hS : q_sx G F b0 n X) (hn : n ≤ 3072) (hi : i + 6 ≤ n) (hX : q_FX G T b m o) (hTb : T b = some (.inl 6)) (hTm : T m = some (.inl 7)) (hG : q_GE T b m I L P)
    (kk : ∀ (sz' : Nat) (I' L' : q_I) (P' : q_P), sz ≤ sz' → q_GE T b m I' L' P' → qX G F Q kc ks 1828 [(0, .ref b0), (1, .ref b), (2, .ref m), (3, .ref o), (4, qI (i : Int))] [] sz' T I' L' P') : qX G F Q (kc + 1) (ks + 6) 1026 [(0, .ref b0), (1, .ref b), (2, .ref m), (3, .ref o), (4, qI (i : Int))] [] sz T I L P := by
  have hA0 := hX.1
  refine q_aload_n hF 1 rfl rfl dL_law_1026 ?_
  refine q_arg (i := i) (k := 1) hF hS 0 4 rfl (by omega) hn rfl rfl dL_law_1027 dL_law_1028 dL_law_1030 dL_law_1031 dL_law_1032 ?_
  refine q_arg (i := i) (k := 2) hF hS 0 4 rfl (by omega) hn rfl rfl dL_law_1033 dL_law_1034 dL_law_1036 dL_law_1037 dL_law_1038 ?_
  refine q_aload_n hF 3 rfl rfl dL_law_1039 ?_
  refine q_callSH (kc := kc) (ks := ks) (mc' := 1) (ms' := 6) (h' := 7) (st := []) hF sl_RL_155 rfl [.ref b, qI (X (i + 1)), qI (X (i + 2)), .ref o] rfl rfl (by decide) (Nat.le_of_ble_eq_true rfl) dL_law_1040 ?_
  refine pr_purse hX hG (hS.r _) (hS.r _) _ (fun k sz' I1 L1 P1 hsz hk kR => ?_)
  refine q_istore hF (ls' := [(5, qI k), (0, .ref b0), (1, .ref b), (2, .ref m), (3, .ref o), (4, qI (i : Int))]) (by decide) rfl dL_law_1043 ?_
  refine q_aload_n hF 3 rfl rfl dL_law_1045 ?_
  refine q_arg (i := i) (k := 1) hF hS 1 5 rfl (by omega) hn rfl rfl dL_law_1046 dL_law_1047 dL_law_1049 dL_law_1050 dL_law_1051 ?_
  refine q_arg (i := i) (k := 2) hF hS 1 5 rfl (by omega) hn rfl rfl dL_law_1052 dL_law_1053 dL_law_1055 dL_law_1056 dL_law_1057 ?_
  refine q_callV (kc := kc) (ks := ks) (mc' := 0) (ms' := 0) (h' := 4) (st := []) hF vl_RL_157 rfl [qI (X (i + 1)), qI (X (i + 2))] rfl rfl hTm (by decide) (Nat.le_of_ble_eq_true rfl) dL_law_1058 ?_
  refine kR _ (fun bv I2 L2 hG2 hth hout => ?_)
  refine q_lstore hF (ls' := [(6, qL bv), (5, qI k), (0, .ref b0), (1, .ref b), (2, .ref m), (3, .ref o), (4, qI (i : Int))]) (by decide) rfl dL_law_1061 ?_
  refine q_aload_n hF 4 rfl rfl dL_law_1063 ?_
  refine q_callV (kc := kc) (ks := ks) (mc' := 0) (ms' := 0) (h' := 0) (st := []) hF vl_RL_108 rfl [] rfl rfl hTm (by decide) (Nat.le_of_ble_eq_true rfl) dL_law_1064 ?_
  refine mX8_thrown hTm ?_
  rw [hth]
  refine q_iload hF 1 rfl dL_law_1067 ?_
  refine q_icmpeqS hF dL_law_1069 ?_
  refine q_iload hF 1 rfl dL_law_1074 ?_
  refine q_ifne hF (by omega) dL_law_1076 (fun c => ?_) (fun c => ?_)
  · refine q_goto hF dL_law_1090 ?_
    refine q_sub [2, 3, 4, 5, 6] rfl ?_
    exact kk _ _ _ _ hsz hG2
  · refine q_aload_n hF 5 rfl rfl dL_law_1079 ?_
    refine q_iconst hF dL_law_1080 ?_
    refine q_laload hF hX.2.2.2 (by decide) (by decide) dL_law_1081 ?_
    rw [show L2 o (0 : Int).toNat = _ from hout c]
    refine q_lload hF 0 rfl dL_law_1082 ?_
    refine q_cmpeqS hF dL_law_1084 dL_law_1085 ?_
    refine q_goto hF dL_law_1090 ?_
    refine q_sub [2, 3, 4, 5, 6] rfl ?_
    exact kk _ _ _ _ hsz hG2
set_option maxRecDepth 100000 in
theorem sg_letter {G : q_G} {F : q_F} {Q : q_Q} {kc ks sz : Nat} {T : q_T} {I L : q_I} {P : q_P} {b0 n b m o i : Nat} {X : Nat → Int} (hF : q_ok G F YL_law 1395) (hS : q_sx G F b0 n X) (hn : n ≤ 3072) (hi : i + 6 ≤ n) (hX : q_FX G T b m o) (hTb : T b = some (.inl 6)) (hTm : T m = some (.inl 7)) (hG : q_GE T b m I L P)
    (kk : ∀ (sz' : Nat) (I' L' : q_I) (P' : q_P), sz ≤ sz' → q_GE T b m I' L' P' → qX G F Q kc ks 1828 [(0, .ref b0), (1, .ref b), (2, .ref m), (3, .ref o), (4, qI (i : Int))] [] sz' T I' L' P') : qX G F Q (kc + 1) (ks + 6) 1093 [(0, .ref b0), (1, .ref b), (2, .ref m), (3, .ref o), (4, qI (i : Int))] [] sz T I L P := by
  have hA0 := hX.1
  refine q_aload_n hF 1 rfl rfl dL_law_1093 ?_
  refine q_arg (i := i) (k := 1) hF hS 0 4 rfl (by omega) hn rfl rfl dL_law_1094 dL_law_1095 dL_law_1097 dL_law_1098 dL_law_1099 ?_
  refine q_arg (i := i) (k := 2) hF hS 0 4 rfl (by omega) hn rfl rfl dL_law_1100 dL_law_1101 dL_law_1103 dL_law_1104 dL_law_1105 ?_
  refine q_aload_n hF 3 rfl rfl dL_law_1106 ?_
  refine q_callSH (kc := kc) (ks := ks) (mc' := 1) (ms' := 6) (h' := 5) (st := []) hF sl_RL_158 rfl [.ref b, qI (X (i + 1)), qI (X (i + 2)), .ref o] rfl rfl (by decide) (Nat.le_of_ble_eq_true rfl) dL_law_1107 ?_
  refine pr_letter hX hG (hS.r _) (hS.r _) _ (fun k sz' I1 L1 P1 hsz hk kR => ?_)
  refine q_istore hF (ls' := [(5, qI k), (0, .ref b0), (1, .ref b), (2, .ref m), (3, .ref o), (4, qI (i : Int))]) (by decide) rfl dL_law_1110 ?_
  refine q_aload_n hF 3 rfl rfl dL_law_1112 ?_
  refine q_arg (i := i) (k := 1) hF hS 1 5 rfl (by omega) hn rfl rfl dL_law_1113 dL_law_1114 dL_law_1116 dL_law_1117 dL_law_1118 ?_
  refine q_arg (i := i) (k := 2) hF hS 1 5 rfl (by omega) hn rfl rfl dL_law_1119 dL_law_1120 dL_law_1122 dL_law_1123 dL_law_1124 ?_
  refine q_callV (kc := kc) (ks := ks) (mc' := 0) (ms' := 0) (h' := 2) (st := []) hF vl_RL_160 rfl [qI (X (i + 1)), qI (X (i + 2))] rfl rfl hTm (by decide) (Nat.le_of_ble_eq_true rfl) dL_law_1125 ?_
  refine kR _ (fun bv I2 L2 hG2 hth hout => ?_)
  refine q_istore hF (ls' := [(6, qI bv), (5, qI k), (0, .ref b0), (1, .ref b), (2, .ref m), (3, .ref o), (4, qI (i : Int))]) (by decide) rfl dL_law_1128 ?_
  refine q_aload_n hF 4 rfl rfl dL_law_1130 ?_
  refine q_callV (kc := kc) (ks := ks) (mc' := 0) (ms' := 0) (h' := 0) (st := []) hF vl_RL_108 rfl [] rfl rfl hTm (by decide) (Nat.le_of_ble_eq_true rfl) dL_law_1131 ?_
  refine mX8_thrown hTm ?_
  rw [hth]
  refine q_iload hF 1 rfl dL_law_1134 ?_
  refine q_icmpeqS hF dL_law_1136 ?_
  refine q_iload hF 1 rfl dL_law_1141 ?_
  refine q_ifne hF (by omega) dL_law_1143 (fun c => ?_) (fun c => ?_)
  · refine q_goto hF dL_law_1158 ?_
    refine q_sub [2, 3, 4, 5, 6] rfl ?_
    exact kk _ _ _ _ hsz hG2
  · refine q_aload_n hF 5 rfl rfl dL_law_1146 ?_
    refine q_iconst hF dL_law_1147 ?_
    refine q_laload hF hX.2.2.2 (by decide) (by decide) dL_law_1148 ?_
    rw [show L2 o (0 : Int).toNat = _ from hout c]
    refine q_iload hF 0 rfl dL_law_1149 ?_
    refine q_i2lw hF dL_law_1151 ?_
    refine q_cmpeqS hF dL_law_1152 dL_law_1153 ?_
    refine q_goto hF dL_law_1158 ?_
    refine q_sub [2, 3, 4, 5, 6] rfl ?_
    exact kk _ _ _ _ hsz hG2
set_option maxRecDepth 100000 in
theorem sg_pays {G : q_G} {F : q_F} {Q : q_Q} {kc ks sz : Nat} {T : q_T} {I L : q_I} {P : q_P} {b0 n b m o i : Nat} {X : Nat → Int} (hF : q_ok G F YL_law 1395) (hS : q_sx G F b0 n X) (hn : n ≤ 3072) (hi : i + 6 ≤ n) (hX : q_FX G T b m o) (hTb : T b = some (.inl 6)) (hTm : T m = some (.inl 7)) (hG : q_GE T b m I L P)
    (kk : ∀ (sz' : Nat) (I' L' : q_I) (P' : q_P), sz ≤ sz' → q_GE T b m I' L' P' → qX G F Q kc ks 1828 [(0, .ref b0), (1, .ref b), (2, .ref m), (3, .ref o), (4, qI (i : Int))] [] sz' T I' L' P') : qX G F Q (kc + 1) (ks + 6) 1161 [(0, .ref b0), (1, .ref b), (2, .ref m), (3, .ref o), (4, qI (i : Int))] [] sz T I L P := by
  have hA0 := hX.1
  refine q_aload_n hF 1 rfl rfl dL_law_1161 ?_
  refine q_arg (i := i) (k := 1) hF hS 0 4 rfl (by omega) hn rfl rfl dL_law_1162 dL_law_1163 dL_law_1165 dL_law_1166 dL_law_1167 ?_
  refine q_aload_n hF 3 rfl rfl dL_law_1168 ?_
  refine q_callSH (kc := kc) (ks := ks) (mc' := 1) (ms' := 6) (h' := 4) (st := []) hF sl_RL_161 rfl [.ref b, qI (X (i + 1)), .ref o] rfl rfl (by decide) (Nat.le_of_ble_eq_true rfl) dL_law_1169 ?_
  refine pr_pays hX hG (hS.r _) _ (fun k sz' I1 L1 P1 hsz hk kR => ?_)
  refine q_istore hF (ls' := [(5, qI k), (0, .ref b0), (1, .ref b), (2, .ref m), (3, .ref o), (4, qI (i : Int))]) (by decide) rfl dL_law_1172 ?_
  refine q_aload_n hF 3 rfl rfl dL_law_1174 ?_
  refine q_arg (i := i) (k := 1) hF hS 1 5 rfl (by omega) hn rfl rfl dL_law_1175 dL_law_1176 dL_law_1178 dL_law_1179 dL_law_1180 ?_
  refine q_callV (kc := kc) (ks := ks) (mc' := 0) (ms' := 0) (h' := 2) (st := []) hF vl_RL_163 rfl [qI (X (i + 1))] rfl rfl hTm (by decide) (Nat.le_of_ble_eq_true rfl) dL_law_1181 ?_
  refine kR _ (fun bv I2 L2 hG2 hth hout => ?_)
  refine q_istore hF (ls' := [(6, qI bv), (5, qI k), (0, .ref b0), (1, .ref b), (2, .ref m), (3, .ref o), (4, qI (i : Int))]) (by decide) rfl dL_law_1184 ?_
  refine q_aload_n hF 4 rfl rfl dL_law_1186 ?_
  refine q_callV (kc := kc) (ks := ks) (mc' := 0) (ms' := 0) (h' := 0) (st := []) hF vl_RL_108 rfl [] rfl rfl hTm (by decide) (Nat.le_of_ble_eq_true rfl) dL_law_1187 ?_
  refine mX8_thrown hTm ?_
  rw [hth]
  refine q_iload hF 1 rfl dL_law_1190 ?_
  refine q_icmpeqS hF dL_law_1192 ?_
  refine q_iload hF 1 rfl dL_law_1197 ?_
  refine q_ifne hF (by omega) dL_law_1199 (fun c => ?_) (fun c => ?_)
  · refine q_goto hF dL_law_1214 ?_
    refine q_sub [2, 3, 4, 5, 6] rfl ?_
    exact kk _ _ _ _ hsz hG2
  · refine q_aload_n hF 5 rfl rfl dL_law_1202 ?_
    refine q_iconst hF dL_law_1203 ?_
    refine q_laload hF hX.2.2.2 (by decide) (by decide) dL_law_1204 ?_
    rw [show L2 o (0 : Int).toNat = _ from hout c]
    refine q_iload hF 0 rfl dL_law_1205 ?_
    refine q_i2lw hF dL_law_1207 ?_
    refine q_cmpeqS hF dL_law_1208 dL_law_1209 ?_
    refine q_goto hF dL_law_1214 ?_
    refine q_sub [2, 3, 4, 5, 6] rfl ?_
    exact kk _ _ _ _ hsz hG2
set_option maxRecDepth 100000 in
theorem sg_account {G : q_G} {F : q_F} {Q : q_Q} {kc ks sz : Nat} {T : q_T} {I L : q_I} {P : q_P} {b0 n b m o i : Nat} {X : Nat → Int} (hF : q_ok G F YL_law 1395) (hS : q_sx G F b0 n X) (hn : n ≤ 3072) (hi : i + 6 ≤ n) (hX : q_FX G T b m o) (hTb : T b = some (.inl 6)) (hTm : T m = some (.inl 7)) (hG : q_GE T b m I L P)
    (kk : ∀ (sz' : Nat) (I' L' : q_I) (P' : q_P), sz ≤ sz' → q_GE T b m I' L' P' → qX G F Q kc ks 1828 [(0, .ref b0), (1, .ref b), (2, .ref m), (3, .ref o), (4, qI (i : Int))] [] sz' T I' L' P') : qX G F Q (kc + 1) (ks + 6) 1217 [(0, .ref b0), (1, .ref b), (2, .ref m), (3, .ref o), (4, qI (i : Int))] [] sz T I L P := by
  have hA0 := hX.1
  refine q_aload_n hF 1 rfl rfl dL_law_1217 ?_
  refine q_arg (i := i) (k := 1) hF hS 0 4 rfl (by omega) hn rfl rfl dL_law_1218 dL_law_1219 dL_law_1221 dL_law_1222 dL_law_1223 ?_
  refine q_arg (i := i) (k := 2) hF hS 0 4 rfl (by omega) hn rfl rfl dL_law_1224 dL_law_1225 dL_law_1227 dL_law_1228 dL_law_1229 ?_
  refine q_aload_n hF 3 rfl rfl dL_law_1230 ?_
  refine q_callSH (kc := kc) (ks := ks) (mc' := 1) (ms' := 6) (h' := 5) (st := []) hF sl_RL_164 rfl [.ref b, qI (X (i + 1)), qI (X (i + 2)), .ref o] rfl rfl (by decide) (Nat.le_of_ble_eq_true rfl) dL_law_1231 ?_
  refine pr_account hX hG (hS.r _) (hS.r _) _ (fun k sz' I1 L1 P1 hsz hk kR => ?_)
  refine q_istore hF (ls' := [(5, qI k), (0, .ref b0), (1, .ref b), (2, .ref m), (3, .ref o), (4, qI (i : Int))]) (by decide) rfl dL_law_1234 ?_
  refine q_aload_n hF 3 rfl rfl dL_law_1236 ?_
  refine q_arg (i := i) (k := 1) hF hS 1 5 rfl (by omega) hn rfl rfl dL_law_1237 dL_law_1238 dL_law_1240 dL_law_1241 dL_law_1242 ?_
  refine q_arg (i := i) (k := 2) hF hS 1 5 rfl (by omega) hn rfl rfl dL_law_1243 dL_law_1244 dL_law_1246 dL_law_1247 dL_law_1248 ?_
  refine q_callV (kc := kc) (ks := ks) (mc' := 0) (ms' := 0) (h' := 3) (st := []) hF vl_RL_166 rfl [qI (X (i + 1)), qI (X (i + 2))] rfl rfl hTm (by decide) (Nat.le_of_ble_eq_true rfl) dL_law_1249 ?_
  refine kR _ (fun bv I2 L2 hG2 hth hout => ?_)
  refine q_istore hF (ls' := [(6, qI bv), (5, qI k), (0, .ref b0), (1, .ref b), (2, .ref m), (3, .ref o), (4, qI (i : Int))]) (by decide) rfl dL_law_1252 ?_
  refine q_aload_n hF 4 rfl rfl dL_law_1254 ?_
  refine q_callV (kc := kc) (ks := ks) (mc' := 0) (ms' := 0) (h' := 0) (st := []) hF vl_RL_108 rfl [] rfl rfl hTm (by decide) (Nat.le_of_ble_eq_true rfl) dL_law_1255 ?_
  refine mX8_thrown hTm ?_
  rw [hth]
  refine q_iload hF 1 rfl dL_law_1258 ?_
  refine q_icmpeqS hF dL_law_1260 ?_
  refine q_iload hF 1 rfl dL_law_1265 ?_
  refine q_ifne hF (by omega) dL_law_1267 (fun c => ?_) (fun c => ?_)
  · refine q_goto hF dL_law_1282 ?_
    refine q_sub [2, 3, 4, 5, 6] rfl ?_
    exact kk _ _ _ _ hsz hG2
  · refine q_aload_n hF 5 rfl rfl dL_law_1270 ?_
    refine q_iconst hF dL_law_1271 ?_
    refine q_laload hF hX.2.2.2 (by decide) (by decide) dL_law_1272 ?_
    rw [show L2 o (0 : Int).toNat = _ from hout c]
    refine q_iload hF 0 rfl dL_law_1273 ?_
    refine q_i2lw hF dL_law_1275 ?_
    refine q_cmpeqS hF dL_law_1276 dL_law_1277 ?_
    refine q_goto hF dL_law_1282 ?_
    refine q_sub [2, 3, 4, 5, 6] rfl ?_
    exact kk _ _ _ _ hsz hG2
set_option maxRecDepth 100000 in
theorem sg_sleep {G : q_G} {F : q_F} {Q : q_Q} {kc ks sz : Nat} {T : q_T} {I L : q_I} {P : q_P} {b0 n b m o i : Nat} {X : Nat → Int} (hF : q_ok G F YL_law 1395) (hS : q_sx G F b0 n X) (hn : n ≤ 3072) (hi : i + 6 ≤ n) (hX : q_FX G T b m o) (hTb : T b = some (.inl 6)) (hTm : T m = some (.inl 7)) (hG : q_GE T b m I L P)
    (kk : ∀ (sz' : Nat) (I' L' : q_I) (P' : q_P), sz ≤ sz' → q_GE T b m I' L' P' → qX G F Q kc ks 1828 [(0, .ref b0), (1, .ref b), (2, .ref m), (3, .ref o), (4, qI (i : Int))] [] sz' T I' L' P') : qX G F Q (kc + 1) (ks + 6) 1285 [(0, .ref b0), (1, .ref b), (2, .ref m), (3, .ref o), (4, qI (i : Int))] [] sz T I L P := by
  have hA0 := hX.1
  refine q_aload_n hF 1 rfl rfl dL_law_1285 ?_
  refine q_arg (i := i) (k := 1) hF hS 0 4 rfl (by omega) hn rfl rfl dL_law_1286 dL_law_1287 dL_law_1289 dL_law_1290 dL_law_1291 ?_
  refine q_aload_n hF 3 rfl rfl dL_law_1292 ?_
  refine q_callSH (kc := kc) (ks := ks) (mc' := 1) (ms' := 6) (h' := 5) (st := []) hF sl_RL_167 rfl [.ref b, qI (X (i + 1)), .ref o] rfl rfl (by decide) (Nat.le_of_ble_eq_true rfl) dL_law_1293 ?_
  refine pr_sleep hX hG (hS.r _) _ (fun k sz' I1 L1 P1 hsz hk kR => ?_)
  refine q_istore hF (ls' := [(5, qI k), (0, .ref b0), (1, .ref b), (2, .ref m), (3, .ref o), (4, qI (i : Int))]) (by decide) rfl dL_law_1296 ?_
  refine q_aload_n hF 3 rfl rfl dL_law_1298 ?_
  refine q_arg (i := i) (k := 1) hF hS 1 5 rfl (by omega) hn rfl rfl dL_law_1299 dL_law_1300 dL_law_1302 dL_law_1303 dL_law_1304 ?_
  refine q_callV (kc := kc) (ks := ks) (mc' := 0) (ms' := 0) (h' := 4) (st := []) hF vl_RL_169 rfl [qI (X (i + 1))] rfl rfl hTm (by decide) (Nat.le_of_ble_eq_true rfl) dL_law_1305 ?_
  refine kR _ (fun bv I2 L2 hG2 hth hout => ?_)
  refine q_istore hF (ls' := [(6, qI bv), (5, qI k), (0, .ref b0), (1, .ref b), (2, .ref m), (3, .ref o), (4, qI (i : Int))]) (by decide) rfl dL_law_1308 ?_
  refine q_aload_n hF 4 rfl rfl dL_law_1310 ?_
  refine q_callV (kc := kc) (ks := ks) (mc' := 0) (ms' := 0) (h' := 0) (st := []) hF vl_RL_108 rfl [] rfl rfl hTm (by decide) (Nat.le_of_ble_eq_true rfl) dL_law_1311 ?_
  refine mX8_thrown hTm ?_
  rw [hth]
  refine q_iload hF 1 rfl dL_law_1314 ?_
  refine q_icmpeqS hF dL_law_1316 ?_
  refine q_iload hF 1 rfl dL_law_1321 ?_
  refine q_ifne hF (by omega) dL_law_1323 (fun c => ?_) (fun c => ?_)
  · refine q_goto hF dL_law_1338 ?_
    refine q_sub [2, 3, 4, 5, 6] rfl ?_
    exact kk _ _ _ _ hsz hG2
  · refine q_aload_n hF 5 rfl rfl dL_law_1326 ?_
    refine q_iconst hF dL_law_1327 ?_
    refine q_laload hF hX.2.2.2 (by decide) (by decide) dL_law_1328 ?_
    rw [show L2 o (0 : Int).toNat = _ from hout c]
    refine q_iload hF 0 rfl dL_law_1329 ?_
    refine q_i2lw hF dL_law_1331 ?_
    refine q_cmpeqS hF dL_law_1332 dL_law_1333 ?_
    refine q_goto hF dL_law_1338 ?_
    refine q_sub [2, 3, 4, 5, 6] rfl ?_
    exact kk _ _ _ _ hsz hG2
set_option maxRecDepth 100000 in
theorem sg_soon {G : q_G} {F : q_F} {Q : q_Q} {kc ks sz : Nat} {T : q_T} {I L : q_I} {P : q_P} {b0 n b m o i : Nat} {X : Nat → Int} (hF : q_ok G F YL_law 1395) (hS : q_sx G F b0 n X) (hn : n ≤ 3072) (hi : i + 6 ≤ n) (hX : q_FX G T b m o) (hTb : T b = some (.inl 6)) (hTm : T m = some (.inl 7)) (hG : q_GE T b m I L P)
    (kk : ∀ (sz' : Nat) (I' L' : q_I) (P' : q_P), sz ≤ sz' → q_GE T b m I' L' P' → qX G F Q kc ks 1828 [(0, .ref b0), (1, .ref b), (2, .ref m), (3, .ref o), (4, qI (i : Int))] [] sz' T I' L' P') : qX G F Q (kc + 1) (ks + 6) 1341 [(0, .ref b0), (1, .ref b), (2, .ref m), (3, .ref o), (4, qI (i : Int))] [] sz T I L P := by
  have hA0 := hX.1
  refine q_aload_n hF 1 rfl rfl dL_law_1341 ?_
  refine q_arg (i := i) (k := 1) hF hS 0 4 rfl (by omega) hn rfl rfl dL_law_1342 dL_law_1343 dL_law_1345 dL_law_1346 dL_law_1347 ?_
  refine q_aload_n hF 3 rfl rfl dL_law_1348 ?_
  refine q_callSH (kc := kc) (ks := ks) (mc' := 1) (ms' := 6) (h' := 8) (st := []) hF sl_RL_170 rfl [.ref b, qI (X (i + 1)), .ref o] rfl rfl (by decide) (Nat.le_of_ble_eq_true rfl) dL_law_1349 ?_
  refine pr_soon hX hG (hS.r _) _ (fun k sz' I1 L1 P1 hsz hk kR => ?_)
  refine q_istore hF (ls' := [(5, qI k), (0, .ref b0), (1, .ref b), (2, .ref m), (3, .ref o), (4, qI (i : Int))]) (by decide) rfl dL_law_1352 ?_
  refine q_aload_n hF 3 rfl rfl dL_law_1354 ?_
  refine q_arg (i := i) (k := 1) hF hS 1 5 rfl (by omega) hn rfl rfl dL_law_1355 dL_law_1356 dL_law_1358 dL_law_1359 dL_law_1360 ?_
  refine q_callV (kc := kc) (ks := ks) (mc' := 0) (ms' := 0) (h' := 7) (st := []) hF vl_RL_172 rfl [qI (X (i + 1))] rfl rfl hTm (by decide) (Nat.le_of_ble_eq_true rfl) dL_law_1361 ?_
  refine kR _ (fun bv I2 L2 hG2 hth hout => ?_)
  refine q_istore hF (ls' := [(6, qI bv), (5, qI k), (0, .ref b0), (1, .ref b), (2, .ref m), (3, .ref o), (4, qI (i : Int))]) (by decide) rfl dL_law_1364 ?_
  refine q_aload_n hF 4 rfl rfl dL_law_1366 ?_
  refine q_callV (kc := kc) (ks := ks) (mc' := 0) (ms' := 0) (h' := 0) (st := []) hF vl_RL_108 rfl [] rfl rfl hTm (by decide) (Nat.le_of_ble_eq_true rfl) dL_law_1367 ?_
  refine mX8_thrown hTm ?_
  rw [hth]
  refine q_iload hF 1 rfl dL_law_1370 ?_
  refine q_icmpeqS hF dL_law_1372 ?_
  refine q_iload hF 1 rfl dL_law_1377 ?_
  refine q_ifne hF (by omega) dL_law_1379 (fun c => ?_) (fun c => ?_)
  · refine q_goto hF dL_law_1394 ?_
    refine q_sub [2, 3, 4, 5, 6] rfl ?_
    exact kk _ _ _ _ hsz hG2
  · refine q_aload_n hF 5 rfl rfl dL_law_1382 ?_
    refine q_iconst hF dL_law_1383 ?_
    refine q_laload hF hX.2.2.2 (by decide) (by decide) dL_law_1384 ?_
    rw [show L2 o (0 : Int).toNat = _ from hout c]
    refine q_iload hF 0 rfl dL_law_1385 ?_
    refine q_i2lw hF dL_law_1387 ?_
    refine q_cmpeqS hF dL_law_1388 dL_law_1389 ?_
    refine q_goto hF dL_law_1394 ?_
    refine q_sub [2, 3, 4, 5, 6] rfl ?_
    exact kk _ _ _ _ hsz hG2
set_option maxRecDepth 100000 in
theorem sg_worth {G : q_G} {F : q_F} {Q : q_Q} {kc ks sz : Nat} {T : q_T} {I L : q_I} {P : q_P} {b0 n b m o i : Nat} {X : Nat → Int} (hF : q_ok G F YL_law 1395) (hS : q_sx G F b0 n X) (hn : n ≤ 3072) (hi : i + 6 ≤ n) (hX : q_FX G T b m o) (hTb : T b = some (.inl 6)) (hTm : T m = some (.inl 7)) (hG : q_GE T b m I L P)
    (kk : ∀ (sz' : Nat) (I' L' : q_I) (P' : q_P), sz ≤ sz' → q_GE T b m I' L' P' → qX G F Q kc ks 1828 [(0, .ref b0), (1, .ref b), (2, .ref m), (3, .ref o), (4, qI (i : Int))] [] sz' T I' L' P') : qX G F Q (kc + 1) (ks + 6) 1397 [(0, .ref b0), (1, .ref b), (2, .ref m), (3, .ref o), (4, qI (i : Int))] [] sz T I L P := by
  have hA0 := hX.1
  refine q_aload_n hF 1 rfl rfl dL_law_1397 ?_
  refine q_arg (i := i) (k := 1) hF hS 0 4 rfl (by omega) hn rfl rfl dL_law_1398 dL_law_1399 dL_law_1401 dL_law_1402 dL_law_1403 ?_
  refine q_arg (i := i) (k := 2) hF hS 0 4 rfl (by omega) hn rfl rfl dL_law_1404 dL_law_1405 dL_law_1407 dL_law_1408 dL_law_1409 ?_
  refine q_aload_n hF 3 rfl rfl dL_law_1410 ?_
  refine q_callSH (kc := kc) (ks := ks) (mc' := 1) (ms' := 6) (h' := 5) (st := []) hF sl_RL_173 rfl [.ref b, qI (X (i + 1)), qI (X (i + 2)), .ref o] rfl rfl (by decide) (Nat.le_of_ble_eq_true rfl) dL_law_1411 ?_
  refine pr_worth hX hG (hS.r _) (hS.r _) _ (fun k sz' I1 L1 P1 hsz hk kR => ?_)
  refine q_istore hF (ls' := [(5, qI k), (0, .ref b0), (1, .ref b), (2, .ref m), (3, .ref o), (4, qI (i : Int))]) (by decide) rfl dL_law_1414 ?_
  refine q_aload_n hF 3 rfl rfl dL_law_1416 ?_
  refine q_arg (i := i) (k := 1) hF hS 1 5 rfl (by omega) hn rfl rfl dL_law_1417 dL_law_1418 dL_law_1420 dL_law_1421 dL_law_1422 ?_
  refine q_arg (i := i) (k := 2) hF hS 1 5 rfl (by omega) hn rfl rfl dL_law_1423 dL_law_1424 dL_law_1426 dL_law_1427 dL_law_1428 ?_
  refine q_callV (kc := kc) (ks := ks) (mc' := 0) (ms' := 0) (h' := 4) (st := []) hF vl_RL_175 rfl [qI (X (i + 1)), qI (X (i + 2))] rfl rfl hTm (by decide) (Nat.le_of_ble_eq_true rfl) dL_law_1429 ?_
  refine kR _ (fun bv I2 L2 hG2 hth hout => ?_)
  refine q_lstore hF (ls' := [(6, qL bv), (5, qI k), (0, .ref b0), (1, .ref b), (2, .ref m), (3, .ref o), (4, qI (i : Int))]) (by decide) rfl dL_law_1432 ?_
  refine q_aload_n hF 4 rfl rfl dL_law_1434 ?_
  refine q_callV (kc := kc) (ks := ks) (mc' := 0) (ms' := 0) (h' := 0) (st := []) hF vl_RL_108 rfl [] rfl rfl hTm (by decide) (Nat.le_of_ble_eq_true rfl) dL_law_1435 ?_
  refine mX8_thrown hTm ?_
  rw [hth]
  refine q_iload hF 1 rfl dL_law_1438 ?_
  refine q_icmpeqS hF dL_law_1440 ?_
  refine q_iload hF 1 rfl dL_law_1445 ?_
  refine q_ifne hF (by omega) dL_law_1447 (fun c => ?_) (fun c => ?_)
  · refine q_goto hF dL_law_1461 ?_
    refine q_sub [2, 3, 4, 5, 6] rfl ?_
    exact kk _ _ _ _ hsz hG2
  · refine q_aload_n hF 5 rfl rfl dL_law_1450 ?_
    refine q_iconst hF dL_law_1451 ?_
    refine q_laload hF hX.2.2.2 (by decide) (by decide) dL_law_1452 ?_
    rw [show L2 o (0 : Int).toNat = _ from hout c]
    refine q_lload hF 0 rfl dL_law_1453 ?_
    refine q_cmpeqS hF dL_law_1455 dL_law_1456 ?_
    refine q_goto hF dL_law_1461 ?_
    refine q_sub [2, 3, 4, 5, 6] rfl ?_
    exact kk _ _ _ _ hsz hG2
set_option maxRecDepth 100000 in
theorem sg_row {G : q_G} {F : q_F} {Q : q_Q} {kc ks sz : Nat} {T : q_T} {I L : q_I} {P : q_P} {b0 n b m o i : Nat} {X : Nat → Int} (hF : q_ok G F YL_law 1395) (hS : q_sx G F b0 n X) (hn : n ≤ 3072) (hi : i + 6 ≤ n) (hX : q_FX G T b m o) (hTb : T b = some (.inl 6)) (hTm : T m = some (.inl 7)) (hG : q_GE T b m I L P)
    (kk : ∀ (sz' : Nat) (I' L' : q_I) (P' : q_P), sz ≤ sz' → q_GE T b m I' L' P' → qX G F Q kc ks 1828 [(0, .ref b0), (1, .ref b), (2, .ref m), (3, .ref o), (4, qI (i : Int))] [] sz' T I' L' P') : qX G F Q (kc + 1) (ks + 6) 1464 [(0, .ref b0), (1, .ref b), (2, .ref m), (3, .ref o), (4, qI (i : Int))] [] sz T I L P := by
  have hA0 := hX.1
  refine q_aload_n hF 1 rfl rfl dL_law_1464 ?_
  refine q_arg (i := i) (k := 1) hF hS 0 4 rfl (by omega) hn rfl rfl dL_law_1465 dL_law_1466 dL_law_1468 dL_law_1469 dL_law_1470 ?_
  refine q_arg (i := i) (k := 2) hF hS 0 4 rfl (by omega) hn rfl rfl dL_law_1471 dL_law_1472 dL_law_1474 dL_law_1475 dL_law_1476 ?_
  refine q_aload_n hF 3 rfl rfl dL_law_1477 ?_
  refine q_callSH (kc := kc) (ks := ks) (mc' := 1) (ms' := 6) (h' := 4) (st := []) hF sl_RL_176 rfl [.ref b, qI (X (i + 1)), qI (X (i + 2)), .ref o] rfl rfl (by decide) (Nat.le_of_ble_eq_true rfl) dL_law_1478 ?_
  refine pr_row hX hG (hS.r _) (hS.r _) _ (fun k sz' I1 L1 P1 hsz hk kR => ?_)
  refine q_istore hF (ls' := [(5, qI k), (0, .ref b0), (1, .ref b), (2, .ref m), (3, .ref o), (4, qI (i : Int))]) (by decide) rfl dL_law_1481 ?_
  refine q_aload_n hF 3 rfl rfl dL_law_1483 ?_
  refine q_arg (i := i) (k := 1) hF hS 1 5 rfl (by omega) hn rfl rfl dL_law_1484 dL_law_1485 dL_law_1487 dL_law_1488 dL_law_1489 ?_
  refine q_arg (i := i) (k := 2) hF hS 1 5 rfl (by omega) hn rfl rfl dL_law_1490 dL_law_1491 dL_law_1493 dL_law_1494 dL_law_1495 ?_
  refine q_callV (kc := kc) (ks := ks) (mc' := 0) (ms' := 0) (h' := 2) (st := []) hF vl_RL_178 rfl [qI (X (i + 1)), qI (X (i + 2))] rfl rfl hTm (by decide) (Nat.le_of_ble_eq_true rfl) dL_law_1496 ?_
  refine kR _ (fun bv I2 L2 hG2 hth hout => ?_)
  refine q_istore hF (ls' := [(6, qI bv), (5, qI k), (0, .ref b0), (1, .ref b), (2, .ref m), (3, .ref o), (4, qI (i : Int))]) (by decide) rfl dL_law_1499 ?_
  refine q_aload_n hF 4 rfl rfl dL_law_1501 ?_
  refine q_callV (kc := kc) (ks := ks) (mc' := 0) (ms' := 0) (h' := 0) (st := []) hF vl_RL_108 rfl [] rfl rfl hTm (by decide) (Nat.le_of_ble_eq_true rfl) dL_law_1502 ?_
  refine mX8_thrown hTm ?_
  rw [hth]
  refine q_iload hF 1 rfl dL_law_1505 ?_
  refine q_icmpeqS hF dL_law_1507 ?_
  refine q_iload hF 1 rfl dL_law_1512 ?_
  refine q_ifne hF (by omega) dL_law_1514 (fun c => ?_) (fun c => ?_)
  · refine q_goto hF dL_law_1529 ?_
    refine q_sub [2, 3, 4, 5, 6] rfl ?_
    exact kk _ _ _ _ hsz hG2
  · refine q_aload_n hF 5 rfl rfl dL_law_1517 ?_
    refine q_iconst hF dL_law_1518 ?_
    refine q_laload hF hX.2.2.2 (by decide) (by decide) dL_law_1519 ?_
    rw [show L2 o (0 : Int).toNat = _ from hout c]
    refine q_iload hF 0 rfl dL_law_1520 ?_
    refine q_i2lw hF dL_law_1522 ?_
    refine q_cmpeqS hF dL_law_1523 dL_law_1524 ?_
    refine q_goto hF dL_law_1529 ?_
    refine q_sub [2, 3, 4, 5, 6] rfl ?_
    exact kk _ _ _ _ hsz hG2
set_option maxRecDepth 100000 in
theorem sg_ahead {G : q_G} {F : q_F} {Q : q_Q} {kc ks sz : Nat} {T : q_T} {I L : q_I} {P : q_P} {b0 n b m o i : Nat} {X : Nat → Int} (hF : q_ok G F YL_law 1395) (hS : q_sx G F b0 n X) (hn : n ≤ 3072) (hi : i + 6 ≤ n) (hX : q_FX G T b m o) (hTb : T b = some (.inl 6)) (hTm : T m = some (.inl 7)) (hG : q_GE T b m I L P)
    (kk : ∀ (sz' : Nat) (I' L' : q_I) (P' : q_P), sz ≤ sz' → q_GE T b m I' L' P' → qX G F Q kc ks 1828 [(0, .ref b0), (1, .ref b), (2, .ref m), (3, .ref o), (4, qI (i : Int))] [] sz' T I' L' P') : qX G F Q (kc + 1) (ks + 6) 1532 [(0, .ref b0), (1, .ref b), (2, .ref m), (3, .ref o), (4, qI (i : Int))] [] sz T I L P := by
  have hA0 := hX.1
  refine q_aload_n hF 1 rfl rfl dL_law_1532 ?_
  refine q_arg (i := i) (k := 1) hF hS 0 4 rfl (by omega) hn rfl rfl dL_law_1533 dL_law_1534 dL_law_1536 dL_law_1537 dL_law_1538 ?_
  refine q_arg (i := i) (k := 2) hF hS 0 4 rfl (by omega) hn rfl rfl dL_law_1539 dL_law_1540 dL_law_1542 dL_law_1543 dL_law_1544 ?_
  refine q_aload_n hF 3 rfl rfl dL_law_1545 ?_
  refine q_callSH (kc := kc) (ks := ks) (mc' := 1) (ms' := 6) (h' := 8) (st := []) hF sl_RL_179 rfl [.ref b, qI (X (i + 1)), qI (X (i + 2)), .ref o] rfl rfl (by decide) (Nat.le_of_ble_eq_true rfl) dL_law_1546 ?_
  refine pr_ahead hX hG (hS.r _) (hS.r _) _ (fun k sz' I1 L1 P1 hsz hk kR => ?_)
  refine q_istore hF (ls' := [(5, qI k), (0, .ref b0), (1, .ref b), (2, .ref m), (3, .ref o), (4, qI (i : Int))]) (by decide) rfl dL_law_1549 ?_
  refine q_aload_n hF 3 rfl rfl dL_law_1551 ?_
  refine q_arg (i := i) (k := 1) hF hS 1 5 rfl (by omega) hn rfl rfl dL_law_1552 dL_law_1553 dL_law_1555 dL_law_1556 dL_law_1557 ?_
  refine q_arg (i := i) (k := 2) hF hS 1 5 rfl (by omega) hn rfl rfl dL_law_1558 dL_law_1559 dL_law_1561 dL_law_1562 dL_law_1563 ?_
  refine q_callV (kc := kc) (ks := ks) (mc' := 0) (ms' := 0) (h' := 6) (st := []) hF vl_RL_181 rfl [qI (X (i + 1)), qI (X (i + 2))] rfl rfl hTm (by decide) (Nat.le_of_ble_eq_true rfl) dL_law_1564 ?_
  refine kR _ (fun bv I2 L2 hG2 hth hout => ?_)
  refine q_lstore hF (ls' := [(6, qL bv), (5, qI k), (0, .ref b0), (1, .ref b), (2, .ref m), (3, .ref o), (4, qI (i : Int))]) (by decide) rfl dL_law_1567 ?_
  refine q_aload_n hF 4 rfl rfl dL_law_1569 ?_
  refine q_callV (kc := kc) (ks := ks) (mc' := 0) (ms' := 0) (h' := 0) (st := []) hF vl_RL_108 rfl [] rfl rfl hTm (by decide) (Nat.le_of_ble_eq_true rfl) dL_law_1570 ?_
  refine mX8_thrown hTm ?_
  rw [hth]
  refine q_iload hF 1 rfl dL_law_1573 ?_
  refine q_icmpeqS hF dL_law_1575 ?_
  refine q_iload hF 1 rfl dL_law_1580 ?_
  refine q_ifne hF (by omega) dL_law_1582 (fun c => ?_) (fun c => ?_)
  · refine q_goto hF dL_law_1596 ?_
    refine q_sub [2, 3, 4, 5, 6] rfl ?_
    exact kk _ _ _ _ hsz hG2
  · refine q_aload_n hF 5 rfl rfl dL_law_1585 ?_
    refine q_iconst hF dL_law_1586 ?_
    refine q_laload hF hX.2.2.2 (by decide) (by decide) dL_law_1587 ?_
    rw [show L2 o (0 : Int).toNat = _ from hout c]
    refine q_lload hF 0 rfl dL_law_1588 ?_
    refine q_cmpeqS hF dL_law_1590 dL_law_1591 ?_
    refine q_goto hF dL_law_1596 ?_
    refine q_sub [2, 3, 4, 5, 6] rfl ?_
    exact kk _ _ _ _ hsz hG2
set_option maxRecDepth 100000 in
theorem sg_letters {G : q_G} {F : q_F} {Q : q_Q} {kc ks sz : Nat} {T : q_T} {I L : q_I} {P : q_P} {b0 n b m o i : Nat} {X : Nat → Int} (hF : q_ok G F YL_law 1395) (hS : q_sx G F b0 n X) (hn : n ≤ 3072) (hi : i + 6 ≤ n) (hX : q_FX G T b m o) (hTb : T b = some (.inl 6)) (hTm : T m = some (.inl 7)) (hG : q_GE T b m I L P)
    (kk : ∀ (sz' : Nat) (I' L' : q_I) (P' : q_P), sz ≤ sz' → q_GE T b m I' L' P' → qX G F Q kc ks 1828 [(0, .ref b0), (1, .ref b), (2, .ref m), (3, .ref o), (4, qI (i : Int))] [] sz' T I' L' P') : qX G F Q (kc + 1) (ks + 6) 1599 [(0, .ref b0), (1, .ref b), (2, .ref m), (3, .ref o), (4, qI (i : Int))] [] sz T I L P := by
  have hA0 := hX.1
  refine q_aload_n hF 1 rfl rfl dL_law_1599 ?_
  refine q_arg (i := i) (k := 1) hF hS 0 4 rfl (by omega) hn rfl rfl dL_law_1600 dL_law_1601 dL_law_1603 dL_law_1604 dL_law_1605 ?_
  refine q_aload_n hF 3 rfl rfl dL_law_1606 ?_
  refine q_callSH (kc := kc) (ks := ks) (mc' := 1) (ms' := 6) (h' := 8) (st := []) hF sl_RL_182 rfl [.ref b, qI (X (i + 1)), .ref o] rfl rfl (by decide) (Nat.le_of_ble_eq_true rfl) dL_law_1607 ?_
  refine pr_letters hX hG (hS.r _) _ (fun k sz' I1 L1 P1 hsz hk kR => ?_)
  refine q_istore hF (ls' := [(5, qI k), (0, .ref b0), (1, .ref b), (2, .ref m), (3, .ref o), (4, qI (i : Int))]) (by decide) rfl dL_law_1610 ?_
  refine q_aload_n hF 3 rfl rfl dL_law_1612 ?_
  refine q_arg (i := i) (k := 1) hF hS 1 5 rfl (by omega) hn rfl rfl dL_law_1613 dL_law_1614 dL_law_1616 dL_law_1617 dL_law_1618 ?_
  refine q_callV (kc := kc) (ks := ks) (mc' := 0) (ms' := 0) (h' := 6) (st := []) hF vl_RL_184 rfl [qI (X (i + 1))] rfl rfl hTm (by decide) (Nat.le_of_ble_eq_true rfl) dL_law_1619 ?_
  refine kR _ (fun bv I2 L2 hG2 hth hout => ?_)
  refine q_istore hF (ls' := [(6, qI bv), (5, qI k), (0, .ref b0), (1, .ref b), (2, .ref m), (3, .ref o), (4, qI (i : Int))]) (by decide) rfl dL_law_1622 ?_
  refine q_aload_n hF 4 rfl rfl dL_law_1624 ?_
  refine q_callV (kc := kc) (ks := ks) (mc' := 0) (ms' := 0) (h' := 0) (st := []) hF vl_RL_108 rfl [] rfl rfl hTm (by decide) (Nat.le_of_ble_eq_true rfl) dL_law_1625 ?_
  refine mX8_thrown hTm ?_
  rw [hth]
  refine q_iload hF 1 rfl dL_law_1628 ?_
  refine q_icmpeqS hF dL_law_1630 ?_
  refine q_iload hF 1 rfl dL_law_1635 ?_
  refine q_ifne hF (by omega) dL_law_1637 (fun c => ?_) (fun c => ?_)
  · refine q_goto hF dL_law_1652 ?_
    refine q_sub [2, 3, 4, 5, 6] rfl ?_
    exact kk _ _ _ _ hsz hG2
  · refine q_aload_n hF 5 rfl rfl dL_law_1640 ?_
    refine q_iconst hF dL_law_1641 ?_
    refine q_laload hF hX.2.2.2 (by decide) (by decide) dL_law_1642 ?_
    rw [show L2 o (0 : Int).toNat = _ from hout c]
    refine q_iload hF 0 rfl dL_law_1643 ?_
    refine q_i2lw hF dL_law_1645 ?_
    refine q_cmpeqS hF dL_law_1646 dL_law_1647 ?_
    refine q_goto hF dL_law_1652 ?_
    refine q_sub [2, 3, 4, 5, 6] rfl ?_
    exact kk _ _ _ _ hsz hG2
set_option maxRecDepth 100000 in
theorem sg_rescue {G : q_G} {F : q_F} {Q : q_Q} {kc ks sz : Nat} {T : q_T} {I L : q_I} {P : q_P} {b0 n b m o i : Nat} {X : Nat → Int} (hF : q_ok G F YL_law 1395) (hS : q_sx G F b0 n X) (hn : n ≤ 3072) (hi : i + 6 ≤ n) (hX : q_FX G T b m o) (hTb : T b = some (.inl 6)) (hTm : T m = some (.inl 7)) (hG : q_GE T b m I L P)
    (kk : ∀ (sz' : Nat) (I' L' : q_I) (P' : q_P), sz ≤ sz' → q_GE T b m I' L' P' → qX G F Q kc ks 1828 [(0, .ref b0), (1, .ref b), (2, .ref m), (3, .ref o), (4, qI (i : Int))] [] sz' T I' L' P') : qX G F Q (kc + 1) (ks + 6) 1655 [(0, .ref b0), (1, .ref b), (2, .ref m), (3, .ref o), (4, qI (i : Int))] [] sz T I L P := by
  have hA0 := hX.1
  refine q_aload_n hF 1 rfl rfl dL_law_1655 ?_
  refine q_arg (i := i) (k := 1) hF hS 0 4 rfl (by omega) hn rfl rfl dL_law_1656 dL_law_1657 dL_law_1659 dL_law_1660 dL_law_1661 ?_
  refine q_arg (i := i) (k := 2) hF hS 0 4 rfl (by omega) hn rfl rfl dL_law_1662 dL_law_1663 dL_law_1665 dL_law_1666 dL_law_1667 ?_
  refine q_arg (i := i) (k := 3) hF hS 0 4 rfl (by omega) hn rfl rfl dL_law_1668 dL_law_1669 dL_law_1671 dL_law_1672 dL_law_1673 ?_
  refine q_aload_n hF 3 rfl rfl dL_law_1674 ?_
  refine q_callSH (kc := kc) (ks := ks) (mc' := 1) (ms' := 6) (h' := 8) (st := []) hF sl_RL_185 rfl [.ref b, qI (X (i + 1)), qI (X (i + 2)), qI (X (i + 3)), .ref o] rfl rfl (by decide) (Nat.le_of_ble_eq_true rfl) dL_law_1675 ?_
  refine pr_rescue hX hG (hS.r _) (hS.r _) (hS.r _) _ (fun k sz' I1 L1 P1 hsz hk kR => ?_)
  refine q_istore hF (ls' := [(5, qI k), (0, .ref b0), (1, .ref b), (2, .ref m), (3, .ref o), (4, qI (i : Int))]) (by decide) rfl dL_law_1678 ?_
  refine q_aload_n hF 3 rfl rfl dL_law_1680 ?_
  refine q_arg (i := i) (k := 1) hF hS 1 5 rfl (by omega) hn rfl rfl dL_law_1681 dL_law_1682 dL_law_1684 dL_law_1685 dL_law_1686 ?_
  refine q_arg (i := i) (k := 2) hF hS 1 5 rfl (by omega) hn rfl rfl dL_law_1687 dL_law_1688 dL_law_1690 dL_law_1691 dL_law_1692 ?_
  refine q_arg (i := i) (k := 3) hF hS 1 5 rfl (by omega) hn rfl rfl dL_law_1693 dL_law_1694 dL_law_1696 dL_law_1697 dL_law_1698 ?_
  refine q_callV (kc := kc) (ks := ks) (mc' := 0) (ms' := 0) (h' := 7) (st := []) hF vl_RL_188 rfl [qI (X (i + 1)), qI (X (i + 2)), qI (X (i + 3))] rfl rfl hTm (by decide) (Nat.le_of_ble_eq_true rfl) dL_law_1699 ?_
  refine kR _ (fun bv I2 L2 hG2 hth hout => ?_)
  refine q_lstore hF (ls' := [(6, qL bv), (5, qI k), (0, .ref b0), (1, .ref b), (2, .ref m), (3, .ref o), (4, qI (i : Int))]) (by decide) rfl dL_law_1702 ?_
  refine q_aload_n hF 4 rfl rfl dL_law_1704 ?_
  refine q_callV (kc := kc) (ks := ks) (mc' := 0) (ms' := 0) (h' := 0) (st := []) hF vl_RL_108 rfl [] rfl rfl hTm (by decide) (Nat.le_of_ble_eq_true rfl) dL_law_1705 ?_
  refine mX8_thrown hTm ?_
  rw [hth]
  refine q_iload hF 1 rfl dL_law_1708 ?_
  refine q_icmpeqS hF dL_law_1710 ?_
  refine q_iload hF 1 rfl dL_law_1715 ?_
  refine q_ifne hF (by omega) dL_law_1717 (fun c => ?_) (fun c => ?_)
  · refine q_goto hF dL_law_1731 ?_
    refine q_sub [2, 3, 4, 5, 6] rfl ?_
    exact kk _ _ _ _ hsz hG2
  · refine q_aload_n hF 5 rfl rfl dL_law_1720 ?_
    refine q_iconst hF dL_law_1721 ?_
    refine q_laload hF hX.2.2.2 (by decide) (by decide) dL_law_1722 ?_
    rw [show L2 o (0 : Int).toNat = _ from hout c]
    refine q_lload hF 0 rfl dL_law_1723 ?_
    refine q_cmpeqS hF dL_law_1725 dL_law_1726 ?_
    refine q_goto hF dL_law_1731 ?_
    refine q_sub [2, 3, 4, 5, 6] rfl ?_
    exact kk _ _ _ _ hsz hG2
set_option maxRecDepth 100000 in
theorem sg_books {G : q_G} {F : q_F} {Q : q_Q} {kc ks sz : Nat} {T : q_T} {I L : q_I} {P : q_P} {b0 n b m o i : Nat} {X : Nat → Int} (hF : q_ok G F YL_law 1395) (hS : q_sx G F b0 n X) (hn : n ≤ 3072) (hi : i + 6 ≤ n) (hX : q_FX G T b m o) (hTb : T b = some (.inl 6)) (hTm : T m = some (.inl 7)) (hG : q_GE T b m I L P)
    (kk : ∀ (sz' : Nat) (I' L' : q_I) (P' : q_P), sz ≤ sz' → q_GE T b m I' L' P' → qX G F Q kc ks 1828 [(0, .ref b0), (1, .ref b), (2, .ref m), (3, .ref o), (4, qI (i : Int))] [] sz' T I' L' P') : qX G F Q (kc + 1) (ks + 6) 1734 [(0, .ref b0), (1, .ref b), (2, .ref m), (3, .ref o), (4, qI (i : Int))] [] sz T I L P := by
  have hA0 := hX.1
  refine q_aload_n hF 1 rfl rfl dL_law_1734 ?_
  refine q_arg (i := i) (k := 1) hF hS 0 4 rfl (by omega) hn rfl rfl dL_law_1735 dL_law_1736 dL_law_1738 dL_law_1739 dL_law_1740 ?_
  refine q_aload_n hF 3 rfl rfl dL_law_1741 ?_
  refine q_callSH (kc := kc) (ks := ks) (mc' := 1) (ms' := 6) (h' := 7) (st := []) hF sl_RL_189 rfl [.ref b, qI (X (i + 1)), .ref o] rfl rfl (by decide) (Nat.le_of_ble_eq_true rfl) dL_law_1742 ?_
  refine pr_books hX hG (hS.r _) _ (fun k sz' I1 L1 P1 hsz hk kR => ?_)
  refine q_istore hF (ls' := [(5, qI k), (0, .ref b0), (1, .ref b), (2, .ref m), (3, .ref o), (4, qI (i : Int))]) (by decide) rfl dL_law_1745 ?_
  refine q_aload_n hF 3 rfl rfl dL_law_1747 ?_
  refine q_arg (i := i) (k := 1) hF hS 1 5 rfl (by omega) hn rfl rfl dL_law_1748 dL_law_1749 dL_law_1751 dL_law_1752 dL_law_1753 ?_
  refine q_callV (kc := kc) (ks := ks) (mc' := 0) (ms' := 0) (h' := 4) (st := []) hF vl_RL_191 rfl [qI (X (i + 1))] rfl rfl hTm (by decide) (Nat.le_of_ble_eq_true rfl) dL_law_1754 ?_
  refine kR _ (fun bv I2 L2 hG2 hth hout => ?_)
  refine q_lstore hF (ls' := [(6, qL bv), (5, qI k), (0, .ref b0), (1, .ref b), (2, .ref m), (3, .ref o), (4, qI (i : Int))]) (by decide) rfl dL_law_1757 ?_
  refine q_aload_n hF 4 rfl rfl dL_law_1759 ?_
  refine q_callV (kc := kc) (ks := ks) (mc' := 0) (ms' := 0) (h' := 0) (st := []) hF vl_RL_108 rfl [] rfl rfl hTm (by decide) (Nat.le_of_ble_eq_true rfl) dL_law_1760 ?_
  refine mX8_thrown hTm ?_
  rw [hth]
  refine q_iload hF 1 rfl dL_law_1763 ?_
  refine q_icmpeqS hF dL_law_1765 ?_
  refine q_iload hF 1 rfl dL_law_1770 ?_
  refine q_ifne hF (by omega) dL_law_1772 (fun c => ?_) (fun c => ?_)
  · refine q_goto hF dL_law_1786 ?_
    refine q_sub [2, 3, 4, 5, 6] rfl ?_
    exact kk _ _ _ _ hsz hG2
  · refine q_aload_n hF 5 rfl rfl dL_law_1775 ?_
    refine q_iconst hF dL_law_1776 ?_
    refine q_laload hF hX.2.2.2 (by decide) (by decide) dL_law_1777 ?_
    rw [show L2 o (0 : Int).toNat = _ from hout c]
    refine q_lload hF 0 rfl dL_law_1778 ?_
    refine q_cmpeqS hF dL_law_1780 dL_law_1781 ?_
    refine q_goto hF dL_law_1786 ?_
    refine q_sub [2, 3, 4, 5, 6] rfl ?_
    exact kk _ _ _ _ hsz hG2
set_option maxRecDepth 100000 in
theorem sg_print {G : q_G} {F : q_F} {Q : q_Q} {kc ks sz : Nat} {T : q_T} {I L : q_I} {P : q_P} {b0 n b m o i : Nat} {X : Nat → Int} (hF : q_ok G F YL_law 1395) (hS : q_sx G F b0 n X) (hn : n ≤ 3072) (hi : i + 6 ≤ n) (hX : q_FX G T b m o) (hTb : T b = some (.inl 6)) (hTm : T m = some (.inl 7)) (hG : q_GE T b m I L P)
    (kk : ∀ (sz' : Nat) (I' L' : q_I) (P' : q_P), sz ≤ sz' → q_GE T b m I' L' P' → qX G F Q kc ks 1828 [(0, .ref b0), (1, .ref b), (2, .ref m), (3, .ref o), (4, qI (i : Int))] [] sz' T I' L' P') : qX G F Q (kc + 1) (ks + 6) 1789 [(0, .ref b0), (1, .ref b), (2, .ref m), (3, .ref o), (4, qI (i : Int))] [] sz T I L P := by
  have hA0 := hX.1
  refine q_less (kc := kc) (ks := ks) (by omega) (by omega) ?_
  refine q_aload_n hF 1 rfl rfl dL_law_1789 ?_
  refine q_callV (kc := kc) (ks := ks) (mc' := 0) (ms' := 0) (h' := 1) (st := []) hF vl_RL_192 rfl [] rfl rfl hTb (by decide) (Nat.le_of_ble_eq_true rfl) dL_law_1790 ?_
  refine pr_print hX hG  _ (fun bv I1 L1 P1 kR => ?_)
  refine q_aload_n hF 2 rfl rfl dL_law_1793 ?_
  refine q_callV (kc := kc) (ks := ks) (mc' := 0) (ms' := 0) (h' := 2) (st := [qL bv]) hF vl_RL_196 rfl [] rfl rfl hTm (by decide) (Nat.le_of_ble_eq_true rfl) dL_law_1794 ?_
  refine kR _ (fun I2 L2 hG2 => ?_)
  refine q_cmpeqS hF dL_law_1797 dL_law_1798 ?_
  exact kk _ _ _ _ (Nat.le_refl _) hG2
set_option maxRecDepth 100000 in
theorem sg_status {G : q_G} {F : q_F} {Q : q_Q} {kc ks sz : Nat} {T : q_T} {I L : q_I} {P : q_P} {b0 n b m o i : Nat} {X : Nat → Int} (hF : q_ok G F YL_law 1395) (hS : q_sx G F b0 n X) (hn : n ≤ 3072) (hi : i + 6 ≤ n) (hX : q_FX G T b m o) (hTb : T b = some (.inl 6)) (hTm : T m = some (.inl 7)) (hG : q_GE T b m I L P)
    (kk : ∀ (sz' : Nat) (I' L' : q_I) (P' : q_P), sz ≤ sz' → q_GE T b m I' L' P' → qX G F Q kc ks 1828 [(0, .ref b0), (1, .ref b), (2, .ref m), (3, .ref o), (4, qI (i : Int))] [] sz' T I' L' P') : qX G F Q (kc + 1) (ks + 6) 1803 [(0, .ref b0), (1, .ref b), (2, .ref m), (3, .ref o), (4, qI (i : Int))] [] sz T I L P := by
  have hA0 := hX.1
  refine q_less (kc := kc) (ks := ks) (by omega) (by omega) ?_
  refine q_aload_n hF 1 rfl rfl dL_law_1803 ?_
  refine q_arg (i := i) (k := 1) hF hS 0 4 rfl (by omega) hn rfl rfl dL_law_1804 dL_law_1805 dL_law_1807 dL_law_1808 dL_law_1809 ?_
  refine q_callV (kc := kc) (ks := ks) (mc' := 0) (ms' := 0) (h' := 1) (st := []) hF vl_RL_197 rfl [qI (X (i + 1))] rfl rfl hTb (by decide) (Nat.le_of_ble_eq_true rfl) dL_law_1810 ?_
  refine pr_status hX hG (hS.r _) _ (fun bv I1 L1 P1 kR => ?_)
  refine q_aload_n hF 2 rfl rfl dL_law_1813 ?_
  refine q_arg (i := i) (k := 1) hF hS 0 4 rfl (by omega) hn rfl rfl dL_law_1814 dL_law_1815 dL_law_1817 dL_law_1818 dL_law_1819 ?_
  refine q_callV (kc := kc) (ks := ks) (mc' := 0) (ms' := 0) (h' := 1) (st := [qI bv]) hF vl_RL_200 rfl [qI (X (i + 1))] rfl rfl hTm (by decide) (Nat.le_of_ble_eq_true rfl) dL_law_1820 ?_
  refine kR _ (fun I2 L2 hG2 => ?_)
  refine q_icmpeqS hF dL_law_1823 ?_
  exact kk _ _ _ _ (Nat.le_refl _) hG2
