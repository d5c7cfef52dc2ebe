/-! the acts: months, an account more -/
theorem mX10_months9 {G : q_G} {sz : Nat} {T : q_T} {I L : q_I} {P : q_P} {Q : q_Q} {k N : Nat} {E : Nat → Prop} {v n w m a0 : Nat} {ρ σ : Nat → Nat} {r : Nat → Int} (hN : N ≤ 30) (hW : q_OW E T I L P k v n ρ w m σ r) (hE : ∀ q, E q → a0 ≤ q ∧ q < sz) (hA0 : q_A G a0) (hAz : a0 ≤ sz) (hZ : q_F0 sz I L P) (hz : g_Zr r) (hVR : g_VR r) (h2 : r 2 + (N : Nat) ≤ 6000) (k0 : ∀ (sz' : Nat) (T' : q_T) (I' L' : q_I) (P' : q_P) (w' m' : Nat) (σ' : Nat → Nat), q_Fr (q_Wk k n ρ) sz sz' T I L P T' I' L' P' → q_F0 sz' I' L' P' → q_OW (q_Ex E sz sz') T' I' L' P' k v n ρ w' m' σ' (g_months N r).2 → Q (.inl (some (qI (g_months N r).1))) sz' T' I' L' P') : qC G 3 720 6480 YX10_months [.ref k, qI (N : Int)] sz T I L P Q :=
  (mX10_months hW hE hA0 hAz hZ hz hVR (by omega) h2 k0).wide (Nat.le_refl _) (by omega) (by omega)

set_option maxRecDepth 100000 in
theorem lL_months {G : q_G} {F : q_F} {h : Nat} {Q : q_Q} {kc ks sz : Nat} {T : q_T} {I L : q_I} {P : q_P} {b d a0 was l9 tp bk k n9 c v w m x x0 ah dn ta ii b0 : Nat} {wh : Int} {B : Nat → Int} {R : Nat → Nat → Int} {E : Nat → Prop} {ρ σ : Nat → Nat}  (hF : q_ok G F YL_law h) (h9 : 30 ≤ h) (hA : q_A G b) (hE : q_CE T b bk tp B R I L P) (hW : q_OW E T I L P k v n9 ρ w m σ (R 0)) (hEr : ∀ q, E q → a0 ≤ q ∧ q < sz ∧ q ≠ was) (hx : I d 0 = (x : Int)) (hTd : T d = some (.inl 8)) (hZ : q_F0 sz I L P) (hTw : T was = some (.inr (9, 16))) (hl9 : R 0 0 = (l9 : Int)) (hl3 : 1 ≤ l9 ∧ l9 ≤ 3) (hnm : e_nms (R 0) l9) (hLy : b + 452 ≤ d ∧ d < a0 ∧ a0 ≤ sz) (hx0 : x0 < n9) (hcap : q_Cap (R 0) (5000 * (11 - (c : Int)))) (hc : c < 11) (hmo : R 0 2 ≤ 30 * (c : Int)) (hn : n9 ≤ 12) (hws : was < sz) (hsf : d_safe (10 - c) (12 - n9) (d_nx x) = true) (k0 : ∀ (T' : q_T) (I' L' : q_I) (P' : q_P) (sz' bk' : Nat) (R' : Nat → Nat → Int) (n' : Nat) (ρ' : Nat → Nat) (x' : Nat) (is : Int), q_PA b d a0 was l9 tp B T I L P sz bk R k n9 ρ c T' I' L' P' sz' bk' R' n' ρ' x' is → qX G F Q kc ks 919 [(13, qI is), (10, .ref ah), (9, qI (c : Int)), (8, qI (dn : Int)), (7, .ref was), (6, .ref k), (5, .ref d), (4, .ref ta), (3, .ref b), (2, qI (ii : Int)), (1, qI 1), (0, .ref b0)] [] sz' T' I' L' P') : qX G F Q (kc + 721) (ks + 6486) 247 [(14, qI wh), (13, qI 1), (12, .ref (ρ x0)), (11, qI (x0 : Int)), (10, .ref ah), (9, qI (c : Int)), (8, qI (dn : Int)), (7, .ref was), (6, .ref k), (5, .ref d), (4, .ref ta), (3, .ref b), (2, qI (ii : Int)), (1, qI 1), (0, .ref b0)] [] sz T I L P := by
  have hO := hW.ot
  have hM := hW.om
  have hRk := hW.rr
  have hro := hE.ro 0 (Nat.zero_le _)
  have hV0 := hro.1.1
  have hV0l := hV0.lands
  have hV0m := hV0.month
  have hil : (x0 : Int) < R 0 1 := by have := hM.nn; omega
  have hVA := hro.1.2.1 x0 hil
  rw [if_neg (Nat.not_lt_zero x0)] at hVA
  have hTa := hM.ta x0 hx0
  have hac := hM.ac x0 hx0
  have hst4 : I (ρ x0) 4 = R 0 (1043 + 12 * x0) := hac.st
  have hρ := hEr _ (hM.ea x0 hx0)
  have hk0 := hEr k (hW.ek k (Nat.le_refl _) (by omega))
  have hk17 := hEr (k + 17) (hW.ek (k + 17) (by omega) (by omega))
  have hk18 := hEr (k + 18) (hW.ek (k + 18) (by omega) (by omega))
  have hk19 := hEr (k + 19) (hW.ek (k + 19) (by omega) (by omega))
  have nk : ρ x0 ≠ k := fun e => q_Tne hO.t0 hTa (by intro z; cases z) e.symm
  have nk17 : ρ x0 ≠ k + 17 := fun e => q_Tne hO.t17 hTa (by intro z; cases z) e.symm
  have nk18 : ρ x0 ≠ k + 18 := fun e => q_Tne hO.t18 hTa (by intro z; cases z) e.symm
  have nk19 : ρ x0 ≠ k + 19 := fun e => q_Tne hO.t19 hTa (by intro z; cases z) e.symm
  have f1 := hVA.state
  have f2 := hVA.cents
  have f3 := hVA.nl
  have f4 := hVA.holder
  have f5 := hVA.hh
  have f6 := hVA.addr
  have f7 := hVA.since
  have hcx : R 0 (1042 + 12 * x0) + 5000 ≤ 100000000 := by
    have h1 := hcap x0 hil
    have h2 := g_cap_le (u := (R 0 2).toNat) (v := 330) (by omega)
    have h3 := g_cap_330
    omega
  have hWd : ∀ q, q < a0 → ¬ q_Wk k n9 ρ q := fun q hq z => by
    rcases z with z | z | z | z | ⟨j, hj, z⟩
    · omega
    · omega
    · omega
    · omega
    · have := hEr _ (hM.ea j hj); omega
  refine q_iconst hF dL_law_247 ?_
  refine q_aload hF 9 rfl dL_law_248 ?_
  refine q_bipush hF (n := 30) rfl dL_law_250 ?_
  refine q_callV (kc := kc + 721) (ks := ks + 6486) (mc' := 0) (ms' := 0) (h' := 0) (st := [qI 1]) hF vl_RL_145 rfl [qI 30] rfl rfl hTd (by omega) (Nat.le_of_ble_eq_true rfl) dL_law_252 ?_
  refine mX9_of (m := 30) hTd (q_Ale hA (by omega)) (x := x) hx (by omega) (fun v_1 c252_0_1 c252_1_1 => ?_)
  refine q_iadd hF dL_law_255 ?_
  refine q_istore hF (ls' := [(15, qI (1 + (v_1 : Int))), (14, qI wh), (13, qI 1), (12, .ref (ρ x0)), (11, qI (x0 : Int)), (10, .ref ah), (9, qI (c : Int)), (8, qI (dn : Int)), (7, .ref was), (6, .ref k), (5, .ref d), (4, .ref ta), (3, .ref b), (2, qI (ii : Int)), (1, qI 1), (0, .ref b0)]) (by decide) rfl dL_law_256 ?_
  refine q_aload_n hF 12 rfl rfl dL_law_258 ?_
  refine q_iload hF 0 rfl dL_law_259 ?_
  have hE0 : q_CE T b bk tp B R (u2 I d 0 ((d_nx x : Nat) : Int)) L P := hE.mv (fun _ _ _ => rfl) (fun q j a c => ((u2_a _ _ (by omega)).trans rfl)) (fun _ _ _ _ => rfl) (fun _ _ _ _ => rfl)
  have hI0 : ∀ q j, q ≠ d → (u2 I d 0 ((d_nx x : Nat) : Int)) q j = I q j := fun q j hq => ((u2_a _ _ hq).trans rfl)
  have hW0 : q_OW E T (u2 I d 0 ((d_nx x : Nat) : Int)) L P k v n9 ρ w m σ (R 0) := hW.mv (fun _ z => z) (fun _ _ => rfl) (fun q j hq => hI0 q j (by have := hEr q hq; omega)) (fun _ _ _ => rfl) (fun _ _ _ => rfl)
  have hac0 := hW0.om.ac x0 hx0
  have hx2 : (u2 I d 0 ((d_nx x : Nat) : Int)) d 0 = ((d_nx x : Nat) : Int) := (u2_s _ _ _ _)
  have hZ0 : q_F0 sz (u2 I d 0 ((d_nx x : Nat) : Int)) L P := fun q j hq => ⟨(hI0 q j (by omega)).trans (hZ q j hq).1, (hZ q j hq).2⟩
  refine q_callSH (kc := kc + 720) (ks := ks + 6480) (mc' := 1) (ms' := 6) (h' := 8) (st := []) hF sl_RL_346 rfl [.ref b, qI (1 + (v_1 : Int))] rfl rfl (by omega) (Nat.le_of_ble_eq_true rfl) dL_law_261 ?_
  refine a_months hA hE0 (n := 1 + v_1) (by omega) (by omega) (fun M N P9 c261_0 c261_1 => ?_)
  refine q_aload hF 9 rfl dL_law_264 ?_
  refine q_iload hF 0 rfl dL_law_266 ?_
  have hW1 : q_OW E T M N P9 k v n9 ρ w m σ (R 0) := hW0.mv (fun _ z => z) (fun _ _ => rfl) (fun q j hq => c261_1.1 q j (by have := hEr q hq; omega)) (fun q j hq => c261_1.2.1 q j (by have := hEr q hq; omega)) (fun q j hq => c261_1.2.2 q j (by have := hEr q hq; omega))
  have hZ1 : q_F0 sz M N P9 := fun q j hq => ⟨(c261_1.1 q j (by omega)).trans (hZ0 q j hq).1, (c261_1.2.1 q j (by omega)).trans (hZ0 q j hq).2.1, (c261_1.2.2 q j (by omega)).trans (hZ0 q j hq).2.2⟩
  refine q_callV (kc := kc) (ks := ks) (mc' := 720) (ms' := 6480) (h' := 3) (st := [qI ((g_months (1 + v_1) (R 0)).1)]) hF vl_RL_348 rfl [qI (1 + (v_1 : Int))] rfl rfl hO.t0 (by omega) (Nat.le_of_ble_eq_true rfl) dL_law_268 ?_
  refine mX10_months9 (N := 1 + v_1) (a0 := a0) (by omega) hW1 (fun q hq => ⟨(hEr q hq).1, (hEr q hq).2.1⟩) (q_Ale hA (by omega)) (by omega) hZ1 hro.2.2.1 hro.1 (by omega) (fun s2 T2 I2 L2 P2 w2 m2 σ2 c268_0 c268_1 c268_2 => ?_)
  refine q_icmpne_s hF (a := (g_months (1 + v_1) (R 0)).1) dL_law_271 ?_
  refine q_iconst hF dL_law_274 ?_
  refine q_goto hF dL_law_275 ?_
  refine q_istore_n hF (ls' := [(1, qI 1), (15, qI (1 + (v_1 : Int))), (14, qI wh), (13, qI 1), (12, .ref (ρ x0)), (11, qI (x0 : Int)), (10, .ref ah), (9, qI (c : Int)), (8, qI (dn : Int)), (7, .ref was), (6, .ref k), (5, .ref d), (4, .ref ta), (3, .ref b), (2, qI (ii : Int)), (0, .ref b0)]) rfl (by decide) rfl dL_law_279 ?_
  refine q_goto hF dL_law_280 ?_
  refine q_sub [3, 6, 7, 8, 9, 10, 11, 12, 13, 14, 0, 15] rfl ?_
  have hsm := g_months_same (1 + v_1) hro.2.2.1 hro.1
  have hcm := q_Cap.months (e := 5000 * (11 - (c : Int))) (by omega) (1 + v_1) hcap hro.2.2.1 hro.1 (by omega)
  have h1m := g_months_hd (1 + v_1) hro.2.2.1 hro.1
  have fI : ∀ q j, q < sz → ¬ (q < b + 452 ∨ q = d ∨ q_Wk k n9 ρ q) → I2 q j = I q j := fun q j hq hw => (c268_0.2.2.1 q j hq (fun z => hw (Or.inr (Or.inr z)))).trans ((c261_1.1 q j (by have : ¬ q < b + 452 := fun z => hw (Or.inl z); omega)).trans (hI0 q j (fun z => hw (Or.inr (Or.inl z)))))
  have fL : ∀ q j, q < sz → ¬ (q < b + 452 ∨ q = d ∨ q_Wk k n9 ρ q) → L2 q j = L q j := fun q j hq hw => (c268_0.2.2.2.1 q j hq (fun z => hw (Or.inr (Or.inr z)))).trans (c261_1.2.1 q j (by have : ¬ q < b + 452 := fun z => hw (Or.inl z); omega))
  have fP : ∀ q j, q < sz → ¬ (q < b + 452 ∨ q = d ∨ q_Wk k n9 ρ q) → P2 q j = P q j := fun q j hq hw => (c268_0.2.2.2.2 q j hq (fun z => hw (Or.inr (Or.inr z)))).trans (c261_1.2.2 q j (by have : ¬ q < b + 452 := fun z => hw (Or.inl z); omega))
  have hs2 := c268_0.1
  refine qX.room (kc := kc) (ks := ks) (by omega) (by omega) (k0 _ _ _ _ _ _ _ _ _ (d_nx x) _ ⟨⟨q_Ex E sz s2, v, w2, m2, σ2, c261_0.mv (fun q a e => c268_0.2.1 q (by omega)) (fun q j a e => c268_0.2.2.1 q j (by omega) (hWd q (by omega))) (fun q j a e => c268_0.2.2.2.1 q j (by omega) (hWd q (by omega))) (fun q j a e => c268_0.2.2.2.2 q j (by omega) (hWd q (by omega))), c268_2, fun q hq => ?_, (c268_0.2.2.1 d 0 (by omega) (hWd d (by omega))).trans ((c261_1.1 _ _ (by omega)).trans hx2), (c268_0.2.1 d (by omega)).trans hTd, c268_1, (c268_0.2.1 was (by omega)).trans hTw, (hsm 0 (by unfold g_rc; omega)).trans hl9, hnm.same (by omega) hsm⟩, ⟨⟨hs2, c268_0.2.1, fI, fL, fP⟩, fun q j hq => (c268_0.2.2.1 q j (by omega) (hWd q (by omega))).trans ((c261_1.1 q j (Or.inl hq)).trans (hI0 q j (by omega)))⟩, ⟨fun _ _ => rfl, fun j a e => absurd a (by omega)⟩, Or.inl ⟨rfl, rfl, _, rfl⟩, (show q_Cap (g_months (1 + v_1) (R 0)).2 (5000 * (10 - (c : Int))) from hcm.1.mono rfl rfl (fun j hj => by omega)), ?_, ⟨Nat.le_refl _, hn⟩, hsf⟩)
  · rcases hq with z | z
    · have := hEr q z; omega
    · omega
  · show (g_months (1 + v_1) (R 0)).2 2 ≤ _
    rw [hcm.2]; omega

set_option maxRecDepth 100000 in
theorem lL_openA {G : q_G} {F : q_F} {h : Nat} {Q : q_Q} {kc ks sz : Nat} {T : q_T} {I L : q_I} {P : q_P} {b d a0 was l9 tp bk k n9 c v w m x x0 ah dn ta ii b0 : Nat} {wh : Int} {B : Nat → Int} {R : Nat → Nat → Int} {E : Nat → Prop} {ρ σ : Nat → Nat}  (hF : q_ok G F YL_law h) (h9 : 30 ≤ h) (hA : q_A G b) (hE : q_CE T b bk tp B R I L P) (hW : q_OW E T I L P k v n9 ρ w m σ (R 0)) (hEr : ∀ q, E q → a0 ≤ q ∧ q < sz ∧ q ≠ was) (hx : I d 0 = (x : Int)) (hTd : T d = some (.inl 8)) (hZ : q_F0 sz I L P) (hTw : T was = some (.inr (9, 16))) (hl9 : R 0 0 = (l9 : Int)) (hl3 : 1 ≤ l9 ∧ l9 ≤ 3) (hnm : e_nms (R 0) l9) (hLy : b + 452 ≤ d ∧ d < a0 ∧ a0 ≤ sz) (hx0 : x0 < n9) (hcap : q_Cap (R 0) (5000 * (11 - (c : Int)))) (hc : c < 11) (hmo : R 0 2 ≤ 30 * (c : Int)) (hn : n9 ≤ 12) (hws : was < sz) (hn2 : n9 < 12) (hsf : d_safe (10 - c) (12 - (n9 + 1)) (d_nx (d_nx (d_nx (d_nx (d_nx x))))) = true) (k0 : ∀ (T' : q_T) (I' L' : q_I) (P' : q_P) (sz' bk' : Nat) (R' : Nat → Nat → Int) (n' : Nat) (ρ' : Nat → Nat) (x' : Nat) (is : Int), q_PA b d a0 was l9 tp B T I L P sz bk R k n9 ρ c T' I' L' P' sz' bk' R' n' ρ' x' is → qX G F Q kc ks 919 [(13, qI is), (10, .ref ah), (9, qI (c : Int)), (8, qI (dn : Int)), (7, .ref was), (6, .ref k), (5, .ref d), (4, .ref ta), (3, .ref b), (2, qI (ii : Int)), (1, qI 1), (0, .ref b0)] [] sz' T' I' L' P') : qX G F Q (kc + 3) (ks + 60) 289 [(14, qI wh), (13, qI 1), (12, .ref (ρ x0)), (11, qI (x0 : Int)), (10, .ref ah), (9, qI (c : Int)), (8, qI (dn : Int)), (7, .ref was), (6, .ref k), (5, .ref d), (4, .ref ta), (3, .ref b), (2, qI (ii : Int)), (1, qI 1), (0, .ref b0)] [] sz T I L P := by
  have hO := hW.ot
  have hM := hW.om
  have hRk := hW.rr
  have hro := hE.ro 0 (Nat.zero_le _)
  have hV0 := hro.1.1
  have hV0l := hV0.lands
  have hV0m := hV0.month
  have hil : (x0 : Int) < R 0 1 := by have := hM.nn; omega
  have hVA := hro.1.2.1 x0 hil
  rw [if_neg (Nat.not_lt_zero x0)] at hVA
  have hTa := hM.ta x0 hx0
  have hac := hM.ac x0 hx0
  have hst4 : I (ρ x0) 4 = R 0 (1043 + 12 * x0) := hac.st
  have hρ := hEr _ (hM.ea x0 hx0)
  have hk0 := hEr k (hW.ek k (Nat.le_refl _) (by omega))
  have hk17 := hEr (k + 17) (hW.ek (k + 17) (by omega) (by omega))
  have hk18 := hEr (k + 18) (hW.ek (k + 18) (by omega) (by omega))
  have hk19 := hEr (k + 19) (hW.ek (k + 19) (by omega) (by omega))
  have nk : ρ x0 ≠ k := fun e => q_Tne hO.t0 hTa (by intro z; cases z) e.symm
  have nk17 : ρ x0 ≠ k + 17 := fun e => q_Tne hO.t17 hTa (by intro z; cases z) e.symm
  have nk18 : ρ x0 ≠ k + 18 := fun e => q_Tne hO.t18 hTa (by intro z; cases z) e.symm
  have nk19 : ρ x0 ≠ k + 19 := fun e => q_Tne hO.t19 hTa (by intro z; cases z) e.symm
  have f1 := hVA.state
  have f2 := hVA.cents
  have f3 := hVA.nl
  have f4 := hVA.holder
  have f5 := hVA.hh
  have f6 := hVA.addr
  have f7 := hVA.since
  have hcx : R 0 (1042 + 12 * x0) + 5000 ≤ 100000000 := by
    have h1 := hcap x0 hil
    have h2 := g_cap_le (u := (R 0 2).toNat) (v := 330) (by omega)
    have h3 := g_cap_330
    omega
  have hWd : ∀ q, q < a0 → ¬ q_Wk k n9 ρ q := fun q hq z => by
    rcases z with z | z | z | z | ⟨j, hj, z⟩
    · omega
    · omega
    · omega
    · omega
    · have := hEr _ (hM.ea j hj); omega
  refine q_aload_n hF 11 rfl rfl dL_law_289 ?_
  refine q_aload hF 8 rfl dL_law_290 ?_
  refine q_aload hF 9 rfl dL_law_292 ?_
  refine q_callS (kc := kc) (ks := ks) (mc' := 3) (ms' := 60) (h' := 6) (st := []) hF sl_RL_334 rfl [.ref b, .ref k, .ref d] rfl rfl (by omega) (Nat.le_of_ble_eq_true rfl) dL_law_294 ?_
  refine mL_opens hE hA hW (fun q hq => ⟨(hEr q hq).1, (hEr q hq).2.1⟩) (by omega) (by omega) (by omega) hTd hx hZ hn2 hl9 hl3 (fun T2 I2 L2 P2 kd ad bi ce c294_0 c294_1 c294_2 c294_3 c294_4 c294_5 c294_6 => ?_)
  refine q_istore_n hF (ls' := [(1, qI 1), (14, qI wh), (13, qI 1), (12, .ref (ρ x0)), (11, qI (x0 : Int)), (10, .ref ah), (9, qI (c : Int)), (8, qI (dn : Int)), (7, .ref was), (6, .ref k), (5, .ref d), (4, .ref ta), (3, .ref b), (2, qI (ii : Int)), (0, .ref b0)]) rfl (by decide) rfl dL_law_297 ?_
  refine q_goto hF dL_law_298 ?_
  refine q_sub [2, 5, 6, 7, 8, 9, 10, 11, 12, 13, 0, 14] rfl ?_
  have en : ∀ y, (y < 1039 + 12 * n9 ∨ 1050 + 12 * n9 < y) → y ≠ 17 → y ≠ 1 → g_oopen (R 0) n9 kd ad bi ce y = R 0 y := fun y a e f => g_oopen_n a e f
  have c0 := c294_0
  refine qX.room (kc := kc) (ks := ks) (by omega) (by omega) (k0 _ _ _ _ _ _ _ _ _ (d_nx (d_nx (d_nx (d_nx (d_nx x))))) _ ⟨⟨q_Ex E sz (sz + 2), sz + 1, w, m, σ, c294_1, c294_3, fun q hq => ?_, c294_2, c294_6, c294_4, (c294_5.1.2.1 was (by omega)).trans hTw, (en 0 (by omega) (by omega) (by omega)).trans hl9, hnm.mv (by omega) (fun y a e => en y (by omega) (by omega) (by omega))⟩, c294_5, ⟨fun j hj => if_pos hj, fun j a e => ?_⟩, Or.inl ⟨rfl, rfl, _, rfl⟩, fun j hj => ?_, ?_, ⟨by omega, by omega⟩, hsf⟩)
  · rcases hq with z | z
    · have := hEr q z; omega
    · omega
  · show sz ≤ (if j < n9 then ρ j else sz)
    rw [if_neg (by omega)]; exact Nat.le_refl _
  · have hj2 : (j : Int) < (n9 : Int) + 1 := by
      have e1 : (j : Int) < g_oopen (R 0) n9 kd ad bi ce 1 := hj
      rw [g_oopen_m] at e1; exact e1
    show g_oopen (R 0) n9 kd ad bi ce (1042 + 12 * j) + _ ≤ g_cap (g_oopen (R 0) n9 kd ad bi ce 2).toNat
    rw [en 2 (by omega) (by omega) (by omega)]
    by_cases e : j = n9
    · subst e
      rw [g_oopen_1042]
      have h1 := g_cap_le (u := 0) (v := (R 0 2).toNat) (Nat.zero_le _)
      have h2 : g_cap 0 = 3055000 := rfl
      omega
    · rw [en _ (by omega) (by omega) (by omega)]
      have h1 := hcap j (by have := hM.nn; omega)
      omega
  · show g_oopen (R 0) n9 kd ad bi ce 2 ≤ _
    rw [en 2 (by omega) (by omega) (by omega)]; omega
