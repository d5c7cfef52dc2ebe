/-! the acts -/
abbrev YL_law : q_Y := (yL_law, cL_law, 18, some .boolean, [])
theorem mX8_isOpen1 {G : q_G} {sz : Nat} {T : q_T} {I L : q_I} {P : q_P} {Q : q_Q} {a : Nat} (hT : T a = some (.inl 7)) (hs : I a 4 = 0 ∨ I a 4 = 1) (k0 : Q (.inl (some (qI 1))) sz T I L P) : qC G 0 0 0 YX8_isOpen [.ref a] sz T I L P Q := by
  refine mX8_isOpen hT (by omega) ?_
  rw [q_b_t (by omega)]
  exact k0
theorem mX8_isOpen0 {G : q_G} {sz : Nat} {T : q_T} {I L : q_I} {P : q_P} {Q : q_Q} {a : Nat} (hT : T a = some (.inl 7)) (hr : 0 ≤ I a 4 ∧ I a 4 ≤ 4) (hs : ¬ (I a 4 = 0 ∨ I a 4 = 1)) (k0 : Q (.inl (some (qI 0))) sz T I L P) : qC G 0 0 0 YX8_isOpen [.ref a] sz T I L P Q := by
  refine mX8_isOpen hT (by omega) ?_
  rw [q_b_f (by omega)]
  exact k0
theorem q_PA.pre {b d a0 was l9 tp sz bk k n c sz' bk' n' x' : Nat} {B : Nat → Int} {T T' : q_T} {I I0 L I' L' : q_I} {P P' : q_P} {R R' : Nat → Nat → Int} {ρ ρ' : Nat → Nat} {is : Int} (h : q_PA b d a0 was l9 tp B T I0 L P sz bk R k n ρ c T' I' L' P' sz' bk' R' n' ρ' x' is) (hd : b ≤ d) (hI : ∀ q j, q ≠ d → I0 q j = I q j) : q_PA b d a0 was l9 tp B T I L P sz bk R k n ρ c T' I' L' P' sz' bk' R' n' ρ' x' is := by
  obtain ⟨h1, ⟨⟨f1, f2, f3, f4, f5⟩, f6⟩, h3⟩ := h
  exact ⟨h1, ⟨⟨f1, f2, fun q j hq hw => (f3 q j hq hw).trans (hI q j (fun z => hw (Or.inr (Or.inl z)))), f4, f5⟩, fun q j hq => (f6 q j hq).trans (hI q j (by omega))⟩, h3⟩

set_option maxRecDepth 100000 in
theorem lL_contact1 {G : q_G} {F : q_F} {h : Nat} {Q : q_Q} {kc ks sz : Nat} {T : q_T} {I L : q_I} {P : q_P} {b d a0 was l9 tp bk k n9 c v w m x x0 ah dn ta ii b0 : Nat} {wh : Int} {B : Nat → Int} {R : Nat → Nat → Int} {E : Nat → Prop} {ρ σ : Nat → Nat}  (hF : q_ok G F YL_law h) (h9 : 30 ≤ h) (hA : q_A G b) (hE : q_CE T b bk tp B R I L P) (hW : q_OW E T I L P k v n9 ρ w m σ (R 0)) (hEr : ∀ q, E q → a0 ≤ q ∧ q < sz ∧ q ≠ was) (hx : I d 0 = (x : Int)) (hTd : T d = some (.inl 8)) (hZ : q_F0 sz I L P) (hTw : T was = some (.inr (9, 16))) (hl9 : R 0 0 = (l9 : Int)) (hl3 : 1 ≤ l9 ∧ l9 ≤ 3) (hnm : e_nms (R 0) l9) (hLy : b + 452 ≤ d ∧ d < a0 ∧ a0 ≤ sz) (hx0 : x0 < n9) (hcap : q_Cap (R 0) (5000 * (11 - (c : Int)))) (hc : c < 11) (hmo : R 0 2 ≤ 30 * (c : Int)) (hn : n9 ≤ 12) (hws : was < sz) (hsf : d_safe (10 - c) (12 - n9) x = true) (hop : R 0 (1043 + 12 * x0) = 0 ∨ R 0 (1043 + 12 * x0) = 1) (k0 : ∀ (T' : q_T) (I' L' : q_I) (P' : q_P) (sz' bk' : Nat) (R' : Nat → Nat → Int) (n' : Nat) (ρ' : Nat → Nat) (x' : Nat) (is : Int), q_PA b d a0 was l9 tp B T I L P sz bk R k n9 ρ c T' I' L' P' sz' bk' R' n' ρ' x' is → qX G F Q kc ks 919 [(13, qI is), (10, .ref ah), (9, qI (c : Int)), (8, qI (dn : Int)), (7, .ref was), (6, .ref k), (5, .ref d), (4, .ref ta), (3, .ref b), (2, qI (ii : Int)), (1, qI 1), (0, .ref b0)] [] sz' T' I' L' P') : qX G F Q (kc + 1) (ks + 6) 307 [(14, qI wh), (13, qI 1), (12, .ref (ρ x0)), (11, qI (x0 : Int)), (10, .ref ah), (9, qI (c : Int)), (8, qI (dn : Int)), (7, .ref was), (6, .ref k), (5, .ref d), (4, .ref ta), (3, .ref b), (2, qI (ii : Int)), (1, qI 1), (0, .ref b0)] [] sz T I L P := by
  have hO := hW.ot
  have hM := hW.om
  have hRk := hW.rr
  have hro := hE.ro 0 (Nat.zero_le _)
  have hV0 := hro.1.1
  have hV0l := hV0.lands
  have hV0m := hV0.month
  have hil : (x0 : Int) < R 0 1 := by have := hM.nn; omega
  have hVA := hro.1.2.1 x0 hil
  rw [if_neg (Nat.not_lt_zero x0)] at hVA
  have hTa := hM.ta x0 hx0
  have hac := hM.ac x0 hx0
  have hst4 : I (ρ x0) 4 = R 0 (1043 + 12 * x0) := hac.st
  have hρ := hEr _ (hM.ea x0 hx0)
  have hk0 := hEr k (hW.ek k (Nat.le_refl _) (by omega))
  have hk17 := hEr (k + 17) (hW.ek (k + 17) (by omega) (by omega))
  have hk18 := hEr (k + 18) (hW.ek (k + 18) (by omega) (by omega))
  have hk19 := hEr (k + 19) (hW.ek (k + 19) (by omega) (by omega))
  have nk : ρ x0 ≠ k := fun e => q_Tne hO.t0 hTa (by intro z; cases z) e.symm
  have nk17 : ρ x0 ≠ k + 17 := fun e => q_Tne hO.t17 hTa (by intro z; cases z) e.symm
  have nk18 : ρ x0 ≠ k + 18 := fun e => q_Tne hO.t18 hTa (by intro z; cases z) e.symm
  have nk19 : ρ x0 ≠ k + 19 := fun e => q_Tne hO.t19 hTa (by intro z; cases z) e.symm
  have f1 := hVA.state
  have f2 := hVA.cents
  have f3 := hVA.nl
  have f4 := hVA.holder
  have f5 := hVA.hh
  have f6 := hVA.addr
  have f7 := hVA.since
  have hcx : R 0 (1042 + 12 * x0) + 5000 ≤ 100000000 := by
    have h1 := hcap x0 hil
    have h2 := g_cap_le (u := (R 0 2).toNat) (v := 330) (by omega)
    have h3 := g_cap_330
    omega
  refine q_aload hF 2 rfl dL_law_307 ?_
  have e4 : I (ρ x0) 4 = R 0 (1043 + 12 * x0) := hac.st
  refine q_callV (kc := kc + 1) (ks := ks + 6) (mc' := 0) (ms' := 0) (h' := 0) (st := []) hF vl_RL_252 rfl [] rfl rfl hTa (by omega) (Nat.le_of_ble_eq_true rfl) dL_law_309 ?_
  refine mX8_isOpen1 hTa (by rw [e4]; exact hop) ?_
  refine q_istore hF (ls' := [(13, qI 1), (14, qI wh), (12, .ref (ρ x0)), (11, qI (x0 : Int)), (10, .ref ah), (9, qI (c : Int)), (8, qI (dn : Int)), (7, .ref was), (6, .ref k), (5, .ref d), (4, .ref ta), (3, .ref b), (2, qI (ii : Int)), (1, qI 1), (0, .ref b0)]) (by decide) rfl dL_law_312 ?_
  refine q_aload_n hF 11 rfl rfl dL_law_314 ?_
  refine q_iload hF 3 rfl dL_law_315 ?_
  have hE0 : q_CE T b bk tp B R I L P := hE.mv (fun _ _ _ => rfl) (fun q j a c => rfl) (fun _ _ _ _ => rfl) (fun _ _ _ _ => rfl)
  have hI0 : ∀ q j, q ≠ d → I q j = I q j := fun q j hq => rfl
  have hW0 : q_OW E T I L P k v n9 ρ w m σ (R 0) := hW.mv (fun _ z => z) (fun _ _ => rfl) (fun q j hq => hI0 q j (by have := hEr q hq; omega)) (fun _ _ _ => rfl) (fun _ _ _ => rfl)
  have hac0 := hW0.om.ac x0 hx0
  have hx2 : I d 0 = (x : Int) := hx
  have hZ0 : q_F0 sz I L P := fun q j hq => ⟨(hI0 q j (by omega)).trans (hZ q j hq).1, (hZ q j hq).2⟩
  refine q_callSH (kc := kc) (ks := ks) (mc' := 1) (ms' := 6) (h' := 5) (st := []) hF sl_RL_349 rfl [.ref b, qI (x0 : Int)] rfl rfl (by omega) (Nat.le_of_ble_eq_true rfl) dL_law_317 ?_
  refine a_contact hA hE0 hil hop (fun M N P9 c317_0 c317_1 => ?_)
  refine q_iload hF 0 rfl dL_law_320 ?_
  refine q_ifeq hF (by decide) dL_law_322 (fun c322 => ?_) (fun c322 => ?_)
  · exact absurd c322 (by decide)
  · refine q_aload hF 2 rfl dL_law_325 ?_
    refine q_getIv hF (z := R 0 (1045 + 12 * x0)) fl_RL_272 hTa ((c317_1.1 _ _ (by omega)).trans hac0.si) dL_law_327 ?_
    refine q_goto hF dL_law_330 ?_
    refine q_icmpne_s hF (a := R 0 (1045 + 12 * x0)) dL_law_335 ?_
    refine q_iconst hF dL_law_338 ?_
    refine q_goto hF dL_law_339 ?_
    refine q_istore_n hF (ls' := [(1, qI 1), (13, qI 1), (14, qI wh), (12, .ref (ρ x0)), (11, qI (x0 : Int)), (10, .ref ah), (9, qI (c : Int)), (8, qI (dn : Int)), (7, .ref was), (6, .ref k), (5, .ref d), (4, .ref ta), (3, .ref b), (2, qI (ii : Int)), (0, .ref b0)]) rfl (by decide) rfl dL_law_343 ?_
    refine q_iload hF 1 rfl dL_law_344 ?_
    refine q_ifeq hF (by decide) dL_law_346 (fun c346 => ?_) (fun c346 => ?_)
    · exact absurd c346 (by decide)
    · refine q_aload hF 3 rfl dL_law_349 ?_
      refine q_iconst hF dL_law_351 ?_
      refine q_putI hF fl_RL_272 hTa (q_Ale hA (by omega)) dL_law_352 ?_
      refine q_aload hF 3 rfl dL_law_355 ?_
      refine q_iconst hF dL_law_357 ?_
      refine q_putI hF fl_RL_260 hTa (q_Ale hA (by omega)) dL_law_358 ?_
      refine q_goto hF dL_law_361 ?_
      refine q_sub [1, 5, 6, 7, 8, 9, 10, 11, 12, 13, 0, 14] rfl ?_
      have hb4 : ∀ x, x < 4 → (N) (k + 17) x = g_ocontact (R 0) x0 (17 + x) := fun x hx => by
        rcases (show x = 0 ∨ x = 1 ∨ x = 2 ∨ x = 3 by omega) with rfl | rfl | rfl | rfl
        · exact ((((c317_1.2.1 _ _ (by omega)).trans (hM.b4 0 (by decide)))).trans ((show g_ocontact (R 0) x0 (17) = R 0 (17) by unfold g_ocontact; rw [g_up_n _ _ (by omega), g_up_n _ _ (by omega)])).symm)
        · exact ((((c317_1.2.1 _ _ (by omega)).trans (hM.b4 1 (by decide)))).trans ((show g_ocontact (R 0) x0 (18) = R 0 (18) by unfold g_ocontact; rw [g_up_n _ _ (by omega), g_up_n _ _ (by omega)])).symm)
        · exact ((((c317_1.2.1 _ _ (by omega)).trans (hM.b4 2 (by decide)))).trans ((show g_ocontact (R 0) x0 (19) = R 0 (19) by unfold g_ocontact; rw [g_up_n _ _ (by omega), g_up_n _ _ (by omega)])).symm)
        · exact ((((c317_1.2.1 _ _ (by omega)).trans (hM.b4 3 (by decide)))).trans ((show g_ocontact (R 0) x0 (20) = R 0 (20) by unfold g_ocontact; rw [g_up_n _ _ (by omega), g_up_n _ _ (by omega)])).symm)
      have hb6 : (N) (k + 17) 6 = g_ocontact (R 0) x0 23 := ((((c317_1.2.1 _ _ (by omega)).trans hM.b6)).trans ((show g_ocontact (R 0) x0 (23) = R 0 (23) by unfold g_ocontact; rw [g_up_n _ _ (by omega), g_up_n _ _ (by omega)])).symm)
      have hpd : ∀ l, l < 5 → (N) (k + 18) l = g_ocontact (R 0) x0 (35 + 13 * l) := fun l hl => (((c317_1.2.1 _ _ (by omega)).trans (hM.pd l hl))).trans (by unfold g_ocontact; rw [g_up_n _ _ (by omega), g_up_n _ _ (by omega)])
      have hps : ∀ l, l < 5 → (N) (k + 19) l = g_ocontact (R 0) x0 (36 + 13 * l) := fun l hl => (((c317_1.2.1 _ _ (by omega)).trans (hM.ps l hl))).trans (by unfold g_ocontact; rw [g_up_n _ _ (by omega), g_up_n _ _ (by omega)])
      have hcc : g_ocontact (R 0) x0 (1042 + 12 * x0) ≤ R 0 (1042 + 12 * x0) + 5000 := by
        unfold g_ocontact
        rw [g_up_n _ _ (by omega), g_up_n _ _ (by omega)]
        omega
      exact qX.room (kc := kc) (ks := ks) (by omega) (by omega) (k0 _ _ _ _ _ _ _ _ _ (x) _ ((q_JW.act (i := x0) (I' := u2 (u2 M (ρ x0) 6 0) (ρ x0) 4 0) (L' := N) c317_0 c317_1 hW0 hEr (((u2_k _ _ (by decide)).trans ((u2_k _ _ (by decide)).trans ((c317_1.1 _ _ (by omega)).trans hx2)))) hTd hZ0 hTw hl9 hl3.2 hnm hLy hV0 hx0 (fun q j hq => ((u2_a _ _ hq).trans ((u2_a _ _ hq).trans rfl))) (fun q j h1 h2 h3 h4 => rfl) ⟨((((u2_k _ _ (by decide)).trans ((u2_k _ _ (by decide)).trans ((c317_1.1 _ _ (by omega)).trans hac0.kd)))).trans ((show g_ocontact (R 0) x0 (1039 + 12 * x0) = R 0 (1039 + 12 * x0) by unfold g_ocontact; rw [g_up_n _ _ (by omega), g_up_n _ _ (by omega)])).symm), ((((u2_k _ _ (by decide)).trans ((u2_k _ _ (by decide)).trans ((c317_1.1 _ _ (by omega)).trans hac0.ad)))).trans ((show g_ocontact (R 0) x0 (1040 + 12 * x0) = R 0 (1040 + 12 * x0) by unfold g_ocontact; rw [g_up_n _ _ (by omega), g_up_n _ _ (by omega)])).symm), ((((u2_k _ _ (by decide)).trans ((u2_k _ _ (by decide)).trans ((c317_1.1 _ _ (by omega)).trans hac0.bi)))).trans ((show g_ocontact (R 0) x0 (1041 + 12 * x0) = R 0 (1041 + 12 * x0) by unfold g_ocontact; rw [g_up_n _ _ (by omega), g_up_n _ _ (by omega)])).symm), ((((c317_1.2.1 _ _ (by omega)).trans hac0.ce)).trans ((show g_ocontact (R 0) x0 (1042 + 12 * x0) = R 0 (1042 + 12 * x0) by unfold g_ocontact; rw [g_up_n _ _ (by omega), g_up_n _ _ (by omega)])).symm), (((u2_s _ _ _ _)).trans ((show g_ocontact (R 0) x0 (1043 + 12 * x0) = 0 by unfold g_ocontact; rw [g_up_s])).symm), ((((u2_k _ _ (by decide)).trans ((u2_k _ _ (by decide)).trans ((c317_1.1 _ _ (by omega)).trans hac0.ag)))).trans ((show g_ocontact (R 0) x0 (1044 + 12 * x0) = R 0 (1044 + 12 * x0) by unfold g_ocontact; rw [g_up_n _ _ (by omega), g_up_n _ _ (by omega)])).symm), ((((u2_k _ _ (by decide)).trans (u2_s _ _ _ _))).trans ((show g_ocontact (R 0) x0 (1045 + 12 * x0) = 0 by unfold g_ocontact; rw [g_up_n _ _ (by omega), g_up_s])).symm), ((((u2_k _ _ (by decide)).trans ((u2_k _ _ (by decide)).trans ((c317_1.1 _ _ (by omega)).trans hac0.le)))).trans ((show g_ocontact (R 0) x0 (1046 + 12 * x0) = R 0 (1046 + 12 * x0) by unfold g_ocontact; rw [g_up_n _ _ (by omega), g_up_n _ _ (by omega)])).symm), ((((u2_k _ _ (by decide)).trans ((u2_k _ _ (by decide)).trans ((c317_1.1 _ _ (by omega)).trans hac0.ho)))).trans ((show g_ocontact (R 0) x0 (1047 + 12 * x0) = R 0 (1047 + 12 * x0) by unfold g_ocontact; rw [g_up_n _ _ (by omega), g_up_n _ _ (by omega)])).symm), ((((u2_k _ _ (by decide)).trans ((u2_k _ _ (by decide)).trans ((c317_1.1 _ _ (by omega)).trans hac0.la)))).trans ((show g_ocontact (R 0) x0 (1048 + 12 * x0) = R 0 (1048 + 12 * x0) by unfold g_ocontact; rw [g_up_n _ _ (by omega), g_up_n _ _ (by omega)])).symm), ((((u2_k _ _ (by decide)).trans ((u2_k _ _ (by decide)).trans ((c317_1.1 _ _ (by omega)).trans hac0.ha)))).trans ((show g_ocontact (R 0) x0 (1050 + 12 * x0) = R 0 (1050 + 12 * x0) by unfold g_ocontact; rw [g_up_n _ _ (by omega), g_up_n _ _ (by omega)])).symm), ((((u2_k _ _ (by decide)).trans ((u2_k _ _ (by decide)).trans ((c317_1.1 _ _ (by omega)).trans hac0.nl)))).trans ((show g_ocontact (R 0) x0 (1049 + 12 * x0) = R 0 (1049 + 12 * x0) by unfold g_ocontact; rw [g_up_n _ _ (by omega), g_up_n _ _ (by omega)])).symm)⟩ (fun x hx => by unfold g_rc at hx; unfold g_ocontact; rw [g_up_n _ _ (by omega), g_up_n _ _ (by omega)]) (by unfold g_ocontact; rw [g_up_n _ _ (by omega), g_up_n _ _ (by omega)]) (by unfold g_ocontact; rw [g_up_n _ _ (by omega), g_up_n _ _ (by omega)]) (by unfold g_ocontact; rw [g_up_n _ _ (by omega), g_up_n _ _ (by omega)]) (by unfold g_ocontact; rw [g_up_n _ _ (by omega), g_up_n _ _ (by omega)]) (fun j x a e y z => by unfold g_ocontact; rw [g_up_n _ _ (by omega), g_up_n _ _ (by omega)]) (fun x a => by unfold g_ocontact; rw [g_up_n _ _ (by omega), g_up_n _ _ (by omega)]) hb4 hb6 hpd hps hcap hcc hc hmo hn hsf).pre (by omega) hI0))

set_option maxRecDepth 100000 in
theorem lL_contact0 {G : q_G} {F : q_F} {h : Nat} {Q : q_Q} {kc ks sz : Nat} {T : q_T} {I L : q_I} {P : q_P} {b d a0 was l9 tp bk k n9 c v w m x x0 ah dn ta ii b0 : Nat} {wh : Int} {B : Nat → Int} {R : Nat → Nat → Int} {E : Nat → Prop} {ρ σ : Nat → Nat}  (hF : q_ok G F YL_law h) (h9 : 30 ≤ h) (hA : q_A G b) (hE : q_CE T b bk tp B R I L P) (hW : q_OW E T I L P k v n9 ρ w m σ (R 0)) (hEr : ∀ q, E q → a0 ≤ q ∧ q < sz ∧ q ≠ was) (hx : I d 0 = (x : Int)) (hTd : T d = some (.inl 8)) (hZ : q_F0 sz I L P) (hTw : T was = some (.inr (9, 16))) (hl9 : R 0 0 = (l9 : Int)) (hl3 : 1 ≤ l9 ∧ l9 ≤ 3) (hnm : e_nms (R 0) l9) (hLy : b + 452 ≤ d ∧ d < a0 ∧ a0 ≤ sz) (hx0 : x0 < n9) (hcap : q_Cap (R 0) (5000 * (11 - (c : Int)))) (hc : c < 11) (hmo : R 0 2 ≤ 30 * (c : Int)) (hn : n9 ≤ 12) (hws : was < sz) (hsf : d_safe (10 - c) (12 - n9) x = true) (hop : ¬ (R 0 (1043 + 12 * x0) = 0 ∨ R 0 (1043 + 12 * x0) = 1)) (k0 : ∀ (T' : q_T) (I' L' : q_I) (P' : q_P) (sz' bk' : Nat) (R' : Nat → Nat → Int) (n' : Nat) (ρ' : Nat → Nat) (x' : Nat) (is : Int), q_PA b d a0 was l9 tp B T I L P sz bk R k n9 ρ c T' I' L' P' sz' bk' R' n' ρ' x' is → qX G F Q kc ks 919 [(13, qI is), (10, .ref ah), (9, qI (c : Int)), (8, qI (dn : Int)), (7, .ref was), (6, .ref k), (5, .ref d), (4, .ref ta), (3, .ref b), (2, qI (ii : Int)), (1, qI 1), (0, .ref b0)] [] sz' T' I' L' P') : qX G F Q (kc + 1) (ks + 6) 307 [(14, qI wh), (13, qI 1), (12, .ref (ρ x0)), (11, qI (x0 : Int)), (10, .ref ah), (9, qI (c : Int)), (8, qI (dn : Int)), (7, .ref was), (6, .ref k), (5, .ref d), (4, .ref ta), (3, .ref b), (2, qI (ii : Int)), (1, qI 1), (0, .ref b0)] [] sz T I L P := by
  have hO := hW.ot
  have hM := hW.om
  have hRk := hW.rr
  have hro := hE.ro 0 (Nat.zero_le _)
  have hV0 := hro.1.1
  have hV0l := hV0.lands
  have hV0m := hV0.month
  have hil : (x0 : Int) < R 0 1 := by have := hM.nn; omega
  have hVA := hro.1.2.1 x0 hil
  rw [if_neg (Nat.not_lt_zero x0)] at hVA
  have hTa := hM.ta x0 hx0
  have hac := hM.ac x0 hx0
  have hst4 : I (ρ x0) 4 = R 0 (1043 + 12 * x0) := hac.st
  have hρ := hEr _ (hM.ea x0 hx0)
  have hk0 := hEr k (hW.ek k (Nat.le_refl _) (by omega))
  have hk17 := hEr (k + 17) (hW.ek (k + 17) (by omega) (by omega))
  have hk18 := hEr (k + 18) (hW.ek (k + 18) (by omega) (by omega))
  have hk19 := hEr (k + 19) (hW.ek (k + 19) (by omega) (by omega))
  have nk : ρ x0 ≠ k := fun e => q_Tne hO.t0 hTa (by intro z; cases z) e.symm
  have nk17 : ρ x0 ≠ k + 17 := fun e => q_Tne hO.t17 hTa (by intro z; cases z) e.symm
  have nk18 : ρ x0 ≠ k + 18 := fun e => q_Tne hO.t18 hTa (by intro z; cases z) e.symm
  have nk19 : ρ x0 ≠ k + 19 := fun e => q_Tne hO.t19 hTa (by intro z; cases z) e.symm
  have f1 := hVA.state
  have f2 := hVA.cents
  have f3 := hVA.nl
  have f4 := hVA.holder
  have f5 := hVA.hh
  have f6 := hVA.addr
  have f7 := hVA.since
  have hcx : R 0 (1042 + 12 * x0) + 5000 ≤ 100000000 := by
    have h1 := hcap x0 hil
    have h2 := g_cap_le (u := (R 0 2).toNat) (v := 330) (by omega)
    have h3 := g_cap_330
    omega
  refine q_aload hF 2 rfl dL_law_307 ?_
  have e4 : I (ρ x0) 4 = R 0 (1043 + 12 * x0) := hac.st
  refine q_callV (kc := kc + 1) (ks := ks + 6) (mc' := 0) (ms' := 0) (h' := 0) (st := []) hF vl_RL_252 rfl [] rfl rfl hTa (by omega) (Nat.le_of_ble_eq_true rfl) dL_law_309 ?_
  refine mX8_isOpen0 hTa (by rw [e4]; exact f1) (by rw [e4]; exact hop) ?_
  refine q_istore hF (ls' := [(13, qI 0), (14, qI wh), (12, .ref (ρ x0)), (11, qI (x0 : Int)), (10, .ref ah), (9, qI (c : Int)), (8, qI (dn : Int)), (7, .ref was), (6, .ref k), (5, .ref d), (4, .ref ta), (3, .ref b), (2, qI (ii : Int)), (1, qI 1), (0, .ref b0)]) (by decide) rfl dL_law_312 ?_
  refine q_aload_n hF 11 rfl rfl dL_law_314 ?_
  refine q_iload hF 3 rfl dL_law_315 ?_
  have hE0 : q_CE T b bk tp B R I L P := hE.mv (fun _ _ _ => rfl) (fun q j a c => rfl) (fun _ _ _ _ => rfl) (fun _ _ _ _ => rfl)
  have hI0 : ∀ q j, q ≠ d → I q j = I q j := fun q j hq => rfl
  have hW0 : q_OW E T I L P k v n9 ρ w m σ (R 0) := hW.mv (fun _ z => z) (fun _ _ => rfl) (fun q j hq => hI0 q j (by have := hEr q hq; omega)) (fun _ _ _ => rfl) (fun _ _ _ => rfl)
  have hac0 := hW0.om.ac x0 hx0
  have hx2 : I d 0 = (x : Int) := hx
  have hZ0 : q_F0 sz I L P := fun q j hq => ⟨(hI0 q j (by omega)).trans (hZ q j hq).1, (hZ q j hq).2⟩
  refine q_callSH (kc := kc) (ks := ks) (mc' := 1) (ms' := 6) (h' := 5) (st := []) hF sl_RL_349 rfl [.ref b, qI (x0 : Int)] rfl rfl (by omega) (Nat.le_of_ble_eq_true rfl) dL_law_317 ?_
  refine a_contact2 hA hE0 hil hop (fun sz9 I9' c317_0 c317_1 c317_2 => ?_)
  refine q_iload hF 0 rfl dL_law_320 ?_
  refine q_ifeq hF (by decide) dL_law_322 (fun c322 => ?_) (fun c322 => ?_)
  · refine q_ldc hF (n := -2000000099) (q_mem 791 (by decide +kernel) rfl) dL_law_333 ?_
    refine q_icmpne_s hF (a := -2000000099) dL_law_335 ?_
    refine q_iconst hF dL_law_338 ?_
    refine q_goto hF dL_law_339 ?_
    refine q_istore_n hF (ls' := [(1, qI 1), (13, qI 0), (14, qI wh), (12, .ref (ρ x0)), (11, qI (x0 : Int)), (10, .ref ah), (9, qI (c : Int)), (8, qI (dn : Int)), (7, .ref was), (6, .ref k), (5, .ref d), (4, .ref ta), (3, .ref b), (2, qI (ii : Int)), (0, .ref b0)]) rfl (by decide) rfl dL_law_343 ?_
    refine q_iload hF 1 rfl dL_law_344 ?_
    refine q_ifeq hF (by decide) dL_law_346 (fun c346 => ?_) (fun c346 => ?_)
    · refine q_sub [1, 5, 6, 7, 8, 9, 10, 11, 12, 13, 0, 14] rfl ?_
      refine qX.room (kc := kc) (ks := ks) (by omega) (by omega) (k0 _ _ _ _ _ _ _ _ _ (x) _ ((q_JW.ref c317_1 hW0 hEr ((c317_2.1 _ _ (by omega)).trans hx2) hTd hZ0 hTw hl9 hnm hLy c317_0 (fun q j a e => c317_2.1 q j a) hcap hc hmo hn hsf).pre (by omega) hI0))
    · exact absurd c346 (by decide)
  · exact absurd c322 (by decide)

set_option maxRecDepth 100000 in
theorem lL_sum1 {G : q_G} {F : q_F} {h : Nat} {Q : q_Q} {kc ks sz : Nat} {T : q_T} {I L : q_I} {P : q_P} {b d a0 was l9 tp bk k n9 c v w m x x0 ah dn ta ii b0 : Nat} {wh : Int} {B : Nat → Int} {R : Nat → Nat → Int} {E : Nat → Prop} {ρ σ : Nat → Nat}  (hF : q_ok G F YL_law h) (h9 : 30 ≤ h) (hA : q_A G b) (hE : q_CE T b bk tp B R I L P) (hW : q_OW E T I L P k v n9 ρ w m σ (R 0)) (hEr : ∀ q, E q → a0 ≤ q ∧ q < sz ∧ q ≠ was) (hx : I d 0 = (x : Int)) (hTd : T d = some (.inl 8)) (hZ : q_F0 sz I L P) (hTw : T was = some (.inr (9, 16))) (hl9 : R 0 0 = (l9 : Int)) (hl3 : 1 ≤ l9 ∧ l9 ≤ 3) (hnm : e_nms (R 0) l9) (hLy : b + 452 ≤ d ∧ d < a0 ∧ a0 ≤ sz) (hx0 : x0 < n9) (hcap : q_Cap (R 0) (5000 * (11 - (c : Int)))) (hc : c < 11) (hmo : R 0 2 ≤ 30 * (c : Int)) (hn : n9 ≤ 12) (hws : was < sz) (hsf : d_safe (10 - c) (12 - n9) (d_nx (d_nx x)) = true) (hop : R 0 (1043 + 12 * x0) = 0 ∨ R 0 (1043 + 12 * x0) = 1) (k0 : ∀ (T' : q_T) (I' L' : q_I) (P' : q_P) (sz' bk' : Nat) (R' : Nat → Nat → Int) (n' : Nat) (ρ' : Nat → Nat) (x' : Nat) (is : Int), q_PA b d a0 was l9 tp B T I L P sz bk R k n9 ρ c T' I' L' P' sz' bk' R' n' ρ' x' is → qX G F Q kc ks 919 [(13, qI is), (10, .ref ah), (9, qI (c : Int)), (8, qI (dn : Int)), (7, .ref was), (6, .ref k), (5, .ref d), (4, .ref ta), (3, .ref b), (2, qI (ii : Int)), (1, qI 1), (0, .ref b0)] [] sz' T' I' L' P') : qX G F Q (kc + 1) (ks + 6) 371 [(14, qI wh), (13, qI 1), (12, .ref (ρ x0)), (11, qI (x0 : Int)), (10, .ref ah), (9, qI (c : Int)), (8, qI (dn : Int)), (7, .ref was), (6, .ref k), (5, .ref d), (4, .ref ta), (3, .ref b), (2, qI (ii : Int)), (1, qI 1), (0, .ref b0)] [] sz T I L P := by
  have hO := hW.ot
  have hM := hW.om
  have hRk := hW.rr
  have hro := hE.ro 0 (Nat.zero_le _)
  have hV0 := hro.1.1
  have hV0l := hV0.lands
  have hV0m := hV0.month
  have hil : (x0 : Int) < R 0 1 := by have := hM.nn; omega
  have hVA := hro.1.2.1 x0 hil
  rw [if_neg (Nat.not_lt_zero x0)] at hVA
  have hTa := hM.ta x0 hx0
  have hac := hM.ac x0 hx0
  have hst4 : I (ρ x0) 4 = R 0 (1043 + 12 * x0) := hac.st
  have hρ := hEr _ (hM.ea x0 hx0)
  have hk0 := hEr k (hW.ek k (Nat.le_refl _) (by omega))
  have hk17 := hEr (k + 17) (hW.ek (k + 17) (by omega) (by omega))
  have hk18 := hEr (k + 18) (hW.ek (k + 18) (by omega) (by omega))
  have hk19 := hEr (k + 19) (hW.ek (k + 19) (by omega) (by omega))
  have nk : ρ x0 ≠ k := fun e => q_Tne hO.t0 hTa (by intro z; cases z) e.symm
  have nk17 : ρ x0 ≠ k + 17 := fun e => q_Tne hO.t17 hTa (by intro z; cases z) e.symm
  have nk18 : ρ x0 ≠ k + 18 := fun e => q_Tne hO.t18 hTa (by intro z; cases z) e.symm
  have nk19 : ρ x0 ≠ k + 19 := fun e => q_Tne hO.t19 hTa (by intro z; cases z) e.symm
  have f1 := hVA.state
  have f2 := hVA.cents
  have f3 := hVA.nl
  have f4 := hVA.holder
  have f5 := hVA.hh
  have f6 := hVA.addr
  have f7 := hVA.since
  have hcx : R 0 (1042 + 12 * x0) + 5000 ≤ 100000000 := by
    have h1 := hcap x0 hil
    have h2 := g_cap_le (u := (R 0 2).toNat) (v := 330) (by omega)
    have h3 := g_cap_330
    omega
  refine q_iconst hF dL_law_371 ?_
  refine q_aload hF 9 rfl dL_law_372 ?_
  refine q_sipush hF (n := 5000) rfl dL_law_374 ?_
  refine q_callV (kc := kc + 1) (ks := ks + 6) (mc' := 0) (ms' := 0) (h' := 0) (st := [qI 1]) hF vl_RL_145 rfl [qI 5000] rfl rfl hTd (by omega) (Nat.le_of_ble_eq_true rfl) dL_law_377 ?_
  refine mX9_of (m := 5000) hTd (q_Ale hA (by omega)) (x := x) hx (by omega) (fun v_1 c377_0_1 c377_1_1 => ?_)
  refine q_iadd hF dL_law_380 ?_
  refine q_istore hF (ls' := [(15, qI (1 + (v_1 : Int))), (14, qI wh), (13, qI 1), (12, .ref (ρ x0)), (11, qI (x0 : Int)), (10, .ref ah), (9, qI (c : Int)), (8, qI (dn : Int)), (7, .ref was), (6, .ref k), (5, .ref d), (4, .ref ta), (3, .ref b), (2, qI (ii : Int)), (1, qI 1), (0, .ref b0)]) (by decide) rfl dL_law_381 ?_
  refine q_aload hF 10 rfl dL_law_383 ?_
  refine q_iconst hF dL_law_385 ?_
  refine q_callV (kc := kc + 1) (ks := ks + 6) (mc' := 0) (ms' := 0) (h' := 0) (st := []) hF vl_RL_145 rfl [qI 2] rfl rfl hTd (by omega) (Nat.le_of_ble_eq_true rfl) dL_law_386 ?_
  refine mX9_of (m := 2) hTd (q_Ale hA (by omega)) (x := d_nx x) (u2_s _ _ _ _) (by omega) (fun v_2 c386_0_2 c386_1_2 => ?_)
  refine q_ifne hF (by omega) dL_law_389 (fun c389 => ?_) (fun c389 => ?_)
  · refine q_iconst hF dL_law_396 ?_
    refine q_istore hF (ls' := [(16, qI 0), (15, qI (1 + (v_1 : Int))), (14, qI wh), (13, qI 1), (12, .ref (ρ x0)), (11, qI (x0 : Int)), (10, .ref ah), (9, qI (c : Int)), (8, qI (dn : Int)), (7, .ref was), (6, .ref k), (5, .ref d), (4, .ref ta), (3, .ref b), (2, qI (ii : Int)), (1, qI 1), (0, .ref b0)]) (by decide) rfl dL_law_397 ?_
    refine q_aload hF 4 rfl dL_law_399 ?_
    have e4 : (u2 (u2 I d 0 ((d_nx x : Nat) : Int)) d 0 ((d_nx (d_nx x) : Nat) : Int)) (ρ x0) 4 = R 0 (1043 + 12 * x0) := ((u2_k _ _ (by decide)).trans ((u2_k _ _ (by decide)).trans hac.st))
    refine q_callV (kc := kc + 1) (ks := ks + 6) (mc' := 0) (ms' := 0) (h' := 0) (st := []) hF vl_RL_252 rfl [] rfl rfl hTa (by omega) (Nat.le_of_ble_eq_true rfl) dL_law_401 ?_
    refine mX8_isOpen1 hTa (by rw [e4]; exact hop) ?_
    refine q_ifeq hF (by decide) dL_law_404 (fun c404 => ?_) (fun c404 => ?_)
    · exact absurd c404 (by decide)
    · refine q_iload hF 0 rfl dL_law_407 ?_
      refine q_ifne hF (by decide) dL_law_409 (fun c409 => ?_) (fun c409 => ?_)
      · exact absurd c409 (by decide)
      · refine q_aload hF 4 rfl dL_law_412 ?_
        refine q_getLv hF (z := R 0 (1042 + 12 * x0)) fl_RL_227 hTa hac.ce dL_law_414 ?_
        refine q_iload hF 1 rfl dL_law_417 ?_
        refine q_i2l hF (by omega) dL_law_419 ?_
        refine q_cmplt hF (by omega) (by omega) dL_law_420 dL_law_421 (fun c421 => ?_) (fun c421 => ?_)
        · refine q_iconst hF dL_law_428 ?_
          refine q_istore hF (ls' := [(13, qI 0), (16, qI 0), (15, qI (1 + (v_1 : Int))), (14, qI wh), (12, .ref (ρ x0)), (11, qI (x0 : Int)), (10, .ref ah), (9, qI (c : Int)), (8, qI (dn : Int)), (7, .ref was), (6, .ref k), (5, .ref d), (4, .ref ta), (3, .ref b), (2, qI (ii : Int)), (1, qI 1), (0, .ref b0)]) (by decide) rfl dL_law_429 ?_
          refine q_iload hF 1 rfl dL_law_431 ?_
          refine q_ifeq hF (by decide) dL_law_433 (fun c433 => ?_) (fun c433 => ?_)
          · refine q_aload_n hF 13 rfl rfl dL_law_447 ?_
            refine q_iload hF 5 rfl dL_law_448 ?_
            refine q_iload hF 2 rfl dL_law_450 ?_
            have hE0 : q_CE T b bk tp B R (u2 (u2 I d 0 ((d_nx x : Nat) : Int)) d 0 ((d_nx (d_nx x) : Nat) : Int)) L P := hE.mv (fun _ _ _ => rfl) (fun q j a c => ((u2_a _ _ (by omega)).trans ((u2_a _ _ (by omega)).trans rfl))) (fun _ _ _ _ => rfl) (fun _ _ _ _ => rfl)
            have hI0 : ∀ q j, q ≠ d → (u2 (u2 I d 0 ((d_nx x : Nat) : Int)) d 0 ((d_nx (d_nx x) : Nat) : Int)) q j = I q j := fun q j hq => ((u2_a _ _ hq).trans ((u2_a _ _ hq).trans rfl))
            have hW0 : q_OW E T (u2 (u2 I d 0 ((d_nx x : Nat) : Int)) d 0 ((d_nx (d_nx x) : Nat) : Int)) L P k v n9 ρ w m σ (R 0) := hW.mv (fun _ z => z) (fun _ _ => rfl) (fun q j hq => hI0 q j (by have := hEr q hq; omega)) (fun _ _ _ => rfl) (fun _ _ _ => rfl)
            have hac0 := hW0.om.ac x0 hx0
            have hx2 : (u2 (u2 I d 0 ((d_nx x : Nat) : Int)) d 0 ((d_nx (d_nx x) : Nat) : Int)) d 0 = ((d_nx (d_nx x) : Nat) : Int) := (u2_s _ _ _ _)
            have hZ0 : q_F0 sz (u2 (u2 I d 0 ((d_nx x : Nat) : Int)) d 0 ((d_nx (d_nx x) : Nat) : Int)) L P := fun q j hq => ⟨(hI0 q j (by omega)).trans (hZ q j hq).1, (hZ q j hq).2⟩
            refine q_callSH (kc := kc) (ks := ks) (mc' := 1) (ms' := 6) (h' := 5) (st := []) hF sl_RL_353 rfl [.ref b, qI (x0 : Int), qI (1 + (v_1 : Int))] rfl rfl (by omega) (Nat.le_of_ble_eq_true rfl) dL_law_452 ?_
            refine a_draw2 hA hE0 hil (by omega) (fun z => by omega) (fun sz9 I9' c452_0 c452_1 c452_2 => ?_)
            refine q_istore hF (ls' := [(17, qI (-2000000099)), (13, qI 0), (16, qI 0), (15, qI (1 + (v_1 : Int))), (14, qI wh), (12, .ref (ρ x0)), (11, qI (x0 : Int)), (10, .ref ah), (9, qI (c : Int)), (8, qI (dn : Int)), (7, .ref was), (6, .ref k), (5, .ref d), (4, .ref ta), (3, .ref b), (2, qI (ii : Int)), (1, qI 1), (0, .ref b0)]) (by decide) rfl dL_law_455 ?_
            refine q_iload hF 1 rfl dL_law_457 ?_
            refine q_ifeq hF (by decide) dL_law_459 (fun c459 => ?_) (fun c459 => ?_)
            · refine q_iload hF 0 rfl dL_law_521 ?_
              refine q_i2l hF (by decide) dL_law_523 ?_
              refine q_iload hF 1 rfl dL_law_524 ?_
              refine q_ifeq hF (by decide) dL_law_526 (fun c526 => ?_) (fun c526 => ?_)
              · refine q_ldc2 hF (n := -2000000099) (q_mem 954 (by decide +kernel) rfl) dL_law_537 ?_
                refine q_cmpne_s hF (a := -2000000099) dL_law_540 dL_law_541 ?_
                refine q_iconst hF dL_law_544 ?_
                refine q_goto hF dL_law_545 ?_
                refine q_istore_n hF (ls' := [(1, qI 1), (17, qI (-2000000099)), (13, qI 0), (16, qI 0), (15, qI (1 + (v_1 : Int))), (14, qI wh), (12, .ref (ρ x0)), (11, qI (x0 : Int)), (10, .ref ah), (9, qI (c : Int)), (8, qI (dn : Int)), (7, .ref was), (6, .ref k), (5, .ref d), (4, .ref ta), (3, .ref b), (2, qI (ii : Int)), (0, .ref b0)]) rfl (by decide) rfl dL_law_549 ?_
                refine q_goto hF dL_law_550 ?_
                refine q_sub [2, 8, 9, 10, 11, 12, 13, 14, 15, 16, 0, 17] rfl ?_
                refine qX.room (kc := kc) (ks := ks) (by omega) (by omega) (k0 _ _ _ _ _ _ _ _ _ (d_nx (d_nx x)) _ ((q_JW.ref c452_1 hW0 hEr ((c452_2.1 _ _ (by omega)).trans hx2) hTd hZ0 hTw hl9 hnm hLy c452_0 (fun q j a e => c452_2.1 q j a) hcap hc hmo hn hsf).pre (by omega) hI0))
              · exact absurd c526 (by decide)
            · exact absurd c459 (by decide)
          · exact absurd c433 (by decide)
        · refine q_iconst hF dL_law_424 ?_
          refine q_goto hF dL_law_425 ?_
          refine q_istore hF (ls' := [(13, qI 1), (16, qI 0), (15, qI (1 + (v_1 : Int))), (14, qI wh), (12, .ref (ρ x0)), (11, qI (x0 : Int)), (10, .ref ah), (9, qI (c : Int)), (8, qI (dn : Int)), (7, .ref was), (6, .ref k), (5, .ref d), (4, .ref ta), (3, .ref b), (2, qI (ii : Int)), (1, qI 1), (0, .ref b0)]) (by decide) rfl dL_law_429 ?_
          refine q_iload hF 1 rfl dL_law_431 ?_
          refine q_ifeq hF (by decide) dL_law_433 (fun c433 => ?_) (fun c433 => ?_)
          · refine q_aload_n hF 13 rfl rfl dL_law_447 ?_
            refine q_iload hF 5 rfl dL_law_448 ?_
            refine q_iload hF 2 rfl dL_law_450 ?_
            have hE0 : q_CE T b bk tp B R (u2 (u2 I d 0 ((d_nx x : Nat) : Int)) d 0 ((d_nx (d_nx x) : Nat) : Int)) L P := hE.mv (fun _ _ _ => rfl) (fun q j a c => ((u2_a _ _ (by omega)).trans ((u2_a _ _ (by omega)).trans rfl))) (fun _ _ _ _ => rfl) (fun _ _ _ _ => rfl)
            have hI0 : ∀ q j, q ≠ d → (u2 (u2 I d 0 ((d_nx x : Nat) : Int)) d 0 ((d_nx (d_nx x) : Nat) : Int)) q j = I q j := fun q j hq => ((u2_a _ _ hq).trans ((u2_a _ _ hq).trans rfl))
            have hW0 : q_OW E T (u2 (u2 I d 0 ((d_nx x : Nat) : Int)) d 0 ((d_nx (d_nx x) : Nat) : Int)) L P k v n9 ρ w m σ (R 0) := hW.mv (fun _ z => z) (fun _ _ => rfl) (fun q j hq => hI0 q j (by have := hEr q hq; omega)) (fun _ _ _ => rfl) (fun _ _ _ => rfl)
            have hac0 := hW0.om.ac x0 hx0
            have hx2 : (u2 (u2 I d 0 ((d_nx x : Nat) : Int)) d 0 ((d_nx (d_nx x) : Nat) : Int)) d 0 = ((d_nx (d_nx x) : Nat) : Int) := (u2_s _ _ _ _)
            have hZ0 : q_F0 sz (u2 (u2 I d 0 ((d_nx x : Nat) : Int)) d 0 ((d_nx (d_nx x) : Nat) : Int)) L P := fun q j hq => ⟨(hI0 q j (by omega)).trans (hZ q j hq).1, (hZ q j hq).2⟩
            refine q_callSH (kc := kc) (ks := ks) (mc' := 1) (ms' := 6) (h' := 5) (st := []) hF sl_RL_353 rfl [.ref b, qI (x0 : Int), qI (1 + (v_1 : Int))] rfl rfl (by omega) (Nat.le_of_ble_eq_true rfl) dL_law_452 ?_
            refine a_draw hA hE0 hil (by omega) ⟨hop, by omega⟩ (fun M N P9 c452_0 c452_1 => ?_)
            refine q_istore hF (ls' := [(17, qI (R 0 (1042 + 12 * x0) + (-(1 + (v_1 : Int))))), (13, qI 1), (16, qI 0), (15, qI (1 + (v_1 : Int))), (14, qI wh), (12, .ref (ρ x0)), (11, qI (x0 : Int)), (10, .ref ah), (9, qI (c : Int)), (8, qI (dn : Int)), (7, .ref was), (6, .ref k), (5, .ref d), (4, .ref ta), (3, .ref b), (2, qI (ii : Int)), (1, qI 1), (0, .ref b0)]) (by decide) rfl dL_law_455 ?_
            refine q_iload hF 1 rfl dL_law_457 ?_
            refine q_ifeq hF (by decide) dL_law_459 (fun c459 => ?_) (fun c459 => ?_)
            · exact absurd c459 (by decide)
            · refine q_aload hF 5 rfl dL_law_462 ?_
              refine q_iconst hF dL_law_464 ?_
              refine q_putI hF fl_RL_272 hTa (q_Ale hA (by omega)) dL_law_465 ?_
              refine q_aload hF 5 rfl dL_law_468 ?_
              refine q_iconst hF dL_law_470 ?_
              refine q_putI hF fl_RL_260 hTa (q_Ale hA (by omega)) dL_law_471 ?_
              refine q_aload hF 5 rfl dL_law_474 ?_
              refine q_dup hF rfl dL_law_476 ?_
              refine q_getLv hF (z := R 0 (1042 + 12 * x0)) fl_RL_227 hTa ((c452_1.2.1 _ _ (by omega)).trans hac0.ce) dL_law_477 ?_
              refine q_iload hF 2 rfl dL_law_480 ?_
              refine q_ifeq hF (by decide) dL_law_482 (fun c482 => ?_) (fun c482 => ?_)
              · refine q_iload hF 3 rfl dL_law_491 ?_
                refine q_ineg hF dL_law_493 ?_
                refine q_i2l hF (by omega) dL_law_494 ?_
                refine q_ladd hF dL_law_495 ?_
                refine q_putL hF fl_RL_227 hTa (q_Ale hA (by omega)) dL_law_496 ?_
                refine q_aload hF 11 rfl dL_law_499 ?_
                refine q_getA hF fl_RL_235 rfl hO.t0 ((c452_1.2.2 _ _ (by omega)).trans hO.p12) dL_law_501 ?_
                refine q_iload hF 2 rfl dL_law_504 ?_
                refine q_ifeq hF (by decide) dL_law_506 (fun c506 => ?_) (fun c506 => ?_)
                · refine q_iconst hF dL_law_513 ?_
                  refine q_dup2 hF rfl rfl dL_law_514 ?_
                  refine q_laloadv hF (z := R 0 19) (n := 7) 2 hO.t17 rfl (by decide) (by decide) ((u2_k _ _ (by decide)).trans ((c452_1.2.1 _ _ (by omega)).trans (hM.b4 2 (by decide)))) dL_law_515 ?_
                  refine q_iload hF 3 rfl dL_law_516 ?_
                  refine q_i2l hF (by omega) dL_law_518 ?_
                  refine q_ladd hF dL_law_519 ?_
                  refine q_lastorev hF (n := 7) 2 hO.t17 (q_Ale hA (by omega)) rfl (by decide) (by decide) dL_law_520 ?_
                  refine q_iload hF 0 rfl dL_law_521 ?_
                  refine q_i2l hF (by omega) dL_law_523 ?_
                  refine q_iload hF 1 rfl dL_law_524 ?_
                  refine q_ifeq hF (by decide) dL_law_526 (fun c526 => ?_) (fun c526 => ?_)
                  · exact absurd c526 (by decide)
                  · refine q_aload hF 5 rfl dL_law_529 ?_
                    refine q_getLv hF (z := (R 0 (1042 + 12 * x0)) + (-(1 + (v_1 : Int)))) fl_RL_227 hTa ((u2_k _ _ (by decide)).trans (u2_s _ _ _ _)) dL_law_531 ?_
                    refine q_goto hF dL_law_534 ?_
                    refine q_cmpne_s hF (a := R 0 (1042 + 12 * x0) + (-(1 + (v_1 : Int)))) dL_law_540 dL_law_541 ?_
                    refine q_iconst hF dL_law_544 ?_
                    refine q_goto hF dL_law_545 ?_
                    refine q_istore_n hF (ls' := [(1, qI 1), (17, qI (R 0 (1042 + 12 * x0) + (-(1 + (v_1 : Int))))), (13, qI 1), (16, qI 0), (15, qI (1 + (v_1 : Int))), (14, qI wh), (12, .ref (ρ x0)), (11, qI (x0 : Int)), (10, .ref ah), (9, qI (c : Int)), (8, qI (dn : Int)), (7, .ref was), (6, .ref k), (5, .ref d), (4, .ref ta), (3, .ref b), (2, qI (ii : Int)), (0, .ref b0)]) rfl (by decide) rfl dL_law_549 ?_
                    refine q_goto hF dL_law_550 ?_
                    refine q_sub [2, 8, 9, 10, 11, 12, 13, 14, 15, 16, 0, 17] rfl ?_
                    have hb4 : ∀ x, x < 4 → (u2 (u2 N (ρ x0) 3 ((R 0 (1042 + 12 * x0)) + (-(1 + (v_1 : Int))))) (k + 17) 2 ((R 0 19) + (1 + (v_1 : Int)))) (k + 17) x = g_odraw (R 0) x0 (1 + (v_1 : Int)) (17 + x) := fun x hx => by
                      rcases (show x = 0 ∨ x = 1 ∨ x = 2 ∨ x = 3 by omega) with rfl | rfl | rfl | rfl
                      · exact ((((u2_k _ _ (by decide)).trans ((u2_k _ _ (by decide)).trans ((c452_1.2.1 _ _ (by omega)).trans (hM.b4 0 (by decide)))))).trans ((show g_odraw (R 0) x0 (1 + (v_1 : Int)) (17) = R 0 (17) by unfold g_odraw; rw [g_up_n _ _ (by omega), g_up_n _ _ (by omega), g_up_n _ _ (by omega), g_up_n _ _ (by omega)])).symm)
                      · exact ((((u2_k _ _ (by decide)).trans ((u2_k _ _ (by decide)).trans ((c452_1.2.1 _ _ (by omega)).trans (hM.b4 1 (by decide)))))).trans ((show g_odraw (R 0) x0 (1 + (v_1 : Int)) (18) = R 0 (18) by unfold g_odraw; rw [g_up_n _ _ (by omega), g_up_n _ _ (by omega), g_up_n _ _ (by omega), g_up_n _ _ (by omega)])).symm)
                      · exact (((u2_s _ _ _ _)).trans ((show g_odraw (R 0) x0 (1 + (v_1 : Int)) (19) = R 0 19 + (1 + (v_1 : Int)) by unfold g_odraw; rw [g_up_s])).symm)
                      · exact ((((u2_k _ _ (by decide)).trans ((u2_a _ _ nk17.symm).trans ((c452_1.2.1 _ _ (by omega)).trans (hM.b4 3 (by decide)))))).trans ((show g_odraw (R 0) x0 (1 + (v_1 : Int)) (20) = R 0 (20) by unfold g_odraw; rw [g_up_n _ _ (by omega), g_up_n _ _ (by omega), g_up_n _ _ (by omega), g_up_n _ _ (by omega)])).symm)
                    have hb6 : (u2 (u2 N (ρ x0) 3 ((R 0 (1042 + 12 * x0)) + (-(1 + (v_1 : Int))))) (k + 17) 2 ((R 0 19) + (1 + (v_1 : Int)))) (k + 17) 6 = g_odraw (R 0) x0 (1 + (v_1 : Int)) 23 := ((((u2_k _ _ (by decide)).trans ((u2_k _ _ (by decide)).trans ((c452_1.2.1 _ _ (by omega)).trans hM.b6)))).trans ((show g_odraw (R 0) x0 (1 + (v_1 : Int)) (23) = R 0 (23) by unfold g_odraw; rw [g_up_n _ _ (by omega), g_up_n _ _ (by omega), g_up_n _ _ (by omega), g_up_n _ _ (by omega)])).symm)
                    have hpd : ∀ l, l < 5 → (u2 (u2 N (ρ x0) 3 ((R 0 (1042 + 12 * x0)) + (-(1 + (v_1 : Int))))) (k + 17) 2 ((R 0 19) + (1 + (v_1 : Int)))) (k + 18) l = g_odraw (R 0) x0 (1 + (v_1 : Int)) (35 + 13 * l) := fun l hl => (((u2_a _ _ (by omega)).trans ((u2_a _ _ nk18.symm).trans ((c452_1.2.1 _ _ (by omega)).trans (hM.pd l hl))))).trans (by unfold g_odraw; rw [g_up_n _ _ (by omega), g_up_n _ _ (by omega), g_up_n _ _ (by omega), g_up_n _ _ (by omega)])
                    have hps : ∀ l, l < 5 → (u2 (u2 N (ρ x0) 3 ((R 0 (1042 + 12 * x0)) + (-(1 + (v_1 : Int))))) (k + 17) 2 ((R 0 19) + (1 + (v_1 : Int)))) (k + 19) l = g_odraw (R 0) x0 (1 + (v_1 : Int)) (36 + 13 * l) := fun l hl => (((u2_a _ _ (by omega)).trans ((u2_a _ _ nk19.symm).trans ((c452_1.2.1 _ _ (by omega)).trans (hM.ps l hl))))).trans (by unfold g_odraw; rw [g_up_n _ _ (by omega), g_up_n _ _ (by omega), g_up_n _ _ (by omega), g_up_n _ _ (by omega)])
                    have hcc : g_odraw (R 0) x0 (1 + (v_1 : Int)) (1042 + 12 * x0) ≤ R 0 (1042 + 12 * x0) + 5000 := by
                      unfold g_odraw
                      rw [g_up_n _ _ (by omega), g_up_s]
                      omega
                    exact qX.room (kc := kc) (ks := ks) (by omega) (by omega) (k0 _ _ _ _ _ _ _ _ _ (d_nx (d_nx x)) _ ((q_JW.act (i := x0) (I' := u2 (u2 M (ρ x0) 6 0) (ρ x0) 4 0) (L' := u2 (u2 N (ρ x0) 3 ((R 0 (1042 + 12 * x0)) + (-(1 + (v_1 : Int))))) (k + 17) 2 ((R 0 19) + (1 + (v_1 : Int)))) c452_0 c452_1 hW0 hEr (((u2_k _ _ (by decide)).trans ((u2_k _ _ (by decide)).trans ((c452_1.1 _ _ (by omega)).trans hx2)))) hTd hZ0 hTw hl9 hl3.2 hnm hLy hV0 hx0 (fun q j hq => ((u2_a _ _ hq).trans ((u2_a _ _ hq).trans rfl))) (fun q j h1 h2 h3 h4 => ((u2_a _ _ h2).trans ((u2_a _ _ h1).trans rfl))) ⟨((((u2_k _ _ (by decide)).trans ((u2_k _ _ (by decide)).trans ((c452_1.1 _ _ (by omega)).trans hac0.kd)))).trans ((show g_odraw (R 0) x0 (1 + (v_1 : Int)) (1039 + 12 * x0) = R 0 (1039 + 12 * x0) by unfold g_odraw; rw [g_up_n _ _ (by omega), g_up_n _ _ (by omega), g_up_n _ _ (by omega), g_up_n _ _ (by omega)])).symm), ((((u2_k _ _ (by decide)).trans ((u2_k _ _ (by decide)).trans ((c452_1.1 _ _ (by omega)).trans hac0.ad)))).trans ((show g_odraw (R 0) x0 (1 + (v_1 : Int)) (1040 + 12 * x0) = R 0 (1040 + 12 * x0) by unfold g_odraw; rw [g_up_n _ _ (by omega), g_up_n _ _ (by omega), g_up_n _ _ (by omega), g_up_n _ _ (by omega)])).symm), ((((u2_k _ _ (by decide)).trans ((u2_k _ _ (by decide)).trans ((c452_1.1 _ _ (by omega)).trans hac0.bi)))).trans ((show g_odraw (R 0) x0 (1 + (v_1 : Int)) (1041 + 12 * x0) = R 0 (1041 + 12 * x0) by unfold g_odraw; rw [g_up_n _ _ (by omega), g_up_n _ _ (by omega), g_up_n _ _ (by omega), g_up_n _ _ (by omega)])).symm), ((((u2_k _ _ (by decide)).trans (u2_s _ _ _ _))).trans ((show g_odraw (R 0) x0 (1 + (v_1 : Int)) (1042 + 12 * x0) = R 0 (1042 + 12 * x0) + (-(1 + (v_1 : Int))) by unfold g_odraw; rw [g_up_n _ _ (by omega), g_up_s])).symm), (((u2_s _ _ _ _)).trans ((show g_odraw (R 0) x0 (1 + (v_1 : Int)) (1043 + 12 * x0) = 0 by unfold g_odraw; rw [g_up_n _ _ (by omega), g_up_n _ _ (by omega), g_up_s])).symm), ((((u2_k _ _ (by decide)).trans ((u2_k _ _ (by decide)).trans ((c452_1.1 _ _ (by omega)).trans hac0.ag)))).trans ((show g_odraw (R 0) x0 (1 + (v_1 : Int)) (1044 + 12 * x0) = R 0 (1044 + 12 * x0) by unfold g_odraw; rw [g_up_n _ _ (by omega), g_up_n _ _ (by omega), g_up_n _ _ (by omega), g_up_n _ _ (by omega)])).symm), ((((u2_k _ _ (by decide)).trans (u2_s _ _ _ _))).trans ((show g_odraw (R 0) x0 (1 + (v_1 : Int)) (1045 + 12 * x0) = 0 by unfold g_odraw; rw [g_up_n _ _ (by omega), g_up_n _ _ (by omega), g_up_n _ _ (by omega), g_up_s])).symm), ((((u2_k _ _ (by decide)).trans ((u2_k _ _ (by decide)).trans ((c452_1.1 _ _ (by omega)).trans hac0.le)))).trans ((show g_odraw (R 0) x0 (1 + (v_1 : Int)) (1046 + 12 * x0) = R 0 (1046 + 12 * x0) by unfold g_odraw; rw [g_up_n _ _ (by omega), g_up_n _ _ (by omega), g_up_n _ _ (by omega), g_up_n _ _ (by omega)])).symm), ((((u2_k _ _ (by decide)).trans ((u2_k _ _ (by decide)).trans ((c452_1.1 _ _ (by omega)).trans hac0.ho)))).trans ((show g_odraw (R 0) x0 (1 + (v_1 : Int)) (1047 + 12 * x0) = R 0 (1047 + 12 * x0) by unfold g_odraw; rw [g_up_n _ _ (by omega), g_up_n _ _ (by omega), g_up_n _ _ (by omega), g_up_n _ _ (by omega)])).symm), ((((u2_k _ _ (by decide)).trans ((u2_k _ _ (by decide)).trans ((c452_1.1 _ _ (by omega)).trans hac0.la)))).trans ((show g_odraw (R 0) x0 (1 + (v_1 : Int)) (1048 + 12 * x0) = R 0 (1048 + 12 * x0) by unfold g_odraw; rw [g_up_n _ _ (by omega), g_up_n _ _ (by omega), g_up_n _ _ (by omega), g_up_n _ _ (by omega)])).symm), ((((u2_k _ _ (by decide)).trans ((u2_k _ _ (by decide)).trans ((c452_1.1 _ _ (by omega)).trans hac0.ha)))).trans ((show g_odraw (R 0) x0 (1 + (v_1 : Int)) (1050 + 12 * x0) = R 0 (1050 + 12 * x0) by unfold g_odraw; rw [g_up_n _ _ (by omega), g_up_n _ _ (by omega), g_up_n _ _ (by omega), g_up_n _ _ (by omega)])).symm), ((((u2_k _ _ (by decide)).trans ((u2_k _ _ (by decide)).trans ((c452_1.1 _ _ (by omega)).trans hac0.nl)))).trans ((show g_odraw (R 0) x0 (1 + (v_1 : Int)) (1049 + 12 * x0) = R 0 (1049 + 12 * x0) by unfold g_odraw; rw [g_up_n _ _ (by omega), g_up_n _ _ (by omega), g_up_n _ _ (by omega), g_up_n _ _ (by omega)])).symm)⟩ (fun x hx => by unfold g_rc at hx; unfold g_odraw; rw [g_up_n _ _ (by omega), g_up_n _ _ (by omega), g_up_n _ _ (by omega), g_up_n _ _ (by omega)]) (by unfold g_odraw; rw [g_up_n _ _ (by omega), g_up_n _ _ (by omega), g_up_n _ _ (by omega), g_up_n _ _ (by omega)]) (by unfold g_odraw; rw [g_up_n _ _ (by omega), g_up_n _ _ (by omega), g_up_n _ _ (by omega), g_up_n _ _ (by omega)]) (by unfold g_odraw; rw [g_up_n _ _ (by omega), g_up_n _ _ (by omega), g_up_n _ _ (by omega), g_up_n _ _ (by omega)]) (by unfold g_odraw; rw [g_up_n _ _ (by omega), g_up_n _ _ (by omega), g_up_n _ _ (by omega), g_up_n _ _ (by omega)]) (fun j x a e y z => by unfold g_odraw; rw [g_up_n _ _ (by omega), g_up_n _ _ (by omega), g_up_n _ _ (by omega), g_up_n _ _ (by omega)]) (fun x a => by unfold g_odraw; rw [g_up_n _ _ (by omega), g_up_n _ _ (by omega), g_up_n _ _ (by omega), g_up_n _ _ (by omega)]) hb4 hb6 hpd hps hcap hcc hc hmo hn hsf).pre (by omega) hI0))
                · exact absurd c506 (by decide)
              · exact absurd c482 (by decide)
          · exact absurd c433 (by decide)
  · refine q_iconst hF dL_law_392 ?_
    refine q_goto hF dL_law_393 ?_
    refine q_istore hF (ls' := [(16, qI 1), (15, qI (1 + (v_1 : Int))), (14, qI wh), (13, qI 1), (12, .ref (ρ x0)), (11, qI (x0 : Int)), (10, .ref ah), (9, qI (c : Int)), (8, qI (dn : Int)), (7, .ref was), (6, .ref k), (5, .ref d), (4, .ref ta), (3, .ref b), (2, qI (ii : Int)), (1, qI 1), (0, .ref b0)]) (by decide) rfl dL_law_397 ?_
    refine q_aload hF 4 rfl dL_law_399 ?_
    have e4 : (u2 (u2 I d 0 ((d_nx x : Nat) : Int)) d 0 ((d_nx (d_nx x) : Nat) : Int)) (ρ x0) 4 = R 0 (1043 + 12 * x0) := ((u2_k _ _ (by decide)).trans ((u2_k _ _ (by decide)).trans hac.st))
    refine q_callV (kc := kc + 1) (ks := ks + 6) (mc' := 0) (ms' := 0) (h' := 0) (st := []) hF vl_RL_252 rfl [] rfl rfl hTa (by omega) (Nat.le_of_ble_eq_true rfl) dL_law_401 ?_
    refine mX8_isOpen1 hTa (by rw [e4]; exact hop) ?_
    refine q_ifeq hF (by decide) dL_law_404 (fun c404 => ?_) (fun c404 => ?_)
    · exact absurd c404 (by decide)
    · refine q_iload hF 0 rfl dL_law_407 ?_
      refine q_ifne hF (by decide) dL_law_409 (fun c409 => ?_) (fun c409 => ?_)
      · refine q_iconst hF dL_law_424 ?_
        refine q_goto hF dL_law_425 ?_
        refine q_istore hF (ls' := [(13, qI 1), (16, qI 1), (15, qI (1 + (v_1 : Int))), (14, qI wh), (12, .ref (ρ x0)), (11, qI (x0 : Int)), (10, .ref ah), (9, qI (c : Int)), (8, qI (dn : Int)), (7, .ref was), (6, .ref k), (5, .ref d), (4, .ref ta), (3, .ref b), (2, qI (ii : Int)), (1, qI 1), (0, .ref b0)]) (by decide) rfl dL_law_429 ?_
        refine q_iload hF 1 rfl dL_law_431 ?_
        refine q_ifeq hF (by decide) dL_law_433 (fun c433 => ?_) (fun c433 => ?_)
        · exact absurd c433 (by decide)
        · refine q_aload_n hF 13 rfl rfl dL_law_436 ?_
          refine q_iload hF 5 rfl dL_law_437 ?_
          refine q_iload hF 2 rfl dL_law_439 ?_
          have hE0 : q_CE T b bk tp B R (u2 (u2 I d 0 ((d_nx x : Nat) : Int)) d 0 ((d_nx (d_nx x) : Nat) : Int)) L P := hE.mv (fun _ _ _ => rfl) (fun q j a c => ((u2_a _ _ (by omega)).trans ((u2_a _ _ (by omega)).trans rfl))) (fun _ _ _ _ => rfl) (fun _ _ _ _ => rfl)
          have hI0 : ∀ q j, q ≠ d → (u2 (u2 I d 0 ((d_nx x : Nat) : Int)) d 0 ((d_nx (d_nx x) : Nat) : Int)) q j = I q j := fun q j hq => ((u2_a _ _ hq).trans ((u2_a _ _ hq).trans rfl))
          have hW0 : q_OW E T (u2 (u2 I d 0 ((d_nx x : Nat) : Int)) d 0 ((d_nx (d_nx x) : Nat) : Int)) L P k v n9 ρ w m σ (R 0) := hW.mv (fun _ z => z) (fun _ _ => rfl) (fun q j hq => hI0 q j (by have := hEr q hq; omega)) (fun _ _ _ => rfl) (fun _ _ _ => rfl)
          have hac0 := hW0.om.ac x0 hx0
          have hx2 : (u2 (u2 I d 0 ((d_nx x : Nat) : Int)) d 0 ((d_nx (d_nx x) : Nat) : Int)) d 0 = ((d_nx (d_nx x) : Nat) : Int) := (u2_s _ _ _ _)
          have hZ0 : q_F0 sz (u2 (u2 I d 0 ((d_nx x : Nat) : Int)) d 0 ((d_nx (d_nx x) : Nat) : Int)) L P := fun q j hq => ⟨(hI0 q j (by omega)).trans (hZ q j hq).1, (hZ q j hq).2⟩
          refine q_callSH (kc := kc) (ks := ks) (mc' := 1) (ms' := 6) (h' := 5) (st := []) hF sl_RL_351 rfl [.ref b, qI (x0 : Int), qI (1 + (v_1 : Int))] rfl rfl (by omega) (Nat.le_of_ble_eq_true rfl) dL_law_441 ?_
          refine a_deposit hA hE0 hil (by omega) ⟨hop, by omega⟩ (fun M N P9 c441_0 c441_1 => ?_)
          refine q_goto hF dL_law_444 ?_
          refine q_istore hF (ls' := [(17, qI (R 0 (1042 + 12 * x0) + (1 + (v_1 : Int)))), (13, qI 1), (16, qI 1), (15, qI (1 + (v_1 : Int))), (14, qI wh), (12, .ref (ρ x0)), (11, qI (x0 : Int)), (10, .ref ah), (9, qI (c : Int)), (8, qI (dn : Int)), (7, .ref was), (6, .ref k), (5, .ref d), (4, .ref ta), (3, .ref b), (2, qI (ii : Int)), (1, qI 1), (0, .ref b0)]) (by decide) rfl dL_law_455 ?_
          refine q_iload hF 1 rfl dL_law_457 ?_
          refine q_ifeq hF (by decide) dL_law_459 (fun c459 => ?_) (fun c459 => ?_)
          · exact absurd c459 (by decide)
          · refine q_aload hF 5 rfl dL_law_462 ?_
            refine q_iconst hF dL_law_464 ?_
            refine q_putI hF fl_RL_272 hTa (q_Ale hA (by omega)) dL_law_465 ?_
            refine q_aload hF 5 rfl dL_law_468 ?_
            refine q_iconst hF dL_law_470 ?_
            refine q_putI hF fl_RL_260 hTa (q_Ale hA (by omega)) dL_law_471 ?_
            refine q_aload hF 5 rfl dL_law_474 ?_
            refine q_dup hF rfl dL_law_476 ?_
            refine q_getLv hF (z := R 0 (1042 + 12 * x0)) fl_RL_227 hTa ((c441_1.2.1 _ _ (by omega)).trans hac0.ce) dL_law_477 ?_
            refine q_iload hF 2 rfl dL_law_480 ?_
            refine q_ifeq hF (by decide) dL_law_482 (fun c482 => ?_) (fun c482 => ?_)
            · exact absurd c482 (by decide)
            · refine q_iload hF 3 rfl dL_law_485 ?_
              refine q_i2l hF (by omega) dL_law_487 ?_
              refine q_goto hF dL_law_488 ?_
              refine q_ladd hF dL_law_495 ?_
              refine q_putL hF fl_RL_227 hTa (q_Ale hA (by omega)) dL_law_496 ?_
              refine q_aload hF 11 rfl dL_law_499 ?_
              refine q_getA hF fl_RL_235 rfl hO.t0 ((c441_1.2.2 _ _ (by omega)).trans hO.p12) dL_law_501 ?_
              refine q_iload hF 2 rfl dL_law_504 ?_
              refine q_ifeq hF (by decide) dL_law_506 (fun c506 => ?_) (fun c506 => ?_)
              · exact absurd c506 (by decide)
              · refine q_iconst hF dL_law_509 ?_
                refine q_goto hF dL_law_510 ?_
                refine q_dup2 hF rfl rfl dL_law_514 ?_
                refine q_laloadv hF (z := R 0 17) (n := 7) 0 hO.t17 rfl (by decide) (by decide) ((u2_k _ _ (by decide)).trans ((c441_1.2.1 _ _ (by omega)).trans (hM.b4 0 (by decide)))) dL_law_515 ?_
                refine q_iload hF 3 rfl dL_law_516 ?_
                refine q_i2l hF (by omega) dL_law_518 ?_
                refine q_ladd hF dL_law_519 ?_
                refine q_lastorev hF (n := 7) 0 hO.t17 (q_Ale hA (by omega)) rfl (by decide) (by decide) dL_law_520 ?_
                refine q_iload hF 0 rfl dL_law_521 ?_
                refine q_i2l hF (by omega) dL_law_523 ?_
                refine q_iload hF 1 rfl dL_law_524 ?_
                refine q_ifeq hF (by decide) dL_law_526 (fun c526 => ?_) (fun c526 => ?_)
                · exact absurd c526 (by decide)
                · refine q_aload hF 5 rfl dL_law_529 ?_
                  refine q_getLv hF (z := (R 0 (1042 + 12 * x0)) + (1 + (v_1 : Int))) fl_RL_227 hTa ((u2_k _ _ (by decide)).trans (u2_s _ _ _ _)) dL_law_531 ?_
                  refine q_goto hF dL_law_534 ?_
                  refine q_cmpne_s hF (a := R 0 (1042 + 12 * x0) + (1 + (v_1 : Int))) dL_law_540 dL_law_541 ?_
                  refine q_iconst hF dL_law_544 ?_
                  refine q_goto hF dL_law_545 ?_
                  refine q_istore_n hF (ls' := [(1, qI 1), (17, qI (R 0 (1042 + 12 * x0) + (1 + (v_1 : Int)))), (13, qI 1), (16, qI 1), (15, qI (1 + (v_1 : Int))), (14, qI wh), (12, .ref (ρ x0)), (11, qI (x0 : Int)), (10, .ref ah), (9, qI (c : Int)), (8, qI (dn : Int)), (7, .ref was), (6, .ref k), (5, .ref d), (4, .ref ta), (3, .ref b), (2, qI (ii : Int)), (0, .ref b0)]) rfl (by decide) rfl dL_law_549 ?_
                  refine q_goto hF dL_law_550 ?_
                  refine q_sub [2, 8, 9, 10, 11, 12, 13, 14, 15, 16, 0, 17] rfl ?_
                  have hb4 : ∀ x, x < 4 → (u2 (u2 N (ρ x0) 3 ((R 0 (1042 + 12 * x0)) + (1 + (v_1 : Int)))) (k + 17) 0 ((R 0 17) + (1 + (v_1 : Int)))) (k + 17) x = g_odeposit (R 0) x0 (1 + (v_1 : Int)) (17 + x) := fun x hx => by
                    rcases (show x = 0 ∨ x = 1 ∨ x = 2 ∨ x = 3 by omega) with rfl | rfl | rfl | rfl
                    · exact (((u2_s _ _ _ _)).trans ((show g_odeposit (R 0) x0 (1 + (v_1 : Int)) (17) = R 0 17 + (1 + (v_1 : Int)) by unfold g_odeposit; rw [g_up_s])).symm)
                    · exact ((((u2_k _ _ (by decide)).trans ((u2_k _ _ (by decide)).trans ((c441_1.2.1 _ _ (by omega)).trans (hM.b4 1 (by decide)))))).trans ((show g_odeposit (R 0) x0 (1 + (v_1 : Int)) (18) = R 0 (18) by unfold g_odeposit; rw [g_up_n _ _ (by omega), g_up_n _ _ (by omega), g_up_n _ _ (by omega), g_up_n _ _ (by omega)])).symm)
                    · exact ((((u2_k _ _ (by decide)).trans ((u2_k _ _ (by decide)).trans ((c441_1.2.1 _ _ (by omega)).trans (hM.b4 2 (by decide)))))).trans ((show g_odeposit (R 0) x0 (1 + (v_1 : Int)) (19) = R 0 (19) by unfold g_odeposit; rw [g_up_n _ _ (by omega), g_up_n _ _ (by omega), g_up_n _ _ (by omega), g_up_n _ _ (by omega)])).symm)
                    · exact ((((u2_k _ _ (by decide)).trans ((u2_a _ _ nk17.symm).trans ((c441_1.2.1 _ _ (by omega)).trans (hM.b4 3 (by decide)))))).trans ((show g_odeposit (R 0) x0 (1 + (v_1 : Int)) (20) = R 0 (20) by unfold g_odeposit; rw [g_up_n _ _ (by omega), g_up_n _ _ (by omega), g_up_n _ _ (by omega), g_up_n _ _ (by omega)])).symm)
                  have hb6 : (u2 (u2 N (ρ x0) 3 ((R 0 (1042 + 12 * x0)) + (1 + (v_1 : Int)))) (k + 17) 0 ((R 0 17) + (1 + (v_1 : Int)))) (k + 17) 6 = g_odeposit (R 0) x0 (1 + (v_1 : Int)) 23 := ((((u2_k _ _ (by decide)).trans ((u2_k _ _ (by decide)).trans ((c441_1.2.1 _ _ (by omega)).trans hM.b6)))).trans ((show g_odeposit (R 0) x0 (1 + (v_1 : Int)) (23) = R 0 (23) by unfold g_odeposit; rw [g_up_n _ _ (by omega), g_up_n _ _ (by omega), g_up_n _ _ (by omega), g_up_n _ _ (by omega)])).symm)
                  have hpd : ∀ l, l < 5 → (u2 (u2 N (ρ x0) 3 ((R 0 (1042 + 12 * x0)) + (1 + (v_1 : Int)))) (k + 17) 0 ((R 0 17) + (1 + (v_1 : Int)))) (k + 18) l = g_odeposit (R 0) x0 (1 + (v_1 : Int)) (35 + 13 * l) := fun l hl => (((u2_a _ _ (by omega)).trans ((u2_a _ _ nk18.symm).trans ((c441_1.2.1 _ _ (by omega)).trans (hM.pd l hl))))).trans (by unfold g_odeposit; rw [g_up_n _ _ (by omega), g_up_n _ _ (by omega), g_up_n _ _ (by omega), g_up_n _ _ (by omega)])
                  have hps : ∀ l, l < 5 → (u2 (u2 N (ρ x0) 3 ((R 0 (1042 + 12 * x0)) + (1 + (v_1 : Int)))) (k + 17) 0 ((R 0 17) + (1 + (v_1 : Int)))) (k + 19) l = g_odeposit (R 0) x0 (1 + (v_1 : Int)) (36 + 13 * l) := fun l hl => (((u2_a _ _ (by omega)).trans ((u2_a _ _ nk19.symm).trans ((c441_1.2.1 _ _ (by omega)).trans (hM.ps l hl))))).trans (by unfold g_odeposit; rw [g_up_n _ _ (by omega), g_up_n _ _ (by omega), g_up_n _ _ (by omega), g_up_n _ _ (by omega)])
                  have hcc : g_odeposit (R 0) x0 (1 + (v_1 : Int)) (1042 + 12 * x0) ≤ R 0 (1042 + 12 * x0) + 5000 := by
                    unfold g_odeposit
                    rw [g_up_n _ _ (by omega), g_up_s]
                    omega
                  exact qX.room (kc := kc) (ks := ks) (by omega) (by omega) (k0 _ _ _ _ _ _ _ _ _ (d_nx (d_nx x)) _ ((q_JW.act (i := x0) (I' := u2 (u2 M (ρ x0) 6 0) (ρ x0) 4 0) (L' := u2 (u2 N (ρ x0) 3 ((R 0 (1042 + 12 * x0)) + (1 + (v_1 : Int)))) (k + 17) 0 ((R 0 17) + (1 + (v_1 : Int)))) c441_0 c441_1 hW0 hEr (((u2_k _ _ (by decide)).trans ((u2_k _ _ (by decide)).trans ((c441_1.1 _ _ (by omega)).trans hx2)))) hTd hZ0 hTw hl9 hl3.2 hnm hLy hV0 hx0 (fun q j hq => ((u2_a _ _ hq).trans ((u2_a _ _ hq).trans rfl))) (fun q j h1 h2 h3 h4 => ((u2_a _ _ h2).trans ((u2_a _ _ h1).trans rfl))) ⟨((((u2_k _ _ (by decide)).trans ((u2_k _ _ (by decide)).trans ((c441_1.1 _ _ (by omega)).trans hac0.kd)))).trans ((show g_odeposit (R 0) x0 (1 + (v_1 : Int)) (1039 + 12 * x0) = R 0 (1039 + 12 * x0) by unfold g_odeposit; rw [g_up_n _ _ (by omega), g_up_n _ _ (by omega), g_up_n _ _ (by omega), g_up_n _ _ (by omega)])).symm), ((((u2_k _ _ (by decide)).trans ((u2_k _ _ (by decide)).trans ((c441_1.1 _ _ (by omega)).trans hac0.ad)))).trans ((show g_odeposit (R 0) x0 (1 + (v_1 : Int)) (1040 + 12 * x0) = R 0 (1040 + 12 * x0) by unfold g_odeposit; rw [g_up_n _ _ (by omega), g_up_n _ _ (by omega), g_up_n _ _ (by omega), g_up_n _ _ (by omega)])).symm), ((((u2_k _ _ (by decide)).trans ((u2_k _ _ (by decide)).trans ((c441_1.1 _ _ (by omega)).trans hac0.bi)))).trans ((show g_odeposit (R 0) x0 (1 + (v_1 : Int)) (1041 + 12 * x0) = R 0 (1041 + 12 * x0) by unfold g_odeposit; rw [g_up_n _ _ (by omega), g_up_n _ _ (by omega), g_up_n _ _ (by omega), g_up_n _ _ (by omega)])).symm), ((((u2_k _ _ (by decide)).trans (u2_s _ _ _ _))).trans ((show g_odeposit (R 0) x0 (1 + (v_1 : Int)) (1042 + 12 * x0) = R 0 (1042 + 12 * x0) + (1 + (v_1 : Int)) by unfold g_odeposit; rw [g_up_n _ _ (by omega), g_up_s])).symm), (((u2_s _ _ _ _)).trans ((show g_odeposit (R 0) x0 (1 + (v_1 : Int)) (1043 + 12 * x0) = 0 by unfold g_odeposit; rw [g_up_n _ _ (by omega), g_up_n _ _ (by omega), g_up_s])).symm), ((((u2_k _ _ (by decide)).trans ((u2_k _ _ (by decide)).trans ((c441_1.1 _ _ (by omega)).trans hac0.ag)))).trans ((show g_odeposit (R 0) x0 (1 + (v_1 : Int)) (1044 + 12 * x0) = R 0 (1044 + 12 * x0) by unfold g_odeposit; rw [g_up_n _ _ (by omega), g_up_n _ _ (by omega), g_up_n _ _ (by omega), g_up_n _ _ (by omega)])).symm), ((((u2_k _ _ (by decide)).trans (u2_s _ _ _ _))).trans ((show g_odeposit (R 0) x0 (1 + (v_1 : Int)) (1045 + 12 * x0) = 0 by unfold g_odeposit; rw [g_up_n _ _ (by omega), g_up_n _ _ (by omega), g_up_n _ _ (by omega), g_up_s])).symm), ((((u2_k _ _ (by decide)).trans ((u2_k _ _ (by decide)).trans ((c441_1.1 _ _ (by omega)).trans hac0.le)))).trans ((show g_odeposit (R 0) x0 (1 + (v_1 : Int)) (1046 + 12 * x0) = R 0 (1046 + 12 * x0) by unfold g_odeposit; rw [g_up_n _ _ (by omega), g_up_n _ _ (by omega), g_up_n _ _ (by omega), g_up_n _ _ (by omega)])).symm), ((((u2_k _ _ (by decide)).trans ((u2_k _ _ (by decide)).trans ((c441_1.1 _ _ (by omega)).trans hac0.ho)))).trans ((show g_odeposit (R 0) x0 (1 + (v_1 : Int)) (1047 + 12 * x0) = R 0 (1047 + 12 * x0) by unfold g_odeposit; rw [g_up_n _ _ (by omega), g_up_n _ _ (by omega), g_up_n _ _ (by omega), g_up_n _ _ (by omega)])).symm), ((((u2_k _ _ (by decide)).trans ((u2_k _ _ (by decide)).trans ((c441_1.1 _ _ (by omega)).trans hac0.la)))).trans ((show g_odeposit (R 0) x0 (1 + (v_1 : Int)) (1048 + 12 * x0) = R 0 (1048 + 12 * x0) by unfold g_odeposit; rw [g_up_n _ _ (by omega), g_up_n _ _ (by omega), g_up_n _ _ (by omega), g_up_n _ _ (by omega)])).symm), ((((u2_k _ _ (by decide)).trans ((u2_k _ _ (by decide)).trans ((c441_1.1 _ _ (by omega)).trans hac0.ha)))).trans ((show g_odeposit (R 0) x0 (1 + (v_1 : Int)) (1050 + 12 * x0) = R 0 (1050 + 12 * x0) by unfold g_odeposit; rw [g_up_n _ _ (by omega), g_up_n _ _ (by omega), g_up_n _ _ (by omega), g_up_n _ _ (by omega)])).symm), ((((u2_k _ _ (by decide)).trans ((u2_k _ _ (by decide)).trans ((c441_1.1 _ _ (by omega)).trans hac0.nl)))).trans ((show g_odeposit (R 0) x0 (1 + (v_1 : Int)) (1049 + 12 * x0) = R 0 (1049 + 12 * x0) by unfold g_odeposit; rw [g_up_n _ _ (by omega), g_up_n _ _ (by omega), g_up_n _ _ (by omega), g_up_n _ _ (by omega)])).symm)⟩ (fun x hx => by unfold g_rc at hx; unfold g_odeposit; rw [g_up_n _ _ (by omega), g_up_n _ _ (by omega), g_up_n _ _ (by omega), g_up_n _ _ (by omega)]) (by unfold g_odeposit; rw [g_up_n _ _ (by omega), g_up_n _ _ (by omega), g_up_n _ _ (by omega), g_up_n _ _ (by omega)]) (by unfold g_odeposit; rw [g_up_n _ _ (by omega), g_up_n _ _ (by omega), g_up_n _ _ (by omega), g_up_n _ _ (by omega)]) (by unfold g_odeposit; rw [g_up_n _ _ (by omega), g_up_n _ _ (by omega), g_up_n _ _ (by omega), g_up_n _ _ (by omega)]) (by unfold g_odeposit; rw [g_up_n _ _ (by omega), g_up_n _ _ (by omega), g_up_n _ _ (by omega), g_up_n _ _ (by omega)]) (fun j x a e y z => by unfold g_odeposit; rw [g_up_n _ _ (by omega), g_up_n _ _ (by omega), g_up_n _ _ (by omega), g_up_n _ _ (by omega)]) (fun x a => by unfold g_odeposit; rw [g_up_n _ _ (by omega), g_up_n _ _ (by omega), g_up_n _ _ (by omega), g_up_n _ _ (by omega)]) hb4 hb6 hpd hps hcap hcc hc hmo hn hsf).pre (by omega) hI0))
      · exact absurd c409 (by decide)

set_option maxRecDepth 100000 in
theorem lL_sum0 {G : q_G} {F : q_F} {h : Nat} {Q : q_Q} {kc ks sz : Nat} {T : q_T} {I L : q_I} {P : q_P} {b d a0 was l9 tp bk k n9 c v w m x x0 ah dn ta ii b0 : Nat} {wh : Int} {B : Nat → Int} {R : Nat → Nat → Int} {E : Nat → Prop} {ρ σ : Nat → Nat}  (hF : q_ok G F YL_law h) (h9 : 30 ≤ h) (hA : q_A G b) (hE : q_CE T b bk tp B R I L P) (hW : q_OW E T I L P k v n9 ρ w m σ (R 0)) (hEr : ∀ q, E q → a0 ≤ q ∧ q < sz ∧ q ≠ was) (hx : I d 0 = (x : Int)) (hTd : T d = some (.inl 8)) (hZ : q_F0 sz I L P) (hTw : T was = some (.inr (9, 16))) (hl9 : R 0 0 = (l9 : Int)) (hl3 : 1 ≤ l9 ∧ l9 ≤ 3) (hnm : e_nms (R 0) l9) (hLy : b + 452 ≤ d ∧ d < a0 ∧ a0 ≤ sz) (hx0 : x0 < n9) (hcap : q_Cap (R 0) (5000 * (11 - (c : Int)))) (hc : c < 11) (hmo : R 0 2 ≤ 30 * (c : Int)) (hn : n9 ≤ 12) (hws : was < sz) (hsf : d_safe (10 - c) (12 - n9) (d_nx (d_nx x)) = true) (hop : ¬ (R 0 (1043 + 12 * x0) = 0 ∨ R 0 (1043 + 12 * x0) = 1)) (k0 : ∀ (T' : q_T) (I' L' : q_I) (P' : q_P) (sz' bk' : Nat) (R' : Nat → Nat → Int) (n' : Nat) (ρ' : Nat → Nat) (x' : Nat) (is : Int), q_PA b d a0 was l9 tp B T I L P sz bk R k n9 ρ c T' I' L' P' sz' bk' R' n' ρ' x' is → qX G F Q kc ks 919 [(13, qI is), (10, .ref ah), (9, qI (c : Int)), (8, qI (dn : Int)), (7, .ref was), (6, .ref k), (5, .ref d), (4, .ref ta), (3, .ref b), (2, qI (ii : Int)), (1, qI 1), (0, .ref b0)] [] sz' T' I' L' P') : qX G F Q (kc + 1) (ks + 6) 371 [(14, qI wh), (13, qI 1), (12, .ref (ρ x0)), (11, qI (x0 : Int)), (10, .ref ah), (9, qI (c : Int)), (8, qI (dn : Int)), (7, .ref was), (6, .ref k), (5, .ref d), (4, .ref ta), (3, .ref b), (2, qI (ii : Int)), (1, qI 1), (0, .ref b0)] [] sz T I L P := by
  have hO := hW.ot
  have hM := hW.om
  have hRk := hW.rr
  have hro := hE.ro 0 (Nat.zero_le _)
  have hV0 := hro.1.1
  have hV0l := hV0.lands
  have hV0m := hV0.month
  have hil : (x0 : Int) < R 0 1 := by have := hM.nn; omega
  have hVA := hro.1.2.1 x0 hil
  rw [if_neg (Nat.not_lt_zero x0)] at hVA
  have hTa := hM.ta x0 hx0
  have hac := hM.ac x0 hx0
  have hst4 : I (ρ x0) 4 = R 0 (1043 + 12 * x0) := hac.st
  have hρ := hEr _ (hM.ea x0 hx0)
  have hk0 := hEr k (hW.ek k (Nat.le_refl _) (by omega))
  have hk17 := hEr (k + 17) (hW.ek (k + 17) (by omega) (by omega))
  have hk18 := hEr (k + 18) (hW.ek (k + 18) (by omega) (by omega))
  have hk19 := hEr (k + 19) (hW.ek (k + 19) (by omega) (by omega))
  have nk : ρ x0 ≠ k := fun e => q_Tne hO.t0 hTa (by intro z; cases z) e.symm
  have nk17 : ρ x0 ≠ k + 17 := fun e => q_Tne hO.t17 hTa (by intro z; cases z) e.symm
  have nk18 : ρ x0 ≠ k + 18 := fun e => q_Tne hO.t18 hTa (by intro z; cases z) e.symm
  have nk19 : ρ x0 ≠ k + 19 := fun e => q_Tne hO.t19 hTa (by intro z; cases z) e.symm
  have f1 := hVA.state
  have f2 := hVA.cents
  have f3 := hVA.nl
  have f4 := hVA.holder
  have f5 := hVA.hh
  have f6 := hVA.addr
  have f7 := hVA.since
  have hcx : R 0 (1042 + 12 * x0) + 5000 ≤ 100000000 := by
    have h1 := hcap x0 hil
    have h2 := g_cap_le (u := (R 0 2).toNat) (v := 330) (by omega)
    have h3 := g_cap_330
    omega
  refine q_iconst hF dL_law_371 ?_
  refine q_aload hF 9 rfl dL_law_372 ?_
  refine q_sipush hF (n := 5000) rfl dL_law_374 ?_
  refine q_callV (kc := kc + 1) (ks := ks + 6) (mc' := 0) (ms' := 0) (h' := 0) (st := [qI 1]) hF vl_RL_145 rfl [qI 5000] rfl rfl hTd (by omega) (Nat.le_of_ble_eq_true rfl) dL_law_377 ?_
  refine mX9_of (m := 5000) hTd (q_Ale hA (by omega)) (x := x) hx (by omega) (fun v_1 c377_0_1 c377_1_1 => ?_)
  refine q_iadd hF dL_law_380 ?_
  refine q_istore hF (ls' := [(15, qI (1 + (v_1 : Int))), (14, qI wh), (13, qI 1), (12, .ref (ρ x0)), (11, qI (x0 : Int)), (10, .ref ah), (9, qI (c : Int)), (8, qI (dn : Int)), (7, .ref was), (6, .ref k), (5, .ref d), (4, .ref ta), (3, .ref b), (2, qI (ii : Int)), (1, qI 1), (0, .ref b0)]) (by decide) rfl dL_law_381 ?_
  refine q_aload hF 10 rfl dL_law_383 ?_
  refine q_iconst hF dL_law_385 ?_
  refine q_callV (kc := kc + 1) (ks := ks + 6) (mc' := 0) (ms' := 0) (h' := 0) (st := []) hF vl_RL_145 rfl [qI 2] rfl rfl hTd (by omega) (Nat.le_of_ble_eq_true rfl) dL_law_386 ?_
  refine mX9_of (m := 2) hTd (q_Ale hA (by omega)) (x := d_nx x) (u2_s _ _ _ _) (by omega) (fun v_2 c386_0_2 c386_1_2 => ?_)
  refine q_ifne hF (by omega) dL_law_389 (fun c389 => ?_) (fun c389 => ?_)
  · refine q_iconst hF dL_law_396 ?_
    refine q_istore hF (ls' := [(16, qI 0), (15, qI (1 + (v_1 : Int))), (14, qI wh), (13, qI 1), (12, .ref (ρ x0)), (11, qI (x0 : Int)), (10, .ref ah), (9, qI (c : Int)), (8, qI (dn : Int)), (7, .ref was), (6, .ref k), (5, .ref d), (4, .ref ta), (3, .ref b), (2, qI (ii : Int)), (1, qI 1), (0, .ref b0)]) (by decide) rfl dL_law_397 ?_
    refine q_aload hF 4 rfl dL_law_399 ?_
    have e4 : (u2 (u2 I d 0 ((d_nx x : Nat) : Int)) d 0 ((d_nx (d_nx x) : Nat) : Int)) (ρ x0) 4 = R 0 (1043 + 12 * x0) := ((u2_k _ _ (by decide)).trans ((u2_k _ _ (by decide)).trans hac.st))
    refine q_callV (kc := kc + 1) (ks := ks + 6) (mc' := 0) (ms' := 0) (h' := 0) (st := []) hF vl_RL_252 rfl [] rfl rfl hTa (by omega) (Nat.le_of_ble_eq_true rfl) dL_law_401 ?_
    refine mX8_isOpen0 hTa (by rw [e4]; exact f1) (by rw [e4]; exact hop) ?_
    refine q_ifeq hF (by decide) dL_law_404 (fun c404 => ?_) (fun c404 => ?_)
    · refine q_iconst hF dL_law_428 ?_
      refine q_istore hF (ls' := [(13, qI 0), (16, qI 0), (15, qI (1 + (v_1 : Int))), (14, qI wh), (12, .ref (ρ x0)), (11, qI (x0 : Int)), (10, .ref ah), (9, qI (c : Int)), (8, qI (dn : Int)), (7, .ref was), (6, .ref k), (5, .ref d), (4, .ref ta), (3, .ref b), (2, qI (ii : Int)), (1, qI 1), (0, .ref b0)]) (by decide) rfl dL_law_429 ?_
      refine q_iload hF 1 rfl dL_law_431 ?_
      refine q_ifeq hF (by decide) dL_law_433 (fun c433 => ?_) (fun c433 => ?_)
      · refine q_aload_n hF 13 rfl rfl dL_law_447 ?_
        refine q_iload hF 5 rfl dL_law_448 ?_
        refine q_iload hF 2 rfl dL_law_450 ?_
        have hE0 : q_CE T b bk tp B R (u2 (u2 I d 0 ((d_nx x : Nat) : Int)) d 0 ((d_nx (d_nx x) : Nat) : Int)) L P := hE.mv (fun _ _ _ => rfl) (fun q j a c => ((u2_a _ _ (by omega)).trans ((u2_a _ _ (by omega)).trans rfl))) (fun _ _ _ _ => rfl) (fun _ _ _ _ => rfl)
        have hI0 : ∀ q j, q ≠ d → (u2 (u2 I d 0 ((d_nx x : Nat) : Int)) d 0 ((d_nx (d_nx x) : Nat) : Int)) q j = I q j := fun q j hq => ((u2_a _ _ hq).trans ((u2_a _ _ hq).trans rfl))
        have hW0 : q_OW E T (u2 (u2 I d 0 ((d_nx x : Nat) : Int)) d 0 ((d_nx (d_nx x) : Nat) : Int)) L P k v n9 ρ w m σ (R 0) := hW.mv (fun _ z => z) (fun _ _ => rfl) (fun q j hq => hI0 q j (by have := hEr q hq; omega)) (fun _ _ _ => rfl) (fun _ _ _ => rfl)
        have hac0 := hW0.om.ac x0 hx0
        have hx2 : (u2 (u2 I d 0 ((d_nx x : Nat) : Int)) d 0 ((d_nx (d_nx x) : Nat) : Int)) d 0 = ((d_nx (d_nx x) : Nat) : Int) := (u2_s _ _ _ _)
        have hZ0 : q_F0 sz (u2 (u2 I d 0 ((d_nx x : Nat) : Int)) d 0 ((d_nx (d_nx x) : Nat) : Int)) L P := fun q j hq => ⟨(hI0 q j (by omega)).trans (hZ q j hq).1, (hZ q j hq).2⟩
        refine q_callSH (kc := kc) (ks := ks) (mc' := 1) (ms' := 6) (h' := 5) (st := []) hF sl_RL_353 rfl [.ref b, qI (x0 : Int), qI (1 + (v_1 : Int))] rfl rfl (by omega) (Nat.le_of_ble_eq_true rfl) dL_law_452 ?_
        refine a_draw2 hA hE0 hil (by omega) (fun z => hop z.1) (fun sz9 I9' c452_0 c452_1 c452_2 => ?_)
        refine q_istore hF (ls' := [(17, qI (-2000000099)), (13, qI 0), (16, qI 0), (15, qI (1 + (v_1 : Int))), (14, qI wh), (12, .ref (ρ x0)), (11, qI (x0 : Int)), (10, .ref ah), (9, qI (c : Int)), (8, qI (dn : Int)), (7, .ref was), (6, .ref k), (5, .ref d), (4, .ref ta), (3, .ref b), (2, qI (ii : Int)), (1, qI 1), (0, .ref b0)]) (by decide) rfl dL_law_455 ?_
        refine q_iload hF 1 rfl dL_law_457 ?_
        refine q_ifeq hF (by decide) dL_law_459 (fun c459 => ?_) (fun c459 => ?_)
        · refine q_iload hF 0 rfl dL_law_521 ?_
          refine q_i2l hF (by decide) dL_law_523 ?_
          refine q_iload hF 1 rfl dL_law_524 ?_
          refine q_ifeq hF (by decide) dL_law_526 (fun c526 => ?_) (fun c526 => ?_)
          · refine q_ldc2 hF (n := -2000000099) (q_mem 954 (by decide +kernel) rfl) dL_law_537 ?_
            refine q_cmpne_s hF (a := -2000000099) dL_law_540 dL_law_541 ?_
            refine q_iconst hF dL_law_544 ?_
            refine q_goto hF dL_law_545 ?_
            refine q_istore_n hF (ls' := [(1, qI 1), (17, qI (-2000000099)), (13, qI 0), (16, qI 0), (15, qI (1 + (v_1 : Int))), (14, qI wh), (12, .ref (ρ x0)), (11, qI (x0 : Int)), (10, .ref ah), (9, qI (c : Int)), (8, qI (dn : Int)), (7, .ref was), (6, .ref k), (5, .ref d), (4, .ref ta), (3, .ref b), (2, qI (ii : Int)), (0, .ref b0)]) rfl (by decide) rfl dL_law_549 ?_
            refine q_goto hF dL_law_550 ?_
            refine q_sub [2, 8, 9, 10, 11, 12, 13, 14, 15, 16, 0, 17] rfl ?_
            refine qX.room (kc := kc) (ks := ks) (by omega) (by omega) (k0 _ _ _ _ _ _ _ _ _ (d_nx (d_nx x)) _ ((q_JW.ref c452_1 hW0 hEr ((c452_2.1 _ _ (by omega)).trans hx2) hTd hZ0 hTw hl9 hnm hLy c452_0 (fun q j a e => c452_2.1 q j a) hcap hc hmo hn hsf).pre (by omega) hI0))
          · exact absurd c526 (by decide)
        · exact absurd c459 (by decide)
      · exact absurd c433 (by decide)
    · exact absurd c404 (by decide)
  · refine q_iconst hF dL_law_392 ?_
    refine q_goto hF dL_law_393 ?_
    refine q_istore hF (ls' := [(16, qI 1), (15, qI (1 + (v_1 : Int))), (14, qI wh), (13, qI 1), (12, .ref (ρ x0)), (11, qI (x0 : Int)), (10, .ref ah), (9, qI (c : Int)), (8, qI (dn : Int)), (7, .ref was), (6, .ref k), (5, .ref d), (4, .ref ta), (3, .ref b), (2, qI (ii : Int)), (1, qI 1), (0, .ref b0)]) (by decide) rfl dL_law_397 ?_
    refine q_aload hF 4 rfl dL_law_399 ?_
    have e4 : (u2 (u2 I d 0 ((d_nx x : Nat) : Int)) d 0 ((d_nx (d_nx x) : Nat) : Int)) (ρ x0) 4 = R 0 (1043 + 12 * x0) := ((u2_k _ _ (by decide)).trans ((u2_k _ _ (by decide)).trans hac.st))
    refine q_callV (kc := kc + 1) (ks := ks + 6) (mc' := 0) (ms' := 0) (h' := 0) (st := []) hF vl_RL_252 rfl [] rfl rfl hTa (by omega) (Nat.le_of_ble_eq_true rfl) dL_law_401 ?_
    refine mX8_isOpen0 hTa (by rw [e4]; exact f1) (by rw [e4]; exact hop) ?_
    refine q_ifeq hF (by decide) dL_law_404 (fun c404 => ?_) (fun c404 => ?_)
    · refine q_iconst hF dL_law_428 ?_
      refine q_istore hF (ls' := [(13, qI 0), (16, qI 1), (15, qI (1 + (v_1 : Int))), (14, qI wh), (12, .ref (ρ x0)), (11, qI (x0 : Int)), (10, .ref ah), (9, qI (c : Int)), (8, qI (dn : Int)), (7, .ref was), (6, .ref k), (5, .ref d), (4, .ref ta), (3, .ref b), (2, qI (ii : Int)), (1, qI 1), (0, .ref b0)]) (by decide) rfl dL_law_429 ?_
      refine q_iload hF 1 rfl dL_law_431 ?_
      refine q_ifeq hF (by decide) dL_law_433 (fun c433 => ?_) (fun c433 => ?_)
      · exact absurd c433 (by decide)
      · refine q_aload_n hF 13 rfl rfl dL_law_436 ?_
        refine q_iload hF 5 rfl dL_law_437 ?_
        refine q_iload hF 2 rfl dL_law_439 ?_
        have hE0 : q_CE T b bk tp B R (u2 (u2 I d 0 ((d_nx x : Nat) : Int)) d 0 ((d_nx (d_nx x) : Nat) : Int)) L P := hE.mv (fun _ _ _ => rfl) (fun q j a c => ((u2_a _ _ (by omega)).trans ((u2_a _ _ (by omega)).trans rfl))) (fun _ _ _ _ => rfl) (fun _ _ _ _ => rfl)
        have hI0 : ∀ q j, q ≠ d → (u2 (u2 I d 0 ((d_nx x : Nat) : Int)) d 0 ((d_nx (d_nx x) : Nat) : Int)) q j = I q j := fun q j hq => ((u2_a _ _ hq).trans ((u2_a _ _ hq).trans rfl))
        have hW0 : q_OW E T (u2 (u2 I d 0 ((d_nx x : Nat) : Int)) d 0 ((d_nx (d_nx x) : Nat) : Int)) L P k v n9 ρ w m σ (R 0) := hW.mv (fun _ z => z) (fun _ _ => rfl) (fun q j hq => hI0 q j (by have := hEr q hq; omega)) (fun _ _ _ => rfl) (fun _ _ _ => rfl)
        have hac0 := hW0.om.ac x0 hx0
        have hx2 : (u2 (u2 I d 0 ((d_nx x : Nat) : Int)) d 0 ((d_nx (d_nx x) : Nat) : Int)) d 0 = ((d_nx (d_nx x) : Nat) : Int) := (u2_s _ _ _ _)
        have hZ0 : q_F0 sz (u2 (u2 I d 0 ((d_nx x : Nat) : Int)) d 0 ((d_nx (d_nx x) : Nat) : Int)) L P := fun q j hq => ⟨(hI0 q j (by omega)).trans (hZ q j hq).1, (hZ q j hq).2⟩
        refine q_callSH (kc := kc) (ks := ks) (mc' := 1) (ms' := 6) (h' := 5) (st := []) hF sl_RL_351 rfl [.ref b, qI (x0 : Int), qI (1 + (v_1 : Int))] rfl rfl (by omega) (Nat.le_of_ble_eq_true rfl) dL_law_441 ?_
        refine a_deposit2 hA hE0 hil (by omega) (fun z => hop z.1) (fun sz9 I9' c441_0 c441_1 c441_2 => ?_)
        refine q_goto hF dL_law_444 ?_
        refine q_istore hF (ls' := [(17, qI (-2000000099)), (13, qI 0), (16, qI 1), (15, qI (1 + (v_1 : Int))), (14, qI wh), (12, .ref (ρ x0)), (11, qI (x0 : Int)), (10, .ref ah), (9, qI (c : Int)), (8, qI (dn : Int)), (7, .ref was), (6, .ref k), (5, .ref d), (4, .ref ta), (3, .ref b), (2, qI (ii : Int)), (1, qI 1), (0, .ref b0)]) (by decide) rfl dL_law_455 ?_
        refine q_iload hF 1 rfl dL_law_457 ?_
        refine q_ifeq hF (by decide) dL_law_459 (fun c459 => ?_) (fun c459 => ?_)
        · refine q_iload hF 0 rfl dL_law_521 ?_
          refine q_i2l hF (by decide) dL_law_523 ?_
          refine q_iload hF 1 rfl dL_law_524 ?_
          refine q_ifeq hF (by decide) dL_law_526 (fun c526 => ?_) (fun c526 => ?_)
          · refine q_ldc2 hF (n := -2000000099) (q_mem 954 (by decide +kernel) rfl) dL_law_537 ?_
            refine q_cmpne_s hF (a := -2000000099) dL_law_540 dL_law_541 ?_
            refine q_iconst hF dL_law_544 ?_
            refine q_goto hF dL_law_545 ?_
            refine q_istore_n hF (ls' := [(1, qI 1), (17, qI (-2000000099)), (13, qI 0), (16, qI 1), (15, qI (1 + (v_1 : Int))), (14, qI wh), (12, .ref (ρ x0)), (11, qI (x0 : Int)), (10, .ref ah), (9, qI (c : Int)), (8, qI (dn : Int)), (7, .ref was), (6, .ref k), (5, .ref d), (4, .ref ta), (3, .ref b), (2, qI (ii : Int)), (0, .ref b0)]) rfl (by decide) rfl dL_law_549 ?_
            refine q_goto hF dL_law_550 ?_
            refine q_sub [2, 8, 9, 10, 11, 12, 13, 14, 15, 16, 0, 17] rfl ?_
            refine qX.room (kc := kc) (ks := ks) (by omega) (by omega) (k0 _ _ _ _ _ _ _ _ _ (d_nx (d_nx x)) _ ((q_JW.ref c441_1 hW0 hEr ((c441_2.1 _ _ (by omega)).trans hx2) hTd hZ0 hTw hl9 hnm hLy c441_0 (fun q j a e => c441_2.1 q j a) hcap hc hmo hn hsf).pre (by omega) hI0))
          · exact absurd c526 (by decide)
        · exact absurd c459 (by decide)
    · exact absurd c404 (by decide)

set_option maxRecDepth 100000 in
theorem lL_addr {G : q_G} {F : q_F} {h : Nat} {Q : q_Q} {kc ks sz : Nat} {T : q_T} {I L : q_I} {P : q_P} {b d a0 was l9 tp bk k n9 c v w m x x0 ah dn ta ii b0 : Nat} {wh : Int} {B : Nat → Int} {R : Nat → Nat → Int} {E : Nat → Prop} {ρ σ : Nat → Nat}  (hF : q_ok G F YL_law h) (h9 : 30 ≤ h) (hA : q_A G b) (hE : q_CE T b bk tp B R I L P) (hW : q_OW E T I L P k v n9 ρ w m σ (R 0)) (hEr : ∀ q, E q → a0 ≤ q ∧ q < sz ∧ q ≠ was) (hx : I d 0 = (x : Int)) (hTd : T d = some (.inl 8)) (hZ : q_F0 sz I L P) (hTw : T was = some (.inr (9, 16))) (hl9 : R 0 0 = (l9 : Int)) (hl3 : 1 ≤ l9 ∧ l9 ≤ 3) (hnm : e_nms (R 0) l9) (hLy : b + 452 ≤ d ∧ d < a0 ∧ a0 ≤ sz) (hx0 : x0 < n9) (hcap : q_Cap (R 0) (5000 * (11 - (c : Int)))) (hc : c < 11) (hmo : R 0 2 ≤ 30 * (c : Int)) (hn : n9 ≤ 12) (hws : was < sz) (hsf : d_safe (10 - c) (12 - n9) (d_nx x) = true) (k0 : ∀ (T' : q_T) (I' L' : q_I) (P' : q_P) (sz' bk' : Nat) (R' : Nat → Nat → Int) (n' : Nat) (ρ' : Nat → Nat) (x' : Nat) (is : Int), q_PA b d a0 was l9 tp B T I L P sz bk R k n9 ρ c T' I' L' P' sz' bk' R' n' ρ' x' is → qX G F Q kc ks 919 [(13, qI is), (10, .ref ah), (9, qI (c : Int)), (8, qI (dn : Int)), (7, .ref was), (6, .ref k), (5, .ref d), (4, .ref ta), (3, .ref b), (2, qI (ii : Int)), (1, qI 1), (0, .ref b0)] [] sz' T' I' L' P') : qX G F Q (kc + 1) (ks + 6) 560 [(14, qI wh), (13, qI 1), (12, .ref (ρ x0)), (11, qI (x0 : Int)), (10, .ref ah), (9, qI (c : Int)), (8, qI (dn : Int)), (7, .ref was), (6, .ref k), (5, .ref d), (4, .ref ta), (3, .ref b), (2, qI (ii : Int)), (1, qI 1), (0, .ref b0)] [] sz T I L P := by
  have hO := hW.ot
  have hM := hW.om
  have hRk := hW.rr
  have hro := hE.ro 0 (Nat.zero_le _)
  have hV0 := hro.1.1
  have hV0l := hV0.lands
  have hV0m := hV0.month
  have hil : (x0 : Int) < R 0 1 := by have := hM.nn; omega
  have hVA := hro.1.2.1 x0 hil
  rw [if_neg (Nat.not_lt_zero x0)] at hVA
  have hTa := hM.ta x0 hx0
  have hac := hM.ac x0 hx0
  have hst4 : I (ρ x0) 4 = R 0 (1043 + 12 * x0) := hac.st
  have hρ := hEr _ (hM.ea x0 hx0)
  have hk0 := hEr k (hW.ek k (Nat.le_refl _) (by omega))
  have hk17 := hEr (k + 17) (hW.ek (k + 17) (by omega) (by omega))
  have hk18 := hEr (k + 18) (hW.ek (k + 18) (by omega) (by omega))
  have hk19 := hEr (k + 19) (hW.ek (k + 19) (by omega) (by omega))
  have nk : ρ x0 ≠ k := fun e => q_Tne hO.t0 hTa (by intro z; cases z) e.symm
  have nk17 : ρ x0 ≠ k + 17 := fun e => q_Tne hO.t17 hTa (by intro z; cases z) e.symm
  have nk18 : ρ x0 ≠ k + 18 := fun e => q_Tne hO.t18 hTa (by intro z; cases z) e.symm
  have nk19 : ρ x0 ≠ k + 19 := fun e => q_Tne hO.t19 hTa (by intro z; cases z) e.symm
  have f1 := hVA.state
  have f2 := hVA.cents
  have f3 := hVA.nl
  have f4 := hVA.holder
  have f5 := hVA.hh
  have f6 := hVA.addr
  have f7 := hVA.since
  have hcx : R 0 (1042 + 12 * x0) + 5000 ≤ 100000000 := by
    have h1 := hcap x0 hil
    have h2 := g_cap_le (u := (R 0 2).toNat) (v := 330) (by omega)
    have h3 := g_cap_330
    omega
  obtain ⟨l1, hl1, hl2⟩ : ∃ l1 : Nat, (l9 : Int) + 1 = (l1 : Int) ∧ l1 = l9 + 1 := ⟨l9 + 1, by omega, rfl⟩
  refine q_aload hF 9 rfl dL_law_560 ?_
  refine q_aload hF 8 rfl dL_law_562 ?_
  refine q_getIv hF (z := (l9 : Int)) fl_RL_150 hO.t0 (hRk.ln.trans hl9) dL_law_564 ?_
  refine q_iconst hF dL_law_567 ?_
  refine q_iadd hF dL_law_568 ?_
  rw [hl1]
  refine q_callV (kc := kc + 1) (ks := ks + 6) (mc' := 0) (ms' := 0) (h' := 0) (st := []) hF vl_RL_145 rfl [qI (l1 : Int)] rfl rfl hTd (by omega) (Nat.le_of_ble_eq_true rfl) dL_law_569 ?_
  refine mX9_of (m := l1) hTd (q_Ale hA (by omega)) (x := x) hx (by omega) (fun v_1 c569_0_1 c569_1_1 => ?_)
  refine q_iconst hF dL_law_572 ?_
  refine q_isub hF dL_law_573 ?_
  refine q_istore hF (ls' := [(15, qI ((v_1 : Int) - 1)), (14, qI wh), (13, qI 1), (12, .ref (ρ x0)), (11, qI (x0 : Int)), (10, .ref ah), (9, qI (c : Int)), (8, qI (dn : Int)), (7, .ref was), (6, .ref k), (5, .ref d), (4, .ref ta), (3, .ref b), (2, qI (ii : Int)), (1, qI 1), (0, .ref b0)]) (by decide) rfl dL_law_574 ?_
  refine q_aload_n hF 12 rfl rfl dL_law_576 ?_
  refine q_iload hF 4 rfl dL_law_577 ?_
  refine q_iload hF 0 rfl dL_law_579 ?_
  have hE0 : q_CE T b bk tp B R (u2 I d 0 ((d_nx x : Nat) : Int)) L P := hE.mv (fun _ _ _ => rfl) (fun q j a c => ((u2_a _ _ (by omega)).trans rfl)) (fun _ _ _ _ => rfl) (fun _ _ _ _ => rfl)
  have hI0 : ∀ q j, q ≠ d → (u2 I d 0 ((d_nx x : Nat) : Int)) q j = I q j := fun q j hq => ((u2_a _ _ hq).trans rfl)
  have hW0 : q_OW E T (u2 I d 0 ((d_nx x : Nat) : Int)) L P k v n9 ρ w m σ (R 0) := hW.mv (fun _ z => z) (fun _ _ => rfl) (fun q j hq => hI0 q j (by have := hEr q hq; omega)) (fun _ _ _ => rfl) (fun _ _ _ => rfl)
  have hac0 := hW0.om.ac x0 hx0
  have hx2 : (u2 I d 0 ((d_nx x : Nat) : Int)) d 0 = ((d_nx x : Nat) : Int) := (u2_s _ _ _ _)
  have hZ0 : q_F0 sz (u2 I d 0 ((d_nx x : Nat) : Int)) L P := fun q j hq => ⟨(hI0 q j (by omega)).trans (hZ q j hq).1, (hZ q j hq).2⟩
  refine q_callSH (kc := kc) (ks := ks) (mc' := 1) (ms' := 6) (h' := 5) (st := []) hF sl_RL_355 rfl [.ref b, qI (x0 : Int), qI ((v_1 : Int) - 1)] rfl rfl (by omega) (Nat.le_of_ble_eq_true rfl) dL_law_581 ?_
  refine a_address hA hE0 hil (by omega) (fun M N P9 c581_0 c581_1 => ?_)
  refine q_aload hF 3 rfl dL_law_584 ?_
  refine q_getIv hF (z := R 0 (1040 + 12 * x0)) fl_RL_220 hTa ((c581_1.1 _ _ (by omega)).trans hac0.ad) dL_law_586 ?_
  refine q_icmpne_s hF (a := R 0 (1040 + 12 * x0)) dL_law_589 ?_
  refine q_iconst hF dL_law_592 ?_
  refine q_goto hF dL_law_593 ?_
  refine q_istore_n hF (ls' := [(1, qI 1), (15, qI ((v_1 : Int) - 1)), (14, qI wh), (13, qI 1), (12, .ref (ρ x0)), (11, qI (x0 : Int)), (10, .ref ah), (9, qI (c : Int)), (8, qI (dn : Int)), (7, .ref was), (6, .ref k), (5, .ref d), (4, .ref ta), (3, .ref b), (2, qI (ii : Int)), (0, .ref b0)]) rfl (by decide) rfl dL_law_597 ?_
  refine q_aload hF 4 rfl dL_law_598 ?_
  refine q_iload hF 1 rfl dL_law_600 ?_
  refine q_putI hF fl_RL_220 hTa (q_Ale hA (by omega)) dL_law_602 ?_
  refine q_goto hF dL_law_605 ?_
  refine q_sub [3, 6, 7, 8, 9, 10, 11, 12, 13, 14, 0, 15] rfl ?_
  have hb4 : ∀ x, x < 4 → (N) (k + 17) x = g_oaddress (R 0) x0 ((v_1 : Int) - 1) (17 + x) := fun x hx => by
    rcases (show x = 0 ∨ x = 1 ∨ x = 2 ∨ x = 3 by omega) with rfl | rfl | rfl | rfl
    · exact ((((c581_1.2.1 _ _ (by omega)).trans (hM.b4 0 (by decide)))).trans ((show g_oaddress (R 0) x0 ((v_1 : Int) - 1) (17) = R 0 (17) by unfold g_oaddress; rw [g_up_n _ _ (by omega)])).symm)
    · exact ((((c581_1.2.1 _ _ (by omega)).trans (hM.b4 1 (by decide)))).trans ((show g_oaddress (R 0) x0 ((v_1 : Int) - 1) (18) = R 0 (18) by unfold g_oaddress; rw [g_up_n _ _ (by omega)])).symm)
    · exact ((((c581_1.2.1 _ _ (by omega)).trans (hM.b4 2 (by decide)))).trans ((show g_oaddress (R 0) x0 ((v_1 : Int) - 1) (19) = R 0 (19) by unfold g_oaddress; rw [g_up_n _ _ (by omega)])).symm)
    · exact ((((c581_1.2.1 _ _ (by omega)).trans (hM.b4 3 (by decide)))).trans ((show g_oaddress (R 0) x0 ((v_1 : Int) - 1) (20) = R 0 (20) by unfold g_oaddress; rw [g_up_n _ _ (by omega)])).symm)
  have hb6 : (N) (k + 17) 6 = g_oaddress (R 0) x0 ((v_1 : Int) - 1) 23 := ((((c581_1.2.1 _ _ (by omega)).trans hM.b6)).trans ((show g_oaddress (R 0) x0 ((v_1 : Int) - 1) (23) = R 0 (23) by unfold g_oaddress; rw [g_up_n _ _ (by omega)])).symm)
  have hpd : ∀ l, l < 5 → (N) (k + 18) l = g_oaddress (R 0) x0 ((v_1 : Int) - 1) (35 + 13 * l) := fun l hl => (((c581_1.2.1 _ _ (by omega)).trans (hM.pd l hl))).trans (by unfold g_oaddress; rw [g_up_n _ _ (by omega)])
  have hps : ∀ l, l < 5 → (N) (k + 19) l = g_oaddress (R 0) x0 ((v_1 : Int) - 1) (36 + 13 * l) := fun l hl => (((c581_1.2.1 _ _ (by omega)).trans (hM.ps l hl))).trans (by unfold g_oaddress; rw [g_up_n _ _ (by omega)])
  have hcc : g_oaddress (R 0) x0 ((v_1 : Int) - 1) (1042 + 12 * x0) ≤ R 0 (1042 + 12 * x0) + 5000 := by
    unfold g_oaddress
    rw [g_up_n _ _ (by omega)]
    omega
  exact qX.room (kc := kc) (ks := ks) (by omega) (by omega) (k0 _ _ _ _ _ _ _ _ _ (d_nx x) _ ((q_JW.act (i := x0) (I' := u2 M (ρ x0) 1 ((v_1 : Int) - 1)) (L' := N) c581_0 c581_1 hW0 hEr (((u2_k _ _ (by decide)).trans ((c581_1.1 _ _ (by omega)).trans hx2))) hTd hZ0 hTw hl9 hl3.2 hnm hLy hV0 hx0 (fun q j hq => ((u2_a _ _ hq).trans rfl)) (fun q j h1 h2 h3 h4 => rfl) ⟨((((u2_k _ _ (by decide)).trans ((c581_1.1 _ _ (by omega)).trans hac0.kd))).trans ((show g_oaddress (R 0) x0 ((v_1 : Int) - 1) (1039 + 12 * x0) = R 0 (1039 + 12 * x0) by unfold g_oaddress; rw [g_up_n _ _ (by omega)])).symm), (((u2_s _ _ _ _)).trans ((show g_oaddress (R 0) x0 ((v_1 : Int) - 1) (1040 + 12 * x0) = (v_1 : Int) - 1 by unfold g_oaddress; rw [g_up_s])).symm), ((((u2_k _ _ (by decide)).trans ((c581_1.1 _ _ (by omega)).trans hac0.bi))).trans ((show g_oaddress (R 0) x0 ((v_1 : Int) - 1) (1041 + 12 * x0) = R 0 (1041 + 12 * x0) by unfold g_oaddress; rw [g_up_n _ _ (by omega)])).symm), ((((c581_1.2.1 _ _ (by omega)).trans hac0.ce)).trans ((show g_oaddress (R 0) x0 ((v_1 : Int) - 1) (1042 + 12 * x0) = R 0 (1042 + 12 * x0) by unfold g_oaddress; rw [g_up_n _ _ (by omega)])).symm), ((((u2_k _ _ (by decide)).trans ((c581_1.1 _ _ (by omega)).trans hac0.st))).trans ((show g_oaddress (R 0) x0 ((v_1 : Int) - 1) (1043 + 12 * x0) = R 0 (1043 + 12 * x0) by unfold g_oaddress; rw [g_up_n _ _ (by omega)])).symm), ((((u2_k _ _ (by decide)).trans ((c581_1.1 _ _ (by omega)).trans hac0.ag))).trans ((show g_oaddress (R 0) x0 ((v_1 : Int) - 1) (1044 + 12 * x0) = R 0 (1044 + 12 * x0) by unfold g_oaddress; rw [g_up_n _ _ (by omega)])).symm), ((((u2_k _ _ (by decide)).trans ((c581_1.1 _ _ (by omega)).trans hac0.si))).trans ((show g_oaddress (R 0) x0 ((v_1 : Int) - 1) (1045 + 12 * x0) = R 0 (1045 + 12 * x0) by unfold g_oaddress; rw [g_up_n _ _ (by omega)])).symm), ((((u2_k _ _ (by decide)).trans ((c581_1.1 _ _ (by omega)).trans hac0.le))).trans ((show g_oaddress (R 0) x0 ((v_1 : Int) - 1) (1046 + 12 * x0) = R 0 (1046 + 12 * x0) by unfold g_oaddress; rw [g_up_n _ _ (by omega)])).symm), ((((u2_k _ _ (by decide)).trans ((c581_1.1 _ _ (by omega)).trans hac0.ho))).trans ((show g_oaddress (R 0) x0 ((v_1 : Int) - 1) (1047 + 12 * x0) = R 0 (1047 + 12 * x0) by unfold g_oaddress; rw [g_up_n _ _ (by omega)])).symm), ((((u2_k _ _ (by decide)).trans ((c581_1.1 _ _ (by omega)).trans hac0.la))).trans ((show g_oaddress (R 0) x0 ((v_1 : Int) - 1) (1048 + 12 * x0) = R 0 (1048 + 12 * x0) by unfold g_oaddress; rw [g_up_n _ _ (by omega)])).symm), ((((u2_k _ _ (by decide)).trans ((c581_1.1 _ _ (by omega)).trans hac0.ha))).trans ((show g_oaddress (R 0) x0 ((v_1 : Int) - 1) (1050 + 12 * x0) = R 0 (1050 + 12 * x0) by unfold g_oaddress; rw [g_up_n _ _ (by omega)])).symm), ((((u2_k _ _ (by decide)).trans ((c581_1.1 _ _ (by omega)).trans hac0.nl))).trans ((show g_oaddress (R 0) x0 ((v_1 : Int) - 1) (1049 + 12 * x0) = R 0 (1049 + 12 * x0) by unfold g_oaddress; rw [g_up_n _ _ (by omega)])).symm)⟩ (fun x hx => by unfold g_rc at hx; unfold g_oaddress; rw [g_up_n _ _ (by omega)]) (by unfold g_oaddress; rw [g_up_n _ _ (by omega)]) (by unfold g_oaddress; rw [g_up_n _ _ (by omega)]) (by unfold g_oaddress; rw [g_up_n _ _ (by omega)]) (by unfold g_oaddress; rw [g_up_n _ _ (by omega)]) (fun j x a e y z => by unfold g_oaddress; rw [g_up_n _ _ (by omega)]) (fun x a => by unfold g_oaddress; rw [g_up_n _ _ (by omega)]) hb4 hb6 hpd hps hcap hcc hc hmo hn hsf).pre (by omega) hI0))

set_option maxRecDepth 100000 in
theorem lL_claim {G : q_G} {F : q_F} {h : Nat} {Q : q_Q} {kc ks sz : Nat} {T : q_T} {I L : q_I} {P : q_P} {b d a0 was l9 tp bk k n9 c v w m x x0 ah dn ta ii b0 : Nat} {wh : Int} {B : Nat → Int} {R : Nat → Nat → Int} {E : Nat → Prop} {ρ σ : Nat → Nat}  (hF : q_ok G F YL_law h) (h9 : 30 ≤ h) (hA : q_A G b) (hE : q_CE T b bk tp B R I L P) (hW : q_OW E T I L P k v n9 ρ w m σ (R 0)) (hEr : ∀ q, E q → a0 ≤ q ∧ q < sz ∧ q ≠ was) (hx : I d 0 = (x : Int)) (hTd : T d = some (.inl 8)) (hZ : q_F0 sz I L P) (hTw : T was = some (.inr (9, 16))) (hl9 : R 0 0 = (l9 : Int)) (hl3 : 1 ≤ l9 ∧ l9 ≤ 3) (hnm : e_nms (R 0) l9) (hLy : b + 452 ≤ d ∧ d < a0 ∧ a0 ≤ sz) (hx0 : x0 < n9) (hcap : q_Cap (R 0) (5000 * (11 - (c : Int)))) (hc : c < 11) (hmo : R 0 2 ≤ 30 * (c : Int)) (hn : n9 ≤ 12) (hws : was < sz) (hsf : d_safe (10 - c) (12 - n9) x = true) (k0 : ∀ (T' : q_T) (I' L' : q_I) (P' : q_P) (sz' bk' : Nat) (R' : Nat → Nat → Int) (n' : Nat) (ρ' : Nat → Nat) (x' : Nat) (is : Int), q_PA b d a0 was l9 tp B T I L P sz bk R k n9 ρ c T' I' L' P' sz' bk' R' n' ρ' x' is → qX G F Q kc ks 919 [(13, qI is), (10, .ref ah), (9, qI (c : Int)), (8, qI (dn : Int)), (7, .ref was), (6, .ref k), (5, .ref d), (4, .ref ta), (3, .ref b), (2, qI (ii : Int)), (1, qI 1), (0, .ref b0)] [] sz' T' I' L' P') : qX G F Q (kc + 1) (ks + 6) 615 [(14, qI wh), (13, qI 1), (12, .ref (ρ x0)), (11, qI (x0 : Int)), (10, .ref ah), (9, qI (c : Int)), (8, qI (dn : Int)), (7, .ref was), (6, .ref k), (5, .ref d), (4, .ref ta), (3, .ref b), (2, qI (ii : Int)), (1, qI 1), (0, .ref b0)] [] sz T I L P := by
  have hO := hW.ot
  have hM := hW.om
  have hRk := hW.rr
  have hro := hE.ro 0 (Nat.zero_le _)
  have hV0 := hro.1.1
  have hV0l := hV0.lands
  have hV0m := hV0.month
  have hil : (x0 : Int) < R 0 1 := by have := hM.nn; omega
  have hVA := hro.1.2.1 x0 hil
  rw [if_neg (Nat.not_lt_zero x0)] at hVA
  have hTa := hM.ta x0 hx0
  have hac := hM.ac x0 hx0
  have hst4 : I (ρ x0) 4 = R 0 (1043 + 12 * x0) := hac.st
  have hρ := hEr _ (hM.ea x0 hx0)
  have hk0 := hEr k (hW.ek k (Nat.le_refl _) (by omega))
  have hk17 := hEr (k + 17) (hW.ek (k + 17) (by omega) (by omega))
  have hk18 := hEr (k + 18) (hW.ek (k + 18) (by omega) (by omega))
  have hk19 := hEr (k + 19) (hW.ek (k + 19) (by omega) (by omega))
  have nk : ρ x0 ≠ k := fun e => q_Tne hO.t0 hTa (by intro z; cases z) e.symm
  have nk17 : ρ x0 ≠ k + 17 := fun e => q_Tne hO.t17 hTa (by intro z; cases z) e.symm
  have nk18 : ρ x0 ≠ k + 18 := fun e => q_Tne hO.t18 hTa (by intro z; cases z) e.symm
  have nk19 : ρ x0 ≠ k + 19 := fun e => q_Tne hO.t19 hTa (by intro z; cases z) e.symm
  have f1 := hVA.state
  have f2 := hVA.cents
  have f3 := hVA.nl
  have f4 := hVA.holder
  have f5 := hVA.hh
  have f6 := hVA.addr
  have f7 := hVA.since
  have hcx : R 0 (1042 + 12 * x0) + 5000 ≤ 100000000 := by
    have h1 := hcap x0 hil
    have h2 := g_cap_le (u := (R 0 2).toNat) (v := 330) (by omega)
    have h3 := g_cap_330
    omega
  refine q_aload hF 2 rfl dL_law_615 ?_
  refine q_getIv hF (z := R 0 (1043 + 12 * x0)) fl_RL_260 hTa hac.st dL_law_617 ?_
  refine q_iconst hF dL_law_620 ?_
  refine q_icmpne hF (by omega) (by decide) dL_law_621 (fun c621 => ?_) (fun c621 => ?_)
  · refine q_iconst hF dL_law_636 ?_
    refine q_istore hF (ls' := [(13, qI 0), (14, qI wh), (12, .ref (ρ x0)), (11, qI (x0 : Int)), (10, .ref ah), (9, qI (c : Int)), (8, qI (dn : Int)), (7, .ref was), (6, .ref k), (5, .ref d), (4, .ref ta), (3, .ref b), (2, qI (ii : Int)), (1, qI 1), (0, .ref b0)]) (by decide) rfl dL_law_637 ?_
    refine q_aload hF 8 rfl dL_law_639 ?_
    refine q_aload hF 2 rfl dL_law_641 ?_
    refine q_iconst hF dL_law_643 ?_
    refine q_callV (kc := kc + 1) (ks := ks + 6) (mc' := 0) (ms' := 0) (h' := 1) (st := []) hF vl_RL_292 rfl [.ref (ρ x0), qI 0] rfl rfl hO.t0 (by omega) (Nat.le_of_ble_eq_true rfl) dL_law_644 ?_
    refine mX10_worth hO hRk hTa hac hV0 hVA hM.mo (by decide) rfl ?_
    refine q_lstore hF (ls' := [(15, qL (g_worth (R 0) x0 0)), (13, qI 0), (14, qI wh), (12, .ref (ρ x0)), (11, qI (x0 : Int)), (10, .ref ah), (9, qI (c : Int)), (8, qI (dn : Int)), (7, .ref was), (6, .ref k), (5, .ref d), (4, .ref ta), (3, .ref b), (2, qI (ii : Int)), (1, qI 1), (0, .ref b0)]) (by decide) rfl dL_law_647 ?_
    skip
    refine q_aload_n hF 12 rfl rfl dL_law_649 ?_
    refine q_iload hF 4 rfl dL_law_650 ?_
    have hE0 : q_CE T b bk tp B R I L P := hE.mv (fun _ _ _ => rfl) (fun q j a c => rfl) (fun _ _ _ _ => rfl) (fun _ _ _ _ => rfl)
    have hI0 : ∀ q j, q ≠ d → I q j = I q j := fun q j hq => rfl
    have hW0 : q_OW E T I L P k v n9 ρ w m σ (R 0) := hW.mv (fun _ z => z) (fun _ _ => rfl) (fun q j hq => hI0 q j (by have := hEr q hq; omega)) (fun _ _ _ => rfl) (fun _ _ _ => rfl)
    have hac0 := hW0.om.ac x0 hx0
    have hx2 : I d 0 = (x : Int) := hx
    have hZ0 : q_F0 sz I L P := fun q j hq => ⟨(hI0 q j (by omega)).trans (hZ q j hq).1, (hZ q j hq).2⟩
    refine q_callSH (kc := kc) (ks := ks) (mc' := 1) (ms' := 6) (h' := 5) (st := []) hF sl_RL_357 rfl [.ref b, qI (x0 : Int)] rfl rfl (by omega) (Nat.le_of_ble_eq_true rfl) dL_law_652 ?_
    refine a_claim2 hA hE0 hil (fun z => by omega) (fun sz9 I9' c652_0 c652_1 c652_2 => ?_)
    refine q_iload hF 1 rfl dL_law_655 ?_
    refine q_ifeq hF (by decide) dL_law_657 (fun c657 => ?_) (fun c657 => ?_)
    · refine q_ldc2 hF (n := -2000000099) (q_mem 954 (by decide +kernel) rfl) dL_law_665 ?_
      refine q_cmpne_s hF (a := -2000000099) dL_law_668 dL_law_669 ?_
      refine q_iconst hF dL_law_672 ?_
      refine q_goto hF dL_law_673 ?_
      refine q_istore_n hF (ls' := [(1, qI 1), (15, qL (g_worth (R 0) x0 0)), (13, qI 0), (14, qI wh), (12, .ref (ρ x0)), (11, qI (x0 : Int)), (10, .ref ah), (9, qI (c : Int)), (8, qI (dn : Int)), (7, .ref was), (6, .ref k), (5, .ref d), (4, .ref ta), (3, .ref b), (2, qI (ii : Int)), (0, .ref b0)]) rfl (by decide) rfl dL_law_677 ?_
      refine q_iload hF 2 rfl dL_law_678 ?_
      refine q_ifeq hF (by decide) dL_law_680 (fun c680 => ?_) (fun c680 => ?_)
      · refine q_goto hF dL_law_733 ?_
        refine q_sub [2, 6, 7, 8, 9, 10, 11, 12, 13, 14, 0, 15] rfl ?_
        refine qX.room (kc := kc) (ks := ks) (by omega) (by omega) (k0 _ _ _ _ _ _ _ _ _ (x) _ ((q_JW.ref c652_1 hW0 hEr ((c652_2.1 _ _ (by omega)).trans hx2) hTd hZ0 hTw hl9 hnm hLy c652_0 (fun q j a e => c652_2.1 q j a) hcap hc hmo hn hsf).pre (by omega) hI0))
      · exact absurd c680 (by decide)
    · exact absurd c657 (by decide)
  · refine q_aload hF 2 rfl dL_law_624 ?_
    refine q_getZv hF (z := R 0 (1049 + 12 * x0)) fl_RL_280 hTa hac.nl dL_law_626 ?_
    refine q_ifne hF (by omega) dL_law_629 (fun c629 => ?_) (fun c629 => ?_)
    · refine q_iconst hF dL_law_636 ?_
      refine q_istore hF (ls' := [(13, qI 0), (14, qI wh), (12, .ref (ρ x0)), (11, qI (x0 : Int)), (10, .ref ah), (9, qI (c : Int)), (8, qI (dn : Int)), (7, .ref was), (6, .ref k), (5, .ref d), (4, .ref ta), (3, .ref b), (2, qI (ii : Int)), (1, qI 1), (0, .ref b0)]) (by decide) rfl dL_law_637 ?_
      refine q_aload hF 8 rfl dL_law_639 ?_
      refine q_aload hF 2 rfl dL_law_641 ?_
      refine q_iconst hF dL_law_643 ?_
      refine q_callV (kc := kc + 1) (ks := ks + 6) (mc' := 0) (ms' := 0) (h' := 1) (st := []) hF vl_RL_292 rfl [.ref (ρ x0), qI 0] rfl rfl hO.t0 (by omega) (Nat.le_of_ble_eq_true rfl) dL_law_644 ?_
      refine mX10_worth hO hRk hTa hac hV0 hVA hM.mo (by decide) rfl ?_
      refine q_lstore hF (ls' := [(15, qL (g_worth (R 0) x0 0)), (13, qI 0), (14, qI wh), (12, .ref (ρ x0)), (11, qI (x0 : Int)), (10, .ref ah), (9, qI (c : Int)), (8, qI (dn : Int)), (7, .ref was), (6, .ref k), (5, .ref d), (4, .ref ta), (3, .ref b), (2, qI (ii : Int)), (1, qI 1), (0, .ref b0)]) (by decide) rfl dL_law_647 ?_
      skip
      refine q_aload_n hF 12 rfl rfl dL_law_649 ?_
      refine q_iload hF 4 rfl dL_law_650 ?_
      have hE0 : q_CE T b bk tp B R I L P := hE.mv (fun _ _ _ => rfl) (fun q j a c => rfl) (fun _ _ _ _ => rfl) (fun _ _ _ _ => rfl)
      have hI0 : ∀ q j, q ≠ d → I q j = I q j := fun q j hq => rfl
      have hW0 : q_OW E T I L P k v n9 ρ w m σ (R 0) := hW.mv (fun _ z => z) (fun _ _ => rfl) (fun q j hq => hI0 q j (by have := hEr q hq; omega)) (fun _ _ _ => rfl) (fun _ _ _ => rfl)
      have hac0 := hW0.om.ac x0 hx0
      have hx2 : I d 0 = (x : Int) := hx
      have hZ0 : q_F0 sz I L P := fun q j hq => ⟨(hI0 q j (by omega)).trans (hZ q j hq).1, (hZ q j hq).2⟩
      refine q_callSH (kc := kc) (ks := ks) (mc' := 1) (ms' := 6) (h' := 5) (st := []) hF sl_RL_357 rfl [.ref b, qI (x0 : Int)] rfl rfl (by omega) (Nat.le_of_ble_eq_true rfl) dL_law_652 ?_
      refine a_claim2 hA hE0 hil (fun z => by omega) (fun sz9 I9' c652_0 c652_1 c652_2 => ?_)
      refine q_iload hF 1 rfl dL_law_655 ?_
      refine q_ifeq hF (by decide) dL_law_657 (fun c657 => ?_) (fun c657 => ?_)
      · refine q_ldc2 hF (n := -2000000099) (q_mem 954 (by decide +kernel) rfl) dL_law_665 ?_
        refine q_cmpne_s hF (a := -2000000099) dL_law_668 dL_law_669 ?_
        refine q_iconst hF dL_law_672 ?_
        refine q_goto hF dL_law_673 ?_
        refine q_istore_n hF (ls' := [(1, qI 1), (15, qL (g_worth (R 0) x0 0)), (13, qI 0), (14, qI wh), (12, .ref (ρ x0)), (11, qI (x0 : Int)), (10, .ref ah), (9, qI (c : Int)), (8, qI (dn : Int)), (7, .ref was), (6, .ref k), (5, .ref d), (4, .ref ta), (3, .ref b), (2, qI (ii : Int)), (0, .ref b0)]) rfl (by decide) rfl dL_law_677 ?_
        refine q_iload hF 2 rfl dL_law_678 ?_
        refine q_ifeq hF (by decide) dL_law_680 (fun c680 => ?_) (fun c680 => ?_)
        · refine q_goto hF dL_law_733 ?_
          refine q_sub [2, 6, 7, 8, 9, 10, 11, 12, 13, 14, 0, 15] rfl ?_
          refine qX.room (kc := kc) (ks := ks) (by omega) (by omega) (k0 _ _ _ _ _ _ _ _ _ (x) _ ((q_JW.ref c652_1 hW0 hEr ((c652_2.1 _ _ (by omega)).trans hx2) hTd hZ0 hTw hl9 hnm hLy c652_0 (fun q j a e => c652_2.1 q j a) hcap hc hmo hn hsf).pre (by omega) hI0))
        · exact absurd c680 (by decide)
      · exact absurd c657 (by decide)
    · refine q_iconst hF dL_law_632 ?_
      refine q_goto hF dL_law_633 ?_
      refine q_istore hF (ls' := [(13, qI 1), (14, qI wh), (12, .ref (ρ x0)), (11, qI (x0 : Int)), (10, .ref ah), (9, qI (c : Int)), (8, qI (dn : Int)), (7, .ref was), (6, .ref k), (5, .ref d), (4, .ref ta), (3, .ref b), (2, qI (ii : Int)), (1, qI 1), (0, .ref b0)]) (by decide) rfl dL_law_637 ?_
      refine q_aload hF 8 rfl dL_law_639 ?_
      refine q_aload hF 2 rfl dL_law_641 ?_
      refine q_iconst hF dL_law_643 ?_
      refine q_callV (kc := kc + 1) (ks := ks + 6) (mc' := 0) (ms' := 0) (h' := 1) (st := []) hF vl_RL_292 rfl [.ref (ρ x0), qI 0] rfl rfl hO.t0 (by omega) (Nat.le_of_ble_eq_true rfl) dL_law_644 ?_
      refine mX10_worth hO hRk hTa hac hV0 hVA hM.mo (by decide) rfl ?_
      refine q_lstore hF (ls' := [(15, qL (g_worth (R 0) x0 0)), (13, qI 1), (14, qI wh), (12, .ref (ρ x0)), (11, qI (x0 : Int)), (10, .ref ah), (9, qI (c : Int)), (8, qI (dn : Int)), (7, .ref was), (6, .ref k), (5, .ref d), (4, .ref ta), (3, .ref b), (2, qI (ii : Int)), (1, qI 1), (0, .ref b0)]) (by decide) rfl dL_law_647 ?_
      obtain ⟨lh, hlh⟩ : ∃ lh : Nat, R 0 (1047 + 12 * x0) = (lh : Int) := ⟨(R 0 (1047 + 12 * x0)).toNat, by omega⟩
      have hlh5 : lh < 5 := by omega
      rw [show g_worth (R 0) x0 0 = R 0 (1042 + 12 * x0) + g_interest (R 0) x0 0 from if_pos (by omega)]
      refine q_aload_n hF 12 rfl rfl dL_law_649 ?_
      refine q_iload hF 4 rfl dL_law_650 ?_
      have hE0 : q_CE T b bk tp B R I L P := hE.mv (fun _ _ _ => rfl) (fun q j a c => rfl) (fun _ _ _ _ => rfl) (fun _ _ _ _ => rfl)
      have hI0 : ∀ q j, q ≠ d → I q j = I q j := fun q j hq => rfl
      have hW0 : q_OW E T I L P k v n9 ρ w m σ (R 0) := hW.mv (fun _ z => z) (fun _ _ => rfl) (fun q j hq => hI0 q j (by have := hEr q hq; omega)) (fun _ _ _ => rfl) (fun _ _ _ => rfl)
      have hac0 := hW0.om.ac x0 hx0
      have hx2 : I d 0 = (x : Int) := hx
      have hZ0 : q_F0 sz I L P := fun q j hq => ⟨(hI0 q j (by omega)).trans (hZ q j hq).1, (hZ q j hq).2⟩
      refine q_callSH (kc := kc) (ks := ks) (mc' := 1) (ms' := 6) (h' := 5) (st := []) hF sl_RL_357 rfl [.ref b, qI (x0 : Int)] rfl rfl (by omega) (Nat.le_of_ble_eq_true rfl) dL_law_652 ?_
      refine a_claim hA hE0 hil hlh ⟨by omega, by omega⟩ (fun M N P9 c652_0 c652_1 => ?_)
      refine q_iload hF 1 rfl dL_law_655 ?_
      refine q_ifeq hF (by decide) dL_law_657 (fun c657 => ?_) (fun c657 => ?_)
      · exact absurd c657 (by decide)
      · refine q_lload hF 0 rfl dL_law_660 ?_
        refine q_goto hF dL_law_662 ?_
        refine q_cmpne_s hF (a := R 0 (1042 + 12 * x0) + g_interest (R 0) x0 0) dL_law_668 dL_law_669 ?_
        refine q_iconst hF dL_law_672 ?_
        refine q_goto hF dL_law_673 ?_
        refine q_istore_n hF (ls' := [(1, qI 1), (15, qL (R 0 (1042 + 12 * x0) + g_interest (R 0) x0 0)), (13, qI 1), (14, qI wh), (12, .ref (ρ x0)), (11, qI (x0 : Int)), (10, .ref ah), (9, qI (c : Int)), (8, qI (dn : Int)), (7, .ref was), (6, .ref k), (5, .ref d), (4, .ref ta), (3, .ref b), (2, qI (ii : Int)), (0, .ref b0)]) rfl (by decide) rfl dL_law_677 ?_
        refine q_iload hF 2 rfl dL_law_678 ?_
        refine q_ifeq hF (by decide) dL_law_680 (fun c680 => ?_) (fun c680 => ?_)
        · exact absurd c680 (by decide)
        · refine q_aload hF 10 rfl dL_law_683 ?_
          refine q_getA hF fl_RL_301 rfl hO.t0 ((c652_1.2.2 _ _ (by omega)).trans hO.p13) dL_law_685 ?_
          refine q_aload hF 4 rfl dL_law_688 ?_
          refine q_getIv hF (z := R 0 (1047 + 12 * x0)) fl_RL_263 hTa ((c652_1.1 _ _ (by omega)).trans hac0.ho) dL_law_690 ?_
          rw [hlh]
          refine q_dup2 hF rfl rfl dL_law_693 ?_
          refine q_laloadv hF (z := R 0 (35 + 13 * lh)) (n := 5) lh hO.t18 rfl (by omega) (by decide) ((c652_1.2.1 _ _ (by omega)).trans (hM.pd lh (by omega))) dL_law_694 ?_
          refine q_lload hF 1 rfl dL_law_695 ?_
          refine q_aload hF 4 rfl dL_law_697 ?_
          refine q_getLv hF (z := R 0 (1042 + 12 * x0)) fl_RL_227 hTa ((c652_1.2.1 _ _ (by omega)).trans hac0.ce) dL_law_699 ?_
          refine q_lsub hF dL_law_702 ?_
          refine q_ladd hF dL_law_703 ?_
          refine q_lastorev hF (n := 5) lh hO.t18 (q_Ale hA (by omega)) rfl (by omega) (by decide) dL_law_704 ?_
          refine q_aload hF 10 rfl dL_law_705 ?_
          refine q_getA hF fl_RL_235 rfl hO.t0 ((c652_1.2.2 _ _ (by omega)).trans hO.p12) dL_law_707 ?_
          refine q_bipush hF (n := 6) rfl dL_law_710 ?_
          refine q_dup2 hF rfl rfl dL_law_712 ?_
          refine q_laloadv hF (z := R 0 23) (n := 7) 6 hO.t17 rfl (by decide) (by decide) ((u2_a _ _ (by omega)).trans ((c652_1.2.1 _ _ (by omega)).trans hM.b6)) dL_law_713 ?_
          refine q_aload hF 4 rfl dL_law_714 ?_
          refine q_getLv hF (z := R 0 (1042 + 12 * x0)) fl_RL_227 hTa ((u2_a _ _ nk18).trans ((c652_1.2.1 _ _ (by omega)).trans hac0.ce)) dL_law_716 ?_
          refine q_ladd hF dL_law_719 ?_
          refine q_lastorev hF (n := 7) 6 hO.t17 (q_Ale hA (by omega)) rfl (by decide) (by decide) dL_law_720 ?_
          refine q_aload hF 4 rfl dL_law_721 ?_
          refine q_lconst hF (z := 0) rfl dL_law_723 ?_
          refine q_putL hF fl_RL_227 hTa (q_Ale hA (by omega)) dL_law_724 ?_
          refine q_aload hF 4 rfl dL_law_727 ?_
          refine q_iconst hF dL_law_729 ?_
          refine q_putI hF fl_RL_260 hTa (q_Ale hA (by omega)) dL_law_730 ?_
          refine q_goto hF dL_law_733 ?_
          refine q_sub [2, 6, 7, 8, 9, 10, 11, 12, 13, 14, 0, 15] rfl ?_
          have hb4 : ∀ x, x < 4 → (u2 (u2 (u2 N (k + 18) lh ((R 0 (35 + 13 * lh)) + ((R 0 (1042 + 12 * x0) + g_interest (R 0) x0 0) - (R 0 (1042 + 12 * x0))))) (k + 17) 6 ((R 0 23) + (R 0 (1042 + 12 * x0)))) (ρ x0) 3 0) (k + 17) x = g_oclaim (R 0) x0 lh (17 + x) := fun x hx => by
            rcases (show x = 0 ∨ x = 1 ∨ x = 2 ∨ x = 3 by omega) with rfl | rfl | rfl | rfl
            · exact ((((u2_k _ _ (by decide)).trans ((u2_k _ _ (by decide)).trans ((u2_a _ _ (by omega)).trans ((c652_1.2.1 _ _ (by omega)).trans (hM.b4 0 (by decide))))))).trans ((show g_oclaim (R 0) x0 lh (17) = R 0 (17) by unfold g_oclaim; rw [g_up_n _ _ (by omega), g_up_n _ _ (by omega), g_up_n _ _ (by omega), g_up_n _ _ (by omega)])).symm)
            · exact ((((u2_k _ _ (by decide)).trans ((u2_k _ _ (by decide)).trans ((u2_a _ _ (by omega)).trans ((c652_1.2.1 _ _ (by omega)).trans (hM.b4 1 (by decide))))))).trans ((show g_oclaim (R 0) x0 lh (18) = R 0 (18) by unfold g_oclaim; rw [g_up_n _ _ (by omega), g_up_n _ _ (by omega), g_up_n _ _ (by omega), g_up_n _ _ (by omega)])).symm)
            · exact ((((u2_k _ _ (by decide)).trans ((u2_k _ _ (by decide)).trans ((u2_a _ _ (by omega)).trans ((c652_1.2.1 _ _ (by omega)).trans (hM.b4 2 (by decide))))))).trans ((show g_oclaim (R 0) x0 lh (19) = R 0 (19) by unfold g_oclaim; rw [g_up_n _ _ (by omega), g_up_n _ _ (by omega), g_up_n _ _ (by omega), g_up_n _ _ (by omega)])).symm)
            · exact ((((u2_a _ _ nk17.symm).trans ((u2_k _ _ (by decide)).trans ((u2_a _ _ (by omega)).trans ((c652_1.2.1 _ _ (by omega)).trans (hM.b4 3 (by decide))))))).trans ((show g_oclaim (R 0) x0 lh (20) = R 0 (20) by unfold g_oclaim; rw [g_up_n _ _ (by omega), g_up_n _ _ (by omega), g_up_n _ _ (by omega), g_up_n _ _ (by omega)])).symm)
          have hb6 : (u2 (u2 (u2 N (k + 18) lh ((R 0 (35 + 13 * lh)) + ((R 0 (1042 + 12 * x0) + g_interest (R 0) x0 0) - (R 0 (1042 + 12 * x0))))) (k + 17) 6 ((R 0 23) + (R 0 (1042 + 12 * x0)))) (ρ x0) 3 0) (k + 17) 6 = g_oclaim (R 0) x0 lh 23 := ((((u2_k _ _ (by decide)).trans (u2_s _ _ _ _))).trans ((show g_oclaim (R 0) x0 lh (23) = R 0 23 + R 0 (1042 + 12 * x0) by unfold g_oclaim; rw [g_up_n _ _ (by omega), g_up_n _ _ (by omega), g_up_s])).symm)
          have hpd : ∀ l, l < 5 → (u2 (u2 (u2 N (k + 18) lh ((R 0 (35 + 13 * lh)) + ((R 0 (1042 + 12 * x0) + g_interest (R 0) x0 0) - (R 0 (1042 + 12 * x0))))) (k + 17) 6 ((R 0 23) + (R 0 (1042 + 12 * x0)))) (ρ x0) 3 0) (k + 18) l = g_oclaim (R 0) x0 lh (35 + 13 * l) := fun l hl => by
            by_cases e : l = lh
            · rw [e]; exact ((((u2_a _ _ nk18.symm).trans ((u2_a _ _ (by omega)).trans (u2_s _ _ _ _)))).trans ((show (R 0 (35 + 13 * lh)) + ((R 0 (1042 + 12 * x0) + g_interest (R 0) x0 0) - (R 0 (1042 + 12 * x0))) = R 0 (35 + 13 * lh) + g_interest (R 0) x0 0 by omega).trans ((show g_oclaim (R 0) x0 lh (35 + 13 * lh) = R 0 (35 + 13 * lh) + g_interest (R 0) x0 0 by unfold g_oclaim; rw [g_up_n _ _ (by omega), g_up_n _ _ (by omega), g_up_n _ _ (by omega), g_up_s])).symm))
            · exact (((u2_a _ _ nk18.symm).trans ((u2_a _ _ (by omega)).trans ((u2_k _ _ e).trans ((c652_1.2.1 _ _ (by omega)).trans (hM.pd l hl)))))).trans (by unfold g_oclaim; rw [g_up_n _ _ (by omega), g_up_n _ _ (by omega), g_up_n _ _ (by omega), g_up_n _ _ (by omega)])
          have hps : ∀ l, l < 5 → (u2 (u2 (u2 N (k + 18) lh ((R 0 (35 + 13 * lh)) + ((R 0 (1042 + 12 * x0) + g_interest (R 0) x0 0) - (R 0 (1042 + 12 * x0))))) (k + 17) 6 ((R 0 23) + (R 0 (1042 + 12 * x0)))) (ρ x0) 3 0) (k + 19) l = g_oclaim (R 0) x0 lh (36 + 13 * l) := fun l hl => (((u2_a _ _ nk19.symm).trans ((u2_a _ _ (by omega)).trans ((u2_a _ _ (by omega)).trans ((c652_1.2.1 _ _ (by omega)).trans (hM.ps l hl)))))).trans (by unfold g_oclaim; rw [g_up_n _ _ (by omega), g_up_n _ _ (by omega), g_up_n _ _ (by omega), g_up_n _ _ (by omega)])
          have hcc : g_oclaim (R 0) x0 lh (1042 + 12 * x0) ≤ R 0 (1042 + 12 * x0) + 5000 := by
            unfold g_oclaim
            rw [g_up_n _ _ (by omega), g_up_s]
            omega
          exact qX.room (kc := kc) (ks := ks) (by omega) (by omega) (k0 _ _ _ _ _ _ _ _ _ (x) _ ((q_JW.act (i := x0) (I' := u2 M (ρ x0) 4 3) (L' := u2 (u2 (u2 N (k + 18) lh ((R 0 (35 + 13 * lh)) + ((R 0 (1042 + 12 * x0) + g_interest (R 0) x0 0) - (R 0 (1042 + 12 * x0))))) (k + 17) 6 ((R 0 23) + (R 0 (1042 + 12 * x0)))) (ρ x0) 3 0) c652_0 c652_1 hW0 hEr (((u2_k _ _ (by decide)).trans ((c652_1.1 _ _ (by omega)).trans hx2))) hTd hZ0 hTw hl9 hl3.2 hnm hLy hV0 hx0 (fun q j hq => ((u2_a _ _ hq).trans rfl)) (fun q j h1 h2 h3 h4 => ((u2_a _ _ h1).trans ((u2_a _ _ h2).trans ((u2_a _ _ h3).trans rfl)))) ⟨((((u2_k _ _ (by decide)).trans ((c652_1.1 _ _ (by omega)).trans hac0.kd))).trans ((show g_oclaim (R 0) x0 lh (1039 + 12 * x0) = R 0 (1039 + 12 * x0) by unfold g_oclaim; rw [g_up_n _ _ (by omega), g_up_n _ _ (by omega), g_up_n _ _ (by omega), g_up_n _ _ (by omega)])).symm), ((((u2_k _ _ (by decide)).trans ((c652_1.1 _ _ (by omega)).trans hac0.ad))).trans ((show g_oclaim (R 0) x0 lh (1040 + 12 * x0) = R 0 (1040 + 12 * x0) by unfold g_oclaim; rw [g_up_n _ _ (by omega), g_up_n _ _ (by omega), g_up_n _ _ (by omega), g_up_n _ _ (by omega)])).symm), ((((u2_k _ _ (by decide)).trans ((c652_1.1 _ _ (by omega)).trans hac0.bi))).trans ((show g_oclaim (R 0) x0 lh (1041 + 12 * x0) = R 0 (1041 + 12 * x0) by unfold g_oclaim; rw [g_up_n _ _ (by omega), g_up_n _ _ (by omega), g_up_n _ _ (by omega), g_up_n _ _ (by omega)])).symm), (((u2_s _ _ _ _)).trans ((show g_oclaim (R 0) x0 lh (1042 + 12 * x0) = 0 by unfold g_oclaim; rw [g_up_n _ _ (by omega), g_up_s])).symm), (((u2_s _ _ _ _)).trans ((show g_oclaim (R 0) x0 lh (1043 + 12 * x0) = 3 by unfold g_oclaim; rw [g_up_s])).symm), ((((u2_k _ _ (by decide)).trans ((c652_1.1 _ _ (by omega)).trans hac0.ag))).trans ((show g_oclaim (R 0) x0 lh (1044 + 12 * x0) = R 0 (1044 + 12 * x0) by unfold g_oclaim; rw [g_up_n _ _ (by omega), g_up_n _ _ (by omega), g_up_n _ _ (by omega), g_up_n _ _ (by omega)])).symm), ((((u2_k _ _ (by decide)).trans ((c652_1.1 _ _ (by omega)).trans hac0.si))).trans ((show g_oclaim (R 0) x0 lh (1045 + 12 * x0) = R 0 (1045 + 12 * x0) by unfold g_oclaim; rw [g_up_n _ _ (by omega), g_up_n _ _ (by omega), g_up_n _ _ (by omega), g_up_n _ _ (by omega)])).symm), ((((u2_k _ _ (by decide)).trans ((c652_1.1 _ _ (by omega)).trans hac0.le))).trans ((show g_oclaim (R 0) x0 lh (1046 + 12 * x0) = R 0 (1046 + 12 * x0) by unfold g_oclaim; rw [g_up_n _ _ (by omega), g_up_n _ _ (by omega), g_up_n _ _ (by omega), g_up_n _ _ (by omega)])).symm), ((((u2_k _ _ (by decide)).trans ((c652_1.1 _ _ (by omega)).trans hac0.ho))).trans ((show g_oclaim (R 0) x0 lh (1047 + 12 * x0) = R 0 (1047 + 12 * x0) by unfold g_oclaim; rw [g_up_n _ _ (by omega), g_up_n _ _ (by omega), g_up_n _ _ (by omega), g_up_n _ _ (by omega)])).symm), ((((u2_k _ _ (by decide)).trans ((c652_1.1 _ _ (by omega)).trans hac0.la))).trans ((show g_oclaim (R 0) x0 lh (1048 + 12 * x0) = R 0 (1048 + 12 * x0) by unfold g_oclaim; rw [g_up_n _ _ (by omega), g_up_n _ _ (by omega), g_up_n _ _ (by omega), g_up_n _ _ (by omega)])).symm), ((((u2_k _ _ (by decide)).trans ((c652_1.1 _ _ (by omega)).trans hac0.ha))).trans ((show g_oclaim (R 0) x0 lh (1050 + 12 * x0) = R 0 (1050 + 12 * x0) by unfold g_oclaim; rw [g_up_n _ _ (by omega), g_up_n _ _ (by omega), g_up_n _ _ (by omega), g_up_n _ _ (by omega)])).symm), ((((u2_k _ _ (by decide)).trans ((c652_1.1 _ _ (by omega)).trans hac0.nl))).trans ((show g_oclaim (R 0) x0 lh (1049 + 12 * x0) = R 0 (1049 + 12 * x0) by unfold g_oclaim; rw [g_up_n _ _ (by omega), g_up_n _ _ (by omega), g_up_n _ _ (by omega), g_up_n _ _ (by omega)])).symm)⟩ (fun x hx => by unfold g_rc at hx; unfold g_oclaim; rw [g_up_n _ _ (by omega), g_up_n _ _ (by omega), g_up_n _ _ (by omega), g_up_n _ _ (by omega)]) (by unfold g_oclaim; rw [g_up_n _ _ (by omega), g_up_n _ _ (by omega), g_up_n _ _ (by omega), g_up_n _ _ (by omega)]) (by unfold g_oclaim; rw [g_up_n _ _ (by omega), g_up_n _ _ (by omega), g_up_n _ _ (by omega), g_up_n _ _ (by omega)]) (by unfold g_oclaim; rw [g_up_n _ _ (by omega), g_up_n _ _ (by omega), g_up_n _ _ (by omega), g_up_n _ _ (by omega)]) (by unfold g_oclaim; rw [g_up_n _ _ (by omega), g_up_n _ _ (by omega), g_up_n _ _ (by omega), g_up_n _ _ (by omega)]) (fun j x a e y z => by unfold g_oclaim; rw [g_up_n _ _ (by omega), g_up_n _ _ (by omega), g_up_n _ _ (by omega), g_up_n _ _ (by omega)]) (fun x a => by unfold g_oclaim; rw [g_up_n _ _ (by omega), g_up_n _ _ (by omega), g_up_n _ _ (by omega), g_up_n _ _ (by omega)]) hb4 hb6 hpd hps hcap hcc hc hmo hn hsf).pre (by omega) hI0))

set_option maxRecDepth 100000 in
theorem lL_pass {G : q_G} {F : q_F} {h : Nat} {Q : q_Q} {kc ks sz : Nat} {T : q_T} {I L : q_I} {P : q_P} {b d a0 was l9 tp bk k n9 c v w m x x0 ah dn ta ii b0 : Nat} {wh : Int} {B : Nat → Int} {R : Nat → Nat → Int} {E : Nat → Prop} {ρ σ : Nat → Nat}  (hF : q_ok G F YL_law h) (h9 : 30 ≤ h) (hA : q_A G b) (hE : q_CE T b bk tp B R I L P) (hW : q_OW E T I L P k v n9 ρ w m σ (R 0)) (hEr : ∀ q, E q → a0 ≤ q ∧ q < sz ∧ q ≠ was) (hx : I d 0 = (x : Int)) (hTd : T d = some (.inl 8)) (hZ : q_F0 sz I L P) (hTw : T was = some (.inr (9, 16))) (hl9 : R 0 0 = (l9 : Int)) (hl3 : 1 ≤ l9 ∧ l9 ≤ 3) (hnm : e_nms (R 0) l9) (hLy : b + 452 ≤ d ∧ d < a0 ∧ a0 ≤ sz) (hx0 : x0 < n9) (hcap : q_Cap (R 0) (5000 * (11 - (c : Int)))) (hc : c < 11) (hmo : R 0 2 ≤ 30 * (c : Int)) (hn : n9 ≤ 12) (hws : was < sz) (hsf : d_safe (10 - c) (12 - n9) x = true) (k0 : ∀ (T' : q_T) (I' L' : q_I) (P' : q_P) (sz' bk' : Nat) (R' : Nat → Nat → Int) (n' : Nat) (ρ' : Nat → Nat) (x' : Nat) (is : Int), q_PA b d a0 was l9 tp B T I L P sz bk R k n9 ρ c T' I' L' P' sz' bk' R' n' ρ' x' is → qX G F Q kc ks 919 [(13, qI is), (10, .ref ah), (9, qI (c : Int)), (8, qI (dn : Int)), (7, .ref was), (6, .ref k), (5, .ref d), (4, .ref ta), (3, .ref b), (2, qI (ii : Int)), (1, qI 1), (0, .ref b0)] [] sz' T' I' L' P') : qX G F Q (kc + 1) (ks + 6) 743 [(14, qI wh), (13, qI 1), (12, .ref (ρ x0)), (11, qI (x0 : Int)), (10, .ref ah), (9, qI (c : Int)), (8, qI (dn : Int)), (7, .ref was), (6, .ref k), (5, .ref d), (4, .ref ta), (3, .ref b), (2, qI (ii : Int)), (1, qI 1), (0, .ref b0)] [] sz T I L P := by
  have hO := hW.ot
  have hM := hW.om
  have hRk := hW.rr
  have hro := hE.ro 0 (Nat.zero_le _)
  have hV0 := hro.1.1
  have hV0l := hV0.lands
  have hV0m := hV0.month
  have hil : (x0 : Int) < R 0 1 := by have := hM.nn; omega
  have hVA := hro.1.2.1 x0 hil
  rw [if_neg (Nat.not_lt_zero x0)] at hVA
  have hTa := hM.ta x0 hx0
  have hac := hM.ac x0 hx0
  have hst4 : I (ρ x0) 4 = R 0 (1043 + 12 * x0) := hac.st
  have hρ := hEr _ (hM.ea x0 hx0)
  have hk0 := hEr k (hW.ek k (Nat.le_refl _) (by omega))
  have hk17 := hEr (k + 17) (hW.ek (k + 17) (by omega) (by omega))
  have hk18 := hEr (k + 18) (hW.ek (k + 18) (by omega) (by omega))
  have hk19 := hEr (k + 19) (hW.ek (k + 19) (by omega) (by omega))
  have nk : ρ x0 ≠ k := fun e => q_Tne hO.t0 hTa (by intro z; cases z) e.symm
  have nk17 : ρ x0 ≠ k + 17 := fun e => q_Tne hO.t17 hTa (by intro z; cases z) e.symm
  have nk18 : ρ x0 ≠ k + 18 := fun e => q_Tne hO.t18 hTa (by intro z; cases z) e.symm
  have nk19 : ρ x0 ≠ k + 19 := fun e => q_Tne hO.t19 hTa (by intro z; cases z) e.symm
  have f1 := hVA.state
  have f2 := hVA.cents
  have f3 := hVA.nl
  have f4 := hVA.holder
  have f5 := hVA.hh
  have f6 := hVA.addr
  have f7 := hVA.since
  have hcx : R 0 (1042 + 12 * x0) + 5000 ≤ 100000000 := by
    have h1 := hcap x0 hil
    have h2 := g_cap_le (u := (R 0 2).toNat) (v := 330) (by omega)
    have h3 := g_cap_330
    omega
  refine q_aload hF 8 rfl dL_law_743 ?_
  refine q_aload hF 2 rfl dL_law_745 ?_
  refine q_callV (kc := kc + 1) (ks := ks + 6) (mc' := 0) (ms' := 0) (h' := 0) (st := []) hF vl_RL_256 rfl [.ref (ρ x0)] rfl rfl hO.t0 (by omega) (Nat.le_of_ble_eq_true rfl) dL_law_747 ?_
  refine mX10_landOf hO hRk hTa hac hV0 hVA ?_
  refine q_istore hF (ls' := [(15, qI (g_bel (R 0) x0)), (14, qI wh), (13, qI 1), (12, .ref (ρ x0)), (11, qI (x0 : Int)), (10, .ref ah), (9, qI (c : Int)), (8, qI (dn : Int)), (7, .ref was), (6, .ref k), (5, .ref d), (4, .ref ta), (3, .ref b), (2, qI (ii : Int)), (1, qI 1), (0, .ref b0)]) (by decide) rfl dL_law_750 ?_
  refine q_aload hF 3 rfl dL_law_752 ?_
  refine q_getIv hF (z := R 0 (1043 + 12 * x0)) fl_RL_260 hTa hac.st dL_law_754 ?_
  refine q_iconst hF dL_law_757 ?_
  refine q_icmpne hF (by omega) (by decide) dL_law_758 (fun c758 => ?_) (fun c758 => ?_)
  · refine q_iconst hF dL_law_780 ?_
    refine q_istore hF (ls' := [(13, qI 0), (15, qI (g_bel (R 0) x0)), (14, qI wh), (12, .ref (ρ x0)), (11, qI (x0 : Int)), (10, .ref ah), (9, qI (c : Int)), (8, qI (dn : Int)), (7, .ref was), (6, .ref k), (5, .ref d), (4, .ref ta), (3, .ref b), (2, qI (ii : Int)), (1, qI 1), (0, .ref b0)]) (by decide) rfl dL_law_781 ?_
    skip
    refine q_aload_n hF 12 rfl rfl dL_law_783 ?_
    refine q_iload hF 4 rfl dL_law_784 ?_
    have hE0 : q_CE T b bk tp B R I L P := hE.mv (fun _ _ _ => rfl) (fun q j a c => rfl) (fun _ _ _ _ => rfl) (fun _ _ _ _ => rfl)
    have hI0 : ∀ q j, q ≠ d → I q j = I q j := fun q j hq => rfl
    have hW0 : q_OW E T I L P k v n9 ρ w m σ (R 0) := hW.mv (fun _ z => z) (fun _ _ => rfl) (fun q j hq => hI0 q j (by have := hEr q hq; omega)) (fun _ _ _ => rfl) (fun _ _ _ => rfl)
    have hac0 := hW0.om.ac x0 hx0
    have hx2 : I d 0 = (x : Int) := hx
    have hZ0 : q_F0 sz I L P := fun q j hq => ⟨(hI0 q j (by omega)).trans (hZ q j hq).1, (hZ q j hq).2⟩
    refine q_callSH (kc := kc) (ks := ks) (mc' := 1) (ms' := 6) (h' := 5) (st := []) hF sl_RL_359 rfl [.ref b, qI (x0 : Int)] rfl rfl (by omega) (Nat.le_of_ble_eq_true rfl) dL_law_786 ?_
    refine a_pass2 hA hE0 hil (fun z => by have := g_bel_r hV0 hVA; omega) (fun sz9 I9' c786_0 c786_1 c786_2 => ?_)
    refine q_iload hF 0 rfl dL_law_789 ?_
    refine q_ifeq hF (by decide) dL_law_791 (fun c791 => ?_) (fun c791 => ?_)
    · refine q_ldc hF (n := -2000000099) (q_mem 791 (by decide +kernel) rfl) dL_law_799 ?_
      refine q_icmpne_s hF (a := -2000000099) dL_law_801 ?_
      refine q_iconst hF dL_law_804 ?_
      refine q_goto hF dL_law_805 ?_
      refine q_istore_n hF (ls' := [(1, qI 1), (13, qI 0), (15, qI (g_bel (R 0) x0)), (14, qI wh), (12, .ref (ρ x0)), (11, qI (x0 : Int)), (10, .ref ah), (9, qI (c : Int)), (8, qI (dn : Int)), (7, .ref was), (6, .ref k), (5, .ref d), (4, .ref ta), (3, .ref b), (2, qI (ii : Int)), (0, .ref b0)]) rfl (by decide) rfl dL_law_809 ?_
      refine q_iload hF 1 rfl dL_law_810 ?_
      refine q_ifeq hF (by decide) dL_law_812 (fun c812 => ?_) (fun c812 => ?_)
      · refine q_goto hF dL_law_838 ?_
        refine q_sub [1, 6, 7, 8, 9, 10, 11, 12, 13, 14, 0, 15] rfl ?_
        refine qX.room (kc := kc) (ks := ks) (by omega) (by omega) (k0 _ _ _ _ _ _ _ _ _ (x) _ ((q_JW.ref c786_1 hW0 hEr ((c786_2.1 _ _ (by omega)).trans hx2) hTd hZ0 hTw hl9 hnm hLy c786_0 (fun q j a e => c786_2.1 q j a) hcap hc hmo hn hsf).pre (by omega) hI0))
      · exact absurd c812 (by decide)
    · exact absurd c791 (by decide)
  · refine q_iload hF 0 rfl dL_law_761 ?_
    refine q_iflt hF (by have := g_bel_r hV0 hVA; omega) dL_law_763 (fun c763 => ?_) (fun c763 => ?_)
    · refine q_iconst hF dL_law_780 ?_
      refine q_istore hF (ls' := [(13, qI 0), (15, qI (g_bel (R 0) x0)), (14, qI wh), (12, .ref (ρ x0)), (11, qI (x0 : Int)), (10, .ref ah), (9, qI (c : Int)), (8, qI (dn : Int)), (7, .ref was), (6, .ref k), (5, .ref d), (4, .ref ta), (3, .ref b), (2, qI (ii : Int)), (1, qI 1), (0, .ref b0)]) (by decide) rfl dL_law_781 ?_
      skip
      refine q_aload_n hF 12 rfl rfl dL_law_783 ?_
      refine q_iload hF 4 rfl dL_law_784 ?_
      have hE0 : q_CE T b bk tp B R I L P := hE.mv (fun _ _ _ => rfl) (fun q j a c => rfl) (fun _ _ _ _ => rfl) (fun _ _ _ _ => rfl)
      have hI0 : ∀ q j, q ≠ d → I q j = I q j := fun q j hq => rfl
      have hW0 : q_OW E T I L P k v n9 ρ w m σ (R 0) := hW.mv (fun _ z => z) (fun _ _ => rfl) (fun q j hq => hI0 q j (by have := hEr q hq; omega)) (fun _ _ _ => rfl) (fun _ _ _ => rfl)
      have hac0 := hW0.om.ac x0 hx0
      have hx2 : I d 0 = (x : Int) := hx
      have hZ0 : q_F0 sz I L P := fun q j hq => ⟨(hI0 q j (by omega)).trans (hZ q j hq).1, (hZ q j hq).2⟩
      refine q_callSH (kc := kc) (ks := ks) (mc' := 1) (ms' := 6) (h' := 5) (st := []) hF sl_RL_359 rfl [.ref b, qI (x0 : Int)] rfl rfl (by omega) (Nat.le_of_ble_eq_true rfl) dL_law_786 ?_
      refine a_pass2 hA hE0 hil (fun z => by have := g_bel_r hV0 hVA; omega) (fun sz9 I9' c786_0 c786_1 c786_2 => ?_)
      refine q_iload hF 0 rfl dL_law_789 ?_
      refine q_ifeq hF (by decide) dL_law_791 (fun c791 => ?_) (fun c791 => ?_)
      · refine q_ldc hF (n := -2000000099) (q_mem 791 (by decide +kernel) rfl) dL_law_799 ?_
        refine q_icmpne_s hF (a := -2000000099) dL_law_801 ?_
        refine q_iconst hF dL_law_804 ?_
        refine q_goto hF dL_law_805 ?_
        refine q_istore_n hF (ls' := [(1, qI 1), (13, qI 0), (15, qI (g_bel (R 0) x0)), (14, qI wh), (12, .ref (ρ x0)), (11, qI (x0 : Int)), (10, .ref ah), (9, qI (c : Int)), (8, qI (dn : Int)), (7, .ref was), (6, .ref k), (5, .ref d), (4, .ref ta), (3, .ref b), (2, qI (ii : Int)), (0, .ref b0)]) rfl (by decide) rfl dL_law_809 ?_
        refine q_iload hF 1 rfl dL_law_810 ?_
        refine q_ifeq hF (by decide) dL_law_812 (fun c812 => ?_) (fun c812 => ?_)
        · refine q_goto hF dL_law_838 ?_
          refine q_sub [1, 6, 7, 8, 9, 10, 11, 12, 13, 14, 0, 15] rfl ?_
          refine qX.room (kc := kc) (ks := ks) (by omega) (by omega) (k0 _ _ _ _ _ _ _ _ _ (x) _ ((q_JW.ref c786_1 hW0 hEr ((c786_2.1 _ _ (by omega)).trans hx2) hTd hZ0 hTw hl9 hnm hLy c786_0 (fun q j a e => c786_2.1 q j a) hcap hc hmo hn hsf).pre (by omega) hI0))
        · exact absurd c812 (by decide)
      · exact absurd c791 (by decide)
    · refine q_iload hF 0 rfl dL_law_766 ?_
      refine q_aload hF 3 rfl dL_law_768 ?_
      refine q_getIv hF (z := R 0 (1047 + 12 * x0)) fl_RL_263 hTa hac.ho dL_law_770 ?_
      refine q_icmpeq hF (by have := g_bel_r hV0 hVA; omega) (by omega) dL_law_773 (fun c773 => ?_) (fun c773 => ?_)
      · refine q_iconst hF dL_law_780 ?_
        refine q_istore hF (ls' := [(13, qI 0), (15, qI (g_bel (R 0) x0)), (14, qI wh), (12, .ref (ρ x0)), (11, qI (x0 : Int)), (10, .ref ah), (9, qI (c : Int)), (8, qI (dn : Int)), (7, .ref was), (6, .ref k), (5, .ref d), (4, .ref ta), (3, .ref b), (2, qI (ii : Int)), (1, qI 1), (0, .ref b0)]) (by decide) rfl dL_law_781 ?_
        skip
        refine q_aload_n hF 12 rfl rfl dL_law_783 ?_
        refine q_iload hF 4 rfl dL_law_784 ?_
        have hE0 : q_CE T b bk tp B R I L P := hE.mv (fun _ _ _ => rfl) (fun q j a c => rfl) (fun _ _ _ _ => rfl) (fun _ _ _ _ => rfl)
        have hI0 : ∀ q j, q ≠ d → I q j = I q j := fun q j hq => rfl
        have hW0 : q_OW E T I L P k v n9 ρ w m σ (R 0) := hW.mv (fun _ z => z) (fun _ _ => rfl) (fun q j hq => hI0 q j (by have := hEr q hq; omega)) (fun _ _ _ => rfl) (fun _ _ _ => rfl)
        have hac0 := hW0.om.ac x0 hx0
        have hx2 : I d 0 = (x : Int) := hx
        have hZ0 : q_F0 sz I L P := fun q j hq => ⟨(hI0 q j (by omega)).trans (hZ q j hq).1, (hZ q j hq).2⟩
        refine q_callSH (kc := kc) (ks := ks) (mc' := 1) (ms' := 6) (h' := 5) (st := []) hF sl_RL_359 rfl [.ref b, qI (x0 : Int)] rfl rfl (by omega) (Nat.le_of_ble_eq_true rfl) dL_law_786 ?_
        refine a_pass2 hA hE0 hil (fun z => by have := g_bel_r hV0 hVA; omega) (fun sz9 I9' c786_0 c786_1 c786_2 => ?_)
        refine q_iload hF 0 rfl dL_law_789 ?_
        refine q_ifeq hF (by decide) dL_law_791 (fun c791 => ?_) (fun c791 => ?_)
        · refine q_ldc hF (n := -2000000099) (q_mem 791 (by decide +kernel) rfl) dL_law_799 ?_
          refine q_icmpne_s hF (a := -2000000099) dL_law_801 ?_
          refine q_iconst hF dL_law_804 ?_
          refine q_goto hF dL_law_805 ?_
          refine q_istore_n hF (ls' := [(1, qI 1), (13, qI 0), (15, qI (g_bel (R 0) x0)), (14, qI wh), (12, .ref (ρ x0)), (11, qI (x0 : Int)), (10, .ref ah), (9, qI (c : Int)), (8, qI (dn : Int)), (7, .ref was), (6, .ref k), (5, .ref d), (4, .ref ta), (3, .ref b), (2, qI (ii : Int)), (0, .ref b0)]) rfl (by decide) rfl dL_law_809 ?_
          refine q_iload hF 1 rfl dL_law_810 ?_
          refine q_ifeq hF (by decide) dL_law_812 (fun c812 => ?_) (fun c812 => ?_)
          · refine q_goto hF dL_law_838 ?_
            refine q_sub [1, 6, 7, 8, 9, 10, 11, 12, 13, 14, 0, 15] rfl ?_
            refine qX.room (kc := kc) (ks := ks) (by omega) (by omega) (k0 _ _ _ _ _ _ _ _ _ (x) _ ((q_JW.ref c786_1 hW0 hEr ((c786_2.1 _ _ (by omega)).trans hx2) hTd hZ0 hTw hl9 hnm hLy c786_0 (fun q j a e => c786_2.1 q j a) hcap hc hmo hn hsf).pre (by omega) hI0))
          · exact absurd c812 (by decide)
        · exact absurd c791 (by decide)
      · refine q_iconst hF dL_law_776 ?_
        refine q_goto hF dL_law_777 ?_
        refine q_istore hF (ls' := [(13, qI 1), (15, qI (g_bel (R 0) x0)), (14, qI wh), (12, .ref (ρ x0)), (11, qI (x0 : Int)), (10, .ref ah), (9, qI (c : Int)), (8, qI (dn : Int)), (7, .ref was), (6, .ref k), (5, .ref d), (4, .ref ta), (3, .ref b), (2, qI (ii : Int)), (1, qI 1), (0, .ref b0)]) (by decide) rfl dL_law_781 ?_
        have hbt := g_bel_tk hV0 hVA (by omega)
        obtain ⟨lb, hlb⟩ : ∃ lb : Nat, g_bel (R 0) x0 = (lb : Int) := ⟨(g_bel (R 0) x0).toNat, by omega⟩
        have hlb5 : lb < 5 := by rw [hlb] at hbt; omega
        rw [hlb]
        refine q_aload_n hF 12 rfl rfl dL_law_783 ?_
        refine q_iload hF 4 rfl dL_law_784 ?_
        have hE0 : q_CE T b bk tp B R I L P := hE.mv (fun _ _ _ => rfl) (fun q j a c => rfl) (fun _ _ _ _ => rfl) (fun _ _ _ _ => rfl)
        have hI0 : ∀ q j, q ≠ d → I q j = I q j := fun q j hq => rfl
        have hW0 : q_OW E T I L P k v n9 ρ w m σ (R 0) := hW.mv (fun _ z => z) (fun _ _ => rfl) (fun q j hq => hI0 q j (by have := hEr q hq; omega)) (fun _ _ _ => rfl) (fun _ _ _ => rfl)
        have hac0 := hW0.om.ac x0 hx0
        have hx2 : I d 0 = (x : Int) := hx
        have hZ0 : q_F0 sz I L P := fun q j hq => ⟨(hI0 q j (by omega)).trans (hZ q j hq).1, (hZ q j hq).2⟩
        refine q_callSH (kc := kc) (ks := ks) (mc' := 1) (ms' := 6) (h' := 5) (st := []) hF sl_RL_359 rfl [.ref b, qI (x0 : Int)] rfl rfl (by omega) (Nat.le_of_ble_eq_true rfl) dL_law_786 ?_
        refine a_pass hA hE0 hil hlb ⟨by omega, by omega, by omega⟩ (fun M N P9 c786_0 c786_1 => ?_)
        refine q_iload hF 0 rfl dL_law_789 ?_
        refine q_ifeq hF (by decide) dL_law_791 (fun c791 => ?_) (fun c791 => ?_)
        · exact absurd c791 (by decide)
        · refine q_iload hF 1 rfl dL_law_794 ?_
          refine q_goto hF dL_law_796 ?_
          refine q_icmpne_s hF (a := (lb : Int)) dL_law_801 ?_
          refine q_iconst hF dL_law_804 ?_
          refine q_goto hF dL_law_805 ?_
          refine q_istore_n hF (ls' := [(1, qI 1), (13, qI 1), (15, qI (lb : Int)), (14, qI wh), (12, .ref (ρ x0)), (11, qI (x0 : Int)), (10, .ref ah), (9, qI (c : Int)), (8, qI (dn : Int)), (7, .ref was), (6, .ref k), (5, .ref d), (4, .ref ta), (3, .ref b), (2, qI (ii : Int)), (0, .ref b0)]) rfl (by decide) rfl dL_law_809 ?_
          refine q_iload hF 1 rfl dL_law_810 ?_
          refine q_ifeq hF (by decide) dL_law_812 (fun c812 => ?_) (fun c812 => ?_)
          · exact absurd c812 (by decide)
          · refine q_aload hF 4 rfl dL_law_815 ?_
            refine q_iload hF 2 rfl dL_law_817 ?_
            refine q_putI hF fl_RL_263 hTa (q_Ale hA (by omega)) dL_law_819 ?_
            refine q_aload hF 10 rfl dL_law_822 ?_
            refine q_getA hF fl_RL_304 rfl hO.t0 ((c786_1.2.2 _ _ (by omega)).trans hO.p14) dL_law_824 ?_
            refine q_iload hF 2 rfl dL_law_827 ?_
            refine q_dup2 hF rfl rfl dL_law_829 ?_
            refine q_laloadv hF (z := R 0 (36 + 13 * lb)) (n := 5) lb hO.t19 rfl (by omega) (by decide) ((c786_1.2.1 _ _ (by omega)).trans (hM.ps lb (by omega))) dL_law_830 ?_
            refine q_aload hF 4 rfl dL_law_831 ?_
            refine q_getLv hF (z := R 0 (1042 + 12 * x0)) fl_RL_227 hTa ((c786_1.2.1 _ _ (by omega)).trans hac0.ce) dL_law_833 ?_
            refine q_ladd hF dL_law_836 ?_
            refine q_lastorev hF (n := 5) lb hO.t19 (q_Ale hA (by omega)) rfl (by omega) (by decide) dL_law_837 ?_
            refine q_goto hF dL_law_838 ?_
            refine q_sub [1, 6, 7, 8, 9, 10, 11, 12, 13, 14, 0, 15] rfl ?_
            have hb4 : ∀ x, x < 4 → (u2 N (k + 19) lb ((R 0 (36 + 13 * lb)) + (R 0 (1042 + 12 * x0)))) (k + 17) x = g_opass (R 0) x0 lb (17 + x) := fun x hx => by
              rcases (show x = 0 ∨ x = 1 ∨ x = 2 ∨ x = 3 by omega) with rfl | rfl | rfl | rfl
              · exact ((((u2_a _ _ (by omega)).trans ((c786_1.2.1 _ _ (by omega)).trans (hM.b4 0 (by decide))))).trans ((show g_opass (R 0) x0 lb (17) = R 0 (17) by unfold g_opass; rw [g_up_n _ _ (by omega), g_up_n _ _ (by omega)])).symm)
              · exact ((((u2_a _ _ (by omega)).trans ((c786_1.2.1 _ _ (by omega)).trans (hM.b4 1 (by decide))))).trans ((show g_opass (R 0) x0 lb (18) = R 0 (18) by unfold g_opass; rw [g_up_n _ _ (by omega), g_up_n _ _ (by omega)])).symm)
              · exact ((((u2_a _ _ (by omega)).trans ((c786_1.2.1 _ _ (by omega)).trans (hM.b4 2 (by decide))))).trans ((show g_opass (R 0) x0 lb (19) = R 0 (19) by unfold g_opass; rw [g_up_n _ _ (by omega), g_up_n _ _ (by omega)])).symm)
              · exact ((((u2_a _ _ (by omega)).trans ((c786_1.2.1 _ _ (by omega)).trans (hM.b4 3 (by decide))))).trans ((show g_opass (R 0) x0 lb (20) = R 0 (20) by unfold g_opass; rw [g_up_n _ _ (by omega), g_up_n _ _ (by omega)])).symm)
            have hb6 : (u2 N (k + 19) lb ((R 0 (36 + 13 * lb)) + (R 0 (1042 + 12 * x0)))) (k + 17) 6 = g_opass (R 0) x0 lb 23 := ((((u2_a _ _ (by omega)).trans ((c786_1.2.1 _ _ (by omega)).trans hM.b6))).trans ((show g_opass (R 0) x0 lb (23) = R 0 (23) by unfold g_opass; rw [g_up_n _ _ (by omega), g_up_n _ _ (by omega)])).symm)
            have hpd : ∀ l, l < 5 → (u2 N (k + 19) lb ((R 0 (36 + 13 * lb)) + (R 0 (1042 + 12 * x0)))) (k + 18) l = g_opass (R 0) x0 lb (35 + 13 * l) := fun l hl => (((u2_a _ _ (by omega)).trans ((c786_1.2.1 _ _ (by omega)).trans (hM.pd l hl)))).trans (by unfold g_opass; rw [g_up_n _ _ (by omega), g_up_n _ _ (by omega)])
            have hps : ∀ l, l < 5 → (u2 N (k + 19) lb ((R 0 (36 + 13 * lb)) + (R 0 (1042 + 12 * x0)))) (k + 19) l = g_opass (R 0) x0 lb (36 + 13 * l) := fun l hl => by
              by_cases e : l = lb
              · rw [e]; exact (((u2_s _ _ _ _)).trans ((show g_opass (R 0) x0 lb (36 + 13 * lb) = R 0 (36 + 13 * lb) + R 0 (1042 + 12 * x0) by unfold g_opass; rw [g_up_s])).symm)
              · exact (((u2_k _ _ e).trans ((c786_1.2.1 _ _ (by omega)).trans (hM.ps l hl)))).trans (by unfold g_opass; rw [g_up_n _ _ (by omega), g_up_n _ _ (by omega)])
            have hcc : g_opass (R 0) x0 lb (1042 + 12 * x0) ≤ R 0 (1042 + 12 * x0) + 5000 := by
              unfold g_opass
              rw [g_up_n _ _ (by omega), g_up_n _ _ (by omega)]
              omega
            exact qX.room (kc := kc) (ks := ks) (by omega) (by omega) (k0 _ _ _ _ _ _ _ _ _ (x) _ ((q_JW.act (i := x0) (I' := u2 M (ρ x0) 8 (lb : Int)) (L' := u2 N (k + 19) lb ((R 0 (36 + 13 * lb)) + (R 0 (1042 + 12 * x0)))) c786_0 c786_1 hW0 hEr (((u2_k _ _ (by decide)).trans ((c786_1.1 _ _ (by omega)).trans hx2))) hTd hZ0 hTw hl9 hl3.2 hnm hLy hV0 hx0 (fun q j hq => ((u2_a _ _ hq).trans rfl)) (fun q j h1 h2 h3 h4 => ((u2_a _ _ h4).trans rfl)) ⟨((((u2_k _ _ (by decide)).trans ((c786_1.1 _ _ (by omega)).trans hac0.kd))).trans ((show g_opass (R 0) x0 lb (1039 + 12 * x0) = R 0 (1039 + 12 * x0) by unfold g_opass; rw [g_up_n _ _ (by omega), g_up_n _ _ (by omega)])).symm), ((((u2_k _ _ (by decide)).trans ((c786_1.1 _ _ (by omega)).trans hac0.ad))).trans ((show g_opass (R 0) x0 lb (1040 + 12 * x0) = R 0 (1040 + 12 * x0) by unfold g_opass; rw [g_up_n _ _ (by omega), g_up_n _ _ (by omega)])).symm), ((((u2_k _ _ (by decide)).trans ((c786_1.1 _ _ (by omega)).trans hac0.bi))).trans ((show g_opass (R 0) x0 lb (1041 + 12 * x0) = R 0 (1041 + 12 * x0) by unfold g_opass; rw [g_up_n _ _ (by omega), g_up_n _ _ (by omega)])).symm), ((((u2_a _ _ nk19).trans ((c786_1.2.1 _ _ (by omega)).trans hac0.ce))).trans ((show g_opass (R 0) x0 lb (1042 + 12 * x0) = R 0 (1042 + 12 * x0) by unfold g_opass; rw [g_up_n _ _ (by omega), g_up_n _ _ (by omega)])).symm), ((((u2_k _ _ (by decide)).trans ((c786_1.1 _ _ (by omega)).trans hac0.st))).trans ((show g_opass (R 0) x0 lb (1043 + 12 * x0) = R 0 (1043 + 12 * x0) by unfold g_opass; rw [g_up_n _ _ (by omega), g_up_n _ _ (by omega)])).symm), ((((u2_k _ _ (by decide)).trans ((c786_1.1 _ _ (by omega)).trans hac0.ag))).trans ((show g_opass (R 0) x0 lb (1044 + 12 * x0) = R 0 (1044 + 12 * x0) by unfold g_opass; rw [g_up_n _ _ (by omega), g_up_n _ _ (by omega)])).symm), ((((u2_k _ _ (by decide)).trans ((c786_1.1 _ _ (by omega)).trans hac0.si))).trans ((show g_opass (R 0) x0 lb (1045 + 12 * x0) = R 0 (1045 + 12 * x0) by unfold g_opass; rw [g_up_n _ _ (by omega), g_up_n _ _ (by omega)])).symm), ((((u2_k _ _ (by decide)).trans ((c786_1.1 _ _ (by omega)).trans hac0.le))).trans ((show g_opass (R 0) x0 lb (1046 + 12 * x0) = R 0 (1046 + 12 * x0) by unfold g_opass; rw [g_up_n _ _ (by omega), g_up_n _ _ (by omega)])).symm), (((u2_s _ _ _ _)).trans ((show g_opass (R 0) x0 lb (1047 + 12 * x0) = (lb : Int) by unfold g_opass; rw [g_up_n _ _ (by omega), g_up_s])).symm), ((((u2_k _ _ (by decide)).trans ((c786_1.1 _ _ (by omega)).trans hac0.la))).trans ((show g_opass (R 0) x0 lb (1048 + 12 * x0) = R 0 (1048 + 12 * x0) by unfold g_opass; rw [g_up_n _ _ (by omega), g_up_n _ _ (by omega)])).symm), ((((u2_k _ _ (by decide)).trans ((c786_1.1 _ _ (by omega)).trans hac0.ha))).trans ((show g_opass (R 0) x0 lb (1050 + 12 * x0) = R 0 (1050 + 12 * x0) by unfold g_opass; rw [g_up_n _ _ (by omega), g_up_n _ _ (by omega)])).symm), ((((u2_k _ _ (by decide)).trans ((c786_1.1 _ _ (by omega)).trans hac0.nl))).trans ((show g_opass (R 0) x0 lb (1049 + 12 * x0) = R 0 (1049 + 12 * x0) by unfold g_opass; rw [g_up_n _ _ (by omega), g_up_n _ _ (by omega)])).symm)⟩ (fun x hx => by unfold g_rc at hx; unfold g_opass; rw [g_up_n _ _ (by omega), g_up_n _ _ (by omega)]) (by unfold g_opass; rw [g_up_n _ _ (by omega), g_up_n _ _ (by omega)]) (by unfold g_opass; rw [g_up_n _ _ (by omega), g_up_n _ _ (by omega)]) (by unfold g_opass; rw [g_up_n _ _ (by omega), g_up_n _ _ (by omega)]) (by unfold g_opass; rw [g_up_n _ _ (by omega), g_up_n _ _ (by omega)]) (fun j x a e y z => by unfold g_opass; rw [g_up_n _ _ (by omega), g_up_n _ _ (by omega)]) (fun x a => by unfold g_opass; rw [g_up_n _ _ (by omega), g_up_n _ _ (by omega)]) hb4 hb6 hpd hps hcap hcc hc hmo hn hsf).pre (by omega) hI0))

set_option maxRecDepth 100000 in
theorem lL_close1 {G : q_G} {F : q_F} {h : Nat} {Q : q_Q} {kc ks sz : Nat} {T : q_T} {I L : q_I} {P : q_P} {b d a0 was l9 tp bk k n9 c v w m x x0 ah dn ta ii b0 : Nat} {wh : Int} {B : Nat → Int} {R : Nat → Nat → Int} {E : Nat → Prop} {ρ σ : Nat → Nat}  (hF : q_ok G F YL_law h) (h9 : 30 ≤ h) (hA : q_A G b) (hE : q_CE T b bk tp B R I L P) (hW : q_OW E T I L P k v n9 ρ w m σ (R 0)) (hEr : ∀ q, E q → a0 ≤ q ∧ q < sz ∧ q ≠ was) (hx : I d 0 = (x : Int)) (hTd : T d = some (.inl 8)) (hZ : q_F0 sz I L P) (hTw : T was = some (.inr (9, 16))) (hl9 : R 0 0 = (l9 : Int)) (hl3 : 1 ≤ l9 ∧ l9 ≤ 3) (hnm : e_nms (R 0) l9) (hLy : b + 452 ≤ d ∧ d < a0 ∧ a0 ≤ sz) (hx0 : x0 < n9) (hcap : q_Cap (R 0) (5000 * (11 - (c : Int)))) (hc : c < 11) (hmo : R 0 2 ≤ 30 * (c : Int)) (hn : n9 ≤ 12) (hws : was < sz) (hsf : d_safe (10 - c) (12 - n9) (d_nx x) = true) (hop : R 0 (1043 + 12 * x0) = 0 ∨ R 0 (1043 + 12 * x0) = 1) (k0 : ∀ (T' : q_T) (I' L' : q_I) (P' : q_P) (sz' bk' : Nat) (R' : Nat → Nat → Int) (n' : Nat) (ρ' : Nat → Nat) (x' : Nat) (is : Int), q_PA b d a0 was l9 tp B T I L P sz bk R k n9 ρ c T' I' L' P' sz' bk' R' n' ρ' x' is → qX G F Q kc ks 919 [(13, qI is), (10, .ref ah), (9, qI (c : Int)), (8, qI (dn : Int)), (7, .ref was), (6, .ref k), (5, .ref d), (4, .ref ta), (3, .ref b), (2, qI (ii : Int)), (1, qI 1), (0, .ref b0)] [] sz' T' I' L' P') : qX G F Q (kc + 1) (ks + 6) 841 [(14, qI wh), (13, qI 1), (12, .ref (ρ x0)), (11, qI (x0 : Int)), (10, .ref ah), (9, qI (c : Int)), (8, qI (dn : Int)), (7, .ref was), (6, .ref k), (5, .ref d), (4, .ref ta), (3, .ref b), (2, qI (ii : Int)), (1, qI 1), (0, .ref b0)] [] sz T I L P := by
  have hO := hW.ot
  have hM := hW.om
  have hRk := hW.rr
  have hro := hE.ro 0 (Nat.zero_le _)
  have hV0 := hro.1.1
  have hV0l := hV0.lands
  have hV0m := hV0.month
  have hil : (x0 : Int) < R 0 1 := by have := hM.nn; omega
  have hVA := hro.1.2.1 x0 hil
  rw [if_neg (Nat.not_lt_zero x0)] at hVA
  have hTa := hM.ta x0 hx0
  have hac := hM.ac x0 hx0
  have hst4 : I (ρ x0) 4 = R 0 (1043 + 12 * x0) := hac.st
  have hρ := hEr _ (hM.ea x0 hx0)
  have hk0 := hEr k (hW.ek k (Nat.le_refl _) (by omega))
  have hk17 := hEr (k + 17) (hW.ek (k + 17) (by omega) (by omega))
  have hk18 := hEr (k + 18) (hW.ek (k + 18) (by omega) (by omega))
  have hk19 := hEr (k + 19) (hW.ek (k + 19) (by omega) (by omega))
  have nk : ρ x0 ≠ k := fun e => q_Tne hO.t0 hTa (by intro z; cases z) e.symm
  have nk17 : ρ x0 ≠ k + 17 := fun e => q_Tne hO.t17 hTa (by intro z; cases z) e.symm
  have nk18 : ρ x0 ≠ k + 18 := fun e => q_Tne hO.t18 hTa (by intro z; cases z) e.symm
  have nk19 : ρ x0 ≠ k + 19 := fun e => q_Tne hO.t19 hTa (by intro z; cases z) e.symm
  have f1 := hVA.state
  have f2 := hVA.cents
  have f3 := hVA.nl
  have f4 := hVA.holder
  have f5 := hVA.hh
  have f6 := hVA.addr
  have f7 := hVA.since
  have hcx : R 0 (1042 + 12 * x0) + 5000 ≤ 100000000 := by
    have h1 := hcap x0 hil
    have h2 := g_cap_le (u := (R 0 2).toNat) (v := 330) (by omega)
    have h3 := g_cap_330
    omega
  refine q_aload hF 2 rfl dL_law_841 ?_
  have e4 : I (ρ x0) 4 = R 0 (1043 + 12 * x0) := hac.st
  refine q_callV (kc := kc + 1) (ks := ks + 6) (mc' := 0) (ms' := 0) (h' := 0) (st := []) hF vl_RL_252 rfl [] rfl rfl hTa (by omega) (Nat.le_of_ble_eq_true rfl) dL_law_843 ?_
  refine mX8_isOpen1 hTa (by rw [e4]; exact hop) ?_
  refine q_ifeq hF (by decide) dL_law_846 (fun c846 => ?_) (fun c846 => ?_)
  · exact absurd c846 (by decide)
  · refine q_aload hF 9 rfl dL_law_849 ?_
    refine q_iconst hF dL_law_851 ?_
    refine q_callV (kc := kc + 1) (ks := ks + 6) (mc' := 0) (ms' := 0) (h' := 0) (st := []) hF vl_RL_145 rfl [qI 2] rfl rfl hTd (by omega) (Nat.le_of_ble_eq_true rfl) dL_law_852 ?_
    refine mX9_of (m := 2) hTd (q_Ale hA (by omega)) (x := x) hx (by omega) (fun v_1 c852_0_1 c852_1_1 => ?_)
    refine q_ifne hF (by omega) dL_law_855 (fun c855 => ?_) (fun c855 => ?_)
    · refine q_iconst hF dL_law_862 ?_
      refine q_istore hF (ls' := [(13, qI 0), (14, qI wh), (12, .ref (ρ x0)), (11, qI (x0 : Int)), (10, .ref ah), (9, qI (c : Int)), (8, qI (dn : Int)), (7, .ref was), (6, .ref k), (5, .ref d), (4, .ref ta), (3, .ref b), (2, qI (ii : Int)), (1, qI 1), (0, .ref b0)]) (by decide) rfl dL_law_863 ?_
      refine q_iload hF 0 rfl dL_law_865 ?_
      refine q_ifeq hF (by decide) dL_law_867 (fun c867 => ?_) (fun c867 => ?_)
      · refine q_sub [0, 4, 5, 6, 7, 8, 9, 10, 11, 12, 13, 14] rfl ?_
        have hE0 : q_CE T b bk tp B R (u2 I d 0 ((d_nx x : Nat) : Int)) L P := hE.mv (fun _ _ _ => rfl) (fun q j a c => ((u2_a _ _ (by omega)).trans rfl)) (fun _ _ _ _ => rfl) (fun _ _ _ _ => rfl)
        have hI0 : ∀ q j, q ≠ d → (u2 I d 0 ((d_nx x : Nat) : Int)) q j = I q j := fun q j hq => ((u2_a _ _ hq).trans rfl)
        refine qX.room (kc := kc) (ks := ks) (by omega) (by omega) (k0 _ _ _ _ _ _ _ _ _ (d_nx x) _ (q_JW.ref hE0 hW hEr ((u2_s _ _ _ _)) hTd hZ hTw hl9 hnm hLy (Nat.le_refl _) (fun q j a e => hI0 q j e) hcap hc hmo hn hsf))
      · exact absurd c867 (by decide)
    · refine q_iconst hF dL_law_858 ?_
      refine q_goto hF dL_law_859 ?_
      refine q_istore hF (ls' := [(13, qI 1), (14, qI wh), (12, .ref (ρ x0)), (11, qI (x0 : Int)), (10, .ref ah), (9, qI (c : Int)), (8, qI (dn : Int)), (7, .ref was), (6, .ref k), (5, .ref d), (4, .ref ta), (3, .ref b), (2, qI (ii : Int)), (1, qI 1), (0, .ref b0)]) (by decide) rfl dL_law_863 ?_
      refine q_iload hF 0 rfl dL_law_865 ?_
      refine q_ifeq hF (by decide) dL_law_867 (fun c867 => ?_) (fun c867 => ?_)
      · exact absurd c867 (by decide)
      · refine q_aload_n hF 11 rfl rfl dL_law_870 ?_
        refine q_iload hF 3 rfl dL_law_871 ?_
        have hE0 : q_CE T b bk tp B R (u2 I d 0 ((d_nx x : Nat) : Int)) L P := hE.mv (fun _ _ _ => rfl) (fun q j a c => ((u2_a _ _ (by omega)).trans rfl)) (fun _ _ _ _ => rfl) (fun _ _ _ _ => rfl)
        have hI0 : ∀ q j, q ≠ d → (u2 I d 0 ((d_nx x : Nat) : Int)) q j = I q j := fun q j hq => ((u2_a _ _ hq).trans rfl)
        have hW0 : q_OW E T (u2 I d 0 ((d_nx x : Nat) : Int)) L P k v n9 ρ w m σ (R 0) := hW.mv (fun _ z => z) (fun _ _ => rfl) (fun q j hq => hI0 q j (by have := hEr q hq; omega)) (fun _ _ _ => rfl) (fun _ _ _ => rfl)
        have hac0 := hW0.om.ac x0 hx0
        have hx2 : (u2 I d 0 ((d_nx x : Nat) : Int)) d 0 = ((d_nx x : Nat) : Int) := (u2_s _ _ _ _)
        have hZ0 : q_F0 sz (u2 I d 0 ((d_nx x : Nat) : Int)) L P := fun q j hq => ⟨(hI0 q j (by omega)).trans (hZ q j hq).1, (hZ q j hq).2⟩
        refine q_callSH (kc := kc) (ks := ks) (mc' := 1) (ms' := 6) (h' := 5) (st := []) hF sl_RL_361 rfl [.ref b, qI (x0 : Int)] rfl rfl (by omega) (Nat.le_of_ble_eq_true rfl) dL_law_873 ?_
        refine a_close hA hE0 hil hop (fun M N P9 c873_0 c873_1 => ?_)
        refine q_i2l hF (by omega) dL_law_876 ?_
        refine q_aload hF 2 rfl dL_law_877 ?_
        refine q_getLv hF (z := R 0 (1042 + 12 * x0)) fl_RL_227 hTa ((c873_1.2.1 _ _ (by omega)).trans hac0.ce) dL_law_879 ?_
        refine q_cmpne_s hF (a := R 0 (1042 + 12 * x0)) dL_law_882 dL_law_883 ?_
        refine q_iconst hF dL_law_886 ?_
        refine q_goto hF dL_law_887 ?_
        refine q_istore_n hF (ls' := [(1, qI 1), (13, qI 1), (14, qI wh), (12, .ref (ρ x0)), (11, qI (x0 : Int)), (10, .ref ah), (9, qI (c : Int)), (8, qI (dn : Int)), (7, .ref was), (6, .ref k), (5, .ref d), (4, .ref ta), (3, .ref b), (2, qI (ii : Int)), (0, .ref b0)]) rfl (by decide) rfl dL_law_891 ?_
        refine q_aload hF 9 rfl dL_law_892 ?_
        refine q_getA hF fl_RL_235 rfl hO.t0 ((c873_1.2.2 _ _ (by omega)).trans hO.p12) dL_law_894 ?_
        refine q_iconst hF dL_law_897 ?_
        refine q_dup2 hF rfl rfl dL_law_898 ?_
        refine q_laloadv hF (z := R 0 19) (n := 7) 2 hO.t17 rfl (by decide) (by decide) ((c873_1.2.1 _ _ (by omega)).trans (hM.b4 2 (by decide))) dL_law_899 ?_
        refine q_aload hF 3 rfl dL_law_900 ?_
        refine q_getLv hF (z := R 0 (1042 + 12 * x0)) fl_RL_227 hTa ((c873_1.2.1 _ _ (by omega)).trans hac0.ce) dL_law_902 ?_
        refine q_ladd hF dL_law_905 ?_
        refine q_lastorev hF (n := 7) 2 hO.t17 (q_Ale hA (by omega)) rfl (by decide) (by decide) dL_law_906 ?_
        refine q_aload hF 3 rfl dL_law_907 ?_
        refine q_lconst hF (z := 0) rfl dL_law_909 ?_
        refine q_putL hF fl_RL_227 hTa (q_Ale hA (by omega)) dL_law_910 ?_
        refine q_aload hF 3 rfl dL_law_913 ?_
        refine q_iconst hF dL_law_915 ?_
        refine q_putI hF fl_RL_260 hTa (q_Ale hA (by omega)) dL_law_916 ?_
        refine q_sub [1, 5, 6, 7, 8, 9, 10, 11, 12, 13, 0, 14] rfl ?_
        have hb4 : ∀ x, x < 4 → (u2 (u2 N (k + 17) 2 ((R 0 19) + (R 0 (1042 + 12 * x0)))) (ρ x0) 3 0) (k + 17) x = g_oclose (R 0) x0 (17 + x) := fun x hx => by
          rcases (show x = 0 ∨ x = 1 ∨ x = 2 ∨ x = 3 by omega) with rfl | rfl | rfl | rfl
          · exact ((((u2_k _ _ (by decide)).trans ((u2_k _ _ (by decide)).trans ((c873_1.2.1 _ _ (by omega)).trans (hM.b4 0 (by decide)))))).trans ((show g_oclose (R 0) x0 (17) = R 0 (17) by unfold g_oclose; rw [g_up_n _ _ (by omega), g_up_n _ _ (by omega), g_up_n _ _ (by omega)])).symm)
          · exact ((((u2_k _ _ (by decide)).trans ((u2_k _ _ (by decide)).trans ((c873_1.2.1 _ _ (by omega)).trans (hM.b4 1 (by decide)))))).trans ((show g_oclose (R 0) x0 (18) = R 0 (18) by unfold g_oclose; rw [g_up_n _ _ (by omega), g_up_n _ _ (by omega), g_up_n _ _ (by omega)])).symm)
          · exact ((((u2_k _ _ (by decide)).trans (u2_s _ _ _ _))).trans ((show g_oclose (R 0) x0 (19) = R 0 19 + R 0 (1042 + 12 * x0) by unfold g_oclose; rw [g_up_n _ _ (by omega), g_up_n _ _ (by omega), g_up_s])).symm)
          · exact ((((u2_a _ _ nk17.symm).trans ((u2_k _ _ (by decide)).trans ((c873_1.2.1 _ _ (by omega)).trans (hM.b4 3 (by decide)))))).trans ((show g_oclose (R 0) x0 (20) = R 0 (20) by unfold g_oclose; rw [g_up_n _ _ (by omega), g_up_n _ _ (by omega), g_up_n _ _ (by omega)])).symm)
        have hb6 : (u2 (u2 N (k + 17) 2 ((R 0 19) + (R 0 (1042 + 12 * x0)))) (ρ x0) 3 0) (k + 17) 6 = g_oclose (R 0) x0 23 := ((((u2_k _ _ (by decide)).trans ((u2_k _ _ (by decide)).trans ((c873_1.2.1 _ _ (by omega)).trans hM.b6)))).trans ((show g_oclose (R 0) x0 (23) = R 0 (23) by unfold g_oclose; rw [g_up_n _ _ (by omega), g_up_n _ _ (by omega), g_up_n _ _ (by omega)])).symm)
        have hpd : ∀ l, l < 5 → (u2 (u2 N (k + 17) 2 ((R 0 19) + (R 0 (1042 + 12 * x0)))) (ρ x0) 3 0) (k + 18) l = g_oclose (R 0) x0 (35 + 13 * l) := fun l hl => (((u2_a _ _ nk18.symm).trans ((u2_a _ _ (by omega)).trans ((c873_1.2.1 _ _ (by omega)).trans (hM.pd l hl))))).trans (by unfold g_oclose; rw [g_up_n _ _ (by omega), g_up_n _ _ (by omega), g_up_n _ _ (by omega)])
        have hps : ∀ l, l < 5 → (u2 (u2 N (k + 17) 2 ((R 0 19) + (R 0 (1042 + 12 * x0)))) (ρ x0) 3 0) (k + 19) l = g_oclose (R 0) x0 (36 + 13 * l) := fun l hl => (((u2_a _ _ nk19.symm).trans ((u2_a _ _ (by omega)).trans ((c873_1.2.1 _ _ (by omega)).trans (hM.ps l hl))))).trans (by unfold g_oclose; rw [g_up_n _ _ (by omega), g_up_n _ _ (by omega), g_up_n _ _ (by omega)])
        have hcc : g_oclose (R 0) x0 (1042 + 12 * x0) ≤ R 0 (1042 + 12 * x0) + 5000 := by
          unfold g_oclose
          rw [g_up_n _ _ (by omega), g_up_s]
          omega
        exact qX.room (kc := kc) (ks := ks) (by omega) (by omega) (k0 _ _ _ _ _ _ _ _ _ (d_nx x) _ ((q_JW.act (i := x0) (I' := u2 M (ρ x0) 4 4) (L' := u2 (u2 N (k + 17) 2 ((R 0 19) + (R 0 (1042 + 12 * x0)))) (ρ x0) 3 0) c873_0 c873_1 hW0 hEr (((u2_k _ _ (by decide)).trans ((c873_1.1 _ _ (by omega)).trans hx2))) hTd hZ0 hTw hl9 hl3.2 hnm hLy hV0 hx0 (fun q j hq => ((u2_a _ _ hq).trans rfl)) (fun q j h1 h2 h3 h4 => ((u2_a _ _ h1).trans ((u2_a _ _ h2).trans rfl))) ⟨((((u2_k _ _ (by decide)).trans ((c873_1.1 _ _ (by omega)).trans hac0.kd))).trans ((show g_oclose (R 0) x0 (1039 + 12 * x0) = R 0 (1039 + 12 * x0) by unfold g_oclose; rw [g_up_n _ _ (by omega), g_up_n _ _ (by omega), g_up_n _ _ (by omega)])).symm), ((((u2_k _ _ (by decide)).trans ((c873_1.1 _ _ (by omega)).trans hac0.ad))).trans ((show g_oclose (R 0) x0 (1040 + 12 * x0) = R 0 (1040 + 12 * x0) by unfold g_oclose; rw [g_up_n _ _ (by omega), g_up_n _ _ (by omega), g_up_n _ _ (by omega)])).symm), ((((u2_k _ _ (by decide)).trans ((c873_1.1 _ _ (by omega)).trans hac0.bi))).trans ((show g_oclose (R 0) x0 (1041 + 12 * x0) = R 0 (1041 + 12 * x0) by unfold g_oclose; rw [g_up_n _ _ (by omega), g_up_n _ _ (by omega), g_up_n _ _ (by omega)])).symm), (((u2_s _ _ _ _)).trans ((show g_oclose (R 0) x0 (1042 + 12 * x0) = 0 by unfold g_oclose; rw [g_up_n _ _ (by omega), g_up_s])).symm), (((u2_s _ _ _ _)).trans ((show g_oclose (R 0) x0 (1043 + 12 * x0) = 4 by unfold g_oclose; rw [g_up_s])).symm), ((((u2_k _ _ (by decide)).trans ((c873_1.1 _ _ (by omega)).trans hac0.ag))).trans ((show g_oclose (R 0) x0 (1044 + 12 * x0) = R 0 (1044 + 12 * x0) by unfold g_oclose; rw [g_up_n _ _ (by omega), g_up_n _ _ (by omega), g_up_n _ _ (by omega)])).symm), ((((u2_k _ _ (by decide)).trans ((c873_1.1 _ _ (by omega)).trans hac0.si))).trans ((show g_oclose (R 0) x0 (1045 + 12 * x0) = R 0 (1045 + 12 * x0) by unfold g_oclose; rw [g_up_n _ _ (by omega), g_up_n _ _ (by omega), g_up_n _ _ (by omega)])).symm), ((((u2_k _ _ (by decide)).trans ((c873_1.1 _ _ (by omega)).trans hac0.le))).trans ((show g_oclose (R 0) x0 (1046 + 12 * x0) = R 0 (1046 + 12 * x0) by unfold g_oclose; rw [g_up_n _ _ (by omega), g_up_n _ _ (by omega), g_up_n _ _ (by omega)])).symm), ((((u2_k _ _ (by decide)).trans ((c873_1.1 _ _ (by omega)).trans hac0.ho))).trans ((show g_oclose (R 0) x0 (1047 + 12 * x0) = R 0 (1047 + 12 * x0) by unfold g_oclose; rw [g_up_n _ _ (by omega), g_up_n _ _ (by omega), g_up_n _ _ (by omega)])).symm), ((((u2_k _ _ (by decide)).trans ((c873_1.1 _ _ (by omega)).trans hac0.la))).trans ((show g_oclose (R 0) x0 (1048 + 12 * x0) = R 0 (1048 + 12 * x0) by unfold g_oclose; rw [g_up_n _ _ (by omega), g_up_n _ _ (by omega), g_up_n _ _ (by omega)])).symm), ((((u2_k _ _ (by decide)).trans ((c873_1.1 _ _ (by omega)).trans hac0.ha))).trans ((show g_oclose (R 0) x0 (1050 + 12 * x0) = R 0 (1050 + 12 * x0) by unfold g_oclose; rw [g_up_n _ _ (by omega), g_up_n _ _ (by omega), g_up_n _ _ (by omega)])).symm), ((((u2_k _ _ (by decide)).trans ((c873_1.1 _ _ (by omega)).trans hac0.nl))).trans ((show g_oclose (R 0) x0 (1049 + 12 * x0) = R 0 (1049 + 12 * x0) by unfold g_oclose; rw [g_up_n _ _ (by omega), g_up_n _ _ (by omega), g_up_n _ _ (by omega)])).symm)⟩ (fun x hx => by unfold g_rc at hx; unfold g_oclose; rw [g_up_n _ _ (by omega), g_up_n _ _ (by omega), g_up_n _ _ (by omega)]) (by unfold g_oclose; rw [g_up_n _ _ (by omega), g_up_n _ _ (by omega), g_up_n _ _ (by omega)]) (by unfold g_oclose; rw [g_up_n _ _ (by omega), g_up_n _ _ (by omega), g_up_n _ _ (by omega)]) (by unfold g_oclose; rw [g_up_n _ _ (by omega), g_up_n _ _ (by omega), g_up_n _ _ (by omega)]) (by unfold g_oclose; rw [g_up_n _ _ (by omega), g_up_n _ _ (by omega), g_up_n _ _ (by omega)]) (fun j x a e y z => by unfold g_oclose; rw [g_up_n _ _ (by omega), g_up_n _ _ (by omega), g_up_n _ _ (by omega)]) (fun x a => by unfold g_oclose; rw [g_up_n _ _ (by omega), g_up_n _ _ (by omega), g_up_n _ _ (by omega)]) hb4 hb6 hpd hps hcap hcc hc hmo hn hsf).pre (by omega) hI0))

set_option maxRecDepth 100000 in
theorem lL_close0 {G : q_G} {F : q_F} {h : Nat} {Q : q_Q} {kc ks sz : Nat} {T : q_T} {I L : q_I} {P : q_P} {b d a0 was l9 tp bk k n9 c v w m x x0 ah dn ta ii b0 : Nat} {wh : Int} {B : Nat → Int} {R : Nat → Nat → Int} {E : Nat → Prop} {ρ σ : Nat → Nat}  (hF : q_ok G F YL_law h) (h9 : 30 ≤ h) (hA : q_A G b) (hE : q_CE T b bk tp B R I L P) (hW : q_OW E T I L P k v n9 ρ w m σ (R 0)) (hEr : ∀ q, E q → a0 ≤ q ∧ q < sz ∧ q ≠ was) (hx : I d 0 = (x : Int)) (hTd : T d = some (.inl 8)) (hZ : q_F0 sz I L P) (hTw : T was = some (.inr (9, 16))) (hl9 : R 0 0 = (l9 : Int)) (hl3 : 1 ≤ l9 ∧ l9 ≤ 3) (hnm : e_nms (R 0) l9) (hLy : b + 452 ≤ d ∧ d < a0 ∧ a0 ≤ sz) (hx0 : x0 < n9) (hcap : q_Cap (R 0) (5000 * (11 - (c : Int)))) (hc : c < 11) (hmo : R 0 2 ≤ 30 * (c : Int)) (hn : n9 ≤ 12) (hws : was < sz) (hsf : d_safe (10 - c) (12 - n9) x = true) (hop : ¬ (R 0 (1043 + 12 * x0) = 0 ∨ R 0 (1043 + 12 * x0) = 1)) (k0 : ∀ (T' : q_T) (I' L' : q_I) (P' : q_P) (sz' bk' : Nat) (R' : Nat → Nat → Int) (n' : Nat) (ρ' : Nat → Nat) (x' : Nat) (is : Int), q_PA b d a0 was l9 tp B T I L P sz bk R k n9 ρ c T' I' L' P' sz' bk' R' n' ρ' x' is → qX G F Q kc ks 919 [(13, qI is), (10, .ref ah), (9, qI (c : Int)), (8, qI (dn : Int)), (7, .ref was), (6, .ref k), (5, .ref d), (4, .ref ta), (3, .ref b), (2, qI (ii : Int)), (1, qI 1), (0, .ref b0)] [] sz' T' I' L' P') : qX G F Q (kc + 1) (ks + 6) 841 [(14, qI wh), (13, qI 1), (12, .ref (ρ x0)), (11, qI (x0 : Int)), (10, .ref ah), (9, qI (c : Int)), (8, qI (dn : Int)), (7, .ref was), (6, .ref k), (5, .ref d), (4, .ref ta), (3, .ref b), (2, qI (ii : Int)), (1, qI 1), (0, .ref b0)] [] sz T I L P := by
  have hO := hW.ot
  have hM := hW.om
  have hRk := hW.rr
  have hro := hE.ro 0 (Nat.zero_le _)
  have hV0 := hro.1.1
  have hV0l := hV0.lands
  have hV0m := hV0.month
  have hil : (x0 : Int) < R 0 1 := by have := hM.nn; omega
  have hVA := hro.1.2.1 x0 hil
  rw [if_neg (Nat.not_lt_zero x0)] at hVA
  have hTa := hM.ta x0 hx0
  have hac := hM.ac x0 hx0
  have hst4 : I (ρ x0) 4 = R 0 (1043 + 12 * x0) := hac.st
  have hρ := hEr _ (hM.ea x0 hx0)
  have hk0 := hEr k (hW.ek k (Nat.le_refl _) (by omega))
  have hk17 := hEr (k + 17) (hW.ek (k + 17) (by omega) (by omega))
  have hk18 := hEr (k + 18) (hW.ek (k + 18) (by omega) (by omega))
  have hk19 := hEr (k + 19) (hW.ek (k + 19) (by omega) (by omega))
  have nk : ρ x0 ≠ k := fun e => q_Tne hO.t0 hTa (by intro z; cases z) e.symm
  have nk17 : ρ x0 ≠ k + 17 := fun e => q_Tne hO.t17 hTa (by intro z; cases z) e.symm
  have nk18 : ρ x0 ≠ k + 18 := fun e => q_Tne hO.t18 hTa (by intro z; cases z) e.symm
  have nk19 : ρ x0 ≠ k + 19 := fun e => q_Tne hO.t19 hTa (by intro z; cases z) e.symm
  have f1 := hVA.state
  have f2 := hVA.cents
  have f3 := hVA.nl
  have f4 := hVA.holder
  have f5 := hVA.hh
  have f6 := hVA.addr
  have f7 := hVA.since
  have hcx : R 0 (1042 + 12 * x0) + 5000 ≤ 100000000 := by
    have h1 := hcap x0 hil
    have h2 := g_cap_le (u := (R 0 2).toNat) (v := 330) (by omega)
    have h3 := g_cap_330
    omega
  refine q_aload hF 2 rfl dL_law_841 ?_
  have e4 : I (ρ x0) 4 = R 0 (1043 + 12 * x0) := hac.st
  refine q_callV (kc := kc + 1) (ks := ks + 6) (mc' := 0) (ms' := 0) (h' := 0) (st := []) hF vl_RL_252 rfl [] rfl rfl hTa (by omega) (Nat.le_of_ble_eq_true rfl) dL_law_843 ?_
  refine mX8_isOpen0 hTa (by rw [e4]; exact f1) (by rw [e4]; exact hop) ?_
  refine q_ifeq hF (by decide) dL_law_846 (fun c846 => ?_) (fun c846 => ?_)
  · refine q_iconst hF dL_law_862 ?_
    refine q_istore hF (ls' := [(13, qI 0), (14, qI wh), (12, .ref (ρ x0)), (11, qI (x0 : Int)), (10, .ref ah), (9, qI (c : Int)), (8, qI (dn : Int)), (7, .ref was), (6, .ref k), (5, .ref d), (4, .ref ta), (3, .ref b), (2, qI (ii : Int)), (1, qI 1), (0, .ref b0)]) (by decide) rfl dL_law_863 ?_
    refine q_iload hF 0 rfl dL_law_865 ?_
    refine q_ifeq hF (by decide) dL_law_867 (fun c867 => ?_) (fun c867 => ?_)
    · refine q_sub [0, 4, 5, 6, 7, 8, 9, 10, 11, 12, 13, 14] rfl ?_
      have hE0 : q_CE T b bk tp B R I L P := hE.mv (fun _ _ _ => rfl) (fun q j a c => rfl) (fun _ _ _ _ => rfl) (fun _ _ _ _ => rfl)
      have hI0 : ∀ q j, q ≠ d → I q j = I q j := fun q j hq => rfl
      refine qX.room (kc := kc) (ks := ks) (by omega) (by omega) (k0 _ _ _ _ _ _ _ _ _ (x) _ (q_JW.ref hE0 hW hEr (hx) hTd hZ hTw hl9 hnm hLy (Nat.le_refl _) (fun q j a e => hI0 q j e) hcap hc hmo hn hsf))
    · exact absurd c867 (by decide)
  · exact absurd c846 (by decide)
