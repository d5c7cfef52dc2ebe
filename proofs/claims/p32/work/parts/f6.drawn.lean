/-! a bank drawn and told: all -/
/-- a new bank stands as nothing told does -/
theorem q_ONew.ds {k l9 : Nat} {T T' : q_T} {I L I' L' : q_I} {P P' : q_P} {J : q_I} (h : q_ONew k T I L P T' I' L' P') (hJ0 : J k 0 = (l9 : Int)) (hJ : ∀ q j, k ≤ q → (q = k → j ≠ 0) → J q j = I' q j) : q_DS T' J L' P' k (k + 20) l9 0 g_begin := by
  obtain ⟨a1, a2, a3, ⟨a4, a5, a6⟩, ⟨a7, a8, a9⟩, b1, ⟨b2, b3, b4⟩, b5, b6, b7, b8⟩ := h
  have e : ∀ x, x ≠ 3 → x ≠ 8 → x ≠ 9 → x ≠ 10 → x ≠ 11 → g_begin x = 0 := fun x c1 c2 c3 c4 c5 => by
    unfold g_begin
    rw [g_up_n _ _ c5, g_up_n _ _ c4, g_up_n _ _ c3, g_up_n _ _ c2, g_up_n _ _ c1]
  have hz : ∀ q j, k ≤ q → q ≠ k + 14 → (q = k → j ≠ 4 ∧ j ≠ 0) → J q j = 0 := fun q j c1 c2 c3 => (hJ q j c1 (fun z => (c3 z).2)).trans (b5 q j c1 c2 (fun z => (c3 z).1))
  refine ⟨a3, hJ0, ⟨(hJ _ _ (Nat.le_refl _) (fun _ => by decide)).trans (b1.trans (by decide)), (hz _ _ (Nat.le_refl _) (by omega) (fun _ => by decide)).trans (by decide), (hz _ _ (Nat.le_refl _) (by omega) (fun _ => by decide)).trans (by decide), fun l i h1 _ _ => absurd h1 (by rw [show g_begin 0 = 0 by decide]; omega), fun i hi => (hz _ _ (by omega) (by omega) (by omega)).trans (e _ (by omega) (by omega) (by omega) (by omega) (by omega)).symm, ⟨k + 14, 3, a7, ⟨Or.inl rfl, by omega⟩, a4, by decide, by decide, fun j hj => ?_⟩, fun i j hi hj => ⟨Or.inl ⟨e _ (by omega) (by omega) (by omega) (by omega) (by omega), b7 i j hi⟩, by rw [e _ (by omega) (by omega) (by omega) (by omega) (by omega)]; exact Int.le_refl _⟩⟩, ⟨a8, a9, a5, a6, hz _ _ (Nat.le_refl _) (by omega) (fun _ => by decide), hz _ _ (Nat.le_refl _) (by omega) (fun _ => by decide)⟩, b6, fun q j hq => ⟨hz _ _ (by omega) (by omega) (by omega), (b8 q j hq).2⟩, Nat.le_refl _⟩
  rcases (show j = 0 ∨ j = 1 ∨ j = 2 by omega) with rfl | rfl | rfl
  · exact (hJ _ _ (by omega) (by omega)).trans (b2.trans (by decide))
  · exact (hJ _ _ (by omega) (by omega)).trans (b3.trans (by decide))
  · exact (hJ _ _ (by omega) (by omega)).trans (b4.trans (by decide))
/-- .. and when it is told, it is the bank of that row -/
theorem q_DS.own {K sz l9 cd : Nat} {T : q_T} {I L I' L' : q_I} {P P' : q_P} {t : Nat → Int} (h : q_DS T I L P K sz l9 cd t) (h0 : t 0 = (l9 : Int)) (hF : g_fresh (g_zap t)) (hI : ∀ q j, K ≤ q → I' q j = I q j) (hL : ∀ q j, K ≤ q → L' q j = 0) (hP : ∀ q j, K ≤ q → P' q j = P q j) (hv : g_V0 (g_zap t)) : q_OW (fun q => K ≤ q ∧ q < sz) T I' L' P' K (K + 15) 0 (fun _ => 0) (K + 16) 0 (fun _ => 0) (g_zap t) := by
  have hs := h.s20
  have e : ∀ x, x < 1243 → g_zap t x = t x := fun x hx => g_zap_lt hx
  obtain ⟨z1, z2, z6, z7, z17, z35⟩ := hF
  obtain ⟨a1, a2, ⟨b1, b2, b3, b4, b5, ⟨o, n, o1, o2, o3, o4, o5, o6⟩, b7⟩, ⟨c1, c2, c3, c4, c5, c6⟩, a5, a6, a7⟩ := h
  have hOT : q_OT T P' K := a1.mv (fun _ _ _ => rfl) (fun q j a _ _ _ => hP q j a)
  refine ⟨hOT, fun q a b => ⟨a, by omega⟩, ⟨(hI _ _ (by omega)).trans (a2.trans (h0.symm.trans (e _ (by omega)).symm)), (hI _ _ (by omega)).trans (b1.trans (e _ (by omega)).symm), (hI _ _ (by omega)).trans (b2.trans (e _ (by omega)).symm), (hI _ _ (by omega)).trans (b3.trans (e _ (by omega)).symm), fun l i x y z => (hI _ _ (by omega)).trans ((b4 l i (by rw [e 0 (by omega)] at x; exact x) y z).trans (e _ (by omega)).symm), fun i hi => (hI _ _ (by omega)).trans ((b5 i hi).trans (e _ (by omega)).symm), ⟨o, n, (hP _ _ (by omega)).trans o1, ⟨by omega, o2.2⟩, o3, (e _ (by omega)).trans o4, o5, fun j hj => (hI _ _ (by omega)).trans ((o6 j hj).trans (e _ (by omega)).symm)⟩, fun i j hi hj => ?_⟩, ?_⟩
  · obtain ⟨x, y⟩ := b7 i j hi hj
    have f1 : g_zap t (90 + 2 * (5 * i + j)) = t (90 + 2 * (5 * i + j)) := e _ (by omega)
    have hb := hv.laws (5 * i + j) (by omega)
    have x2 := x.mv (E' := fun q => K ≤ q ∧ q < sz) (fun q z => ⟨by have := z.1; omega, z.2⟩) (fun _ _ => rfl) (hP _ _ (by omega)) (fun q z _ a => hI q a (by have := z.1; omega))
    unfold q_OL at x2 ⊢
    rw [f1, e _ (by omega), g_dec_ext (t := t) (t' := g_zap t) _ _ (fun x _ h2 => e _ (by rw [← f1] at h2; omega))]
    exact x2
  · exact ⟨(hI _ _ (by omega)).trans (c5.trans z2.symm), (hI _ _ (by omega)).trans (c6.trans z7.symm), (hP _ _ (by omega)).trans c1, c3, ⟨by omega, by omega⟩, z1, fun i hi => absurd hi (by omega), fun i hi => absurd hi (by omega), fun i hi => absurd hi (by omega), fun i hi => absurd hi (by omega), fun i j hi => absurd hi (by omega), (hP _ _ (by omega)).trans c2, c4, ⟨by omega, by omega⟩, z6, fun j hj => absurd hj (by omega), fun j hj => absurd hj (by omega), fun j hj => absurd hj (by omega), fun j i hj => absurd hj (by omega), fun i hi => (hL _ _ (by omega)).trans (z17 _ (by omega) (by omega)).symm, (hL _ _ (by omega)).trans (z17 23 (by omega) (by omega)).symm, fun l hl => (hL _ _ (by omega)).trans (z35 l hl).1.symm, fun l hl => (hL _ _ (by omega)).trans (z35 l hl).2.symm⟩

set_option maxRecDepth 100000 in
theorem mL_drawn {G : q_G} {sz : Nat} {T : q_T} {I L : q_I} {P : q_P} {Q : q_Q} {b : Nat} {ta : Nat} {d : Nat} {bk x : Nat} {R : Nat → Nat → Int} (hA : q_A G b) (hB : q_TB T b bk R I L P ta []) (hx : I d 0 = (x : Int)) (hL1 : b + 452 ≤ ta) (hL2 : ta < d) (hL3 : d < sz) (hTd :  T d = some (.inl 8)) (hZ : q_F0 sz I L P) (k0 : ∀ (T' : q_T) (B' : Nat → Int) (M N : q_I) (P' : q_P) (sz' : Nat) (r' : Nat → Int), sz + 20 ≤ sz' → (g_V0 r' ∧ g_fresh r' ∧ g_Zr r') → q_CE T' b (g_nb bk) 0 B' (g_Rn R bk r') M N P' → M d 0 = ((f_all x).2 : Int) → q_OW (fun q => sz ≤ q ∧ q < sz') T' M N P' sz (sz + 15) 0 (fun _ => 0) (sz + 16) 0 (fun _ => 0) r' → q_F0 sz' M N P' → (∀ q, q < b → T' q = T q ∧ ∀ j, M q j = I q j) → T' d = some (.inl 8) → (∃ l9 : Nat, (1 ≤ l9 ∧ l9 ≤ 3) ∧ r' 0 = (l9 : Int) ∧ e_nms r' l9) → Q (.inl (some (.ref sz))) sz' T' M N P') : qC G 22 40 400 YL_drawn [.ref b, .ref ta, .ref d] sz T I L P Q := by
  refine qC_of (by decide +kernel) rfl rfl (Nat.le_of_ble_eq_true rfl) (fun F hF _ _ => ?_)
  have hAs : q_A G sz := q_Ale hA (by omega)
  refine q_newo hF (s' := sz + 1) (kc := 39) (ks := 385) (ci := 9) (N := 15) ⟨_, rfl, rfl, (q_mem 1060 (by decide +kernel) rfl), (q_mem 447 (by decide +kernel) rfl), (q_mem 57 (by decide +kernel) rfl)⟩ (fun j => (hZ _ _ (Nat.le_refl _)).1) (fun j => (hZ _ _ (Nat.le_refl _)).2.1) (fun j => (hZ _ _ (Nat.le_refl _)).2.2) dL_drawn_0 rfl ?_
  refine q_dup hF rfl dL_drawn_3 ?_
  refine q_callC (kc := 20) (ks := 305) (mc' := 19) (ms' := 80) (h' := 1) (st := [.ref sz]) hF cl_RL_144 rfl [] rfl rfl (by omega) (Nat.le_of_ble_eq_true rfl) dL_drawn_4 ?_
  refine mX10_init (q_upT_s _ _ _) hAs hZ (fun T9 I9 L9 P9 c4_0 => ?_)
  refine q_astore_n hF (ls' := [(3, .ref sz), (0, .ref b), (1, .ref ta), (2, .ref d)]) rfl (by decide) rfl dL_drawn_7 ?_
  refine q_aload_n hF 0 rfl rfl dL_drawn_8 ?_
  refine q_iconst hF dL_drawn_9 ?_
  refine q_aload_n hF 3 rfl rfl dL_drawn_10 ?_
  refine q_iconst hF dL_drawn_11 ?_
  refine q_callV (kc := 20) (ks := 305) (mc' := 0) (ms' := 0) (h' := 0) (st := [qI 1, .ref sz]) hF vl_RL_145 rfl [qI 3] rfl rfl ((c4_0.1 _ (by omega)).trans ((q_upT_n _ _ (by omega)).trans hTd)) (by omega) (Nat.le_of_ble_eq_true rfl) dL_drawn_12 ?_
  refine mX9_of (m := 3) ((c4_0.1 _ (by omega)).trans ((q_upT_n _ _ (by omega)).trans hTd)) (q_Ale hA (by omega)) (x := x) ((c4_0.2.1 _ _ (by omega)).1.trans hx) (by omega) (fun v_1 c12_0_1 c12_1_1 => ?_)
  refine q_iadd hF dL_drawn_15 ?_
  refine q_putI hF fl_RL_150 c4_0.2.2.1.t0 hAs dL_drawn_16 ?_
  refine q_iconst hF dL_drawn_19 ?_
  refine q_istore hF (ls' := [(4, qI 0), (3, .ref sz), (0, .ref b), (1, .ref ta), (2, .ref d)]) (by decide) rfl dL_drawn_20 ?_
  obtain ⟨l9, hl9⟩ : ∃ l9 : Nat, l9 = 1 + v_1 := ⟨_, rfl⟩
  have hl3 : 1 ≤ l9 ∧ l9 ≤ 3 := by omega
  have ev : (1 : Int) + (v_1 : Int) = (l9 : Int) := by omega
  rw [ev]
  have fT : ∀ q, q < sz → T9 q = T q := fun q hq => (c4_0.1 q (by omega)).trans (q_upT_n _ _ (by omega))
  have hB9 : q_TB T9 b bk R (u2 (u2 I9 d 0 ((d_nx x : Nat) : Int)) sz 0 (l9 : Int)) L9 P9 ta [] := hB.mv (fun q a c => fT q (by omega)) (fun q j a c => (u2_a _ _ (by omega)).trans ((u2_a _ _ (by omega)).trans (c4_0.2.1 _ _ (by omega)).1)) (fun q j a c => (c4_0.2.1 _ _ (by omega)).2.1) (fun q j a c => (c4_0.2.1 _ _ (by omega)).2.2)
  have hD9 := c4_0.ds (l9 := l9) (J := u2 (u2 I9 d 0 ((d_nx x : Nat) : Int)) sz 0 (l9 : Int)) (u2_s _ _ _ _) (fun q j a c => (u2_ne0 _ (fun z => c z.1 z.2)).trans (u2_a _ _ (by omega)))
  have hW9 : q_DW b bk R ta d L9 sz l9 T I P T9 (u2 (u2 I9 d 0 ((d_nx x : Nat) : Int)) sz 0 (l9 : Int)) P9 (sz + 20) 0 0 0 0 g_begin [] (f_p (0, x)) := ⟨hB9, ((u2_a _ _ (by omega)).trans (u2_s _ _ _ _)), hD9, q_PT.nil, by decide, fun j hj => absurd hj (by omega), fun q hq => ⟨fT q (by omega), fun j => ⟨(u2_a _ _ (by omega)).trans ((u2_a _ _ (by omega)).trans (c4_0.2.1 _ _ (by omega)).1), (c4_0.2.1 _ _ (by omega)).2.2⟩⟩, (fT d (by omega)).trans hTd⟩
  have hef : f_all x = f_tail (f_ks l9 5 0 (f_lns l9 (f_p (0, x)))) := by
    have e1 : 1 + f_v 3 (0, x) = l9 := by show 1 + d_nx x / 65536 % 3 = l9; omega
    unfold f_all
    rw [e1]
  have hz0 : ∀ y, 89 ≤ y → y < 139 → g_begin y = 0 := fun y a c => by
    unfold g_begin
    rw [g_up_n _ _ (by omega), g_up_n _ _ (by omega), g_up_n _ _ (by omega), g_up_n _ _ (by omega), g_up_n _ _ (by omega)]
  generalize hIx : u2 (u2 I9 d 0 ((d_nx x : Nat) : Int)) sz 0 (l9 : Int) = Ix at *
  refine qX.room (kc := (1 + 1 + 3 * (5 - 0)) + (l9 - 0)) (ks := (6 + 2 + 12 * (5 - 0)) + 4 * (l9 - 0)) (by omega) (by omega) ?_
  refine lL_lands (sz := 0) (T := T) (l9 := l9) (pF := f_lns l9 (f_p (0, x))) hF (by decide) hA hL1 hL2 hL3 hl3 ?_ _ 0 (sz + 20) T9 Ix P9 g_begin [] (f_p (0, x)) (Nat.lt_succ_self _) (Nat.zero_le _) hW9 (Nat.zero_le _) hz0 rfl
  clear hW9 hD9 hB9
  intro sz1 T1 I1 P1 t1 bs1 hb1 hz1 hW1
  refine q_iconst hF dL_drawn_164 ?_
  refine q_istore hF (ls' := [(4, qI 0), (3, .ref sz), (0, .ref b), (1, .ref ta), (2, .ref d)]) (by decide) rfl dL_drawn_165 ?_
  refine q_iconst hF dL_drawn_167 ?_
  refine q_istore hF (ls' := [(5, qI 0), (4, qI 0), (3, .ref sz), (0, .ref b), (1, .ref ta), (2, .ref d)]) (by decide) rfl dL_drawn_168 ?_
  refine lL_ks (sz := 0) (T := T) (l9 := l9) (pF := f_ks l9 5 0 (f_lns l9 (f_p (0, x)))) hF (by decide) hA hL1 hL2 hL3 hl3 ?_ _ 0 0 sz1 T1 I1 P1 0 0 t1 bs1 _ (Nat.lt_succ_self _) (Nat.zero_le _) hW1 (by decide) (by decide) (by omega) (fun i j a c _ => hz1 _ (by omega) (by omega)) rfl
  intro sz2 T2 I2 P2 cd2 hp2 t2 bs2 hb2 hW2
  refine lL_wait hF (by decide) hA hL1 hL2 hL3 hW2 rfl (by omega) (by omega) ?_
  intro I3 on3 t3 bs3 ho3 hb3 hW3
  refine lL_letter hF (by decide) hA hL1 hL2 hL3 hW3 (by omega) (by omega) (by omega) ?_
  intro I4 on4 t4 bs4 ho4 hb4 hW4
  refine lL_home hF (by decide) hA hL1 hL2 hL3 hW4 (by omega) ⟨rfl, hl3.2⟩ (by omega) (by omega) ?_
  intro I5 on5 t5 bs5 ho5 hb5 hW5
  refine lL_order hF (by decide) hA hL1 hL2 hL3 hW5 (by omega) (by omega) (by omega) ?_
  intro T6 I6 P6 sz6 on6 t6 bs6 hs6 hb6 hW6
  rw [show f_ord (f_opt (f_opt (f_opt (f_ks l9 5 0 (f_lns l9 (f_p (0, x))))))) = f_all x from hef.symm] at hW6
  obtain ⟨gB, gx, gD, gPT, gm, gn, gfr, gTd⟩ := hW6
  have gs := gD.s20
  refine q_aload_n hF 1 rfl rfl dL_drawn_737 ?_
  refine q_aload_n hF 2 rfl rfl dL_drawn_738 ?_
  refine q_callS (kc := 0) (ks := 0) (mc' := 1) (ms' := 6) (h' := 21) (st := []) hF sl_RL_210 rfl [.ref b, .ref ta] rfl rfl (by omega) (Nat.le_of_ble_eq_true rfl) dL_drawn_739 ?_
  refine mL_texts hA (q_Ale hA (by omega)) gB (by omega) (fun B hBb => gPT.fin (by omega) hBb) (fun Bf I7 L7 P7 c739_0 c739_1 c739_2 c739_3 c739_4 => ?_)
  rw [gm]
  refine q_aload_n hF 0 rfl rfl dL_drawn_742 ?_
  refine q_getIv hF (z := (l9 : Int)) fl_RL_150 gD.ot.t0 ((c739_2 _ _ (by omega) (by omega)).trans gD.ln) dL_drawn_743 ?_
  refine q_icmpne hF (by omega) (by omega) dL_drawn_746 (fun c746 => ?_) (fun c746 => ?_)
  · omega
  · refine q_aload_n hF 0 rfl rfl dL_drawn_749 ?_
    refine q_goto hF dL_drawn_750 ?_
    refine q_areturn hF (r := some sz) rfl dL_drawn_754 ?_
    obtain ⟨f1, f2, f3⟩ := c739_0
    have hKL : ∀ q j, sz ≤ q → L7 q j = 0 := fun q j hq => (c739_3 q j (by omega)).trans (gD.2.2.2.2.1 q j hq)
    exact k0 T6 Bf I7 L7 P7 sz6 _ (by omega) ⟨f1, f2, f3⟩ c739_1 ((c739_2 _ _ (by omega) (by omega)).trans gx) (gD.own gm f2 (fun q j hq => c739_2 _ _ (by omega) (by omega)) hKL (fun q j hq => c739_4 q j (by omega)) f1) (fun q j hq => ⟨(c739_2 _ _ (by omega) (by omega)).trans (gD.z q j hq).1, hKL q j (by omega), (c739_4 q j (by omega)).trans (gD.z q j hq).2.2⟩) (fun q hq => ⟨(gfr q hq).1, fun j => (c739_2 _ _ (by omega) (by omega)).trans ((gfr q hq).2 j).1⟩) gTd ⟨l9, hl3, (g_zap_lt (by omega)).trans gm, gn.mv (by omega) (fun x a c => g_zap_lt (by omega))⟩
