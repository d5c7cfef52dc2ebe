/-! the law's own bank: a month for one account -/

set_option maxRecDepth 100000 in
theorem lX10_rows {G : q_G} {F : q_F} {h : Nat} {Q : q_Q} {kc ks sz : Nat} {T : q_T} {I L : q_I} {P : q_P} {k w x a m m9 : Nat} {lz nz iz : Int} {σ : Nat → Nat} (hF : q_ok G F YX10_goes h) (hk : T k = some (.inl 9)) (hw : T w = some (.inr (6, m))) (hx : T x = some (.inr (6, m9))) (hm9 : m9 = 1 + m) (hs : ∀ j, j < m → T (σ j) = some (.inr (0, 5))) (hpk : P k 10 = some w) (hpw : ∀ j, j < m → P w j = some (σ j)) (hkx : k ≠ x) (hwx : w ≠ x) (hAx : q_A G x) (hm12 : m ≤ 12) (k0 : qX G F Q kc ks 310 [(8, qI (m : Int)), (7, .ref x), (6, qI lz), (3, qI nz), (0, .ref k), (1, .ref a), (2, qI iz)] [] sz T I L (q_fP P x m σ)) : ∀ (n : Nat) (c : Nat), m - c < n → c ≤ m → qX G F Q kc ks 282 [(8, qI (c : Int)), (7, .ref x), (6, qI lz), (3, qI nz), (0, .ref k), (1, .ref a), (2, qI iz)] [] sz T I L (q_fP P x c σ) := by
  intro n
  induction n with
  | zero => intro c hn; exact absurd hn (Nat.not_lt_zero _)
  | succ n ih =>
    intro c hn hc
    refine q_iload hF 0 rfl dX10_goes_282 ?_
    refine q_aload_n hF 4 rfl rfl dX10_goes_284 ?_
    refine q_getA hF fl_RX10_37 rfl hk ((q_fP_n P σ hkx).trans hpk) dX10_goes_285 ?_
    refine q_alen hF (n := m) hw dX10_goes_288 ?_
    refine q_icmpge hF (by omega) (by omega) dX10_goes_289 (fun c289 => ?_) (fun c289 => ?_)
    · obtain rfl : c = m := by omega
      exact k0
    · refine q_aload hF 1 rfl dX10_goes_292 ?_
      refine q_iload hF 0 rfl dX10_goes_294 ?_
      refine q_aload_n hF 4 rfl rfl dX10_goes_296 ?_
      refine q_getA hF fl_RX10_37 rfl hk ((q_fP_n P σ hkx).trans hpk) dX10_goes_297 ?_
      refine q_iload hF 0 rfl dX10_goes_300 ?_
      refine q_aaloadv hF (b := σ c) c hw (by decide) rfl (by omega) (by omega) ((q_fP_n P σ hwx).trans (hpw c (by omega))) dX10_goes_302 ?_
      refine q_aastoreO hF (n := m9) (w := some (σ c)) c hx (fun b hb => by cases hb; exact ⟨_, (hs c (by omega))⟩) hAx rfl (by omega) (by omega) dX10_goes_303 ?_
      refine q_iinc hF (z' := ((1 + c : Nat) : Int)) (ls' := [(8, qI ((1 + c : Nat) : Int)), (7, .ref x), (6, qI lz), (3, qI nz), (0, .ref k), (1, .ref a), (2, qI iz)]) 0 rfl (by first | rfl | omega) (by decide) rfl dX10_goes_304 ?_
      refine q_goto hF dX10_goes_307 ?_
      rw [q_fP_s]
      exact ih (1 + c) (by omega) (by omega)

set_option maxRecDepth 100000 in
theorem mX10_goes {G : q_G} {sz : Nat} {T : q_T} {I L : q_I} {P : q_P} {Q : q_Q} {k : Nat} {a : Nat} {E : Nat → Prop} {v n w m i a0 : Nat} {ρ σ : Nat → Nat} {r : Nat → Int} {b : Int} (hW : q_OW E T I L P k v n ρ w m σ r) (hE : ∀ q, E q → a0 ≤ q ∧ q < sz) (hA0 : q_A G a0) (hAz : a0 ≤ sz) (hZ : q_F0 sz I L P) (ha : ρ i = a) (hi : i < n) (hv : g_V0 r) (hVA : g_VA r i b) (hb : b ≤ 6000) (hb2 : b = r 2) (hrow : (r (1043 + 12 * i) = 0 ∨ r (1043 + 12 * i) = 1) → r 6 < 12) (k0 : ∀ (sz' : Nat) (T' : q_T) (I' L' : q_I) (P' : q_P) (w' m' : Nat) (σ' : Nat → Nat), q_Fr (q_Wk k n ρ) sz sz' T I L P T' I' L' P' → q_F0 sz' I' L' P' → q_OW (q_Ex E sz sz') T' I' L' P' k v n ρ w' m' σ' (g_goes r i (r 2 + 1)).2 → Q (.inl (some (qI (g_goes r i (r 2 + 1)).1))) sz' T' I' L' P') : qC G 2 2 18 YX10_goes [.ref k, .ref a, qI (i : Int)] sz T I L P Q := by
  refine qC_of (by decide +kernel) rfl rfl (Nat.le_of_ble_eq_true rfl) (fun F hF _ _ => ?_)
  have hO := hW.ot
  have hR := hW.rr
  have hM := hW.om
  have hTa : (T a) = some (.inl 7) := by rw [← ha]; exact hM.ta i hi
  have hAc : q_OA I L a r i := by rw [← ha]; exact hM.ac i hi
  have hEa : a0 ≤ a ∧ a < sz := by rw [← ha]; exact hE _ (hM.ea i hi)
  have hEk : ∀ q, k ≤ q → q < k + 20 → a0 ≤ q ∧ q < sz := fun q x y => hE q (hW.ek q x y)
  have hk0 := hEk k (by omega) (by omega)
  have hk17 := hEk (k + 17) (by omega) (by omega)
  have nk : k ≠ a := q_Tne hO.t0 hTa (by intro z; cases z)
  have nk17 : k + 17 ≠ a := q_Tne hO.t17 hTa (by intro z; cases z)
  have nk18 : k + 18 ≠ a := q_Tne hO.t18 hTa (by intro z; cases z)
  have nk19 : k + 19 ≠ a := q_Tne hO.t19 hTa (by intro z; cases z)
  have hn12 : n ≤ 12 := by have := hv.many; have := hM.nn; omega
  have hmm := hM.mm
  have hrows := hv.rows
  have f3 := hVA.kind
  have g0 := hVA.state
  have g1 := hVA.cents
  have g2 := hVA.age
  have g3 := hVA.wrote
  have g4 := hVA.since
  have g5 := hVA.lat
  have g6 := hv.cost
  have g7 := hv.wait
  have g8 := hv.month
  have g9 := hv.lands
  obtain ⟨kd, hkd⟩ : ∃ kd : Nat, r (1039 + 12 * i) = (kd : Int) := ⟨(r (1039 + 12 * i)).toNat, by omega⟩
  have hkd0 : I a 0 = (kd : Int) := hAc.kd.trans hkd
  have hkd5 : kd < 5 := by omega
  have hp9 := hv.pays kd hkd5
  have hwz := hE w hM.ew
  have hpr := (g_int_r hv hVA).2
  have hir := (g_int_r hv hVA).1
  rw [hkd, Int.toNat_natCast] at hpr
  have hgi : min (100000000 - r (1042 + 12 * i)) ((r (1042 + 12 * i) * r (12 + kd)).tdiv 120000) = g_int r i := by
    unfold g_int; rw [hkd, Int.toNat_natCast]
  have hdv : -9223372036854775808 ≤ (r (1042 + 12 * i) * r (12 + kd)).tdiv 120000 ∧ (r (1042 + 12 * i) * r (12 + kd)).tdiv 120000 < 9223372036854775808 := by
    rw [Int.tdiv_eq_ediv_of_nonneg hpr.1]; omega
  refine q_aload_n hF 1 rfl rfl dX10_goes_0 ?_
  refine q_callV (kc := 2) (ks := 18) (mc' := 0) (ms' := 0) (h' := 0) (st := []) hF vl_RX10_106 rfl [] rfl rfl hTa (by decide) (Nat.le_of_ble_eq_true rfl) dX10_goes_1 ?_
  refine mX8_isOpen hTa (by rw [hAc.st]; omega) ?_
  rw [show I a 4 = r (1043 + 12 * i) from hAc.st]
  refine q_ifne_b hF dX10_goes_4 (fun c4 => ?_) (fun c4 => ?_)
  · refine q_aload_n hF 0 rfl rfl dX10_goes_9 ?_
    refine q_getIv hF (z := r 2) fl_RX10_60 hO.t0 hM.mo dX10_goes_10 ?_
    refine q_iconst hF dX10_goes_13 ?_
    refine q_iadd hF dX10_goes_14 ?_
    refine q_istore_n hF (ls' := [(3, qI ((r 2) + 1)), (0, .ref k), (1, .ref a), (2, qI (i : Int))]) rfl (by decide) rfl dX10_goes_15 ?_
    refine q_ldc2 hF (n := 100000000) (q_mem 602 (by decide +kernel) rfl) dX10_goes_16 ?_
    refine q_aload_n hF 2 rfl rfl dX10_goes_19 ?_
    refine q_getLv hF (z := r (1042 + 12 * i)) fl_RX10_89 hTa hAc.ce dX10_goes_20 ?_
    refine q_lsub hF dX10_goes_23 ?_
    refine q_aload_n hF 2 rfl rfl dX10_goes_24 ?_
    refine q_getLv hF (z := r (1042 + 12 * i)) fl_RX10_89 hTa hAc.ce dX10_goes_25 ?_
    refine q_aload_n hF 1 rfl rfl dX10_goes_28 ?_
    refine q_getA hF fl_RX10_19 rfl hO.t0 hO.p3 dX10_goes_29 ?_
    refine q_aload_n hF 2 rfl rfl dX10_goes_32 ?_
    refine q_getIv hF (z := (kd : Int)) fl_RX10_76 hTa hkd0 dX10_goes_33 ?_
    refine q_ialoadv hF (z := r (12 + kd)) (n := 5) kd hO.t13 rfl (by omega) (by decide) (hR.py kd hkd5) dX10_goes_36 ?_
    refine q_i2l hF (by omega) dX10_goes_37 ?_
    refine q_lmul hF dX10_goes_38 ?_
    refine q_ldc2 hF (n := 120000) (q_mem 603 (by decide +kernel) rfl) dX10_goes_39 ?_
    refine q_ldiv hF (by omega) (by decide) (by decide) dX10_goes_42 ?_
    refine q_minl hF (q_mem 604 (by decide +kernel) rfl) (q_mem 605 (by decide +kernel) rfl) (q_mem 55 (by decide +kernel) rfl) (q_mem 606 (by decide +kernel) rfl) (by omega) hdv (Nat.le_of_ble_eq_true rfl) dX10_goes_43 ?_
    rw [hgi]
    refine q_lstore hF (ls' := [(4, qL (g_int r i)), (3, qI ((r 2) + 1)), (0, .ref k), (1, .ref a), (2, qI (i : Int))]) (by decide) rfl dX10_goes_46 ?_
    refine q_aload_n hF 3 rfl rfl dX10_goes_48 ?_
    refine q_dup hF rfl dX10_goes_49 ?_
    refine q_getLv hF (z := r (1042 + 12 * i)) fl_RX10_89 hTa hAc.ce dX10_goes_50 ?_
    refine q_lload hF 0 rfl dX10_goes_53 ?_
    refine q_ladd hF dX10_goes_55 ?_
    refine q_putL hF fl_RX10_89 hTa (q_Ale hA0 hEa.1) dX10_goes_56 ?_
    refine q_aload_n hF 2 rfl rfl dX10_goes_59 ?_
    refine q_getA hF fl_RX10_40 rfl hO.t0 hO.p12 dX10_goes_60 ?_
    refine q_iconst hF dX10_goes_63 ?_
    refine q_dup2 hF rfl rfl dX10_goes_64 ?_
    refine q_laloadv hF (z := r 18) (n := 7) 1 hO.t17 rfl (by decide) (by decide) ((u2_k _ _ (by decide)).trans (hM.b4 1 (by decide))) dX10_goes_65 ?_
    refine q_lload hF 0 rfl dX10_goes_66 ?_
    refine q_ladd hF dX10_goes_68 ?_
    refine q_lastorev hF (n := 7) 1 hO.t17 (q_Ale hA0 hk17.1) rfl (by decide) (by decide) dX10_goes_69 ?_
    refine q_aload_n hF 3 rfl rfl dX10_goes_70 ?_
    refine q_dup hF rfl dX10_goes_71 ?_
    refine q_getIv hF (z := r (1044 + 12 * i)) fl_RX10_86 hTa hAc.ag dX10_goes_72 ?_
    refine q_iconst hF dX10_goes_75 ?_
    refine q_iadd hF dX10_goes_76 ?_
    refine q_putI hF fl_RX10_86 hTa (q_Ale hA0 hEa.1) dX10_goes_77 ?_
    refine q_aload_n hF 3 rfl rfl dX10_goes_80 ?_
    refine q_dup hF rfl dX10_goes_81 ?_
    refine q_getIv hF (z := r (1045 + 12 * i)) fl_RX10_114 hTa ((u2_k _ _ (by decide)).trans hAc.si) dX10_goes_82 ?_
    refine q_iconst hF dX10_goes_85 ?_
    refine q_iadd hF dX10_goes_86 ?_
    refine q_putI hF fl_RX10_114 hTa (q_Ale hA0 hEa.1) dX10_goes_87 ?_
    have fI : ∀ q j, q ≠ a → (u2 (u2 I a 5 ((r (1044 + 12 * i)) + 1)) a 6 ((r (1045 + 12 * i)) + 1)) q j = I q j := fun q j h => by rw [u2_a _ _ h, u2_a _ _ h]
    have fL : ∀ q j, q ≠ a → q ≠ k + 17 → (u2 (u2 L a 3 ((r (1042 + 12 * i)) + (g_int r i))) (k + 17) 1 ((r 18) + (g_int r i))) q j = L q j := fun q j h h2 => by rw [u2_a _ _ h2, u2_a _ _ h]
    have hA1 : q_OA (u2 (u2 I a 5 ((r (1044 + 12 * i)) + 1)) a 6 ((r (1045 + 12 * i)) + 1)) (u2 (u2 L a 3 ((r (1042 + 12 * i)) + (g_int r i))) (k + 17) 1 ((r 18) + (g_int r i))) a (g_r1 r i) i := ⟨(u2_k _ _ (by decide)).trans ((u2_k _ _ (by decide)).trans (hAc.kd.trans (g_r1_n r (by omega) (by omega) (by omega) (by omega)).symm)), (u2_k _ _ (by decide)).trans ((u2_k _ _ (by decide)).trans (hAc.ad.trans (g_r1_n r (by omega) (by omega) (by omega) (by omega)).symm)), (u2_k _ _ (by decide)).trans ((u2_k _ _ (by decide)).trans (hAc.bi.trans (g_r1_n r (by omega) (by omega) (by omega) (by omega)).symm)), (u2_a _ _ nk17.symm).trans ((u2_s _ _ _ _).trans (g_r1_c r i).symm), (u2_k _ _ (by decide)).trans ((u2_k _ _ (by decide)).trans (hAc.st.trans (g_r1_n r (by omega) (by omega) (by omega) (by omega)).symm)), (u2_k _ _ (by decide)).trans ((u2_s _ _ _ _).trans (g_r1_a r i).symm), (u2_s _ _ _ _).trans (g_r1_s r i).symm, (u2_k _ _ (by decide)).trans ((u2_k _ _ (by decide)).trans (hAc.le.trans (g_r1_n r (by omega) (by omega) (by omega) (by omega)).symm)), (u2_k _ _ (by decide)).trans ((u2_k _ _ (by decide)).trans (hAc.ho.trans (g_r1_n r (by omega) (by omega) (by omega) (by omega)).symm)), (u2_k _ _ (by decide)).trans ((u2_k _ _ (by decide)).trans (hAc.la.trans (g_r1_n r (by omega) (by omega) (by omega) (by omega)).symm)), (u2_k _ _ (by decide)).trans ((u2_k _ _ (by decide)).trans (hAc.ha.trans (g_r1_n r (by omega) (by omega) (by omega) (by omega)).symm)), (u2_k _ _ (by decide)).trans ((u2_k _ _ (by decide)).trans (hAc.nl.trans (g_r1_n r (by omega) (by omega) (by omega) (by omega)).symm))⟩
    have b4 : ∀ x, x < 4 → (u2 (u2 L a 3 ((r (1042 + 12 * i)) + (g_int r i))) (k + 17) 1 ((r 18) + (g_int r i))) (k + 17) x = g_r1 r i (17 + x) := fun x hx => by
      by_cases e : x = 1
      · subst e; rw [u2_s]; exact (g_r1_b r i).symm
      · rw [u2_k _ _ e, u2_a _ _ nk17, hM.b4 x hx, g_r1_n r (by omega) (by omega) (by omega) (by omega)]
    have b6 : (u2 (u2 L a 3 ((r (1042 + 12 * i)) + (g_int r i))) (k + 17) 1 ((r 18) + (g_int r i))) (k + 17) 6 = g_r1 r i 23 := by
      rw [u2_k _ _ (by decide), u2_a _ _ nk17, hM.b6, g_r1_n r (by omega) (by omega) (by omega) (by omega)]
    generalize hI1 : u2 (u2 I a 5 ((r (1044 + 12 * i)) + 1)) a 6 ((r (1045 + 12 * i)) + 1) = I1 at fI hA1 ⊢
    generalize hL1 : u2 (u2 L a 3 ((r (1042 + 12 * i)) + (g_int r i))) (k + 17) 1 ((r 18) + (g_int r i)) = L1 at fL hA1 b4 b6 ⊢
    have hW1 : q_OW E T I1 L1 P k v n ρ w m σ (g_r1 r i) := hW.upd hv (g_r1_same r i) hi (g_r1_n r (by omega) (by omega) (by omega) (by omega)) (g_r1_n r (by omega) (by omega) (by omega) (by omega)) (fun j x h1 h2 h3 h4 => g_r1_n r (by omega) (by omega) (by omega) (by omega)) (fun x hx => g_r1_n r (by omega) (by omega) (by omega) (by omega)) (fun q j h _ => fI q j (by rw [ha] at h; exact h)) (fun q j h h2 _ _ => fL q j (by rw [ha] at h; exact h) h2) (by rw [ha]; exact hA1) ((fI _ _ nk).trans (hM.mo.trans (g_r1_n r (by omega) (by omega) (by omega) (by omega)).symm)) ((fI _ _ nk).trans (hM.se.trans (g_r1_n r (by omega) (by omega) (by omega) (by omega)).symm)) b4 b6 (fun x hx => (fL _ _ nk18 (by omega)).trans ((hM.pd x hx).trans (g_r1_n r (by omega) (by omega) (by omega) (by omega)).symm)) (fun x hx => (fL _ _ nk19 (by omega)).trans ((hM.ps x hx).trans (g_r1_n r (by omega) (by omega) (by omega) (by omega)).symm))
    have hZ1 : q_F0 sz I1 L1 P := fun q j h => ⟨(fI q j (by omega)).trans (hZ q j h).1, (fL q j (by omega) (by omega)).trans (hZ q j h).2.1, (hZ q j h).2.2⟩
    have fr1 : q_Fr (q_Wk k n ρ) sz sz T I L P T I1 L1 P := ⟨Nat.le_refl _, fun _ _ => rfl, fun q j _ hn => fI q j (fun z => hn (Or.inr (Or.inr (Or.inr (Or.inr ⟨i, hi, z.trans ha.symm⟩))))), fun q j _ hn => fL q j (fun z => hn (Or.inr (Or.inr (Or.inr (Or.inr ⟨i, hi, z.trans ha.symm⟩))))) (fun z => hn (Or.inr (Or.inl z))), fun _ _ _ _ => rfl⟩
    have hv1 : g_V0 (g_r1 r i) := hv.r1 i
    have hVA1 := hVA.r1 hv
    have hho : r (1043 + 12 * i) = 0 ∨ r (1043 + 12 * i) = 1 := by omega
    have hm12 := hrow hho
    have es : g_r1 r i (1043 + 12 * i) = r (1043 + 12 * i) := g_r1_n r (by omega) (by omega) (by omega) (by omega)
    have ew : g_r1 r i 3 = r 3 ∧ g_r1 r i 4 = r 4 ∧ g_r1 r i 0 = r 0 := ⟨g_r1_n r (by omega) (by omega) (by omega) (by omega), g_r1_n r (by omega) (by omega) (by omega) (by omega), g_r1_n r (by omega) (by omega) (by omega) (by omega)⟩
    have el : g_r1 r i (1048 + 12 * i) = r (1048 + 12 * i) := g_r1_n r (by omega) (by omega) (by omega) (by omega)
    have el31 : ∀ l : Nat, l < 5 → g_r1 r i (31 + 13 * l) = r (31 + 13 * l) ∧ g_r1 r i (32 + 13 * l) = r (32 + 13 * l) := fun l hl => ⟨g_r1_n r (by omega) (by omega) (by omega) (by omega), g_r1_n r (by omega) (by omega) (by omega) (by omega)⟩
    have ec := g_r1_c r i
    have ea := g_r1_a r i
    have esi := g_r1_s r i
    have e7 : g_r1 r i 7 = r 7 := g_r1_n r (by omega) (by omega) (by omega) (by omega)
    have e66 : g_r1 r i 6 = r 6 := g_r1_n r (by omega) (by omega) (by omega) (by omega)
    have hgo : g_goes r i (r 2 + 1) = (if g_bel (g_r1 r i) i = -1 then (0, g_r1 r i) else if r (1043 + 12 * i) = 0 then (0, if g_sleep (g_r1 r i) i (g_bel (g_r1 r i) i) ≤ g_r1 r i (1045 + 12 * i) then g_wr (g_r1 r i) i (r 2 + 1) else g_r1 r i) else if r 2 + 1 - r (1048 + 12 * i) < r 3 ∨ (r 2 + 1).tmod 12 ≠ r (31 + 13 * (g_bel (g_r1 r i) i).toNat) then (0, g_r1 r i) else (1, g_ha (g_r1 r i) i (g_bel (g_r1 r i) i) (r 2 + 1))) := by
      unfold g_goes
      rw [if_pos hho]
    generalize hr1 : g_r1 r i = r1 at *
    have hR1 := hW1.rr
    have hM1 := hW1.om
    have hld1 := hv1.lands
    refine q_aload_n hF 2 rfl rfl dX10_goes_90 ?_
    refine q_aload_n hF 3 rfl rfl dX10_goes_91 ?_
    refine q_callV (kc := 2) (ks := 18) (mc' := 0) (ms' := 0) (h' := 0) (st := []) hF vl_RX10_79 rfl [.ref a] rfl rfl hO.t0 (by decide) (Nat.le_of_ble_eq_true rfl) dX10_goes_92 ?_
    refine mX10_landOf hO hR1 hTa hA1 hv1 hVA1 ?_
    refine q_istore hF (ls' := [(6, qI (g_bel r1 i)), (4, qL (g_int r i)), (3, qI ((r 2) + 1)), (0, .ref k), (1, .ref a), (2, qI (i : Int))]) (by decide) rfl dX10_goes_95 ?_
    refine q_iload hF 0 rfl dX10_goes_97 ?_
    refine q_ifge hF (by have := g_bel_r hv1 hVA1; omega) dX10_goes_99 (fun c99 => ?_) (fun c99 => ?_)
    · have hbr := g_bel_tk hv1 hVA1 (by omega)
      obtain ⟨l, hl⟩ : ∃ l : Nat, g_bel r1 i = (l : Int) := ⟨(g_bel r1 i).toNat, by omega⟩
      rw [hl] at hbr hgo ⊢
      rw [if_neg (by omega)] at hgo
      have hl5 : l < 5 := by omega
      have hlr : (l : Int) < r1 0 := by omega
      have hlm := hv1.land l hlr
      obtain ⟨le1, le2⟩ := el31 l hl5
      refine q_aload_n hF 4 rfl rfl dX10_goes_104 ?_
      refine q_getIv hF (z := r1 (1043 + 12 * i)) fl_RX10_117 hTa hA1.st dX10_goes_105 ?_
      refine q_ifne hF (by omega) dX10_goes_108 (fun c108 => ?_) (fun c108 => ?_)
      · refine q_iload_n hF 2 rfl rfl dX10_goes_193 ?_
        refine q_aload_n hF 4 rfl rfl dX10_goes_194 ?_
        refine q_getIv hF (z := r1 (1048 + 12 * i)) fl_RX10_123 hTa hA1.la dX10_goes_195 ?_
        refine q_isub hF dX10_goes_198 ?_
        refine q_aload_n hF 3 rfl rfl dX10_goes_199 ?_
        refine q_getIv hF (z := r1 3) fl_RX10_23 hO.t0 hR1.wa dX10_goes_200 ?_
        refine q_icmplt hF (by omega) (by omega) dX10_goes_203 (fun c203 => ?_) (fun c203 => ?_)
        · refine q_iconst hF dX10_goes_222 ?_
          refine q_zreturn hF (by decide) rfl dX10_goes_223 ?_
          rw [if_neg (by omega), if_pos (Or.inl (by omega))] at hgo
          rw [hgo] at k0
          exact k0 _ _ _ _ _ _ _ _ fr1 hZ1 (hW1.mv (fun q h => Or.inl h) (fun _ _ => rfl) (fun _ _ _ => rfl) (fun _ _ _ => rfl) (fun _ _ _ => rfl))
        · refine q_iload_n hF 2 rfl rfl dX10_goes_206 ?_
          refine q_bipush hF (n := 12) rfl dX10_goes_207 ?_
          refine q_irem hF (by omega) (by decide) (by decide) dX10_goes_209 ?_
          refine q_aload_n hF 3 rfl rfl dX10_goes_210 ?_
          refine q_getA hF fl_RX10_9 rfl hO.t0 hO.p1 dX10_goes_211 ?_
          refine q_iload hF 0 rfl dX10_goes_214 ?_
          refine q_aaloadv hF (b := k + 2 + l) l hO.t1 (by decide) rfl (by omega) (by decide) (hO.pl l (by omega)) dX10_goes_216 ?_
          refine q_iconst hF dX10_goes_217 ?_
          refine q_ialoadv hF (z := r1 (31 + 13 * l)) (n := 4) 0 (hO.tl l (by omega)) rfl (by decide) (by decide) (hR1.ld l 0 (by omega) (by omega) (by decide)) dX10_goes_218 ?_
          refine q_icmpeq hF (by rw [Int.tmod_eq_emod_of_nonneg (by omega)]; omega) (by omega) dX10_goes_219 (fun c219 => ?_) (fun c219 => ?_)
          · refine q_aload_n hF 4 rfl rfl dX10_goes_224 ?_
            refine q_iconst hF dX10_goes_225 ?_
            refine q_putI hF fl_RX10_117 hTa (q_Ale hA0 hEa.1) dX10_goes_226 ?_
            refine q_aload_n hF 4 rfl rfl dX10_goes_229 ?_
            refine q_iload hF 0 rfl dX10_goes_230 ?_
            refine q_putI hF fl_RX10_126 hTa (q_Ale hA0 hEa.1) dX10_goes_232 ?_
            refine q_aload_n hF 4 rfl rfl dX10_goes_235 ?_
            refine q_iload_n hF 2 rfl rfl dX10_goes_236 ?_
            refine q_putI hF fl_RX10_129 hTa (q_Ale hA0 hEa.1) dX10_goes_237 ?_
            refine q_aload_n hF 4 rfl rfl dX10_goes_240 ?_
            have hJ241 : qX G F Q 2 18 264 [(6, qI (l : Int)), (4, qL (g_int r i)), (3, qI ((r 2) + 1)), (0, .ref k), (1, .ref a), (2, qI (i : Int))] [qI (q_b (r1 (1042 + 12 * i) < r1 (32 + 13 * l))), .ref a] sz T (u2 (u2 (u2 I1 a 4 2) a 8 (l : Int)) a 10 ((r 2) + 1)) L1 P := by
              refine q_putZ hF (q_b_01 _) fl_RX10_132 hTa (q_Ale hA0 hEa.1) dX10_goes_264 ?_
              refine q_aload_n hF 3 rfl rfl dX10_goes_267 ?_
              refine q_getA hF fl_RX10_37 rfl hO.t0 hM.pw dX10_goes_268 ?_
              refine q_alen hF (n := m) hM.tw dX10_goes_271 ?_
              refine q_iconst hF dX10_goes_272 ?_
              refine q_iadd hF dX10_goes_273 ?_
              refine qX.room (kc := 1 + 1) (ks := 5 + (1 + m)) (by omega) (by omega) ?_
              rw [show ((m : Int) + 1) = ((1 + m : Nat) : Int) from by omega]
              refine q_newrA hF (s' := sz + 1) (kc := 1) (ks := 5) (n := 1 + m) (q_mem 457 (by decide +kernel) rfl) (by omega) (fun j => (hZ _ _ (Nat.le_refl _)).2.2) dX10_goes_274 rfl ?_
              refine q_astore hF (ls' := [(7, .ref sz), (6, qI (l : Int)), (4, qL (g_int r i)), (3, qI ((r 2) + 1)), (0, .ref k), (1, .ref a), (2, qI (i : Int))]) (by decide) rfl dX10_goes_277 ?_
              refine q_iconst hF dX10_goes_279 ?_
              refine q_istore hF (ls' := [(8, qI 0), (7, .ref sz), (6, qI (l : Int)), (4, qL (g_int r i)), (3, qI ((r 2) + 1)), (0, .ref k), (1, .ref a), (2, qI (i : Int))]) (by decide) rfl dX10_goes_280 ?_
              refine q_sub [0, 1, 2, 4, 5, 6, 7] rfl ?_
              rw [← q_fP_0 P sz σ]
              refine lX10_rows (m9 := 1 + m) hF ((q_upT_n _ _ (by omega)).trans (hO.t0)) ((q_upT_n _ _ (by omega)).trans (hM.tw)) (q_upT_s _ _ _) rfl (fun j hj => (q_upT_n _ _ (by have := hE _ (hM.er j hj); omega)).trans (hM.tr j hj)) hM.pw hM.pr (by omega) (by have := hE w hM.ew; omega) (q_Ale hA0 hAz) (by omega) ?_ _ 0 (Nat.lt_succ_self _) (Nat.zero_le _)
              refine q_aload hF 1 rfl dX10_goes_310 ?_
              refine q_aload_n hF 4 rfl rfl dX10_goes_312 ?_
              refine q_getA hF fl_RX10_37 rfl ((q_upT_n _ _ (by omega)).trans (hO.t0)) ((q_fP_n P σ (by omega)).trans hM.pw) dX10_goes_313 ?_
              refine q_alen hF (n := m) ((q_upT_n _ _ (by omega)).trans (hM.tw)) dX10_goes_316 ?_
              refine q_iconst hF dX10_goes_317 ?_
              refine q_newaI hF (s' := sz + 2) (kc := 0) (ks := 0) (n := 5) (q_mem 124 (by decide +kernel) rfl) (fun j => ((u2_a _ _ (by omega)).trans ((u2_a _ _ (by omega)).trans ((u2_a _ _ (by omega)).trans ((u2_a _ _ (by omega)).trans ((fI _ _ (by omega)).trans (hZ _ _ (by omega)).1)))))) (fun j => ((fL _ _ (by omega) (by omega)).trans (hZ _ _ (by omega)).2.1)) dX10_goes_318 rfl ?_
              refine q_dup hF rfl dX10_goes_320 ?_
              refine q_iconst hF dX10_goes_321 ?_
              refine q_iload_n hF 3 rfl rfl dX10_goes_322 ?_
              refine q_iastorev hF (n := 5) 0 (q_upT_s _ _ _) (q_Ale hA0 (by omega)) rfl (by decide) (by decide) dX10_goes_323 ?_
              refine q_dup hF rfl dX10_goes_324 ?_
              refine q_iconst hF dX10_goes_325 ?_
              refine q_iload_n hF 6 rfl rfl dX10_goes_326 ?_
              refine q_iastorev hF (n := 5) 1 (q_upT_s _ _ _) (q_Ale hA0 (by omega)) rfl (by decide) (by decide) dX10_goes_327 ?_
              refine q_dup hF rfl dX10_goes_328 ?_
              refine q_iconst hF dX10_goes_329 ?_
              refine q_iload hF 2 rfl dX10_goes_330 ?_
              refine q_iastorev hF (n := 5) 2 (q_upT_s _ _ _) (q_Ale hA0 (by omega)) rfl (by decide) (by decide) dX10_goes_332 ?_
              refine q_dup hF rfl dX10_goes_333 ?_
              refine q_iconst hF dX10_goes_334 ?_
              refine q_aload_n hF 5 rfl rfl dX10_goes_335 ?_
              refine q_getLv hF (z := r1 (1042 + 12 * i)) fl_RX10_89 ((q_upT_n _ _ (by omega)).trans ((q_upT_n _ _ (by omega)).trans (hTa))) hA1.ce dX10_goes_336 ?_
              refine q_l2i hF dX10_goes_339 ?_
              refine q_iastorev hF (n := 5) 3 (q_upT_s _ _ _) (q_Ale hA0 (by omega)) rfl (by decide) (by decide) dX10_goes_340 ?_
              refine q_dup hF rfl dX10_goes_341 ?_
              refine q_iconst hF dX10_goes_342 ?_
              have hJ343 : qX G F Q 0 0 355 [(8, qI (m : Int)), (7, .ref sz), (6, qI (l : Int)), (3, qI ((r 2) + 1)), (0, .ref k), (1, .ref a), (2, qI (i : Int))] [qI (q_b (r1 (1042 + 12 * i) < r1 (32 + 13 * l))), qI 4, .ref (sz + 1), .ref (sz + 1), qI (m : Int), .ref sz] (sz + 2) (q_upT (q_upT T sz (.inr (6, 1 + m))) (sz + 1) (.inr (0, 5))) (u2 (u2 (u2 (u2 (u2 (u2 (u2 (u2 I1 a 4 2) a 8 (l : Int)) a 10 ((r 2) + 1)) a 11 (q_b (r1 (1042 + 12 * i) < r1 (32 + 13 * l)))) (sz + 1) 0 ((r 2) + 1)) (sz + 1) 1 (i : Int)) (sz + 1) 2 (l : Int)) (sz + 1) 3 (r1 (1042 + 12 * i))) L1 (q_fP P sz m σ) := by
                refine q_iastorev hF (n := 5) 4 (q_upT_s _ _ _) (q_Ale hA0 (by omega)) rfl (by decide) (by decide) dX10_goes_355 ?_
                refine q_aastoreO hF (n := 1 + m) (w := some (sz + 1)) m ((q_upT_n _ _ (by omega)).trans (q_upT_s _ _ _)) (fun b hb => by cases hb; exact ⟨_, (q_upT_s _ _ _)⟩) (q_Ale hA0 hAz) rfl (by omega) (by omega) dX10_goes_356 ?_
                refine q_aload_n hF 4 rfl rfl dX10_goes_357 ?_
                refine q_aload hF 1 rfl dX10_goes_358 ?_
                refine q_putA hF fl_RX10_37 rfl ((q_upT_n _ _ (by omega)).trans ((q_upT_n _ _ (by omega)).trans (hO.t0))) (q_Ale hA0 hk0.1) dX10_goes_360 ?_
                refine q_iconst hF dX10_goes_363 ?_
                refine q_zreturn hF (by decide) rfl dX10_goes_364 ?_
                rw [if_neg (by omega), if_neg (fun z => by rw [Int.toNat_natCast, ← le1] at z; rcases z with z | z <;> omega)] at hgo
                rw [hgo] at k0
                have hW3 := hW1.hand (sz := sz) (l := l) (nx := r 2 + 1) (I' := u2 (u2 (u2 (u2 (u2 (u2 (u2 (u2 (u2 I1 a 4 2) a 8 (l : Int)) a 10 ((r 2) + 1)) a 11 (q_b (r1 (1042 + 12 * i) < r1 (32 + 13 * l)))) (sz + 1) 0 ((r 2) + 1)) (sz + 1) 1 (i : Int)) (sz + 1) 2 (l : Int)) (sz + 1) 3 (r1 (1042 + 12 * i))) (sz + 1) 4 (q_b (r1 (1042 + 12 * i) < r1 (32 + 13 * l)))) (P' := u2 (u2 (q_fP P sz m σ) sz m (some (sz + 1))) k 10 (some sz)) (fun q h => (hE q h).2) hv1 hi (by omega) hn12 (fun q j h1 h2 => ?_) (fun j h4 h8 h10 h11 => ?_) (by rw [ha]; exact ((u2_a _ _ (by omega)).trans ((u2_k _ _ (by decide)).trans ((u2_k _ _ (by decide)).trans ((u2_k _ _ (by decide)).trans ((u2_k _ _ (by decide)).trans ((u2_k _ _ (by decide)).trans ((u2_k _ _ (by decide)).trans ((u2_k _ _ (by decide)).trans (u2_s _ _ _ _)))))))))) (by rw [ha]; exact ((u2_k _ _ (by decide)).trans ((u2_k _ _ (by decide)).trans ((u2_k _ _ (by decide)).trans ((u2_k _ _ (by decide)).trans ((u2_k _ _ (by decide)).trans ((u2_k _ _ (by decide)).trans ((u2_k _ _ (by decide)).trans (u2_s _ _ _ _))))))))) (by rw [ha]; exact ((u2_k _ _ (by decide)).trans ((u2_k _ _ (by decide)).trans ((u2_k _ _ (by decide)).trans ((u2_k _ _ (by decide)).trans ((u2_k _ _ (by decide)).trans ((u2_k _ _ (by decide)).trans (u2_s _ _ _ _)))))))) (by rw [ha]; exact ((u2_k _ _ (by decide)).trans ((u2_k _ _ (by decide)).trans ((u2_k _ _ (by decide)).trans ((u2_k _ _ (by decide)).trans ((u2_k _ _ (by decide)).trans (u2_s _ _ _ _))))))) ((u2_k _ _ (by decide)).trans ((u2_k _ _ (by decide)).trans ((u2_k _ _ (by decide)).trans ((u2_k _ _ (by decide)).trans (u2_s _ _ _ _))))) ((u2_k _ _ (by decide)).trans ((u2_k _ _ (by decide)).trans ((u2_k _ _ (by decide)).trans (u2_s _ _ _ _)))) ((u2_k _ _ (by decide)).trans ((u2_k _ _ (by decide)).trans (u2_s _ _ _ _))) ((u2_k _ _ (by decide)).trans (u2_s _ _ _ _)) (u2_s _ _ _ _) (fun q j h1 h2 => ?_) (u2_s _ _ _ _) (fun j hj => ?_) ?_
                · rw [Nat.add_comm 1 m]
                  refine k0 _ _ _ _ _ _ _ _ (fr1.tr (s2 := sz) (s3 := sz + 2) ⟨by omega, fun q hq => by rw [q_upT_n _ _ (by omega), q_upT_n _ _ (by omega)], fun q j hq hn => ?_, fun _ _ _ _ => rfl, fun q j hq hn => ?_⟩ (fun _ _ x => x)) (fun q j h => ⟨?_, (hZ1 q j (by omega)).2.1, ?_⟩) hW3
                  · have nq : q ≠ a := fun z => hn (Or.inr (Or.inr (Or.inr (Or.inr ⟨i, hi, z.trans ha.symm⟩))))
                    rw [u2_a _ _ (by omega), u2_a _ _ (by omega), u2_a _ _ (by omega), u2_a _ _ (by omega), u2_a _ _ (by omega), u2_a _ _ nq, u2_a _ _ nq, u2_a _ _ nq, u2_a _ _ nq]
                  · have nq : q ≠ k := fun z => hn (Or.inl z)
                    rw [u2_a _ _ nq, u2_a _ _ (by omega), q_fP_n P σ (by omega)]
                  · rw [u2_a _ _ (by omega), u2_a _ _ (by omega), u2_a _ _ (by omega), u2_a _ _ (by omega), u2_a _ _ (by omega), u2_a _ _ (by omega), u2_a _ _ (by omega), u2_a _ _ (by omega), u2_a _ _ (by omega)]; exact (hZ1 q j (by omega)).1
                  · rw [u2_a _ _ (by omega), u2_a _ _ (by omega), q_fP_n P σ (by omega)]; exact (hZ1 q j (by omega)).2.2
                · rw [ha] at h2
                  rw [u2_a _ _ (by omega), u2_a _ _ (by omega), u2_a _ _ (by omega), u2_a _ _ (by omega), u2_a _ _ (by omega), u2_a _ _ h2, u2_a _ _ h2, u2_a _ _ h2, u2_a _ _ h2]
                · rw [ha, u2_a _ _ (by omega), u2_a _ _ (by omega), u2_a _ _ (by omega), u2_a _ _ (by omega), u2_a _ _ (by omega), u2_k _ _ h11, u2_k _ _ h10, u2_k _ _ h8, u2_k _ _ h4]
                · by_cases e : q = k
                  · subst e; rw [u2_k _ _ (h2 rfl), u2_a _ _ (by omega), q_fP_n P σ (by omega)]
                  · rw [u2_a _ _ e, u2_a _ _ (by omega), q_fP_n P σ (by omega)]
                · rw [u2_a _ _ (by omega), u2_k _ _ (by omega), q_fP_t P σ hj]
                · rw [u2_a _ _ (by omega), u2_s]
              refine q_aload_n hF 5 rfl rfl dX10_goes_343 ?_
              refine q_getZv hF (z := q_b (r1 (1042 + 12 * i) < r1 (32 + 13 * l))) fl_RX10_132 ((q_upT_n _ _ (by omega)).trans ((q_upT_n _ _ (by omega)).trans (hTa))) ((u2_k _ _ (by decide)).trans ((u2_k _ _ (by decide)).trans ((u2_k _ _ (by decide)).trans ((u2_k _ _ (by decide)).trans (u2_s _ _ _ _))))) dX10_goes_344 ?_
              refine q_ifeq_b hF dX10_goes_347 (fun c347 => ?_) (fun c347 => ?_)
              · refine q_iconst hF dX10_goes_354 ?_
                have eJ : (q_b (r1 (1042 + 12 * i) < r1 (32 + 13 * l))) = 0 := by first | exact q_b_t (by assumption) | exact q_b_f (by assumption)
                rw [eJ] at hJ343; first | exact hJ343 | (rw [eJ]; exact hJ343)
              · refine q_iconst hF dX10_goes_350 ?_
                refine q_goto hF dX10_goes_351 ?_
                have eJ : (q_b (r1 (1042 + 12 * i) < r1 (32 + 13 * l))) = 1 := by first | exact q_b_t (by assumption) | exact q_b_f (by assumption)
                rw [eJ] at hJ343; first | exact hJ343 | (rw [eJ]; exact hJ343)
            refine q_aload_n hF 4 rfl rfl dX10_goes_241 ?_
            refine q_getLv hF (z := r1 (1042 + 12 * i)) fl_RX10_89 hTa hA1.ce dX10_goes_242 ?_
            refine q_aload_n hF 3 rfl rfl dX10_goes_245 ?_
            refine q_getA hF fl_RX10_9 rfl hO.t0 hO.p1 dX10_goes_246 ?_
            refine q_iload hF 0 rfl dX10_goes_249 ?_
            refine q_aaloadv hF (b := k + 2 + l) l hO.t1 (by decide) rfl (by omega) (by decide) (hO.pl l (by omega)) dX10_goes_251 ?_
            refine q_iconst hF dX10_goes_252 ?_
            refine q_ialoadv hF (z := r1 (32 + 13 * l)) (n := 4) 1 (hO.tl l (by omega)) rfl (by decide) (by decide) ((u2_k _ _ (by decide)).trans ((u2_k _ _ (by decide)).trans ((u2_k _ _ (by decide)).trans ((hR1.ld l 1 (by omega) (by omega) (by decide)).trans (by rw [show 31 + 13 * l + 1 = 32 + 13 * l by omega]))))) dX10_goes_253 ?_
            refine q_i2l hF (by omega) dX10_goes_254 ?_
            refine q_cmpge hF (by omega) (by omega) dX10_goes_255 dX10_goes_256 (fun c256 => ?_) (fun c256 => ?_)
            · refine q_iconst hF dX10_goes_263 ?_
              rw [show (q_b (r1 (1042 + 12 * i) < r1 (32 + 13 * l))) = 0 from by first | exact q_b_t (by assumption) | exact q_b_f (by omega)] at hJ241; exact hJ241
            · refine q_iconst hF dX10_goes_259 ?_
              refine q_goto hF dX10_goes_260 ?_
              rw [show (q_b (r1 (1042 + 12 * i) < r1 (32 + 13 * l))) = 1 from by first | exact q_b_t (by assumption) | exact q_b_f (by omega)] at hJ241; exact hJ241
          · refine q_iconst hF dX10_goes_222 ?_
            refine q_zreturn hF (by decide) rfl dX10_goes_223 ?_
            rw [if_neg (by omega), if_pos (Or.inr (by rw [Int.toNat_natCast, ← le1]; exact c219))] at hgo
            rw [hgo] at k0
            exact k0 _ _ _ _ _ _ _ _ fr1 hZ1 (hW1.mv (fun q h => Or.inl h) (fun _ _ => rfl) (fun _ _ _ => rfl) (fun _ _ _ => rfl) (fun _ _ _ => rfl))
      · refine q_aload_n hF 4 rfl rfl dX10_goes_111 ?_
        refine q_getIv hF (z := r1 (1045 + 12 * i)) fl_RX10_114 hTa hA1.si dX10_goes_112 ?_
        refine q_aload_n hF 3 rfl rfl dX10_goes_115 ?_
        refine q_aload_n hF 4 rfl rfl dX10_goes_116 ?_
        refine q_callV (kc := 2) (ks := 18) (mc' := 0) (ms' := 0) (h' := 1) (st := [qI (r1 (1045 + 12 * i))]) hF vl_RX10_120 rfl [.ref a] rfl rfl hO.t0 (by decide) (Nat.le_of_ble_eq_true rfl) dX10_goes_117 ?_
        refine mX10_sleepOf hO hR1 hTa hA1 hv1 hVA1 (by omega) ?_
        rw [show (if g_bel r1 i = -1 then -1 else g_sleep r1 i (g_bel r1 i)) = g_sleep r1 i (l : Int) from by rw [hl, if_neg (by omega)]]
        refine q_icmpge hF (by omega) (by unfold g_sleep; omega) dX10_goes_120 (fun c120 => ?_) (fun c120 => ?_)
        · refine q_aload_n hF 3 rfl rfl dX10_goes_125 ?_
          refine q_getIv hF (z := r1 4) fl_RX10_54 hO.t0 hR1.lt dX10_goes_126 ?_
          refine q_i2l hF (by omega) dX10_goes_129 ?_
          refine q_aload_n hF 4 rfl rfl dX10_goes_130 ?_
          refine q_getLv hF (z := r1 (1042 + 12 * i)) fl_RX10_89 hTa hA1.ce dX10_goes_131 ?_
          refine q_minl hF (q_mem 604 (by decide +kernel) rfl) (q_mem 605 (by decide +kernel) rfl) (q_mem 55 (by decide +kernel) rfl) (q_mem 606 (by decide +kernel) rfl) (by omega) (by omega) (Nat.le_of_ble_eq_true rfl) dX10_goes_134 ?_
          refine q_lstore hF (ls' := [(7, qL (min (r1 4) (r1 (1042 + 12 * i)))), (6, qI (l : Int)), (4, qL (g_int r i)), (3, qI ((r 2) + 1)), (0, .ref k), (1, .ref a), (2, qI (i : Int))]) (by decide) rfl dX10_goes_137 ?_
          refine q_aload_n hF 5 rfl rfl dX10_goes_139 ?_
          refine q_dup hF rfl dX10_goes_140 ?_
          refine q_getLv hF (z := r1 (1042 + 12 * i)) fl_RX10_89 hTa hA1.ce dX10_goes_141 ?_
          refine q_lload hF 0 rfl dX10_goes_144 ?_
          refine q_lsub hF dX10_goes_146 ?_
          refine q_putL hF fl_RX10_89 hTa (q_Ale hA0 hEa.1) dX10_goes_147 ?_
          refine q_aload_n hF 4 rfl rfl dX10_goes_150 ?_
          refine q_getA hF fl_RX10_40 rfl hO.t0 hO.p12 dX10_goes_151 ?_
          refine q_iconst hF dX10_goes_154 ?_
          refine q_dup2 hF rfl rfl dX10_goes_155 ?_
          refine q_laloadv hF (z := r1 20) (n := 7) 3 hO.t17 rfl (by decide) (by decide) ((u2_a _ _ (by omega)).trans (hM1.b4 3 (by decide))) dX10_goes_156 ?_
          refine q_lload hF 0 rfl dX10_goes_157 ?_
          refine q_ladd hF dX10_goes_159 ?_
          refine q_lastorev hF (n := 7) 3 hO.t17 (q_Ale hA0 hk17.1) rfl (by decide) (by decide) dX10_goes_160 ?_
          refine q_aload_n hF 5 rfl rfl dX10_goes_161 ?_
          refine q_dup hF rfl dX10_goes_162 ?_
          refine q_getIv hF (z := r1 (1046 + 12 * i)) fl_RX10_83 hTa hA1.le dX10_goes_163 ?_
          refine q_iconst hF dX10_goes_166 ?_
          refine q_iadd hF dX10_goes_167 ?_
          refine q_putI hF fl_RX10_83 hTa (q_Ale hA0 hEa.1) dX10_goes_168 ?_
          refine q_aload_n hF 5 rfl rfl dX10_goes_171 ?_
          refine q_iload_n hF 3 rfl rfl dX10_goes_172 ?_
          refine q_putI hF fl_RX10_123 hTa (q_Ale hA0 hEa.1) dX10_goes_173 ?_
          refine q_aload_n hF 5 rfl rfl dX10_goes_176 ?_
          refine q_iconst hF dX10_goes_177 ?_
          refine q_putI hF fl_RX10_117 hTa (q_Ale hA0 hEa.1) dX10_goes_178 ?_
          refine q_aload_n hF 4 rfl rfl dX10_goes_181 ?_
          refine q_dup hF rfl dX10_goes_182 ?_
          refine q_getIv hF (z := r1 7) fl_RX10_67 hO.t0 ((u2_k _ _ (by decide)).trans ((u2_k _ _ (by decide)).trans ((u2_k _ _ (by decide)).trans hM1.se))) dX10_goes_183 ?_
          refine q_iconst hF dX10_goes_186 ?_
          refine q_iadd hF dX10_goes_187 ?_
          refine q_putI hF fl_RX10_67 hO.t0 (q_Ale hA0 hk0.1) dX10_goes_188 ?_
          refine q_iconst hF dX10_goes_191 ?_
          refine q_zreturn hF (by decide) rfl dX10_goes_192 ?_
          rw [if_pos (by omega), if_pos (by omega)] at hgo
          rw [hgo] at k0
          have fI2 : ∀ q j, q ≠ a → (q = k → j ≠ 11) → (u2 (u2 (u2 (u2 I1 a 7 ((r1 (1046 + 12 * i)) + 1)) a 9 ((r 2) + 1)) a 4 1) k 11 ((r1 7) + 1)) q j = I1 q j := fun q j h h2 => by
            by_cases e : q = k
            · subst e; rw [u2_k _ _ (h2 rfl), u2_a _ _ h, u2_a _ _ h, u2_a _ _ h]
            · rw [u2_a _ _ e, u2_a _ _ h, u2_a _ _ h, u2_a _ _ h]
          have fL2 : ∀ q j, q ≠ a → q ≠ k + 17 → (u2 (u2 L1 a 3 ((r1 (1042 + 12 * i)) - (min (r1 4) (r1 (1042 + 12 * i))))) (k + 17) 3 ((r1 20) + (min (r1 4) (r1 (1042 + 12 * i))))) q j = L1 q j := fun q j h h2 => by rw [u2_a _ _ h2, u2_a _ _ h]
          have cP : (u2 (u2 L1 a 3 ((r1 (1042 + 12 * i)) - (min (r1 4) (r1 (1042 + 12 * i))))) (k + 17) 3 ((r1 20) + (min (r1 4) (r1 (1042 + 12 * i))))) a 3 = g_wr r1 i (r 2 + 1) (1042 + 12 * i) := ((u2_a _ _ (by omega)).trans (u2_s _ _ _ _)).trans ((by omega : ((r1 (1042 + 12 * i)) - (min (r1 4) (r1 (1042 + 12 * i)))) = r1 (1042 + 12 * i) + -(min (r1 4) (r1 (1042 + 12 * i)))).trans (g_wr_c r1 i (r 2 + 1)).symm)
          have hA2 : q_OA (u2 (u2 (u2 (u2 I1 a 7 ((r1 (1046 + 12 * i)) + 1)) a 9 ((r 2) + 1)) a 4 1) k 11 ((r1 7) + 1)) (u2 (u2 L1 a 3 ((r1 (1042 + 12 * i)) - (min (r1 4) (r1 (1042 + 12 * i))))) (k + 17) 3 ((r1 20) + (min (r1 4) (r1 (1042 + 12 * i))))) a (g_wr r1 i (r 2 + 1)) i := ⟨((u2_k _ _ (by decide)).trans ((u2_k _ _ (by decide)).trans ((u2_k _ _ (by decide)).trans ((u2_k _ _ (by decide)).trans hA1.kd)))).trans (g_wr_n r1 (by omega) (by omega) (by omega) (by omega) (by omega) (by omega)).symm, ((u2_k _ _ (by decide)).trans ((u2_k _ _ (by decide)).trans ((u2_k _ _ (by decide)).trans ((u2_k _ _ (by decide)).trans hA1.ad)))).trans (g_wr_n r1 (by omega) (by omega) (by omega) (by omega) (by omega) (by omega)).symm, ((u2_k _ _ (by decide)).trans ((u2_k _ _ (by decide)).trans ((u2_k _ _ (by decide)).trans ((u2_k _ _ (by decide)).trans hA1.bi)))).trans (g_wr_n r1 (by omega) (by omega) (by omega) (by omega) (by omega) (by omega)).symm, cP, ((u2_k _ _ (by decide)).trans (u2_s _ _ _ _)).trans (g_wr_t r1 i (r 2 + 1)).symm, ((u2_k _ _ (by decide)).trans ((u2_k _ _ (by decide)).trans ((u2_k _ _ (by decide)).trans ((u2_k _ _ (by decide)).trans hA1.ag)))).trans (g_wr_n r1 (by omega) (by omega) (by omega) (by omega) (by omega) (by omega)).symm, ((u2_k _ _ (by decide)).trans ((u2_k _ _ (by decide)).trans ((u2_k _ _ (by decide)).trans ((u2_k _ _ (by decide)).trans hA1.si)))).trans (g_wr_n r1 (by omega) (by omega) (by omega) (by omega) (by omega) (by omega)).symm, ((u2_k _ _ (by decide)).trans ((u2_k _ _ (by decide)).trans ((u2_k _ _ (by decide)).trans (u2_s _ _ _ _)))).trans (g_wr_w r1 i (r 2 + 1)).symm, ((u2_k _ _ (by decide)).trans ((u2_k _ _ (by decide)).trans ((u2_k _ _ (by decide)).trans ((u2_k _ _ (by decide)).trans hA1.ho)))).trans (g_wr_n r1 (by omega) (by omega) (by omega) (by omega) (by omega) (by omega)).symm, ((u2_k _ _ (by decide)).trans ((u2_k _ _ (by decide)).trans (u2_s _ _ _ _))).trans (g_wr_l r1 i (r 2 + 1)).symm, ((u2_k _ _ (by decide)).trans ((u2_k _ _ (by decide)).trans ((u2_k _ _ (by decide)).trans ((u2_k _ _ (by decide)).trans hA1.ha)))).trans (g_wr_n r1 (by omega) (by omega) (by omega) (by omega) (by omega) (by omega)).symm, ((u2_a _ _ (by omega)).trans ((u2_k _ _ (by decide)).trans ((u2_k _ _ (by decide)).trans ((u2_k _ _ (by decide)).trans hA1.nl)))).trans (g_wr_n r1 (by omega) (by omega) (by omega) (by omega) (by omega) (by omega)).symm⟩
          have b42 : ∀ x, x < 4 → (u2 (u2 L1 a 3 ((r1 (1042 + 12 * i)) - (min (r1 4) (r1 (1042 + 12 * i))))) (k + 17) 3 ((r1 20) + (min (r1 4) (r1 (1042 + 12 * i))))) (k + 17) x = g_wr r1 i (r 2 + 1) (17 + x) := fun x hx => by
            by_cases e : x = 3
            · subst e; rw [u2_s]; exact (g_wr_b r1 i (r 2 + 1)).symm
            · rw [u2_k _ _ e, u2_a _ _ nk17, hM1.b4 x hx, g_wr_n r1 (by omega) (by omega) (by omega) (by omega) (by omega) (by omega)]
          have b62 : (u2 (u2 L1 a 3 ((r1 (1042 + 12 * i)) - (min (r1 4) (r1 (1042 + 12 * i))))) (k + 17) 3 ((r1 20) + (min (r1 4) (r1 (1042 + 12 * i))))) (k + 17) 6 = g_wr r1 i (r 2 + 1) 23 := by
            rw [u2_k _ _ (by decide), u2_a _ _ nk17, hM1.b6, g_wr_n r1 (by omega) (by omega) (by omega) (by omega) (by omega) (by omega)]
          have h72 : (u2 (u2 (u2 (u2 I1 a 7 ((r1 (1046 + 12 * i)) + 1)) a 9 ((r 2) + 1)) a 4 1) k 11 ((r1 7) + 1)) k 11 = g_wr r1 i (r 2 + 1) 7 := (u2_s _ _ _ _).trans (by unfold g_wr; rw [g_up_s])
          generalize hI2 : u2 (u2 (u2 (u2 I1 a 7 ((r1 (1046 + 12 * i)) + 1)) a 9 ((r 2) + 1)) a 4 1) k 11 ((r1 7) + 1) = I2 at fI2 hA2 h72 ⊢
          generalize hL2 : u2 (u2 L1 a 3 ((r1 (1042 + 12 * i)) - (min (r1 4) (r1 (1042 + 12 * i))))) (k + 17) 3 ((r1 20) + (min (r1 4) (r1 (1042 + 12 * i)))) = L2 at fL2 cP hA2 b42 b62 ⊢
          have hs2 : g_same r1 (g_wr r1 i (r 2 + 1)) := fun x hx => by unfold g_rc at hx; exact g_wr_n r1 (by omega) (by omega) (by omega) (by omega) (by omega) (by omega)
          have hW2 : q_OW E T I2 L2 P k v n ρ w m σ (g_wr r1 i (r 2 + 1)) := hW1.upd hv1 hs2 hi (g_wr_n r1 (by omega) (by omega) (by omega) (by omega) (by omega) (by omega)) (g_wr_n r1 (by omega) (by omega) (by omega) (by omega) (by omega) (by omega)) (fun j x h1 h2 h3 h4 => g_wr_n r1 (by omega) (by omega) (by omega) (by omega) (by omega) (by omega)) (fun x hx => g_wr_n r1 (by omega) (by omega) (by omega) (by omega) (by omega) (by omega)) (fun q j h h2 => fI2 q j (by rw [ha] at h; exact h) (fun z => (h2 z).1)) (fun q j h h2 _ _ => fL2 q j (by rw [ha] at h; exact h) h2) (by rw [ha]; exact hA2) ((fI2 _ _ nk (fun _ => by decide)).trans (hM1.mo.trans (g_wr_n r1 (by omega) (by omega) (by omega) (by omega) (by omega) (by omega)).symm)) h72 b42 b62 (fun x hx => (fL2 _ _ nk18 (by omega)).trans ((hM1.pd x hx).trans (g_wr_n r1 (by omega) (by omega) (by omega) (by omega) (by omega) (by omega)).symm)) (fun x hx => (fL2 _ _ nk19 (by omega)).trans ((hM1.ps x hx).trans (g_wr_n r1 (by omega) (by omega) (by omega) (by omega) (by omega) (by omega)).symm))
          have hZ2 : q_F0 sz I2 L2 P := fun q j h => ⟨(fI2 q j (by omega) (by omega)).trans (hZ1 q j h).1, (fL2 q j (by omega) (by omega)).trans (hZ1 q j h).2.1, (hZ1 q j h).2.2⟩
          have fr2 : q_Fr (q_Wk k n ρ) sz sz T I1 L1 P T I2 L2 P := ⟨Nat.le_refl _, fun _ _ => rfl, fun q j _ hn => fI2 q j (fun z => hn (Or.inr (Or.inr (Or.inr (Or.inr ⟨i, hi, z.trans ha.symm⟩))))) (fun z => absurd (Or.inl z) hn), fun q j _ hn => fL2 q j (fun z => hn (Or.inr (Or.inr (Or.inr (Or.inr ⟨i, hi, z.trans ha.symm⟩))))) (fun z => hn (Or.inr (Or.inl z))), fun _ _ _ _ => rfl⟩
          exact k0 _ _ _ _ _ _ _ _ (fr1.tr fr2 (fun _ _ x => x)) hZ2 (hW2.mv (fun q h => Or.inl h) (fun _ _ => rfl) (fun _ _ _ => rfl) (fun _ _ _ => rfl) (fun _ _ _ => rfl))
        · refine q_iconst hF dX10_goes_123 ?_
          refine q_zreturn hF (by decide) rfl dX10_goes_124 ?_
          rw [if_pos (by omega), if_neg (by omega)] at hgo
          rw [hgo] at k0
          exact k0 _ _ _ _ _ _ _ _ fr1 hZ1 (hW1.mv (fun q h => Or.inl h) (fun _ _ => rfl) (fun _ _ _ => rfl) (fun _ _ _ => rfl) (fun _ _ _ => rfl))
    · refine q_iconst hF dX10_goes_102 ?_
      refine q_zreturn hF (by decide) rfl dX10_goes_103 ?_
      have hbr := g_bel_r hv1 hVA1
      rw [if_pos (by omega)] at hgo
      rw [hgo] at k0
      exact k0 _ _ _ _ _ _ _ _ fr1 hZ1 (hW1.mv (fun q h => Or.inl h) (fun _ _ => rfl) (fun _ _ _ => rfl) (fun _ _ _ => rfl) (fun _ _ _ => rfl))
  · refine q_iconst hF dX10_goes_7 ?_
    refine q_zreturn hF (by decide) rfl dX10_goes_8 ?_
    rw [g_goes_closed (show ¬ (r (1043 + 12 * i) = 0 ∨ r (1043 + 12 * i) = 1) by omega)] at k0
    exact k0 _ _ _ _ _ _ _ _ q_Fr.rfl' hZ (hW.mv (fun q h => Or.inl h) (fun _ _ => rfl) (fun _ _ _ => rfl) (fun _ _ _ => rfl) (fun _ _ _ => rfl))
