/-! the class: an account's month -/
theorem g_r1_b (r : Nat → Int) (a : Nat) : g_r1 r a 18 = r 18 + g_int r a := by
  unfold g_r1
  rw [g_up_n _ _ (by omega), g_up_n _ _ (by omega), g_up_s]
set_option maxRecDepth 100000 in
theorem mX0_goMonth {G : q_G} {sz : Nat} {T : q_T} {I L : q_I} {P : q_P} {Q : q_Q} {o : Nat} {u : Nat} {nx : Int} {a : Nat} {bd : Int} {r : Nat → Int} (hU : q_SR T P u) (hUA : q_A G u) (hR : q_RR I u r) (hv : g_V0 r) (hO : T o = some (.inl 0)) (hOA : q_A G o) (hAR : q_AR I o r a) (ha : g_VA r a bd) (hbd : bd ≤ 6999) (hsep : o < u ∨ u + 18 ≤ o) (hnx : 0 ≤ nx ∧ nx ≤ 7000) (hop : r (1043 + 12 * a) = 0 ∨ r (1043 + 12 * a) = 1) (ha12 : a < 12) (h6 : 0 ≤ r 6) (k0 : ∀ I' L', (∀ q k, q ≠ o → I' q k = I q k) → (∀ q k, q ≠ o → q ≠ u + 7 → L' q k = L q k) → q_AR I' o (g_goes r a nx).2 a → (L' o 12 = L o 12 ∧ L' o 13 = L o 13 + ((g_goes r a nx).2 18 - r 18) ∧ L' o 14 = L o 14 ∧ L' o 15 = L o 15 + ((g_goes r a nx).2 20 - r 20) ∧ L' o 16 = L o 16) → Q (.inl none) sz T I' L' P) : qC G 4 0 0 YX0_goMonth [.ref o, .ref u, qI nx] sz T I L P Q := by
  refine qC_of (by decide +kernel) rfl rfl (Nat.le_of_ble_eq_true rfl) (fun F hF _ _ => ?_)
  have f3 := ha.kind
  obtain ⟨kd, hk⟩ : ∃ kd : Nat, r (1039 + 12 * a) = (kd : Int) := ⟨(r (1039 + 12 * a)).toNat, by omega⟩
  have hkd : kd < 5 := by omega
  have fc := ha.cents
  have fp := hv.pays kd hkd
  have fi := g_int_r hv ha
  rw [hk, Int.toNat_natCast] at fi
  refine q_aload_n hF 0 rfl rfl dX0_goMonth_0 ?_
  refine q_aload_n hF 1 rfl rfl dX0_goMonth_1 ?_
  refine q_aload_n hF 0 rfl rfl dX0_goMonth_2 ?_
  refine q_getIv hF (z := (kd : Int)) fl_RX0_9 hO (hAR.kind.trans hk) dX0_goMonth_3 ?_
  refine q_callV (kc := 0) (ks := 0) (mc' := 0) (ms' := 0) (h' := 0) (st := [.ref o]) hF vl_RX0_65 rfl [qI (kd : Int)] rfl rfl hU.t0 (by decide) (Nat.le_of_ble_eq_true rfl) dX0_goMonth_6 ?_
  refine mX4_rateOf (kd := kd) (r := r) hU hR (by omega) ?_
  refine q_callV (kc := 0) (ks := 0) (mc' := 0) (ms' := 0) (h' := 1) (st := []) hF vl_RX0_71 rfl [qI (r (12 + kd))] rfl rfl hO (by decide) (Nat.le_of_ble_eq_true rfl) dX0_goMonth_9 ?_
  refine mX0_creditR (r := r) hO hOA hAR (by omega) (by omega) (by omega) ?_
  refine q_aload_n hF 0 rfl rfl dX0_goMonth_12 ?_
  refine q_dup hF rfl dX0_goMonth_13 ?_
  refine q_getIv hF (z := r (1044 + 12 * a)) fl_RX0_27 hO ((u2_k _ _ (by decide)).trans hAR.age) dX0_goMonth_14 ?_
  refine q_iconst hF dX0_goMonth_17 ?_
  refine q_iadd hF dX0_goMonth_18 ?_
  refine q_putI hF fl_RX0_27 hO hOA dX0_goMonth_19 ?_
  refine q_aload_n hF 0 rfl rfl dX0_goMonth_22 ?_
  refine q_dup hF rfl dX0_goMonth_23 ?_
  refine q_getIv hF (z := r (1045 + 12 * a)) fl_RX0_30 hO ((u2_k _ _ (by decide)).trans ((u2_k _ _ (by decide)).trans hAR.since)) dX0_goMonth_24 ?_
  refine q_iconst hF dX0_goMonth_27 ?_
  refine q_iadd hF dX0_goMonth_28 ?_
  refine q_putI hF fl_RX0_30 hO hOA dX0_goMonth_29 ?_
  obtain ⟨I1, hI1⟩ : ∃ I1 : q_I, I1 = u2 (u2 (u2 I o 3 ((r (1042 + 12 * a)) + (min (((r (1042 + 12 * a)) * (r (12 + kd))).tdiv 120000) (100000000 - (r (1042 + 12 * a)))))) o 5 ((r (1044 + 12 * a)) + 1)) o 6 ((r (1045 + 12 * a)) + 1) := ⟨_, rfl⟩
  obtain ⟨L1, hL1⟩ : ∃ L1 : q_I, L1 = u2 L o 13 ((L o 13) + (min (((r (1042 + 12 * a)) * (r (12 + kd))).tdiv 120000) (100000000 - (r (1042 + 12 * a))))) := ⟨_, rfl⟩
  rw [← hI1, ← hL1]
  obtain ⟨R1, hR1e⟩ : ∃ R1 : Nat → Int, R1 = g_r1 r a := ⟨_, rfl⟩
  have hI1n : ∀ q k, q ≠ o → I1 q k = I q k := fun q k h => by rw [hI1, u2_a _ _ h, u2_a _ _ h, u2_a _ _ h]
  have hI1k : ∀ k, k ≠ 3 → k ≠ 5 → k ≠ 6 → I1 o k = I o k := fun k x y z => by rw [hI1, u2_k _ _ z, u2_k _ _ y, u2_k _ _ x]
  have hL1n : ∀ q k, q ≠ o → L1 q k = L q k := fun q k h => by rw [hL1, u2_a _ _ h]
  have hint : g_int r a = (min (((r (1042 + 12 * a)) * (r (12 + kd))).tdiv 120000) (100000000 - (r (1042 + 12 * a)))) := by unfold g_int; rw [hk, Int.toNat_natCast, Int.min_comm]
  have hv1 : g_V0 R1 := by rw [hR1e]; exact hv.r1 a
  have ha1 : g_VA R1 a (bd + 1) := by rw [hR1e]; exact ha.r1 hv
  have hR1 : q_RR I1 u R1 := by rw [hR1e]; exact hR.ext hv (fun q k x y => hI1n q k (by omega)) (g_r1_same r a)
  have hn1 : ∀ k, k ≠ 1042 + 12 * a → k ≠ 18 → k ≠ 1044 + 12 * a → k ≠ 1045 + 12 * a → R1 k = r k := fun k x y z w => by rw [hR1e]; exact g_r1_n _ x y z w
  have e1 : R1 (1043 + 12 * a) = r (1043 + 12 * a) := hn1 _ (by omega) (by omega) (by omega) (by omega)
  have hAR1 : q_AR I1 o R1 a := by
    refine ⟨?_, ?_, ?_, ?_, ?_, ?_, ?_, ?_, ?_, ?_, ?_, fun q => absurd q (by omega)⟩
    · rw [hI1k 0 (by decide) (by decide) (by decide), hn1 _ (by omega) (by omega) (by omega) (by omega)]; exact hAR.kind
    · rw [hI1k 1 (by decide) (by decide) (by decide), hn1 _ (by omega) (by omega) (by omega) (by omega)]; exact hAR.addr
    · rw [hI1k 2 (by decide) (by decide) (by decide), hn1 _ (by omega) (by omega) (by omega) (by omega)]; exact hAR.birth
    · rw [hI1, u2_k _ _ (by decide), u2_k _ _ (by decide), u2_s, hR1e, g_r1_c, hint]
    · rw [hI1k 4 (by decide) (by decide) (by decide), hn1 _ (by omega) (by omega) (by omega) (by omega)]; exact hAR.state
    · rw [hI1, u2_k _ _ (by decide), u2_s, hR1e, g_r1_a]
    · rw [hI1, u2_s, hR1e, g_r1_s]
    · rw [hI1k 7 (by decide) (by decide) (by decide), hn1 _ (by omega) (by omega) (by omega) (by omega)]; exact hAR.wrote
    · rw [hI1k 8 (by decide) (by decide) (by decide), hn1 _ (by omega) (by omega) (by omega) (by omega)]; exact hAR.lat
    · rw [hI1k 9 (by decide) (by decide) (by decide), hn1 _ (by omega) (by omega) (by omega) (by omega)]; exact hAR.holder
    · rw [hI1k 11 (by decide) (by decide) (by decide), hn1 _ (by omega) (by omega) (by omega) (by omega)]; exact hAR.nl
  have h1 := ha1.cents
  have h2 := ha1.since
  have h4 := hv1.cost
  have h5 := g_bel_r hv1 ha1
  have h13 := ha1.lat
  have h14 := hv1.wait
  have h15 := hn1 20 (by omega) (by omega) (by omega) (by omega)
  have h16 : R1 18 = r 18 + g_int r a := by rw [hR1e]; exact g_r1_b r a
  have hL13 : L1 o 13 = L o 13 + g_int r a := by rw [hL1, u2_s, hint]
  have hL1k : ∀ k, k ≠ 13 → L1 o k = L o k := fun k x => by rw [hL1, u2_k _ _ x]
  have e2 : R1 (1048 + 12 * a) = r (1048 + 12 * a) := hn1 _ (by omega) (by omega) (by omega) (by omega)
  have e3 : R1 3 = r 3 := hn1 _ (by omega) (by omega) (by omega) (by omega)
  have e6 : R1 6 = r 6 := hn1 _ (by omega) (by omega) (by omega) (by omega)
  have hg : g_goes r a nx = (if g_bel R1 a = -1 then (0, R1) else if r (1043 + 12 * a) = 0 then (0, if g_sleep R1 a (g_bel R1 a) ≤ R1 (1045 + 12 * a) then g_wr R1 a nx else R1) else if nx - r (1048 + 12 * a) < r 3 ∨ nx.tmod 12 ≠ r (31 + 13 * (g_bel R1 a).toNat) then (0, R1) else (1, g_ha R1 a (g_bel R1 a) nx)) := by unfold g_goes; rw [if_pos hop, ← hR1e]
  refine q_aload_n hF 1 rfl rfl dX0_goMonth_32 ?_
  refine q_aload_n hF 0 rfl rfl dX0_goMonth_33 ?_
  refine q_callV (kc := 0) (ks := 0) (mc' := 0) (ms' := 0) (h' := 2) (st := []) hF vl_RX0_75 rfl [.ref o] rfl rfl hU.t0 (by decide) (Nat.le_of_ble_eq_true rfl) dX0_goMonth_34 ?_
  refine mX4_landOf (r := R1) hU hR1 hv1 hO hAR1 ha1 ?_
  refine q_istore_n hF (ls' := [(3, qI (g_bel R1 a)), (0, .ref o), (1, .ref u), (2, qI nx)]) rfl (by decide) rfl dX0_goMonth_37 ?_
  refine q_aload_n hF 2 rfl rfl dX0_goMonth_38 ?_
  refine q_iload_n hF 0 rfl rfl dX0_goMonth_39 ?_
  refine q_callV (kc := 0) (ks := 0) (mc' := 0) (ms' := 0) (h' := 0) (st := []) hF vl_RX0_79 rfl [qI (g_bel R1 a)] rfl rfl hU.t0 (by decide) (Nat.le_of_ble_eq_true rfl) dX0_goMonth_40 ?_
  refine mX4_isLand (r := R1) hU hR1 hv1 (by omega) ?_
  refine q_ifne_b hF dX0_goMonth_43 (fun c43 => ?_) (fun c43 => ?_)
  · have c40 : g_bel R1 a ≠ -1 := by have := c43.1; omega
    obtain ⟨⟨h7, h8, h9⟩, h10⟩ := g_bel_tk hv1 ha1 c40
    obtain ⟨l, hl⟩ : ∃ l : Nat, g_bel R1 a = (l : Int) := ⟨_, (Int.toNat_of_nonneg h7).symm⟩
    rw [hl]
    rw [hl] at hg h7 h8 h9 h10 c40 c43
    rw [if_neg c40, Int.toNat_natCast] at hg
    have h20 := hv1.lands
    have e4 : R1 (31 + 13 * l) = r (31 + 13 * l) := hn1 _ (by omega) (by omega) (by omega) (by omega)
    have h11 := hv1.land l h8
    refine q_aload_n hF 1 rfl rfl dX0_goMonth_47 ?_
    refine q_getIv hF (z := R1 (1043 + 12 * a)) fl_RX0_24 hO hAR1.state dX0_goMonth_48 ?_
    refine q_ifne hF (by omega) dX0_goMonth_51 (fun c51 => ?_) (fun c51 => ?_)
    · refine q_iload_n hF 3 rfl rfl dX0_goMonth_79 ?_
      refine q_aload_n hF 1 rfl rfl dX0_goMonth_80 ?_
      refine q_getIv hF (z := R1 (1048 + 12 * a)) fl_RX0_36 hO hAR1.lat dX0_goMonth_81 ?_
      refine q_isub hF dX0_goMonth_84 ?_
      refine q_aload_n hF 2 rfl rfl dX0_goMonth_85 ?_
      refine q_getIv hF (z := R1 3) fl_RX0_93 hU.t0 hR1.wait dX0_goMonth_86 ?_
      refine q_icmplt hF (by omega) (by omega) dX0_goMonth_89 (fun c89 => ?_) (fun c89 => ?_)
      · refine q_return hF rfl dX0_goMonth_123 ?_
        have hgo : (g_goes r a nx).2 = R1 := by rw [hg, if_neg (by omega), if_pos (by omega)]
        refine k0 I1 L1 (fun q k x => hI1n q k x) (fun q k x y => hL1n q k x) ?_ ?_
        · rw [hgo]
          exact hAR1
        · rw [hgo]
          refine ⟨by rw [hL1k 12 (by decide)], by rw [hL13, h16]; omega, by rw [hL1k 14 (by decide)], by rw [hL1k 15 (by decide), h15]; omega, by rw [hL1k 16 (by decide)]⟩
      · refine q_iload_n hF 3 rfl rfl dX0_goMonth_92 ?_
        refine q_bipush hF (n := 12) rfl dX0_goMonth_93 ?_
        refine q_irem hF (by omega) (by decide) (by decide) dX0_goMonth_95 ?_
        refine q_aload_n hF 2 rfl rfl dX0_goMonth_96 ?_
        refine q_getA hF fl_RX0_96 rfl hU.t0 hU.p0 dX0_goMonth_97 ?_
        refine q_iload_n hF 0 rfl rfl dX0_goMonth_100 ?_
        refine q_aaloadv hF (b := u + 8 + 2 * l) l hU.t1 (by decide) rfl (by omega) (by decide) (hU.pl _ (by omega)) dX0_goMonth_101 ?_
        refine q_getIv hF (z := R1 (31 + 13 * l)) fl_RX0_100 (hU.tl _ (by omega)) (hR1.land _ (by omega)).2.1 dX0_goMonth_102 ?_
        refine q_icmpne hF (by have e9 := Int.tmod_eq_emod_of_nonneg (b := 12) hnx.1; omega) (by omega) dX0_goMonth_105 (fun c105 => ?_) (fun c105 => ?_)
        · refine q_return hF rfl dX0_goMonth_123 ?_
          have hgo : (g_goes r a nx).2 = R1 := by rw [hg, if_neg (by omega), if_pos (by omega)]
          refine k0 I1 L1 (fun q k x => hI1n q k x) (fun q k x y => hL1n q k x) ?_ ?_
          · rw [hgo]
            exact hAR1
          · rw [hgo]
            refine ⟨by rw [hL1k 12 (by decide)], by rw [hL13, h16]; omega, by rw [hL1k 14 (by decide)], by rw [hL1k 15 (by decide), h15]; omega, by rw [hL1k 16 (by decide)]⟩
        · refine q_aload_n hF 1 rfl rfl dX0_goMonth_108 ?_
          refine q_iload_n hF 0 rfl rfl dX0_goMonth_109 ?_
          refine q_aload_n hF 2 rfl rfl dX0_goMonth_110 ?_
          refine q_getA hF fl_RX0_96 rfl hU.t0 hU.p0 dX0_goMonth_111 ?_
          refine q_iload_n hF 0 rfl rfl dX0_goMonth_114 ?_
          refine q_aaloadv hF (b := u + 8 + 2 * l) l hU.t1 (by decide) rfl (by omega) (by decide) (hU.pl _ (by omega)) dX0_goMonth_115 ?_
          refine q_getIv hF (z := R1 (32 + 13 * l)) fl_RX0_105 (hU.tl _ (by omega)) (hR1.land _ (by omega)).2.2.1 dX0_goMonth_116 ?_
          refine q_iload_n hF 3 rfl rfl dX0_goMonth_119 ?_
          refine q_callV (kc := 0) (ks := 0) (mc' := 0) (ms' := 0) (h' := 0) (st := []) hF vl_RX0_108 rfl [qI (l : Int), qI (R1 (32 + 13 * l)), qI nx] rfl rfl hO (by decide) (Nat.le_of_ble_eq_true rfl) dX0_goMonth_120 ?_
          refine mX0_handOverR (r := R1) hO hOA hAR1 (by omega) (by omega) ?_
          refine q_return hF rfl dX0_goMonth_123 ?_
          have hgo : (g_goes r a nx).2 = g_ha R1 a (l : Int) nx := by rw [hg, if_neg (by omega), if_neg (by omega)]
          refine k0 (u2 (u2 (u2 (u2 I1 o 4 2) o 9 (l : Int)) o 10 nx) o 11 (q_b (R1 (1042 + 12 * a) < (R1 (32 + 13 * l))))) L1 (fun q k x => by rw [u2_a _ _ x, u2_a _ _ x, u2_a _ _ x, u2_a _ _ x]; exact hI1n q k x) (fun q k x y => hL1n q k x) ?_ ?_
          · rw [hgo]
            refine ⟨?_, ?_, ?_, ?_, ?_, ?_, ?_, ?_, ?_, ?_, ?_, fun _ => ?_⟩
            · rw [u2_k _ _ (by decide), u2_k _ _ (by decide), u2_k _ _ (by decide), u2_k _ _ (by decide), g_ha_n _ (by omega) (by omega) (by omega) (by omega) (by omega) (by omega) (by omega)]; exact hAR1.kind
            · rw [u2_k _ _ (by decide), u2_k _ _ (by decide), u2_k _ _ (by decide), u2_k _ _ (by decide), g_ha_n _ (by omega) (by omega) (by omega) (by omega) (by omega) (by omega) (by omega)]; exact hAR1.addr
            · rw [u2_k _ _ (by decide), u2_k _ _ (by decide), u2_k _ _ (by decide), u2_k _ _ (by decide), g_ha_n _ (by omega) (by omega) (by omega) (by omega) (by omega) (by omega) (by omega)]; exact hAR1.birth
            · rw [u2_k _ _ (by decide), u2_k _ _ (by decide), u2_k _ _ (by decide), u2_k _ _ (by decide), g_ha_n _ (by omega) (by omega) (by omega) (by omega) (by omega) (by omega) (by omega)]; exact hAR1.cents
            · rw [u2_k _ _ (by decide), u2_k _ _ (by decide), u2_k _ _ (by decide), u2_s, g_ha_t]
            · rw [u2_k _ _ (by decide), u2_k _ _ (by decide), u2_k _ _ (by decide), u2_k _ _ (by decide), g_ha_n _ (by omega) (by omega) (by omega) (by omega) (by omega) (by omega) (by omega)]; exact hAR1.age
            · rw [u2_k _ _ (by decide), u2_k _ _ (by decide), u2_k _ _ (by decide), u2_k _ _ (by decide), g_ha_n _ (by omega) (by omega) (by omega) (by omega) (by omega) (by omega) (by omega)]; exact hAR1.since
            · rw [u2_k _ _ (by decide), u2_k _ _ (by decide), u2_k _ _ (by decide), u2_k _ _ (by decide), g_ha_n _ (by omega) (by omega) (by omega) (by omega) (by omega) (by omega) (by omega)]; exact hAR1.wrote
            · rw [u2_k _ _ (by decide), u2_k _ _ (by decide), u2_k _ _ (by decide), u2_k _ _ (by decide), g_ha_n _ (by omega) (by omega) (by omega) (by omega) (by omega) (by omega) (by omega)]; exact hAR1.lat
            · rw [u2_k _ _ (by decide), u2_k _ _ (by decide), u2_s, g_ha_h]
            · rw [u2_s, g_ha_m, Int.toNat_natCast]
            · rw [u2_k _ _ (by decide), u2_s, g_ha_d]
          · rw [hgo]
            refine ⟨by rw [hL1k 12 (by decide)], by rw [hL13, g_ha_n _ (by omega) (by omega) (by omega) (by omega) (by omega) (by omega) (by omega), h16]; omega, by rw [hL1k 14 (by decide)], by rw [hL1k 15 (by decide), g_ha_n _ (by omega) (by omega) (by omega) (by omega) (by omega) (by omega) (by omega), h15]; omega, by rw [hL1k 16 (by decide)]⟩
    · refine q_aload_n hF 1 rfl rfl dX0_goMonth_54 ?_
      refine q_getIv hF (z := R1 (1045 + 12 * a)) fl_RX0_30 hO hAR1.since dX0_goMonth_55 ?_
      refine q_aload_n hF 2 rfl rfl dX0_goMonth_58 ?_
      refine q_aload_n hF 1 rfl rfl dX0_goMonth_59 ?_
      refine q_iload_n hF 0 rfl rfl dX0_goMonth_60 ?_
      refine q_callV (kc := 0) (ks := 0) (mc' := 0) (ms' := 0) (h' := 3) (st := [qI (R1 (1045 + 12 * a))]) hF vl_RX0_83 rfl [.ref o, qI (l : Int)] rfl rfl hU.t0 (by decide) (Nat.le_of_ble_eq_true rfl) dX0_goMonth_61 ?_
      refine mX4_sleepOf (l := l) (r := R1) hU hUA hR1 hv1 hO hAR1 ha1 (by omega) (by omega) h10 (fun L' c61_0 => ?_)
      have h12 : 0 ≤ g_sleep R1 a (l : Int) ∧ g_sleep R1 a (l : Int) ≤ 600 := by unfold g_sleep; omega
      refine q_icmplt hF (by omega) (by omega) dX0_goMonth_64 (fun c64 => ?_) (fun c64 => ?_)
      · refine q_return hF rfl dX0_goMonth_123 ?_
        have hgo : (g_goes r a nx).2 = R1 := by rw [hg, if_pos (by omega), if_neg (by omega)]
        refine k0 I1 L' (fun q k x => hI1n q k x) (fun q k x y => (c61_0 q k y).trans (hL1n q k x)) ?_ ?_
        · rw [hgo]
          exact hAR1
        · rw [hgo]
          refine ⟨by rw [c61_0 _ _ (by omega), hL1k 12 (by decide)], by rw [c61_0 _ _ (by omega), hL13, h16]; omega, by rw [c61_0 _ _ (by omega), hL1k 14 (by decide)], by rw [c61_0 _ _ (by omega), hL1k 15 (by decide), h15]; omega, by rw [c61_0 _ _ (by omega), hL1k 16 (by decide)]⟩
      · refine q_aload_n hF 1 rfl rfl dX0_goMonth_67 ?_
        refine q_aload_n hF 2 rfl rfl dX0_goMonth_68 ?_
        refine q_getIv hF (z := R1 4) fl_RX0_87 hU.t0 hR1.cost dX0_goMonth_69 ?_
        refine q_iload_n hF 3 rfl rfl dX0_goMonth_72 ?_
        refine q_callV (kc := 0) (ks := 0) (mc' := 0) (ms' := 0) (h' := 1) (st := []) hF vl_RX0_89 rfl [qI (R1 4), qI nx] rfl rfl hO (by decide) (Nat.le_of_ble_eq_true rfl) dX0_goMonth_73 ?_
        refine mX0_receiveLetterR (r := R1) hO hOA hAR1 (by omega) (by omega) ?_
        refine q_goto hF dX0_goMonth_76 ?_
        refine q_return hF rfl dX0_goMonth_123 ?_
        have hgo : (g_goes r a nx).2 = g_wr R1 a nx := by rw [hg, if_pos (by omega), if_pos (by omega)]
        refine k0 (u2 (u2 (u2 (u2 I1 o 3 ((R1 (1042 + 12 * a)) - (min (R1 4) (R1 (1042 + 12 * a))))) o 7 ((R1 (1046 + 12 * a)) + 1)) o 8 nx) o 4 1) (u2 L' o 15 ((L' o 15) + (min (R1 4) (R1 (1042 + 12 * a))))) (fun q k x => by rw [u2_a _ _ x, u2_a _ _ x, u2_a _ _ x, u2_a _ _ x]; exact hI1n q k x) (fun q k x y => by rw [u2_a _ _ x]; exact (c61_0 q k y).trans (hL1n q k x)) ?_ ?_
        · rw [hgo]
          refine ⟨?_, ?_, ?_, ?_, ?_, ?_, ?_, ?_, ?_, ?_, ?_, fun q => ?_⟩
          · rw [u2_k _ _ (by decide), u2_k _ _ (by decide), u2_k _ _ (by decide), u2_k _ _ (by decide), g_wr_n _ (by omega) (by omega) (by omega) (by omega) (by omega) (by omega)]; exact hAR1.kind
          · rw [u2_k _ _ (by decide), u2_k _ _ (by decide), u2_k _ _ (by decide), u2_k _ _ (by decide), g_wr_n _ (by omega) (by omega) (by omega) (by omega) (by omega) (by omega)]; exact hAR1.addr
          · rw [u2_k _ _ (by decide), u2_k _ _ (by decide), u2_k _ _ (by decide), u2_k _ _ (by decide), g_wr_n _ (by omega) (by omega) (by omega) (by omega) (by omega) (by omega)]; exact hAR1.birth
          · rw [u2_k _ _ (by decide), u2_k _ _ (by decide), u2_k _ _ (by decide), u2_s, g_wr_c]; omega
          · rw [u2_s, g_wr_t]
          · rw [u2_k _ _ (by decide), u2_k _ _ (by decide), u2_k _ _ (by decide), u2_k _ _ (by decide), g_wr_n _ (by omega) (by omega) (by omega) (by omega) (by omega) (by omega)]; exact hAR1.age
          · rw [u2_k _ _ (by decide), u2_k _ _ (by decide), u2_k _ _ (by decide), u2_k _ _ (by decide), g_wr_n _ (by omega) (by omega) (by omega) (by omega) (by omega) (by omega)]; exact hAR1.since
          · rw [u2_k _ _ (by decide), u2_k _ _ (by decide), u2_s, g_wr_w]
          · rw [u2_k _ _ (by decide), u2_s, g_wr_l]
          · rw [u2_k _ _ (by decide), u2_k _ _ (by decide), u2_k _ _ (by decide), u2_k _ _ (by decide), g_wr_n _ (by omega) (by omega) (by omega) (by omega) (by omega) (by omega)]; exact hAR1.holder
          · rw [u2_k _ _ (by decide), u2_k _ _ (by decide), u2_k _ _ (by decide), u2_k _ _ (by decide), g_wr_n _ (by omega) (by omega) (by omega) (by omega) (by omega) (by omega)]; exact hAR1.nl
          · rw [g_wr_t] at q; omega
        · rw [hgo]
          refine ⟨by rw [u2_k _ _ (by decide), c61_0 _ _ (by omega), hL1k 12 (by decide)], by rw [u2_k _ _ (by decide), c61_0 _ _ (by omega), hL13, g_wr_n _ (by omega) (by omega) (by omega) (by omega) (by omega) (by omega), h16]; omega, by rw [u2_k _ _ (by decide), c61_0 _ _ (by omega), hL1k 14 (by decide)], by rw [u2_s, c61_0 _ _ (by omega), hL1k 15 (by decide), g_wr_b, h15]; omega, by rw [u2_k _ _ (by decide), c61_0 _ _ (by omega), hL1k 16 (by decide)]⟩
  · have c40 : g_bel R1 a = -1 := Decidable.byContradiction (fun q9 => c43 (have q8 := (g_bel_tk hv1 ha1 q9).1; ⟨q8.1, q8.2.1⟩))
    refine q_return hF rfl dX0_goMonth_46 ?_
    have hgo : (g_goes r a nx).2 = R1 := by rw [hg, if_pos c40]
    refine k0 I1 L1 (fun q k x => hI1n q k x) (fun q k x y => hL1n q k x) ?_ ?_
    · rw [hgo]
      exact hAR1
    · rw [hgo]
      refine ⟨by rw [hL1k 12 (by decide)], by rw [hL13, h16]; omega, by rw [hL1k 14 (by decide)], by rw [hL1k 15 (by decide), h15]; omega, by rw [hL1k 16 (by decide)]⟩
