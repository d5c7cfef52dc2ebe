/-! the class: an account's month, its parts -/
theorem g_wr_c (r : Nat → Int) (a : Nat) (nx : Int) : g_wr r a nx (1042 + 12 * a) = r (1042 + 12 * a) + -(min (r 4) (r (1042 + 12 * a))) := by
  unfold g_wr
  rw [g_up_n _ _ (by omega), g_up_n _ _ (by omega), g_up_n _ _ (by omega), g_up_n _ _ (by omega), g_up_n _ _ (by omega), g_up_s]
theorem g_wr_b (r : Nat → Int) (a : Nat) (nx : Int) : g_wr r a nx 20 = r 20 + min (r 4) (r (1042 + 12 * a)) := by
  unfold g_wr
  rw [g_up_n _ _ (by omega), g_up_n _ _ (by omega), g_up_n _ _ (by omega), g_up_n _ _ (by omega), g_up_s]
theorem g_wr_w (r : Nat → Int) (a : Nat) (nx : Int) : g_wr r a nx (1046 + 12 * a) = r (1046 + 12 * a) + 1 := by
  unfold g_wr
  rw [g_up_n _ _ (by omega), g_up_n _ _ (by omega), g_up_n _ _ (by omega), g_up_s]
theorem g_wr_t (r : Nat → Int) (a : Nat) (nx : Int) : g_wr r a nx (1043 + 12 * a) = 1 := by
  unfold g_wr
  rw [g_up_n _ _ (by omega), g_up_n _ _ (by omega), g_up_s]
theorem g_wr_l (r : Nat → Int) (a : Nat) (nx : Int) : g_wr r a nx (1048 + 12 * a) = nx := by
  unfold g_wr
  rw [g_up_n _ _ (by omega), g_up_s]
theorem g_ha_t (r : Nat → Int) (a : Nat) (l nx : Int) : g_ha r a l nx (1043 + 12 * a) = 2 := by
  unfold g_ha
  rw [g_up_n _ _ (by omega), g_up_n _ _ (by omega), g_up_n _ _ (by omega), g_up_s]
theorem g_ha_h (r : Nat → Int) (a : Nat) (l nx : Int) : g_ha r a l nx (1047 + 12 * a) = l := by
  unfold g_ha
  rw [g_up_n _ _ (by omega), g_up_n _ _ (by omega), g_up_s]
theorem g_ha_m (r : Nat → Int) (a : Nat) (l nx : Int) : g_ha r a l nx (1049 + 12 * a) = q_b (r (1042 + 12 * a) < r (32 + 13 * l.toNat)) := by
  unfold g_ha
  rw [g_up_n _ _ (by omega), g_up_s]
  rfl
theorem g_ha_d (r : Nat → Int) (a : Nat) (l nx : Int) : g_ha r a l nx (1050 + 12 * a) = nx := by
  unfold g_ha
  rw [g_up_s]
theorem q_RR.ext {I I' : q_I} {u : Nat} {r r' : Nat → Int} (h : q_RR I u r) (hv : g_V0 r) (hI : ∀ q k, u ≤ q → q < u + 18 → I' q k = I q k) (hs : g_same r r') : q_RR I' u r' := by
  have e0 := hs 0 (by unfold g_rc; omega)
  have e8 := hs 8 (by unfold g_rc; omega)
  have hl := hv.lands
  have ho := hv.ords
  refine ⟨?_, ?_, ?_, ?_, ?_, fun k hk => ?_, fun k hk => ?_, fun l hk => ?_, fun l j hk hj => ?_, fun q hq hp => ?_, fun q hq hp => ?_, ?_, ?_, fun q hq hp => ?_⟩
  · rw [hI _ _ (by omega) (by omega), e0]; exact h.cnt
  · rw [hI _ _ (by omega) (by omega), hs 3 (by unfold g_rc; omega)]; exact h.wait
  · rw [hI _ _ (by omega) (by omega), hs 4 (by unfold g_rc; omega)]; exact h.cost
  · rw [hI _ _ (by omega) (by omega), hs 5 (by unfold g_rc; omega)]; exact h.home
  · rw [hI _ _ (by omega) (by omega), e8]; exact h.ords
  · rw [hI _ _ (by omega) (by omega), hs (12 + k) (by unfold g_rc; omega)]; exact h.pays k hk
  · rw [e8] at hk
    rw [hI _ _ (by omega) (by omega), hs (9 + k) (by unfold g_rc; omega)]; exact h.ord k hk
  · rw [e0] at hk
    rw [hI _ _ (by omega) (by omega), hI _ _ (by omega) (by omega), hI _ _ (by omega) (by omega), hI _ _ (by omega) (by omega), hI _ _ (by omega) (by omega), hs (30 + 13 * l) (by unfold g_rc; omega), hs (31 + 13 * l) (by unfold g_rc; omega), hs (32 + 13 * l) (by unfold g_rc; omega), hs (33 + 13 * l) (by unfold g_rc; omega), hs (34 + 13 * l) (by unfold g_rc; omega)]
    exact h.land l hk
  · rw [e0] at hk
    have h5 := (hv.land l hk).2.2.2.2
    rw [hs (30 + 13 * l) (by unfold g_rc; omega)] at hj
    rw [hI _ _ (by omega) (by omega), hs (24 + 13 * l + j) (by unfold g_rc; omega)]
    exact h.name l j hk hj
  · rw [hs (90 + 2 * q) (by unfold g_rc; omega)] at hp
    rw [hI _ _ (by omega) (by omega)]
    exact h.law0 q hq hp
  · have h9 := hv.laws q hq
    rw [hs (90 + 2 * q) (by unfold g_rc; omega)] at hp
    obtain ⟨s, e, h1, h2, h3, h4, h5, h6⟩ := h.law q hq hp
    refine ⟨s, e, by rw [hI _ _ (by omega) (by omega)]; exact h1, by rw [hI _ _ (by omega) (by omega)]; exact h2, h3, h4, ?_, ?_⟩
    · rw [show I' (u + 6) = I (u + 6) from funext fun k => hI _ _ (by omega) (by omega), hs (90 + 2 * q) (by unfold g_rc; omega), hs (89 + 2 * q) (by unfold g_rc; omega), g_dec_same hs _ _ _ (by omega)]
      exact h5
    · rw [hs (90 + 2 * q) (by unfold g_rc; omega), hs (89 + 2 * q) (by unfold g_rc; omega), g_dec_same hs _ _ _ (by omega)]
      exact h6
  · rw [hI _ _ (by omega) (by omega)]; exact h.cl.1
  · rw [hI _ _ (by omega) (by omega)]; exact h.cl.2.1
  · rw [hs (90 + 2 * q) (by unfold g_rc; omega)] at hp
    rw [hI _ _ (by omega) (by omega), hI _ _ (by omega) (by omega)]; exact h.cl.2.2 q hq hp
set_option maxRecDepth 100000 in
theorem mX0_creditR {G : q_G} {sz : Nat} {T : q_T} {I L : q_I} {P : q_P} {Q : q_Q} {o : Nat} {ra : Int} {a : Nat} {r : Nat → Int} (hO : T o = some (.inl 0)) (hOA : q_A G o) (hAR : q_AR I o r a) (hc : 0 ≤ r (1042 + 12 * a) ∧ r (1042 + 12 * a) ≤ 100000000) (h1 : 0 ≤ ra ∧ ra ≤ 999) (h2 : 0 ≤ r (1042 + 12 * a) * ra ∧ r (1042 + 12 * a) * ra ≤ 99900000000) (k0 : Q (.inl none) sz T (u2 I o 3 ((r (1042 + 12 * a)) + (min (((r (1042 + 12 * a)) * ra).tdiv 120000) (100000000 - (r (1042 + 12 * a)))))) (u2 L o 13 ((L o 13) + (min (((r (1042 + 12 * a)) * ra).tdiv 120000) (100000000 - (r (1042 + 12 * a)))))) P) : qC G 1 0 0 YX0_credit [.ref o, qI ra] sz T I L P Q := by
  refine qC_of (by decide +kernel) rfl rfl (Nat.le_of_ble_eq_true rfl) (fun F hF _ _ => ?_)
  refine q_aload_n hF 0 rfl rfl dX0_credit_0 ?_
  refine q_getIv hF (z := r (1042 + 12 * a)) fl_RX0_21 hO hAR.cents dX0_credit_1 ?_
  refine q_i2l hF (by omega) dX0_credit_4 ?_
  refine q_iload_n hF 1 rfl rfl dX0_credit_5 ?_
  refine q_i2l hF (by omega) dX0_credit_6 ?_
  refine q_lmul hF dX0_credit_7 ?_
  refine q_ldc2 hF (n := 120000) (q_mem 872 (by decide +kernel) rfl) dX0_credit_8 ?_
  refine q_ldiv hF (by omega) (by decide) (by decide) dX0_credit_11 ?_
  refine q_lstore_n hF (ls' := [(2, qL (((r (1042 + 12 * a)) * ra).tdiv 120000)), (0, .ref o), (1, qI ra)]) rfl (by decide) rfl dX0_credit_12 ?_
  refine q_lload_n hF 0 rfl rfl dX0_credit_13 ?_
  refine q_ldc hF (n := 100000000) (q_mem 873 (by decide +kernel) rfl) dX0_credit_14 ?_
  refine q_aload_n hF 1 rfl rfl dX0_credit_16 ?_
  refine q_getIv hF (z := r (1042 + 12 * a)) fl_RX0_21 hO hAR.cents dX0_credit_17 ?_
  refine q_isub hF dX0_credit_20 ?_
  refine q_i2l hF (by omega) dX0_credit_21 ?_
  refine q_minl hF (q_mem 874 (by decide +kernel) rfl) (q_mem 605 (by decide +kernel) rfl) (q_mem 55 (by decide +kernel) rfl) (q_mem 606 (by decide +kernel) rfl) (by have e9 := Int.tdiv_eq_ediv_of_nonneg (b := 120000) h2.1; omega) (by omega) (Nat.le_of_ble_eq_true rfl) dX0_credit_22 ?_
  refine q_l2i hF dX0_credit_25 ?_
  refine q_istore hF (ls' := [(4, qI (min (((r (1042 + 12 * a)) * ra).tdiv 120000) (100000000 - (r (1042 + 12 * a))))), (2, qL (((r (1042 + 12 * a)) * ra).tdiv 120000)), (0, .ref o), (1, qI ra)]) (by decide) rfl dX0_credit_26 ?_
  refine q_aload_n hF 2 rfl rfl dX0_credit_28 ?_
  refine q_dup hF rfl dX0_credit_29 ?_
  refine q_getIv hF (z := r (1042 + 12 * a)) fl_RX0_21 hO hAR.cents dX0_credit_30 ?_
  refine q_iload hF 0 rfl dX0_credit_33 ?_
  refine q_iadd hF dX0_credit_35 ?_
  refine q_putI hF fl_RX0_21 hO hOA dX0_credit_36 ?_
  refine q_aload_n hF 2 rfl rfl dX0_credit_39 ?_
  refine q_dup hF rfl dX0_credit_40 ?_
  refine q_getLv hF (z := L o 13) fl_RX0_53 hO rfl dX0_credit_41 ?_
  refine q_iload hF 0 rfl dX0_credit_44 ?_
  refine q_i2l hF (by have e9 := Int.tdiv_eq_ediv_of_nonneg (b := 120000) h2.1; omega) dX0_credit_46 ?_
  refine q_ladd hF dX0_credit_47 ?_
  refine q_putL hF fl_RX0_53 hO hOA dX0_credit_48 ?_
  refine q_return hF rfl dX0_credit_51 ?_
  exact k0
set_option maxRecDepth 100000 in
theorem mX0_receiveLetterR {G : q_G} {sz : Nat} {T : q_T} {I L : q_I} {P : q_P} {Q : q_Q} {o : Nat} {pr : Int} {mo : Int} {a : Nat} {r : Nat → Int} (hO : T o = some (.inl 0)) (hOA : q_A G o) (hAR : q_AR I o r a) (hc : 0 ≤ r (1042 + 12 * a) ∧ r (1042 + 12 * a) ≤ 100000000) (h1 : 0 ≤ pr ∧ pr ≤ 999) (k0 : Q (.inl none) sz T (u2 (u2 (u2 (u2 I o 3 ((r (1042 + 12 * a)) - (min pr (r (1042 + 12 * a))))) o 7 ((r (1046 + 12 * a)) + 1)) o 8 mo) o 4 1) (u2 L o 15 ((L o 15) + (min pr (r (1042 + 12 * a))))) P) : qC G 1 0 0 YX0_receiveLetter [.ref o, qI pr, qI mo] sz T I L P Q := by
  refine qC_of (by decide +kernel) rfl rfl (Nat.le_of_ble_eq_true rfl) (fun F hF _ _ => ?_)
  refine q_iload_n hF 1 rfl rfl dX0_receiveLetter_0 ?_
  refine q_aload_n hF 0 rfl rfl dX0_receiveLetter_1 ?_
  refine q_getIv hF (z := r (1042 + 12 * a)) fl_RX0_21 hO hAR.cents dX0_receiveLetter_2 ?_
  refine q_mini hF (q_mem 919 (by decide +kernel) rfl) (q_mem 778 (by decide +kernel) rfl) (q_mem 55 (by decide +kernel) rfl) (q_mem 779 (by decide +kernel) rfl) (by omega) (by omega) (Nat.le_of_ble_eq_true rfl) dX0_receiveLetter_5 ?_
  refine q_istore_n hF (ls' := [(3, qI (min pr (r (1042 + 12 * a)))), (0, .ref o), (1, qI pr), (2, qI mo)]) rfl (by decide) rfl dX0_receiveLetter_8 ?_
  refine q_aload_n hF 1 rfl rfl dX0_receiveLetter_9 ?_
  refine q_dup hF rfl dX0_receiveLetter_10 ?_
  refine q_getIv hF (z := r (1042 + 12 * a)) fl_RX0_21 hO hAR.cents dX0_receiveLetter_11 ?_
  refine q_iload_n hF 0 rfl rfl dX0_receiveLetter_14 ?_
  refine q_isub hF dX0_receiveLetter_15 ?_
  refine q_putI hF fl_RX0_21 hO hOA dX0_receiveLetter_16 ?_
  refine q_aload_n hF 1 rfl rfl dX0_receiveLetter_19 ?_
  refine q_dup hF rfl dX0_receiveLetter_20 ?_
  refine q_getLv hF (z := L o 15) fl_RX0_59 hO rfl dX0_receiveLetter_21 ?_
  refine q_iload_n hF 0 rfl rfl dX0_receiveLetter_24 ?_
  refine q_i2l hF (by omega) dX0_receiveLetter_25 ?_
  refine q_ladd hF dX0_receiveLetter_26 ?_
  refine q_putL hF fl_RX0_59 hO hOA dX0_receiveLetter_27 ?_
  refine q_aload_n hF 1 rfl rfl dX0_receiveLetter_30 ?_
  refine q_dup hF rfl dX0_receiveLetter_31 ?_
  refine q_getIv hF (z := r (1046 + 12 * a)) fl_RX0_33 hO ((u2_k _ _ (by decide)).trans hAR.wrote) dX0_receiveLetter_32 ?_
  refine q_iconst hF dX0_receiveLetter_35 ?_
  refine q_iadd hF dX0_receiveLetter_36 ?_
  refine q_putI hF fl_RX0_33 hO hOA dX0_receiveLetter_37 ?_
  refine q_aload_n hF 1 rfl rfl dX0_receiveLetter_40 ?_
  refine q_iload_n hF 3 rfl rfl dX0_receiveLetter_41 ?_
  refine q_putI hF fl_RX0_36 hO hOA dX0_receiveLetter_42 ?_
  refine q_aload_n hF 1 rfl rfl dX0_receiveLetter_45 ?_
  refine q_iconst hF dX0_receiveLetter_46 ?_
  refine q_putI hF fl_RX0_24 hO hOA dX0_receiveLetter_47 ?_
  refine q_return hF rfl dX0_receiveLetter_50 ?_
  exact k0
set_option maxRecDepth 100000 in
theorem mX0_handOverR {G : q_G} {sz : Nat} {T : q_T} {I L : q_I} {P : q_P} {Q : q_Q} {o : Nat} {l : Int} {le : Int} {mo : Int} {a : Nat} {r : Nat → Int} (hO : T o = some (.inl 0)) (hOA : q_A G o) (hAR : q_AR I o r a) (hc : 0 ≤ r (1042 + 12 * a) ∧ r (1042 + 12 * a) ≤ 100000000) (h1 : 0 ≤ le ∧ le ≤ 9999) (k0 : Q (.inl none) sz T (u2 (u2 (u2 (u2 I o 4 2) o 9 l) o 10 mo) o 11 (q_b (r (1042 + 12 * a) < le))) L P) : qC G 0 0 0 YX0_handOver [.ref o, qI l, qI le, qI mo] sz T I L P Q := by
  refine qC_of (by decide +kernel) rfl rfl (Nat.le_of_ble_eq_true rfl) (fun F hF _ _ => ?_)
  refine q_aload_n hF 0 rfl rfl dX0_handOver_0 ?_
  refine q_iconst hF dX0_handOver_1 ?_
  refine q_putI hF fl_RX0_24 hO hOA dX0_handOver_2 ?_
  refine q_aload_n hF 0 rfl rfl dX0_handOver_5 ?_
  refine q_iload_n hF 1 rfl rfl dX0_handOver_6 ?_
  refine q_putI hF fl_RX0_39 hO hOA dX0_handOver_7 ?_
  refine q_aload_n hF 0 rfl rfl dX0_handOver_10 ?_
  refine q_iload_n hF 3 rfl rfl dX0_handOver_11 ?_
  refine q_putI hF fl_RX0_42 hO hOA dX0_handOver_12 ?_
  refine q_aload_n hF 0 rfl rfl dX0_handOver_15 ?_
  have hJ16 : qX G F Q 0 0 29 [(0, .ref o), (1, qI l), (2, qI le), (3, qI mo)] [qI (q_b (r (1042 + 12 * a) < le)), .ref o] sz T (u2 (u2 (u2 I o 4 2) o 9 l) o 10 mo) L P := by
    refine q_putZ hF (q_b_01 _) fl_RX0_45 hO hOA dX0_handOver_29 ?_
    refine q_return hF rfl dX0_handOver_32 ?_
    exact k0
  refine q_aload_n hF 0 rfl rfl dX0_handOver_16 ?_
  refine q_getIv hF (z := r (1042 + 12 * a)) fl_RX0_21 hO ((u2_k _ _ (by decide)).trans ((u2_k _ _ (by decide)).trans ((u2_k _ _ (by decide)).trans hAR.cents))) dX0_handOver_17 ?_
  refine q_iload_n hF 2 rfl rfl dX0_handOver_20 ?_
  refine q_icmpge hF (by omega) (by omega) dX0_handOver_21 (fun c21 => ?_) (fun c21 => ?_)
  · refine q_iconst hF dX0_handOver_28 ?_
    rw [show (q_b (r (1042 + 12 * a) < le)) = 0 from by first | exact q_b_t (by omega) | exact q_b_f (by omega)] at hJ16; exact hJ16
  · refine q_iconst hF dX0_handOver_24 ?_
    refine q_goto hF dX0_handOver_25 ?_
    rw [show (q_b (r (1042 + 12 * a) < le)) = 1 from by first | exact q_b_t (by omega) | exact q_b_f (by omega)] at hJ16; exact hJ16
set_option maxRecDepth 100000 in
theorem mX4_sleepOf {G : q_G} {sz : Nat} {T : q_T} {I L : q_I} {P : q_P} {Q : q_Q} {u : Nat} {o : Nat} {a l : Nat} {bd : Int} {r : Nat → Int} (hU : q_SR T P u) (hUA : q_A G u) (hR : q_RR I u r) (hv : g_V0 r) (hO : T o = some (.inl 0)) (hAR : q_AR I o r a) (ha : g_VA r a bd) (hbd : bd ≤ 7000) (hl5 : l < 5) (htk : 0 < r (g_law (r (1039 + 12 * a)) (l : Int) + 1)) (k0 : ∀ L', (∀ q k, q ≠ u + 7 → L' q k = L q k) → Q (.inl (some (qI (g_sleep r a (l : Int))))) sz T I L' P) : qC G 3 0 0 YX4_sleepOf [.ref u, .ref o, qI (l : Int)] sz T I L P Q := by
  refine qC_of (by decide +kernel) rfl rfl (Nat.le_of_ble_eq_true rfl) (fun F hF _ _ => ?_)
  have f3 := ha.kind
  obtain ⟨kd, hk⟩ : ∃ kd : Nat, r (1039 + 12 * a) = (kd : Int) := ⟨(r (1039 + 12 * a)).toNat, by omega⟩
  have hkd : kd < 5 := by omega
  have hg : g_law (r (1039 + 12 * a)) (l : Int) = 89 + 2 * (5 * kd + l) := by unfold g_law; omega
  rw [hg, show 89 + 2 * (5 * kd + l) + 1 = 90 + 2 * (5 * kd + l) by omega] at htk
  have hla := hv.law (5 * kd + l) (by omega) htk
  have hlr := hv.lands
  obtain ⟨s, e, hs, he, hse, he6, hls, hmx⟩ := hR.law (5 * kd + l) (by omega) htk
  refine q_aload_n hF 0 rfl rfl dX4_sleepOf_0 ?_
  refine q_aload_n hF 1 rfl rfl dX4_sleepOf_1 ?_
  refine q_getIv hF (z := (kd : Int)) fl_RX4_106 hO (hAR.kind.trans hk) dX4_sleepOf_2 ?_
  refine q_iload_n hF 2 rfl rfl dX4_sleepOf_5 ?_
  refine q_callV (kc := 0) (ks := 0) (mc' := 0) (ms' := 0) (h' := 1) (st := []) hF vl_RX4_94 rfl [qI (kd : Int), qI (l : Int)] rfl rfl hU.t0 (by decide) (Nat.le_of_ble_eq_true rfl) dX4_sleepOf_6 ?_
  refine mX4_takes (kd := kd) hU hR hv (by omega) (by omega) ?_
  refine q_ifne_b hF dX4_sleepOf_9 (fun c9 => ?_) (fun c9 => ?_)
  · refine q_aload_n hF 1 rfl rfl dX4_sleepOf_16 ?_
    refine q_getIv hF (z := (kd : Int)) fl_RX4_106 hO (hAR.kind.trans hk) dX4_sleepOf_17 ?_
    refine q_iconst hF dX4_sleepOf_20 ?_
    refine q_imul hF dX4_sleepOf_21 ?_
    refine q_iload_n hF 2 rfl rfl dX4_sleepOf_22 ?_
    refine q_iadd hF dX4_sleepOf_23 ?_
    refine q_istore_n hF (ls' := [(3, qI (((kd : Int) * 5) + (l : Int))), (0, .ref u), (1, .ref o), (2, qI (l : Int))]) rfl (by decide) rfl dX4_sleepOf_24 ?_
    refine q_iconst hF dX4_sleepOf_25 ?_
    refine q_istore hF (ls' := [(4, qI 0), (3, qI (((kd : Int) * 5) + (l : Int))), (0, .ref u), (1, .ref o), (2, qI (l : Int))]) (by decide) rfl dX4_sleepOf_26 ?_
    refine q_aload_n hF 2 rfl rfl dX4_sleepOf_28 ?_
    refine q_getA hF fl_RX4_24 rfl hU.t0 hU.p8 dX4_sleepOf_29 ?_
    refine q_iload_n hF 1 rfl rfl dX4_sleepOf_32 ?_
    refine q_ialoadv hF (z := (s : Int)) (n := 25) (5 * kd + l) hU.t4 (by omega) (by omega) (by decide) hs dX4_sleepOf_33 ?_
    refine q_istore hF (ls' := [(5, qI (s : Int)), (4, qI 0), (3, qI (((kd : Int) * 5) + (l : Int))), (0, .ref u), (1, .ref o), (2, qI (l : Int))]) (by decide) rfl dX4_sleepOf_34 ?_
    rw [show (((kd : Int) * 5) + (l : Int)) = ((5 * kd + l : Nat) : Int) from by omega]
    have hcd : g_codes r a (l : Int) = g_dec r 901 (r (89 + 2 * (5 * kd + l))).toNat (r (90 + 2 * (5 * kd + l))).toNat := by unfold g_codes; rw [hg, show 89 + 2 * (5 * kd + l) + 1 = 90 + 2 * (5 * kd + l) by omega]
    refine lX4_sleepOf (q := 5 * kd + l) (bd := bd) (FIN := g_ev (r (1042 + 12 * a)) (r (1044 + 12 * a)) (r (1045 + 12 * a)) (r (1046 + 12 * a)) (g_codes r a (l : Int)) []) (I := I) (L := L) (P := P) (by decide) hF hU hUA hO hAR ha hbd hR (by omega) he he6 (fun L' v h1 h2 h3 => ?_) (e + 1) s _ [] L (by omega) hls hse hla.2.2 hmx (fun v hv => absurd hv List.not_mem_nil) trivial (fun _ _ _ => rfl) (by rw [hcd])
    rw [show max 0 (min 600 v) = g_sleep r a (l : Int) from by unfold g_sleep; rw [h2]; rfl]
    exact k0 L' h1
  · simp only [Int.toNat_natCast] at c9; omega
set_option maxRecDepth 100000 in
theorem mX4_interestOf {G : q_G} {sz : Nat} {T : q_T} {I L : q_I} {P : q_P} {Q : q_Q} {u : Nat} {o : Nat} {mo : Int} {a : Nat} {bd : Int} {r : Nat → Int} (hU : q_SR T P u) (hR : q_RR I u r) (hv : g_V0 r) (hO : T o = some (.inl 0)) (hAR : q_AR I o r a) (ha : g_VA r a bd) (hbd : bd ≤ r 2) (hst : r (1043 + 12 * a) = 2) (hn : 0 ≤ mo - r 2 ∧ mo - r 2 ≤ 600) (k0 : Q (.inl (some (qL (g_interest r a (mo - r 2))))) sz T I L P) : qC G 1 0 0 YX4_interestOf [.ref u, .ref o, qI mo] sz T I L P Q := by
  refine qC_of (by decide +kernel) rfl rfl (Nat.le_of_ble_eq_true rfl) (fun F hF _ _ => ?_)
  obtain ⟨l, hl⟩ : ∃ l : Nat, r (1047 + 12 * a) = (l : Int) := ⟨_, (Int.toNat_of_nonneg (ha.hh hst).1).symm⟩
  have hl2 := (ha.hh hst).2
  rw [hl] at hl2
  have f1 := hv.month
  have f2 := hv.lands
  have f3 := hv.land l hl2
  have f4 := ha.cents
  have f5 := ha.hat
  refine q_aload_n hF 0 rfl rfl dX4_interestOf_0 ?_
  refine q_aload_n hF 1 rfl rfl dX4_interestOf_1 ?_
  refine q_getIv hF (z := (l : Int)) fl_RX4_157 hO (hAR.holder.trans hl) dX4_interestOf_2 ?_
  refine q_callV (kc := 0) (ks := 0) (mc' := 0) (ms' := 0) (h' := 0) (st := []) hF vl_RX4_83 rfl [qI (l : Int)] rfl rfl hU.t0 (by decide) (Nat.le_of_ble_eq_true rfl) dX4_interestOf_5 ?_
  refine mX4_isLand hU hR hv (by omega) ?_
  refine q_ifne_b hF dX4_interestOf_8 (fun c8 => ?_) (fun c8 => ?_)
  · refine q_aload_n hF 0 rfl rfl dX4_interestOf_13 ?_
    refine q_getA hF fl_RX4_11 rfl hU.t0 hU.p0 dX4_interestOf_14 ?_
    refine q_aload_n hF 1 rfl rfl dX4_interestOf_17 ?_
    refine q_getIv hF (z := (l : Int)) fl_RX4_157 hO (hAR.holder.trans hl) dX4_interestOf_18 ?_
    refine q_aaloadv hF (b := u + 8 + 2 * l) l hU.t1 (by decide) rfl (by omega) (by decide) (hU.pl _ (by omega)) dX4_interestOf_21 ?_
    refine q_astore_n hF (ls' := [(3, .ref (u + 8 + 2 * l)), (0, .ref u), (1, .ref o), (2, qI mo)]) rfl (by decide) rfl dX4_interestOf_22 ?_
    refine q_iload_n hF 3 rfl rfl dX4_interestOf_23 ?_
    refine q_aload_n hF 2 rfl rfl dX4_interestOf_24 ?_
    refine q_getIv hF (z := r (1050 + 12 * a)) fl_RX4_160 hO (hAR.hat hst) dX4_interestOf_25 ?_
    refine q_isub hF dX4_interestOf_28 ?_
    refine q_bipush hF (n := 12) rfl dX4_interestOf_29 ?_
    refine q_aload_n hF 0 rfl rfl dX4_interestOf_31 ?_
    refine q_getIv hF (z := r (34 + 13 * l)) fl_RX4_163 (hU.tl _ (by omega)) (hR.land _ (by omega)).2.2.2.2 dX4_interestOf_32 ?_
    refine q_imul hF dX4_interestOf_35 ?_
    refine q_mini hF (q_mem 777 (by decide +kernel) rfl) (q_mem 778 (by decide +kernel) rfl) (q_mem 55 (by decide +kernel) rfl) (q_mem 779 (by decide +kernel) rfl) (by omega) (by omega) (Nat.le_of_ble_eq_true rfl) dX4_interestOf_36 ?_
    refine q_i2l hF (by omega) dX4_interestOf_39 ?_
    refine q_lstore hF (ls' := [(4, qL (min (mo - (r (1050 + 12 * a))) (12 * (r (34 + 13 * l))))), (3, .ref (u + 8 + 2 * l)), (0, .ref u), (1, .ref o), (2, qI mo)]) (by decide) rfl dX4_interestOf_40 ?_
    refine q_aload_n hF 3 rfl rfl dX4_interestOf_42 ?_
    refine q_getIv hF (z := r (1042 + 12 * a)) fl_RX4_125 hO hAR.cents dX4_interestOf_43 ?_
    refine q_i2l hF (by omega) dX4_interestOf_46 ?_
    refine q_aload_n hF 1 rfl rfl dX4_interestOf_47 ?_
    refine q_getIv hF (z := r (33 + 13 * l)) fl_RX4_166 (hU.tl _ (by omega)) (hR.land _ (by omega)).2.2.2.1 dX4_interestOf_48 ?_
    refine q_i2l hF (by omega) dX4_interestOf_51 ?_
    refine q_lmul hF dX4_interestOf_52 ?_
    refine q_lload hF 0 rfl dX4_interestOf_53 ?_
    refine q_lmul hF dX4_interestOf_55 ?_
    refine q_ldc2 hF (n := 120000) (q_mem 947 (by decide +kernel) rfl) dX4_interestOf_56 ?_
    refine q_ldiv hF (by have q := g_mul3 (c := r (1042 + 12 * a)) (r := r (33 + 13 * l)) (k := min (mo - r (1050 + 12 * a)) (12 * r (34 + 13 * l))) (by omega) (by omega) (by omega); omega) (by decide) (by decide) dX4_interestOf_59 ?_
    refine q_lreturn hF rfl dX4_interestOf_60 ?_
    rw [show g_interest r a (mo - r 2) = ((((r (1042 + 12 * a)) * (r (33 + 13 * l))) * (min (mo - (r (1050 + 12 * a))) (12 * (r (34 + 13 * l))))).tdiv 120000) from by unfold g_interest; rw [hl, Int.toNat_natCast, show r 2 + (mo - r 2) = mo by omega]] at k0; exact k0
  · omega
set_option maxRecDepth 100000 in
theorem lX4_kindsOf {G : q_G} {F : q_F} {Q : q_Q} {kc ks sz : Nat} {T : q_T} {u l : Nat} {r : Nat → Int} {I L : q_I} {P : q_P} (hF : q_ok G F YX4_kindsOf 2) (hU : q_SR T P u) (hR : q_RR I u r) (hv : g_V0 r) (hl5 : (l : Int) < r 0) (k0 : Q (.inl (some (qI (g_set (fun k => 0 < r (90 + 2 * (5 * k + l))) 5)))) sz T I L P) : ∀ (n : Nat) (k : Nat), 5 - k < n → k ≤ 5 → qX G F Q kc ks 4 [(3, qI (k : Int)), (2, qI (g_set (fun k => 0 < r (90 + 2 * (5 * k + l))) k)), (0, .ref u), (1, qI (l : Int))] [] sz T I L P := by
  intro n
  induction n with
  | zero => intro k hn; exact absurd hn (Nat.not_lt_zero _)
  | succ n ih =>
    intro k hn hk
    have hlr := hv.lands
    refine q_iload_n hF 0 rfl rfl dX4_kindsOf_4 ?_
    refine q_iconst hF dX4_kindsOf_5 ?_
    refine q_icmpge hF (by omega) (by decide) dX4_kindsOf_6 (fun c6 => ?_) (fun c6 => ?_)
    · refine q_iload_n hF 1 rfl rfl dX4_kindsOf_30 ?_
      refine q_ireturn hF rfl dX4_kindsOf_31 ?_
      rw [show k = 5 by omega]; exact k0
    · refine q_aload_n hF 2 rfl rfl dX4_kindsOf_9 ?_
      refine q_iload_n hF 0 rfl rfl dX4_kindsOf_10 ?_
      refine q_iload_n hF 3 rfl rfl dX4_kindsOf_11 ?_
      refine q_callV (kc := kc) (ks := ks) (mc' := 0) (ms' := 0) (h' := 1) (st := []) hF vl_RX4_94 rfl [qI (k : Int), qI (l : Int)] rfl rfl hU.t0 (by decide) (Nat.le_of_ble_eq_true rfl) dX4_kindsOf_12 ?_
      refine mX4_takes (kd := k) hU hR hv (by omega) (by omega) ?_
      refine q_ifeq_b hF dX4_kindsOf_15 (fun c15 => ?_) (fun c15 => ?_)
      · refine q_iinc hF (z' := ((1 + k : Nat) : Int)) (ls' := [(3, qI ((1 + k : Nat) : Int)), (2, qI (g_set (fun k => 0 < r (90 + 2 * (5 * k + l))) k)), (0, .ref u), (1, qI (l : Int))]) 0 rfl (by first | rfl | omega) (by decide) rfl dX4_kindsOf_24 ?_
        refine q_goto hF dX4_kindsOf_27 ?_
        rw [Nat.add_comm 1 k]
        rw [show qI (g_set (fun k => 0 < r (90 + 2 * (5 * k + l))) k) = qI (g_set (fun k => 0 < r (90 + 2 * (5 * k + l))) (k + 1)) from congrArg Value.int ((q_or0 _).symm.trans (q_set_n _ k (by simp only [Int.toNat_natCast] at c15; omega)))]
        exact ih (k + 1) (by omega) (by omega)
      · refine q_iload_n hF 1 rfl rfl dX4_kindsOf_18 ?_
        refine q_iconst hF dX4_kindsOf_19 ?_
        refine q_iload_n hF 0 rfl rfl dX4_kindsOf_20 ?_
        refine q_ishl hF (c0 := ((2 ^ k : Nat) : Int)) (q_shlN (by omega)) dX4_kindsOf_21 ?_
        refine q_ior hF (c0 := g_set (fun k => 0 < r (90 + 2 * (5 * k + l))) (k + 1)) (q_set_s _ _ (by simp only [Int.toNat_natCast] at c15; omega)) dX4_kindsOf_22 ?_
        refine q_istore_n hF (ls' := [(2, qI (g_set (fun k => 0 < r (90 + 2 * (5 * k + l))) (k + 1))), (3, qI (k : Int)), (0, .ref u), (1, qI (l : Int))]) rfl (by decide) rfl dX4_kindsOf_23 ?_
        refine q_iinc hF (z' := ((1 + k : Nat) : Int)) (ls' := [(3, qI ((1 + k : Nat) : Int)), (2, qI (g_set (fun k => 0 < r (90 + 2 * (5 * k + l))) (k + 1))), (0, .ref u), (1, qI (l : Int))]) 1 rfl (by first | rfl | omega) (by decide) rfl dX4_kindsOf_24 ?_
        refine q_goto hF dX4_kindsOf_27 ?_
        rw [Nat.add_comm 1 k]
        exact ih (k + 1) (by omega) (by omega)
set_option maxRecDepth 100000 in
theorem mX4_kindsOf {G : q_G} {sz : Nat} {T : q_T} {I L : q_I} {P : q_P} {Q : q_Q} {u : Nat} {l : Nat} {r : Nat → Int} (hU : q_SR T P u) (hR : q_RR I u r) (hv : g_V0 r) (hl5 : (l : Int) < r 0) (k0 : Q (.inl (some (qI (g_set (fun k => 0 < r (90 + 2 * (5 * k + l))) 5)))) sz T I L P) : qC G 2 0 0 YX4_kindsOf [.ref u, qI (l : Int)] sz T I L P Q := by
  refine qC_of (by decide +kernel) rfl rfl (Nat.le_of_ble_eq_true rfl) (fun F hF _ _ => ?_)
  refine q_iconst hF dX4_kindsOf_0 ?_
  refine q_istore_n hF (ls' := [(2, qI 0), (0, .ref u), (1, qI (l : Int))]) rfl (by decide) rfl dX4_kindsOf_1 ?_
  refine q_iconst hF dX4_kindsOf_2 ?_
  refine q_istore_n hF (ls' := [(3, qI 0), (2, qI 0), (0, .ref u), (1, qI (l : Int))]) rfl (by decide) rfl dX4_kindsOf_3 ?_
  exact lX4_kindsOf hF hU hR hv hl5 k0 6 0 (by omega) (Nat.zero_le _)
