/-! the class: whom the world has, where they belong, how soon they go -/
set_option maxRecDepth 100000 in
theorem mX6_hasAccount {G : q_G} {sz : Nat} {T : q_T} {I L : q_I} {P : q_P} {Q : q_Q} {w : Nat} {l : Int} {r : Nat → Int} {mo : Int} (hW : q_SW T P w) (hWR : q_WR I L w r mo) (hv : g_V0 r) (hl : -2147483648 ≤ l ∧ l < 2147483648) (k0 : Q (.inl (some (qI (q_b (0 ≤ l ∧ l < r 1))))) sz T I L P) : qC G 0 0 0 YX6_hasAccount [.ref w, qI l] sz T I L P Q := by
  refine qC_of (by decide +kernel) rfl rfl (Nat.le_of_ble_eq_true rfl) (fun F hF _ _ => ?_)
  refine q_iload_n hF 1 rfl rfl dX6_hasAccount_0 ?_
  refine q_iflt hF hl dX6_hasAccount_1 (fun c1 => ?_) (fun c1 => ?_)
  · refine q_iconst hF dX6_hasAccount_22 ?_
    refine q_zreturn hF (by decide) rfl dX6_hasAccount_23 ?_
    rw [q_b_f (c := 0 ≤ l ∧ l < r 1) (by first | omega | (have := hv.many; omega))] at k0; exact k0
  · refine q_iload_n hF 1 rfl rfl dX6_hasAccount_4 ?_
    refine q_aload_n hF 0 rfl rfl dX6_hasAccount_5 ?_
    refine q_getIv hF (z := r 1) fl_RX6_41 hW.t0 hWR.cnt dX6_hasAccount_6 ?_
    refine q_icmpge hF hl (by have := hv.many; omega) dX6_hasAccount_9 (fun c9 => ?_) (fun c9 => ?_)
    · refine q_iconst hF dX6_hasAccount_22 ?_
      refine q_zreturn hF (by decide) rfl dX6_hasAccount_23 ?_
      rw [q_b_f (c := 0 ≤ l ∧ l < r 1) (by first | omega | (have := hv.many; omega))] at k0; exact k0
    · refine q_iload_n hF 1 rfl rfl dX6_hasAccount_12 ?_
      refine q_bipush hF (n := 12) rfl dX6_hasAccount_13 ?_
      refine q_icmpge hF hl (by decide) dX6_hasAccount_15 (fun c15 => ?_) (fun c15 => ?_)
      · refine q_iconst hF dX6_hasAccount_22 ?_
        refine q_zreturn hF (by decide) rfl dX6_hasAccount_23 ?_
        rw [q_b_f (c := 0 ≤ l ∧ l < r 1) (by first | omega | (have := hv.many; omega))] at k0; exact k0
      · refine q_iconst hF dX6_hasAccount_18 ?_
        refine q_goto hF dX6_hasAccount_19 ?_
        refine q_zreturn hF (by decide) rfl dX6_hasAccount_23 ?_
        rw [q_b_t (c := 0 ≤ l ∧ l < r 1) (by first | omega | (have := hv.many; omega))] at k0; exact k0
def g_landNow (r : Nat → Int) (a : Nat) : Int := if r (1043 + 12 * a) = 0 ∨ r (1043 + 12 * a) = 1 then g_bel r a else if r (1043 + 12 * a) = 2 then r (1047 + 12 * a) else -1
set_option maxRecDepth 100000 in
theorem mX6_landNowOf {G : q_G} {sz : Nat} {T : q_T} {I L : q_I} {P : q_P} {Q : q_Q} {w : Nat} {o : Nat} {r : Nat → Int} {mo bd : Int} {a : Nat} (hW : q_SW T P w) (hWR : q_WR I L w r mo) (hv : g_V0 r) (hO : T o = some (.inl 0)) (hAR : q_AR I o r a) (ha : g_VA r a bd) (k0 : Q (.inl (some (qI (g_landNow r a)))) sz T I L P) : qC G 3 0 0 YX6_landNowOf [.ref w, .ref o] sz T I L P Q := by
  refine qC_of (by decide +kernel) rfl rfl (Nat.le_of_ble_eq_true rfl) (fun F hF _ _ => ?_)
  refine q_aload_n hF 1 rfl rfl dX6_landNowOf_0 ?_
  refine q_callV (kc := 0) (ks := 0) (mc' := 0) (ms' := 0) (h' := 0) (st := []) hF vl_RX6_60 rfl [] rfl rfl hO (by decide) (Nat.le_of_ble_eq_true rfl) dX6_landNowOf_1 ?_
  refine mX0_isWithBankR (r := r) (a := a) hO hAR ha.state ?_
  refine q_ifeq_b hF dX6_landNowOf_4 (fun c4 => ?_) (fun c4 => ?_)
  · refine q_aload_n hF 1 rfl rfl dX6_landNowOf_16 ?_
    refine q_getIv hF (z := r (1043 + 12 * a)) fl_RX6_68 hO hAR.state dX6_landNowOf_17 ?_
    refine q_iconst hF dX6_landNowOf_20 ?_
    refine q_icmpne hF (by have := ha.state; have := ha.holder; omega) (by decide) dX6_landNowOf_21 (fun c21 => ?_) (fun c21 => ?_)
    · refine q_iconst hF dX6_landNowOf_31 ?_
      refine q_ireturn hF rfl dX6_landNowOf_32 ?_
      rw [show (g_landNow r a) = (-1) from by unfold g_landNow; first | rw [if_pos (by omega)] | rw [if_neg (by omega), if_pos (by omega)] | rw [if_neg (by omega), if_neg (by omega)]] at k0; exact k0
    · refine q_aload_n hF 1 rfl rfl dX6_landNowOf_24 ?_
      refine q_getIv hF (z := r (1047 + 12 * a)) fl_RX6_78 hO hAR.holder dX6_landNowOf_25 ?_
      refine q_goto hF dX6_landNowOf_28 ?_
      refine q_ireturn hF rfl dX6_landNowOf_32 ?_
      rw [show (g_landNow r a) = (r (1047 + 12 * a)) from by unfold g_landNow; first | rw [if_pos (by omega)] | rw [if_neg (by omega), if_pos (by omega)] | rw [if_neg (by omega), if_neg (by omega)]] at k0; exact k0
  · refine q_aload_n hF 0 rfl rfl dX6_landNowOf_7 ?_
    refine q_getA hF fl_RX6_12 rfl hW.t0 hW.p0 dX6_landNowOf_8 ?_
    refine q_aload_n hF 1 rfl rfl dX6_landNowOf_11 ?_
    refine q_callV (kc := 0) (ks := 0) (mc' := 0) (ms' := 0) (h' := 2) (st := []) hF vl_RX6_100 rfl [.ref o] rfl rfl hW.ru.t0 (by decide) (Nat.le_of_ble_eq_true rfl) dX6_landNowOf_12 ?_
    refine mX4_landOf (r := r) hW.ru hWR.ru hv hO hAR ha ?_
    refine q_ireturn hF rfl dX6_landNowOf_15 ?_
    rw [show (g_landNow r a) = (g_bel r a) from by unfold g_landNow; first | rw [if_pos (by omega)] | rw [if_neg (by omega), if_pos (by omega)] | rw [if_neg (by omega), if_neg (by omega)]] at k0; exact k0
set_option maxRecDepth 100000 in
theorem mX1_monthsUntilHanded {G : q_G} {sz : Nat} {T : q_T} {I L : q_I} {P : q_P} {Q : q_Q} {f : Nat} {w : Nat} {o : Nat} {p a mn : Nat} {mo : Int} {r : Nat → Int} (hW : q_SW T P w) (hWA : q_A G w) (hfT : T f = some (.inl 1)) (hfP : P f 0 = some p) (hOp : T p = some (.inl 0)) (hOA : q_A G p) (hO : T o = some (.inl 0)) (hne : o ≠ p) (hsep : p < w ∨ w + 47 ≤ p) (hB : 0 ≤ r 2 ∧ r 2 ≤ 6000) (hmo : I w 3 = r 2) (hWR : q_WR I L w r mo) (hAR : q_AR I o r a) (hV : g_VR r) (h1 : r 1 = (mn : Int)) (hamn : a < mn) (ha12 : a < 12) (k0 : ∀ (M N : q_I), (∀ q k, q ≠ p → M q k = I q k) → (∀ q k, q ≠ p → q ≠ w + 8 → N q k = L q k) → Q (.inl (some (qI (g_run (r 2) 600 a 600 1 r).1))) sz T M N P) : qC G 6 0 0 YX1_monthsUntilHanded [.ref f, .ref w, .ref o] sz T I L P Q := by
  refine qC_of (by decide +kernel) rfl rfl (Nat.le_of_ble_eq_true rfl) (fun F hF _ _ => ?_)
  have hA := hV.2.1 a (by omega)
  have hz11 : I o 11 = 0 ∨ I o 11 = 1 := by
    have q := hA.nl
    rw [hAR.nl]; omega
  refine q_aload_n hF 0 rfl rfl dX1_monthsUntilHanded_0 ?_
  refine q_getA hF fl_RX1_12 rfl hfT hfP dX1_monthsUntilHanded_1 ?_
  refine q_aload_n hF 2 rfl rfl dX1_monthsUntilHanded_4 ?_
  refine q_callV (kc := 0) (ks := 0) (mc' := 0) (ms' := 0) (h' := 0) (st := []) hF vl_RX1_22 rfl [.ref o] rfl rfl hOp (by decide) (Nat.le_of_ble_eq_true rfl) dX1_monthsUntilHanded_5 ?_
  refine mX0_copyFrom hOp hOA hO (by omega) hz11 ?_
  obtain ⟨I1, hI1⟩ : ∃ I1 : q_I, I1 = u2 (u2 (u2 (u2 (u2 (u2 (u2 (u2 (u2 (u2 (u2 (u2 I p 0 (I o 0)) p 1 (I o 1)) p 2 (I o 2)) p 3 (I o 3)) p 4 (I o 4)) p 5 (I o 5)) p 6 (I o 6)) p 7 (I o 7)) p 8 (I o 8)) p 9 (I o 9)) p 10 (I o 10)) p 11 (I o 11) := ⟨_, rfl⟩
  obtain ⟨L1, hL1⟩ : ∃ L1 : q_I, L1 = u2 (u2 (u2 (u2 (u2 L p 12 (L o 12)) p 13 (L o 13)) p 14 (L o 14)) p 15 (L o 15)) p 16 (L o 16) := ⟨_, rfl⟩
  rw [← hI1, ← hL1]
  have hIn : ∀ q k, q ≠ p → I1 q k = I q k := fun q k h => by rw [hI1, u2_a _ _ h, u2_a _ _ h, u2_a _ _ h, u2_a _ _ h, u2_a _ _ h, u2_a _ _ h, u2_a _ _ h, u2_a _ _ h, u2_a _ _ h, u2_a _ _ h, u2_a _ _ h, u2_a _ _ h]
  have hLn : ∀ q k, q ≠ p → L1 q k = L q k := fun q k h => by rw [hL1, u2_a _ _ h, u2_a _ _ h, u2_a _ _ h, u2_a _ _ h, u2_a _ _ h]
  have hk0 : I1 p 0 = I o 0 := by rw [hI1, u2_k _ _ (by decide), u2_k _ _ (by decide), u2_k _ _ (by decide), u2_k _ _ (by decide), u2_k _ _ (by decide), u2_k _ _ (by decide), u2_k _ _ (by decide), u2_k _ _ (by decide), u2_k _ _ (by decide), u2_k _ _ (by decide), u2_k _ _ (by decide), u2_s]
  have hk1 : I1 p 1 = I o 1 := by rw [hI1, u2_k _ _ (by decide), u2_k _ _ (by decide), u2_k _ _ (by decide), u2_k _ _ (by decide), u2_k _ _ (by decide), u2_k _ _ (by decide), u2_k _ _ (by decide), u2_k _ _ (by decide), u2_k _ _ (by decide), u2_k _ _ (by decide), u2_s]
  have hk2 : I1 p 2 = I o 2 := by rw [hI1, u2_k _ _ (by decide), u2_k _ _ (by decide), u2_k _ _ (by decide), u2_k _ _ (by decide), u2_k _ _ (by decide), u2_k _ _ (by decide), u2_k _ _ (by decide), u2_k _ _ (by decide), u2_k _ _ (by decide), u2_s]
  have hk3 : I1 p 3 = I o 3 := by rw [hI1, u2_k _ _ (by decide), u2_k _ _ (by decide), u2_k _ _ (by decide), u2_k _ _ (by decide), u2_k _ _ (by decide), u2_k _ _ (by decide), u2_k _ _ (by decide), u2_k _ _ (by decide), u2_s]
  have hk4 : I1 p 4 = I o 4 := by rw [hI1, u2_k _ _ (by decide), u2_k _ _ (by decide), u2_k _ _ (by decide), u2_k _ _ (by decide), u2_k _ _ (by decide), u2_k _ _ (by decide), u2_k _ _ (by decide), u2_s]
  have hk5 : I1 p 5 = I o 5 := by rw [hI1, u2_k _ _ (by decide), u2_k _ _ (by decide), u2_k _ _ (by decide), u2_k _ _ (by decide), u2_k _ _ (by decide), u2_k _ _ (by decide), u2_s]
  have hk6 : I1 p 6 = I o 6 := by rw [hI1, u2_k _ _ (by decide), u2_k _ _ (by decide), u2_k _ _ (by decide), u2_k _ _ (by decide), u2_k _ _ (by decide), u2_s]
  have hk7 : I1 p 7 = I o 7 := by rw [hI1, u2_k _ _ (by decide), u2_k _ _ (by decide), u2_k _ _ (by decide), u2_k _ _ (by decide), u2_s]
  have hk8 : I1 p 8 = I o 8 := by rw [hI1, u2_k _ _ (by decide), u2_k _ _ (by decide), u2_k _ _ (by decide), u2_s]
  have hk9 : I1 p 9 = I o 9 := by rw [hI1, u2_k _ _ (by decide), u2_k _ _ (by decide), u2_s]
  have hk10 : I1 p 10 = I o 10 := by rw [hI1, u2_k _ _ (by decide), u2_s]
  have hk11 : I1 p 11 = I o 11 := by rw [hI1, u2_s]
  have hARp : q_AR I1 p r a := by
    unfold q_AR
    rw [hk0, hk1, hk2, hk3, hk4, hk5, hk6, hk7, hk8, hk9, hk10, hk11]
    exact hAR
  have hRR : q_RR I1 (w + 1) r := hWR.ru.ext hV.1 (fun q k x y => hIn q k (by omega)) (g_same.rf r)
  refine q_aload_n hF 0 rfl rfl dX1_monthsUntilHanded_8 ?_
  refine q_aload_n hF 1 rfl rfl dX1_monthsUntilHanded_9 ?_
  refine q_sipush hF (n := 600) rfl dX1_monthsUntilHanded_10 ?_
  refine q_callV (kc := 0) (ks := 0) (mc' := 0) (ms' := 0) (h' := 5) (st := []) hF vl_RX1_26 rfl [.ref w, qI 600] rfl rfl hfT (by decide) (Nat.le_of_ble_eq_true rfl) dX1_monthsUntilHanded_13 ?_
  refine mX1_runProbe (nn := 600) (p := p) (B := (r 2)) (R := r) (a := a) hW hWA hfT hfP hOp hOA hsep hB (by rw [hIn _ _ (by omega)]; exact hmo) (by omega) hRR hARp hV h1 hamn ha12 (fun M N c13_0 c13_1 c13_2 => ?_)
  refine q_ireturn hF rfl dX1_monthsUntilHanded_16 ?_
  exact k0 M N (fun q k x => (c13_0 q k x).trans (hIn q k x)) (fun q k x y => (c13_1 q k x y).trans (hLn q k x))
