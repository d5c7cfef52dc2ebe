/-! the reference: refusals, what is remembered -/
/-- rows are nought behind their ends -/
def q_Z0 (L : q_I) (m : Nat) : Prop := ∀ q k, m + 3 ≤ q → q < m + 15 → 1243 ≤ k → L q k = 0
theorem cpL_z {L : q_I} {m fr to : Nat} (hz : q_Z0 L m) (h1 : m + 3 ≤ fr) (h2 : fr < m + 15) (h3 : m + 3 ≤ to) (h4 : to < m + 15) : cpL L fr to 1243 to = L fr := by
  funext k
  by_cases h : k < 1243
  · exact cpL_to L fr to h
  · unfold cpL
    rw [if_neg (fun q => h q.2), hz to k h3 h4 (by omega), hz fr k h1 h2 (by omega)]
theorem q_Z0.cp {L : q_I} {m : Nat} (hz : q_Z0 L m) {fr to : Nat} (h1 : m + 3 ≤ fr) (h2 : fr < m + 15) (h3 : m + 3 ≤ to) (h4 : to < m + 15) : q_Z0 (cpL L fr to 1243) m := fun q k a b c => by
  by_cases h : q = to
  · rw [h, cpL_z hz h1 h2 h3 h4]; exact hz fr k h1 h2 c
  · rw [cpL_ne L 1243 k h]; exact hz q k a b c
def g_nb (bk : Nat) : Nat := if bk = 8 then 8 else bk + 1
/-- the reference's state is remembered -/
def g_Rm (L L' : q_I) (m bk : Nat) : Prop := (∀ q k, q < m + 7 ∨ m + 15 ≤ q → L' q k = L q k) ∧ (∀ j, j < g_nb bk → L' (m + 7 + j) = if j + 1 = g_nb bk then L (m + 3) else if bk = 8 then L (m + 8 + j) else L (m + 7 + j)) ∧ q_Z0 L' m
set_option maxRecDepth 100000 in
theorem mX8_bad0 {G : q_G} {sz : Nat} {T : q_T} {I L : q_I} {P : q_P} {Q : q_Q} {m : Nat} {w : Int} {re : Int}  (hS : q_SM T P m) (hSA : q_A G m) (h0 : I m 0 = 0) (k0 : Q (.inl (some (qI 0))) sz T I L P) : qC G 0 0 0 YX8_bad [.ref m, qI 0, qI w, qI re] sz T I L P Q := by
  refine qC_of (by decide +kernel) rfl rfl (Nat.le_of_ble_eq_true rfl) (fun F hF _ _ => ?_)
  refine q_iload_n hF 1 rfl rfl dX8_bad_0 ?_
  refine q_ifeq hF (by decide) dX8_bad_1 (fun c1 => ?_) (fun c1 => ?_)
  · refine q_aload_n hF 0 rfl rfl dX8_bad_26 ?_
    refine q_getIv hF (z := 0) fl_RX8_52 hS.t0 h0 dX8_bad_27 ?_
    refine q_ifeq hF (by decide) dX8_bad_30 (fun c30 => ?_) (fun c30 => ?_)
    · refine q_iconst hF dX8_bad_37 ?_
      refine q_zreturn hF (by decide) rfl dX8_bad_38 ?_
      exact k0
    · exact absurd c30 (by decide)
  · exact absurd c1 (by decide)
set_option maxRecDepth 100000 in
theorem mX8_bad1 {G : q_G} {sz : Nat} {T : q_T} {I L : q_I} {P : q_P} {Q : q_Q} {m : Nat} {w : Int} {re : Int} {j : Nat} (hS : q_SM T P m) (hSA : q_A G m) (h0 : I m 0 = 0) (hw : 0 < w ∧ w < 10) (hj : re = (j : Int)) (hn : j < 3) (k0 : Q (.inl (some (qI 1))) sz T (u2 (u2 I m 0 w) (m + 1) j ((I (m + 1) j) + 1)) L P) : qC G 0 0 0 YX8_bad [.ref m, qI 1, qI w, qI re] sz T I L P Q := by
  refine qC_of (by decide +kernel) rfl rfl (Nat.le_of_ble_eq_true rfl) (fun F hF _ _ => ?_)
  refine q_iload_n hF 1 rfl rfl dX8_bad_0 ?_
  refine q_ifeq hF (by decide) dX8_bad_1 (fun c1 => ?_) (fun c1 => ?_)
  · exact absurd c1 (by decide)
  · refine q_aload_n hF 0 rfl rfl dX8_bad_4 ?_
    refine q_getIv hF (z := 0) fl_RX8_52 hS.t0 h0 dX8_bad_5 ?_
    refine q_ifne hF (by decide) dX8_bad_8 (fun c8 => ?_) (fun c8 => ?_)
    · exact absurd c8 (by decide)
    · refine q_aload_n hF 0 rfl rfl dX8_bad_11 ?_
      refine q_iload_n hF 2 rfl rfl dX8_bad_12 ?_
      refine q_putI hF fl_RX8_52 hS.t0 hSA dX8_bad_13 ?_
      refine q_aload_n hF 0 rfl rfl dX8_bad_16 ?_
      refine q_getA hF fl_RX8_9 rfl hS.t0 hS.p1 dX8_bad_17 ?_
      refine q_iload_n hF 3 rfl rfl dX8_bad_20 ?_
      refine q_dup2 hF rfl rfl dX8_bad_21 ?_
      refine q_ialoadv hF (z := I (m + 1) j) (n := 3) j hS.t1 hj hn (by decide) (u2_a _ _ (by omega)) dX8_bad_22 ?_
      refine q_iconst hF dX8_bad_23 ?_
      refine q_iadd hF dX8_bad_24 ?_
      refine q_iastorev hF (n := 3) j hS.t1 (q_Ale hSA (by omega)) hj hn (by decide) dX8_bad_25 ?_
      refine q_aload_n hF 0 rfl rfl dX8_bad_26 ?_
      refine q_getIv hF (z := w) fl_RX8_52 hS.t0 ((u2_a _ _ (by omega)).trans (u2_s _ _ _ _)) dX8_bad_27 ?_
      refine q_ifeq hF (by omega) dX8_bad_30 (fun c30 => ?_) (fun c30 => ?_)
      · omega
      · refine q_iconst hF dX8_bad_33 ?_
        refine q_goto hF dX8_bad_34 ?_
        refine q_zreturn hF (by decide) rfl dX8_bad_38 ?_
        exact k0
set_option maxRecDepth 100000 in
theorem mX8_isLand {G : q_G} {sz : Nat} {T : q_T} {I L : q_I} {P : q_P} {Q : q_Q} {m : Nat} {l : Int}  (hS : q_SM T P m) (hv : g_V0 (L (m + 3))) (hl : -2147483648 ≤ l ∧ l < 2147483648) (k0 : Q (.inl (some (qI (q_b (0 ≤ l ∧ l ≤ L (m + 3) 0 - 1))))) sz T I L P) : qC G 1 0 0 YX8_isLand [.ref m, qI l] sz T I L P Q := by
  refine qC_of (by decide +kernel) rfl rfl (Nat.le_of_ble_eq_true rfl) (fun F hF _ _ => ?_)
  refine q_iload_n hF 1 rfl rfl dX8_isLand_0 ?_
  refine q_i2l hF hl dX8_isLand_1 ?_
  refine q_lconst hF (z := 0) rfl dX8_isLand_2 ?_
  refine q_aload_n hF 0 rfl rfl dX8_isLand_3 ?_
  refine q_callV (kc := 0) (ks := 0) (mc' := 0) (ms' := 0) (h' := 0) (st := [qL 0, qL l]) hF vl_RX8_265 rfl [] rfl rfl hS.t0 (by decide) (Nat.le_of_ble_eq_true rfl) dX8_isLand_4 ?_
  refine mX8_lands (by omega) ?_
  refine q_iconst hF dX8_isLand_7 ?_
  refine q_isub hF dX8_isLand_8 ?_
  refine q_i2l hF (by have := hv.lands; omega) dX8_isLand_9 ?_
  refine q_callS (kc := 0) (ks := 0) (mc' := 0) (ms' := 0) (h' := 0) (st := []) hF sl_RX8_123 rfl [qL l, qL 0, qL ((L (m + 3) 0) - 1)] rfl rfl (by decide) (Nat.le_of_ble_eq_true rfl) dX8_isLand_10 ?_
  refine mX8_in (by omega) (by decide) (by have := hv.lands; omega) ?_
  refine q_zreturn hF (q_b_01 _) rfl dX8_isLand_13 ?_
  exact k0
set_option maxRecDepth 100000 in
theorem mX8_isAccount {G : q_G} {sz : Nat} {T : q_T} {I L : q_I} {P : q_P} {Q : q_Q} {m : Nat} {l : Int}  (hS : q_SM T P m) (hv : g_V0 (L (m + 3))) (hl : -2147483648 ≤ l ∧ l < 2147483648) (k0 : Q (.inl (some (qI (q_b (0 ≤ l ∧ l ≤ L (m + 3) 1 - 1))))) sz T I L P) : qC G 1 0 0 YX8_isAccount [.ref m, qI l] sz T I L P Q := by
  refine qC_of (by decide +kernel) rfl rfl (Nat.le_of_ble_eq_true rfl) (fun F hF _ _ => ?_)
  refine q_iload_n hF 1 rfl rfl dX8_isAccount_0 ?_
  refine q_i2l hF hl dX8_isAccount_1 ?_
  refine q_lconst hF (z := 0) rfl dX8_isAccount_2 ?_
  refine q_aload_n hF 0 rfl rfl dX8_isAccount_3 ?_
  refine q_callV (kc := 0) (ks := 0) (mc' := 0) (ms' := 0) (h' := 0) (st := [qL 0, qL l]) hF vl_RX8_337 rfl [] rfl rfl hS.t0 (by decide) (Nat.le_of_ble_eq_true rfl) dX8_isAccount_4 ?_
  refine mX8_many (by omega) ?_
  refine q_iconst hF dX8_isAccount_7 ?_
  refine q_isub hF dX8_isAccount_8 ?_
  refine q_i2l hF (by have := hv.many; omega) dX8_isAccount_9 ?_
  refine q_callS (kc := 0) (ks := 0) (mc' := 0) (ms' := 0) (h' := 0) (st := []) hF sl_RX8_123 rfl [qL l, qL 0, qL ((L (m + 3) 1) - 1)] rfl rfl (by decide) (Nat.le_of_ble_eq_true rfl) dX8_isAccount_10 ?_
  refine mX8_in (by omega) (by decide) (by have := hv.many; omega) ?_
  refine q_zreturn hF (q_b_01 _) rfl dX8_isAccount_13 ?_
  exact k0
set_option maxRecDepth 100000 in
theorem mX8_isLive0 {G : q_G} {sz : Nat} {T : q_T} {I L : q_I} {P : q_P} {Q : q_Q} {m : Nat} {a : Int}  (hS : q_SM T P m) (hv : g_V0 (L (m + 3))) (ha : -2147483648 ≤ a ∧ a < 2147483648) (hn : ¬ (0 ≤ a ∧ a ≤ L (m + 3) 1 - 1)) (k0 : Q (.inl (some (qI 0))) sz T I L P) : qC G 3 0 0 YX8_isLive [.ref m, qI a] sz T I L P Q := by
  refine qC_of (by decide +kernel) rfl rfl (Nat.le_of_ble_eq_true rfl) (fun F hF _ _ => ?_)
  refine q_aload_n hF 0 rfl rfl dX8_isLive_0 ?_
  refine q_iload_n hF 1 rfl rfl dX8_isLive_1 ?_
  refine q_callV (kc := 0) (ks := 0) (mc' := 0) (ms' := 0) (h' := 1) (st := []) hF vl_RX8_340 rfl [qI a] rfl rfl hS.t0 (by decide) (Nat.le_of_ble_eq_true rfl) dX8_isLive_2 ?_
  refine mX8_isAccount (by omega) (by omega) ha ?_
  refine q_ifeq_b hF dX8_isLive_5 (fun c5 => ?_) (fun c5 => ?_)
  · refine q_iconst hF dX8_isLive_23 ?_
    refine q_zreturn hF (by decide) rfl dX8_isLive_24 ?_
    exact k0
  · omega
set_option maxRecDepth 100000 in
theorem mX8_isLive {G : q_G} {sz : Nat} {T : q_T} {I L : q_I} {P : q_P} {Q : q_Q} {m : Nat} {i : Nat} {bd : Int} (hS : q_SM T P m) (hv : g_V0 (L (m + 3))) (hy : (i : Int) < L (m + 3) 1) (hva : g_VA (L (m + 3)) i bd) (k0 : Q (.inl (some (qI (q_b (L (m + 3) (1043 + 12 * i) = 0 ∨ L (m + 3) (1043 + 12 * i) = 1))))) sz T I L P) : qC G 3 0 0 YX8_isLive [.ref m, qI (i : Int)] sz T I L P Q := by
  refine qC_of (by decide +kernel) rfl rfl (Nat.le_of_ble_eq_true rfl) (fun F hF _ _ => ?_)
  refine q_aload_n hF 0 rfl rfl dX8_isLive_0 ?_
  refine q_iload_n hF 1 rfl rfl dX8_isLive_1 ?_
  refine q_callV (kc := 0) (ks := 0) (mc' := 0) (ms' := 0) (h' := 1) (st := []) hF vl_RX8_340 rfl [qI (i : Int)] rfl rfl hS.t0 (by decide) (Nat.le_of_ble_eq_true rfl) dX8_isLive_2 ?_
  refine mX8_isAccount hS hv (by have := hv.many; omega) ?_
  refine q_ifeq_b hF dX8_isLive_5 (fun c5 => ?_) (fun c5 => ?_)
  · omega
  · refine q_aload_n hF 0 rfl rfl dX8_isLive_8 ?_
    refine q_getA hF fl_RX8_20 rfl hS.t0 hS.p9 dX8_isLive_9 ?_
    refine q_iload_n hF 1 rfl rfl dX8_isLive_12 ?_
    refine q_callS (kc := 0) (ks := 0) (mc' := 0) (ms' := 0) (h' := 2) (st := []) hF sl_RX8_304 rfl [.ref (m + 3), qI (i : Int)] rfl rfl (by decide) (Nat.le_of_ble_eq_true rfl) dX8_isLive_13 ?_
    refine mX8_isOpen (i := i) hS.t3 (by have := hv.many; omega) hva.state ?_
    refine q_ifeq_b hF dX8_isLive_16 (fun c16 => ?_) (fun c16 => ?_)
    · refine q_iconst hF dX8_isLive_23 ?_
      refine q_zreturn hF (by decide) rfl dX8_isLive_24 ?_
      rw [q_b_f (c := L (m + 3) (1043 + 12 * i) = 0 ∨ L (m + 3) (1043 + 12 * i) = 1) (by omega)] at k0; exact k0
    · refine q_iconst hF dX8_isLive_19 ?_
      refine q_goto hF dX8_isLive_20 ?_
      refine q_zreturn hF (by decide) rfl dX8_isLive_24 ?_
      rw [q_b_t (c := L (m + 3) (1043 + 12 * i) = 0 ∨ L (m + 3) (1043 + 12 * i) = 1) (by omega)] at k0; exact k0
set_option maxRecDepth 100000 in
theorem mX8_canClaim {G : q_G} {sz : Nat} {T : q_T} {I L : q_I} {P : q_P} {Q : q_Q} {m : Nat} {i : Nat} {bd : Int} (hS : q_SM T P m) (hv : g_V0 (L (m + 3))) (hi : i < 12) (hva : g_VA (L (m + 3)) i bd) (k0 : Q (.inl (some (qI (q_b (L (m + 3) (1043 + 12 * i) = 2 ∧ L (m + 3) (1049 + 12 * i) = 0))))) sz T I L P) : qC G 2 0 0 YX8_canClaim [.ref m, qI (i : Int)] sz T I L P Q := by
  refine qC_of (by decide +kernel) rfl rfl (Nat.le_of_ble_eq_true rfl) (fun F hF _ _ => ?_)
  refine q_aload_n hF 0 rfl rfl dX8_canClaim_0 ?_
  refine q_getA hF fl_RX8_20 rfl hS.t0 hS.p9 dX8_canClaim_1 ?_
  refine q_iload_n hF 1 rfl rfl dX8_canClaim_4 ?_
  refine q_iconst hF dX8_canClaim_5 ?_
  refine q_callS (kc := 0) (ks := 0) (mc' := 0) (ms' := 0) (h' := 1) (st := []) hF sl_RX8_268 rfl [.ref (m + 3), qI (i : Int), qI 4] rfl rfl (by decide) (Nat.le_of_ble_eq_true rfl) dX8_canClaim_6 ?_
  refine mX8_of (j := (1043 + 12 * i)) hS.t3 (by omega) (by omega) ?_
  refine q_ldc2 hF (n := 2) (q_mem 1631 (by decide +kernel) rfl) dX8_canClaim_9 ?_
  refine q_cmpne hF (by have := hva.state; have := hva.nl; omega) (by decide) dX8_canClaim_12 dX8_canClaim_13 (fun c13 => ?_) (fun c13 => ?_)
  · refine q_iconst hF dX8_canClaim_35 ?_
    refine q_zreturn hF (by decide) rfl dX8_canClaim_36 ?_
    rw [q_b_f (c := L (m + 3) (1043 + 12 * i) = 2 ∧ L (m + 3) (1049 + 12 * i) = 0) (by omega)] at k0; exact k0
  · refine q_aload_n hF 0 rfl rfl dX8_canClaim_16 ?_
    refine q_getA hF fl_RX8_20 rfl hS.t0 hS.p9 dX8_canClaim_17 ?_
    refine q_iload_n hF 1 rfl rfl dX8_canClaim_20 ?_
    refine q_bipush hF (n := 10) rfl dX8_canClaim_21 ?_
    refine q_callS (kc := 0) (ks := 0) (mc' := 0) (ms' := 0) (h' := 1) (st := []) hF sl_RX8_268 rfl [.ref (m + 3), qI (i : Int), qI 10] rfl rfl (by decide) (Nat.le_of_ble_eq_true rfl) dX8_canClaim_23 ?_
    refine mX8_of (j := (1049 + 12 * i)) hS.t3 (by omega) (by omega) ?_
    refine q_lconst hF (z := 0) rfl dX8_canClaim_26 ?_
    refine q_cmpne hF (by have := hva.state; have := hva.nl; omega) (by decide) dX8_canClaim_27 dX8_canClaim_28 (fun c28 => ?_) (fun c28 => ?_)
    · refine q_iconst hF dX8_canClaim_35 ?_
      refine q_zreturn hF (by decide) rfl dX8_canClaim_36 ?_
      rw [q_b_f (c := L (m + 3) (1043 + 12 * i) = 2 ∧ L (m + 3) (1049 + 12 * i) = 0) (by omega)] at k0; exact k0
    · refine q_iconst hF dX8_canClaim_31 ?_
      refine q_goto hF dX8_canClaim_32 ?_
      refine q_zreturn hF (by decide) rfl dX8_canClaim_36 ?_
      rw [q_b_t (c := L (m + 3) (1043 + 12 * i) = 2 ∧ L (m + 3) (1049 + 12 * i) = 0) (by omega)] at k0; exact k0
set_option maxRecDepth 100000 in
theorem mX8_isHeldBy {G : q_G} {sz : Nat} {T : q_T} {I L : q_I} {P : q_P} {Q : q_Q} {m : Nat} {l : Int} {i : Nat} {bd : Int} (hS : q_SM T P m) (hv : g_V0 (L (m + 3))) (hi : i < 12) (hva : g_VA (L (m + 3)) i bd) (hl : -2147483648 ≤ l ∧ l < 2147483648) (k0 : Q (.inl (some (qI (q_b (L (m + 3) (1043 + 12 * i) = 2 ∧ L (m + 3) (1047 + 12 * i) = l))))) sz T I L P) : qC G 2 0 0 YX8_isHeldBy [.ref m, qI (i : Int), qI l] sz T I L P Q := by
  refine qC_of (by decide +kernel) rfl rfl (Nat.le_of_ble_eq_true rfl) (fun F hF _ _ => ?_)
  refine q_aload_n hF 0 rfl rfl dX8_isHeldBy_0 ?_
  refine q_getA hF fl_RX8_20 rfl hS.t0 hS.p9 dX8_isHeldBy_1 ?_
  refine q_iload_n hF 1 rfl rfl dX8_isHeldBy_4 ?_
  refine q_iconst hF dX8_isHeldBy_5 ?_
  refine q_callS (kc := 0) (ks := 0) (mc' := 0) (ms' := 0) (h' := 1) (st := []) hF sl_RX8_268 rfl [.ref (m + 3), qI (i : Int), qI 4] rfl rfl (by decide) (Nat.le_of_ble_eq_true rfl) dX8_isHeldBy_6 ?_
  refine mX8_of (j := (1043 + 12 * i)) hS.t3 (by omega) (by omega) ?_
  refine q_ldc2 hF (n := 2) (q_mem 1631 (by decide +kernel) rfl) dX8_isHeldBy_9 ?_
  refine q_cmpne hF (by have := hva.state; have := hva.holder; have := hv.lands; omega) (by decide) dX8_isHeldBy_12 dX8_isHeldBy_13 (fun c13 => ?_) (fun c13 => ?_)
  · refine q_iconst hF dX8_isHeldBy_36 ?_
    refine q_zreturn hF (by decide) rfl dX8_isHeldBy_37 ?_
    rw [q_b_f (c := L (m + 3) (1043 + 12 * i) = 2 ∧ L (m + 3) (1047 + 12 * i) = l) (by omega)] at k0; exact k0
  · refine q_aload_n hF 0 rfl rfl dX8_isHeldBy_16 ?_
    refine q_getA hF fl_RX8_20 rfl hS.t0 hS.p9 dX8_isHeldBy_17 ?_
    refine q_iload_n hF 1 rfl rfl dX8_isHeldBy_20 ?_
    refine q_bipush hF (n := 8) rfl dX8_isHeldBy_21 ?_
    refine q_callS (kc := 0) (ks := 0) (mc' := 0) (ms' := 0) (h' := 1) (st := []) hF sl_RX8_268 rfl [.ref (m + 3), qI (i : Int), qI 8] rfl rfl (by decide) (Nat.le_of_ble_eq_true rfl) dX8_isHeldBy_23 ?_
    refine mX8_of (j := (1047 + 12 * i)) hS.t3 (by omega) (by omega) ?_
    refine q_iload_n hF 2 rfl rfl dX8_isHeldBy_26 ?_
    refine q_i2l hF hl dX8_isHeldBy_27 ?_
    refine q_cmpne hF (by have := hva.state; have := hva.holder; have := hv.lands; omega) (by omega) dX8_isHeldBy_28 dX8_isHeldBy_29 (fun c29 => ?_) (fun c29 => ?_)
    · refine q_iconst hF dX8_isHeldBy_36 ?_
      refine q_zreturn hF (by decide) rfl dX8_isHeldBy_37 ?_
      rw [q_b_f (c := L (m + 3) (1043 + 12 * i) = 2 ∧ L (m + 3) (1047 + 12 * i) = l) (by omega)] at k0; exact k0
    · refine q_iconst hF dX8_isHeldBy_32 ?_
      refine q_goto hF dX8_isHeldBy_33 ?_
      refine q_zreturn hF (by decide) rfl dX8_isHeldBy_37 ?_
      rw [q_b_t (c := L (m + 3) (1043 + 12 * i) = 2 ∧ L (m + 3) (1047 + 12 * i) = l) (by omega)] at k0; exact k0
set_option maxRecDepth 100000 in
theorem lX8_remembers {G : q_G} {F : q_F} {Q : q_Q} {kc ks sz : Nat} {T : q_T} {m : Nat} {I L : q_I} {P : q_P} (hF : q_ok G F YX8_remembers 2) (hS : q_SM T P m) (hSA : q_A G m) (k0 : ∀ M, (∀ q k, q < m + 7 ∨ m + 15 ≤ q → M q k = L q k) → (∀ j, j < 7 → M (m + 7 + j) = L (m + 8 + j)) → q_Z0 M m → qX G F Q kc ks 40 [(1, qI 8), (0, .ref m)] [] sz T I M P) : ∀ (n : Nat) (j : Nat) (M : q_I), 7 - j < n → j ≤ 7 → (∀ q k, q < m + 7 ∨ m + 15 ≤ q → M q k = L q k) → (∀ i, i < 8 → M (m + 7 + i) = if i < j then L (m + 8 + i) else L (m + 7 + i)) → q_Z0 M m → qX G F Q kc ks 11 [(1, qI ((1 + j : Nat) : Int)), (0, .ref m)] [] sz T I M P := by
  intro n
  induction n with
  | zero => intro j M hn; exact absurd hn (Nat.not_lt_zero _)
  | succ n ih =>
    intro j M hn hj hM hP hz
    refine q_iload_n hF 0 rfl rfl dX8_remembers_11 ?_
    refine q_bipush hF (n := 8) rfl dX8_remembers_12 ?_
    refine q_icmpge hF (by omega) (by decide) dX8_remembers_14 (fun c14 => ?_) (fun c14 => ?_)
    · rw [show (((1 + j : Nat) : Int)) = 8 from by omega]
      exact k0 M hM (fun i hi => by rw [hP i (by omega), if_pos (by omega)]) hz
    · refine q_aload_n hF 1 rfl rfl dX8_remembers_17 ?_
      refine q_getA hF fl_RX8_32 rfl hS.t0 hS.p12 dX8_remembers_18 ?_
      refine q_iload_n hF 0 rfl rfl dX8_remembers_21 ?_
      refine q_aaloadv hF (b := m + 7 + (1 + j)) (1 + j) hS.t6 (by decide) (by omega) (by omega) (by decide) (hS.pb _ (by omega)) dX8_remembers_22 ?_
      refine q_aload_n hF 1 rfl rfl dX8_remembers_23 ?_
      refine q_getA hF fl_RX8_32 rfl hS.t0 hS.p12 dX8_remembers_24 ?_
      refine q_iload_n hF 0 rfl rfl dX8_remembers_27 ?_
      refine q_iconst hF dX8_remembers_28 ?_
      refine q_isub hF dX8_remembers_29 ?_
      refine q_aaloadv hF (b := m + 7 + j) j hS.t6 (by decide) (by omega) (by omega) (by decide) (hS.pb _ (by omega)) dX8_remembers_30 ?_
      refine q_callS (kc := kc) (ks := ks) (mc' := 0) (ms' := 0) (h' := 1) (st := []) hF sl_RX8_261 rfl [.ref (m + 7 + (1 + j)), .ref (m + 7 + j)] rfl rfl (by decide) (Nat.le_of_ble_eq_true rfl) dX8_remembers_31 ?_
      refine mX8_copies (hS.tb _ (by omega)) (hS.tb _ (by omega)) (q_Ale hSA (by omega)) (by omega) ?_
      refine q_iinc hF (z' := ((2 + j : Nat) : Int)) (ls' := [(1, qI ((2 + j : Nat) : Int)), (0, .ref m)]) 0 rfl (by first | rfl | omega) (by decide) rfl dX8_remembers_34 ?_
      refine q_goto hF dX8_remembers_37 ?_
      rw [show 2 + j = 1 + (1 + j) by omega]
      refine ih (1 + j) (cpL M (m + 7 + (1 + j)) (m + 7 + j) 1243) (by omega) (by omega) (fun q k h => by rw [cpL_ne _ _ _ (by omega)]; exact hM q k h) (fun i hi => ?_) (hz.cp (by omega) (by omega) (by omega) (by omega))
      by_cases e : i = j
      · subst e; rw [cpL_z hz (by omega) (by omega) (by omega) (by omega), hP _ (by omega), if_neg (by omega), if_pos (by omega), show m + 7 + (1 + i) = m + 8 + i by omega]
      · rw [show cpL M (m + 7 + (1 + j)) (m + 7 + j) 1243 (m + 7 + i) = M (m + 7 + i) from funext fun k => cpL_ne _ _ _ (by omega), hP i hi]
        by_cases e2 : i < j
        · rw [if_pos e2, if_pos (by omega)]
        · rw [if_neg e2, if_neg (by omega)]
set_option maxRecDepth 100000 in
theorem mX8_remembers {G : q_G} {sz : Nat} {T : q_T} {I L : q_I} {P : q_P} {Q : q_Q} {m bk : Nat} (hS : q_SM T P m) (hSA : q_A G m) (hb : I m 13 = (bk : Int)) (hbk : bk ≤ 8) (hz : q_Z0 L m) (k0 : ∀ L', g_Rm L L' m bk → Q (.inl none) sz T (u2 I m 13 (g_nb bk : Int)) L' P) : qC G 2 0 0 YX8_remembers [.ref m] sz T I L P Q := by
  refine qC_of (by decide +kernel) rfl rfl (Nat.le_of_ble_eq_true rfl) (fun F hF _ _ => ?_)
  refine q_aload_n hF 0 rfl rfl dX8_remembers_0 ?_
  refine q_getIv hF (z := (bk : Int)) fl_RX8_334 hS.t0 hb dX8_remembers_1 ?_
  refine q_bipush hF (n := 8) rfl dX8_remembers_4 ?_
  refine q_icmpne hF (by omega) (by decide) dX8_remembers_6 (fun c6 => ?_) (fun c6 => ?_)
  · refine q_aload_n hF 0 rfl rfl dX8_remembers_50 ?_
    refine q_getA hF fl_RX8_20 rfl hS.t0 hS.p9 dX8_remembers_51 ?_
    refine q_aload_n hF 0 rfl rfl dX8_remembers_54 ?_
    refine q_getA hF fl_RX8_32 rfl hS.t0 hS.p12 dX8_remembers_55 ?_
    refine q_aload_n hF 0 rfl rfl dX8_remembers_58 ?_
    refine q_getIv hF (z := (bk : Int)) fl_RX8_334 hS.t0 hb dX8_remembers_59 ?_
    refine q_aaloadv hF (b := m + 7 + bk) bk hS.t6 (by decide) rfl (by omega) (by decide) (hS.pb _ (by omega)) dX8_remembers_62 ?_
    refine q_callS (kc := 0) (ks := 0) (mc' := 0) (ms' := 0) (h' := 1) (st := []) hF sl_RX8_261 rfl [.ref (m + 3), .ref (m + 7 + bk)] rfl rfl (by decide) (Nat.le_of_ble_eq_true rfl) dX8_remembers_63 ?_
    refine mX8_copies hS.t3 (hS.tb _ (by omega)) (q_Ale hSA (by omega)) (by omega) ?_
    refine q_aload_n hF 0 rfl rfl dX8_remembers_66 ?_
    refine q_dup hF rfl dX8_remembers_67 ?_
    refine q_getIv hF (z := (bk : Int)) fl_RX8_334 hS.t0 hb dX8_remembers_68 ?_
    refine q_iconst hF dX8_remembers_71 ?_
    refine q_iadd hF dX8_remembers_72 ?_
    refine q_putI hF fl_RX8_334 hS.t0 hSA dX8_remembers_73 ?_
    refine q_return hF rfl dX8_remembers_76 ?_
    refine (show (bk : Int) + 1 = (g_nb bk : Int) from by unfold g_nb; rw [if_neg (by omega)]; omega) ▸ k0 _ ⟨fun q k h => cpL_ne _ _ _ (by omega), fun j hj => ?_, hz.cp (by omega) (by omega) (by omega) (by omega)⟩
    have e9 : g_nb bk = bk + 1 := by unfold g_nb; rw [if_neg (by omega)]
    rw [e9] at hj ⊢
    by_cases e : j = bk
    · subst e; rw [if_pos rfl, cpL_z hz (by omega) (by omega) (by omega) (by omega)]
    · rw [if_neg (by omega), if_neg (by omega), show cpL L (m + 3) (m + 7 + bk) 1243 (m + 7 + j) = L (m + 7 + j) from funext fun k => cpL_ne _ _ _ (by omega)]
  · refine q_iconst hF dX8_remembers_9 ?_
    refine q_istore_n hF (ls' := [(1, qI 1), (0, .ref m)]) rfl (by decide) rfl dX8_remembers_10 ?_
    have hb8 : bk = 8 := by omega
    subst hb8
    refine lX8_remembers hF hS hSA (fun M x1 x2 x3 => ?_) 8 0 L (by omega) (by omega) (fun _ _ _ => rfl) (fun i hi => by rw [if_neg (Nat.not_lt_zero _)]) hz
    refine q_aload_n hF 1 rfl rfl dX8_remembers_40 ?_
    refine q_dup hF rfl dX8_remembers_41 ?_
    refine q_getIv hF (z := 8) fl_RX8_334 hS.t0 (hb.trans rfl) dX8_remembers_42 ?_
    refine q_iconst hF dX8_remembers_45 ?_
    refine q_isub hF dX8_remembers_46 ?_
    refine q_putI hF fl_RX8_334 hS.t0 hSA dX8_remembers_47 ?_
    refine q_aload_n hF 1 rfl rfl dX8_remembers_50 ?_
    refine q_getA hF fl_RX8_20 rfl hS.t0 hS.p9 dX8_remembers_51 ?_
    refine q_aload_n hF 1 rfl rfl dX8_remembers_54 ?_
    refine q_getA hF fl_RX8_32 rfl hS.t0 hS.p12 dX8_remembers_55 ?_
    refine q_aload_n hF 1 rfl rfl dX8_remembers_58 ?_
    refine q_getIv hF (z := 8 - 1) fl_RX8_334 hS.t0 (u2_s _ _ _ _) dX8_remembers_59 ?_
    refine q_aaloadv hF (b := m + 7 + 7) 7 hS.t6 (by decide) (by omega) (by omega) (by decide) (hS.pb _ (by omega)) dX8_remembers_62 ?_
    refine q_callS (kc := 0) (ks := 0) (mc' := 0) (ms' := 0) (h' := 1) (st := []) hF sl_RX8_261 rfl [.ref (m + 3), .ref (m + 7 + 7)] rfl rfl (by decide) (Nat.le_of_ble_eq_true rfl) dX8_remembers_63 ?_
    refine mX8_copies hS.t3 (hS.tb _ (by omega)) (q_Ale hSA (by omega)) (by omega) ?_
    refine q_aload_n hF 1 rfl rfl dX8_remembers_66 ?_
    refine q_dup hF rfl dX8_remembers_67 ?_
    refine q_getIv hF (z := 8 - 1) fl_RX8_334 hS.t0 (u2_s _ _ _ _) dX8_remembers_68 ?_
    refine q_iconst hF dX8_remembers_71 ?_
    refine q_iadd hF dX8_remembers_72 ?_
    refine q_putI hF fl_RX8_334 hS.t0 hSA dX8_remembers_73 ?_
    refine q_return hF rfl dX8_remembers_76 ?_
    have q1 := k0 _ (show g_Rm L (cpL M (m + 3) (m + 7 + 7) 1243) m 8 from ⟨fun q k h => by rw [cpL_ne _ _ _ (by omega)]; exact x1 q k h, fun j hj => ?_, x3.cp (by omega) (by omega) (by omega) (by omega)⟩)
    · rw [show (g_nb 8 : Int) = 8 from rfl] at q1
      rw [u2_u]
      exact q1
    have hj : j < 8 := hj
    rw [show g_nb 8 = 8 from rfl, if_pos rfl]
    by_cases e : j = 7
    · subst e; rw [if_pos rfl, show m + 7 + 7 = m + 7 + 7 from rfl, cpL_z x3 (by omega) (by omega) (by omega) (by omega)]
      funext k; exact x1 _ k (by omega)
    · rw [if_neg (by omega), show cpL M (m + 3) (m + 7 + 7) 1243 (m + 7 + j) = M (m + 7 + j) from funext fun k => cpL_ne _ _ _ (by omega), x2 j (by omega)]
