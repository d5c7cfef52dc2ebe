/-! the reference: calls that tell -/
set_option maxRecDepth 100000 in
theorem mX8_told0 {G : q_G} {sz : Nat} {T : q_T} {I L : q_I} {P : q_P} {Q : q_Q} {m : Nat} {w : Int}  (hS : q_SM T P m) (hSA : q_A G m) (hv : g_V0 (L (m + 3))) (hw : -2147483648 ≤ w ∧ w < 2147483648) (hn : ¬ (0 ≤ w ∧ w ≤ 9)) (k1 : Q (.inl (some (qI 0))) sz T (u2 (u2 (u2 I m 0 0) m 0 1) (m + 1) 1 ((I (m + 1) 1) + 1)) L P) : qC G 2 0 0 YX8_told [.ref m, qI w] sz T I L P Q := by
  refine qC_of (by decide +kernel) rfl rfl (Nat.le_of_ble_eq_true rfl) (fun F hF _ _ => ?_)
  have hm12 := hv.many
  have hl5 := hv.lands
  refine q_aload_n hF 0 rfl rfl dX8_told_0 ?_
  refine q_iconst hF dX8_told_1 ?_
  refine q_putI hF fl_RX8_52 hS.t0 hSA dX8_told_2 ?_
  refine q_aload_n hF 0 rfl rfl dX8_told_5 ?_
  refine q_iload_n hF 1 rfl rfl dX8_told_6 ?_
  refine q_i2l hF hw dX8_told_7 ?_
  refine q_lconst hF (z := 0) rfl dX8_told_8 ?_
  refine q_ldc2 hF (n := 9) (q_mem 1652 (by decide +kernel) rfl) dX8_told_9 ?_
  refine q_callS (kc := 0) (ks := 0) (mc' := 0) (ms' := 0) (h' := 0) (st := [.ref m]) hF sl_RX8_123 rfl [qL w, qL 0, qL 9] rfl rfl (by decide) (Nat.le_of_ble_eq_true rfl) dX8_told_12 ?_
  refine mX8_in (by omega) (by decide) (by decide) ?_
  refine q_ifne_b hF dX8_told_15 (fun c15 => ?_) (fun c15 => ?_)
  · omega
  · refine q_iconst hF dX8_told_18 ?_
    refine q_goto hF dX8_told_19 ?_
    refine q_iconst hF dX8_told_23 ?_
    refine q_iconst hF dX8_told_24 ?_
    refine q_callV (kc := 0) (ks := 0) (mc' := 0) (ms' := 0) (h' := 0) (st := []) hF vl_RX8_251 rfl [qI 1, qI 1, qI 1] rfl rfl hS.t0 (by decide) (Nat.le_of_ble_eq_true rfl) dX8_told_25 ?_
    refine mX8_bad1 (j := 1) hS hSA (u2_s _ _ _ _) (by omega) rfl (by decide) ?_
    rw [show (u2 I m 0 0) (m + 1) 1 = I (m + 1) 1 from (u2_k _ _ (by decide))]
    refine q_ifeq hF (by decide) dX8_told_28 (fun c28 => ?_) (fun c28 => ?_)
    · exact absurd c28 (by decide)
    · refine q_iconst hF dX8_told_31 ?_
      refine q_ireturn hF rfl dX8_told_32 ?_
      exact k1
set_option maxRecDepth 100000 in
theorem mX8_told {G : q_G} {sz : Nat} {T : q_T} {I L : q_I} {P : q_P} {Q : q_Q} {m : Nat} {w : Nat} (hS : q_SM T P m) (hSA : q_A G m) (hv : g_V0 (L (m + 3))) (hw : w ≤ 9) (k0 : Q (.inl (some (qI (if w < 8 then L (m + 3) w else if w = 8 then I m 2 else I m 13)))) sz T (u2 I m 0 0) L P) : qC G 2 0 0 YX8_told [.ref m, qI (w : Int)] sz T I L P Q := by
  refine qC_of (by decide +kernel) rfl rfl (Nat.le_of_ble_eq_true rfl) (fun F hF _ _ => ?_)
  have hm12 := hv.many
  have hl5 := hv.lands
  refine q_aload_n hF 0 rfl rfl dX8_told_0 ?_
  refine q_iconst hF dX8_told_1 ?_
  refine q_putI hF fl_RX8_52 hS.t0 hSA dX8_told_2 ?_
  refine q_aload_n hF 0 rfl rfl dX8_told_5 ?_
  refine q_iload_n hF 1 rfl rfl dX8_told_6 ?_
  refine q_i2l hF (by omega) dX8_told_7 ?_
  refine q_lconst hF (z := 0) rfl dX8_told_8 ?_
  refine q_ldc2 hF (n := 9) (q_mem 1652 (by decide +kernel) rfl) dX8_told_9 ?_
  refine q_callS (kc := 0) (ks := 0) (mc' := 0) (ms' := 0) (h' := 0) (st := [.ref m]) hF sl_RX8_123 rfl [qL (w : Int), qL 0, qL 9] rfl rfl (by decide) (Nat.le_of_ble_eq_true rfl) dX8_told_12 ?_
  refine mX8_in (by omega) (by decide) (by decide) ?_
  refine q_ifne_b hF dX8_told_15 (fun c15 => ?_) (fun c15 => ?_)
  · refine q_iconst hF dX8_told_22 ?_
    refine q_iconst hF dX8_told_23 ?_
    refine q_iconst hF dX8_told_24 ?_
    refine q_callV (kc := 0) (ks := 0) (mc' := 0) (ms' := 0) (h' := 0) (st := []) hF vl_RX8_251 rfl [qI 0, qI 1, qI 1] rfl rfl hS.t0 (by decide) (Nat.le_of_ble_eq_true rfl) dX8_told_25 ?_
    refine mX8_bad0 hS hSA (u2_s _ _ _ _) ?_
    refine q_ifeq hF (by decide) dX8_told_28 (fun c28 => ?_) (fun c28 => ?_)
    · refine q_iload_n hF 1 rfl rfl dX8_told_33 ?_
      refine q_bipush hF (n := 8) rfl dX8_told_34 ?_
      refine q_icmpge hF (by omega) (by decide) dX8_told_36 (fun c36 => ?_) (fun c36 => ?_)
      · refine q_iload_n hF 1 rfl rfl dX8_told_49 ?_
        refine q_bipush hF (n := 8) rfl dX8_told_50 ?_
        refine q_icmpne hF (by omega) (by decide) dX8_told_52 (fun c52 => ?_) (fun c52 => ?_)
        · refine q_aload_n hF 0 rfl rfl dX8_told_62 ?_
          refine q_getIv hF (z := I m 13) fl_RX8_334 hS.t0 ((u2_k _ _ (by decide)).trans rfl) dX8_told_63 ?_
          refine q_ireturn hF rfl dX8_told_66 ?_
          rw [show (if w < 8 then L (m + 3) w else if w = 8 then I m 2 else I m 13) = (I m 13) from by first | rfl | rw [if_pos (by omega)] | rw [if_neg (by omega), if_pos (by omega)] | rw [if_neg (by omega), if_neg (by omega)]] at k0; exact k0
        · refine q_aload_n hF 0 rfl rfl dX8_told_55 ?_
          refine q_getIv hF (z := I m 2) fl_RX8_55 hS.t0 (u2_k _ _ (by decide)) dX8_told_56 ?_
          refine q_goto hF dX8_told_59 ?_
          refine q_ireturn hF rfl dX8_told_66 ?_
          rw [show (if w < 8 then L (m + 3) w else if w = 8 then I m 2 else I m 13) = (I m 2) from by first | rfl | rw [if_pos (by omega)] | rw [if_neg (by omega), if_pos (by omega)] | rw [if_neg (by omega), if_neg (by omega)]] at k0; exact k0
      · refine q_aload_n hF 0 rfl rfl dX8_told_39 ?_
        refine q_getA hF fl_RX8_20 rfl hS.t0 hS.p9 dX8_told_40 ?_
        refine q_iload_n hF 1 rfl rfl dX8_told_43 ?_
        refine q_laloadv hF (z := L (m + 3) w) (n := 1243) w hS.t3 rfl (by omega) (by decide) rfl dX8_told_44 ?_
        refine q_l2i hF dX8_told_45 ?_
        refine q_goto hF dX8_told_46 ?_
        refine q_ireturn hF rfl dX8_told_66 ?_
        rw [show (if w < 8 then L (m + 3) w else if w = 8 then I m 2 else I m 13) = (L (m + 3) w) from by first | rfl | rw [if_pos (by omega)] | rw [if_neg (by omega), if_pos (by omega)] | rw [if_neg (by omega), if_neg (by omega)]] at k0; exact k0
    · exact absurd c28 (by decide)
  · omega
set_option maxRecDepth 100000 in
theorem mX8_pays0 {G : q_G} {sz : Nat} {T : q_T} {I L : q_I} {P : q_P} {Q : q_Q} {m : Nat} {w : Int}  (hS : q_SM T P m) (hSA : q_A G m) (hv : g_V0 (L (m + 3))) (hw : -2147483648 ≤ w ∧ w < 2147483648) (hn : ¬ (0 ≤ w ∧ w ≤ 4)) (k1 : Q (.inl (some (qI 0))) sz T (u2 (u2 (u2 I m 0 0) m 0 1) (m + 1) 1 ((I (m + 1) 1) + 1)) L P) : qC G 2 0 0 YX8_pays [.ref m, qI w] sz T I L P Q := by
  refine qC_of (by decide +kernel) rfl rfl (Nat.le_of_ble_eq_true rfl) (fun F hF _ _ => ?_)
  have hm12 := hv.many
  have hl5 := hv.lands
  refine q_aload_n hF 0 rfl rfl dX8_pays_0 ?_
  refine q_iconst hF dX8_pays_1 ?_
  refine q_putI hF fl_RX8_52 hS.t0 hSA dX8_pays_2 ?_
  refine q_aload_n hF 0 rfl rfl dX8_pays_5 ?_
  refine q_iload_n hF 1 rfl rfl dX8_pays_6 ?_
  refine q_i2l hF hw dX8_pays_7 ?_
  refine q_lconst hF (z := 0) rfl dX8_pays_8 ?_
  refine q_ldc2 hF (n := 4) (q_mem 1529 (by decide +kernel) rfl) dX8_pays_9 ?_
  refine q_callS (kc := 0) (ks := 0) (mc' := 0) (ms' := 0) (h' := 0) (st := [.ref m]) hF sl_RX8_123 rfl [qL w, qL 0, qL 4] rfl rfl (by decide) (Nat.le_of_ble_eq_true rfl) dX8_pays_12 ?_
  refine mX8_in (by omega) (by decide) (by decide) ?_
  refine q_ifne_b hF dX8_pays_15 (fun c15 => ?_) (fun c15 => ?_)
  · omega
  · refine q_iconst hF dX8_pays_18 ?_
    refine q_goto hF dX8_pays_19 ?_
    refine q_iconst hF dX8_pays_23 ?_
    refine q_iconst hF dX8_pays_24 ?_
    refine q_callV (kc := 0) (ks := 0) (mc' := 0) (ms' := 0) (h' := 0) (st := []) hF vl_RX8_251 rfl [qI 1, qI 1, qI 1] rfl rfl hS.t0 (by decide) (Nat.le_of_ble_eq_true rfl) dX8_pays_25 ?_
    refine mX8_bad1 (j := 1) hS hSA (u2_s _ _ _ _) (by omega) rfl (by decide) ?_
    rw [show (u2 I m 0 0) (m + 1) 1 = I (m + 1) 1 from (u2_k _ _ (by decide))]
    refine q_ifeq hF (by decide) dX8_pays_28 (fun c28 => ?_) (fun c28 => ?_)
    · exact absurd c28 (by decide)
    · refine q_iconst hF dX8_pays_31 ?_
      refine q_goto hF dX8_pays_32 ?_
      refine q_ireturn hF rfl dX8_pays_45 ?_
      exact k1
set_option maxRecDepth 100000 in
theorem mX8_pays {G : q_G} {sz : Nat} {T : q_T} {I L : q_I} {P : q_P} {Q : q_Q} {m : Nat} {w : Nat} (hS : q_SM T P m) (hSA : q_A G m) (hv : g_V0 (L (m + 3))) (hw : w ≤ 4) (k0 : Q (.inl (some (qI (L (m + 3) (12 + w))))) sz T (u2 I m 0 0) L P) : qC G 2 0 0 YX8_pays [.ref m, qI (w : Int)] sz T I L P Q := by
  refine qC_of (by decide +kernel) rfl rfl (Nat.le_of_ble_eq_true rfl) (fun F hF _ _ => ?_)
  have hm12 := hv.many
  have hl5 := hv.lands
  refine q_aload_n hF 0 rfl rfl dX8_pays_0 ?_
  refine q_iconst hF dX8_pays_1 ?_
  refine q_putI hF fl_RX8_52 hS.t0 hSA dX8_pays_2 ?_
  refine q_aload_n hF 0 rfl rfl dX8_pays_5 ?_
  refine q_iload_n hF 1 rfl rfl dX8_pays_6 ?_
  refine q_i2l hF (by omega) dX8_pays_7 ?_
  refine q_lconst hF (z := 0) rfl dX8_pays_8 ?_
  refine q_ldc2 hF (n := 4) (q_mem 1529 (by decide +kernel) rfl) dX8_pays_9 ?_
  refine q_callS (kc := 0) (ks := 0) (mc' := 0) (ms' := 0) (h' := 0) (st := [.ref m]) hF sl_RX8_123 rfl [qL (w : Int), qL 0, qL 4] rfl rfl (by decide) (Nat.le_of_ble_eq_true rfl) dX8_pays_12 ?_
  refine mX8_in (by omega) (by decide) (by decide) ?_
  refine q_ifne_b hF dX8_pays_15 (fun c15 => ?_) (fun c15 => ?_)
  · refine q_iconst hF dX8_pays_22 ?_
    refine q_iconst hF dX8_pays_23 ?_
    refine q_iconst hF dX8_pays_24 ?_
    refine q_callV (kc := 0) (ks := 0) (mc' := 0) (ms' := 0) (h' := 0) (st := []) hF vl_RX8_251 rfl [qI 0, qI 1, qI 1] rfl rfl hS.t0 (by decide) (Nat.le_of_ble_eq_true rfl) dX8_pays_25 ?_
    refine mX8_bad0 hS hSA (u2_s _ _ _ _) ?_
    refine q_ifeq hF (by decide) dX8_pays_28 (fun c28 => ?_) (fun c28 => ?_)
    · refine q_aload_n hF 0 rfl rfl dX8_pays_35 ?_
      refine q_getA hF fl_RX8_20 rfl hS.t0 hS.p9 dX8_pays_36 ?_
      refine q_bipush hF (n := 12) rfl dX8_pays_39 ?_
      refine q_iload_n hF 1 rfl rfl dX8_pays_41 ?_
      refine q_iadd hF dX8_pays_42 ?_
      refine q_laloadv hF (z := L (m + 3) (12 + w)) (n := 1243) (12 + w) hS.t3 (by omega) (by omega) (by decide) rfl dX8_pays_43 ?_
      refine q_l2i hF dX8_pays_44 ?_
      refine q_ireturn hF rfl dX8_pays_45 ?_
      exact k0
    · exact absurd c28 (by decide)
  · omega
set_option maxRecDepth 100000 in
theorem mX8_letter0 {G : q_G} {sz : Nat} {T : q_T} {I L : q_I} {P : q_P} {Q : q_Q} {m : Nat} {l : Int} {i : Int}  (hS : q_SM T P m) (hSA : q_A G m) (hv : g_V0 (L (m + 3))) (hl : -2147483648 ≤ l ∧ l < 2147483648) (hn : ¬ (0 ≤ l ∧ l ≤ L (m + 3) 0 - 1)) (k1 : Q (.inl (some (qI 0))) sz T (u2 (u2 (u2 I m 0 0) m 0 1) (m + 1) 0 ((I (m + 1) 0) + 1)) L P) : qC G 2 0 0 YX8_letter [.ref m, qI l, qI i] sz T I L P Q := by
  refine qC_of (by decide +kernel) rfl rfl (Nat.le_of_ble_eq_true rfl) (fun F hF _ _ => ?_)
  have hm12 := hv.many
  have hl5 := hv.lands
  refine q_aload_n hF 0 rfl rfl dX8_letter_0 ?_
  refine q_iconst hF dX8_letter_1 ?_
  refine q_putI hF fl_RX8_52 hS.t0 hSA dX8_letter_2 ?_
  refine q_aload_n hF 0 rfl rfl dX8_letter_5 ?_
  refine q_aload_n hF 0 rfl rfl dX8_letter_6 ?_
  refine q_iload_n hF 1 rfl rfl dX8_letter_7 ?_
  refine q_callV (kc := 0) (ks := 0) (mc' := 0) (ms' := 0) (h' := 1) (st := [.ref m]) hF vl_RX8_343 rfl [qI l] rfl rfl hS.t0 (by decide) (Nat.le_of_ble_eq_true rfl) dX8_letter_8 ?_
  refine mX8_isLand hS hv hl ?_
  refine q_ifeq_b hF dX8_letter_11 (fun c11 => ?_) (fun c11 => ?_)
  · refine q_iconst hF dX8_letter_48 ?_
    refine q_goto hF dX8_letter_49 ?_
    refine q_iconst hF dX8_letter_53 ?_
    refine q_iconst hF dX8_letter_54 ?_
    refine q_callV (kc := 0) (ks := 0) (mc' := 0) (ms' := 0) (h' := 0) (st := []) hF vl_RX8_251 rfl [qI 1, qI 1, qI 0] rfl rfl hS.t0 (by decide) (Nat.le_of_ble_eq_true rfl) dX8_letter_55 ?_
    refine mX8_bad1 (j := 0) hS hSA (u2_s _ _ _ _) (by omega) rfl (by decide) ?_
    rw [show (u2 I m 0 0) (m + 1) 0 = I (m + 1) 0 from (u2_a _ _ (by omega))]
    refine q_ifeq hF (by decide) dX8_letter_58 (fun c58 => ?_) (fun c58 => ?_)
    · exact absurd c58 (by decide)
    · refine q_iconst hF dX8_letter_61 ?_
      refine q_ireturn hF rfl dX8_letter_62 ?_
      exact k1
  · omega
set_option maxRecDepth 100000 in
theorem mX8_letter {G : q_G} {sz : Nat} {T : q_T} {I L : q_I} {P : q_P} {Q : q_Q} {m : Nat} {i : Int} {l : Nat} (hS : q_SM T P m) (hSA : q_A G m) (hv : g_V0 (L (m + 3))) (hly : (l : Int) < L (m + 3) 0) (hi : -2147483648 ≤ i ∧ i < 2147483648) (k1 : ¬ (0 ≤ i ∧ i < L (m + 3) (30 + 13 * l)) → Q (.inl (some (qI 0))) sz T (u2 (u2 (u2 I m 0 0) m 0 1) (m + 1) 0 ((I (m + 1) 0) + 1)) L P) (k0 : 0 ≤ i ∧ i < L (m + 3) (30 + 13 * l) → Q (.inl (some (qI (L (m + 3) (24 + 13 * l + i.toNat))))) sz T (u2 I m 0 0) L P) : qC G 2 0 0 YX8_letter [.ref m, qI (l : Int), qI i] sz T I L P Q := by
  refine qC_of (by decide +kernel) rfl rfl (Nat.le_of_ble_eq_true rfl) (fun F hF _ _ => ?_)
  have hm12 := hv.many
  have hl5 := hv.lands
  have h30 := (hv.land l hly).2.2.2.2
  refine q_aload_n hF 0 rfl rfl dX8_letter_0 ?_
  refine q_iconst hF dX8_letter_1 ?_
  refine q_putI hF fl_RX8_52 hS.t0 hSA dX8_letter_2 ?_
  refine q_aload_n hF 0 rfl rfl dX8_letter_5 ?_
  refine q_aload_n hF 0 rfl rfl dX8_letter_6 ?_
  refine q_iload_n hF 1 rfl rfl dX8_letter_7 ?_
  refine q_callV (kc := 0) (ks := 0) (mc' := 0) (ms' := 0) (h' := 1) (st := [.ref m]) hF vl_RX8_343 rfl [qI (l : Int)] rfl rfl hS.t0 (by decide) (Nat.le_of_ble_eq_true rfl) dX8_letter_8 ?_
  refine mX8_isLand hS hv (by omega) ?_
  refine q_ifeq_b hF dX8_letter_11 (fun c11 => ?_) (fun c11 => ?_)
  · omega
  · refine q_iload_n hF 2 rfl rfl dX8_letter_14 ?_
    refine q_i2l hF hi dX8_letter_15 ?_
    refine q_lconst hF (z := 0) rfl dX8_letter_16 ?_
    refine q_aload_n hF 0 rfl rfl dX8_letter_17 ?_
    refine q_getA hF fl_RX8_20 rfl hS.t0 hS.p9 dX8_letter_18 ?_
    refine q_aload_n hF 0 rfl rfl dX8_letter_21 ?_
    refine q_iload_n hF 1 rfl rfl dX8_letter_22 ?_
    refine q_callV (kc := 0) (ks := 0) (mc' := 0) (ms' := 0) (h' := 1) (st := [.ref (m + 3), qL 0, qL i, .ref m]) hF vl_RX8_343 rfl [qI (l : Int)] rfl rfl hS.t0 (by decide) (Nat.le_of_ble_eq_true rfl) dX8_letter_23 ?_
    refine mX8_isLand hS hv (by omega) ?_
    refine q_ifeq_b hF dX8_letter_26 (fun c26 => ?_) (fun c26 => ?_)
    · first | omega | exact absurd c26 c11 | exact absurd c11 c26
    · refine q_iload_n hF 1 rfl rfl dX8_letter_29 ?_
      refine q_goto hF dX8_letter_30 ?_
      refine q_bipush hF (n := 6) rfl dX8_letter_34 ?_
      refine q_callS (kc := 0) (ks := 0) (mc' := 0) (ms' := 0) (h' := 0) (st := [.ref (m + 3), qL 0, qL i, .ref m]) hF sl_RX8_176 rfl [qI (l : Int), qI 6] rfl rfl (by decide) (Nat.le_of_ble_eq_true rfl) dX8_letter_36 ?_
      refine mX8_landAt ?_
      refine q_laloadv hF (z := L (m + 3) (30 + 13 * l)) (n := 1243) (30 + 13 * l) hS.t3 (by omega) (by omega) (by decide) rfl dX8_letter_39 ?_
      refine q_lconst hF (z := 1) rfl dX8_letter_40 ?_
      refine q_lsub hF dX8_letter_41 ?_
      refine q_callS (kc := 0) (ks := 0) (mc' := 0) (ms' := 0) (h' := 0) (st := [.ref m]) hF sl_RX8_123 rfl [qL i, qL 0, qL ((L (m + 3) (30 + 13 * l)) - 1)] rfl rfl (by decide) (Nat.le_of_ble_eq_true rfl) dX8_letter_42 ?_
      refine mX8_in (by omega) (by decide) (by have := hv.many; have := hv.lands; have := hv.month; omega) ?_
      refine q_ifne_b hF dX8_letter_45 (fun c45 => ?_) (fun c45 => ?_)
      · refine q_iconst hF dX8_letter_52 ?_
        refine q_iconst hF dX8_letter_53 ?_
        refine q_iconst hF dX8_letter_54 ?_
        refine q_callV (kc := 0) (ks := 0) (mc' := 0) (ms' := 0) (h' := 0) (st := []) hF vl_RX8_251 rfl [qI 0, qI 1, qI 0] rfl rfl hS.t0 (by decide) (Nat.le_of_ble_eq_true rfl) dX8_letter_55 ?_
        refine mX8_bad0 hS hSA (u2_s _ _ _ _) ?_
        refine q_ifeq hF (by decide) dX8_letter_58 (fun c58 => ?_) (fun c58 => ?_)
        · refine q_aload_n hF 0 rfl rfl dX8_letter_63 ?_
          refine q_getA hF fl_RX8_20 rfl hS.t0 hS.p9 dX8_letter_64 ?_
          refine q_iload_n hF 1 rfl rfl dX8_letter_67 ?_
          refine q_iload_n hF 2 rfl rfl dX8_letter_68 ?_
          refine q_callS (kc := 0) (ks := 0) (mc' := 0) (ms' := 0) (h' := 0) (st := [.ref (m + 3)]) hF sl_RX8_176 rfl [qI (l : Int), qI i] rfl rfl (by decide) (Nat.le_of_ble_eq_true rfl) dX8_letter_69 ?_
          refine mX8_landAt ?_
          refine q_laloadv hF (z := L (m + 3) (24 + 13 * l + i.toNat)) (n := 1243) (24 + 13 * l + i.toNat) hS.t3 (by omega) (by omega) (by decide) rfl dX8_letter_72 ?_
          refine q_l2i hF dX8_letter_73 ?_
          refine q_ireturn hF rfl dX8_letter_74 ?_
          exact k0 (by omega)
        · exact absurd c58 (by decide)
      · refine q_iconst hF dX8_letter_48 ?_
        refine q_goto hF dX8_letter_49 ?_
        refine q_iconst hF dX8_letter_53 ?_
        refine q_iconst hF dX8_letter_54 ?_
        refine q_callV (kc := 0) (ks := 0) (mc' := 0) (ms' := 0) (h' := 0) (st := []) hF vl_RX8_251 rfl [qI 1, qI 1, qI 0] rfl rfl hS.t0 (by decide) (Nat.le_of_ble_eq_true rfl) dX8_letter_55 ?_
        refine mX8_bad1 (j := 0) hS hSA (u2_s _ _ _ _) (by omega) rfl (by decide) ?_
        rw [show (u2 I m 0 0) (m + 1) 0 = I (m + 1) 0 from (u2_a _ _ (by omega))]
        refine q_ifeq hF (by decide) dX8_letter_58 (fun c58 => ?_) (fun c58 => ?_)
        · exact absurd c58 (by decide)
        · refine q_iconst hF dX8_letter_61 ?_
          refine q_ireturn hF rfl dX8_letter_62 ?_
          exact k1 (by omega)
set_option maxRecDepth 100000 in
theorem mX8_row {G : q_G} {sz : Nat} {T : q_T} {I L : q_I} {P : q_P} {Q : q_Q} {m : Nat} {k : Int} {w : Int}  (hS : q_SM T P m) (hSA : q_A G m) (hv : g_V0 (L (m + 3))) (hk : -2147483648 ≤ k ∧ k < 2147483648) (hw : -2147483648 ≤ w ∧ w < 2147483648) (k1 : ¬ (0 ≤ k ∧ k < L (m + 3) 6) → Q (.inl (some (qI 0))) sz T (u2 (u2 (u2 I m 0 0) m 0 1) (m + 1) 0 ((I (m + 1) 0) + 1)) L P) (k2 : (0 ≤ k ∧ k < L (m + 3) 6) → ¬ (0 ≤ w ∧ w ≤ 4) → Q (.inl (some (qI 0))) sz T (u2 (u2 (u2 I m 0 0) m 0 2) (m + 1) 1 ((I (m + 1) 1) + 1)) L P) (k0 : (0 ≤ k ∧ k < L (m + 3) 6) → (0 ≤ w ∧ w ≤ 4) → Q (.inl (some (qI (L (m + 3) (1183 + 5 * k.toNat + w.toNat))))) sz T (u2 I m 0 0) L P) : qC G 2 0 0 YX8_row [.ref m, qI k, qI w] sz T I L P Q := by
  refine qC_of (by decide +kernel) rfl rfl (Nat.le_of_ble_eq_true rfl) (fun F hF _ _ => ?_)
  have hm12 := hv.many
  have hl5 := hv.lands
  have h6 := hv.rows
  refine q_aload_n hF 0 rfl rfl dX8_row_0 ?_
  refine q_iconst hF dX8_row_1 ?_
  refine q_putI hF fl_RX8_52 hS.t0 hSA dX8_row_2 ?_
  refine q_aload_n hF 0 rfl rfl dX8_row_5 ?_
  refine q_iload_n hF 1 rfl rfl dX8_row_6 ?_
  refine q_i2l hF hk dX8_row_7 ?_
  refine q_lconst hF (z := 0) rfl dX8_row_8 ?_
  refine q_aload_n hF 0 rfl rfl dX8_row_9 ?_
  refine q_getA hF fl_RX8_20 rfl hS.t0 hS.p9 dX8_row_10 ?_
  refine q_bipush hF (n := 6) rfl dX8_row_13 ?_
  refine q_laloadv hF (z := L (m + 3) 6) (n := 1243) 6 hS.t3 rfl (by decide) (by decide) rfl dX8_row_15 ?_
  refine q_lconst hF (z := 1) rfl dX8_row_16 ?_
  refine q_lsub hF dX8_row_17 ?_
  refine q_callS (kc := 0) (ks := 0) (mc' := 0) (ms' := 0) (h' := 0) (st := [.ref m]) hF sl_RX8_123 rfl [qL k, qL 0, qL ((L (m + 3) 6) - 1)] rfl rfl (by decide) (Nat.le_of_ble_eq_true rfl) dX8_row_18 ?_
  refine mX8_in (by omega) (by decide) (by have := hv.many; have := hv.lands; have := hv.month; omega) ?_
  refine q_ifne_b hF dX8_row_21 (fun c21 => ?_) (fun c21 => ?_)
  · refine q_iconst hF dX8_row_28 ?_
    refine q_iconst hF dX8_row_29 ?_
    refine q_iconst hF dX8_row_30 ?_
    refine q_callV (kc := 0) (ks := 0) (mc' := 0) (ms' := 0) (h' := 0) (st := []) hF vl_RX8_251 rfl [qI 0, qI 1, qI 0] rfl rfl hS.t0 (by decide) (Nat.le_of_ble_eq_true rfl) dX8_row_31 ?_
    refine mX8_bad0 hS hSA (u2_s _ _ _ _) ?_
    refine q_ifne hF (by decide) dX8_row_34 (fun c34 => ?_) (fun c34 => ?_)
    · exact absurd c34 (by decide)
    · refine q_aload_n hF 0 rfl rfl dX8_row_37 ?_
      refine q_iload_n hF 2 rfl rfl dX8_row_38 ?_
      refine q_i2l hF hw dX8_row_39 ?_
      refine q_lconst hF (z := 0) rfl dX8_row_40 ?_
      refine q_ldc2 hF (n := 4) (q_mem 1529 (by decide +kernel) rfl) dX8_row_41 ?_
      refine q_callS (kc := 0) (ks := 0) (mc' := 0) (ms' := 0) (h' := 0) (st := [.ref m]) hF sl_RX8_123 rfl [qL w, qL 0, qL 4] rfl rfl (by decide) (Nat.le_of_ble_eq_true rfl) dX8_row_44 ?_
      refine mX8_in (by omega) (by decide) (by decide) ?_
      refine q_ifne_b hF dX8_row_47 (fun c47 => ?_) (fun c47 => ?_)
      · refine q_iconst hF dX8_row_54 ?_
        refine q_iconst hF dX8_row_55 ?_
        refine q_iconst hF dX8_row_56 ?_
        refine q_callV (kc := 0) (ks := 0) (mc' := 0) (ms' := 0) (h' := 0) (st := []) hF vl_RX8_251 rfl [qI 0, qI 2, qI 1] rfl rfl hS.t0 (by decide) (Nat.le_of_ble_eq_true rfl) dX8_row_57 ?_
        refine mX8_bad0 hS hSA (u2_s _ _ _ _) ?_
        refine q_ifeq hF (by decide) dX8_row_60 (fun c60 => ?_) (fun c60 => ?_)
        · refine q_aload_n hF 0 rfl rfl dX8_row_65 ?_
          refine q_getA hF fl_RX8_20 rfl hS.t0 hS.p9 dX8_row_66 ?_
          refine q_sipush hF (n := 1183) rfl dX8_row_69 ?_
          refine q_iconst hF dX8_row_72 ?_
          refine q_iload_n hF 1 rfl rfl dX8_row_73 ?_
          refine q_imul hF dX8_row_74 ?_
          refine q_iadd hF dX8_row_75 ?_
          refine q_iload_n hF 2 rfl rfl dX8_row_76 ?_
          refine q_iadd hF dX8_row_77 ?_
          refine q_laloadv hF (z := L (m + 3) (1183 + 5 * k.toNat + w.toNat)) (n := 1243) (1183 + 5 * k.toNat + w.toNat) hS.t3 (by omega) (by omega) (by decide) rfl dX8_row_78 ?_
          refine q_l2i hF dX8_row_79 ?_
          refine q_ireturn hF rfl dX8_row_80 ?_
          exact k0 (by omega) (by omega)
        · exact absurd c60 (by decide)
      · refine q_iconst hF dX8_row_50 ?_
        refine q_goto hF dX8_row_51 ?_
        refine q_iconst hF dX8_row_55 ?_
        refine q_iconst hF dX8_row_56 ?_
        refine q_callV (kc := 0) (ks := 0) (mc' := 0) (ms' := 0) (h' := 0) (st := []) hF vl_RX8_251 rfl [qI 1, qI 2, qI 1] rfl rfl hS.t0 (by decide) (Nat.le_of_ble_eq_true rfl) dX8_row_57 ?_
        refine mX8_bad1 (j := 1) hS hSA (u2_s _ _ _ _) (by omega) rfl (by decide) ?_
        rw [show (u2 I m 0 0) (m + 1) 1 = I (m + 1) 1 from (u2_k _ _ (by decide))]
        refine q_ifeq hF (by decide) dX8_row_60 (fun c60 => ?_) (fun c60 => ?_)
        · exact absurd c60 (by decide)
        · refine q_iconst hF dX8_row_63 ?_
          refine q_ireturn hF rfl dX8_row_64 ?_
          exact k2 (by omega) (by omega)
  · refine q_iconst hF dX8_row_24 ?_
    refine q_goto hF dX8_row_25 ?_
    refine q_iconst hF dX8_row_29 ?_
    refine q_iconst hF dX8_row_30 ?_
    refine q_callV (kc := 0) (ks := 0) (mc' := 0) (ms' := 0) (h' := 0) (st := []) hF vl_RX8_251 rfl [qI 1, qI 1, qI 0] rfl rfl hS.t0 (by decide) (Nat.le_of_ble_eq_true rfl) dX8_row_31 ?_
    refine mX8_bad1 (j := 0) hS hSA (u2_s _ _ _ _) (by omega) rfl (by decide) ?_
    rw [show (u2 I m 0 0) (m + 1) 0 = I (m + 1) 0 from (u2_a _ _ (by omega))]
    refine q_ifne hF (by decide) dX8_row_34 (fun c34 => ?_) (fun c34 => ?_)
    · refine q_iconst hF dX8_row_63 ?_
      refine q_ireturn hF rfl dX8_row_64 ?_
      exact k1 (by omega)
    · exact absurd c34 (by decide)
def g_account (r : Nat → Int) (i : Nat) (w : Int) : Int := if w = 8 then (if r (1043 + 12 * i) = 0 ∨ r (1043 + 12 * i) = 1 then g_bel r i else if r (1043 + 12 * i) = 2 then r (1047 + 12 * i) else -1) else r (1039 + 12 * i + w.toNat)
def g_sleepA (r : Nat → Int) (i : Nat) : Int := if g_bel r i = -1 ∨ ¬ (r (1043 + 12 * i) = 0 ∨ r (1043 + 12 * i) = 1) then -1 else g_sleep r i (g_bel r i)
def g_worth (r : Nat → Int) (i : Nat) (n : Int) : Int := if r (1043 + 12 * i) = 2 ∧ r (1049 + 12 * i) = 0 then r (1042 + 12 * i) + g_interest r i n else -1
set_option maxRecDepth 100000 in
theorem mX8_account0 {G : q_G} {sz : Nat} {T : q_T} {I L : q_I} {P : q_P} {Q : q_Q} {m : Nat} {a : Int} {w : Int}  (hS : q_SM T P m) (hSA : q_A G m) (hv : g_V0 (L (m + 3))) (ha : -2147483648 ≤ a ∧ a < 2147483648) (hn : ¬ (0 ≤ a ∧ a ≤ L (m + 3) 1 - 1)) (k1 : Q (.inl (some (qI 0))) sz T (u2 (u2 (u2 I m 0 0) m 0 1) (m + 1) 0 ((I (m + 1) 0) + 1)) L P) : qC G 3 0 0 YX8_account [.ref m, qI a, qI w] sz T I L P Q := by
  refine qC_of (by decide +kernel) rfl rfl (Nat.le_of_ble_eq_true rfl) (fun F hF _ _ => ?_)
  have hm12 := hv.many
  have hl5 := hv.lands
  refine q_aload_n hF 0 rfl rfl dX8_account_0 ?_
  refine q_iconst hF dX8_account_1 ?_
  refine q_putI hF fl_RX8_52 hS.t0 hSA dX8_account_2 ?_
  refine q_aload_n hF 0 rfl rfl dX8_account_5 ?_
  refine q_aload_n hF 0 rfl rfl dX8_account_6 ?_
  refine q_iload_n hF 1 rfl rfl dX8_account_7 ?_
  refine q_callV (kc := 0) (ks := 0) (mc' := 0) (ms' := 0) (h' := 1) (st := [.ref m]) hF vl_RX8_340 rfl [qI a] rfl rfl hS.t0 (by decide) (Nat.le_of_ble_eq_true rfl) dX8_account_8 ?_
  refine mX8_isAccount hS hv ha ?_
  refine q_ifne_b hF dX8_account_11 (fun c11 => ?_) (fun c11 => ?_)
  · omega
  · refine q_iconst hF dX8_account_14 ?_
    refine q_goto hF dX8_account_15 ?_
    refine q_iconst hF dX8_account_19 ?_
    refine q_iconst hF dX8_account_20 ?_
    refine q_callV (kc := 0) (ks := 0) (mc' := 0) (ms' := 0) (h' := 0) (st := []) hF vl_RX8_251 rfl [qI 1, qI 1, qI 0] rfl rfl hS.t0 (by decide) (Nat.le_of_ble_eq_true rfl) dX8_account_21 ?_
    refine mX8_bad1 (j := 0) hS hSA (u2_s _ _ _ _) (by omega) rfl (by decide) ?_
    rw [show (u2 I m 0 0) (m + 1) 0 = I (m + 1) 0 from (u2_a _ _ (by omega))]
    refine q_ifne hF (by decide) dX8_account_24 (fun c24 => ?_) (fun c24 => ?_)
    · refine q_iconst hF dX8_account_53 ?_
      refine q_ireturn hF rfl dX8_account_54 ?_
      exact k1
    · exact absurd c24 (by decide)
set_option maxRecDepth 100000 in
theorem mX8_account {G : q_G} {sz : Nat} {T : q_T} {I L : q_I} {P : q_P} {Q : q_Q} {m : Nat} {w : Int} {i : Nat} {bd : Int} (hS : q_SM T P m) (hSA : q_A G m) (hv : g_V0 (L (m + 3))) (hy : (i : Int) < L (m + 3) 1) (hva : g_VA (L (m + 3)) i bd) (hbd : bd ≤ 7000) (hw : -2147483648 ≤ w ∧ w < 2147483648) (k2 : ¬ (0 ≤ w ∧ w ≤ 10) → Q (.inl (some (qI 0))) sz T (u2 (u2 (u2 I m 0 0) m 0 2) (m + 1) 1 ((I (m + 1) 1) + 1)) L P) (k0 : (0 ≤ w ∧ w ≤ 10) → Q (.inl (some (qI (g_account (L (m + 3)) i w)))) sz T (u2 I m 0 0) L P) : qC G 3 0 0 YX8_account [.ref m, qI (i : Int), qI w] sz T I L P Q := by
  refine qC_of (by decide +kernel) rfl rfl (Nat.le_of_ble_eq_true rfl) (fun F hF _ _ => ?_)
  have hm12 := hv.many
  have hl5 := hv.lands
  refine q_aload_n hF 0 rfl rfl dX8_account_0 ?_
  refine q_iconst hF dX8_account_1 ?_
  refine q_putI hF fl_RX8_52 hS.t0 hSA dX8_account_2 ?_
  refine q_aload_n hF 0 rfl rfl dX8_account_5 ?_
  refine q_aload_n hF 0 rfl rfl dX8_account_6 ?_
  refine q_iload_n hF 1 rfl rfl dX8_account_7 ?_
  refine q_callV (kc := 0) (ks := 0) (mc' := 0) (ms' := 0) (h' := 1) (st := [.ref m]) hF vl_RX8_340 rfl [qI (i : Int)] rfl rfl hS.t0 (by decide) (Nat.le_of_ble_eq_true rfl) dX8_account_8 ?_
  refine mX8_isAccount hS hv (by omega) ?_
  refine q_ifne_b hF dX8_account_11 (fun c11 => ?_) (fun c11 => ?_)
  · refine q_iconst hF dX8_account_18 ?_
    refine q_iconst hF dX8_account_19 ?_
    refine q_iconst hF dX8_account_20 ?_
    refine q_callV (kc := 0) (ks := 0) (mc' := 0) (ms' := 0) (h' := 0) (st := []) hF vl_RX8_251 rfl [qI 0, qI 1, qI 0] rfl rfl hS.t0 (by decide) (Nat.le_of_ble_eq_true rfl) dX8_account_21 ?_
    refine mX8_bad0 hS hSA (u2_s _ _ _ _) ?_
    refine q_ifne hF (by decide) dX8_account_24 (fun c24 => ?_) (fun c24 => ?_)
    · exact absurd c24 (by decide)
    · refine q_aload_n hF 0 rfl rfl dX8_account_27 ?_
      refine q_iload_n hF 2 rfl rfl dX8_account_28 ?_
      refine q_i2l hF hw dX8_account_29 ?_
      refine q_lconst hF (z := 0) rfl dX8_account_30 ?_
      refine q_ldc2 hF (n := 10) (q_mem 1441 (by decide +kernel) rfl) dX8_account_31 ?_
      refine q_callS (kc := 0) (ks := 0) (mc' := 0) (ms' := 0) (h' := 0) (st := [.ref m]) hF sl_RX8_123 rfl [qL w, qL 0, qL 10] rfl rfl (by decide) (Nat.le_of_ble_eq_true rfl) dX8_account_34 ?_
      refine mX8_in (by omega) (by decide) (by decide) ?_
      refine q_ifne_b hF dX8_account_37 (fun c37 => ?_) (fun c37 => ?_)
      · refine q_iconst hF dX8_account_44 ?_
        refine q_iconst hF dX8_account_45 ?_
        refine q_iconst hF dX8_account_46 ?_
        refine q_callV (kc := 0) (ks := 0) (mc' := 0) (ms' := 0) (h' := 0) (st := []) hF vl_RX8_251 rfl [qI 0, qI 2, qI 1] rfl rfl hS.t0 (by decide) (Nat.le_of_ble_eq_true rfl) dX8_account_47 ?_
        refine mX8_bad0 hS hSA (u2_s _ _ _ _) ?_
        refine q_ifeq hF (by decide) dX8_account_50 (fun c50 => ?_) (fun c50 => ?_)
        · refine q_iload_n hF 2 rfl rfl dX8_account_55 ?_
          refine q_bipush hF (n := 8) rfl dX8_account_56 ?_
          refine q_icmpne hF hw (by decide) dX8_account_58 (fun c58 => ?_) (fun c58 => ?_)
          · refine q_aload_n hF 0 rfl rfl dX8_account_115 ?_
            refine q_getA hF fl_RX8_20 rfl hS.t0 hS.p9 dX8_account_116 ?_
            refine q_iload_n hF 1 rfl rfl dX8_account_119 ?_
            refine q_iload_n hF 2 rfl rfl dX8_account_120 ?_
            refine q_callS (kc := 0) (ks := 0) (mc' := 0) (ms' := 0) (h' := 1) (st := []) hF sl_RX8_268 rfl [.ref (m + 3), qI (i : Int), qI w] rfl rfl (by decide) (Nat.le_of_ble_eq_true rfl) dX8_account_121 ?_
            refine mX8_of (j := (1039 + 12 * i + w.toNat)) hS.t3 (by omega) (by have := hv.many; have := hv.lands; omega) ?_
            refine q_l2i hF dX8_account_124 ?_
            refine q_ireturn hF rfl dX8_account_125 ?_
            rw [show (g_account (L (m + 3)) i w) = (L (m + 3) (1039 + 12 * i + w.toNat)) from by unfold g_account; first | (rw [if_neg (by omega)]) | (rw [if_pos (by omega)]; first | rw [if_pos (by omega)] | rw [if_neg (by omega), if_pos (by omega)] | rw [if_neg (by omega), if_neg (by omega)])] at k0; exact k0 (by omega)
          · refine q_aload_n hF 0 rfl rfl dX8_account_61 ?_
            refine q_getA hF fl_RX8_20 rfl hS.t0 hS.p9 dX8_account_62 ?_
            refine q_iload_n hF 1 rfl rfl dX8_account_65 ?_
            refine q_callS (kc := 0) (ks := 0) (mc' := 0) (ms' := 0) (h' := 2) (st := []) hF sl_RX8_304 rfl [.ref (m + 3), qI (i : Int)] rfl rfl (by decide) (Nat.le_of_ble_eq_true rfl) dX8_account_66 ?_
            refine mX8_isOpen (i := i) hS.t3 (by have := hv.many; have := hv.lands; omega) hva.state ?_
            refine q_ifeq_b hF dX8_account_69 (fun c69 => ?_) (fun c69 => ?_)
            · refine q_aload_n hF 0 rfl rfl dX8_account_83 ?_
              refine q_getA hF fl_RX8_20 rfl hS.t0 hS.p9 dX8_account_84 ?_
              refine q_iload_n hF 1 rfl rfl dX8_account_87 ?_
              refine q_iconst hF dX8_account_88 ?_
              refine q_callS (kc := 0) (ks := 0) (mc' := 0) (ms' := 0) (h' := 1) (st := []) hF sl_RX8_268 rfl [.ref (m + 3), qI (i : Int), qI 4] rfl rfl (by decide) (Nat.le_of_ble_eq_true rfl) dX8_account_89 ?_
              refine mX8_of (j := (1043 + 12 * i)) hS.t3 (by omega) (by have := hv.many; have := hv.lands; omega) ?_
              refine q_ldc2 hF (n := 2) (q_mem 1631 (by decide +kernel) rfl) dX8_account_92 ?_
              refine q_cmpne hF (by have := hv.many; have := hv.lands; have := hv.month; have := hva.cents; have := hva.state; have := hva.since; have := hva.addr; have := hva.holder; have := hva.nl; have := hva.hat; omega) (by decide) dX8_account_95 dX8_account_96 (fun c96 => ?_) (fun c96 => ?_)
              · refine q_iconst hF dX8_account_113 ?_
                refine q_ireturn hF rfl dX8_account_114 ?_
                rw [show (g_account (L (m + 3)) i w) = (-1) from by unfold g_account; first | (rw [if_neg (by omega)]) | (rw [if_pos (by omega)]; first | rw [if_pos (by omega)] | rw [if_neg (by omega), if_pos (by omega)] | rw [if_neg (by omega), if_neg (by omega)])] at k0; exact k0 (by omega)
              · refine q_aload_n hF 0 rfl rfl dX8_account_99 ?_
                refine q_getA hF fl_RX8_20 rfl hS.t0 hS.p9 dX8_account_100 ?_
                refine q_iload_n hF 1 rfl rfl dX8_account_103 ?_
                refine q_bipush hF (n := 8) rfl dX8_account_104 ?_
                refine q_callS (kc := 0) (ks := 0) (mc' := 0) (ms' := 0) (h' := 1) (st := []) hF sl_RX8_268 rfl [.ref (m + 3), qI (i : Int), qI 8] rfl rfl (by decide) (Nat.le_of_ble_eq_true rfl) dX8_account_106 ?_
                refine mX8_of (j := (1047 + 12 * i)) hS.t3 (by omega) (by have := hv.many; have := hv.lands; omega) ?_
                refine q_l2i hF dX8_account_109 ?_
                refine q_goto hF dX8_account_110 ?_
                refine q_ireturn hF rfl dX8_account_114 ?_
                rw [show (g_account (L (m + 3)) i w) = (L (m + 3) (1047 + 12 * i)) from by unfold g_account; first | (rw [if_neg (by omega)]) | (rw [if_pos (by omega)]; first | rw [if_pos (by omega)] | rw [if_neg (by omega), if_pos (by omega)] | rw [if_neg (by omega), if_neg (by omega)])] at k0; exact k0 (by omega)
            · refine q_aload_n hF 0 rfl rfl dX8_account_72 ?_
              refine q_getA hF fl_RX8_20 rfl hS.t0 hS.p9 dX8_account_73 ?_
              refine q_iload_n hF 1 rfl rfl dX8_account_76 ?_
              refine q_callS (kc := 0) (ks := 0) (mc' := 0) (ms' := 0) (h' := 2) (st := []) hF sl_RX8_312 rfl [.ref (m + 3), qI (i : Int)] rfl rfl (by decide) (Nat.le_of_ble_eq_true rfl) dX8_account_77 ?_
              refine mX8_belongs (i := i) hS.t3 (by have := hv.many; have := hv.lands; omega) hv hva (by omega) ?_
              refine q_goto hF dX8_account_80 ?_
              refine q_ireturn hF rfl dX8_account_114 ?_
              rw [show (g_account (L (m + 3)) i w) = (g_bel (L (m + 3)) i) from by unfold g_account; first | (rw [if_neg (by omega)]) | (rw [if_pos (by omega)]; first | rw [if_pos (by omega)] | rw [if_neg (by omega), if_pos (by omega)] | rw [if_neg (by omega), if_neg (by omega)])] at k0; exact k0 (by omega)
        · exact absurd c50 (by decide)
      · refine q_iconst hF dX8_account_40 ?_
        refine q_goto hF dX8_account_41 ?_
        refine q_iconst hF dX8_account_45 ?_
        refine q_iconst hF dX8_account_46 ?_
        refine q_callV (kc := 0) (ks := 0) (mc' := 0) (ms' := 0) (h' := 0) (st := []) hF vl_RX8_251 rfl [qI 1, qI 2, qI 1] rfl rfl hS.t0 (by decide) (Nat.le_of_ble_eq_true rfl) dX8_account_47 ?_
        refine mX8_bad1 (j := 1) hS hSA (u2_s _ _ _ _) (by omega) rfl (by decide) ?_
        rw [show (u2 I m 0 0) (m + 1) 1 = I (m + 1) 1 from (u2_k _ _ (by decide))]
        refine q_ifeq hF (by decide) dX8_account_50 (fun c50 => ?_) (fun c50 => ?_)
        · exact absurd c50 (by decide)
        · refine q_iconst hF dX8_account_53 ?_
          refine q_ireturn hF rfl dX8_account_54 ?_
          exact k2 (by omega)
  · omega
set_option maxRecDepth 100000 in
theorem mX8_sleep0 {G : q_G} {sz : Nat} {T : q_T} {I L : q_I} {P : q_P} {Q : q_Q} {m : Nat} {a : Int}  (hS : q_SM T P m) (hSA : q_A G m) (hv : g_V0 (L (m + 3))) (ha : -2147483648 ≤ a ∧ a < 2147483648) (hn : ¬ (0 ≤ a ∧ a ≤ L (m + 3) 1 - 1)) (k1 : Q (.inl (some (qI 0))) sz T (u2 (u2 (u2 I m 0 0) m 0 1) (m + 1) 0 ((I (m + 1) 0) + 1)) L P) : qC G 4 0 0 YX8_sleep [.ref m, qI a] sz T I L P Q := by
  refine qC_of (by decide +kernel) rfl rfl (Nat.le_of_ble_eq_true rfl) (fun F hF _ _ => ?_)
  have hm12 := hv.many
  have hl5 := hv.lands
  refine q_aload_n hF 0 rfl rfl dX8_sleep_0 ?_
  refine q_iconst hF dX8_sleep_1 ?_
  refine q_putI hF fl_RX8_52 hS.t0 hSA dX8_sleep_2 ?_
  refine q_aload_n hF 0 rfl rfl dX8_sleep_5 ?_
  refine q_aload_n hF 0 rfl rfl dX8_sleep_6 ?_
  refine q_iload_n hF 1 rfl rfl dX8_sleep_7 ?_
  refine q_callV (kc := 0) (ks := 0) (mc' := 0) (ms' := 0) (h' := 1) (st := [.ref m]) hF vl_RX8_340 rfl [qI a] rfl rfl hS.t0 (by decide) (Nat.le_of_ble_eq_true rfl) dX8_sleep_8 ?_
  refine mX8_isAccount hS hv ha ?_
  refine q_ifne_b hF dX8_sleep_11 (fun c11 => ?_) (fun c11 => ?_)
  · omega
  · refine q_iconst hF dX8_sleep_14 ?_
    refine q_goto hF dX8_sleep_15 ?_
    refine q_iconst hF dX8_sleep_19 ?_
    refine q_iconst hF dX8_sleep_20 ?_
    refine q_callV (kc := 0) (ks := 0) (mc' := 0) (ms' := 0) (h' := 0) (st := []) hF vl_RX8_251 rfl [qI 1, qI 1, qI 0] rfl rfl hS.t0 (by decide) (Nat.le_of_ble_eq_true rfl) dX8_sleep_21 ?_
    refine mX8_bad1 (j := 0) hS hSA (u2_s _ _ _ _) (by omega) rfl (by decide) ?_
    rw [show (u2 I m 0 0) (m + 1) 0 = I (m + 1) 0 from (u2_a _ _ (by omega))]
    refine q_ifeq hF (by decide) dX8_sleep_24 (fun c24 => ?_) (fun c24 => ?_)
    · exact absurd c24 (by decide)
    · refine q_iconst hF dX8_sleep_27 ?_
      refine q_ireturn hF rfl dX8_sleep_28 ?_
      exact k1
set_option maxRecDepth 100000 in
theorem mX8_sleep {G : q_G} {sz : Nat} {T : q_T} {I L : q_I} {P : q_P} {Q : q_Q} {m : Nat} {i : Nat} {bd : Int} (hS : q_SM T P m) (hSA : q_A G m) (hv : g_V0 (L (m + 3))) (hy : (i : Int) < L (m + 3) 1) (hva : g_VA (L (m + 3)) i bd) (hbd : bd ≤ 7000) (k0 : ∀ L', (∀ q k, q ≠ m + 15 → L' q k = L q k) → Q (.inl (some (qI (g_sleepA (L (m + 3)) i)))) sz T (u2 I m 0 0) L' P) : qC G 4 0 0 YX8_sleep [.ref m, qI (i : Int)] sz T I L P Q := by
  refine qC_of (by decide +kernel) rfl rfl (Nat.le_of_ble_eq_true rfl) (fun F hF _ _ => ?_)
  have hm12 := hv.many
  have hl5 := hv.lands
  have hbr := g_bel_r hv hva
  have f9 := hva.state
  refine q_aload_n hF 0 rfl rfl dX8_sleep_0 ?_
  refine q_iconst hF dX8_sleep_1 ?_
  refine q_putI hF fl_RX8_52 hS.t0 hSA dX8_sleep_2 ?_
  refine q_aload_n hF 0 rfl rfl dX8_sleep_5 ?_
  refine q_aload_n hF 0 rfl rfl dX8_sleep_6 ?_
  refine q_iload_n hF 1 rfl rfl dX8_sleep_7 ?_
  refine q_callV (kc := 0) (ks := 0) (mc' := 0) (ms' := 0) (h' := 1) (st := [.ref m]) hF vl_RX8_340 rfl [qI (i : Int)] rfl rfl hS.t0 (by decide) (Nat.le_of_ble_eq_true rfl) dX8_sleep_8 ?_
  refine mX8_isAccount hS hv (by omega) ?_
  refine q_ifne_b hF dX8_sleep_11 (fun c11 => ?_) (fun c11 => ?_)
  · refine q_iconst hF dX8_sleep_18 ?_
    refine q_iconst hF dX8_sleep_19 ?_
    refine q_iconst hF dX8_sleep_20 ?_
    refine q_callV (kc := 0) (ks := 0) (mc' := 0) (ms' := 0) (h' := 0) (st := []) hF vl_RX8_251 rfl [qI 0, qI 1, qI 0] rfl rfl hS.t0 (by decide) (Nat.le_of_ble_eq_true rfl) dX8_sleep_21 ?_
    refine mX8_bad0 hS hSA (u2_s _ _ _ _) ?_
    refine q_ifeq hF (by decide) dX8_sleep_24 (fun c24 => ?_) (fun c24 => ?_)
    · refine q_aload_n hF 0 rfl rfl dX8_sleep_29 ?_
      refine q_getA hF fl_RX8_20 rfl hS.t0 hS.p9 dX8_sleep_30 ?_
      refine q_iload_n hF 1 rfl rfl dX8_sleep_33 ?_
      refine q_callS (kc := 0) (ks := 0) (mc' := 0) (ms' := 0) (h' := 2) (st := []) hF sl_RX8_312 rfl [.ref (m + 3), qI (i : Int)] rfl rfl (by decide) (Nat.le_of_ble_eq_true rfl) dX8_sleep_34 ?_
      refine mX8_belongs (i := i) hS.t3 (by have := hv.many; have := hv.lands; omega) hv hva (by omega) ?_
      refine q_istore_n hF (ls' := [(2, qI (g_bel (L (m + 3)) i)), (0, .ref m), (1, qI (i : Int))]) rfl (by decide) rfl dX8_sleep_37 ?_
      refine q_iload_n hF 0 rfl rfl dX8_sleep_38 ?_
      refine q_iconst hF dX8_sleep_39 ?_
      refine q_icmpeq hF (by have := hv.many; have := hv.lands; have := hv.month; have := hva.cents; have := hva.state; have := hva.since; have := hva.addr; have := hva.holder; have := hva.nl; have := hva.hat; omega) (by decide) dX8_sleep_40 (fun c40 => ?_) (fun c40 => ?_)
      · refine q_iconst hF dX8_sleep_54 ?_
        refine q_goto hF dX8_sleep_55 ?_
        refine q_ireturn hF rfl dX8_sleep_69 ?_
        rw [show g_sleepA (L (m + 3)) i = -1 from by unfold g_sleepA; rw [if_pos (by first | exact Or.inl (by omega) | exact Or.inr (by omega))]] at k0; exact k0 L (fun _ _ _ => rfl)
      · refine q_aload_n hF 1 rfl rfl dX8_sleep_43 ?_
        refine q_getA hF fl_RX8_20 rfl hS.t0 hS.p9 dX8_sleep_44 ?_
        refine q_iload_n hF 2 rfl rfl dX8_sleep_47 ?_
        refine q_callS (kc := 0) (ks := 0) (mc' := 0) (ms' := 0) (h' := 2) (st := []) hF sl_RX8_304 rfl [.ref (m + 3), qI (i : Int)] rfl rfl (by decide) (Nat.le_of_ble_eq_true rfl) dX8_sleep_48 ?_
        refine mX8_isOpen (i := i) hS.t3 (by have := hv.many; have := hv.lands; omega) hva.state ?_
        refine q_ifne_b hF dX8_sleep_51 (fun c51 => ?_) (fun c51 => ?_)
        · refine q_aload_n hF 1 rfl rfl dX8_sleep_58 ?_
          refine q_aload_n hF 1 rfl rfl dX8_sleep_59 ?_
          refine q_getA hF fl_RX8_20 rfl hS.t0 hS.p9 dX8_sleep_60 ?_
          refine q_iload_n hF 2 rfl rfl dX8_sleep_63 ?_
          have hb7 := g_bel_tk hv hva (by omega)
          refine q_iload_n hF 0 rfl rfl dX8_sleep_64 ?_
          refine q_callV (kc := 0) (ks := 0) (mc' := 0) (ms' := 0) (h' := 3) (st := []) hF vl_RX8_316 rfl [.ref (m + 3), qI (i : Int), qI (g_bel (L (m + 3)) i)] rfl rfl hS.t0 (by decide) (Nat.le_of_ble_eq_true rfl) dX8_sleep_65 ?_
          refine mX8_sleepOf (a := i) hS hSA hS.t3 (by have := hv.many; have := hv.lands; omega) hv hva (by omega) (by omega) hb7.2 (by omega) (fun L' c65_0 => ?_)
          refine q_l2i hF dX8_sleep_68 ?_
          refine q_ireturn hF rfl dX8_sleep_69 ?_
          rw [show g_sleepA (L (m + 3)) i = g_sleep (L (m + 3)) i (g_bel (L (m + 3)) i) from by unfold g_sleepA; rw [if_neg (fun q => by rcases q with q | q; exact absurd q (by omega); exact q (by omega))]] at k0; exact k0 L' c65_0
        · refine q_iconst hF dX8_sleep_54 ?_
          refine q_goto hF dX8_sleep_55 ?_
          refine q_ireturn hF rfl dX8_sleep_69 ?_
          rw [show g_sleepA (L (m + 3)) i = -1 from by unfold g_sleepA; rw [if_pos (by first | exact Or.inl (by omega) | exact Or.inr (by omega))]] at k0; exact k0 L (fun _ _ _ => rfl)
    · exact absurd c24 (by decide)
  · omega
set_option maxRecDepth 100000 in
theorem mX8_worth0 {G : q_G} {sz : Nat} {T : q_T} {I L : q_I} {P : q_P} {Q : q_Q} {m : Nat} {a : Int} {n : Int}  (hS : q_SM T P m) (hSA : q_A G m) (hv : g_V0 (L (m + 3))) (ha : -2147483648 ≤ a ∧ a < 2147483648) (hn : ¬ (0 ≤ a ∧ a ≤ L (m + 3) 1 - 1)) (k1 : Q (.inl (some (qL 0))) sz T (u2 (u2 (u2 I m 0 0) m 0 1) (m + 1) 0 ((I (m + 1) 0) + 1)) L P) : qC G 4 0 0 YX8_worth [.ref m, qI a, qI n] sz T I L P Q := by
  refine qC_of (by decide +kernel) rfl rfl (Nat.le_of_ble_eq_true rfl) (fun F hF _ _ => ?_)
  have hm12 := hv.many
  have hl5 := hv.lands
  refine q_aload_n hF 0 rfl rfl dX8_worth_0 ?_
  refine q_iconst hF dX8_worth_1 ?_
  refine q_putI hF fl_RX8_52 hS.t0 hSA dX8_worth_2 ?_
  refine q_aload_n hF 0 rfl rfl dX8_worth_5 ?_
  refine q_aload_n hF 0 rfl rfl dX8_worth_6 ?_
  refine q_iload_n hF 1 rfl rfl dX8_worth_7 ?_
  refine q_callV (kc := 0) (ks := 0) (mc' := 0) (ms' := 0) (h' := 1) (st := [.ref m]) hF vl_RX8_340 rfl [qI a] rfl rfl hS.t0 (by decide) (Nat.le_of_ble_eq_true rfl) dX8_worth_8 ?_
  refine mX8_isAccount hS hv ha ?_
  refine q_ifne_b hF dX8_worth_11 (fun c11 => ?_) (fun c11 => ?_)
  · omega
  · refine q_iconst hF dX8_worth_14 ?_
    refine q_goto hF dX8_worth_15 ?_
    refine q_iconst hF dX8_worth_19 ?_
    refine q_iconst hF dX8_worth_20 ?_
    refine q_callV (kc := 0) (ks := 0) (mc' := 0) (ms' := 0) (h' := 0) (st := []) hF vl_RX8_251 rfl [qI 1, qI 1, qI 0] rfl rfl hS.t0 (by decide) (Nat.le_of_ble_eq_true rfl) dX8_worth_21 ?_
    refine mX8_bad1 (j := 0) hS hSA (u2_s _ _ _ _) (by omega) rfl (by decide) ?_
    rw [show (u2 I m 0 0) (m + 1) 0 = I (m + 1) 0 from (u2_a _ _ (by omega))]
    refine q_ifne hF (by decide) dX8_worth_24 (fun c24 => ?_) (fun c24 => ?_)
    · refine q_lconst hF (z := 0) rfl dX8_worth_53 ?_
      refine q_lreturn hF rfl dX8_worth_54 ?_
      exact k1
    · exact absurd c24 (by decide)
set_option maxRecDepth 100000 in
theorem mX8_worth {G : q_G} {sz : Nat} {T : q_T} {I L : q_I} {P : q_P} {Q : q_Q} {m : Nat} {n : Int} {i : Nat} {bd : Int} (hS : q_SM T P m) (hSA : q_A G m) (hv : g_V0 (L (m + 3))) (hy : (i : Int) < L (m + 3) 1) (hva : g_VA (L (m + 3)) i bd) (hbd : bd ≤ L (m + 3) 2) (hn : -2147483648 ≤ n ∧ n < 2147483648) (k2 : ¬ (0 ≤ n ∧ n ≤ 600) → Q (.inl (some (qL 0))) sz T (u2 (u2 (u2 I m 0 0) m 0 2) (m + 1) 1 ((I (m + 1) 1) + 1)) L P) (k0 : (0 ≤ n ∧ n ≤ 600) → Q (.inl (some (qL (g_worth (L (m + 3)) i n)))) sz T (u2 I m 0 0) L P) : qC G 4 0 0 YX8_worth [.ref m, qI (i : Int), qI n] sz T I L P Q := by
  refine qC_of (by decide +kernel) rfl rfl (Nat.le_of_ble_eq_true rfl) (fun F hF _ _ => ?_)
  have hm12 := hv.many
  have hl5 := hv.lands
  refine q_aload_n hF 0 rfl rfl dX8_worth_0 ?_
  refine q_iconst hF dX8_worth_1 ?_
  refine q_putI hF fl_RX8_52 hS.t0 hSA dX8_worth_2 ?_
  refine q_aload_n hF 0 rfl rfl dX8_worth_5 ?_
  refine q_aload_n hF 0 rfl rfl dX8_worth_6 ?_
  refine q_iload_n hF 1 rfl rfl dX8_worth_7 ?_
  refine q_callV (kc := 0) (ks := 0) (mc' := 0) (ms' := 0) (h' := 1) (st := [.ref m]) hF vl_RX8_340 rfl [qI (i : Int)] rfl rfl hS.t0 (by decide) (Nat.le_of_ble_eq_true rfl) dX8_worth_8 ?_
  refine mX8_isAccount hS hv (by omega) ?_
  refine q_ifne_b hF dX8_worth_11 (fun c11 => ?_) (fun c11 => ?_)
  · refine q_iconst hF dX8_worth_18 ?_
    refine q_iconst hF dX8_worth_19 ?_
    refine q_iconst hF dX8_worth_20 ?_
    refine q_callV (kc := 0) (ks := 0) (mc' := 0) (ms' := 0) (h' := 0) (st := []) hF vl_RX8_251 rfl [qI 0, qI 1, qI 0] rfl rfl hS.t0 (by decide) (Nat.le_of_ble_eq_true rfl) dX8_worth_21 ?_
    refine mX8_bad0 hS hSA (u2_s _ _ _ _) ?_
    refine q_ifne hF (by decide) dX8_worth_24 (fun c24 => ?_) (fun c24 => ?_)
    · exact absurd c24 (by decide)
    · refine q_aload_n hF 0 rfl rfl dX8_worth_27 ?_
      refine q_iload_n hF 2 rfl rfl dX8_worth_28 ?_
      refine q_i2l hF hn dX8_worth_29 ?_
      refine q_lconst hF (z := 0) rfl dX8_worth_30 ?_
      refine q_ldc2 hF (n := 600) (q_mem 1618 (by decide +kernel) rfl) dX8_worth_31 ?_
      refine q_callS (kc := 0) (ks := 0) (mc' := 0) (ms' := 0) (h' := 0) (st := [.ref m]) hF sl_RX8_123 rfl [qL n, qL 0, qL 600] rfl rfl (by decide) (Nat.le_of_ble_eq_true rfl) dX8_worth_34 ?_
      refine mX8_in (by omega) (by decide) (by decide) ?_
      refine q_ifne_b hF dX8_worth_37 (fun c37 => ?_) (fun c37 => ?_)
      · refine q_iconst hF dX8_worth_44 ?_
        refine q_iconst hF dX8_worth_45 ?_
        refine q_iconst hF dX8_worth_46 ?_
        refine q_callV (kc := 0) (ks := 0) (mc' := 0) (ms' := 0) (h' := 0) (st := []) hF vl_RX8_251 rfl [qI 0, qI 2, qI 1] rfl rfl hS.t0 (by decide) (Nat.le_of_ble_eq_true rfl) dX8_worth_47 ?_
        refine mX8_bad0 hS hSA (u2_s _ _ _ _) ?_
        refine q_ifeq hF (by decide) dX8_worth_50 (fun c50 => ?_) (fun c50 => ?_)
        · refine q_aload_n hF 0 rfl rfl dX8_worth_55 ?_
          refine q_iload_n hF 1 rfl rfl dX8_worth_56 ?_
          refine q_callV (kc := 0) (ks := 0) (mc' := 0) (ms' := 0) (h' := 2) (st := []) hF vl_RX8_362 rfl [qI (i : Int)] rfl rfl hS.t0 (by decide) (Nat.le_of_ble_eq_true rfl) dX8_worth_57 ?_
          refine mX8_canClaim (i := i) hS hv (by have := hv.many; have := hv.lands; omega) hva ?_
          refine q_ifeq_b hF dX8_worth_60 (fun c60 => ?_) (fun c60 => ?_)
          · refine q_ldc2 hF (n := -1) (q_mem 1274 (by decide +kernel) rfl) dX8_worth_82 ?_
            refine q_lreturn hF rfl dX8_worth_85 ?_
            rw [show (g_worth (L (m + 3)) i n) = (-1) from by unfold g_worth; first | rw [if_neg (by omega)] | rw [if_pos (by omega)]] at k0; exact k0 (by omega)
          · obtain ⟨l, hl⟩ : ∃ l : Nat, L (m + 3) (1047 + 12 * i) = (l : Int) := ⟨_, (Int.toNat_of_nonneg (hva.hh (by omega)).1).symm⟩
            have hl2 := (hva.hh (by omega)).2
            rw [hl] at hl2
            refine q_aload_n hF 0 rfl rfl dX8_worth_63 ?_
            refine q_getA hF fl_RX8_20 rfl hS.t0 hS.p9 dX8_worth_64 ?_
            refine q_iload_n hF 1 rfl rfl dX8_worth_67 ?_
            refine q_iconst hF dX8_worth_68 ?_
            refine q_callS (kc := 0) (ks := 0) (mc' := 0) (ms' := 0) (h' := 1) (st := []) hF sl_RX8_268 rfl [.ref (m + 3), qI (i : Int), qI 3] rfl rfl (by decide) (Nat.le_of_ble_eq_true rfl) dX8_worth_69 ?_
            refine mX8_of (j := (1042 + 12 * i)) hS.t3 (by omega) (by have := hv.many; have := hv.lands; omega) ?_
            refine q_aload_n hF 0 rfl rfl dX8_worth_72 ?_
            refine q_iload_n hF 1 rfl rfl dX8_worth_73 ?_
            refine q_iload_n hF 2 rfl rfl dX8_worth_74 ?_
            refine q_callV (kc := 0) (ks := 0) (mc' := 0) (ms' := 0) (h' := 3) (st := [qL (L (m + 3) (1042 + 12 * i))]) hF vl_RX8_365 rfl [qI (i : Int), qI n] rfl rfl hS.t0 (by decide) (Nat.le_of_ble_eq_true rfl) dX8_worth_75 ?_
            refine mX8_interestOf (i := i) (l := l) hS hv (by have := hv.many; have := hv.lands; omega) hva (by omega) (by omega) (by omega) (by omega) ?_
            refine q_ladd hF dX8_worth_78 ?_
            refine q_goto hF dX8_worth_79 ?_
            refine q_lreturn hF rfl dX8_worth_85 ?_
            rw [show (g_worth (L (m + 3)) i n) = ((L (m + 3) (1042 + 12 * i)) + (g_interest (L (m + 3)) i n)) from by unfold g_worth; first | rw [if_neg (by omega)] | rw [if_pos (by omega)]] at k0; exact k0 (by omega)
        · exact absurd c50 (by decide)
      · refine q_iconst hF dX8_worth_40 ?_
        refine q_goto hF dX8_worth_41 ?_
        refine q_iconst hF dX8_worth_45 ?_
        refine q_iconst hF dX8_worth_46 ?_
        refine q_callV (kc := 0) (ks := 0) (mc' := 0) (ms' := 0) (h' := 0) (st := []) hF vl_RX8_251 rfl [qI 1, qI 2, qI 1] rfl rfl hS.t0 (by decide) (Nat.le_of_ble_eq_true rfl) dX8_worth_47 ?_
        refine mX8_bad1 (j := 1) hS hSA (u2_s _ _ _ _) (by omega) rfl (by decide) ?_
        rw [show (u2 I m 0 0) (m + 1) 1 = I (m + 1) 1 from (u2_k _ _ (by decide))]
        refine q_ifeq hF (by decide) dX8_worth_50 (fun c50 => ?_) (fun c50 => ?_)
        · exact absurd c50 (by decide)
        · refine q_lconst hF (z := 0) rfl dX8_worth_53 ?_
          refine q_lreturn hF rfl dX8_worth_54 ?_
          exact k2 (by omega)
  · omega
set_option maxRecDepth 100000 in
theorem mX8_months0 {G : q_G} {sz : Nat} {T : q_T} {I L : q_I} {P : q_P} {Q : q_Q} {m : Nat} {n : Int}  (hS : q_SM T P m) (hSA : q_A G m) (hv : g_V0 (L (m + 3))) (hn : -2147483648 ≤ n ∧ n < 2147483648) (hx : ¬ (1 ≤ n ∧ n ≤ 120)) (k1 : Q (.inl (some (qI 0))) sz T (u2 (u2 (u2 I m 0 0) m 0 1) (m + 1) 1 ((I (m + 1) 1) + 1)) L P) : qC G 6 0 0 YX8_months [.ref m, qI n] sz T I L P Q := by
  refine qC_of (by decide +kernel) rfl rfl (Nat.le_of_ble_eq_true rfl) (fun F hF _ _ => ?_)
  have hm12 := hv.many
  have hl5 := hv.lands
  refine q_aload_n hF 0 rfl rfl dX8_months_0 ?_
  refine q_iconst hF dX8_months_1 ?_
  refine q_putI hF fl_RX8_52 hS.t0 hSA dX8_months_2 ?_
  refine q_aload_n hF 0 rfl rfl dX8_months_5 ?_
  refine q_iload_n hF 1 rfl rfl dX8_months_6 ?_
  refine q_i2l hF hn dX8_months_7 ?_
  refine q_lconst hF (z := 1) rfl dX8_months_8 ?_
  refine q_ldc2 hF (n := 120) (q_mem 1586 (by decide +kernel) rfl) dX8_months_9 ?_
  refine q_callS (kc := 0) (ks := 0) (mc' := 0) (ms' := 0) (h' := 0) (st := [.ref m]) hF sl_RX8_123 rfl [qL n, qL 1, qL 120] rfl rfl (by decide) (Nat.le_of_ble_eq_true rfl) dX8_months_12 ?_
  refine mX8_in (by omega) (by decide) (by decide) ?_
  refine q_ifne_b hF dX8_months_15 (fun c15 => ?_) (fun c15 => ?_)
  · omega
  · refine q_iconst hF dX8_months_18 ?_
    refine q_goto hF dX8_months_19 ?_
    refine q_iconst hF dX8_months_23 ?_
    refine q_iconst hF dX8_months_24 ?_
    refine q_callV (kc := 0) (ks := 0) (mc' := 0) (ms' := 0) (h' := 0) (st := []) hF vl_RX8_251 rfl [qI 1, qI 1, qI 1] rfl rfl hS.t0 (by decide) (Nat.le_of_ble_eq_true rfl) dX8_months_25 ?_
    refine mX8_bad1 (j := 1) hS hSA (u2_s _ _ _ _) (by omega) rfl (by decide) ?_
    rw [show (u2 I m 0 0) (m + 1) 1 = I (m + 1) 1 from (u2_k _ _ (by decide))]
    refine q_ifne hF (by decide) dX8_months_28 (fun c28 => ?_) (fun c28 => ?_)
    · refine q_iconst hF dX8_months_61 ?_
      refine q_ireturn hF rfl dX8_months_62 ?_
      exact k1
    · exact absurd c28 (by decide)
set_option maxRecDepth 100000 in
theorem mX8_months {G : q_G} {sz : Nat} {T : q_T} {I L : q_I} {P : q_P} {Q : q_Q} {m : Nat} {n bk : Nat} (hS : q_SM T P m) (hSA : q_A G m) (hv : g_V0 (L (m + 3))) (hn : 1 ≤ n ∧ n ≤ 120) (hVR : g_VR (L (m + 3))) (hb : I m 13 = (bk : Int)) (hbk : bk ≤ 8) (hz : q_Z0 L m) (k2 : ¬ (L (m + 3) 2 + n ≤ 6000) → Q (.inl (some (qI 0))) sz T (u2 (u2 (u2 I m 0 0) m 0 2) (m + 1) 2 ((I (m + 1) 2) + 1)) L P) (k0 : ∀ L1 L', L (m + 3) 2 + n ≤ 6000 → g_Rm L L1 m bk → (∀ q k, q ≠ m + 3 → q ≠ m + 15 → L' q k = L1 q k) → L' (m + 3) = (g_months n (L (m + 3))).2 → Q (.inl (some (qI (g_months n (L (m + 3))).1))) sz T (u2 (u2 I m 0 0) m 13 (g_nb bk : Int)) L' P) : qC G 6 0 0 YX8_months [.ref m, qI (n : Int)] sz T I L P Q := by
  refine qC_of (by decide +kernel) rfl rfl (Nat.le_of_ble_eq_true rfl) (fun F hF _ _ => ?_)
  have hm12 := hv.many
  have hl5 := hv.lands
  have f2 := hv.month
  refine q_aload_n hF 0 rfl rfl dX8_months_0 ?_
  refine q_iconst hF dX8_months_1 ?_
  refine q_putI hF fl_RX8_52 hS.t0 hSA dX8_months_2 ?_
  refine q_aload_n hF 0 rfl rfl dX8_months_5 ?_
  refine q_iload_n hF 1 rfl rfl dX8_months_6 ?_
  refine q_i2l hF (by omega) dX8_months_7 ?_
  refine q_lconst hF (z := 1) rfl dX8_months_8 ?_
  refine q_ldc2 hF (n := 120) (q_mem 1586 (by decide +kernel) rfl) dX8_months_9 ?_
  refine q_callS (kc := 0) (ks := 0) (mc' := 0) (ms' := 0) (h' := 0) (st := [.ref m]) hF sl_RX8_123 rfl [qL (n : Int), qL 1, qL 120] rfl rfl (by decide) (Nat.le_of_ble_eq_true rfl) dX8_months_12 ?_
  refine mX8_in (by omega) (by decide) (by decide) ?_
  refine q_ifne_b hF dX8_months_15 (fun c15 => ?_) (fun c15 => ?_)
  · refine q_iconst hF dX8_months_22 ?_
    refine q_iconst hF dX8_months_23 ?_
    refine q_iconst hF dX8_months_24 ?_
    refine q_callV (kc := 0) (ks := 0) (mc' := 0) (ms' := 0) (h' := 0) (st := []) hF vl_RX8_251 rfl [qI 0, qI 1, qI 1] rfl rfl hS.t0 (by decide) (Nat.le_of_ble_eq_true rfl) dX8_months_25 ?_
    refine mX8_bad0 hS hSA (u2_s _ _ _ _) ?_
    refine q_ifne hF (by decide) dX8_months_28 (fun c28 => ?_) (fun c28 => ?_)
    · exact absurd c28 (by decide)
    · refine q_aload_n hF 0 rfl rfl dX8_months_31 ?_
      refine q_aload_n hF 0 rfl rfl dX8_months_32 ?_
      refine q_getA hF fl_RX8_20 rfl hS.t0 hS.p9 dX8_months_33 ?_
      refine q_iconst hF dX8_months_36 ?_
      refine q_laloadv hF (z := L (m + 3) 2) (n := 1243) 2 hS.t3 rfl (by decide) (by decide) rfl dX8_months_37 ?_
      refine q_iload_n hF 1 rfl rfl dX8_months_38 ?_
      refine q_i2l hF (by omega) dX8_months_39 ?_
      refine q_ladd hF dX8_months_40 ?_
      refine q_ldc2 hF (n := 6000) (q_mem 1587 (by decide +kernel) rfl) dX8_months_41 ?_
      refine q_cmple hF (by have := hv.many; have := hv.lands; have := hv.month; omega) (by decide) dX8_months_44 dX8_months_45 (fun c45 => ?_) (fun c45 => ?_)
      · refine q_iconst hF dX8_months_52 ?_
        refine q_iconst hF dX8_months_53 ?_
        refine q_iconst hF dX8_months_54 ?_
        refine q_callV (kc := 0) (ks := 0) (mc' := 0) (ms' := 0) (h' := 0) (st := []) hF vl_RX8_251 rfl [qI 0, qI 2, qI 2] rfl rfl hS.t0 (by decide) (Nat.le_of_ble_eq_true rfl) dX8_months_55 ?_
        refine mX8_bad0 hS hSA (u2_s _ _ _ _) ?_
        refine q_ifeq hF (by decide) dX8_months_58 (fun c58 => ?_) (fun c58 => ?_)
        · refine q_aload_n hF 0 rfl rfl dX8_months_63 ?_
          refine q_callV (kc := 0) (ks := 0) (mc' := 0) (ms' := 0) (h' := 2) (st := []) hF vl_RX8_258 rfl [] rfl rfl hS.t0 (by decide) (Nat.le_of_ble_eq_true rfl) dX8_months_64 ?_
          refine mX8_remembers (bk := bk) hS hSA (((u2_k _ _ (by decide)).trans hb)) (by omega) hz (fun LR c64_0 => ?_)
          have e3 : LR (m + 3) = L (m + 3) := funext fun k => c64_0.1 _ k (by omega)
          refine q_aload_n hF 0 rfl rfl dX8_months_67 ?_
          refine q_aload_n hF 0 rfl rfl dX8_months_68 ?_
          refine q_getA hF fl_RX8_20 rfl hS.t0 hS.p9 dX8_months_69 ?_
          refine q_iload_n hF 1 rfl rfl dX8_months_72 ?_
          refine q_callV (kc := 0) (ks := 0) (mc' := 0) (ms' := 0) (h' := 5) (st := []) hF vl_RX8_359 rfl [.ref (m + 3), qI (n : Int)] rfl rfl hS.t0 (by decide) (Nat.le_of_ble_eq_true rfl) dX8_months_73 ?_
          refine mX8_monthsGo (nn := n) hS hSA hS.t3 (q_Ale hSA (by omega)) (by omega) (by omega) (by rw [e3]; exact hVR) (fun L' c73_0 c73_1 => ?_)
          refine q_ireturn hF rfl dX8_months_76 ?_
          rw [show (g_months n (LR (m + 3))) = g_months n (L (m + 3)) from by rw [e3]]
          exact k0 LR L' (by omega) c64_0 c73_0 (by rw [c73_1, e3])
        · exact absurd c58 (by decide)
      · refine q_iconst hF dX8_months_48 ?_
        refine q_goto hF dX8_months_49 ?_
        refine q_iconst hF dX8_months_53 ?_
        refine q_iconst hF dX8_months_54 ?_
        refine q_callV (kc := 0) (ks := 0) (mc' := 0) (ms' := 0) (h' := 0) (st := []) hF vl_RX8_251 rfl [qI 1, qI 2, qI 2] rfl rfl hS.t0 (by decide) (Nat.le_of_ble_eq_true rfl) dX8_months_55 ?_
        refine mX8_bad1 (j := 2) hS hSA (u2_s _ _ _ _) (by omega) rfl (by decide) ?_
        rw [show (u2 I m 0 0) (m + 1) 2 = I (m + 1) 2 from (u2_k _ _ (by decide))]
        refine q_ifeq hF (by decide) dX8_months_58 (fun c58 => ?_) (fun c58 => ?_)
        · exact absurd c58 (by decide)
        · refine q_iconst hF dX8_months_61 ?_
          refine q_ireturn hF rfl dX8_months_62 ?_
          exact k2 (by omega)
  · omega
