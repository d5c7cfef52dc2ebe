/-! the reference: more calls that change it -/
set_option maxRecDepth 100000 in
theorem mX8_address0 {G : q_G} {sz : Nat} {T : q_T} {I L : q_I} {P : q_P} {Q : q_Q} {m : Nat} {a : Int} {l : Int}  (hS : q_SM T P m) (hSA : q_A G m) (hv : g_V0 (L (m + 3))) (ha : -2147483648 ≤ a ∧ a < 2147483648) (hn : ¬ (0 ≤ a ∧ a ≤ L (m + 3) 1 - 1)) (k1 : Q (.inl (some (qI 0))) sz T (u2 (u2 (u2 I m 0 0) m 0 1) (m + 1) 0 ((I (m + 1) 0) + 1)) L P) : qC G 3 0 0 YX8_address [.ref m, qI a, qI l] sz T I L P Q := by
  refine qC_of (by decide +kernel) rfl rfl (Nat.le_of_ble_eq_true rfl) (fun F hF _ _ => ?_)
  have hm12 := hv.many
  have hl5 := hv.lands
  refine q_aload_n hF 0 rfl rfl dX8_address_0 ?_
  refine q_iconst hF dX8_address_1 ?_
  refine q_putI hF fl_RX8_52 hS.t0 hSA dX8_address_2 ?_
  refine q_aload_n hF 0 rfl rfl dX8_address_5 ?_
  refine q_aload_n hF 0 rfl rfl dX8_address_6 ?_
  refine q_iload_n hF 1 rfl rfl dX8_address_7 ?_
  refine q_callV (kc := 0) (ks := 0) (mc' := 0) (ms' := 0) (h' := 1) (st := [.ref m]) hF vl_RX8_340 rfl [qI a] rfl rfl hS.t0 (by decide) (Nat.le_of_ble_eq_true rfl) dX8_address_8 ?_
  refine mX8_isAccount hS hv ha ?_
  refine q_ifeq_b hF dX8_address_11 (fun c11 => ?_) (fun c11 => ?_)
  · refine q_iconst hF dX8_address_27 ?_
    refine q_goto hF dX8_address_28 ?_
    refine q_iconst hF dX8_address_32 ?_
    refine q_iconst hF dX8_address_33 ?_
    refine q_callV (kc := 0) (ks := 0) (mc' := 0) (ms' := 0) (h' := 0) (st := []) hF vl_RX8_251 rfl [qI 1, qI 1, qI 0] rfl rfl hS.t0 (by decide) (Nat.le_of_ble_eq_true rfl) dX8_address_34 ?_
    refine mX8_bad1 (j := 0) hS hSA (u2_s _ _ _ _) (by omega) rfl (by decide) ?_
    rw [show (u2 I m 0 0) (m + 1) 0 = I (m + 1) 0 from (u2_a _ _ (by omega))]
    refine q_ifeq hF (by decide) dX8_address_37 (fun c37 => ?_) (fun c37 => ?_)
    · exact absurd c37 (by decide)
    · refine q_iconst hF dX8_address_40 ?_
      refine q_ireturn hF rfl dX8_address_41 ?_
      exact k1
  · omega
def g_oaddress (r : Nat → Int) (i : Nat) (l : Int) : Nat → Int := g_up r (1040 + 12 * i) l

set_option maxRecDepth 100000 in
theorem mX8_address {G : q_G} {sz : Nat} {T : q_T} {I L : q_I} {P : q_P} {Q : q_Q} {m : Nat} {l : Int} {i bk : Nat} {bd : Int} (hS : q_SM T P m) (hSA : q_A G m) (hv : g_V0 (L (m + 3))) (hy : (i : Int) < L (m + 3) 1) (hva : g_VA (L (m + 3)) i bd) (hl : -2147483648 ≤ l ∧ l < 2147483648) (hb : I m 13 = (bk : Int)) (hbk : bk ≤ 8) (hz : q_Z0 L m) (k1 : ¬ (l = -1 ∨ 0 ≤ l ∧ l < L (m + 3) 0) → Q (.inl (some (qI 0))) sz T (u2 (u2 (u2 I m 0 0) m 0 1) (m + 1) 0 ((I (m + 1) 0) + 1)) L P) (k0 : ∀ L', (l = -1 ∨ 0 ≤ l ∧ l < L (m + 3) 0) → g_Rm L L' m bk → Q (.inl (some (qI (L (m + 3) (1040 + 12 * i))))) sz T (u2 (u2 I m 0 0) m 13 (g_nb bk : Int)) (q_row L' (m + 3) (g_oaddress (L (m + 3)) i l)) P) : qC G 3 0 0 YX8_address [.ref m, qI (i : Int), qI l] sz T I L P Q := by
  refine qC_of (by decide +kernel) rfl rfl (Nat.le_of_ble_eq_true rfl) (fun F hF _ _ => ?_)
  have hm12 := hv.many
  have hl5 := hv.lands
  refine q_aload_n hF 0 rfl rfl dX8_address_0 ?_
  refine q_iconst hF dX8_address_1 ?_
  refine q_putI hF fl_RX8_52 hS.t0 hSA dX8_address_2 ?_
  refine q_aload_n hF 0 rfl rfl dX8_address_5 ?_
  refine q_aload_n hF 0 rfl rfl dX8_address_6 ?_
  refine q_iload_n hF 1 rfl rfl dX8_address_7 ?_
  refine q_callV (kc := 0) (ks := 0) (mc' := 0) (ms' := 0) (h' := 1) (st := [.ref m]) hF vl_RX8_340 rfl [qI (i : Int)] rfl rfl hS.t0 (by decide) (Nat.le_of_ble_eq_true rfl) dX8_address_8 ?_
  refine mX8_isAccount hS hv (by omega) ?_
  refine q_ifeq_b hF dX8_address_11 (fun c11 => ?_) (fun c11 => ?_)
  · omega
  · refine q_iload_n hF 2 rfl rfl dX8_address_14 ?_
    refine q_iconst hF dX8_address_15 ?_
    refine q_icmpeq hF hl (by decide) dX8_address_16 (fun c16 => ?_) (fun c16 => ?_)
    · refine q_iconst hF dX8_address_31 ?_
      refine q_iconst hF dX8_address_32 ?_
      refine q_iconst hF dX8_address_33 ?_
      refine q_callV (kc := 0) (ks := 0) (mc' := 0) (ms' := 0) (h' := 0) (st := []) hF vl_RX8_251 rfl [qI 0, qI 1, qI 0] rfl rfl hS.t0 (by decide) (Nat.le_of_ble_eq_true rfl) dX8_address_34 ?_
      refine mX8_bad0 hS hSA (u2_s _ _ _ _) ?_
      refine q_ifeq hF (by decide) dX8_address_37 (fun c37 => ?_) (fun c37 => ?_)
      · refine q_aload_n hF 0 rfl rfl dX8_address_42 ?_
        refine q_callV (kc := 0) (ks := 0) (mc' := 0) (ms' := 0) (h' := 2) (st := []) hF vl_RX8_258 rfl [] rfl rfl hS.t0 (by decide) (Nat.le_of_ble_eq_true rfl) dX8_address_43 ?_
        refine mX8_remembers (bk := bk) hS hSA (((u2_k _ _ (by decide)).trans hb)) (by omega) hz (fun LR c43_0 => ?_)
        refine q_aload_n hF 0 rfl rfl dX8_address_46 ?_
        refine q_getA hF fl_RX8_20 rfl hS.t0 hS.p9 dX8_address_47 ?_
        refine q_iload_n hF 1 rfl rfl dX8_address_50 ?_
        refine q_iconst hF dX8_address_51 ?_
        refine q_callS (kc := 0) (ks := 0) (mc' := 0) (ms' := 0) (h' := 1) (st := []) hF sl_RX8_268 rfl [.ref (m + 3), qI (i : Int), qI 1] rfl rfl (by decide) (Nat.le_of_ble_eq_true rfl) dX8_address_52 ?_
        refine mX8_of (j := (1040 + 12 * i)) hS.t3 (by omega) (by have := hv.many; have := hv.lands; omega) ?_
        rw [show LR (m + 3) (1040 + 12 * i) = L (m + 3) (1040 + 12 * i) from (c43_0.1 _ _ (by omega))]
        refine q_l2i hF dX8_address_55 ?_
        refine q_istore_n hF (ls' := [(3, qI (L (m + 3) (1040 + 12 * i))), (0, .ref m), (1, qI (i : Int)), (2, qI l)]) rfl (by decide) rfl dX8_address_56 ?_
        refine q_aload_n hF 1 rfl rfl dX8_address_57 ?_
        refine q_getA hF fl_RX8_20 rfl hS.t0 hS.p9 dX8_address_58 ?_
        refine q_iload_n hF 2 rfl rfl dX8_address_61 ?_
        refine q_iconst hF dX8_address_62 ?_
        refine q_iload_n hF 3 rfl rfl dX8_address_63 ?_
        refine q_i2l hF hl dX8_address_64 ?_
        refine q_callS (kc := 0) (ks := 0) (mc' := 0) (ms' := 0) (h' := 1) (st := []) hF sl_RX8_299 rfl [.ref (m + 3), qI (i : Int), qI 1, qL l] rfl rfl (by decide) (Nat.le_of_ble_eq_true rfl) dX8_address_65 ?_
        refine mX8_sets (j := (1040 + 12 * i)) hS.t3 (q_Ale hSA (by omega)) (by omega) (by have := hv.many; have := hv.lands; omega) ?_
        refine q_iload_n hF 0 rfl rfl dX8_address_68 ?_
        refine q_ireturn hF rfl dX8_address_69 ?_
        have e3 : LR (m + 3) = L (m + 3) := funext fun k => c43_0.1 _ k (by omega)
        have q := k0 LR (by omega) c43_0
        rw [show u2 LR (m + 3) (1040 + 12 * i) l = q_row LR (m + 3) (g_oaddress (L (m + 3)) i l) from by rw [q_row_u1 LR, e3]; rfl]
        exact q
      · exact absurd c37 (by decide)
    · refine q_aload_n hF 0 rfl rfl dX8_address_19 ?_
      refine q_iload_n hF 2 rfl rfl dX8_address_20 ?_
      refine q_callV (kc := 0) (ks := 0) (mc' := 0) (ms' := 0) (h' := 1) (st := [.ref m]) hF vl_RX8_343 rfl [qI l] rfl rfl hS.t0 (by decide) (Nat.le_of_ble_eq_true rfl) dX8_address_21 ?_
      refine mX8_isLand hS hv hl ?_
      refine q_ifne_b hF dX8_address_24 (fun c24 => ?_) (fun c24 => ?_)
      · refine q_iconst hF dX8_address_31 ?_
        refine q_iconst hF dX8_address_32 ?_
        refine q_iconst hF dX8_address_33 ?_
        refine q_callV (kc := 0) (ks := 0) (mc' := 0) (ms' := 0) (h' := 0) (st := []) hF vl_RX8_251 rfl [qI 0, qI 1, qI 0] rfl rfl hS.t0 (by decide) (Nat.le_of_ble_eq_true rfl) dX8_address_34 ?_
        refine mX8_bad0 hS hSA (u2_s _ _ _ _) ?_
        refine q_ifeq hF (by decide) dX8_address_37 (fun c37 => ?_) (fun c37 => ?_)
        · refine q_aload_n hF 0 rfl rfl dX8_address_42 ?_
          refine q_callV (kc := 0) (ks := 0) (mc' := 0) (ms' := 0) (h' := 2) (st := []) hF vl_RX8_258 rfl [] rfl rfl hS.t0 (by decide) (Nat.le_of_ble_eq_true rfl) dX8_address_43 ?_
          refine mX8_remembers (bk := bk) hS hSA (((u2_k _ _ (by decide)).trans hb)) (by omega) hz (fun LR c43_0 => ?_)
          refine q_aload_n hF 0 rfl rfl dX8_address_46 ?_
          refine q_getA hF fl_RX8_20 rfl hS.t0 hS.p9 dX8_address_47 ?_
          refine q_iload_n hF 1 rfl rfl dX8_address_50 ?_
          refine q_iconst hF dX8_address_51 ?_
          refine q_callS (kc := 0) (ks := 0) (mc' := 0) (ms' := 0) (h' := 1) (st := []) hF sl_RX8_268 rfl [.ref (m + 3), qI (i : Int), qI 1] rfl rfl (by decide) (Nat.le_of_ble_eq_true rfl) dX8_address_52 ?_
          refine mX8_of (j := (1040 + 12 * i)) hS.t3 (by omega) (by have := hv.many; have := hv.lands; omega) ?_
          rw [show LR (m + 3) (1040 + 12 * i) = L (m + 3) (1040 + 12 * i) from (c43_0.1 _ _ (by omega))]
          refine q_l2i hF dX8_address_55 ?_
          refine q_istore_n hF (ls' := [(3, qI (L (m + 3) (1040 + 12 * i))), (0, .ref m), (1, qI (i : Int)), (2, qI l)]) rfl (by decide) rfl dX8_address_56 ?_
          refine q_aload_n hF 1 rfl rfl dX8_address_57 ?_
          refine q_getA hF fl_RX8_20 rfl hS.t0 hS.p9 dX8_address_58 ?_
          refine q_iload_n hF 2 rfl rfl dX8_address_61 ?_
          refine q_iconst hF dX8_address_62 ?_
          refine q_iload_n hF 3 rfl rfl dX8_address_63 ?_
          refine q_i2l hF hl dX8_address_64 ?_
          refine q_callS (kc := 0) (ks := 0) (mc' := 0) (ms' := 0) (h' := 1) (st := []) hF sl_RX8_299 rfl [.ref (m + 3), qI (i : Int), qI 1, qL l] rfl rfl (by decide) (Nat.le_of_ble_eq_true rfl) dX8_address_65 ?_
          refine mX8_sets (j := (1040 + 12 * i)) hS.t3 (q_Ale hSA (by omega)) (by omega) (by have := hv.many; have := hv.lands; omega) ?_
          refine q_iload_n hF 0 rfl rfl dX8_address_68 ?_
          refine q_ireturn hF rfl dX8_address_69 ?_
          have e3 : LR (m + 3) = L (m + 3) := funext fun k => c43_0.1 _ k (by omega)
          have q := k0 LR (by omega) c43_0
          rw [show u2 LR (m + 3) (1040 + 12 * i) l = q_row LR (m + 3) (g_oaddress (L (m + 3)) i l) from by rw [q_row_u1 LR, e3]; rfl]
          exact q
        · exact absurd c37 (by decide)
      · refine q_iconst hF dX8_address_27 ?_
        refine q_goto hF dX8_address_28 ?_
        refine q_iconst hF dX8_address_32 ?_
        refine q_iconst hF dX8_address_33 ?_
        refine q_callV (kc := 0) (ks := 0) (mc' := 0) (ms' := 0) (h' := 0) (st := []) hF vl_RX8_251 rfl [qI 1, qI 1, qI 0] rfl rfl hS.t0 (by decide) (Nat.le_of_ble_eq_true rfl) dX8_address_34 ?_
        refine mX8_bad1 (j := 0) hS hSA (u2_s _ _ _ _) (by omega) rfl (by decide) ?_
        rw [show (u2 I m 0 0) (m + 1) 0 = I (m + 1) 0 from (u2_a _ _ (by omega))]
        refine q_ifeq hF (by decide) dX8_address_37 (fun c37 => ?_) (fun c37 => ?_)
        · exact absurd c37 (by decide)
        · refine q_iconst hF dX8_address_40 ?_
          refine q_ireturn hF rfl dX8_address_41 ?_
          exact k1 (by omega)
set_option maxRecDepth 100000 in
theorem mX8_undo0 {G : q_G} {sz : Nat} {T : q_T} {I L : q_I} {P : q_P} {Q : q_Q} {m : Nat}  (hS : q_SM T P m) (hSA : q_A G m) (hb : I m 13 = 0) (k0 : Q (.inl (some (qI (-1)))) sz T (u2 I m 0 0) L P) : qC G 2 0 0 YX8_undo [.ref m] sz T I L P Q := by
  refine qC_of (by decide +kernel) rfl rfl (Nat.le_of_ble_eq_true rfl) (fun F hF _ _ => ?_)
  refine q_aload_n hF 0 rfl rfl dX8_undo_0 ?_
  refine q_iconst hF dX8_undo_1 ?_
  refine q_putI hF fl_RX8_52 hS.t0 hSA dX8_undo_2 ?_
  refine q_aload_n hF 0 rfl rfl dX8_undo_5 ?_
  refine q_getIv hF (z := 0) fl_RX8_334 hS.t0 ((u2_k _ _ (by decide)).trans hb) dX8_undo_6 ?_
  refine q_ifne hF (by decide) dX8_undo_9 (fun c9 => ?_) (fun c9 => ?_)
  · exact absurd c9 (by decide)
  · refine q_iconst hF dX8_undo_12 ?_
    refine q_ireturn hF rfl dX8_undo_13 ?_
    exact k0
set_option maxRecDepth 100000 in
theorem mX8_undo {G : q_G} {sz : Nat} {T : q_T} {I L : q_I} {P : q_P} {Q : q_Q} {m : Nat} {b : Nat} (hS : q_SM T P m) (hSA : q_A G m) (hb : I m 13 = ((1 + b : Nat) : Int)) (hb8 : b < 8) (k0 : Q (.inl (some (qI (b : Int)))) sz T (u2 (u2 I m 0 0) m 13 (((1 + b : Nat) : Int) - 1)) (cpL L (m + 7 + b) (m + 3) 1243) P) : qC G 2 0 0 YX8_undo [.ref m] sz T I L P Q := by
  refine qC_of (by decide +kernel) rfl rfl (Nat.le_of_ble_eq_true rfl) (fun F hF _ _ => ?_)
  refine q_aload_n hF 0 rfl rfl dX8_undo_0 ?_
  refine q_iconst hF dX8_undo_1 ?_
  refine q_putI hF fl_RX8_52 hS.t0 hSA dX8_undo_2 ?_
  refine q_aload_n hF 0 rfl rfl dX8_undo_5 ?_
  refine q_getIv hF (z := ((1 + b : Nat) : Int)) fl_RX8_334 hS.t0 ((u2_k _ _ (by decide)).trans hb) dX8_undo_6 ?_
  refine q_ifne hF (by omega) dX8_undo_9 (fun c9 => ?_) (fun c9 => ?_)
  · refine q_aload_n hF 0 rfl rfl dX8_undo_14 ?_
    refine q_dup hF rfl dX8_undo_15 ?_
    refine q_getIv hF (z := ((1 + b : Nat) : Int)) fl_RX8_334 hS.t0 ((u2_k _ _ (by decide)).trans hb) dX8_undo_16 ?_
    refine q_iconst hF dX8_undo_19 ?_
    refine q_isub hF dX8_undo_20 ?_
    refine q_putI hF fl_RX8_334 hS.t0 hSA dX8_undo_21 ?_
    refine q_aload_n hF 0 rfl rfl dX8_undo_24 ?_
    refine q_getA hF fl_RX8_32 rfl hS.t0 hS.p12 dX8_undo_25 ?_
    refine q_aload_n hF 0 rfl rfl dX8_undo_28 ?_
    refine q_getIv hF (z := ((1 + b : Nat) : Int) - 1) fl_RX8_334 hS.t0 (u2_s _ _ _ _) dX8_undo_29 ?_
    refine q_aaloadv hF (b := m + 7 + b) b hS.t6 (by decide) (by omega) (by omega) (by decide) (hS.pb _ (by omega)) dX8_undo_32 ?_
    refine q_aload_n hF 0 rfl rfl dX8_undo_33 ?_
    refine q_getA hF fl_RX8_20 rfl hS.t0 hS.p9 dX8_undo_34 ?_
    refine q_callS (kc := 0) (ks := 0) (mc' := 0) (ms' := 0) (h' := 1) (st := []) hF sl_RX8_261 rfl [.ref (m + 7 + b), .ref (m + 3)] rfl rfl (by decide) (Nat.le_of_ble_eq_true rfl) dX8_undo_37 ?_
    refine mX8_copies (hS.tb _ (by omega)) hS.t3 (q_Ale hSA (by omega)) (by omega) ?_
    refine q_aload_n hF 0 rfl rfl dX8_undo_40 ?_
    refine q_getIv hF (z := ((1 + b : Nat) : Int) - 1) fl_RX8_334 hS.t0 (u2_s _ _ _ _) dX8_undo_41 ?_
    refine q_ireturn hF rfl dX8_undo_44 ?_
    rw [show ((b : Int)) = (((1 + b : Nat) : Int) - 1) from by omega] at k0; exact k0
  · omega
set_option maxRecDepth 100000 in
theorem mX8_status0 {G : q_G} {sz : Nat} {T : q_T} {I L : q_I} {P : q_P} {Q : q_Q} {m : Nat} {a : Int}  (hS : q_SM T P m) (hSA : q_A G m) (ha : -2147483648 ≤ a ∧ a < 2147483648) (hn : ¬ (0 ≤ a ∧ a ≤ 2)) (k0 : ¬ (0 ≤ a ∧ a ≤ 2) → Q (.inl (some (qI (-1)))) sz T (u2 I m 0 0) L P) : qC G 1 0 0 YX8_status [.ref m, qI a] sz T I L P Q := by
  refine qC_of (by decide +kernel) rfl rfl (Nat.le_of_ble_eq_true rfl) (fun F hF _ _ => ?_)
  refine q_aload_n hF 0 rfl rfl dX8_status_0 ?_
  refine q_iconst hF dX8_status_1 ?_
  refine q_putI hF fl_RX8_52 hS.t0 hSA dX8_status_2 ?_
  refine q_iload_n hF 1 rfl rfl dX8_status_5 ?_
  refine q_i2l hF ha dX8_status_6 ?_
  refine q_lconst hF (z := 0) rfl dX8_status_7 ?_
  refine q_ldc2 hF (n := 2) (q_mem 1631 (by decide +kernel) rfl) dX8_status_8 ?_
  refine q_callS (kc := 0) (ks := 0) (mc' := 0) (ms' := 0) (h' := 0) (st := []) hF sl_RX8_123 rfl [qL a, qL 0, qL 2] rfl rfl (by decide) (Nat.le_of_ble_eq_true rfl) dX8_status_11 ?_
  refine mX8_in (by omega) (by decide) (by decide) ?_
  refine q_ifeq_b hF dX8_status_14 (fun c14 => ?_) (fun c14 => ?_)
  · refine q_iconst hF dX8_status_26 ?_
    refine q_ireturn hF rfl dX8_status_27 ?_
    exact k0 c14
  · omega
set_option maxRecDepth 100000 in
theorem mX8_status {G : q_G} {sz : Nat} {T : q_T} {I L : q_I} {P : q_P} {Q : q_Q} {m : Nat} {j : Nat} (hS : q_SM T P m) (hSA : q_A G m) (hn : j < 3) (k0 : 0 ≤ (j : Int) ∧ (j : Int) ≤ 2 → Q (.inl (some (qI (I (m + 1) j)))) sz T (u2 I m 0 0) L P) : qC G 1 0 0 YX8_status [.ref m, qI (j : Int)] sz T I L P Q := by
  refine qC_of (by decide +kernel) rfl rfl (Nat.le_of_ble_eq_true rfl) (fun F hF _ _ => ?_)
  refine q_aload_n hF 0 rfl rfl dX8_status_0 ?_
  refine q_iconst hF dX8_status_1 ?_
  refine q_putI hF fl_RX8_52 hS.t0 hSA dX8_status_2 ?_
  refine q_iload_n hF 1 rfl rfl dX8_status_5 ?_
  refine q_i2l hF (by omega) dX8_status_6 ?_
  refine q_lconst hF (z := 0) rfl dX8_status_7 ?_
  refine q_ldc2 hF (n := 2) (q_mem 1631 (by decide +kernel) rfl) dX8_status_8 ?_
  refine q_callS (kc := 0) (ks := 0) (mc' := 0) (ms' := 0) (h' := 0) (st := []) hF sl_RX8_123 rfl [qL (j : Int), qL 0, qL 2] rfl rfl (by decide) (Nat.le_of_ble_eq_true rfl) dX8_status_11 ?_
  refine mX8_in (by omega) (by decide) (by decide) ?_
  refine q_ifeq_b hF dX8_status_14 (fun c14 => ?_) (fun c14 => ?_)
  · omega
  · refine q_aload_n hF 0 rfl rfl dX8_status_17 ?_
    refine q_getA hF fl_RX8_9 rfl hS.t0 hS.p1 dX8_status_18 ?_
    refine q_iload_n hF 1 rfl rfl dX8_status_21 ?_
    refine q_ialoadv hF (z := I (m + 1) j) (n := 3) j hS.t1 rfl (by omega) (by decide) (u2_a _ _ (by omega)) dX8_status_22 ?_
    refine q_goto hF dX8_status_23 ?_
    refine q_ireturn hF rfl dX8_status_27 ?_
    exact k0 c14
def g_interest (r : Nat → Int) (i : Nat) (n : Int) : Int := (r (1042 + 12 * i) * r (33 + 13 * (r (1047 + 12 * i)).toNat) * min (r 2 + n - r (1050 + 12 * i)) (12 * r (34 + 13 * (r (1047 + 12 * i)).toNat))).tdiv 120000
theorem g_mul3 {c r k : Int} (hc : 0 ≤ c ∧ c ≤ 100000000) (hr : 0 ≤ r ∧ r ≤ 999) (hk : 0 ≤ k ∧ k ≤ 600) : 0 ≤ c * r * k ∧ c * r * k ≤ 59940000000000 := by
  have h1 := Int.mul_nonneg hc.1 hr.1
  have h2 : c * r ≤ 100000000 * 999 := Int.mul_le_mul hc.2 hr.2 hr.1 (by decide)
  have h3 := Int.mul_nonneg h1 hk.1
  have h4 : c * r * k ≤ (100000000 * 999) * 600 := Int.mul_le_mul h2 hk.2 hk.1 (by decide)
  omega
set_option maxRecDepth 100000 in
theorem mX8_interestOf {G : q_G} {sz : Nat} {T : q_T} {I L : q_I} {P : q_P} {Q : q_Q} {m : Nat} {n : Int} {i l : Nat} {bd : Int} (hS : q_SM T P m) (hv : g_V0 (L (m + 3))) (hi : i < 12) (hva : g_VA (L (m + 3)) i bd) (hbd : bd ≤ L (m + 3) 2) (hl : L (m + 3) (1047 + 12 * i) = (l : Int)) (hl2 : (l : Int) < L (m + 3) 0) (hn : 0 ≤ n ∧ n ≤ 600) (k0 : Q (.inl (some (qL (g_interest (L (m + 3)) i n)))) sz T I L P) : qC G 3 0 0 YX8_interestOf [.ref m, qI (i : Int), qI n] sz T I L P Q := by
  refine qC_of (by decide +kernel) rfl rfl (Nat.le_of_ble_eq_true rfl) (fun F hF _ _ => ?_)
  have f1 := hv.month
  have f2 := hv.lands
  have f3 := hv.land l (by omega)
  have f4 := hva.cents
  have f5 := hva.hat
  refine q_aload_n hF 0 rfl rfl dX8_interestOf_0 ?_
  refine q_getA hF fl_RX8_20 rfl hS.t0 hS.p9 dX8_interestOf_1 ?_
  refine q_iload_n hF 1 rfl rfl dX8_interestOf_4 ?_
  refine q_bipush hF (n := 8) rfl dX8_interestOf_5 ?_
  refine q_callS (kc := 0) (ks := 0) (mc' := 0) (ms' := 0) (h' := 1) (st := []) hF sl_RX8_268 rfl [.ref (m + 3), qI (i : Int), qI 8] rfl rfl (by decide) (Nat.le_of_ble_eq_true rfl) dX8_interestOf_7 ?_
  refine mX8_of (j := (1047 + 12 * i)) hS.t3 (by omega) (by omega) ?_
  rw [show L (m + 3) (1047 + 12 * i) = (l : Int) from hl]
  refine q_l2i hF dX8_interestOf_10 ?_
  refine q_istore_n hF (ls' := [(3, qI ((l : Int))), (0, .ref m), (1, qI (i : Int)), (2, qI n)]) rfl (by decide) rfl dX8_interestOf_11 ?_
  refine q_aload_n hF 1 rfl rfl dX8_interestOf_12 ?_
  refine q_getA hF fl_RX8_20 rfl hS.t0 hS.p9 dX8_interestOf_13 ?_
  refine q_iconst hF dX8_interestOf_16 ?_
  refine q_laloadv hF (z := L (m + 3) 2) (n := 1243) 2 hS.t3 rfl (by decide) (by decide) rfl dX8_interestOf_17 ?_
  refine q_iload_n hF 3 rfl rfl dX8_interestOf_18 ?_
  refine q_i2l hF (by omega) dX8_interestOf_19 ?_
  refine q_ladd hF dX8_interestOf_20 ?_
  refine q_aload_n hF 1 rfl rfl dX8_interestOf_21 ?_
  refine q_getA hF fl_RX8_20 rfl hS.t0 hS.p9 dX8_interestOf_22 ?_
  refine q_iload_n hF 2 rfl rfl dX8_interestOf_25 ?_
  refine q_bipush hF (n := 11) rfl dX8_interestOf_26 ?_
  refine q_callS (kc := 0) (ks := 0) (mc' := 0) (ms' := 0) (h' := 1) (st := [qL ((L (m + 3) 2) + n)]) hF sl_RX8_268 rfl [.ref (m + 3), qI (i : Int), qI 11] rfl rfl (by decide) (Nat.le_of_ble_eq_true rfl) dX8_interestOf_28 ?_
  refine mX8_of (j := (1050 + 12 * i)) hS.t3 (by omega) (by omega) ?_
  refine q_lsub hF dX8_interestOf_31 ?_
  refine q_ldc2 hF (n := 12) (q_mem 1626 (by decide +kernel) rfl) dX8_interestOf_32 ?_
  refine q_aload_n hF 1 rfl rfl dX8_interestOf_35 ?_
  refine q_getA hF fl_RX8_20 rfl hS.t0 hS.p9 dX8_interestOf_36 ?_
  refine q_iload_n hF 0 rfl rfl dX8_interestOf_39 ?_
  refine q_bipush hF (n := 10) rfl dX8_interestOf_40 ?_
  refine q_callS (kc := 0) (ks := 0) (mc' := 0) (ms' := 0) (h' := 0) (st := [.ref (m + 3), qL 12, qL (((L (m + 3) 2) + n) - (L (m + 3) (1050 + 12 * i)))]) hF sl_RX8_176 rfl [qI ((l : Int)), qI 10] rfl rfl (by decide) (Nat.le_of_ble_eq_true rfl) dX8_interestOf_42 ?_
  refine mX8_landAt ?_
  refine q_laloadv hF (z := L (m + 3) (34 + 13 * l)) (n := 1243) (34 + 13 * l) hS.t3 (by omega) (by omega) (by decide) rfl dX8_interestOf_45 ?_
  refine q_lmul hF dX8_interestOf_46 ?_
  refine q_callS (kc := 0) (ks := 0) (mc' := 0) (ms' := 0) (h' := 0) (st := []) hF sl_RX8_119 rfl [qL (((L (m + 3) 2) + n) - (L (m + 3) (1050 + 12 * i))), qL (12 * (L (m + 3) (34 + 13 * l)))] rfl rfl (by decide) (Nat.le_of_ble_eq_true rfl) dX8_interestOf_47 ?_
  refine mX8_less (by omega) (by omega) ?_
  refine q_lstore hF (ls' := [(4, qL (min (((L (m + 3) 2) + n) - (L (m + 3) (1050 + 12 * i))) (12 * (L (m + 3) (34 + 13 * l))))), (3, qI ((l : Int))), (0, .ref m), (1, qI (i : Int)), (2, qI n)]) (by decide) rfl dX8_interestOf_50 ?_
  refine q_aload_n hF 2 rfl rfl dX8_interestOf_52 ?_
  refine q_getA hF fl_RX8_20 rfl hS.t0 hS.p9 dX8_interestOf_53 ?_
  refine q_iload_n hF 3 rfl rfl dX8_interestOf_56 ?_
  refine q_iconst hF dX8_interestOf_57 ?_
  refine q_callS (kc := 0) (ks := 0) (mc' := 0) (ms' := 0) (h' := 1) (st := []) hF sl_RX8_268 rfl [.ref (m + 3), qI (i : Int), qI 3] rfl rfl (by decide) (Nat.le_of_ble_eq_true rfl) dX8_interestOf_58 ?_
  refine mX8_of (j := (1042 + 12 * i)) hS.t3 (by omega) (by omega) ?_
  refine q_aload_n hF 2 rfl rfl dX8_interestOf_61 ?_
  refine q_getA hF fl_RX8_20 rfl hS.t0 hS.p9 dX8_interestOf_62 ?_
  refine q_iload_n hF 1 rfl rfl dX8_interestOf_65 ?_
  refine q_bipush hF (n := 9) rfl dX8_interestOf_66 ?_
  refine q_callS (kc := 0) (ks := 0) (mc' := 0) (ms' := 0) (h' := 0) (st := [.ref (m + 3), qL (L (m + 3) (1042 + 12 * i))]) hF sl_RX8_176 rfl [qI ((l : Int)), qI 9] rfl rfl (by decide) (Nat.le_of_ble_eq_true rfl) dX8_interestOf_68 ?_
  refine mX8_landAt ?_
  refine q_laloadv hF (z := L (m + 3) (33 + 13 * l)) (n := 1243) (33 + 13 * l) hS.t3 (by omega) (by omega) (by decide) rfl dX8_interestOf_71 ?_
  refine q_lmul hF dX8_interestOf_72 ?_
  refine q_lload hF 0 rfl dX8_interestOf_73 ?_
  refine q_lmul hF dX8_interestOf_75 ?_
  refine q_ldc2 hF (n := 120000) (q_mem 1596 (by decide +kernel) rfl) dX8_interestOf_76 ?_
  refine q_ldiv hF (by have q := g_mul3 (c := L (m + 3) (1042 + 12 * i)) (r := L (m + 3) (33 + 13 * l)) (k := min (L (m + 3) 2 + n - L (m + 3) (1050 + 12 * i)) (12 * L (m + 3) (34 + 13 * l))) (by omega) (by omega) (by omega); omega) (by decide) (by decide) dX8_interestOf_79 ?_
  refine q_lreturn hF rfl dX8_interestOf_80 ?_
  rw [show ((((L (m + 3) (1042 + 12 * i)) * (L (m + 3) (33 + 13 * l))) * (min (((L (m + 3) 2) + n) - (L (m + 3) (1050 + 12 * i))) (12 * (L (m + 3) (34 + 13 * l))))).tdiv 120000) = g_interest (L (m + 3)) i n from by unfold g_interest; rw [hl, Int.toNat_natCast]] ; exact k0
set_option maxRecDepth 100000 in
theorem mX8_claim0 {G : q_G} {sz : Nat} {T : q_T} {I L : q_I} {P : q_P} {Q : q_Q} {m : Nat} {a : Int}  (hS : q_SM T P m) (hSA : q_A G m) (hv : g_V0 (L (m + 3))) (ha : -2147483648 ≤ a ∧ a < 2147483648) (hn : ¬ (0 ≤ a ∧ a ≤ L (m + 3) 1 - 1)) (k1 : Q (.inl (some (qL 0))) sz T (u2 (u2 (u2 I m 0 0) m 0 1) (m + 1) 0 ((I (m + 1) 0) + 1)) L P) : qC G 4 0 0 YX8_claim [.ref m, qI a] sz T I L P Q := by
  refine qC_of (by decide +kernel) rfl rfl (Nat.le_of_ble_eq_true rfl) (fun F hF _ _ => ?_)
  have hm12 := hv.many
  have hl5 := hv.lands
  refine q_aload_n hF 0 rfl rfl dX8_claim_0 ?_
  refine q_iconst hF dX8_claim_1 ?_
  refine q_putI hF fl_RX8_52 hS.t0 hSA dX8_claim_2 ?_
  refine q_aload_n hF 0 rfl rfl dX8_claim_5 ?_
  refine q_aload_n hF 0 rfl rfl dX8_claim_6 ?_
  refine q_iload_n hF 1 rfl rfl dX8_claim_7 ?_
  refine q_callV (kc := 0) (ks := 0) (mc' := 0) (ms' := 0) (h' := 1) (st := [.ref m]) hF vl_RX8_340 rfl [qI a] rfl rfl hS.t0 (by decide) (Nat.le_of_ble_eq_true rfl) dX8_claim_8 ?_
  refine mX8_isAccount hS hv ha ?_
  refine q_ifne_b hF dX8_claim_11 (fun c11 => ?_) (fun c11 => ?_)
  · omega
  · refine q_iconst hF dX8_claim_14 ?_
    refine q_goto hF dX8_claim_15 ?_
    refine q_iconst hF dX8_claim_19 ?_
    refine q_iconst hF dX8_claim_20 ?_
    refine q_callV (kc := 0) (ks := 0) (mc' := 0) (ms' := 0) (h' := 0) (st := []) hF vl_RX8_251 rfl [qI 1, qI 1, qI 0] rfl rfl hS.t0 (by decide) (Nat.le_of_ble_eq_true rfl) dX8_claim_21 ?_
    refine mX8_bad1 (j := 0) hS hSA (u2_s _ _ _ _) (by omega) rfl (by decide) ?_
    rw [show (u2 I m 0 0) (m + 1) 0 = I (m + 1) 0 from (u2_a _ _ (by omega))]
    refine q_ifne hF (by decide) dX8_claim_24 (fun c24 => ?_) (fun c24 => ?_)
    · refine q_lconst hF (z := 0) rfl dX8_claim_57 ?_
      refine q_lreturn hF rfl dX8_claim_58 ?_
      exact k1
    · exact absurd c24 (by decide)
def g_oclaim (r : Nat → Int) (i l : Nat) : Nat → Int := g_up (g_up (g_up (g_up r (35 + 13 * l) ((r (35 + 13 * l)) + (g_interest (r) i 0))) 23 ((r 23) + (r (1042 + 12 * i)))) (1042 + 12 * i) 0) (1043 + 12 * i) 3

set_option maxRecDepth 100000 in
theorem mX8_claim {G : q_G} {sz : Nat} {T : q_T} {I L : q_I} {P : q_P} {Q : q_Q} {m : Nat} {i bk : Nat} {bd : Int} (hS : q_SM T P m) (hSA : q_A G m) (hv : g_V0 (L (m + 3))) (hy : (i : Int) < L (m + 3) 1) (hva : g_VA (L (m + 3)) i bd) (hbd : bd ≤ L (m + 3) 2) (hb : I m 13 = (bk : Int)) (hbk : bk ≤ 8) (hz : q_Z0 L m) (k2 : ¬ (L (m + 3) (1043 + 12 * i) = 2 ∧ L (m + 3) (1049 + 12 * i) = 0) → Q (.inl (some (qL 0))) sz T (u2 (u2 (u2 I m 0 0) m 0 2) (m + 1) 2 ((I (m + 1) 2) + 1)) L P) (k0 : ∀ L' (l : Nat), L (m + 3) (1047 + 12 * i) = (l : Int) → (l : Int) < L (m + 3) 0 → (L (m + 3) (1043 + 12 * i) = 2 ∧ L (m + 3) (1049 + 12 * i) = 0) → g_Rm L L' m bk → Q (.inl (some (qL ((L (m + 3) (1042 + 12 * i)) + (g_interest (L (m + 3)) i 0))))) sz T (u2 (u2 I m 0 0) m 13 (g_nb bk : Int)) (q_row L' (m + 3) (g_oclaim (L (m + 3)) i l)) P) : qC G 4 0 0 YX8_claim [.ref m, qI (i : Int)] sz T I L P Q := by
  refine qC_of (by decide +kernel) rfl rfl (Nat.le_of_ble_eq_true rfl) (fun F hF _ _ => ?_)
  have hm12 := hv.many
  have hl5 := hv.lands
  refine q_aload_n hF 0 rfl rfl dX8_claim_0 ?_
  refine q_iconst hF dX8_claim_1 ?_
  refine q_putI hF fl_RX8_52 hS.t0 hSA dX8_claim_2 ?_
  refine q_aload_n hF 0 rfl rfl dX8_claim_5 ?_
  refine q_aload_n hF 0 rfl rfl dX8_claim_6 ?_
  refine q_iload_n hF 1 rfl rfl dX8_claim_7 ?_
  refine q_callV (kc := 0) (ks := 0) (mc' := 0) (ms' := 0) (h' := 1) (st := [.ref m]) hF vl_RX8_340 rfl [qI (i : Int)] rfl rfl hS.t0 (by decide) (Nat.le_of_ble_eq_true rfl) dX8_claim_8 ?_
  refine mX8_isAccount hS hv (by omega) ?_
  refine q_ifne_b hF dX8_claim_11 (fun c11 => ?_) (fun c11 => ?_)
  · refine q_iconst hF dX8_claim_18 ?_
    refine q_iconst hF dX8_claim_19 ?_
    refine q_iconst hF dX8_claim_20 ?_
    refine q_callV (kc := 0) (ks := 0) (mc' := 0) (ms' := 0) (h' := 0) (st := []) hF vl_RX8_251 rfl [qI 0, qI 1, qI 0] rfl rfl hS.t0 (by decide) (Nat.le_of_ble_eq_true rfl) dX8_claim_21 ?_
    refine mX8_bad0 hS hSA (u2_s _ _ _ _) ?_
    refine q_ifne hF (by decide) dX8_claim_24 (fun c24 => ?_) (fun c24 => ?_)
    · exact absurd c24 (by decide)
    · refine q_aload_n hF 0 rfl rfl dX8_claim_27 ?_
      refine q_aload_n hF 0 rfl rfl dX8_claim_28 ?_
      refine q_iload_n hF 1 rfl rfl dX8_claim_29 ?_
      refine q_callV (kc := 0) (ks := 0) (mc' := 0) (ms' := 0) (h' := 1) (st := [.ref m]) hF vl_RX8_340 rfl [qI (i : Int)] rfl rfl hS.t0 (by decide) (Nat.le_of_ble_eq_true rfl) dX8_claim_30 ?_
      refine mX8_isAccount hS hv (by omega) ?_
      refine q_ifeq_b hF dX8_claim_33 (fun c33 => ?_) (fun c33 => ?_)
      · first | omega | exact absurd c33 c11 | exact absurd c11 c33
      · refine q_aload_n hF 0 rfl rfl dX8_claim_36 ?_
        refine q_iload_n hF 1 rfl rfl dX8_claim_37 ?_
        refine q_callV (kc := 0) (ks := 0) (mc' := 0) (ms' := 0) (h' := 2) (st := [.ref m]) hF vl_RX8_362 rfl [qI (i : Int)] rfl rfl hS.t0 (by decide) (Nat.le_of_ble_eq_true rfl) dX8_claim_38 ?_
        refine mX8_canClaim (i := i) hS hv (by have := hv.many; have := hv.lands; omega) hva ?_
        refine q_ifne_b hF dX8_claim_41 (fun c41 => ?_) (fun c41 => ?_)
        · refine q_iconst hF dX8_claim_48 ?_
          refine q_iconst hF dX8_claim_49 ?_
          refine q_iconst hF dX8_claim_50 ?_
          refine q_callV (kc := 0) (ks := 0) (mc' := 0) (ms' := 0) (h' := 0) (st := []) hF vl_RX8_251 rfl [qI 0, qI 2, qI 2] rfl rfl hS.t0 (by decide) (Nat.le_of_ble_eq_true rfl) dX8_claim_51 ?_
          refine mX8_bad0 hS hSA (u2_s _ _ _ _) ?_
          refine q_ifeq hF (by decide) dX8_claim_54 (fun c54 => ?_) (fun c54 => ?_)
          · refine q_aload_n hF 0 rfl rfl dX8_claim_59 ?_
            refine q_callV (kc := 0) (ks := 0) (mc' := 0) (ms' := 0) (h' := 2) (st := []) hF vl_RX8_258 rfl [] rfl rfl hS.t0 (by decide) (Nat.le_of_ble_eq_true rfl) dX8_claim_60 ?_
            refine mX8_remembers (bk := bk) hS hSA (((u2_k _ _ (by decide)).trans hb)) (by omega) hz (fun LR c60_0 => ?_)
            have e3 : LR (m + 3) = L (m + 3) := funext fun k => c60_0.1 _ k (by omega)
            obtain ⟨l, hl⟩ : ∃ l : Nat, L (m + 3) (1047 + 12 * i) = (l : Int) := ⟨_, (Int.toNat_of_nonneg (hva.hh (by omega)).1).symm⟩
            have hl2 := (hva.hh (by omega)).2
            rw [hl] at hl2
            refine q_aload_n hF 0 rfl rfl dX8_claim_63 ?_
            refine q_getA hF fl_RX8_20 rfl hS.t0 hS.p9 dX8_claim_64 ?_
            refine q_iload_n hF 1 rfl rfl dX8_claim_67 ?_
            refine q_iconst hF dX8_claim_68 ?_
            refine q_callS (kc := 0) (ks := 0) (mc' := 0) (ms' := 0) (h' := 1) (st := []) hF sl_RX8_268 rfl [.ref (m + 3), qI (i : Int), qI 3] rfl rfl (by decide) (Nat.le_of_ble_eq_true rfl) dX8_claim_69 ?_
            refine mX8_of (j := (1042 + 12 * i)) hS.t3 (by omega) (by have := hv.many; have := hv.lands; omega) ?_
            rw [show LR (m + 3) (1042 + 12 * i) = L (m + 3) (1042 + 12 * i) from (c60_0.1 _ _ (by omega))]
            refine q_lstore_n hF (ls' := [(2, qL (L (m + 3) (1042 + 12 * i))), (0, .ref m), (1, qI (i : Int))]) rfl (by decide) rfl dX8_claim_72 ?_
            refine q_aload_n hF 1 rfl rfl dX8_claim_73 ?_
            refine q_iload_n hF 2 rfl rfl dX8_claim_74 ?_
            refine q_iconst hF dX8_claim_75 ?_
            refine q_callV (kc := 0) (ks := 0) (mc' := 0) (ms' := 0) (h' := 3) (st := []) hF vl_RX8_365 rfl [qI (i : Int), qI 0] rfl rfl hS.t0 (by decide) (Nat.le_of_ble_eq_true rfl) dX8_claim_76 ?_
            refine mX8_interestOf (i := i) (l := l) hS (by rw [e3]; exact hv) (by have := hv.many; have := hv.lands; omega) (by rw [e3]; exact hva) (by rw [e3]; omega) (by rw [e3]; omega) (by rw [e3]; omega) (by omega) ?_
            rw [show g_interest (LR (m + 3)) i 0 = g_interest (L (m + 3)) i 0 from by rw [e3]]
            refine q_lstore hF (ls' := [(4, qL (g_interest (L (m + 3)) i 0)), (2, qL (L (m + 3) (1042 + 12 * i))), (0, .ref m), (1, qI (i : Int))]) (by decide) rfl dX8_claim_79 ?_
            refine q_aload_n hF 2 rfl rfl dX8_claim_81 ?_
            refine q_getA hF fl_RX8_20 rfl hS.t0 hS.p9 dX8_claim_82 ?_
            refine q_aload_n hF 2 rfl rfl dX8_claim_85 ?_
            refine q_getA hF fl_RX8_20 rfl hS.t0 hS.p9 dX8_claim_86 ?_
            refine q_iload_n hF 3 rfl rfl dX8_claim_89 ?_
            refine q_bipush hF (n := 8) rfl dX8_claim_90 ?_
            refine q_callS (kc := 0) (ks := 0) (mc' := 0) (ms' := 0) (h' := 1) (st := [.ref (m + 3)]) hF sl_RX8_268 rfl [.ref (m + 3), qI (i : Int), qI 8] rfl rfl (by decide) (Nat.le_of_ble_eq_true rfl) dX8_claim_92 ?_
            refine mX8_of (j := (1047 + 12 * i)) hS.t3 (by omega) (by have := hv.many; have := hv.lands; omega) ?_
            rw [show LR (m + 3) (1047 + 12 * i) = (l : Int) from ((c60_0.1 _ _ (by omega)).trans hl)]
            refine q_l2i hF dX8_claim_95 ?_
            refine q_bipush hF (n := 11) rfl dX8_claim_96 ?_
            refine q_callS (kc := 0) (ks := 0) (mc' := 0) (ms' := 0) (h' := 0) (st := [.ref (m + 3)]) hF sl_RX8_176 rfl [qI ((l : Int)), qI 11] rfl rfl (by decide) (Nat.le_of_ble_eq_true rfl) dX8_claim_98 ?_
            refine mX8_landAt ?_
            refine q_dup2 hF rfl rfl dX8_claim_101 ?_
            refine q_laloadv hF (z := L (m + 3) (35 + 13 * l)) (n := 1243) (35 + 13 * l) hS.t3 (by omega) (by omega) (by decide) (c60_0.1 _ _ (by omega)) dX8_claim_102 ?_
            refine q_lload hF 0 rfl dX8_claim_103 ?_
            refine q_ladd hF dX8_claim_105 ?_
            refine q_lastorev hF (n := 1243) (35 + 13 * l) hS.t3 (q_Ale hSA (by omega)) (by omega) (by omega) (by decide) dX8_claim_106 ?_
            refine q_aload_n hF 2 rfl rfl dX8_claim_107 ?_
            refine q_getA hF fl_RX8_20 rfl hS.t0 hS.p9 dX8_claim_108 ?_
            refine q_bipush hF (n := 23) rfl dX8_claim_111 ?_
            refine q_dup2 hF rfl rfl dX8_claim_113 ?_
            refine q_laloadv hF (z := L (m + 3) 23) (n := 1243) 23 hS.t3 rfl (by decide) (by decide) ((u2_k _ _ (by omega)).trans (c60_0.1 _ _ (by omega))) dX8_claim_114 ?_
            refine q_lload_n hF 1 rfl rfl dX8_claim_115 ?_
            refine q_ladd hF dX8_claim_116 ?_
            refine q_lastorev hF (n := 1243) 23 hS.t3 (q_Ale hSA (by omega)) rfl (by decide) (by decide) dX8_claim_117 ?_
            refine q_aload_n hF 2 rfl rfl dX8_claim_118 ?_
            refine q_getA hF fl_RX8_20 rfl hS.t0 hS.p9 dX8_claim_119 ?_
            refine q_iload_n hF 3 rfl rfl dX8_claim_122 ?_
            refine q_iconst hF dX8_claim_123 ?_
            refine q_lconst hF (z := 0) rfl dX8_claim_124 ?_
            refine q_callS (kc := 0) (ks := 0) (mc' := 0) (ms' := 0) (h' := 1) (st := []) hF sl_RX8_299 rfl [.ref (m + 3), qI (i : Int), qI 3, qL 0] rfl rfl (by decide) (Nat.le_of_ble_eq_true rfl) dX8_claim_125 ?_
            refine mX8_sets (j := (1042 + 12 * i)) hS.t3 (q_Ale hSA (by omega)) (by omega) (by have := hv.many; have := hv.lands; omega) ?_
            refine q_aload_n hF 2 rfl rfl dX8_claim_128 ?_
            refine q_getA hF fl_RX8_20 rfl hS.t0 hS.p9 dX8_claim_129 ?_
            refine q_iload_n hF 3 rfl rfl dX8_claim_132 ?_
            refine q_iconst hF dX8_claim_133 ?_
            refine q_ldc2 hF (n := 3) (q_mem 1273 (by decide +kernel) rfl) dX8_claim_134 ?_
            refine q_callS (kc := 0) (ks := 0) (mc' := 0) (ms' := 0) (h' := 1) (st := []) hF sl_RX8_299 rfl [.ref (m + 3), qI (i : Int), qI 4, qL 3] rfl rfl (by decide) (Nat.le_of_ble_eq_true rfl) dX8_claim_137 ?_
            refine mX8_sets (j := (1043 + 12 * i)) hS.t3 (q_Ale hSA (by omega)) (by omega) (by have := hv.many; have := hv.lands; omega) ?_
            refine q_lload_n hF 1 rfl rfl dX8_claim_140 ?_
            refine q_lload hF 0 rfl dX8_claim_141 ?_
            refine q_ladd hF dX8_claim_143 ?_
            refine q_lreturn hF rfl dX8_claim_144 ?_
            have e3 : LR (m + 3) = L (m + 3) := funext fun k => c60_0.1 _ k (by omega)
            have q := k0 LR l hl hl2 (by omega) c60_0
            rw [show u2 (u2 (u2 (u2 LR (m + 3) (35 + 13 * l) ((L (m + 3) (35 + 13 * l)) + (g_interest (L (m + 3)) i 0))) (m + 3) 23 ((L (m + 3) 23) + (L (m + 3) (1042 + 12 * i)))) (m + 3) (1042 + 12 * i) 0) (m + 3) (1043 + 12 * i) 3 = q_row LR (m + 3) (g_oclaim (L (m + 3)) i l) from by rw [q_row_u1 LR, q_row_u, q_row_u, q_row_u, e3]; rfl]
            exact q
          · exact absurd c54 (by decide)
        · refine q_iconst hF dX8_claim_44 ?_
          refine q_goto hF dX8_claim_45 ?_
          refine q_iconst hF dX8_claim_49 ?_
          refine q_iconst hF dX8_claim_50 ?_
          refine q_callV (kc := 0) (ks := 0) (mc' := 0) (ms' := 0) (h' := 0) (st := []) hF vl_RX8_251 rfl [qI 1, qI 2, qI 2] rfl rfl hS.t0 (by decide) (Nat.le_of_ble_eq_true rfl) dX8_claim_51 ?_
          refine mX8_bad1 (j := 2) hS hSA (u2_s _ _ _ _) (by omega) rfl (by decide) ?_
          rw [show (u2 I m 0 0) (m + 1) 2 = I (m + 1) 2 from (u2_k _ _ (by decide))]
          refine q_ifeq hF (by decide) dX8_claim_54 (fun c54 => ?_) (fun c54 => ?_)
          · exact absurd c54 (by decide)
          · refine q_lconst hF (z := 0) rfl dX8_claim_57 ?_
            refine q_lreturn hF rfl dX8_claim_58 ?_
            exact k2 (by omega)
  · omega
set_option maxRecDepth 100000 in
theorem mX8_pass0 {G : q_G} {sz : Nat} {T : q_T} {I L : q_I} {P : q_P} {Q : q_Q} {m : Nat} {a : Int}  (hS : q_SM T P m) (hSA : q_A G m) (hv : g_V0 (L (m + 3))) (ha : -2147483648 ≤ a ∧ a < 2147483648) (hn : ¬ (0 ≤ a ∧ a ≤ L (m + 3) 1 - 1)) (k1 : Q (.inl (some (qI 0))) sz T (u2 (u2 (u2 I m 0 0) m 0 1) (m + 1) 0 ((I (m + 1) 0) + 1)) L P) : qC G 3 0 0 YX8_pass [.ref m, qI a] sz T I L P Q := by
  refine qC_of (by decide +kernel) rfl rfl (Nat.le_of_ble_eq_true rfl) (fun F hF _ _ => ?_)
  have hm12 := hv.many
  have hl5 := hv.lands
  refine q_aload_n hF 0 rfl rfl dX8_pass_0 ?_
  refine q_iconst hF dX8_pass_1 ?_
  refine q_putI hF fl_RX8_52 hS.t0 hSA dX8_pass_2 ?_
  refine q_aload_n hF 0 rfl rfl dX8_pass_5 ?_
  refine q_aload_n hF 0 rfl rfl dX8_pass_6 ?_
  refine q_iload_n hF 1 rfl rfl dX8_pass_7 ?_
  refine q_callV (kc := 0) (ks := 0) (mc' := 0) (ms' := 0) (h' := 1) (st := [.ref m]) hF vl_RX8_340 rfl [qI a] rfl rfl hS.t0 (by decide) (Nat.le_of_ble_eq_true rfl) dX8_pass_8 ?_
  refine mX8_isAccount hS hv ha ?_
  refine q_ifne_b hF dX8_pass_11 (fun c11 => ?_) (fun c11 => ?_)
  · omega
  · refine q_iconst hF dX8_pass_14 ?_
    refine q_goto hF dX8_pass_15 ?_
    refine q_iconst hF dX8_pass_19 ?_
    refine q_iconst hF dX8_pass_20 ?_
    refine q_callV (kc := 0) (ks := 0) (mc' := 0) (ms' := 0) (h' := 0) (st := []) hF vl_RX8_251 rfl [qI 1, qI 1, qI 0] rfl rfl hS.t0 (by decide) (Nat.le_of_ble_eq_true rfl) dX8_pass_21 ?_
    refine mX8_bad1 (j := 0) hS hSA (u2_s _ _ _ _) (by omega) rfl (by decide) ?_
    rw [show (u2 I m 0 0) (m + 1) 0 = I (m + 1) 0 from (u2_a _ _ (by omega))]
    refine q_ifeq hF (by decide) dX8_pass_24 (fun c24 => ?_) (fun c24 => ?_)
    · exact absurd c24 (by decide)
    · refine q_iconst hF dX8_pass_27 ?_
      refine q_ireturn hF rfl dX8_pass_28 ?_
      exact k1
def g_opass (r : Nat → Int) (i l : Nat) : Nat → Int := g_up (g_up r (1047 + 12 * i) (l : Int)) (36 + 13 * l) ((r (36 + 13 * l)) + (r (1042 + 12 * i)))

set_option maxRecDepth 100000 in
theorem mX8_pass {G : q_G} {sz : Nat} {T : q_T} {I L : q_I} {P : q_P} {Q : q_Q} {m : Nat} {i bk : Nat} {bd : Int} (hS : q_SM T P m) (hSA : q_A G m) (hv : g_V0 (L (m + 3))) (hy : (i : Int) < L (m + 3) 1) (hva : g_VA (L (m + 3)) i bd) (hbd : bd ≤ 7000) (hb : I m 13 = (bk : Int)) (hbk : bk ≤ 8) (hz : q_Z0 L m) (k2 : ¬ (L (m + 3) (1043 + 12 * i) = 2 ∧ g_bel (L (m + 3)) i ≠ -1 ∧ g_bel (L (m + 3)) i ≠ L (m + 3) (1047 + 12 * i)) → Q (.inl (some (qI 0))) sz T (u2 (u2 (u2 I m 0 0) m 0 2) (m + 1) 2 ((I (m + 1) 2) + 1)) L P) (k0 : ∀ L' (l : Nat), g_bel (L (m + 3)) i = (l : Int) → (L (m + 3) (1043 + 12 * i) = 2 ∧ g_bel (L (m + 3)) i ≠ -1 ∧ g_bel (L (m + 3)) i ≠ L (m + 3) (1047 + 12 * i)) → g_Rm L L' m bk → Q (.inl (some (qI (l : Int)))) sz T (u2 (u2 I m 0 0) m 13 (g_nb bk : Int)) (q_row L' (m + 3) (g_opass (L (m + 3)) i l)) P) : qC G 3 0 0 YX8_pass [.ref m, qI (i : Int)] sz T I L P Q := by
  refine qC_of (by decide +kernel) rfl rfl (Nat.le_of_ble_eq_true rfl) (fun F hF _ _ => ?_)
  have hm12 := hv.many
  have hl5 := hv.lands
  have hbr := g_bel_r hv hva
  have f8 := hva.holder
  have f9 := hva.state
  refine q_aload_n hF 0 rfl rfl dX8_pass_0 ?_
  refine q_iconst hF dX8_pass_1 ?_
  refine q_putI hF fl_RX8_52 hS.t0 hSA dX8_pass_2 ?_
  refine q_aload_n hF 0 rfl rfl dX8_pass_5 ?_
  refine q_aload_n hF 0 rfl rfl dX8_pass_6 ?_
  refine q_iload_n hF 1 rfl rfl dX8_pass_7 ?_
  refine q_callV (kc := 0) (ks := 0) (mc' := 0) (ms' := 0) (h' := 1) (st := [.ref m]) hF vl_RX8_340 rfl [qI (i : Int)] rfl rfl hS.t0 (by decide) (Nat.le_of_ble_eq_true rfl) dX8_pass_8 ?_
  refine mX8_isAccount hS hv (by omega) ?_
  refine q_ifne_b hF dX8_pass_11 (fun c11 => ?_) (fun c11 => ?_)
  · refine q_iconst hF dX8_pass_18 ?_
    refine q_iconst hF dX8_pass_19 ?_
    refine q_iconst hF dX8_pass_20 ?_
    refine q_callV (kc := 0) (ks := 0) (mc' := 0) (ms' := 0) (h' := 0) (st := []) hF vl_RX8_251 rfl [qI 0, qI 1, qI 0] rfl rfl hS.t0 (by decide) (Nat.le_of_ble_eq_true rfl) dX8_pass_21 ?_
    refine mX8_bad0 hS hSA (u2_s _ _ _ _) ?_
    refine q_ifeq hF (by decide) dX8_pass_24 (fun c24 => ?_) (fun c24 => ?_)
    · refine q_aload_n hF 0 rfl rfl dX8_pass_29 ?_
      refine q_getA hF fl_RX8_20 rfl hS.t0 hS.p9 dX8_pass_30 ?_
      refine q_iload_n hF 1 rfl rfl dX8_pass_33 ?_
      refine q_callS (kc := 0) (ks := 0) (mc' := 0) (ms' := 0) (h' := 2) (st := []) hF sl_RX8_312 rfl [.ref (m + 3), qI (i : Int)] rfl rfl (by decide) (Nat.le_of_ble_eq_true rfl) dX8_pass_34 ?_
      refine mX8_belongs (i := i) hS.t3 (by have := hv.many; have := hv.lands; omega) hv hva (by omega) ?_
      refine q_istore_n hF (ls' := [(2, qI (g_bel (L (m + 3)) i)), (0, .ref m), (1, qI (i : Int))]) rfl (by decide) rfl dX8_pass_37 ?_
      refine q_aload_n hF 1 rfl rfl dX8_pass_38 ?_
      refine q_aload_n hF 1 rfl rfl dX8_pass_39 ?_
      refine q_getA hF fl_RX8_20 rfl hS.t0 hS.p9 dX8_pass_40 ?_
      refine q_iload_n hF 2 rfl rfl dX8_pass_43 ?_
      refine q_iconst hF dX8_pass_44 ?_
      refine q_callS (kc := 0) (ks := 0) (mc' := 0) (ms' := 0) (h' := 1) (st := [.ref m]) hF sl_RX8_268 rfl [.ref (m + 3), qI (i : Int), qI 4] rfl rfl (by decide) (Nat.le_of_ble_eq_true rfl) dX8_pass_45 ?_
      refine mX8_of (j := (1043 + 12 * i)) hS.t3 (by omega) (by have := hv.many; have := hv.lands; omega) ?_
      refine q_ldc2 hF (n := 2) (q_mem 1631 (by decide +kernel) rfl) dX8_pass_48 ?_
      refine q_cmpne hF (by have := hv.many; have := hv.lands; have := hv.month; have := hva.cents; have := hva.state; have := hva.since; have := hva.addr; have := hva.holder; have := hva.nl; have := hva.hat; omega) (by decide) dX8_pass_51 dX8_pass_52 (fun c52 => ?_) (fun c52 => ?_)
      · refine q_iconst hF dX8_pass_76 ?_
        refine q_goto hF dX8_pass_77 ?_
        refine q_iconst hF dX8_pass_81 ?_
        refine q_iconst hF dX8_pass_82 ?_
        refine q_callV (kc := 0) (ks := 0) (mc' := 0) (ms' := 0) (h' := 0) (st := []) hF vl_RX8_251 rfl [qI 1, qI 2, qI 2] rfl rfl hS.t0 (by decide) (Nat.le_of_ble_eq_true rfl) dX8_pass_83 ?_
        refine mX8_bad1 (j := 2) hS hSA (u2_s _ _ _ _) (by omega) rfl (by decide) ?_
        rw [show (u2 I m 0 0) (m + 1) 2 = I (m + 1) 2 from (u2_k _ _ (by decide))]
        refine q_ifeq hF (by decide) dX8_pass_86 (fun c86 => ?_) (fun c86 => ?_)
        · exact absurd c86 (by decide)
        · refine q_iconst hF dX8_pass_89 ?_
          refine q_ireturn hF rfl dX8_pass_90 ?_
          exact k2 (by omega)
      · refine q_iload_n hF 0 rfl rfl dX8_pass_55 ?_
        refine q_iconst hF dX8_pass_56 ?_
        refine q_icmpeq hF (by have := hv.many; have := hv.lands; have := hv.month; have := hva.cents; have := hva.state; have := hva.since; have := hva.addr; have := hva.holder; have := hva.nl; have := hva.hat; omega) (by decide) dX8_pass_57 (fun c57 => ?_) (fun c57 => ?_)
        · refine q_iconst hF dX8_pass_76 ?_
          refine q_goto hF dX8_pass_77 ?_
          refine q_iconst hF dX8_pass_81 ?_
          refine q_iconst hF dX8_pass_82 ?_
          refine q_callV (kc := 0) (ks := 0) (mc' := 0) (ms' := 0) (h' := 0) (st := []) hF vl_RX8_251 rfl [qI 1, qI 2, qI 2] rfl rfl hS.t0 (by decide) (Nat.le_of_ble_eq_true rfl) dX8_pass_83 ?_
          refine mX8_bad1 (j := 2) hS hSA (u2_s _ _ _ _) (by omega) rfl (by decide) ?_
          rw [show (u2 I m 0 0) (m + 1) 2 = I (m + 1) 2 from (u2_k _ _ (by decide))]
          refine q_ifeq hF (by decide) dX8_pass_86 (fun c86 => ?_) (fun c86 => ?_)
          · exact absurd c86 (by decide)
          · refine q_iconst hF dX8_pass_89 ?_
            refine q_ireturn hF rfl dX8_pass_90 ?_
            exact k2 (by omega)
        · refine q_iload_n hF 0 rfl rfl dX8_pass_60 ?_
          refine q_i2l hF (by have := hv.many; have := hv.lands; have := hv.month; have := hva.cents; have := hva.state; have := hva.since; have := hva.addr; have := hva.holder; have := hva.nl; have := hva.hat; omega) dX8_pass_61 ?_
          refine q_aload_n hF 1 rfl rfl dX8_pass_62 ?_
          refine q_getA hF fl_RX8_20 rfl hS.t0 hS.p9 dX8_pass_63 ?_
          refine q_iload_n hF 2 rfl rfl dX8_pass_66 ?_
          refine q_bipush hF (n := 8) rfl dX8_pass_67 ?_
          refine q_callS (kc := 0) (ks := 0) (mc' := 0) (ms' := 0) (h' := 1) (st := [qL (g_bel (L (m + 3)) i), .ref m]) hF sl_RX8_268 rfl [.ref (m + 3), qI (i : Int), qI 8] rfl rfl (by decide) (Nat.le_of_ble_eq_true rfl) dX8_pass_69 ?_
          refine mX8_of (j := (1047 + 12 * i)) hS.t3 (by omega) (by have := hv.many; have := hv.lands; omega) ?_
          refine q_cmpne hF (by have := hv.many; have := hv.lands; have := hv.month; have := hva.cents; have := hva.state; have := hva.since; have := hva.addr; have := hva.holder; have := hva.nl; have := hva.hat; omega) (by have := hv.many; have := hv.lands; have := hv.month; have := hva.cents; have := hva.state; have := hva.since; have := hva.addr; have := hva.holder; have := hva.nl; have := hva.hat; omega) dX8_pass_72 dX8_pass_73 (fun c73 => ?_) (fun c73 => ?_)
          · refine q_iconst hF dX8_pass_80 ?_
            refine q_iconst hF dX8_pass_81 ?_
            refine q_iconst hF dX8_pass_82 ?_
            refine q_callV (kc := 0) (ks := 0) (mc' := 0) (ms' := 0) (h' := 0) (st := []) hF vl_RX8_251 rfl [qI 0, qI 2, qI 2] rfl rfl hS.t0 (by decide) (Nat.le_of_ble_eq_true rfl) dX8_pass_83 ?_
            refine mX8_bad0 hS hSA (u2_s _ _ _ _) ?_
            refine q_ifeq hF (by decide) dX8_pass_86 (fun c86 => ?_) (fun c86 => ?_)
            · have hb7 := g_bel_tk hv hva (by omega)
              obtain ⟨l, hl⟩ : ∃ l : Nat, g_bel (L (m + 3)) i = (l : Int) := ⟨_, (Int.toNat_of_nonneg hb7.1.1).symm⟩
              rw [hl]
              refine q_aload_n hF 1 rfl rfl dX8_pass_91 ?_
              refine q_callV (kc := 0) (ks := 0) (mc' := 0) (ms' := 0) (h' := 2) (st := []) hF vl_RX8_258 rfl [] rfl rfl hS.t0 (by decide) (Nat.le_of_ble_eq_true rfl) dX8_pass_92 ?_
              refine mX8_remembers (bk := bk) hS hSA (((u2_k _ _ (by decide)).trans hb)) (by omega) hz (fun LR c92_0 => ?_)
              refine q_aload_n hF 1 rfl rfl dX8_pass_95 ?_
              refine q_getA hF fl_RX8_20 rfl hS.t0 hS.p9 dX8_pass_96 ?_
              refine q_iload_n hF 2 rfl rfl dX8_pass_99 ?_
              refine q_bipush hF (n := 8) rfl dX8_pass_100 ?_
              refine q_iload_n hF 0 rfl rfl dX8_pass_102 ?_
              refine q_i2l hF (by omega) dX8_pass_103 ?_
              refine q_callS (kc := 0) (ks := 0) (mc' := 0) (ms' := 0) (h' := 1) (st := []) hF sl_RX8_299 rfl [.ref (m + 3), qI (i : Int), qI 8, qL (l : Int)] rfl rfl (by decide) (Nat.le_of_ble_eq_true rfl) dX8_pass_104 ?_
              refine mX8_sets (j := (1047 + 12 * i)) hS.t3 (q_Ale hSA (by omega)) (by omega) (by have := hv.many; have := hv.lands; omega) ?_
              refine q_aload_n hF 1 rfl rfl dX8_pass_107 ?_
              refine q_getA hF fl_RX8_20 rfl hS.t0 hS.p9 dX8_pass_108 ?_
              refine q_iload_n hF 0 rfl rfl dX8_pass_111 ?_
              refine q_bipush hF (n := 12) rfl dX8_pass_112 ?_
              refine q_callS (kc := 0) (ks := 0) (mc' := 0) (ms' := 0) (h' := 0) (st := [.ref (m + 3)]) hF sl_RX8_176 rfl [qI (l : Int), qI 12] rfl rfl (by decide) (Nat.le_of_ble_eq_true rfl) dX8_pass_114 ?_
              refine mX8_landAt ?_
              refine q_dup2 hF rfl rfl dX8_pass_117 ?_
              refine q_laloadv hF (z := L (m + 3) (36 + 13 * l)) (n := 1243) (36 + 13 * l) hS.t3 (by omega) (by omega) (by decide) ((u2_k _ _ (by omega)).trans (c92_0.1 _ _ (by omega))) dX8_pass_118 ?_
              refine q_aload_n hF 1 rfl rfl dX8_pass_119 ?_
              refine q_getA hF fl_RX8_20 rfl hS.t0 hS.p9 dX8_pass_120 ?_
              refine q_iload_n hF 2 rfl rfl dX8_pass_123 ?_
              refine q_iconst hF dX8_pass_124 ?_
              refine q_callS (kc := 0) (ks := 0) (mc' := 0) (ms' := 0) (h' := 1) (st := [qL (L (m + 3) (36 + 13 * l)), qI ((24 + (13 * (l : Int))) + 12), .ref (m + 3)]) hF sl_RX8_268 rfl [.ref (m + 3), qI (i : Int), qI 3] rfl rfl (by decide) (Nat.le_of_ble_eq_true rfl) dX8_pass_125 ?_
              refine mX8_of (j := (1042 + 12 * i)) hS.t3 (by omega) (by have := hv.many; have := hv.lands; omega) ?_
              rw [show (u2 LR (m + 3) (1047 + 12 * i) (l : Int)) (m + 3) (1042 + 12 * i) = L (m + 3) (1042 + 12 * i) from ((u2_k _ _ (by omega)).trans (c92_0.1 _ _ (by omega)))]
              refine q_ladd hF dX8_pass_128 ?_
              refine q_lastorev hF (n := 1243) (36 + 13 * l) hS.t3 (q_Ale hSA (by omega)) (by omega) (by omega) (by decide) dX8_pass_129 ?_
              refine q_iload_n hF 0 rfl rfl dX8_pass_130 ?_
              refine q_ireturn hF rfl dX8_pass_131 ?_
              have e3 : LR (m + 3) = L (m + 3) := funext fun k => c92_0.1 _ k (by omega)
              have q := k0 LR l hl (by omega) c92_0
              rw [show u2 (u2 LR (m + 3) (1047 + 12 * i) (l : Int)) (m + 3) (36 + 13 * l) ((L (m + 3) (36 + 13 * l)) + (L (m + 3) (1042 + 12 * i))) = q_row LR (m + 3) (g_opass (L (m + 3)) i l) from by rw [q_row_u1 LR, q_row_u, e3]; rfl]
              exact q
            · exact absurd c86 (by decide)
          · refine q_iconst hF dX8_pass_76 ?_
            refine q_goto hF dX8_pass_77 ?_
            refine q_iconst hF dX8_pass_81 ?_
            refine q_iconst hF dX8_pass_82 ?_
            refine q_callV (kc := 0) (ks := 0) (mc' := 0) (ms' := 0) (h' := 0) (st := []) hF vl_RX8_251 rfl [qI 1, qI 2, qI 2] rfl rfl hS.t0 (by decide) (Nat.le_of_ble_eq_true rfl) dX8_pass_83 ?_
            refine mX8_bad1 (j := 2) hS hSA (u2_s _ _ _ _) (by omega) rfl (by decide) ?_
            rw [show (u2 I m 0 0) (m + 1) 2 = I (m + 1) 2 from (u2_k _ _ (by decide))]
            refine q_ifeq hF (by decide) dX8_pass_86 (fun c86 => ?_) (fun c86 => ?_)
            · exact absurd c86 (by decide)
            · refine q_iconst hF dX8_pass_89 ?_
              refine q_ireturn hF rfl dX8_pass_90 ?_
              exact k2 (by omega)
    · exact absurd c24 (by decide)
  · omega
