/-! the reference: calls that change it -/
set_option maxRecDepth 100000 in
theorem mX8_contact0 {G : q_G} {sz : Nat} {T : q_T} {I L : q_I} {P : q_P} {Q : q_Q} {m : Nat} {a : Int}  (hS : q_SM T P m) (hSA : q_A G m) (hv : g_V0 (L (m + 3))) (ha : -2147483648 ≤ a ∧ a < 2147483648) (hn : ¬ (0 ≤ a ∧ a ≤ L (m + 3) 1 - 1)) (k1 : Q (.inl (some (qI 0))) sz T (u2 (u2 (u2 I m 0 0) m 0 1) (m + 1) 0 ((I (m + 1) 0) + 1)) L P) : qC G 4 0 0 YX8_contact [.ref m, qI a] sz T I L P Q := by
  refine qC_of (by decide +kernel) rfl rfl (Nat.le_of_ble_eq_true rfl) (fun F hF _ _ => ?_)
  have hm12 := hv.many
  have hl5 := hv.lands
  refine q_aload_n hF 0 rfl rfl dX8_contact_0 ?_
  refine q_iconst hF dX8_contact_1 ?_
  refine q_putI hF fl_RX8_52 hS.t0 hSA dX8_contact_2 ?_
  refine q_aload_n hF 0 rfl rfl dX8_contact_5 ?_
  refine q_aload_n hF 0 rfl rfl dX8_contact_6 ?_
  refine q_iload_n hF 1 rfl rfl dX8_contact_7 ?_
  refine q_callV (kc := 0) (ks := 0) (mc' := 0) (ms' := 0) (h' := 1) (st := [.ref m]) hF vl_RX8_340 rfl [qI a] rfl rfl hS.t0 (by decide) (Nat.le_of_ble_eq_true rfl) dX8_contact_8 ?_
  refine mX8_isAccount hS hv ha ?_
  refine q_ifne_b hF dX8_contact_11 (fun c11 => ?_) (fun c11 => ?_)
  · omega
  · refine q_iconst hF dX8_contact_14 ?_
    refine q_goto hF dX8_contact_15 ?_
    refine q_iconst hF dX8_contact_19 ?_
    refine q_iconst hF dX8_contact_20 ?_
    refine q_callV (kc := 0) (ks := 0) (mc' := 0) (ms' := 0) (h' := 0) (st := []) hF vl_RX8_251 rfl [qI 1, qI 1, qI 0] rfl rfl hS.t0 (by decide) (Nat.le_of_ble_eq_true rfl) dX8_contact_21 ?_
    refine mX8_bad1 (j := 0) hS hSA (u2_s _ _ _ _) (by omega) rfl (by decide) ?_
    rw [show (u2 I m 0 0) (m + 1) 0 = I (m + 1) 0 from (u2_a _ _ (by omega))]
    refine q_ifne hF (by decide) dX8_contact_24 (fun c24 => ?_) (fun c24 => ?_)
    · refine q_iconst hF dX8_contact_49 ?_
      refine q_ireturn hF rfl dX8_contact_50 ?_
      exact k1
    · exact absurd c24 (by decide)
def g_ocontact (r : Nat → Int) (i : Nat) : Nat → Int := g_up (g_up r (1045 + 12 * i) 0) (1043 + 12 * i) 0

set_option maxRecDepth 100000 in
theorem mX8_contact {G : q_G} {sz : Nat} {T : q_T} {I L : q_I} {P : q_P} {Q : q_Q} {m : Nat} {i bk : Nat} {bd : Int} (hS : q_SM T P m) (hSA : q_A G m) (hv : g_V0 (L (m + 3))) (hy : (i : Int) < L (m + 3) 1) (hva : g_VA (L (m + 3)) i bd) (hb : I m 13 = (bk : Int)) (hbk : bk ≤ 8) (hz : q_Z0 L m) (k2 : ¬ (L (m + 3) (1043 + 12 * i) = 0 ∨ L (m + 3) (1043 + 12 * i) = 1) → Q (.inl (some (qI 0))) sz T (u2 (u2 (u2 I m 0 0) m 0 2) (m + 1) 2 ((I (m + 1) 2) + 1)) L P) (k0 : ∀ L', (L (m + 3) (1043 + 12 * i) = 0 ∨ L (m + 3) (1043 + 12 * i) = 1) → g_Rm L L' m bk → Q (.inl (some (qI (L (m + 3) (1045 + 12 * i))))) sz T (u2 (u2 I m 0 0) m 13 (g_nb bk : Int)) (q_row L' (m + 3) (g_ocontact (L (m + 3)) i)) P) : qC G 4 0 0 YX8_contact [.ref m, qI (i : Int)] sz T I L P Q := by
  refine qC_of (by decide +kernel) rfl rfl (Nat.le_of_ble_eq_true rfl) (fun F hF _ _ => ?_)
  have hm12 := hv.many
  have hl5 := hv.lands
  refine q_aload_n hF 0 rfl rfl dX8_contact_0 ?_
  refine q_iconst hF dX8_contact_1 ?_
  refine q_putI hF fl_RX8_52 hS.t0 hSA dX8_contact_2 ?_
  refine q_aload_n hF 0 rfl rfl dX8_contact_5 ?_
  refine q_aload_n hF 0 rfl rfl dX8_contact_6 ?_
  refine q_iload_n hF 1 rfl rfl dX8_contact_7 ?_
  refine q_callV (kc := 0) (ks := 0) (mc' := 0) (ms' := 0) (h' := 1) (st := [.ref m]) hF vl_RX8_340 rfl [qI (i : Int)] rfl rfl hS.t0 (by decide) (Nat.le_of_ble_eq_true rfl) dX8_contact_8 ?_
  refine mX8_isAccount hS hv (by omega) ?_
  refine q_ifne_b hF dX8_contact_11 (fun c11 => ?_) (fun c11 => ?_)
  · refine q_iconst hF dX8_contact_18 ?_
    refine q_iconst hF dX8_contact_19 ?_
    refine q_iconst hF dX8_contact_20 ?_
    refine q_callV (kc := 0) (ks := 0) (mc' := 0) (ms' := 0) (h' := 0) (st := []) hF vl_RX8_251 rfl [qI 0, qI 1, qI 0] rfl rfl hS.t0 (by decide) (Nat.le_of_ble_eq_true rfl) dX8_contact_21 ?_
    refine mX8_bad0 hS hSA (u2_s _ _ _ _) ?_
    refine q_ifne hF (by decide) dX8_contact_24 (fun c24 => ?_) (fun c24 => ?_)
    · exact absurd c24 (by decide)
    · refine q_aload_n hF 0 rfl rfl dX8_contact_27 ?_
      refine q_aload_n hF 0 rfl rfl dX8_contact_28 ?_
      refine q_iload_n hF 1 rfl rfl dX8_contact_29 ?_
      refine q_callV (kc := 0) (ks := 0) (mc' := 0) (ms' := 0) (h' := 3) (st := [.ref m]) hF vl_RX8_348 rfl [qI (i : Int)] rfl rfl hS.t0 (by decide) (Nat.le_of_ble_eq_true rfl) dX8_contact_30 ?_
      refine mX8_isLive (i := i) hS hv (by omega) hva ?_
      refine q_ifne_b hF dX8_contact_33 (fun c33 => ?_) (fun c33 => ?_)
      · refine q_iconst hF dX8_contact_40 ?_
        refine q_iconst hF dX8_contact_41 ?_
        refine q_iconst hF dX8_contact_42 ?_
        refine q_callV (kc := 0) (ks := 0) (mc' := 0) (ms' := 0) (h' := 0) (st := []) hF vl_RX8_251 rfl [qI 0, qI 2, qI 2] rfl rfl hS.t0 (by decide) (Nat.le_of_ble_eq_true rfl) dX8_contact_43 ?_
        refine mX8_bad0 hS hSA (u2_s _ _ _ _) ?_
        refine q_ifeq hF (by decide) dX8_contact_46 (fun c46 => ?_) (fun c46 => ?_)
        · refine q_aload_n hF 0 rfl rfl dX8_contact_51 ?_
          refine q_callV (kc := 0) (ks := 0) (mc' := 0) (ms' := 0) (h' := 2) (st := []) hF vl_RX8_258 rfl [] rfl rfl hS.t0 (by decide) (Nat.le_of_ble_eq_true rfl) dX8_contact_52 ?_
          refine mX8_remembers (bk := bk) hS hSA (((u2_k _ _ (by decide)).trans hb)) (by omega) hz (fun LR c52_0 => ?_)
          refine q_aload_n hF 0 rfl rfl dX8_contact_55 ?_
          refine q_getA hF fl_RX8_20 rfl hS.t0 hS.p9 dX8_contact_56 ?_
          refine q_iload_n hF 1 rfl rfl dX8_contact_59 ?_
          refine q_bipush hF (n := 6) rfl dX8_contact_60 ?_
          refine q_callS (kc := 0) (ks := 0) (mc' := 0) (ms' := 0) (h' := 1) (st := []) hF sl_RX8_268 rfl [.ref (m + 3), qI (i : Int), qI 6] rfl rfl (by decide) (Nat.le_of_ble_eq_true rfl) dX8_contact_62 ?_
          refine mX8_of (j := (1045 + 12 * i)) hS.t3 (by omega) (by have := hv.many; have := hv.lands; omega) ?_
          rw [show LR (m + 3) (1045 + 12 * i) = L (m + 3) (1045 + 12 * i) from (c52_0.1 _ _ (by omega))]
          refine q_l2i hF dX8_contact_65 ?_
          refine q_istore_n hF (ls' := [(2, qI (L (m + 3) (1045 + 12 * i))), (0, .ref m), (1, qI (i : Int))]) rfl (by decide) rfl dX8_contact_66 ?_
          refine q_aload_n hF 1 rfl rfl dX8_contact_67 ?_
          refine q_getA hF fl_RX8_20 rfl hS.t0 hS.p9 dX8_contact_68 ?_
          refine q_iload_n hF 2 rfl rfl dX8_contact_71 ?_
          refine q_callS (kc := 0) (ks := 0) (mc' := 0) (ms' := 0) (h' := 2) (st := []) hF sl_RX8_351 rfl [.ref (m + 3), qI (i : Int)] rfl rfl (by decide) (Nat.le_of_ble_eq_true rfl) dX8_contact_72 ?_
          refine mX8_touches (i := i) hS.t3 (q_Ale hSA (by omega)) (by have := hv.many; have := hv.lands; omega) ?_
          refine q_iload_n hF 0 rfl rfl dX8_contact_75 ?_
          refine q_ireturn hF rfl dX8_contact_76 ?_
          have e3 : LR (m + 3) = L (m + 3) := funext fun k => c52_0.1 _ k (by omega)
          have q := k0 LR (by omega) c52_0
          rw [show u2 (u2 LR (m + 3) (1045 + 12 * i) 0) (m + 3) (1043 + 12 * i) 0 = q_row LR (m + 3) (g_ocontact (L (m + 3)) i) from by rw [q_row_u1 LR, q_row_u, e3]; rfl]
          exact q
        · exact absurd c46 (by decide)
      · refine q_iconst hF dX8_contact_36 ?_
        refine q_goto hF dX8_contact_37 ?_
        refine q_iconst hF dX8_contact_41 ?_
        refine q_iconst hF dX8_contact_42 ?_
        refine q_callV (kc := 0) (ks := 0) (mc' := 0) (ms' := 0) (h' := 0) (st := []) hF vl_RX8_251 rfl [qI 1, qI 2, qI 2] rfl rfl hS.t0 (by decide) (Nat.le_of_ble_eq_true rfl) dX8_contact_43 ?_
        refine mX8_bad1 (j := 2) hS hSA (u2_s _ _ _ _) (by omega) rfl (by decide) ?_
        rw [show (u2 I m 0 0) (m + 1) 2 = I (m + 1) 2 from (u2_k _ _ (by decide))]
        refine q_ifeq hF (by decide) dX8_contact_46 (fun c46 => ?_) (fun c46 => ?_)
        · exact absurd c46 (by decide)
        · refine q_iconst hF dX8_contact_49 ?_
          refine q_ireturn hF rfl dX8_contact_50 ?_
          exact k2 (by omega)
  · omega
set_option maxRecDepth 100000 in
theorem mX8_close0 {G : q_G} {sz : Nat} {T : q_T} {I L : q_I} {P : q_P} {Q : q_Q} {m : Nat} {a : Int}  (hS : q_SM T P m) (hSA : q_A G m) (hv : g_V0 (L (m + 3))) (ha : -2147483648 ≤ a ∧ a < 2147483648) (hn : ¬ (0 ≤ a ∧ a ≤ L (m + 3) 1 - 1)) (k1 : Q (.inl (some (qI 0))) sz T (u2 (u2 (u2 I m 0 0) m 0 1) (m + 1) 0 ((I (m + 1) 0) + 1)) L P) : qC G 4 0 0 YX8_close [.ref m, qI a] sz T I L P Q := by
  refine qC_of (by decide +kernel) rfl rfl (Nat.le_of_ble_eq_true rfl) (fun F hF _ _ => ?_)
  have hm12 := hv.many
  have hl5 := hv.lands
  refine q_aload_n hF 0 rfl rfl dX8_close_0 ?_
  refine q_iconst hF dX8_close_1 ?_
  refine q_putI hF fl_RX8_52 hS.t0 hSA dX8_close_2 ?_
  refine q_aload_n hF 0 rfl rfl dX8_close_5 ?_
  refine q_aload_n hF 0 rfl rfl dX8_close_6 ?_
  refine q_iload_n hF 1 rfl rfl dX8_close_7 ?_
  refine q_callV (kc := 0) (ks := 0) (mc' := 0) (ms' := 0) (h' := 1) (st := [.ref m]) hF vl_RX8_340 rfl [qI a] rfl rfl hS.t0 (by decide) (Nat.le_of_ble_eq_true rfl) dX8_close_8 ?_
  refine mX8_isAccount hS hv ha ?_
  refine q_ifne_b hF dX8_close_11 (fun c11 => ?_) (fun c11 => ?_)
  · omega
  · refine q_iconst hF dX8_close_14 ?_
    refine q_goto hF dX8_close_15 ?_
    refine q_iconst hF dX8_close_19 ?_
    refine q_iconst hF dX8_close_20 ?_
    refine q_callV (kc := 0) (ks := 0) (mc' := 0) (ms' := 0) (h' := 0) (st := []) hF vl_RX8_251 rfl [qI 1, qI 1, qI 0] rfl rfl hS.t0 (by decide) (Nat.le_of_ble_eq_true rfl) dX8_close_21 ?_
    refine mX8_bad1 (j := 0) hS hSA (u2_s _ _ _ _) (by omega) rfl (by decide) ?_
    rw [show (u2 I m 0 0) (m + 1) 0 = I (m + 1) 0 from (u2_a _ _ (by omega))]
    refine q_ifne hF (by decide) dX8_close_24 (fun c24 => ?_) (fun c24 => ?_)
    · refine q_iconst hF dX8_close_49 ?_
      refine q_ireturn hF rfl dX8_close_50 ?_
      exact k1
    · exact absurd c24 (by decide)
def g_oclose (r : Nat → Int) (i : Nat) : Nat → Int := g_up (g_up (g_up r 19 ((r 19) + (r (1042 + 12 * i)))) (1042 + 12 * i) 0) (1043 + 12 * i) 4

set_option maxRecDepth 100000 in
theorem mX8_close {G : q_G} {sz : Nat} {T : q_T} {I L : q_I} {P : q_P} {Q : q_Q} {m : Nat} {i bk : Nat} {bd : Int} (hS : q_SM T P m) (hSA : q_A G m) (hv : g_V0 (L (m + 3))) (hy : (i : Int) < L (m + 3) 1) (hva : g_VA (L (m + 3)) i bd) (hb : I m 13 = (bk : Int)) (hbk : bk ≤ 8) (hz : q_Z0 L m) (k2 : ¬ (L (m + 3) (1043 + 12 * i) = 0 ∨ L (m + 3) (1043 + 12 * i) = 1) → Q (.inl (some (qI 0))) sz T (u2 (u2 (u2 I m 0 0) m 0 2) (m + 1) 2 ((I (m + 1) 2) + 1)) L P) (k0 : ∀ L', (L (m + 3) (1043 + 12 * i) = 0 ∨ L (m + 3) (1043 + 12 * i) = 1) → g_Rm L L' m bk → Q (.inl (some (qI (L (m + 3) (1042 + 12 * i))))) sz T (u2 (u2 I m 0 0) m 13 (g_nb bk : Int)) (q_row L' (m + 3) (g_oclose (L (m + 3)) i)) P) : qC G 4 0 0 YX8_close [.ref m, qI (i : Int)] sz T I L P Q := by
  refine qC_of (by decide +kernel) rfl rfl (Nat.le_of_ble_eq_true rfl) (fun F hF _ _ => ?_)
  have hm12 := hv.many
  have hl5 := hv.lands
  refine q_aload_n hF 0 rfl rfl dX8_close_0 ?_
  refine q_iconst hF dX8_close_1 ?_
  refine q_putI hF fl_RX8_52 hS.t0 hSA dX8_close_2 ?_
  refine q_aload_n hF 0 rfl rfl dX8_close_5 ?_
  refine q_aload_n hF 0 rfl rfl dX8_close_6 ?_
  refine q_iload_n hF 1 rfl rfl dX8_close_7 ?_
  refine q_callV (kc := 0) (ks := 0) (mc' := 0) (ms' := 0) (h' := 1) (st := [.ref m]) hF vl_RX8_340 rfl [qI (i : Int)] rfl rfl hS.t0 (by decide) (Nat.le_of_ble_eq_true rfl) dX8_close_8 ?_
  refine mX8_isAccount hS hv (by omega) ?_
  refine q_ifne_b hF dX8_close_11 (fun c11 => ?_) (fun c11 => ?_)
  · refine q_iconst hF dX8_close_18 ?_
    refine q_iconst hF dX8_close_19 ?_
    refine q_iconst hF dX8_close_20 ?_
    refine q_callV (kc := 0) (ks := 0) (mc' := 0) (ms' := 0) (h' := 0) (st := []) hF vl_RX8_251 rfl [qI 0, qI 1, qI 0] rfl rfl hS.t0 (by decide) (Nat.le_of_ble_eq_true rfl) dX8_close_21 ?_
    refine mX8_bad0 hS hSA (u2_s _ _ _ _) ?_
    refine q_ifne hF (by decide) dX8_close_24 (fun c24 => ?_) (fun c24 => ?_)
    · exact absurd c24 (by decide)
    · refine q_aload_n hF 0 rfl rfl dX8_close_27 ?_
      refine q_aload_n hF 0 rfl rfl dX8_close_28 ?_
      refine q_iload_n hF 1 rfl rfl dX8_close_29 ?_
      refine q_callV (kc := 0) (ks := 0) (mc' := 0) (ms' := 0) (h' := 3) (st := [.ref m]) hF vl_RX8_348 rfl [qI (i : Int)] rfl rfl hS.t0 (by decide) (Nat.le_of_ble_eq_true rfl) dX8_close_30 ?_
      refine mX8_isLive (i := i) hS hv (by omega) hva ?_
      refine q_ifne_b hF dX8_close_33 (fun c33 => ?_) (fun c33 => ?_)
      · refine q_iconst hF dX8_close_40 ?_
        refine q_iconst hF dX8_close_41 ?_
        refine q_iconst hF dX8_close_42 ?_
        refine q_callV (kc := 0) (ks := 0) (mc' := 0) (ms' := 0) (h' := 0) (st := []) hF vl_RX8_251 rfl [qI 0, qI 2, qI 2] rfl rfl hS.t0 (by decide) (Nat.le_of_ble_eq_true rfl) dX8_close_43 ?_
        refine mX8_bad0 hS hSA (u2_s _ _ _ _) ?_
        refine q_ifeq hF (by decide) dX8_close_46 (fun c46 => ?_) (fun c46 => ?_)
        · refine q_aload_n hF 0 rfl rfl dX8_close_51 ?_
          refine q_callV (kc := 0) (ks := 0) (mc' := 0) (ms' := 0) (h' := 2) (st := []) hF vl_RX8_258 rfl [] rfl rfl hS.t0 (by decide) (Nat.le_of_ble_eq_true rfl) dX8_close_52 ?_
          refine mX8_remembers (bk := bk) hS hSA (((u2_k _ _ (by decide)).trans hb)) (by omega) hz (fun LR c52_0 => ?_)
          refine q_aload_n hF 0 rfl rfl dX8_close_55 ?_
          refine q_getA hF fl_RX8_20 rfl hS.t0 hS.p9 dX8_close_56 ?_
          refine q_iload_n hF 1 rfl rfl dX8_close_59 ?_
          refine q_iconst hF dX8_close_60 ?_
          refine q_callS (kc := 0) (ks := 0) (mc' := 0) (ms' := 0) (h' := 1) (st := []) hF sl_RX8_268 rfl [.ref (m + 3), qI (i : Int), qI 3] rfl rfl (by decide) (Nat.le_of_ble_eq_true rfl) dX8_close_61 ?_
          refine mX8_of (j := (1042 + 12 * i)) hS.t3 (by omega) (by have := hv.many; have := hv.lands; omega) ?_
          rw [show LR (m + 3) (1042 + 12 * i) = L (m + 3) (1042 + 12 * i) from (c52_0.1 _ _ (by omega))]
          refine q_l2i hF dX8_close_64 ?_
          refine q_istore_n hF (ls' := [(2, qI (L (m + 3) (1042 + 12 * i))), (0, .ref m), (1, qI (i : Int))]) rfl (by decide) rfl dX8_close_65 ?_
          refine q_aload_n hF 1 rfl rfl dX8_close_66 ?_
          refine q_getA hF fl_RX8_20 rfl hS.t0 hS.p9 dX8_close_67 ?_
          refine q_bipush hF (n := 19) rfl dX8_close_70 ?_
          refine q_dup2 hF rfl rfl dX8_close_72 ?_
          refine q_laloadv hF (z := L (m + 3) 19) (n := 1243) 19 hS.t3 rfl (by decide) (by decide) (c52_0.1 _ _ (by omega)) dX8_close_73 ?_
          refine q_iload_n hF 0 rfl rfl dX8_close_74 ?_
          refine q_i2l hF (by have := hv.many; have := hv.lands; have := hv.month; have := hva.cents; have := hva.state; have := hva.since; have := hva.addr; have := hva.holder; have := hva.nl; have := hva.hat; omega) dX8_close_75 ?_
          refine q_ladd hF dX8_close_76 ?_
          refine q_lastorev hF (n := 1243) 19 hS.t3 (q_Ale hSA (by omega)) rfl (by decide) (by decide) dX8_close_77 ?_
          refine q_aload_n hF 1 rfl rfl dX8_close_78 ?_
          refine q_getA hF fl_RX8_20 rfl hS.t0 hS.p9 dX8_close_79 ?_
          refine q_iload_n hF 2 rfl rfl dX8_close_82 ?_
          refine q_iconst hF dX8_close_83 ?_
          refine q_lconst hF (z := 0) rfl dX8_close_84 ?_
          refine q_callS (kc := 0) (ks := 0) (mc' := 0) (ms' := 0) (h' := 1) (st := []) hF sl_RX8_299 rfl [.ref (m + 3), qI (i : Int), qI 3, qL 0] rfl rfl (by decide) (Nat.le_of_ble_eq_true rfl) dX8_close_85 ?_
          refine mX8_sets (j := (1042 + 12 * i)) hS.t3 (q_Ale hSA (by omega)) (by omega) (by have := hv.many; have := hv.lands; omega) ?_
          refine q_aload_n hF 1 rfl rfl dX8_close_88 ?_
          refine q_getA hF fl_RX8_20 rfl hS.t0 hS.p9 dX8_close_89 ?_
          refine q_iload_n hF 2 rfl rfl dX8_close_92 ?_
          refine q_iconst hF dX8_close_93 ?_
          refine q_ldc2 hF (n := 4) (q_mem 1529 (by decide +kernel) rfl) dX8_close_94 ?_
          refine q_callS (kc := 0) (ks := 0) (mc' := 0) (ms' := 0) (h' := 1) (st := []) hF sl_RX8_299 rfl [.ref (m + 3), qI (i : Int), qI 4, qL 4] rfl rfl (by decide) (Nat.le_of_ble_eq_true rfl) dX8_close_97 ?_
          refine mX8_sets (j := (1043 + 12 * i)) hS.t3 (q_Ale hSA (by omega)) (by omega) (by have := hv.many; have := hv.lands; omega) ?_
          refine q_iload_n hF 0 rfl rfl dX8_close_100 ?_
          refine q_ireturn hF rfl dX8_close_101 ?_
          have e3 : LR (m + 3) = L (m + 3) := funext fun k => c52_0.1 _ k (by omega)
          have q := k0 LR (by omega) c52_0
          rw [show u2 (u2 (u2 LR (m + 3) 19 ((L (m + 3) 19) + (L (m + 3) (1042 + 12 * i)))) (m + 3) (1042 + 12 * i) 0) (m + 3) (1043 + 12 * i) 4 = q_row LR (m + 3) (g_oclose (L (m + 3)) i) from by rw [q_row_u1 LR, q_row_u, q_row_u, e3]; rfl]
          exact q
        · exact absurd c46 (by decide)
      · refine q_iconst hF dX8_close_36 ?_
        refine q_goto hF dX8_close_37 ?_
        refine q_iconst hF dX8_close_41 ?_
        refine q_iconst hF dX8_close_42 ?_
        refine q_callV (kc := 0) (ks := 0) (mc' := 0) (ms' := 0) (h' := 0) (st := []) hF vl_RX8_251 rfl [qI 1, qI 2, qI 2] rfl rfl hS.t0 (by decide) (Nat.le_of_ble_eq_true rfl) dX8_close_43 ?_
        refine mX8_bad1 (j := 2) hS hSA (u2_s _ _ _ _) (by omega) rfl (by decide) ?_
        rw [show (u2 I m 0 0) (m + 1) 2 = I (m + 1) 2 from (u2_k _ _ (by decide))]
        refine q_ifeq hF (by decide) dX8_close_46 (fun c46 => ?_) (fun c46 => ?_)
        · exact absurd c46 (by decide)
        · refine q_iconst hF dX8_close_49 ?_
          refine q_ireturn hF rfl dX8_close_50 ?_
          exact k2 (by omega)
  · omega
set_option maxRecDepth 100000 in
theorem mX8_deposit0 {G : q_G} {sz : Nat} {T : q_T} {I L : q_I} {P : q_P} {Q : q_Q} {m : Nat} {a : Int} {c : Int}  (hS : q_SM T P m) (hSA : q_A G m) (hv : g_V0 (L (m + 3))) (ha : -2147483648 ≤ a ∧ a < 2147483648) (hn : ¬ (0 ≤ a ∧ a ≤ L (m + 3) 1 - 1)) (k1 : Q (.inl (some (qI 0))) sz T (u2 (u2 (u2 I m 0 0) m 0 1) (m + 1) 0 ((I (m + 1) 0) + 1)) L P) : qC G 4 0 0 YX8_deposit [.ref m, qI a, qI c] sz T I L P Q := by
  refine qC_of (by decide +kernel) rfl rfl (Nat.le_of_ble_eq_true rfl) (fun F hF _ _ => ?_)
  have hm12 := hv.many
  have hl5 := hv.lands
  refine q_aload_n hF 0 rfl rfl dX8_deposit_0 ?_
  refine q_iconst hF dX8_deposit_1 ?_
  refine q_putI hF fl_RX8_52 hS.t0 hSA dX8_deposit_2 ?_
  refine q_aload_n hF 0 rfl rfl dX8_deposit_5 ?_
  refine q_aload_n hF 0 rfl rfl dX8_deposit_6 ?_
  refine q_iload_n hF 1 rfl rfl dX8_deposit_7 ?_
  refine q_callV (kc := 0) (ks := 0) (mc' := 0) (ms' := 0) (h' := 1) (st := [.ref m]) hF vl_RX8_340 rfl [qI a] rfl rfl hS.t0 (by decide) (Nat.le_of_ble_eq_true rfl) dX8_deposit_8 ?_
  refine mX8_isAccount hS hv ha ?_
  refine q_ifne_b hF dX8_deposit_11 (fun c11 => ?_) (fun c11 => ?_)
  · omega
  · refine q_iconst hF dX8_deposit_14 ?_
    refine q_goto hF dX8_deposit_15 ?_
    refine q_iconst hF dX8_deposit_19 ?_
    refine q_iconst hF dX8_deposit_20 ?_
    refine q_callV (kc := 0) (ks := 0) (mc' := 0) (ms' := 0) (h' := 0) (st := []) hF vl_RX8_251 rfl [qI 1, qI 1, qI 0] rfl rfl hS.t0 (by decide) (Nat.le_of_ble_eq_true rfl) dX8_deposit_21 ?_
    refine mX8_bad1 (j := 0) hS hSA (u2_s _ _ _ _) (by omega) rfl (by decide) ?_
    rw [show (u2 I m 0 0) (m + 1) 0 = I (m + 1) 0 from (u2_a _ _ (by omega))]
    refine q_ifne hF (by decide) dX8_deposit_24 (fun c24 => ?_) (fun c24 => ?_)
    · refine q_iconst hF dX8_deposit_94 ?_
      refine q_ireturn hF rfl dX8_deposit_95 ?_
      exact k1
    · exact absurd c24 (by decide)
def g_odeposit (r : Nat → Int) (i : Nat) (c : Int) : Nat → Int := g_up (g_up (g_up (g_up r (1045 + 12 * i) 0) (1043 + 12 * i) 0) (1042 + 12 * i) ((r (1042 + 12 * i)) + c)) 17 ((r 17) + c)

set_option maxRecDepth 100000 in
theorem mX8_deposit {G : q_G} {sz : Nat} {T : q_T} {I L : q_I} {P : q_P} {Q : q_Q} {m : Nat} {c : Int} {i bk : Nat} {bd : Int} (hS : q_SM T P m) (hSA : q_A G m) (hv : g_V0 (L (m + 3))) (hy : (i : Int) < L (m + 3) 1) (hva : g_VA (L (m + 3)) i bd) (hc : -2147483648 ≤ c ∧ c < 2147483648) (hb : I m 13 = (bk : Int)) (hbk : bk ≤ 8) (hz : q_Z0 L m) (k2 : ¬ (1 ≤ c ∧ c ≤ 1000000) → Q (.inl (some (qI 0))) sz T (u2 (u2 (u2 I m 0 0) m 0 2) (m + 1) 1 ((I (m + 1) 1) + 1)) L P) (k3 : (1 ≤ c ∧ c ≤ 1000000) → ¬ ((L (m + 3) (1043 + 12 * i) = 0 ∨ L (m + 3) (1043 + 12 * i) = 1) ∧ L (m + 3) (1042 + 12 * i) + c ≤ 100000000) → Q (.inl (some (qI 0))) sz T (u2 (u2 (u2 I m 0 0) m 0 3) (m + 1) 2 ((I (m + 1) 2) + 1)) L P) (k0 : ∀ L', (1 ≤ c ∧ c ≤ 1000000) → (L (m + 3) (1043 + 12 * i) = 0 ∨ L (m + 3) (1043 + 12 * i) = 1) ∧ L (m + 3) (1042 + 12 * i) + c ≤ 100000000 → g_Rm L L' m bk → Q (.inl (some (qI ((L (m + 3) (1042 + 12 * i)) + c)))) sz T (u2 (u2 I m 0 0) m 13 (g_nb bk : Int)) (q_row L' (m + 3) (g_odeposit (L (m + 3)) i c)) P) : qC G 4 0 0 YX8_deposit [.ref m, qI (i : Int), qI c] sz T I L P Q := by
  refine qC_of (by decide +kernel) rfl rfl (Nat.le_of_ble_eq_true rfl) (fun F hF _ _ => ?_)
  have hm12 := hv.many
  have hl5 := hv.lands
  refine q_aload_n hF 0 rfl rfl dX8_deposit_0 ?_
  refine q_iconst hF dX8_deposit_1 ?_
  refine q_putI hF fl_RX8_52 hS.t0 hSA dX8_deposit_2 ?_
  refine q_aload_n hF 0 rfl rfl dX8_deposit_5 ?_
  refine q_aload_n hF 0 rfl rfl dX8_deposit_6 ?_
  refine q_iload_n hF 1 rfl rfl dX8_deposit_7 ?_
  refine q_callV (kc := 0) (ks := 0) (mc' := 0) (ms' := 0) (h' := 1) (st := [.ref m]) hF vl_RX8_340 rfl [qI (i : Int)] rfl rfl hS.t0 (by decide) (Nat.le_of_ble_eq_true rfl) dX8_deposit_8 ?_
  refine mX8_isAccount hS hv (by omega) ?_
  refine q_ifne_b hF dX8_deposit_11 (fun c11 => ?_) (fun c11 => ?_)
  · refine q_iconst hF dX8_deposit_18 ?_
    refine q_iconst hF dX8_deposit_19 ?_
    refine q_iconst hF dX8_deposit_20 ?_
    refine q_callV (kc := 0) (ks := 0) (mc' := 0) (ms' := 0) (h' := 0) (st := []) hF vl_RX8_251 rfl [qI 0, qI 1, qI 0] rfl rfl hS.t0 (by decide) (Nat.le_of_ble_eq_true rfl) dX8_deposit_21 ?_
    refine mX8_bad0 hS hSA (u2_s _ _ _ _) ?_
    refine q_ifne hF (by decide) dX8_deposit_24 (fun c24 => ?_) (fun c24 => ?_)
    · exact absurd c24 (by decide)
    · refine q_aload_n hF 0 rfl rfl dX8_deposit_27 ?_
      refine q_iload_n hF 2 rfl rfl dX8_deposit_28 ?_
      refine q_i2l hF hc dX8_deposit_29 ?_
      refine q_lconst hF (z := 1) rfl dX8_deposit_30 ?_
      refine q_ldc2 hF (n := 1000000) (q_mem 1566 (by decide +kernel) rfl) dX8_deposit_31 ?_
      refine q_callS (kc := 0) (ks := 0) (mc' := 0) (ms' := 0) (h' := 0) (st := [.ref m]) hF sl_RX8_123 rfl [qL c, qL 1, qL 1000000] rfl rfl (by decide) (Nat.le_of_ble_eq_true rfl) dX8_deposit_34 ?_
      refine mX8_in (by omega) (by decide) (by decide) ?_
      refine q_ifne_b hF dX8_deposit_37 (fun c37 => ?_) (fun c37 => ?_)
      · refine q_iconst hF dX8_deposit_44 ?_
        refine q_iconst hF dX8_deposit_45 ?_
        refine q_iconst hF dX8_deposit_46 ?_
        refine q_callV (kc := 0) (ks := 0) (mc' := 0) (ms' := 0) (h' := 0) (st := []) hF vl_RX8_251 rfl [qI 0, qI 2, qI 1] rfl rfl hS.t0 (by decide) (Nat.le_of_ble_eq_true rfl) dX8_deposit_47 ?_
        refine mX8_bad0 hS hSA (u2_s _ _ _ _) ?_
        refine q_ifne hF (by decide) dX8_deposit_50 (fun c50 => ?_) (fun c50 => ?_)
        · exact absurd c50 (by decide)
        · refine q_aload_n hF 0 rfl rfl dX8_deposit_53 ?_
          refine q_aload_n hF 0 rfl rfl dX8_deposit_54 ?_
          refine q_iload_n hF 1 rfl rfl dX8_deposit_55 ?_
          refine q_callV (kc := 0) (ks := 0) (mc' := 0) (ms' := 0) (h' := 3) (st := [.ref m]) hF vl_RX8_348 rfl [qI (i : Int)] rfl rfl hS.t0 (by decide) (Nat.le_of_ble_eq_true rfl) dX8_deposit_56 ?_
          refine mX8_isLive (i := i) hS hv (by omega) hva ?_
          refine q_ifeq_b hF dX8_deposit_59 (fun c59 => ?_) (fun c59 => ?_)
          · refine q_iconst hF dX8_deposit_81 ?_
            refine q_goto hF dX8_deposit_82 ?_
            refine q_iconst hF dX8_deposit_86 ?_
            refine q_iconst hF dX8_deposit_87 ?_
            refine q_callV (kc := 0) (ks := 0) (mc' := 0) (ms' := 0) (h' := 0) (st := []) hF vl_RX8_251 rfl [qI 1, qI 3, qI 2] rfl rfl hS.t0 (by decide) (Nat.le_of_ble_eq_true rfl) dX8_deposit_88 ?_
            refine mX8_bad1 (j := 2) hS hSA (u2_s _ _ _ _) (by omega) rfl (by decide) ?_
            rw [show (u2 I m 0 0) (m + 1) 2 = I (m + 1) 2 from (u2_k _ _ (by decide))]
            refine q_ifeq hF (by decide) dX8_deposit_91 (fun c91 => ?_) (fun c91 => ?_)
            · exact absurd c91 (by decide)
            · refine q_iconst hF dX8_deposit_94 ?_
              refine q_ireturn hF rfl dX8_deposit_95 ?_
              exact k3 (by omega) (by omega)
          · refine q_aload_n hF 0 rfl rfl dX8_deposit_62 ?_
            refine q_getA hF fl_RX8_20 rfl hS.t0 hS.p9 dX8_deposit_63 ?_
            refine q_iload_n hF 1 rfl rfl dX8_deposit_66 ?_
            refine q_iconst hF dX8_deposit_67 ?_
            refine q_callS (kc := 0) (ks := 0) (mc' := 0) (ms' := 0) (h' := 1) (st := [.ref m]) hF sl_RX8_268 rfl [.ref (m + 3), qI (i : Int), qI 3] rfl rfl (by decide) (Nat.le_of_ble_eq_true rfl) dX8_deposit_68 ?_
            refine mX8_of (j := (1042 + 12 * i)) hS.t3 (by omega) (by have := hv.many; have := hv.lands; omega) ?_
            refine q_iload_n hF 2 rfl rfl dX8_deposit_71 ?_
            refine q_i2l hF hc dX8_deposit_72 ?_
            refine q_ladd hF dX8_deposit_73 ?_
            refine q_ldc2 hF (n := 100000000) (q_mem 1530 (by decide +kernel) rfl) dX8_deposit_74 ?_
            refine q_cmple hF (by have := hv.many; have := hv.lands; have := hv.month; have := hva.cents; have := hva.state; have := hva.since; have := hva.addr; have := hva.holder; have := hva.nl; have := hva.hat; omega) (by decide) dX8_deposit_77 dX8_deposit_78 (fun c78 => ?_) (fun c78 => ?_)
            · refine q_iconst hF dX8_deposit_85 ?_
              refine q_iconst hF dX8_deposit_86 ?_
              refine q_iconst hF dX8_deposit_87 ?_
              refine q_callV (kc := 0) (ks := 0) (mc' := 0) (ms' := 0) (h' := 0) (st := []) hF vl_RX8_251 rfl [qI 0, qI 3, qI 2] rfl rfl hS.t0 (by decide) (Nat.le_of_ble_eq_true rfl) dX8_deposit_88 ?_
              refine mX8_bad0 hS hSA (u2_s _ _ _ _) ?_
              refine q_ifeq hF (by decide) dX8_deposit_91 (fun c91 => ?_) (fun c91 => ?_)
              · refine q_aload_n hF 0 rfl rfl dX8_deposit_96 ?_
                refine q_callV (kc := 0) (ks := 0) (mc' := 0) (ms' := 0) (h' := 2) (st := []) hF vl_RX8_258 rfl [] rfl rfl hS.t0 (by decide) (Nat.le_of_ble_eq_true rfl) dX8_deposit_97 ?_
                refine mX8_remembers (bk := bk) hS hSA (((u2_k _ _ (by decide)).trans hb)) (by omega) hz (fun LR c97_0 => ?_)
                refine q_aload_n hF 0 rfl rfl dX8_deposit_100 ?_
                refine q_getA hF fl_RX8_20 rfl hS.t0 hS.p9 dX8_deposit_101 ?_
                refine q_iload_n hF 1 rfl rfl dX8_deposit_104 ?_
                refine q_callS (kc := 0) (ks := 0) (mc' := 0) (ms' := 0) (h' := 2) (st := []) hF sl_RX8_351 rfl [.ref (m + 3), qI (i : Int)] rfl rfl (by decide) (Nat.le_of_ble_eq_true rfl) dX8_deposit_105 ?_
                refine mX8_touches (i := i) hS.t3 (q_Ale hSA (by omega)) (by have := hv.many; have := hv.lands; omega) ?_
                refine q_aload_n hF 0 rfl rfl dX8_deposit_108 ?_
                refine q_getA hF fl_RX8_20 rfl hS.t0 hS.p9 dX8_deposit_109 ?_
                refine q_iload_n hF 1 rfl rfl dX8_deposit_112 ?_
                refine q_iconst hF dX8_deposit_113 ?_
                refine q_iload_n hF 2 rfl rfl dX8_deposit_114 ?_
                refine q_i2l hF hc dX8_deposit_115 ?_
                refine q_callS (kc := 0) (ks := 0) (mc' := 0) (ms' := 0) (h' := 1) (st := []) hF sl_RX8_295 rfl [.ref (m + 3), qI (i : Int), qI 3, qL c] rfl rfl (by decide) (Nat.le_of_ble_eq_true rfl) dX8_deposit_116 ?_
                refine mX8_adds (j := (1042 + 12 * i)) hS.t3 (q_Ale hSA (by omega)) (by omega) (by have := hv.many; have := hv.lands; omega) ?_
                rw [show (u2 (u2 LR (m + 3) (1045 + 12 * i) 0) (m + 3) (1043 + 12 * i) 0) (m + 3) (1042 + 12 * i) = L (m + 3) (1042 + 12 * i) from ((u2_k _ _ (by omega)).trans ((u2_k _ _ (by omega)).trans (c97_0.1 _ _ (by omega))))]
                refine q_aload_n hF 0 rfl rfl dX8_deposit_119 ?_
                refine q_getA hF fl_RX8_20 rfl hS.t0 hS.p9 dX8_deposit_120 ?_
                refine q_bipush hF (n := 17) rfl dX8_deposit_123 ?_
                refine q_dup2 hF rfl rfl dX8_deposit_125 ?_
                refine q_laloadv hF (z := L (m + 3) 17) (n := 1243) 17 hS.t3 rfl (by decide) (by decide) ((u2_k _ _ (by omega)).trans ((u2_k _ _ (by omega)).trans ((u2_k _ _ (by omega)).trans (c97_0.1 _ _ (by omega))))) dX8_deposit_126 ?_
                refine q_iload_n hF 2 rfl rfl dX8_deposit_127 ?_
                refine q_i2l hF hc dX8_deposit_128 ?_
                refine q_ladd hF dX8_deposit_129 ?_
                refine q_lastorev hF (n := 1243) 17 hS.t3 (q_Ale hSA (by omega)) rfl (by decide) (by decide) dX8_deposit_130 ?_
                refine q_aload_n hF 0 rfl rfl dX8_deposit_131 ?_
                refine q_getA hF fl_RX8_20 rfl hS.t0 hS.p9 dX8_deposit_132 ?_
                refine q_iload_n hF 1 rfl rfl dX8_deposit_135 ?_
                refine q_iconst hF dX8_deposit_136 ?_
                refine q_callS (kc := 0) (ks := 0) (mc' := 0) (ms' := 0) (h' := 1) (st := []) hF sl_RX8_268 rfl [.ref (m + 3), qI (i : Int), qI 3] rfl rfl (by decide) (Nat.le_of_ble_eq_true rfl) dX8_deposit_137 ?_
                refine mX8_of (j := (1042 + 12 * i)) hS.t3 (by omega) (by have := hv.many; have := hv.lands; omega) ?_
                rw [show (u2 (u2 (u2 (u2 LR (m + 3) (1045 + 12 * i) 0) (m + 3) (1043 + 12 * i) 0) (m + 3) (1042 + 12 * i) ((L (m + 3) (1042 + 12 * i)) + c)) (m + 3) 17 ((L (m + 3) 17) + c)) (m + 3) (1042 + 12 * i) = (L (m + 3) (1042 + 12 * i)) + c from ((u2_k _ _ (by omega)).trans (u2_s _ _ _ _))]
                refine q_l2i hF dX8_deposit_140 ?_
                refine q_ireturn hF rfl dX8_deposit_141 ?_
                have e3 : LR (m + 3) = L (m + 3) := funext fun k => c97_0.1 _ k (by omega)
                have q := k0 LR (by omega) (by omega) c97_0
                rw [show u2 (u2 (u2 (u2 LR (m + 3) (1045 + 12 * i) 0) (m + 3) (1043 + 12 * i) 0) (m + 3) (1042 + 12 * i) ((L (m + 3) (1042 + 12 * i)) + c)) (m + 3) 17 ((L (m + 3) 17) + c) = q_row LR (m + 3) (g_odeposit (L (m + 3)) i c) from by rw [q_row_u1 LR, q_row_u, q_row_u, q_row_u, e3]; rfl]
                exact q
              · exact absurd c91 (by decide)
            · refine q_iconst hF dX8_deposit_81 ?_
              refine q_goto hF dX8_deposit_82 ?_
              refine q_iconst hF dX8_deposit_86 ?_
              refine q_iconst hF dX8_deposit_87 ?_
              refine q_callV (kc := 0) (ks := 0) (mc' := 0) (ms' := 0) (h' := 0) (st := []) hF vl_RX8_251 rfl [qI 1, qI 3, qI 2] rfl rfl hS.t0 (by decide) (Nat.le_of_ble_eq_true rfl) dX8_deposit_88 ?_
              refine mX8_bad1 (j := 2) hS hSA (u2_s _ _ _ _) (by omega) rfl (by decide) ?_
              rw [show (u2 I m 0 0) (m + 1) 2 = I (m + 1) 2 from (u2_k _ _ (by decide))]
              refine q_ifeq hF (by decide) dX8_deposit_91 (fun c91 => ?_) (fun c91 => ?_)
              · exact absurd c91 (by decide)
              · refine q_iconst hF dX8_deposit_94 ?_
                refine q_ireturn hF rfl dX8_deposit_95 ?_
                exact k3 (by omega) (by omega)
      · refine q_iconst hF dX8_deposit_40 ?_
        refine q_goto hF dX8_deposit_41 ?_
        refine q_iconst hF dX8_deposit_45 ?_
        refine q_iconst hF dX8_deposit_46 ?_
        refine q_callV (kc := 0) (ks := 0) (mc' := 0) (ms' := 0) (h' := 0) (st := []) hF vl_RX8_251 rfl [qI 1, qI 2, qI 1] rfl rfl hS.t0 (by decide) (Nat.le_of_ble_eq_true rfl) dX8_deposit_47 ?_
        refine mX8_bad1 (j := 1) hS hSA (u2_s _ _ _ _) (by omega) rfl (by decide) ?_
        rw [show (u2 I m 0 0) (m + 1) 1 = I (m + 1) 1 from (u2_k _ _ (by decide))]
        refine q_ifne hF (by decide) dX8_deposit_50 (fun c50 => ?_) (fun c50 => ?_)
        · refine q_iconst hF dX8_deposit_94 ?_
          refine q_ireturn hF rfl dX8_deposit_95 ?_
          exact k2 (by omega)
        · exact absurd c50 (by decide)
  · omega
set_option maxRecDepth 100000 in
theorem mX8_draw0 {G : q_G} {sz : Nat} {T : q_T} {I L : q_I} {P : q_P} {Q : q_Q} {m : Nat} {a : Int} {c : Int}  (hS : q_SM T P m) (hSA : q_A G m) (hv : g_V0 (L (m + 3))) (ha : -2147483648 ≤ a ∧ a < 2147483648) (hn : ¬ (0 ≤ a ∧ a ≤ L (m + 3) 1 - 1)) (k1 : Q (.inl (some (qI 0))) sz T (u2 (u2 (u2 I m 0 0) m 0 1) (m + 1) 0 ((I (m + 1) 0) + 1)) L P) : qC G 4 0 0 YX8_draw [.ref m, qI a, qI c] sz T I L P Q := by
  refine qC_of (by decide +kernel) rfl rfl (Nat.le_of_ble_eq_true rfl) (fun F hF _ _ => ?_)
  have hm12 := hv.many
  have hl5 := hv.lands
  refine q_aload_n hF 0 rfl rfl dX8_draw_0 ?_
  refine q_iconst hF dX8_draw_1 ?_
  refine q_putI hF fl_RX8_52 hS.t0 hSA dX8_draw_2 ?_
  refine q_aload_n hF 0 rfl rfl dX8_draw_5 ?_
  refine q_aload_n hF 0 rfl rfl dX8_draw_6 ?_
  refine q_iload_n hF 1 rfl rfl dX8_draw_7 ?_
  refine q_callV (kc := 0) (ks := 0) (mc' := 0) (ms' := 0) (h' := 1) (st := [.ref m]) hF vl_RX8_340 rfl [qI a] rfl rfl hS.t0 (by decide) (Nat.le_of_ble_eq_true rfl) dX8_draw_8 ?_
  refine mX8_isAccount hS hv ha ?_
  refine q_ifne_b hF dX8_draw_11 (fun c11 => ?_) (fun c11 => ?_)
  · omega
  · refine q_iconst hF dX8_draw_14 ?_
    refine q_goto hF dX8_draw_15 ?_
    refine q_iconst hF dX8_draw_19 ?_
    refine q_iconst hF dX8_draw_20 ?_
    refine q_callV (kc := 0) (ks := 0) (mc' := 0) (ms' := 0) (h' := 0) (st := []) hF vl_RX8_251 rfl [qI 1, qI 1, qI 0] rfl rfl hS.t0 (by decide) (Nat.le_of_ble_eq_true rfl) dX8_draw_21 ?_
    refine mX8_bad1 (j := 0) hS hSA (u2_s _ _ _ _) (by omega) rfl (by decide) ?_
    rw [show (u2 I m 0 0) (m + 1) 0 = I (m + 1) 0 from (u2_a _ _ (by omega))]
    refine q_ifne hF (by decide) dX8_draw_24 (fun c24 => ?_) (fun c24 => ?_)
    · refine q_iconst hF dX8_draw_90 ?_
      refine q_ireturn hF rfl dX8_draw_91 ?_
      exact k1
    · exact absurd c24 (by decide)
def g_odraw (r : Nat → Int) (i : Nat) (c : Int) : Nat → Int := g_up (g_up (g_up (g_up r (1045 + 12 * i) 0) (1043 + 12 * i) 0) (1042 + 12 * i) ((r (1042 + 12 * i)) + (-c))) 19 ((r 19) + c)

set_option maxRecDepth 100000 in
theorem mX8_draw {G : q_G} {sz : Nat} {T : q_T} {I L : q_I} {P : q_P} {Q : q_Q} {m : Nat} {c : Int} {i bk : Nat} {bd : Int} (hS : q_SM T P m) (hSA : q_A G m) (hv : g_V0 (L (m + 3))) (hy : (i : Int) < L (m + 3) 1) (hva : g_VA (L (m + 3)) i bd) (hc : -2147483648 ≤ c ∧ c < 2147483648) (hb : I m 13 = (bk : Int)) (hbk : bk ≤ 8) (hz : q_Z0 L m) (k2 : ¬ (1 ≤ c ∧ c ≤ 1000000) → Q (.inl (some (qI 0))) sz T (u2 (u2 (u2 I m 0 0) m 0 2) (m + 1) 1 ((I (m + 1) 1) + 1)) L P) (k3 : (1 ≤ c ∧ c ≤ 1000000) → ¬ ((L (m + 3) (1043 + 12 * i) = 0 ∨ L (m + 3) (1043 + 12 * i) = 1) ∧ c ≤ L (m + 3) (1042 + 12 * i)) → Q (.inl (some (qI 0))) sz T (u2 (u2 (u2 I m 0 0) m 0 3) (m + 1) 2 ((I (m + 1) 2) + 1)) L P) (k0 : ∀ L', (1 ≤ c ∧ c ≤ 1000000) → (L (m + 3) (1043 + 12 * i) = 0 ∨ L (m + 3) (1043 + 12 * i) = 1) ∧ c ≤ L (m + 3) (1042 + 12 * i) → g_Rm L L' m bk → Q (.inl (some (qI ((L (m + 3) (1042 + 12 * i)) + (-c))))) sz T (u2 (u2 I m 0 0) m 13 (g_nb bk : Int)) (q_row L' (m + 3) (g_odraw (L (m + 3)) i c)) P) : qC G 4 0 0 YX8_draw [.ref m, qI (i : Int), qI c] sz T I L P Q := by
  refine qC_of (by decide +kernel) rfl rfl (Nat.le_of_ble_eq_true rfl) (fun F hF _ _ => ?_)
  have hm12 := hv.many
  have hl5 := hv.lands
  refine q_aload_n hF 0 rfl rfl dX8_draw_0 ?_
  refine q_iconst hF dX8_draw_1 ?_
  refine q_putI hF fl_RX8_52 hS.t0 hSA dX8_draw_2 ?_
  refine q_aload_n hF 0 rfl rfl dX8_draw_5 ?_
  refine q_aload_n hF 0 rfl rfl dX8_draw_6 ?_
  refine q_iload_n hF 1 rfl rfl dX8_draw_7 ?_
  refine q_callV (kc := 0) (ks := 0) (mc' := 0) (ms' := 0) (h' := 1) (st := [.ref m]) hF vl_RX8_340 rfl [qI (i : Int)] rfl rfl hS.t0 (by decide) (Nat.le_of_ble_eq_true rfl) dX8_draw_8 ?_
  refine mX8_isAccount hS hv (by omega) ?_
  refine q_ifne_b hF dX8_draw_11 (fun c11 => ?_) (fun c11 => ?_)
  · refine q_iconst hF dX8_draw_18 ?_
    refine q_iconst hF dX8_draw_19 ?_
    refine q_iconst hF dX8_draw_20 ?_
    refine q_callV (kc := 0) (ks := 0) (mc' := 0) (ms' := 0) (h' := 0) (st := []) hF vl_RX8_251 rfl [qI 0, qI 1, qI 0] rfl rfl hS.t0 (by decide) (Nat.le_of_ble_eq_true rfl) dX8_draw_21 ?_
    refine mX8_bad0 hS hSA (u2_s _ _ _ _) ?_
    refine q_ifne hF (by decide) dX8_draw_24 (fun c24 => ?_) (fun c24 => ?_)
    · exact absurd c24 (by decide)
    · refine q_aload_n hF 0 rfl rfl dX8_draw_27 ?_
      refine q_iload_n hF 2 rfl rfl dX8_draw_28 ?_
      refine q_i2l hF hc dX8_draw_29 ?_
      refine q_lconst hF (z := 1) rfl dX8_draw_30 ?_
      refine q_ldc2 hF (n := 1000000) (q_mem 1566 (by decide +kernel) rfl) dX8_draw_31 ?_
      refine q_callS (kc := 0) (ks := 0) (mc' := 0) (ms' := 0) (h' := 0) (st := [.ref m]) hF sl_RX8_123 rfl [qL c, qL 1, qL 1000000] rfl rfl (by decide) (Nat.le_of_ble_eq_true rfl) dX8_draw_34 ?_
      refine mX8_in (by omega) (by decide) (by decide) ?_
      refine q_ifne_b hF dX8_draw_37 (fun c37 => ?_) (fun c37 => ?_)
      · refine q_iconst hF dX8_draw_44 ?_
        refine q_iconst hF dX8_draw_45 ?_
        refine q_iconst hF dX8_draw_46 ?_
        refine q_callV (kc := 0) (ks := 0) (mc' := 0) (ms' := 0) (h' := 0) (st := []) hF vl_RX8_251 rfl [qI 0, qI 2, qI 1] rfl rfl hS.t0 (by decide) (Nat.le_of_ble_eq_true rfl) dX8_draw_47 ?_
        refine mX8_bad0 hS hSA (u2_s _ _ _ _) ?_
        refine q_ifne hF (by decide) dX8_draw_50 (fun c50 => ?_) (fun c50 => ?_)
        · exact absurd c50 (by decide)
        · refine q_aload_n hF 0 rfl rfl dX8_draw_53 ?_
          refine q_aload_n hF 0 rfl rfl dX8_draw_54 ?_
          refine q_iload_n hF 1 rfl rfl dX8_draw_55 ?_
          refine q_callV (kc := 0) (ks := 0) (mc' := 0) (ms' := 0) (h' := 3) (st := [.ref m]) hF vl_RX8_348 rfl [qI (i : Int)] rfl rfl hS.t0 (by decide) (Nat.le_of_ble_eq_true rfl) dX8_draw_56 ?_
          refine mX8_isLive (i := i) hS hv (by omega) hva ?_
          refine q_ifeq_b hF dX8_draw_59 (fun c59 => ?_) (fun c59 => ?_)
          · refine q_iconst hF dX8_draw_77 ?_
            refine q_goto hF dX8_draw_78 ?_
            refine q_iconst hF dX8_draw_82 ?_
            refine q_iconst hF dX8_draw_83 ?_
            refine q_callV (kc := 0) (ks := 0) (mc' := 0) (ms' := 0) (h' := 0) (st := []) hF vl_RX8_251 rfl [qI 1, qI 3, qI 2] rfl rfl hS.t0 (by decide) (Nat.le_of_ble_eq_true rfl) dX8_draw_84 ?_
            refine mX8_bad1 (j := 2) hS hSA (u2_s _ _ _ _) (by omega) rfl (by decide) ?_
            rw [show (u2 I m 0 0) (m + 1) 2 = I (m + 1) 2 from (u2_k _ _ (by decide))]
            refine q_ifeq hF (by decide) dX8_draw_87 (fun c87 => ?_) (fun c87 => ?_)
            · exact absurd c87 (by decide)
            · refine q_iconst hF dX8_draw_90 ?_
              refine q_ireturn hF rfl dX8_draw_91 ?_
              exact k3 (by omega) (by omega)
          · refine q_aload_n hF 0 rfl rfl dX8_draw_62 ?_
            refine q_getA hF fl_RX8_20 rfl hS.t0 hS.p9 dX8_draw_63 ?_
            refine q_iload_n hF 1 rfl rfl dX8_draw_66 ?_
            refine q_iconst hF dX8_draw_67 ?_
            refine q_callS (kc := 0) (ks := 0) (mc' := 0) (ms' := 0) (h' := 1) (st := [.ref m]) hF sl_RX8_268 rfl [.ref (m + 3), qI (i : Int), qI 3] rfl rfl (by decide) (Nat.le_of_ble_eq_true rfl) dX8_draw_68 ?_
            refine mX8_of (j := (1042 + 12 * i)) hS.t3 (by omega) (by have := hv.many; have := hv.lands; omega) ?_
            refine q_iload_n hF 2 rfl rfl dX8_draw_71 ?_
            refine q_i2l hF hc dX8_draw_72 ?_
            refine q_cmpge hF (by have := hv.many; have := hv.lands; have := hv.month; have := hva.cents; have := hva.state; have := hva.since; have := hva.addr; have := hva.holder; have := hva.nl; have := hva.hat; omega) (by omega) dX8_draw_73 dX8_draw_74 (fun c74 => ?_) (fun c74 => ?_)
            · refine q_iconst hF dX8_draw_81 ?_
              refine q_iconst hF dX8_draw_82 ?_
              refine q_iconst hF dX8_draw_83 ?_
              refine q_callV (kc := 0) (ks := 0) (mc' := 0) (ms' := 0) (h' := 0) (st := []) hF vl_RX8_251 rfl [qI 0, qI 3, qI 2] rfl rfl hS.t0 (by decide) (Nat.le_of_ble_eq_true rfl) dX8_draw_84 ?_
              refine mX8_bad0 hS hSA (u2_s _ _ _ _) ?_
              refine q_ifeq hF (by decide) dX8_draw_87 (fun c87 => ?_) (fun c87 => ?_)
              · refine q_aload_n hF 0 rfl rfl dX8_draw_92 ?_
                refine q_callV (kc := 0) (ks := 0) (mc' := 0) (ms' := 0) (h' := 2) (st := []) hF vl_RX8_258 rfl [] rfl rfl hS.t0 (by decide) (Nat.le_of_ble_eq_true rfl) dX8_draw_93 ?_
                refine mX8_remembers (bk := bk) hS hSA (((u2_k _ _ (by decide)).trans hb)) (by omega) hz (fun LR c93_0 => ?_)
                refine q_aload_n hF 0 rfl rfl dX8_draw_96 ?_
                refine q_getA hF fl_RX8_20 rfl hS.t0 hS.p9 dX8_draw_97 ?_
                refine q_iload_n hF 1 rfl rfl dX8_draw_100 ?_
                refine q_callS (kc := 0) (ks := 0) (mc' := 0) (ms' := 0) (h' := 2) (st := []) hF sl_RX8_351 rfl [.ref (m + 3), qI (i : Int)] rfl rfl (by decide) (Nat.le_of_ble_eq_true rfl) dX8_draw_101 ?_
                refine mX8_touches (i := i) hS.t3 (q_Ale hSA (by omega)) (by have := hv.many; have := hv.lands; omega) ?_
                refine q_aload_n hF 0 rfl rfl dX8_draw_104 ?_
                refine q_getA hF fl_RX8_20 rfl hS.t0 hS.p9 dX8_draw_105 ?_
                refine q_iload_n hF 1 rfl rfl dX8_draw_108 ?_
                refine q_iconst hF dX8_draw_109 ?_
                refine q_iload_n hF 2 rfl rfl dX8_draw_110 ?_
                refine q_ineg hF dX8_draw_111 ?_
                refine q_i2l hF (by omega) dX8_draw_112 ?_
                refine q_callS (kc := 0) (ks := 0) (mc' := 0) (ms' := 0) (h' := 1) (st := []) hF sl_RX8_295 rfl [.ref (m + 3), qI (i : Int), qI 3, qL (-c)] rfl rfl (by decide) (Nat.le_of_ble_eq_true rfl) dX8_draw_113 ?_
                refine mX8_adds (j := (1042 + 12 * i)) hS.t3 (q_Ale hSA (by omega)) (by omega) (by have := hv.many; have := hv.lands; omega) ?_
                rw [show (u2 (u2 LR (m + 3) (1045 + 12 * i) 0) (m + 3) (1043 + 12 * i) 0) (m + 3) (1042 + 12 * i) = L (m + 3) (1042 + 12 * i) from ((u2_k _ _ (by omega)).trans ((u2_k _ _ (by omega)).trans (c93_0.1 _ _ (by omega))))]
                refine q_aload_n hF 0 rfl rfl dX8_draw_116 ?_
                refine q_getA hF fl_RX8_20 rfl hS.t0 hS.p9 dX8_draw_117 ?_
                refine q_bipush hF (n := 19) rfl dX8_draw_120 ?_
                refine q_dup2 hF rfl rfl dX8_draw_122 ?_
                refine q_laloadv hF (z := L (m + 3) 19) (n := 1243) 19 hS.t3 rfl (by decide) (by decide) ((u2_k _ _ (by omega)).trans ((u2_k _ _ (by omega)).trans ((u2_k _ _ (by omega)).trans (c93_0.1 _ _ (by omega))))) dX8_draw_123 ?_
                refine q_iload_n hF 2 rfl rfl dX8_draw_124 ?_
                refine q_i2l hF hc dX8_draw_125 ?_
                refine q_ladd hF dX8_draw_126 ?_
                refine q_lastorev hF (n := 1243) 19 hS.t3 (q_Ale hSA (by omega)) rfl (by decide) (by decide) dX8_draw_127 ?_
                refine q_aload_n hF 0 rfl rfl dX8_draw_128 ?_
                refine q_getA hF fl_RX8_20 rfl hS.t0 hS.p9 dX8_draw_129 ?_
                refine q_iload_n hF 1 rfl rfl dX8_draw_132 ?_
                refine q_iconst hF dX8_draw_133 ?_
                refine q_callS (kc := 0) (ks := 0) (mc' := 0) (ms' := 0) (h' := 1) (st := []) hF sl_RX8_268 rfl [.ref (m + 3), qI (i : Int), qI 3] rfl rfl (by decide) (Nat.le_of_ble_eq_true rfl) dX8_draw_134 ?_
                refine mX8_of (j := (1042 + 12 * i)) hS.t3 (by omega) (by have := hv.many; have := hv.lands; omega) ?_
                rw [show (u2 (u2 (u2 (u2 LR (m + 3) (1045 + 12 * i) 0) (m + 3) (1043 + 12 * i) 0) (m + 3) (1042 + 12 * i) ((L (m + 3) (1042 + 12 * i)) + (-c))) (m + 3) 19 ((L (m + 3) 19) + c)) (m + 3) (1042 + 12 * i) = (L (m + 3) (1042 + 12 * i)) + (-c) from ((u2_k _ _ (by omega)).trans (u2_s _ _ _ _))]
                refine q_l2i hF dX8_draw_137 ?_
                refine q_ireturn hF rfl dX8_draw_138 ?_
                have e3 : LR (m + 3) = L (m + 3) := funext fun k => c93_0.1 _ k (by omega)
                have q := k0 LR (by omega) (by omega) c93_0
                rw [show u2 (u2 (u2 (u2 LR (m + 3) (1045 + 12 * i) 0) (m + 3) (1043 + 12 * i) 0) (m + 3) (1042 + 12 * i) ((L (m + 3) (1042 + 12 * i)) + (-c))) (m + 3) 19 ((L (m + 3) 19) + c) = q_row LR (m + 3) (g_odraw (L (m + 3)) i c) from by rw [q_row_u1 LR, q_row_u, q_row_u, q_row_u, e3]; rfl]
                exact q
              · exact absurd c87 (by decide)
            · refine q_iconst hF dX8_draw_77 ?_
              refine q_goto hF dX8_draw_78 ?_
              refine q_iconst hF dX8_draw_82 ?_
              refine q_iconst hF dX8_draw_83 ?_
              refine q_callV (kc := 0) (ks := 0) (mc' := 0) (ms' := 0) (h' := 0) (st := []) hF vl_RX8_251 rfl [qI 1, qI 3, qI 2] rfl rfl hS.t0 (by decide) (Nat.le_of_ble_eq_true rfl) dX8_draw_84 ?_
              refine mX8_bad1 (j := 2) hS hSA (u2_s _ _ _ _) (by omega) rfl (by decide) ?_
              rw [show (u2 I m 0 0) (m + 1) 2 = I (m + 1) 2 from (u2_k _ _ (by decide))]
              refine q_ifeq hF (by decide) dX8_draw_87 (fun c87 => ?_) (fun c87 => ?_)
              · exact absurd c87 (by decide)
              · refine q_iconst hF dX8_draw_90 ?_
                refine q_ireturn hF rfl dX8_draw_91 ?_
                exact k3 (by omega) (by omega)
      · refine q_iconst hF dX8_draw_40 ?_
        refine q_goto hF dX8_draw_41 ?_
        refine q_iconst hF dX8_draw_45 ?_
        refine q_iconst hF dX8_draw_46 ?_
        refine q_callV (kc := 0) (ks := 0) (mc' := 0) (ms' := 0) (h' := 0) (st := []) hF vl_RX8_251 rfl [qI 1, qI 2, qI 1] rfl rfl hS.t0 (by decide) (Nat.le_of_ble_eq_true rfl) dX8_draw_47 ?_
        refine mX8_bad1 (j := 1) hS hSA (u2_s _ _ _ _) (by omega) rfl (by decide) ?_
        rw [show (u2 I m 0 0) (m + 1) 1 = I (m + 1) 1 from (u2_k _ _ (by decide))]
        refine q_ifne hF (by decide) dX8_draw_50 (fun c50 => ?_) (fun c50 => ?_)
        · refine q_iconst hF dX8_draw_90 ?_
          refine q_ireturn hF rfl dX8_draw_91 ?_
          exact k2 (by omega)
        · exact absurd c50 (by decide)
  · omega
