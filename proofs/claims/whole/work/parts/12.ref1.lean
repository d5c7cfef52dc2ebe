/-! the reference: small methods -/
set_option maxRecDepth 100000 in
theorem mX8_thrown {G : q_G} {sz : Nat} {T : q_T} {I L : q_I} {P : q_P} {Q : q_Q} {m : Nat}  (hT : T m = some (.inl 7)) (k0 : Q (.inl (some (qI (I m 0)))) sz T I L P) : qC G 0 0 0 YX8_thrown [.ref m] sz T I L P Q := by
  refine qC_of (by decide +kernel) rfl rfl (Nat.le_of_ble_eq_true rfl) (fun F hF _ _ => ?_)
  refine q_aload_n hF 0 rfl rfl dX8_thrown_0 ?_
  refine q_getIv hF (z := I m 0) fl_RX8_52 hT rfl dX8_thrown_1 ?_
  refine q_ireturn hF rfl dX8_thrown_4 ?_
  exact k0
set_option maxRecDepth 100000 in
theorem mX8_in {G : q_G} {sz : Nat} {T : q_T} {I L : q_I} {P : q_P} {Q : q_Q} {v : Int} {lo : Int} {hi : Int}  (h1 : -9223372036854775808 ≤ v ∧ v < 9223372036854775808) (h2 : -9223372036854775808 ≤ lo ∧ lo < 9223372036854775808) (h3 : -9223372036854775808 ≤ hi ∧ hi < 9223372036854775808) (k0 : Q (.inl (some (qI (q_b (lo ≤ v ∧ v ≤ hi))))) sz T I L P) : qC G 0 0 0 YX8_in [qL v, qL lo, qL hi] sz T I L P Q := by
  refine qC_of (by decide +kernel) rfl rfl (Nat.le_of_ble_eq_true rfl) (fun F hF _ _ => ?_)
  refine q_lload_n hF 0 rfl rfl dX8_in_0 ?_
  refine q_lload_n hF 1 rfl rfl dX8_in_1 ?_
  refine q_cmplt hF h1 h2 dX8_in_2 dX8_in_3 (fun c3 => ?_) (fun c3 => ?_)
  · refine q_iconst hF dX8_in_17 ?_
    refine q_zreturn hF (by decide) rfl dX8_in_18 ?_
    rw [q_b_f (c := lo ≤ v ∧ v ≤ hi) (by omega)] at k0; exact k0
  · refine q_lload_n hF 0 rfl rfl dX8_in_6 ?_
    refine q_lload hF 2 rfl dX8_in_7 ?_
    refine q_cmpgt hF h1 h3 dX8_in_9 dX8_in_10 (fun c10 => ?_) (fun c10 => ?_)
    · refine q_iconst hF dX8_in_17 ?_
      refine q_zreturn hF (by decide) rfl dX8_in_18 ?_
      rw [q_b_f (c := lo ≤ v ∧ v ≤ hi) (by omega)] at k0; exact k0
    · refine q_iconst hF dX8_in_13 ?_
      refine q_goto hF dX8_in_14 ?_
      refine q_zreturn hF (by decide) rfl dX8_in_18 ?_
      rw [q_b_t (c := lo ≤ v ∧ v ≤ hi) (by omega)] at k0; exact k0
set_option maxRecDepth 100000 in
theorem mX8_landAt {G : q_G} {sz : Nat} {T : q_T} {I L : q_I} {P : q_P} {Q : q_Q} {l : Int} {w : Int}   (k0 : Q (.inl (some (qI ((24 + (13 * l)) + w)))) sz T I L P) : qC G 0 0 0 YX8_landAt [qI l, qI w] sz T I L P Q := by
  refine qC_of (by decide +kernel) rfl rfl (Nat.le_of_ble_eq_true rfl) (fun F hF _ _ => ?_)
  refine q_bipush hF (n := 24) rfl dX8_landAt_0 ?_
  refine q_bipush hF (n := 13) rfl dX8_landAt_2 ?_
  refine q_iload_n hF 0 rfl rfl dX8_landAt_4 ?_
  refine q_imul hF dX8_landAt_5 ?_
  refine q_iadd hF dX8_landAt_6 ?_
  refine q_iload_n hF 1 rfl rfl dX8_landAt_7 ?_
  refine q_iadd hF dX8_landAt_8 ?_
  refine q_ireturn hF rfl dX8_landAt_9 ?_
  exact k0
set_option maxRecDepth 100000 in
theorem mX8_lawAt {G : q_G} {sz : Nat} {T : q_T} {I L : q_I} {P : q_P} {Q : q_Q} {k : Int} {l : Int}   (k0 : Q (.inl (some (qI (89 + (2 * ((5 * k) + l)))))) sz T I L P) : qC G 0 0 0 YX8_lawAt [qI k, qI l] sz T I L P Q := by
  refine qC_of (by decide +kernel) rfl rfl (Nat.le_of_ble_eq_true rfl) (fun F hF _ _ => ?_)
  refine q_bipush hF (n := 89) rfl dX8_lawAt_0 ?_
  refine q_iconst hF dX8_lawAt_2 ?_
  refine q_iconst hF dX8_lawAt_3 ?_
  refine q_iload_n hF 0 rfl rfl dX8_lawAt_4 ?_
  refine q_imul hF dX8_lawAt_5 ?_
  refine q_iload_n hF 1 rfl rfl dX8_lawAt_6 ?_
  refine q_iadd hF dX8_lawAt_7 ?_
  refine q_imul hF dX8_lawAt_8 ?_
  refine q_iadd hF dX8_lawAt_9 ?_
  refine q_ireturn hF rfl dX8_lawAt_10 ?_
  exact k0
set_option maxRecDepth 100000 in
theorem mX8_accountAt {G : q_G} {sz : Nat} {T : q_T} {I L : q_I} {P : q_P} {Q : q_Q} {a : Int} {w : Int}   (k0 : Q (.inl (some (qI ((1039 + (12 * a)) + w)))) sz T I L P) : qC G 0 0 0 YX8_accountAt [qI a, qI w] sz T I L P Q := by
  refine qC_of (by decide +kernel) rfl rfl (Nat.le_of_ble_eq_true rfl) (fun F hF _ _ => ?_)
  refine q_sipush hF (n := 1039) rfl dX8_accountAt_0 ?_
  refine q_bipush hF (n := 12) rfl dX8_accountAt_3 ?_
  refine q_iload_n hF 0 rfl rfl dX8_accountAt_5 ?_
  refine q_imul hF dX8_accountAt_6 ?_
  refine q_iadd hF dX8_accountAt_7 ?_
  refine q_iload_n hF 1 rfl rfl dX8_accountAt_8 ?_
  refine q_iadd hF dX8_accountAt_9 ?_
  refine q_ireturn hF rfl dX8_accountAt_10 ?_
  exact k0
set_option maxRecDepth 100000 in
theorem mX8_of {G : q_G} {sz : Nat} {T : q_T} {I L : q_I} {P : q_P} {Q : q_Q} {r : Nat} {a : Int} {w : Int} {j : Nat} (hR : T r = some (.inr (1, 1243))) (hj : 1039 + (12 * a) + w = (j : Int)) (hn : j < 1243) (k0 : Q (.inl (some (qL (L r j)))) sz T I L P) : qC G 1 0 0 YX8_of [.ref r, qI a, qI w] sz T I L P Q := by
  refine qC_of (by decide +kernel) rfl rfl (Nat.le_of_ble_eq_true rfl) (fun F hF _ _ => ?_)
  refine q_aload_n hF 0 rfl rfl dX8_of_0 ?_
  refine q_iload_n hF 1 rfl rfl dX8_of_1 ?_
  refine q_iload_n hF 2 rfl rfl dX8_of_2 ?_
  refine q_callS (kc := 0) (ks := 0) (mc' := 0) (ms' := 0) (h' := 0) (st := [.ref r]) hF sl_RX8_58 rfl [qI a, qI w] rfl rfl (by decide) (Nat.le_of_ble_eq_true rfl) dX8_of_3 ?_
  refine mX8_accountAt ?_
  refine q_laloadv hF (z := L r j) (n := 1243) j hR (by omega) hn (by decide) rfl dX8_of_6 ?_
  refine q_lreturn hF rfl dX8_of_7 ?_
  exact k0
set_option maxRecDepth 100000 in
theorem mX8_sets {G : q_G} {sz : Nat} {T : q_T} {I L : q_I} {P : q_P} {Q : q_Q} {r : Nat} {a : Int} {w : Int} {v : Int} {j : Nat} (hR : T r = some (.inr (1, 1243))) (hRA : q_A G r) (hj : 1039 + (12 * a) + w = (j : Int)) (hn : j < 1243) (k0 : Q (.inl none) sz T I (u2 L r j v) P) : qC G 1 0 0 YX8_sets [.ref r, qI a, qI w, qL v] sz T I L P Q := by
  refine qC_of (by decide +kernel) rfl rfl (Nat.le_of_ble_eq_true rfl) (fun F hF _ _ => ?_)
  refine q_aload_n hF 0 rfl rfl dX8_sets_0 ?_
  refine q_iload_n hF 1 rfl rfl dX8_sets_1 ?_
  refine q_iload_n hF 2 rfl rfl dX8_sets_2 ?_
  refine q_callS (kc := 0) (ks := 0) (mc' := 0) (ms' := 0) (h' := 0) (st := [.ref r]) hF sl_RX8_58 rfl [qI a, qI w] rfl rfl (by decide) (Nat.le_of_ble_eq_true rfl) dX8_sets_3 ?_
  refine mX8_accountAt ?_
  refine q_lload_n hF 3 rfl rfl dX8_sets_6 ?_
  refine q_lastorev hF (n := 1243) j hR hRA (by omega) hn (by decide) dX8_sets_7 ?_
  refine q_return hF rfl dX8_sets_8 ?_
  exact k0
set_option maxRecDepth 100000 in
theorem mX8_adds {G : q_G} {sz : Nat} {T : q_T} {I L : q_I} {P : q_P} {Q : q_Q} {r : Nat} {a : Int} {w : Int} {v : Int} {j : Nat} (hR : T r = some (.inr (1, 1243))) (hRA : q_A G r) (hj : 1039 + (12 * a) + w = (j : Int)) (hn : j < 1243) (k0 : Q (.inl none) sz T I (u2 L r j ((L r j) + v)) P) : qC G 1 0 0 YX8_adds [.ref r, qI a, qI w, qL v] sz T I L P Q := by
  refine qC_of (by decide +kernel) rfl rfl (Nat.le_of_ble_eq_true rfl) (fun F hF _ _ => ?_)
  refine q_aload_n hF 0 rfl rfl dX8_adds_0 ?_
  refine q_iload_n hF 1 rfl rfl dX8_adds_1 ?_
  refine q_iload_n hF 2 rfl rfl dX8_adds_2 ?_
  refine q_callS (kc := 0) (ks := 0) (mc' := 0) (ms' := 0) (h' := 0) (st := [.ref r]) hF sl_RX8_58 rfl [qI a, qI w] rfl rfl (by decide) (Nat.le_of_ble_eq_true rfl) dX8_adds_3 ?_
  refine mX8_accountAt ?_
  refine q_dup2 hF rfl rfl dX8_adds_6 ?_
  refine q_laloadv hF (z := L r j) (n := 1243) j hR (by omega) hn (by decide) rfl dX8_adds_7 ?_
  refine q_lload_n hF 3 rfl rfl dX8_adds_8 ?_
  refine q_ladd hF dX8_adds_9 ?_
  refine q_lastorev hF (n := 1243) j hR hRA (by omega) hn (by decide) dX8_adds_10 ?_
  refine q_return hF rfl dX8_adds_11 ?_
  exact k0
set_option maxRecDepth 100000 in
theorem mX8_isSmall {G : q_G} {sz : Nat} {T : q_T} {I L : q_I} {P : q_P} {Q : q_Q} {c : Int}  (hc : -2147483648 ≤ c ∧ c < 2147483648) (k0 : Q (.inl (some (qI (q_b (97 ≤ c ∧ c ≤ 122))))) sz T I L P) : qC G 0 0 0 YX8_isSmall [qI c] sz T I L P Q := by
  refine qC_of (by decide +kernel) rfl rfl (Nat.le_of_ble_eq_true rfl) (fun F hF _ _ => ?_)
  refine q_iload_n hF 0 rfl rfl dX8_isSmall_0 ?_
  refine q_bipush hF (n := 97) rfl dX8_isSmall_1 ?_
  refine q_icmplt hF hc (by decide) dX8_isSmall_3 (fun c3 => ?_) (fun c3 => ?_)
  · refine q_iconst hF dX8_isSmall_16 ?_
    refine q_zreturn hF (by decide) rfl dX8_isSmall_17 ?_
    rw [q_b_f (c := 97 ≤ c ∧ c ≤ 122) (by omega)] at k0; exact k0
  · refine q_iload_n hF 0 rfl rfl dX8_isSmall_6 ?_
    refine q_bipush hF (n := 122) rfl dX8_isSmall_7 ?_
    refine q_icmpgt hF hc (by decide) dX8_isSmall_9 (fun c9 => ?_) (fun c9 => ?_)
    · refine q_iconst hF dX8_isSmall_16 ?_
      refine q_zreturn hF (by decide) rfl dX8_isSmall_17 ?_
      rw [q_b_f (c := 97 ≤ c ∧ c ≤ 122) (by omega)] at k0; exact k0
    · refine q_iconst hF dX8_isSmall_12 ?_
      refine q_goto hF dX8_isSmall_13 ?_
      refine q_zreturn hF (by decide) rfl dX8_isSmall_17 ?_
      rw [q_b_t (c := 97 ≤ c ∧ c ≤ 122) (by omega)] at k0; exact k0
set_option maxRecDepth 100000 in
theorem mX8_isDigit {G : q_G} {sz : Nat} {T : q_T} {I L : q_I} {P : q_P} {Q : q_Q} {c : Int}  (hc : -2147483648 ≤ c ∧ c < 2147483648) (k0 : Q (.inl (some (qI (q_b (48 ≤ c ∧ c ≤ 57))))) sz T I L P) : qC G 0 0 0 YX8_isDigit [qI c] sz T I L P Q := by
  refine qC_of (by decide +kernel) rfl rfl (Nat.le_of_ble_eq_true rfl) (fun F hF _ _ => ?_)
  refine q_iload_n hF 0 rfl rfl dX8_isDigit_0 ?_
  refine q_bipush hF (n := 48) rfl dX8_isDigit_1 ?_
  refine q_icmplt hF hc (by decide) dX8_isDigit_3 (fun c3 => ?_) (fun c3 => ?_)
  · refine q_iconst hF dX8_isDigit_16 ?_
    refine q_zreturn hF (by decide) rfl dX8_isDigit_17 ?_
    rw [q_b_f (c := 48 ≤ c ∧ c ≤ 57) (by omega)] at k0; exact k0
  · refine q_iload_n hF 0 rfl rfl dX8_isDigit_6 ?_
    refine q_bipush hF (n := 57) rfl dX8_isDigit_7 ?_
    refine q_icmpgt hF hc (by decide) dX8_isDigit_9 (fun c9 => ?_) (fun c9 => ?_)
    · refine q_iconst hF dX8_isDigit_16 ?_
      refine q_zreturn hF (by decide) rfl dX8_isDigit_17 ?_
      rw [q_b_f (c := 48 ≤ c ∧ c ≤ 57) (by omega)] at k0; exact k0
    · refine q_iconst hF dX8_isDigit_12 ?_
      refine q_goto hF dX8_isDigit_13 ?_
      refine q_zreturn hF (by decide) rfl dX8_isDigit_17 ?_
      rw [q_b_t (c := 48 ≤ c ∧ c ≤ 57) (by omega)] at k0; exact k0
set_option maxRecDepth 100000 in
theorem mX8_fine {G : q_G} {sz : Nat} {T : q_T} {I L : q_I} {P : q_P} {Q : q_Q} {m : Nat}  (hT : T m = some (.inl 7)) (hr : q_rI I) (k0 : Q (.inl (some (qI (q_b (I m 6 = 0))))) sz T I L P) : qC G 0 0 0 YX8_fine [.ref m] sz T I L P Q := by
  refine qC_of (by decide +kernel) rfl rfl (Nat.le_of_ble_eq_true rfl) (fun F hF _ _ => ?_)
  refine q_aload_n hF 0 rfl rfl dX8_fine_0 ?_
  refine q_getIv hF (z := I m 6) fl_RX8_72 hT rfl dX8_fine_1 ?_
  refine q_ifne hF (by have := hr m 6; omega) dX8_fine_4 (fun c4 => ?_) (fun c4 => ?_)
  · refine q_iconst hF dX8_fine_11 ?_
    refine q_zreturn hF (by decide) rfl dX8_fine_12 ?_
    rw [q_b_f (c := I m 6 = 0) (by omega)] at k0; exact k0
  · refine q_iconst hF dX8_fine_7 ?_
    refine q_goto hF dX8_fine_8 ?_
    refine q_zreturn hF (by decide) rfl dX8_fine_12 ?_
    rw [q_b_t (c := I m 6 = 0) (by omega)] at k0; exact k0
set_option maxRecDepth 100000 in
theorem mX8_fault {G : q_G} {sz : Nat} {T : q_T} {I L : q_I} {P : q_P} {Q : q_Q} {m : Nat}  (hT : T m = some (.inl 7)) (hA : q_A G m) (k0 : Q (.inl (some (qI (I m 5)))) sz T (u2 I m 0 0) L P) : qC G 0 0 0 YX8_fault [.ref m] sz T I L P Q := by
  refine qC_of (by decide +kernel) rfl rfl (Nat.le_of_ble_eq_true rfl) (fun F hF _ _ => ?_)
  refine q_aload_n hF 0 rfl rfl dX8_fault_0 ?_
  refine q_iconst hF dX8_fault_1 ?_
  refine q_putI hF fl_RX8_52 hT hA dX8_fault_2 ?_
  refine q_aload_n hF 0 rfl rfl dX8_fault_5 ?_
  refine q_getIv hF (z := I m 5) fl_RX8_13 hT (u2_k _ _ (by decide)) dX8_fault_6 ?_
  refine q_ireturn hF rfl dX8_fault_9 ?_
  exact k0
def q_SM (T : q_T) (P : q_P) (m : Nat) : Prop := (T m = some (.inl 7)) ∧ (P m 1 = some (m + 1)) ∧ (T (m + 1) = some (.inr (0, 3))) ∧ (P m 8 = some (m + 2)) ∧ (T (m + 2) = some (.inr (0, 600))) ∧ (P m 9 = some (m + 3)) ∧ (T (m + 3) = some (.inr (1, 1243))) ∧ (P m 10 = some (m + 4)) ∧ (T (m + 4) = some (.inr (1, 1243))) ∧ (P m 11 = some (m + 5)) ∧ (T (m + 5) = some (.inr (1, 1243))) ∧ (P m 12 = some (m + 6)) ∧ (T (m + 6) = some (.inr (7, 8))) ∧ (P m 18 = some (m + 15)) ∧ (T (m + 15) = some (.inr (1, 900))) ∧ (P m 19 = some (m + 16)) ∧ (T (m + 16) = some (.inr (1, 12))) ∧ (P m 20 = some (m + 17)) ∧ (T (m + 17) = some (.inr (1, 12))) ∧ (∀ j : Nat, j < 8 → P (m + 6) j = some (m + 7 + j)) ∧ (∀ j : Nat, j < 8 → T (m + 7 + j) = some (.inr (1, 1243)))
theorem q_SM.t0 {T : q_T} {P : q_P} {m : Nat} (h : q_SM T P m) : T m = some (.inl 7) := h.1
theorem q_SM.p1 {T : q_T} {P : q_P} {m : Nat} (h : q_SM T P m) : P m 1 = some (m + 1) := h.2.1
theorem q_SM.t1 {T : q_T} {P : q_P} {m : Nat} (h : q_SM T P m) : T (m + 1) = some (.inr (0, 3)) := h.2.2.1
theorem q_SM.p8 {T : q_T} {P : q_P} {m : Nat} (h : q_SM T P m) : P m 8 = some (m + 2) := h.2.2.2.1
theorem q_SM.t2 {T : q_T} {P : q_P} {m : Nat} (h : q_SM T P m) : T (m + 2) = some (.inr (0, 600)) := h.2.2.2.2.1
theorem q_SM.p9 {T : q_T} {P : q_P} {m : Nat} (h : q_SM T P m) : P m 9 = some (m + 3) := h.2.2.2.2.2.1
theorem q_SM.t3 {T : q_T} {P : q_P} {m : Nat} (h : q_SM T P m) : T (m + 3) = some (.inr (1, 1243)) := h.2.2.2.2.2.2.1
theorem q_SM.p10 {T : q_T} {P : q_P} {m : Nat} (h : q_SM T P m) : P m 10 = some (m + 4) := h.2.2.2.2.2.2.2.1
theorem q_SM.t4 {T : q_T} {P : q_P} {m : Nat} (h : q_SM T P m) : T (m + 4) = some (.inr (1, 1243)) := h.2.2.2.2.2.2.2.2.1
theorem q_SM.p11 {T : q_T} {P : q_P} {m : Nat} (h : q_SM T P m) : P m 11 = some (m + 5) := h.2.2.2.2.2.2.2.2.2.1
theorem q_SM.t5 {T : q_T} {P : q_P} {m : Nat} (h : q_SM T P m) : T (m + 5) = some (.inr (1, 1243)) := h.2.2.2.2.2.2.2.2.2.2.1
theorem q_SM.p12 {T : q_T} {P : q_P} {m : Nat} (h : q_SM T P m) : P m 12 = some (m + 6) := h.2.2.2.2.2.2.2.2.2.2.2.1
theorem q_SM.t6 {T : q_T} {P : q_P} {m : Nat} (h : q_SM T P m) : T (m + 6) = some (.inr (7, 8)) := h.2.2.2.2.2.2.2.2.2.2.2.2.1
theorem q_SM.p18 {T : q_T} {P : q_P} {m : Nat} (h : q_SM T P m) : P m 18 = some (m + 15) := h.2.2.2.2.2.2.2.2.2.2.2.2.2.1
theorem q_SM.t15 {T : q_T} {P : q_P} {m : Nat} (h : q_SM T P m) : T (m + 15) = some (.inr (1, 900)) := h.2.2.2.2.2.2.2.2.2.2.2.2.2.2.1
theorem q_SM.p19 {T : q_T} {P : q_P} {m : Nat} (h : q_SM T P m) : P m 19 = some (m + 16) := h.2.2.2.2.2.2.2.2.2.2.2.2.2.2.2.1
theorem q_SM.t16 {T : q_T} {P : q_P} {m : Nat} (h : q_SM T P m) : T (m + 16) = some (.inr (1, 12)) := h.2.2.2.2.2.2.2.2.2.2.2.2.2.2.2.2.1
theorem q_SM.p20 {T : q_T} {P : q_P} {m : Nat} (h : q_SM T P m) : P m 20 = some (m + 17) := h.2.2.2.2.2.2.2.2.2.2.2.2.2.2.2.2.2.1
theorem q_SM.t17 {T : q_T} {P : q_P} {m : Nat} (h : q_SM T P m) : T (m + 17) = some (.inr (1, 12)) := h.2.2.2.2.2.2.2.2.2.2.2.2.2.2.2.2.2.2.1
theorem q_SM.pb {T : q_T} {P : q_P} {m : Nat} (h : q_SM T P m) : ∀ j : Nat, j < 8 → P (m + 6) j = some (m + 7 + j) := h.2.2.2.2.2.2.2.2.2.2.2.2.2.2.2.2.2.2.2.1
theorem q_SM.tb {T : q_T} {P : q_P} {m : Nat} (h : q_SM T P m) : ∀ j : Nat, j < 8 → T (m + 7 + j) = some (.inr (1, 1243)) := h.2.2.2.2.2.2.2.2.2.2.2.2.2.2.2.2.2.2.2.2
set_option maxRecDepth 100000 in
theorem mX8_less {G : q_G} {sz : Nat} {T : q_T} {I L : q_I} {P : q_P} {Q : q_Q} {a : Int} {b : Int}  (h1 : -9223372036854775808 ≤ a ∧ a < 9223372036854775808) (h2 : -9223372036854775808 ≤ b ∧ b < 9223372036854775808) (k0 : Q (.inl (some (qL (min a b)))) sz T I L P) : qC G 0 0 0 YX8_less [qL a, qL b] sz T I L P Q := by
  refine qC_of (by decide +kernel) rfl rfl (Nat.le_of_ble_eq_true rfl) (fun F hF _ _ => ?_)
  refine q_lload_n hF 0 rfl rfl dX8_less_0 ?_
  refine q_lload_n hF 1 rfl rfl dX8_less_1 ?_
  refine q_cmpge hF h1 h2 dX8_less_2 dX8_less_3 (fun c3 => ?_) (fun c3 => ?_)
  · refine q_lload_n hF 1 rfl rfl dX8_less_10 ?_
    refine q_lreturn hF rfl dX8_less_11 ?_
    rw [show (min a b) = b from by omega] at k0; exact k0
  · refine q_lload_n hF 0 rfl rfl dX8_less_6 ?_
    refine q_goto hF dX8_less_7 ?_
    refine q_lreturn hF rfl dX8_less_11 ?_
    rw [show (min a b) = a from by omega] at k0; exact k0
set_option maxRecDepth 100000 in
theorem mX8_more {G : q_G} {sz : Nat} {T : q_T} {I L : q_I} {P : q_P} {Q : q_Q} {a : Int} {b : Int}  (h1 : -9223372036854775808 ≤ a ∧ a < 9223372036854775808) (h2 : -9223372036854775808 ≤ b ∧ b < 9223372036854775808) (k0 : Q (.inl (some (qL (max a b)))) sz T I L P) : qC G 0 0 0 YX8_more [qL a, qL b] sz T I L P Q := by
  refine qC_of (by decide +kernel) rfl rfl (Nat.le_of_ble_eq_true rfl) (fun F hF _ _ => ?_)
  refine q_lload_n hF 0 rfl rfl dX8_more_0 ?_
  refine q_lload_n hF 1 rfl rfl dX8_more_1 ?_
  refine q_cmple hF h1 h2 dX8_more_2 dX8_more_3 (fun c3 => ?_) (fun c3 => ?_)
  · refine q_lload_n hF 1 rfl rfl dX8_more_10 ?_
    refine q_lreturn hF rfl dX8_more_11 ?_
    rw [show (max a b) = b from by omega] at k0; exact k0
  · refine q_lload_n hF 0 rfl rfl dX8_more_6 ?_
    refine q_goto hF dX8_more_7 ?_
    refine q_lreturn hF rfl dX8_more_11 ?_
    rw [show (max a b) = a from by omega] at k0; exact k0
set_option maxRecDepth 100000 in
theorem mX8_lands {G : q_G} {sz : Nat} {T : q_T} {I L : q_I} {P : q_P} {Q : q_Q} {m : Nat}  (hS : q_SM T P m) (k0 : Q (.inl (some (qI (L (m + 3) 0)))) sz T I L P) : qC G 0 0 0 YX8_lands [.ref m] sz T I L P Q := by
  refine qC_of (by decide +kernel) rfl rfl (Nat.le_of_ble_eq_true rfl) (fun F hF _ _ => ?_)
  refine q_aload_n hF 0 rfl rfl dX8_lands_0 ?_
  refine q_getA hF fl_RX8_20 rfl hS.t0 hS.p9 dX8_lands_1 ?_
  refine q_iconst hF dX8_lands_4 ?_
  refine q_laloadv hF (z := L (m + 3) 0) (n := 1243) 0 hS.t3 rfl (by decide) (by decide) rfl dX8_lands_5 ?_
  refine q_l2i hF dX8_lands_6 ?_
  refine q_ireturn hF rfl dX8_lands_7 ?_
  exact k0
set_option maxRecDepth 100000 in
theorem mX8_many {G : q_G} {sz : Nat} {T : q_T} {I L : q_I} {P : q_P} {Q : q_Q} {m : Nat}  (hS : q_SM T P m) (k0 : Q (.inl (some (qI (L (m + 3) 1)))) sz T I L P) : qC G 0 0 0 YX8_many [.ref m] sz T I L P Q := by
  refine qC_of (by decide +kernel) rfl rfl (Nat.le_of_ble_eq_true rfl) (fun F hF _ _ => ?_)
  refine q_aload_n hF 0 rfl rfl dX8_many_0 ?_
  refine q_getA hF fl_RX8_20 rfl hS.t0 hS.p9 dX8_many_1 ?_
  refine q_iconst hF dX8_many_4 ?_
  refine q_laloadv hF (z := L (m + 3) 1) (n := 1243) 1 hS.t3 rfl (by decide) (by decide) rfl dX8_many_5 ?_
  refine q_l2i hF dX8_many_6 ?_
  refine q_ireturn hF rfl dX8_many_7 ?_
  exact k0
set_option maxRecDepth 100000 in
theorem mX8_byteAt {G : q_G} {sz : Nat} {T : q_T} {I L : q_I} {P : q_P} {Q : q_Q} {m : Nat} {k : Int} {j : Nat} (hS : q_SM T P m) (hr : q_rI I) (hj : k = (j : Int)) (hz : I m 3 ≤ 600) (hk : -2147483648 ≤ k ∧ k < 2147483648) (k0 : Q (.inl (some (qI (if I m 3 ≤ k then -1 else I (m + 2) j)))) sz T I L P) : qC G 0 0 0 YX8_byteAt [.ref m, qI k] sz T I L P Q := by
  refine qC_of (by decide +kernel) rfl rfl (Nat.le_of_ble_eq_true rfl) (fun F hF _ _ => ?_)
  refine q_iload_n hF 1 rfl rfl dX8_byteAt_0 ?_
  refine q_aload_n hF 0 rfl rfl dX8_byteAt_1 ?_
  refine q_getIv hF (z := I m 3) fl_RX8_62 hS.t0 rfl dX8_byteAt_2 ?_
  refine q_icmplt hF hk (by have := hr m 3; omega) dX8_byteAt_5 (fun c5 => ?_) (fun c5 => ?_)
  · refine q_aload_n hF 0 rfl rfl dX8_byteAt_12 ?_
    refine q_getA hF fl_RX8_17 rfl hS.t0 hS.p8 dX8_byteAt_13 ?_
    refine q_iload_n hF 1 rfl rfl dX8_byteAt_16 ?_
    refine q_ialoadv hF (z := I (m + 2) j) (n := 600) j hS.t2 hj (by omega) (by decide) rfl dX8_byteAt_17 ?_
    refine q_ireturn hF rfl dX8_byteAt_18 ?_
    rw [show (if I m 3 ≤ k then -1 else I (m + 2) j) = (I (m + 2) j) from by split <;> first | rfl | omega] at k0; exact k0
  · refine q_iconst hF dX8_byteAt_8 ?_
    refine q_goto hF dX8_byteAt_9 ?_
    refine q_ireturn hF rfl dX8_byteAt_18 ?_
    rw [show (if I m 3 ≤ k then -1 else I (m + 2) j) = (-1) from by split <;> first | rfl | omega] at k0; exact k0
set_option maxRecDepth 100000 in
theorem mX8_wrong {G : q_G} {sz : Nat} {T : q_T} {I L : q_I} {P : q_P} {Q : q_Q} {m : Nat} {w : Int} {wh : Int}  (hS : q_SM T P m) (hSA : q_A G m) (hr : q_rI I) (k0 : (I m 6) ≠ 0 → Q (.inl none) sz T I L P) (k1 : (I m 6) = 0 → Q (.inl none) sz T (u2 (u2 I m 6 w) m 7 wh) L P) : qC G 0 0 0 YX8_wrong [.ref m, qI w, qI wh] sz T I L P Q := by
  refine qC_of (by decide +kernel) rfl rfl (Nat.le_of_ble_eq_true rfl) (fun F hF _ _ => ?_)
  refine q_aload_n hF 0 rfl rfl dX8_wrong_0 ?_
  refine q_getIv hF (z := I m 6) fl_RX8_72 hS.t0 rfl dX8_wrong_1 ?_
  refine q_ifne hF (by have := hr m 6; omega) dX8_wrong_4 (fun c4 => ?_) (fun c4 => ?_)
  · refine q_return hF rfl dX8_wrong_17 ?_
    exact k0 c4
  · refine q_aload_n hF 0 rfl rfl dX8_wrong_7 ?_
    refine q_iload_n hF 1 rfl rfl dX8_wrong_8 ?_
    refine q_putI hF fl_RX8_72 hS.t0 hSA dX8_wrong_9 ?_
    refine q_aload_n hF 0 rfl rfl dX8_wrong_12 ?_
    refine q_iload_n hF 2 rfl rfl dX8_wrong_13 ?_
    refine q_putI hF fl_RX8_75 hS.t0 hSA dX8_wrong_14 ?_
    refine q_return hF rfl dX8_wrong_17 ?_
    exact k1 c4
set_option maxRecDepth 100000 in
theorem mX8_bad {G : q_G} {sz : Nat} {T : q_T} {I L : q_I} {P : q_P} {Q : q_Q} {m : Nat} {b : Int} {w : Int} {re : Int} {j : Nat} (hS : q_SM T P m) (hSA : q_A G m) (hr : q_rI I) (hb : b = 0 ∨ b = 1) (hw : -2147483648 ≤ w ∧ w < 2147483648) (hj : re = (j : Int)) (hn : j < 3) (k0 : b = 0 → (I m 0) = 0 → Q (.inl (some (qI 0))) sz T I L P) (k1 : b = 0 → (I m 0) ≠ 0 → Q (.inl (some (qI 1))) sz T I L P) (k2 : b ≠ 0 → (I m 0) ≠ 0 → (I m 0) ≠ 0 → Q (.inl (some (qI 1))) sz T I L P) (k3 : b ≠ 0 → (I m 0) = 0 → w = 0 → Q (.inl (some (qI 0))) sz T (u2 (u2 I m 0 w) (m + 1) j ((I (m + 1) j) + 1)) L P) (k4 : b ≠ 0 → (I m 0) = 0 → w ≠ 0 → Q (.inl (some (qI 1))) sz T (u2 (u2 I m 0 w) (m + 1) j ((I (m + 1) j) + 1)) L P) : qC G 0 0 0 YX8_bad [.ref m, qI b, qI w, qI re] sz T I L P Q := by
  refine qC_of (by decide +kernel) rfl rfl (Nat.le_of_ble_eq_true rfl) (fun F hF _ _ => ?_)
  refine q_iload_n hF 1 rfl rfl dX8_bad_0 ?_
  refine q_ifeq hF (by omega) dX8_bad_1 (fun c1 => ?_) (fun c1 => ?_)
  · refine q_aload_n hF 0 rfl rfl dX8_bad_26 ?_
    refine q_getIv hF (z := I m 0) fl_RX8_52 hS.t0 rfl dX8_bad_27 ?_
    refine q_ifeq hF (by have := hr m 0; omega) dX8_bad_30 (fun c30 => ?_) (fun c30 => ?_)
    · refine q_iconst hF dX8_bad_37 ?_
      refine q_zreturn hF (by decide) rfl dX8_bad_38 ?_
      exact k0 c1 c30
    · refine q_iconst hF dX8_bad_33 ?_
      refine q_goto hF dX8_bad_34 ?_
      refine q_zreturn hF (by decide) rfl dX8_bad_38 ?_
      exact k1 c1 c30
  · refine q_aload_n hF 0 rfl rfl dX8_bad_4 ?_
    refine q_getIv hF (z := I m 0) fl_RX8_52 hS.t0 rfl dX8_bad_5 ?_
    refine q_ifne hF (by have := hr m 0; omega) dX8_bad_8 (fun c8 => ?_) (fun c8 => ?_)
    · refine q_aload_n hF 0 rfl rfl dX8_bad_26 ?_
      refine q_getIv hF (z := I m 0) fl_RX8_52 hS.t0 rfl dX8_bad_27 ?_
      refine q_ifeq hF (by have := hr m 0; omega) dX8_bad_30 (fun c30 => ?_) (fun c30 => ?_)
      · first | omega | exact absurd c30 c8 | exact absurd c8 c30
      · refine q_iconst hF dX8_bad_33 ?_
        refine q_goto hF dX8_bad_34 ?_
        refine q_zreturn hF (by decide) rfl dX8_bad_38 ?_
        exact k2 c1 c8 c30
    · refine q_aload_n hF 0 rfl rfl dX8_bad_11 ?_
      refine q_iload_n hF 2 rfl rfl dX8_bad_12 ?_
      refine q_putI hF fl_RX8_52 hS.t0 hSA dX8_bad_13 ?_
      refine q_aload_n hF 0 rfl rfl dX8_bad_16 ?_
      refine q_getA hF fl_RX8_9 rfl hS.t0 hS.p1 dX8_bad_17 ?_
      refine q_iload_n hF 3 rfl rfl dX8_bad_20 ?_
      refine q_dup2 hF rfl rfl dX8_bad_21 ?_
      refine q_ialoadv hF (z := I (m + 1) j) (n := 3) j hS.t1 hj hn (by decide) (u2_a _ _ (by omega)) dX8_bad_22 ?_
      refine q_iconst hF dX8_bad_23 ?_
      refine q_iadd hF dX8_bad_24 ?_
      refine q_iastorev hF (n := 3) j hS.t1 (q_Ale hSA (by omega)) hj hn (by decide) dX8_bad_25 ?_
      refine q_aload_n hF 0 rfl rfl dX8_bad_26 ?_
      refine q_getIv hF (z := w) fl_RX8_52 hS.t0 ((u2_a _ _ (by omega)).trans (u2_s _ _ _ _)) dX8_bad_27 ?_
      refine q_ifeq hF hw dX8_bad_30 (fun c30 => ?_) (fun c30 => ?_)
      · refine q_iconst hF dX8_bad_37 ?_
        refine q_zreturn hF (by decide) rfl dX8_bad_38 ?_
        exact k3 c1 c8 c30
      · refine q_iconst hF dX8_bad_33 ?_
        refine q_goto hF dX8_bad_34 ?_
        refine q_zreturn hF (by decide) rfl dX8_bad_38 ?_
        exact k4 c1 c8 c30
