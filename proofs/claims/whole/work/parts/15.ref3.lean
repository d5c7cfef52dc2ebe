/-! the reference: an account of a row -/
set_option maxRecDepth 100000 in
theorem mX8_isOpen {G : q_G} {sz : Nat} {T : q_T} {I L : q_I} {P : q_P} {Q : q_Q} {r : Nat} {i : Nat} (hR : T r = some (.inr (1, 1243))) (hi : i < 12) (hs : 0 ≤ L r (1043 + 12 * i) ∧ L r (1043 + 12 * i) ≤ 4) (k0 : Q (.inl (some (qI (q_b (L r (1043 + 12 * i) = 0 ∨ L r (1043 + 12 * i) = 1))))) sz T I L P) : qC G 2 0 0 YX8_isOpen [.ref r, qI (i : Int)] sz T I L P Q := by
  refine qC_of (by decide +kernel) rfl rfl (Nat.le_of_ble_eq_true rfl) (fun F hF _ _ => ?_)
  refine q_aload_n hF 0 rfl rfl dX8_isOpen_0 ?_
  refine q_iload_n hF 1 rfl rfl dX8_isOpen_1 ?_
  refine q_iconst hF dX8_isOpen_2 ?_
  refine q_callS (kc := 0) (ks := 0) (mc' := 0) (ms' := 0) (h' := 1) (st := []) hF sl_RX8_268 rfl [.ref r, qI (i : Int), qI 4] rfl rfl (by decide) (Nat.le_of_ble_eq_true rfl) dX8_isOpen_3 ?_
  refine mX8_of (j := (1043 + 12 * i)) hR (by omega) (by omega) ?_
  refine q_lconst hF (z := 0) rfl dX8_isOpen_6 ?_
  refine q_cmpeq hF (by omega) (by decide) dX8_isOpen_7 dX8_isOpen_8 (fun c8 => ?_) (fun c8 => ?_)
  · refine q_iconst hF dX8_isOpen_22 ?_
    refine q_goto hF dX8_isOpen_23 ?_
    refine q_zreturn hF (by decide) rfl dX8_isOpen_27 ?_
    rw [q_b_t (c := L r (1043 + 12 * i) = 0 ∨ L r (1043 + 12 * i) = 1) (by omega)] at k0; exact k0
  · refine q_aload_n hF 0 rfl rfl dX8_isOpen_11 ?_
    refine q_iload_n hF 1 rfl rfl dX8_isOpen_12 ?_
    refine q_iconst hF dX8_isOpen_13 ?_
    refine q_callS (kc := 0) (ks := 0) (mc' := 0) (ms' := 0) (h' := 1) (st := []) hF sl_RX8_268 rfl [.ref r, qI (i : Int), qI 4] rfl rfl (by decide) (Nat.le_of_ble_eq_true rfl) dX8_isOpen_14 ?_
    refine mX8_of (j := (1043 + 12 * i)) hR (by omega) (by omega) ?_
    refine q_lconst hF (z := 1) rfl dX8_isOpen_17 ?_
    refine q_cmpne hF (by omega) (by decide) dX8_isOpen_18 dX8_isOpen_19 (fun c19 => ?_) (fun c19 => ?_)
    · refine q_iconst hF dX8_isOpen_26 ?_
      refine q_zreturn hF (by decide) rfl dX8_isOpen_27 ?_
      rw [q_b_f (c := L r (1043 + 12 * i) = 0 ∨ L r (1043 + 12 * i) = 1) (by omega)] at k0; exact k0
    · refine q_iconst hF dX8_isOpen_22 ?_
      refine q_goto hF dX8_isOpen_23 ?_
      refine q_zreturn hF (by decide) rfl dX8_isOpen_27 ?_
      rw [q_b_t (c := L r (1043 + 12 * i) = 0 ∨ L r (1043 + 12 * i) = 1) (by omega)] at k0; exact k0
set_option maxRecDepth 100000 in
theorem mX8_takesKind {G : q_G} {sz : Nat} {T : q_T} {I L : q_I} {P : q_P} {Q : q_Q} {r : Nat} {l : Int} {kd : Int} {j : Nat} (hR : T r = some (.inr (1, 1243))) (hj : 90 + 2 * (5 * kd + l) = (j : Int)) (hn : j < 1243) (hs : -9223372036854775808 ≤ L r j ∧ L r j < 9223372036854775808) (k0 : Q (.inl (some (qI (q_b (0 < L r j))))) sz T I L P) : qC G 1 0 0 YX8_takesKind [.ref r, qI l, qI kd] sz T I L P Q := by
  refine qC_of (by decide +kernel) rfl rfl (Nat.le_of_ble_eq_true rfl) (fun F hF _ _ => ?_)
  refine q_aload_n hF 0 rfl rfl dX8_takesKind_0 ?_
  refine q_iload_n hF 2 rfl rfl dX8_takesKind_1 ?_
  refine q_iload_n hF 1 rfl rfl dX8_takesKind_2 ?_
  refine q_callS (kc := 0) (ks := 0) (mc' := 0) (ms' := 0) (h' := 0) (st := [.ref r]) hF sl_RX8_226 rfl [qI kd, qI l] rfl rfl (by decide) (Nat.le_of_ble_eq_true rfl) dX8_takesKind_3 ?_
  refine mX8_lawAt ?_
  refine q_iconst hF dX8_takesKind_6 ?_
  refine q_iadd hF dX8_takesKind_7 ?_
  refine q_laloadv hF (z := L r j) (n := 1243) j hR (by omega) hn (by decide) rfl dX8_takesKind_8 ?_
  refine q_lconst hF (z := 0) rfl dX8_takesKind_9 ?_
  refine q_cmple hF hs (by decide) dX8_takesKind_10 dX8_takesKind_11 (fun c11 => ?_) (fun c11 => ?_)
  · refine q_iconst hF dX8_takesKind_18 ?_
    refine q_zreturn hF (by decide) rfl dX8_takesKind_19 ?_
    rw [q_b_f (c := 0 < L r j) (by omega)] at k0; exact k0
  · refine q_iconst hF dX8_takesKind_14 ?_
    refine q_goto hF dX8_takesKind_15 ?_
    refine q_zreturn hF (by decide) rfl dX8_takesKind_19 ?_
    rw [q_b_t (c := 0 < L r j) (by omega)] at k0; exact k0
set_option maxRecDepth 100000 in
theorem mX8_touches {G : q_G} {sz : Nat} {T : q_T} {I L : q_I} {P : q_P} {Q : q_Q} {r : Nat} {i : Nat} (hR : T r = some (.inr (1, 1243))) (hRA : q_A G r) (hi : i < 12) (k0 : Q (.inl none) sz T I (u2 (u2 L r (1045 + 12 * i) 0) r (1043 + 12 * i) 0) P) : qC G 2 0 0 YX8_touches [.ref r, qI (i : Int)] sz T I L P Q := by
  refine qC_of (by decide +kernel) rfl rfl (Nat.le_of_ble_eq_true rfl) (fun F hF _ _ => ?_)
  refine q_aload_n hF 0 rfl rfl dX8_touches_0 ?_
  refine q_iload_n hF 1 rfl rfl dX8_touches_1 ?_
  refine q_bipush hF (n := 6) rfl dX8_touches_2 ?_
  refine q_lconst hF (z := 0) rfl dX8_touches_4 ?_
  refine q_callS (kc := 0) (ks := 0) (mc' := 0) (ms' := 0) (h' := 1) (st := []) hF sl_RX8_299 rfl [.ref r, qI (i : Int), qI 6, qL 0] rfl rfl (by decide) (Nat.le_of_ble_eq_true rfl) dX8_touches_5 ?_
  refine mX8_sets (j := (1045 + 12 * i)) hR hRA (by omega) (by omega) ?_
  refine q_aload_n hF 0 rfl rfl dX8_touches_8 ?_
  refine q_iload_n hF 1 rfl rfl dX8_touches_9 ?_
  refine q_iconst hF dX8_touches_10 ?_
  refine q_lconst hF (z := 0) rfl dX8_touches_11 ?_
  refine q_callS (kc := 0) (ks := 0) (mc' := 0) (ms' := 0) (h' := 1) (st := []) hF sl_RX8_299 rfl [.ref r, qI (i : Int), qI 4, qL 0] rfl rfl (by decide) (Nat.le_of_ble_eq_true rfl) dX8_touches_12 ?_
  refine mX8_sets (j := (1043 + 12 * i)) hR hRA (by omega) (by omega) ?_
  refine q_return hF rfl dX8_touches_15 ?_
  exact k0
set_option maxRecDepth 100000 in
theorem mX8_held {G : q_G} {sz : Nat} {T : q_T} {I L : q_I} {P : q_P} {Q : q_Q} {v : Int}  (h1 : -9223372036854775808 ≤ v ∧ v < 9223372036854775808) (k0 : Q (.inl (some (qL (g_held v)))) sz T I L P) : qC G 0 0 0 YX8_held [qL v] sz T I L P Q := by
  refine qC_of (by decide +kernel) rfl rfl (Nat.le_of_ble_eq_true rfl) (fun F hF _ _ => ?_)
  refine q_lload_n hF 0 rfl rfl dX8_held_0 ?_
  refine q_ldc2 hF (n := 1000000000000) (q_mem 1610 (by decide +kernel) rfl) dX8_held_1 ?_
  refine q_cmple hF h1 (by decide) dX8_held_4 dX8_held_5 (fun c5 => ?_) (fun c5 => ?_)
  · refine q_lload_n hF 0 rfl rfl dX8_held_14 ?_
    refine q_ldc2 hF (n := -1000000000000) (q_mem 1611 (by decide +kernel) rfl) dX8_held_15 ?_
    refine q_cmpge hF h1 (by decide) dX8_held_18 dX8_held_19 (fun c19 => ?_) (fun c19 => ?_)
    · refine q_lload_n hF 0 rfl rfl dX8_held_28 ?_
      refine q_lreturn hF rfl dX8_held_29 ?_
      rw [show (g_held v) = v from by unfold g_held; (repeat' split) <;> omega] at k0; exact k0
    · refine q_ldc2 hF (n := -1000000000000) (q_mem 1611 (by decide +kernel) rfl) dX8_held_22 ?_
      refine q_goto hF dX8_held_25 ?_
      refine q_lreturn hF rfl dX8_held_29 ?_
      rw [show (g_held v) = (-1000000000000) from by unfold g_held; (repeat' split) <;> omega] at k0; exact k0
  · refine q_ldc2 hF (n := 1000000000000) (q_mem 1610 (by decide +kernel) rfl) dX8_held_8 ?_
    refine q_goto hF dX8_held_11 ?_
    refine q_lreturn hF rfl dX8_held_29 ?_
    rw [show (g_held v) = 1000000000000 from by unfold g_held; (repeat' split) <;> omega] at k0; exact k0
set_option maxRecDepth 100000 in
theorem mX8_writesTo {G : q_G} {sz : Nat} {T : q_T} {I L : q_I} {P : q_P} {Q : q_Q} {m : Nat} {r : Nat} {nx : Int} {i : Nat} (hR : T r = some (.inr (1, 1243))) (hRA : q_A G r) (hi : i < 12) (h4 : 0 ≤ L r 4 ∧ L r 4 ≤ 999) (hc : 0 ≤ L r (1042 + 12 * i) ∧ L r (1042 + 12 * i) ≤ 100000000) (k0 : Q (.inl none) sz T I (u2 (u2 (u2 (u2 (u2 (u2 L r (1042 + 12 * i) ((L r (1042 + 12 * i)) + (-(min (L r 4) (L r (1042 + 12 * i)))))) r 20 ((L r 20) + (min (L r 4) (L r (1042 + 12 * i))))) r (1046 + 12 * i) ((L r (1046 + 12 * i)) + 1)) r (1043 + 12 * i) 1) r (1048 + 12 * i) nx) r 7 ((L r 7) + 1)) P) : qC G 2 0 0 YX8_writesTo [.ref m, .ref r, qI (i : Int), qL nx] sz T I L P Q := by
  refine qC_of (by decide +kernel) rfl rfl (Nat.le_of_ble_eq_true rfl) (fun F hF _ _ => ?_)
  refine q_aload_n hF 1 rfl rfl dX8_writesTo_0 ?_
  refine q_iconst hF dX8_writesTo_1 ?_
  refine q_laloadv hF (z := L r 4) (n := 1243) 4 hR rfl (by decide) (by decide) rfl dX8_writesTo_2 ?_
  refine q_aload_n hF 1 rfl rfl dX8_writesTo_3 ?_
  refine q_iload_n hF 2 rfl rfl dX8_writesTo_4 ?_
  refine q_iconst hF dX8_writesTo_5 ?_
  refine q_callS (kc := 0) (ks := 0) (mc' := 0) (ms' := 0) (h' := 1) (st := [qL (L r 4)]) hF sl_RX8_268 rfl [.ref r, qI (i : Int), qI 3] rfl rfl (by decide) (Nat.le_of_ble_eq_true rfl) dX8_writesTo_6 ?_
  refine mX8_of (j := (1042 + 12 * i)) hR (by omega) (by omega) ?_
  refine q_callS (kc := 0) (ks := 0) (mc' := 0) (ms' := 0) (h' := 0) (st := []) hF sl_RX8_119 rfl [qL (L r 4), qL (L r (1042 + 12 * i))] rfl rfl (by decide) (Nat.le_of_ble_eq_true rfl) dX8_writesTo_9 ?_
  refine mX8_less (by omega) (by omega) ?_
  refine q_lstore hF (ls' := [(5, qL (min (L r 4) (L r (1042 + 12 * i)))), (0, .ref m), (1, .ref r), (2, qI (i : Int)), (3, qL nx)]) (by decide) rfl dX8_writesTo_12 ?_
  refine q_aload_n hF 2 rfl rfl dX8_writesTo_14 ?_
  refine q_iload_n hF 3 rfl rfl dX8_writesTo_15 ?_
  refine q_iconst hF dX8_writesTo_16 ?_
  refine q_lload hF 0 rfl dX8_writesTo_17 ?_
  refine q_lneg hF dX8_writesTo_19 ?_
  refine q_callS (kc := 0) (ks := 0) (mc' := 0) (ms' := 0) (h' := 1) (st := []) hF sl_RX8_295 rfl [.ref r, qI (i : Int), qI 3, qL (-(min (L r 4) (L r (1042 + 12 * i))))] rfl rfl (by decide) (Nat.le_of_ble_eq_true rfl) dX8_writesTo_20 ?_
  refine mX8_adds (j := (1042 + 12 * i)) hR hRA (by omega) (by omega) ?_
  refine q_aload_n hF 2 rfl rfl dX8_writesTo_23 ?_
  refine q_bipush hF (n := 20) rfl dX8_writesTo_24 ?_
  refine q_dup2 hF rfl rfl dX8_writesTo_26 ?_
  refine q_laloadv hF (z := L r 20) (n := 1243) 20 hR rfl (by decide) (by decide) (u2_k _ _ (by omega)) dX8_writesTo_27 ?_
  refine q_lload hF 0 rfl dX8_writesTo_28 ?_
  refine q_ladd hF dX8_writesTo_30 ?_
  refine q_lastorev hF (n := 1243) 20 hR hRA rfl (by decide) (by decide) dX8_writesTo_31 ?_
  refine q_aload_n hF 2 rfl rfl dX8_writesTo_32 ?_
  refine q_iload_n hF 3 rfl rfl dX8_writesTo_33 ?_
  refine q_bipush hF (n := 7) rfl dX8_writesTo_34 ?_
  refine q_lconst hF (z := 1) rfl dX8_writesTo_36 ?_
  refine q_callS (kc := 0) (ks := 0) (mc' := 0) (ms' := 0) (h' := 1) (st := []) hF sl_RX8_295 rfl [.ref r, qI (i : Int), qI 7, qL 1] rfl rfl (by decide) (Nat.le_of_ble_eq_true rfl) dX8_writesTo_37 ?_
  refine mX8_adds (j := (1046 + 12 * i)) hR hRA (by omega) (by omega) ?_
  rw [show (u2 (u2 L r (1042 + 12 * i) ((L r (1042 + 12 * i)) + (-(min (L r 4) (L r (1042 + 12 * i)))))) r 20 ((L r 20) + (min (L r 4) (L r (1042 + 12 * i))))) r (1046 + 12 * i) = L r (1046 + 12 * i) from ((u2_k _ _ (by omega)).trans (u2_k _ _ (by omega)))]
  refine q_aload_n hF 2 rfl rfl dX8_writesTo_40 ?_
  refine q_iload_n hF 3 rfl rfl dX8_writesTo_41 ?_
  refine q_iconst hF dX8_writesTo_42 ?_
  refine q_lconst hF (z := 1) rfl dX8_writesTo_43 ?_
  refine q_callS (kc := 0) (ks := 0) (mc' := 0) (ms' := 0) (h' := 1) (st := []) hF sl_RX8_299 rfl [.ref r, qI (i : Int), qI 4, qL 1] rfl rfl (by decide) (Nat.le_of_ble_eq_true rfl) dX8_writesTo_44 ?_
  refine mX8_sets (j := (1043 + 12 * i)) hR hRA (by omega) (by omega) ?_
  refine q_aload_n hF 2 rfl rfl dX8_writesTo_47 ?_
  refine q_iload_n hF 3 rfl rfl dX8_writesTo_48 ?_
  refine q_bipush hF (n := 9) rfl dX8_writesTo_49 ?_
  refine q_lload_n hF 4 rfl rfl dX8_writesTo_51 ?_
  refine q_callS (kc := 0) (ks := 0) (mc' := 0) (ms' := 0) (h' := 1) (st := []) hF sl_RX8_299 rfl [.ref r, qI (i : Int), qI 9, qL nx] rfl rfl (by decide) (Nat.le_of_ble_eq_true rfl) dX8_writesTo_52 ?_
  refine mX8_sets (j := (1048 + 12 * i)) hR hRA (by omega) (by omega) ?_
  refine q_aload_n hF 2 rfl rfl dX8_writesTo_55 ?_
  refine q_bipush hF (n := 7) rfl dX8_writesTo_56 ?_
  refine q_dup2 hF rfl rfl dX8_writesTo_58 ?_
  refine q_laloadv hF (z := L r 7) (n := 1243) 7 hR rfl (by decide) (by decide) ((u2_k _ _ (by omega)).trans ((u2_k _ _ (by omega)).trans ((u2_k _ _ (by omega)).trans ((u2_k _ _ (by decide)).trans (u2_k _ _ (by omega)))))) dX8_writesTo_59 ?_
  refine q_lconst hF (z := 1) rfl dX8_writesTo_60 ?_
  refine q_ladd hF dX8_writesTo_61 ?_
  refine q_lastorev hF (n := 1243) 7 hR hRA rfl (by decide) (by decide) dX8_writesTo_62 ?_
  refine q_return hF rfl dX8_writesTo_63 ?_
  exact k0
theorem mX8_writesTo' {G : q_G} {sz : Nat} {T : q_T} {I L : q_I} {P : q_P} {Q : q_Q} {m r : Nat} {nx : Int} {i : Nat} (hR : T r = some (.inr (1, 1243))) (hRA : q_A G r) (hi : i < 12) (h4 : 0 ≤ L r 4 ∧ L r 4 ≤ 999) (hc : 0 ≤ L r (1042 + 12 * i) ∧ L r (1042 + 12 * i) ≤ 100000000) (k0 : Q (.inl none) sz T I (q_row L r (g_wr (L r) i nx)) P) : qC G 2 0 0 YX8_writesTo [.ref m, .ref r, qI (i : Int), qL nx] sz T I L P Q := by
  refine mX8_writesTo hR hRA hi h4 hc ?_
  rw [q_row_u1 L, q_row_u, q_row_u, q_row_u, q_row_u, q_row_u]
  exact k0
set_option maxRecDepth 100000 in
theorem lX8_belongs {G : q_G} {F : q_F} {Q : q_Q} {kc ks sz : Nat} {T : q_T} {r i : Nat} {bd : Int} {I L : q_I} {P : q_P} (hF : q_ok G F YX8_belongs 2) (hR : T r = some (.inr (1, 1243))) (hi : i < 12) (hv : g_V0 (L r)) (ha : g_VA (L r) i bd) (hbd : bd ≤ 7000) (k0 : Q (.inl (some (qI (g_bel (L r) i)))) sz T I L P) : ∀ (n : Nat) (k : Nat), 3 - k < n → k ≤ 3 → g_belF (L r) i (4 - k) k = g_bel (L r) i → qX G F Q kc ks 2 [(2, qI (k : Int)), (0, .ref r), (1, qI (i : Int))] [] sz T I L P := by
  intro n
  induction n with
  | zero => intro k hn; exact absurd hn (Nat.not_lt_zero _)
  | succ n ih =>
    intro k hn hk hg
    have f1 := hv.ords
    have f2 := hv.lands
    have f3 := ha.kind
    have f4 := g_pl_r hv ha k
    refine q_iload_n hF 0 rfl rfl dX8_belongs_2 ?_
    refine q_i2l hF (by omega) dX8_belongs_3 ?_
    refine q_aload_n hF 1 rfl rfl dX8_belongs_4 ?_
    refine q_bipush hF (n := 8) rfl dX8_belongs_5 ?_
    refine q_laloadv hF (z := L r 8) (n := 1243) 8 hR rfl (by decide) (by decide) rfl dX8_belongs_7 ?_
    refine q_cmpge hF (by omega) (by omega) dX8_belongs_8 dX8_belongs_9 (fun c9 => ?_) (fun c9 => ?_)
    · refine q_iconst hF dX8_belongs_90 ?_
      refine q_ireturn hF rfl dX8_belongs_91 ?_
      rw [show g_bel (L r) i = -1 from by rw [← hg]; cases h4 : 4 - k <;> simp only [g_belF]; rw [if_neg (by omega)]] at k0; exact k0
    · refine q_aload_n hF 1 rfl rfl dX8_belongs_12 ?_
      refine q_bipush hF (n := 9) rfl dX8_belongs_13 ?_
      refine q_iload_n hF 0 rfl rfl dX8_belongs_15 ?_
      refine q_iadd hF dX8_belongs_16 ?_
      refine q_laloadv hF (z := L r (9 + k)) (n := 1243) (9 + k) hR (by omega) (by omega) (by decide) rfl dX8_belongs_17 ?_
      refine q_lstore_n hF (ls' := [(3, qL (L r (9 + k))), (2, qI (k : Int)), (0, .ref r), (1, qI (i : Int))]) rfl (by decide) rfl dX8_belongs_18 ?_
      have hJ19 : qX G F Q kc ks 52 [(3, qL (L r (9 + k))), (2, qI (k : Int)), (0, .ref r), (1, qI (i : Int))] [qL (g_pl (L r) i k)] sz T I L P := by
        refine q_lstore hF (ls' := [(5, qL (g_pl (L r) i k)), (3, qL (L r (9 + k))), (2, qI (k : Int)), (0, .ref r), (1, qI (i : Int))]) (by decide) rfl dX8_belongs_52 ?_
        refine q_lload hF 0 rfl dX8_belongs_54 ?_
        refine q_ldc2 hF (n := -1) (q_mem 1274 (by decide +kernel) rfl) dX8_belongs_56 ?_
        refine q_cmpeq hF (by omega) (by decide) dX8_belongs_59 dX8_belongs_60 (fun c60 => ?_) (fun c60 => ?_)
        · refine q_iinc hF (z' := ((k + 1 : Nat) : Int)) (ls' := [(2, qI ((k + 1 : Nat) : Int)), (5, qL (g_pl (L r) i k)), (3, qL (L r (9 + k))), (0, .ref r), (1, qI (i : Int))]) 2 rfl (by first | rfl | omega) (by decide) rfl dX8_belongs_84 ?_
          refine q_goto hF dX8_belongs_87 ?_
          refine q_sub [0, 3, 4] rfl ?_
          refine ih (k + 1) (by omega) (by omega) ?_
          rw [← hg, show 4 - k = (4 - (k + 1)) + 1 by omega, g_belF, if_pos (by omega), if_neg (by intro h; first | exact absurd h.1 (by omega) | exact absurd h.2 (by omega))]
        · refine q_aload_n hF 3 rfl rfl dX8_belongs_63 ?_
          refine q_lload hF 0 rfl dX8_belongs_64 ?_
          refine q_l2i hF dX8_belongs_66 ?_
          refine q_aload_n hF 3 rfl rfl dX8_belongs_67 ?_
          refine q_iload_n hF 4 rfl rfl dX8_belongs_68 ?_
          refine q_iconst hF dX8_belongs_69 ?_
          refine q_callS (kc := kc) (ks := ks) (mc' := 0) (ms' := 0) (h' := 1) (st := [qI (g_pl (L r) i k), .ref r]) hF sl_RX8_268 rfl [.ref r, qI (i : Int), qI 0] rfl rfl (by decide) (Nat.le_of_ble_eq_true rfl) dX8_belongs_70 ?_
          refine mX8_of (j := (1039 + 12 * i)) hR (by omega) (by omega) ?_
          refine q_l2i hF dX8_belongs_73 ?_
          refine q_callS (kc := kc) (ks := ks) (mc' := 0) (ms' := 0) (h' := 1) (st := []) hF sl_RX8_272 rfl [.ref r, qI (g_pl (L r) i k), qI (L r (1039 + 12 * i))] rfl rfl (by decide) (Nat.le_of_ble_eq_true rfl) dX8_belongs_74 ?_
          refine mX8_takesKind (j := (g_law (L r (1039 + 12 * i)) (g_pl (L r) i k) + 1)) hR (by unfold g_law; omega) (by unfold g_law; omega) (by have := hv.lawr f3 (l := g_pl (L r) i k) (by omega); omega) ?_
          refine q_ifeq_b hF dX8_belongs_77 (fun c77 => ?_) (fun c77 => ?_)
          · refine q_iinc hF (z' := ((k + 1 : Nat) : Int)) (ls' := [(2, qI ((k + 1 : Nat) : Int)), (5, qL (g_pl (L r) i k)), (3, qL (L r (9 + k))), (0, .ref r), (1, qI (i : Int))]) 2 rfl (by first | rfl | omega) (by decide) rfl dX8_belongs_84 ?_
            refine q_goto hF dX8_belongs_87 ?_
            refine q_sub [0, 3, 4] rfl ?_
            refine ih (k + 1) (by omega) (by omega) ?_
            rw [← hg, show 4 - k = (4 - (k + 1)) + 1 by omega, g_belF, if_pos (by omega), if_neg (by intro h; first | exact absurd h.1 (by omega) | exact absurd h.2 (by omega))]
          · refine q_lload hF 0 rfl dX8_belongs_80 ?_
            refine q_l2i hF dX8_belongs_82 ?_
            refine q_ireturn hF rfl dX8_belongs_83 ?_
            rw [show g_bel (L r) i = g_pl (L r) i k from by rw [← hg, show 4 - k = (3 - k) + 1 by omega, g_belF, if_pos (by omega), if_pos ⟨by omega, by omega⟩]] at k0; exact k0
      refine q_lload_n hF 0 rfl rfl dX8_belongs_19 ?_
      refine q_lconst hF (z := 0) rfl dX8_belongs_20 ?_
      refine q_cmpne hF (by have := hv.ord k (by omega); omega) (by decide) dX8_belongs_21 dX8_belongs_22 (fun c22 => ?_) (fun c22 => ?_)
      · refine q_lload_n hF 0 rfl rfl dX8_belongs_34 ?_
        refine q_lconst hF (z := 1) rfl dX8_belongs_35 ?_
        refine q_cmpne hF (by have := hv.ord k (by omega); omega) (by decide) dX8_belongs_36 dX8_belongs_37 (fun c37 => ?_) (fun c37 => ?_)
        · refine q_aload_n hF 2 rfl rfl dX8_belongs_49 ?_
          refine q_iconst hF dX8_belongs_50 ?_
          refine q_laloadv hF (z := L r 5) (n := 1243) 5 hR rfl (by decide) (by decide) rfl dX8_belongs_51 ?_
          rw [show (g_pl (L r) i k) = (L r 5) from by unfold g_pl; (repeat' split) <;> first | rfl | omega] at hJ19; exact hJ19
        · refine q_aload_n hF 2 rfl rfl dX8_belongs_40 ?_
          refine q_iload_n hF 3 rfl rfl dX8_belongs_41 ?_
          refine q_iconst hF dX8_belongs_42 ?_
          refine q_callS (kc := kc) (ks := ks) (mc' := 0) (ms' := 0) (h' := 1) (st := []) hF sl_RX8_268 rfl [.ref r, qI (i : Int), qI 2] rfl rfl (by decide) (Nat.le_of_ble_eq_true rfl) dX8_belongs_43 ?_
          refine mX8_of (j := (1041 + 12 * i)) hR (by omega) (by omega) ?_
          refine q_goto hF dX8_belongs_46 ?_
          rw [show (g_pl (L r) i k) = (L r (1041 + 12 * i)) from by unfold g_pl; (repeat' split) <;> first | rfl | omega] at hJ19; exact hJ19
      · refine q_aload_n hF 2 rfl rfl dX8_belongs_25 ?_
        refine q_iload_n hF 3 rfl rfl dX8_belongs_26 ?_
        refine q_iconst hF dX8_belongs_27 ?_
        refine q_callS (kc := kc) (ks := ks) (mc' := 0) (ms' := 0) (h' := 1) (st := []) hF sl_RX8_268 rfl [.ref r, qI (i : Int), qI 1] rfl rfl (by decide) (Nat.le_of_ble_eq_true rfl) dX8_belongs_28 ?_
        refine mX8_of (j := (1040 + 12 * i)) hR (by omega) (by omega) ?_
        refine q_goto hF dX8_belongs_31 ?_
        rw [show (g_pl (L r) i k) = (L r (1040 + 12 * i)) from by unfold g_pl; (repeat' split) <;> first | rfl | omega] at hJ19; exact hJ19
set_option maxRecDepth 100000 in
theorem mX8_belongs {G : q_G} {sz : Nat} {T : q_T} {I L : q_I} {P : q_P} {Q : q_Q} {r : Nat} {i : Nat} {bd : Int} (hR : T r = some (.inr (1, 1243))) (hi : i < 12) (hv : g_V0 (L r)) (ha : g_VA (L r) i bd) (hbd : bd ≤ 7000) (k0 : Q (.inl (some (qI (g_bel (L r) i)))) sz T I L P) : qC G 2 0 0 YX8_belongs [.ref r, qI (i : Int)] sz T I L P Q := by
  refine qC_of (by decide +kernel) rfl rfl (Nat.le_of_ble_eq_true rfl) (fun F hF _ _ => ?_)
  refine q_iconst hF dX8_belongs_0 ?_
  refine q_istore_n hF (ls' := [(2, qI 0), (0, .ref r), (1, qI (i : Int))]) rfl (by decide) rfl dX8_belongs_1 ?_
  exact lX8_belongs (I := I) (L := L) (P := P) hF hR hi hv ha hbd k0 4 0 (by omega) (by omega) rfl
