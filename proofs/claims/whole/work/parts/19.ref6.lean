/-! the reference: an account is handed over; a month for one account -/
set_option maxRecDepth 100000 in
theorem mX8_hands {G : q_G} {sz : Nat} {T : q_T} {I L : q_I} {P : q_P} {Q : q_Q} {m : Nat} {r : Nat} {nx : Int} {a l k : Nat} (hR : T r = some (.inr (1, 1243))) (hRA : q_A G r) (hi : a < 12) (hl : l < 5) (hk : L r 6 = (k : Int)) (hk2 : k < 12) (hc : 0 ≤ L r (1042 + 12 * a) ∧ L r (1042 + 12 * a) ≤ 100000000) (hm : 0 ≤ L r (32 + 13 * l) ∧ L r (32 + 13 * l) ≤ 9999) (k0 : Q (.inl none) sz T I (u2 (u2 (u2 (u2 (u2 (u2 (u2 (u2 (u2 (u2 L r (1183 + 5 * k) nx) r (1184 + 5 * k) (a : Int)) r (1185 + 5 * k) (l : Int)) r (1186 + 5 * k) (L r (1042 + 12 * a))) r (1187 + 5 * k) (q_b (L r (1042 + 12 * a) < L r (32 + 13 * l)))) r 6 ((k : Int) + 1)) r (1043 + 12 * a) 2) r (1047 + 12 * a) (l : Int)) r (1049 + 12 * a) (q_b (L r (1042 + 12 * a) < L r (32 + 13 * l)))) r (1050 + 12 * a) nx) P) : qC G 2 0 0 YX8_hands [.ref m, .ref r, qI (a : Int), qI (l : Int), qL nx] sz T I L P Q := by
  refine qC_of (by decide +kernel) rfl rfl (Nat.le_of_ble_eq_true rfl) (fun F hF _ _ => ?_)
  refine q_aload_n hF 1 rfl rfl dX8_hands_0 ?_
  refine q_iload_n hF 2 rfl rfl dX8_hands_1 ?_
  refine q_iconst hF dX8_hands_2 ?_
  refine q_callS (kc := 0) (ks := 0) (mc' := 0) (ms' := 0) (h' := 1) (st := []) hF sl_RX8_268 rfl [.ref r, qI (a : Int), qI 3] rfl rfl (by decide) (Nat.le_of_ble_eq_true rfl) dX8_hands_3 ?_
  refine mX8_of (j := (1042 + 12 * a)) hR (by omega) (by omega) ?_
  refine q_lstore hF (ls' := [(6, qL (L r (1042 + 12 * a))), (0, .ref m), (1, .ref r), (2, qI (a : Int)), (3, qI (l : Int)), (4, qL nx)]) (by decide) rfl dX8_hands_6 ?_
  refine q_sipush hF (n := 1183) rfl dX8_hands_8 ?_
  refine q_iconst hF dX8_hands_11 ?_
  refine q_aload_n hF 2 rfl rfl dX8_hands_12 ?_
  refine q_bipush hF (n := 6) rfl dX8_hands_13 ?_
  refine q_laloadv hF (z := (k : Int)) (n := 1243) 6 hR rfl (by decide) (by decide) hk dX8_hands_15 ?_
  refine q_l2i hF dX8_hands_16 ?_
  refine q_imul hF dX8_hands_17 ?_
  refine q_iadd hF dX8_hands_18 ?_
  refine q_istore hF (ls' := [(8, qI (1183 + (5 * (k : Int)))), (6, qL (L r (1042 + 12 * a))), (0, .ref m), (1, .ref r), (2, qI (a : Int)), (3, qI (l : Int)), (4, qL nx)]) (by decide) rfl dX8_hands_19 ?_
  have hJ21 : qX G F Q 0 0 40 [(8, qI (1183 + (5 * (k : Int)))), (6, qL (L r (1042 + 12 * a))), (0, .ref m), (1, .ref r), (2, qI (a : Int)), (3, qI (l : Int)), (4, qL nx)] [qI (q_b (L r (1042 + 12 * a) < L r (32 + 13 * l)))] sz T I L P := by
    refine q_istore hF (ls' := [(9, qI (q_b (L r (1042 + 12 * a) < L r (32 + 13 * l)))), (8, qI (1183 + (5 * (k : Int)))), (6, qL (L r (1042 + 12 * a))), (0, .ref m), (1, .ref r), (2, qI (a : Int)), (3, qI (l : Int)), (4, qL nx)]) (by decide) rfl dX8_hands_40 ?_
    refine q_aload_n hF 4 rfl rfl dX8_hands_42 ?_
    refine q_iload hF 1 rfl dX8_hands_43 ?_
    refine q_lload hF 7 rfl dX8_hands_45 ?_
    refine q_lastorev hF (n := 1243) (1183 + 5 * k) hR hRA (by omega) (by omega) (by decide) dX8_hands_47 ?_
    refine q_aload_n hF 4 rfl rfl dX8_hands_48 ?_
    refine q_iload hF 1 rfl dX8_hands_49 ?_
    refine q_iconst hF dX8_hands_51 ?_
    refine q_iadd hF dX8_hands_52 ?_
    refine q_iload_n hF 5 rfl rfl dX8_hands_53 ?_
    refine q_i2l hF (by omega) dX8_hands_54 ?_
    refine q_lastorev hF (n := 1243) (1184 + 5 * k) hR hRA (by omega) (by omega) (by decide) dX8_hands_55 ?_
    refine q_aload_n hF 4 rfl rfl dX8_hands_56 ?_
    refine q_iload hF 1 rfl dX8_hands_57 ?_
    refine q_iconst hF dX8_hands_59 ?_
    refine q_iadd hF dX8_hands_60 ?_
    refine q_iload_n hF 6 rfl rfl dX8_hands_61 ?_
    refine q_i2l hF (by omega) dX8_hands_62 ?_
    refine q_lastorev hF (n := 1243) (1185 + 5 * k) hR hRA (by omega) (by omega) (by decide) dX8_hands_63 ?_
    refine q_aload_n hF 4 rfl rfl dX8_hands_64 ?_
    refine q_iload hF 1 rfl dX8_hands_65 ?_
    refine q_iconst hF dX8_hands_67 ?_
    refine q_iadd hF dX8_hands_68 ?_
    refine q_lload hF 2 rfl dX8_hands_69 ?_
    refine q_lastorev hF (n := 1243) (1186 + 5 * k) hR hRA (by omega) (by omega) (by decide) dX8_hands_71 ?_
    refine q_aload_n hF 4 rfl rfl dX8_hands_72 ?_
    refine q_iload hF 1 rfl dX8_hands_73 ?_
    refine q_iconst hF dX8_hands_75 ?_
    refine q_iadd hF dX8_hands_76 ?_
    have hJ77 : qX G F Q 0 0 87 [(9, qI (q_b (L r (1042 + 12 * a) < L r (32 + 13 * l)))), (8, qI (1183 + (5 * (k : Int)))), (6, qL (L r (1042 + 12 * a))), (0, .ref m), (1, .ref r), (2, qI (a : Int)), (3, qI (l : Int)), (4, qL nx)] [qL (q_b (L r (1042 + 12 * a) < L r (32 + 13 * l))), qI ((1183 + (5 * (k : Int))) + 4), .ref r] sz T I (u2 (u2 (u2 (u2 L r (1183 + 5 * k) nx) r (1184 + 5 * k) (a : Int)) r (1185 + 5 * k) (l : Int)) r (1186 + 5 * k) (L r (1042 + 12 * a))) P := by
      refine q_lastorev hF (n := 1243) (1187 + 5 * k) hR hRA (by omega) (by omega) (by decide) dX8_hands_87 ?_
      refine q_aload_n hF 4 rfl rfl dX8_hands_88 ?_
      refine q_bipush hF (n := 6) rfl dX8_hands_89 ?_
      refine q_dup2 hF rfl rfl dX8_hands_91 ?_
      refine q_laloadv hF (z := (k : Int)) (n := 1243) 6 hR rfl (by decide) (by decide) ((u2_k _ _ (by omega)).trans ((u2_k _ _ (by omega)).trans ((u2_k _ _ (by omega)).trans ((u2_k _ _ (by omega)).trans ((u2_k _ _ (by omega)).trans hk))))) dX8_hands_92 ?_
      refine q_lconst hF (z := 1) rfl dX8_hands_93 ?_
      refine q_ladd hF dX8_hands_94 ?_
      refine q_lastorev hF (n := 1243) 6 hR hRA rfl (by decide) (by decide) dX8_hands_95 ?_
      refine q_aload_n hF 4 rfl rfl dX8_hands_96 ?_
      refine q_iload_n hF 5 rfl rfl dX8_hands_97 ?_
      refine q_iconst hF dX8_hands_98 ?_
      refine q_ldc2 hF (n := 2) (q_mem 1631 (by decide +kernel) rfl) dX8_hands_99 ?_
      refine q_callS (kc := 0) (ks := 0) (mc' := 0) (ms' := 0) (h' := 1) (st := []) hF sl_RX8_299 rfl [.ref r, qI (a : Int), qI 4, qL 2] rfl rfl (by decide) (Nat.le_of_ble_eq_true rfl) dX8_hands_102 ?_
      refine mX8_sets (j := (1043 + 12 * a)) hR hRA (by omega) (by omega) ?_
      refine q_aload_n hF 4 rfl rfl dX8_hands_105 ?_
      refine q_iload_n hF 5 rfl rfl dX8_hands_106 ?_
      refine q_bipush hF (n := 8) rfl dX8_hands_107 ?_
      refine q_iload_n hF 6 rfl rfl dX8_hands_109 ?_
      refine q_i2l hF (by omega) dX8_hands_110 ?_
      refine q_callS (kc := 0) (ks := 0) (mc' := 0) (ms' := 0) (h' := 1) (st := []) hF sl_RX8_299 rfl [.ref r, qI (a : Int), qI 8, qL (l : Int)] rfl rfl (by decide) (Nat.le_of_ble_eq_true rfl) dX8_hands_111 ?_
      refine mX8_sets (j := (1047 + 12 * a)) hR hRA (by omega) (by omega) ?_
      refine q_aload_n hF 4 rfl rfl dX8_hands_114 ?_
      refine q_iload_n hF 5 rfl rfl dX8_hands_115 ?_
      refine q_bipush hF (n := 10) rfl dX8_hands_116 ?_
      have hJ118 : qX G F Q 0 0 128 [(9, qI (q_b (L r (1042 + 12 * a) < L r (32 + 13 * l)))), (8, qI (1183 + (5 * (k : Int)))), (6, qL (L r (1042 + 12 * a))), (0, .ref m), (1, .ref r), (2, qI (a : Int)), (3, qI (l : Int)), (4, qL nx)] [qL (q_b (L r (1042 + 12 * a) < L r (32 + 13 * l))), qI 10, qI (a : Int), .ref r] sz T I (u2 (u2 (u2 (u2 (u2 (u2 (u2 (u2 L r (1183 + 5 * k) nx) r (1184 + 5 * k) (a : Int)) r (1185 + 5 * k) (l : Int)) r (1186 + 5 * k) (L r (1042 + 12 * a))) r (1187 + 5 * k) (q_b (L r (1042 + 12 * a) < L r (32 + 13 * l)))) r 6 ((k : Int) + 1)) r (1043 + 12 * a) 2) r (1047 + 12 * a) (l : Int)) P := by
        refine q_callS (kc := 0) (ks := 0) (mc' := 0) (ms' := 0) (h' := 1) (st := []) hF sl_RX8_299 rfl [.ref r, qI (a : Int), qI 10, qL (q_b (L r (1042 + 12 * a) < L r (32 + 13 * l)))] rfl rfl (by decide) (Nat.le_of_ble_eq_true rfl) dX8_hands_128 ?_
        refine mX8_sets (j := (1049 + 12 * a)) hR hRA (by omega) (by omega) ?_
        refine q_aload_n hF 4 rfl rfl dX8_hands_131 ?_
        refine q_iload_n hF 5 rfl rfl dX8_hands_132 ?_
        refine q_bipush hF (n := 11) rfl dX8_hands_133 ?_
        refine q_lload hF 7 rfl dX8_hands_135 ?_
        refine q_callS (kc := 0) (ks := 0) (mc' := 0) (ms' := 0) (h' := 1) (st := []) hF sl_RX8_299 rfl [.ref r, qI (a : Int), qI 11, qL nx] rfl rfl (by decide) (Nat.le_of_ble_eq_true rfl) dX8_hands_137 ?_
        refine mX8_sets (j := (1050 + 12 * a)) hR hRA (by omega) (by omega) ?_
        refine q_return hF rfl dX8_hands_140 ?_
        exact k0
      refine q_iload hF 0 rfl dX8_hands_118 ?_
      refine q_ifeq_b hF dX8_hands_120 (fun c120 => ?_) (fun c120 => ?_)
      · refine q_lconst hF (z := 0) rfl dX8_hands_127 ?_
        have eJ : (q_b (L r (1042 + 12 * a) < L r (32 + 13 * l))) = 0 := by first | exact q_b_t (by omega) | exact q_b_f (by omega)
        rw [eJ] at hJ118; first | exact hJ118 | (rw [eJ]; exact hJ118)
      · refine q_lconst hF (z := 1) rfl dX8_hands_123 ?_
        refine q_goto hF dX8_hands_124 ?_
        have eJ : (q_b (L r (1042 + 12 * a) < L r (32 + 13 * l))) = 1 := by first | exact q_b_t (by omega) | exact q_b_f (by omega)
        rw [eJ] at hJ118; first | exact hJ118 | (rw [eJ]; exact hJ118)
    refine q_iload hF 0 rfl dX8_hands_77 ?_
    refine q_ifeq_b hF dX8_hands_79 (fun c79 => ?_) (fun c79 => ?_)
    · refine q_lconst hF (z := 0) rfl dX8_hands_86 ?_
      have eJ : (q_b (L r (1042 + 12 * a) < L r (32 + 13 * l))) = 0 := by first | exact q_b_t (by omega) | exact q_b_f (by omega)
      rw [eJ] at hJ77; first | exact hJ77 | (rw [eJ]; exact hJ77)
    · refine q_lconst hF (z := 1) rfl dX8_hands_82 ?_
      refine q_goto hF dX8_hands_83 ?_
      have eJ : (q_b (L r (1042 + 12 * a) < L r (32 + 13 * l))) = 1 := by first | exact q_b_t (by omega) | exact q_b_f (by omega)
      rw [eJ] at hJ77; first | exact hJ77 | (rw [eJ]; exact hJ77)
  refine q_lload hF 1 rfl dX8_hands_21 ?_
  refine q_aload_n hF 3 rfl rfl dX8_hands_23 ?_
  refine q_iload_n hF 5 rfl rfl dX8_hands_24 ?_
  refine q_bipush hF (n := 8) rfl dX8_hands_25 ?_
  refine q_callS (kc := 0) (ks := 0) (mc' := 0) (ms' := 0) (h' := 0) (st := [.ref r, qL (L r (1042 + 12 * a))]) hF sl_RX8_176 rfl [qI (l : Int), qI 8] rfl rfl (by decide) (Nat.le_of_ble_eq_true rfl) dX8_hands_27 ?_
  refine mX8_landAt ?_
  refine q_laloadv hF (z := L r (32 + 13 * l)) (n := 1243) (32 + 13 * l) hR (by omega) (by omega) (by decide) rfl dX8_hands_30 ?_
  refine q_cmpge hF (by omega) (by omega) dX8_hands_31 dX8_hands_32 (fun c32 => ?_) (fun c32 => ?_)
  · refine q_iconst hF dX8_hands_39 ?_
    have eJ : (q_b (L r (1042 + 12 * a) < L r (32 + 13 * l))) = 0 := by first | exact q_b_t (by omega) | exact q_b_f (by omega)
    rw [eJ] at hJ21; first | exact hJ21 | (rw [eJ]; exact hJ21)
  · refine q_iconst hF dX8_hands_35 ?_
    refine q_goto hF dX8_hands_36 ?_
    have eJ : (q_b (L r (1042 + 12 * a) < L r (32 + 13 * l))) = 1 := by first | exact q_b_t (by omega) | exact q_b_f (by omega)
    rw [eJ] at hJ21; first | exact hJ21 | (rw [eJ]; exact hJ21)
theorem mX8_hands' {G : q_G} {sz : Nat} {T : q_T} {I L : q_I} {P : q_P} {Q : q_Q} {m r : Nat} {nx : Int} {a l k : Nat} (hR : T r = some (.inr (1, 1243))) (hRA : q_A G r) (hi : a < 12) (hl : l < 5) (hk : L r 6 = (k : Int)) (hk2 : k < 12) (hc : 0 ≤ L r (1042 + 12 * a) ∧ L r (1042 + 12 * a) ≤ 100000000) (hm : 0 ≤ L r (32 + 13 * l) ∧ L r (32 + 13 * l) ≤ 9999) (k0 : Q (.inl none) sz T I (q_row L r (g_ha (L r) a (l : Int) nx)) P) : qC G 2 0 0 YX8_hands [.ref m, .ref r, qI (a : Int), qI (l : Int), qL nx] sz T I L P Q := by
  refine mX8_hands hR hRA hi hl hk hk2 hc hm ?_
  rw [q_row_u1 L, q_row_u, q_row_u, q_row_u, q_row_u, q_row_u, q_row_u, q_row_u, q_row_u, q_row_u]
  have e : (1183 + 5 * (k : Int)).toNat = 1183 + 5 * k := by omega
  unfold g_ha at k0
  simp only [hk, e, Int.toNat_natCast] at k0
  simp only [show 1184 + 5 * k = 1183 + 5 * k + 1 by omega, show 1185 + 5 * k = 1183 + 5 * k + 2 by omega, show 1186 + 5 * k = 1183 + 5 * k + 3 by omega, show 1187 + 5 * k = 1183 + 5 * k + 4 by omega]
  exact k0
set_option maxRecDepth 100000 in
theorem mX8_goes {G : q_G} {sz : Nat} {T : q_T} {I L : q_I} {P : q_P} {Q : q_Q} {m : Nat} {r : Nat} {nx : Int} {a : Nat} {bd : Int} (hS : q_SM T P m) (hSA : q_A G m) (hR : T r = some (.inr (1, 1243))) (hRA : q_A G r) (hi : a < 12) (hv : g_V0 (L r)) (ha : g_VA (L r) a bd) (hbd : bd ≤ 6999) (hnx : 0 ≤ nx ∧ nx ≤ 7000) (hne : r ≠ m + 15) (hrow : (L r (1043 + 12 * a) = 0 ∨ L r (1043 + 12 * a) = 1) → L r 6 < 12) (k0 : ∀ (L' : q_I) (z : Int), (∀ q k, q ≠ r → q ≠ m + 15 → L' q k = L q k) → g_goes (L r) a nx = (z, L' r) → (z = 0 ∨ z = 1) → Q (.inl (some (qI z))) sz T I L' P) : qC G 4 0 0 YX8_goes [.ref m, .ref r, qI (a : Int), qL nx] sz T I L P Q := by
  refine qC_of (by decide +kernel) rfl rfl (Nat.le_of_ble_eq_true rfl) (fun F hF _ _ => ?_)
  have f1 := ha.kind
  have f2 := ha.cents
  have f3 := ha.state
  have f4 := ha.age
  have f5 := ha.since
  have f6 := g_int_r hv ha
  have f7 := hv.pays (L r (1039 + 12 * a)).toNat (by omega)
  have f8 := ha.lat
  have f9 := hv.wait
  have f10 := hv.rows
  have f11 := ha.wrote
  have f12 := hv.cost
  refine q_aload_n hF 1 rfl rfl dX8_goes_0 ?_
  refine q_iload_n hF 2 rfl rfl dX8_goes_1 ?_
  refine q_callS (kc := 0) (ks := 0) (mc' := 0) (ms' := 0) (h' := 2) (st := []) hF sl_RX8_304 rfl [.ref r, qI (a : Int)] rfl rfl (by decide) (Nat.le_of_ble_eq_true rfl) dX8_goes_2 ?_
  refine mX8_isOpen (i := a) hR (by omega) (by omega) ?_
  refine q_ifne_b hF dX8_goes_5 (fun c5 => ?_) (fun c5 => ?_)
  · refine q_aload_n hF 1 rfl rfl dX8_goes_10 ?_
    refine q_iload_n hF 2 rfl rfl dX8_goes_11 ?_
    refine q_iconst hF dX8_goes_12 ?_
    refine q_callS (kc := 0) (ks := 0) (mc' := 0) (ms' := 0) (h' := 1) (st := []) hF sl_RX8_268 rfl [.ref r, qI (a : Int), qI 3] rfl rfl (by decide) (Nat.le_of_ble_eq_true rfl) dX8_goes_13 ?_
    refine mX8_of (j := (1042 + 12 * a)) hR (by omega) (by omega) ?_
    refine q_lstore hF (ls' := [(5, qL (L r (1042 + 12 * a))), (0, .ref m), (1, .ref r), (2, qI (a : Int)), (3, qL nx)]) (by decide) rfl dX8_goes_16 ?_
    refine q_ldc2 hF (n := 100000000) (q_mem 1530 (by decide +kernel) rfl) dX8_goes_18 ?_
    refine q_lload hF 0 rfl dX8_goes_21 ?_
    refine q_lsub hF dX8_goes_23 ?_
    refine q_lload hF 0 rfl dX8_goes_24 ?_
    refine q_aload_n hF 2 rfl rfl dX8_goes_26 ?_
    refine q_bipush hF (n := 12) rfl dX8_goes_27 ?_
    refine q_aload_n hF 2 rfl rfl dX8_goes_29 ?_
    refine q_iload_n hF 3 rfl rfl dX8_goes_30 ?_
    refine q_iconst hF dX8_goes_31 ?_
    refine q_callS (kc := 0) (ks := 0) (mc' := 0) (ms' := 0) (h' := 1) (st := [qI 12, .ref r, qL (L r (1042 + 12 * a)), qL (100000000 - (L r (1042 + 12 * a)))]) hF sl_RX8_268 rfl [.ref r, qI (a : Int), qI 0] rfl rfl (by decide) (Nat.le_of_ble_eq_true rfl) dX8_goes_32 ?_
    refine mX8_of (j := (1039 + 12 * a)) hR (by omega) (by omega) ?_
    refine q_l2i hF dX8_goes_35 ?_
    refine q_iadd hF dX8_goes_36 ?_
    refine q_laloadv hF (z := L r (12 + (L r (1039 + 12 * a)).toNat)) (n := 1243) (12 + (L r (1039 + 12 * a)).toNat) hR (by omega) (by omega) (by decide) rfl dX8_goes_37 ?_
    refine q_lmul hF dX8_goes_38 ?_
    refine q_ldc2 hF (n := 120000) (q_mem 1596 (by decide +kernel) rfl) dX8_goes_39 ?_
    refine q_ldiv hF (by omega) (by decide) (by decide) dX8_goes_42 ?_
    refine q_callS (kc := 0) (ks := 0) (mc' := 0) (ms' := 0) (h' := 0) (st := []) hF sl_RX8_119 rfl [qL (100000000 - (L r (1042 + 12 * a))), qL (((L r (1042 + 12 * a)) * (L r (12 + (L r (1039 + 12 * a)).toNat))).tdiv 120000)] rfl rfl (by decide) (Nat.le_of_ble_eq_true rfl) dX8_goes_43 ?_
    refine mX8_less (by omega) (by have e9 := Int.tdiv_eq_ediv_of_nonneg (b := 120000) f6.2.1; omega) ?_
    rw [show min (100000000 - (L r (1042 + 12 * a))) (((L r (1042 + 12 * a)) * (L r (12 + (L r (1039 + 12 * a)).toNat))).tdiv 120000) = g_int (L r) a from rfl]
    refine q_lstore hF (ls' := [(7, qL (g_int (L r) a)), (5, qL (L r (1042 + 12 * a))), (0, .ref m), (1, .ref r), (2, qI (a : Int)), (3, qL nx)]) (by decide) rfl dX8_goes_46 ?_
    refine q_aload_n hF 3 rfl rfl dX8_goes_48 ?_
    refine q_iload_n hF 4 rfl rfl dX8_goes_49 ?_
    refine q_iconst hF dX8_goes_50 ?_
    refine q_lload hF 0 rfl dX8_goes_51 ?_
    refine q_callS (kc := 0) (ks := 0) (mc' := 0) (ms' := 0) (h' := 1) (st := []) hF sl_RX8_295 rfl [.ref r, qI (a : Int), qI 3, qL (g_int (L r) a)] rfl rfl (by decide) (Nat.le_of_ble_eq_true rfl) dX8_goes_53 ?_
    refine mX8_adds (j := (1042 + 12 * a)) hR hRA (by omega) (by omega) ?_
    refine q_aload_n hF 3 rfl rfl dX8_goes_56 ?_
    refine q_bipush hF (n := 18) rfl dX8_goes_57 ?_
    refine q_dup2 hF rfl rfl dX8_goes_59 ?_
    refine q_laloadv hF (z := L r 18) (n := 1243) 18 hR rfl (by decide) (by decide) (u2_k _ _ (by omega)) dX8_goes_60 ?_
    refine q_lload hF 0 rfl dX8_goes_61 ?_
    refine q_ladd hF dX8_goes_63 ?_
    refine q_lastorev hF (n := 1243) 18 hR hRA rfl (by decide) (by decide) dX8_goes_64 ?_
    refine q_aload_n hF 3 rfl rfl dX8_goes_65 ?_
    refine q_iload_n hF 4 rfl rfl dX8_goes_66 ?_
    refine q_iconst hF dX8_goes_67 ?_
    refine q_lconst hF (z := 1) rfl dX8_goes_68 ?_
    refine q_callS (kc := 0) (ks := 0) (mc' := 0) (ms' := 0) (h' := 1) (st := []) hF sl_RX8_295 rfl [.ref r, qI (a : Int), qI 5, qL 1] rfl rfl (by decide) (Nat.le_of_ble_eq_true rfl) dX8_goes_69 ?_
    refine mX8_adds (j := (1044 + 12 * a)) hR hRA (by omega) (by omega) ?_
    rw [show (u2 (u2 L r (1042 + 12 * a) ((L r (1042 + 12 * a)) + (g_int (L r) a))) r 18 ((L r 18) + (g_int (L r) a))) r (1044 + 12 * a) = L r (1044 + 12 * a) from ((u2_k _ _ (by omega)).trans (u2_k _ _ (by omega)))]
    refine q_aload_n hF 3 rfl rfl dX8_goes_72 ?_
    refine q_iload_n hF 4 rfl rfl dX8_goes_73 ?_
    refine q_bipush hF (n := 6) rfl dX8_goes_74 ?_
    refine q_lconst hF (z := 1) rfl dX8_goes_76 ?_
    refine q_callS (kc := 0) (ks := 0) (mc' := 0) (ms' := 0) (h' := 1) (st := []) hF sl_RX8_295 rfl [.ref r, qI (a : Int), qI 6, qL 1] rfl rfl (by decide) (Nat.le_of_ble_eq_true rfl) dX8_goes_77 ?_
    refine mX8_adds (j := (1045 + 12 * a)) hR hRA (by omega) (by omega) ?_
    rw [show (u2 (u2 (u2 L r (1042 + 12 * a) ((L r (1042 + 12 * a)) + (g_int (L r) a))) r 18 ((L r 18) + (g_int (L r) a))) r (1044 + 12 * a) ((L r (1044 + 12 * a)) + 1)) r (1045 + 12 * a) = L r (1045 + 12 * a) from ((u2_k _ _ (by omega)).trans ((u2_k _ _ (by omega)).trans (u2_k _ _ (by omega))))]
    obtain ⟨L1, hL1, hL1r, hL1n⟩ : ∃ L1 : q_I, L1 = q_row L r (g_r1 (L r) a) ∧ L1 r = g_r1 (L r) a ∧ ∀ q k, q ≠ r → L1 q k = L q k := ⟨_, rfl, q_row_f _ _ _, fun q k h => q_row_n _ _ h k⟩
    rw [show u2 (u2 (u2 (u2 L r (1042 + 12 * a) ((L r (1042 + 12 * a)) + (g_int (L r) a))) r 18 ((L r 18) + (g_int (L r) a))) r (1044 + 12 * a) ((L r (1044 + 12 * a)) + 1)) r (1045 + 12 * a) ((L r (1045 + 12 * a)) + 1) = L1 from by rw [hL1, q_row_u1 L, q_row_u, q_row_u, q_row_u]; rfl]
    have hv1 : g_V0 (L1 r) := by rw [hL1r]; exact hv.r1 a
    have ha1 : g_VA (L1 r) a (bd + 1) := by rw [hL1r]; exact ha.r1 hv
    have e1 : L1 r (1043 + 12 * a) = L r (1043 + 12 * a) := by rw [hL1r, g_r1_n] <;> omega
    have e2 : L1 r (1048 + 12 * a) = L r (1048 + 12 * a) := by rw [hL1r, g_r1_n] <;> omega
    have e3 : L1 r 3 = L r 3 := by rw [hL1r, g_r1_n] <;> omega
    have e6 : L1 r 6 = L r 6 := by rw [hL1r, g_r1_n] <;> omega
    have h1 := ha1.cents
    have h2 := ha1.since
    have h3 := ha1.state
    have h4 := hv1.cost
    have h5 := g_bel_r hv1 ha1
    have h6 := hrow c5
    have hg : g_goes (L r) a nx = (if g_bel (L1 r) a = -1 then (0, L1 r) else if L r (1043 + 12 * a) = 0 then (0, if g_sleep (L1 r) a (g_bel (L1 r) a) ≤ L1 r (1045 + 12 * a) then g_wr (L1 r) a nx else L1 r) else if nx - L r (1048 + 12 * a) < L r 3 ∨ nx.tmod 12 ≠ L r (31 + 13 * (g_bel (L1 r) a).toNat) then (0, L1 r) else (1, g_ha (L1 r) a (g_bel (L1 r) a) nx)) := by unfold g_goes; rw [if_pos c5, hL1r]
    refine q_aload_n hF 3 rfl rfl dX8_goes_80 ?_
    refine q_iload_n hF 4 rfl rfl dX8_goes_81 ?_
    refine q_callS (kc := 0) (ks := 0) (mc' := 0) (ms' := 0) (h' := 2) (st := []) hF sl_RX8_312 rfl [.ref r, qI (a : Int)] rfl rfl (by decide) (Nat.le_of_ble_eq_true rfl) dX8_goes_82 ?_
    refine mX8_belongs (i := a) hR (by omega) hv1 ha1 (by omega) ?_
    refine q_istore hF (ls' := [(9, qI (g_bel (L1 r) a)), (7, qL (g_int (L r) a)), (5, qL (L r (1042 + 12 * a))), (0, .ref m), (1, .ref r), (2, qI (a : Int)), (3, qL nx)]) (by decide) rfl dX8_goes_85 ?_
    refine q_iload hF 0 rfl dX8_goes_87 ?_
    refine q_iconst hF dX8_goes_89 ?_
    refine q_icmpne hF (by omega) (by decide) dX8_goes_90 (fun c90 => ?_) (fun c90 => ?_)
    · obtain ⟨⟨h7, h8, h9⟩, h10⟩ := g_bel_tk hv1 ha1 c90
      obtain ⟨l, hl⟩ : ∃ l : Nat, g_bel (L1 r) a = (l : Int) := ⟨_, (Int.toNat_of_nonneg h7).symm⟩
      rw [hl]
      rw [hl] at hg h7 h8 h9 h10 c90
      rw [if_neg c90, Int.toNat_natCast] at hg
      have e4 : L1 r (31 + 13 * l) = L r (31 + 13 * l) := by have h20 := hv1.lands; rw [hL1r, g_r1_n] <;> omega
      have h11 := hv1.land l h8
      refine q_aload_n hF 4 rfl rfl dX8_goes_95 ?_
      refine q_iload_n hF 5 rfl rfl dX8_goes_96 ?_
      refine q_iconst hF dX8_goes_97 ?_
      refine q_callS (kc := 0) (ks := 0) (mc' := 0) (ms' := 0) (h' := 1) (st := []) hF sl_RX8_268 rfl [.ref r, qI (a : Int), qI 4] rfl rfl (by decide) (Nat.le_of_ble_eq_true rfl) dX8_goes_98 ?_
      refine mX8_of (j := (1043 + 12 * a)) hR (by omega) (by omega) ?_
      refine q_lconst hF (z := 0) rfl dX8_goes_101 ?_
      refine q_cmpne hF (by omega) (by decide) dX8_goes_102 dX8_goes_103 (fun c103 => ?_) (fun c103 => ?_)
      · rw [if_neg (by omega)] at hg
        refine q_lload_n hF 6 rfl rfl dX8_goes_134 ?_
        refine q_aload_n hF 4 rfl rfl dX8_goes_135 ?_
        refine q_iload_n hF 5 rfl rfl dX8_goes_136 ?_
        refine q_bipush hF (n := 9) rfl dX8_goes_137 ?_
        refine q_callS (kc := 0) (ks := 0) (mc' := 0) (ms' := 0) (h' := 1) (st := [qL nx]) hF sl_RX8_268 rfl [.ref r, qI (a : Int), qI 9] rfl rfl (by decide) (Nat.le_of_ble_eq_true rfl) dX8_goes_139 ?_
        refine mX8_of (j := (1048 + 12 * a)) hR (by omega) (by omega) ?_
        refine q_lsub hF dX8_goes_142 ?_
        refine q_aload_n hF 4 rfl rfl dX8_goes_143 ?_
        refine q_iconst hF dX8_goes_144 ?_
        refine q_laloadv hF (z := L1 r 3) (n := 1243) 3 hR rfl (by decide) (by decide) rfl dX8_goes_145 ?_
        refine q_cmplt hF (by omega) (by omega) dX8_goes_146 dX8_goes_147 (fun c147 => ?_) (fun c147 => ?_)
        · refine q_iconst hF dX8_goes_168 ?_
          refine q_zreturn hF (by decide) rfl dX8_goes_169 ?_
          exact k0 L1 0 (fun q k h _ => hL1n q k h) (by rw [hg, if_pos (by omega)]) (Or.inl rfl)
        · refine q_lload_n hF 6 rfl rfl dX8_goes_150 ?_
          refine q_ldc2 hF (n := 12) (q_mem 1626 (by decide +kernel) rfl) dX8_goes_151 ?_
          refine q_lrem hF (by omega) (by decide) (by decide) dX8_goes_154 ?_
          refine q_aload_n hF 4 rfl rfl dX8_goes_155 ?_
          refine q_iload hF 0 rfl dX8_goes_156 ?_
          refine q_bipush hF (n := 7) rfl dX8_goes_158 ?_
          refine q_callS (kc := 0) (ks := 0) (mc' := 0) (ms' := 0) (h' := 0) (st := [.ref r, qL (nx.tmod 12)]) hF sl_RX8_176 rfl [qI (l : Int), qI 7] rfl rfl (by decide) (Nat.le_of_ble_eq_true rfl) dX8_goes_160 ?_
          refine mX8_landAt ?_
          refine q_laloadv hF (z := L1 r (31 + 13 * l)) (n := 1243) (31 + 13 * l) hR (by omega) (by omega) (by decide) rfl dX8_goes_163 ?_
          refine q_cmpeq hF (by have e9 := Int.tmod_eq_emod_of_nonneg (b := 12) hnx.1; omega) (by omega) dX8_goes_164 dX8_goes_165 (fun c165 => ?_) (fun c165 => ?_)
          · obtain ⟨k, hk, hk2⟩ : ∃ k : Nat, L1 r 6 = (k : Int) ∧ k < 12 := ⟨(L1 r 6).toNat, by omega, by omega⟩
            refine q_aload_n hF 3 rfl rfl dX8_goes_170 ?_
            refine q_aload_n hF 4 rfl rfl dX8_goes_171 ?_
            refine q_iload_n hF 5 rfl rfl dX8_goes_172 ?_
            refine q_iload hF 0 rfl dX8_goes_173 ?_
            refine q_lload_n hF 6 rfl rfl dX8_goes_175 ?_
            refine q_callV (kc := 0) (ks := 0) (mc' := 0) (ms' := 0) (h' := 2) (st := []) hF vl_RX8_325 rfl [.ref r, qI (a : Int), qI (l : Int), qL nx] rfl rfl hS.t0 (by decide) (Nat.le_of_ble_eq_true rfl) dX8_goes_176 ?_
            refine mX8_hands' (a := a) (l := l) (k := k) hR hRA (by omega) (by omega) hk hk2 (by omega) (by omega) ?_
            refine q_iconst hF dX8_goes_179 ?_
            refine q_zreturn hF (by decide) rfl dX8_goes_180 ?_
            exact k0 _ 1 (fun q k h _ => (q_row_n _ _ h k).trans (hL1n q k h)) (by rw [q_row_f, hg, if_neg (by omega)]) (Or.inr rfl)
          · refine q_iconst hF dX8_goes_168 ?_
            refine q_zreturn hF (by decide) rfl dX8_goes_169 ?_
            exact k0 L1 0 (fun q k h _ => hL1n q k h) (by rw [hg, if_pos (by omega)]) (Or.inl rfl)
      · rw [if_pos (by omega)] at hg
        refine q_aload_n hF 4 rfl rfl dX8_goes_106 ?_
        refine q_iload_n hF 5 rfl rfl dX8_goes_107 ?_
        refine q_bipush hF (n := 6) rfl dX8_goes_108 ?_
        refine q_callS (kc := 0) (ks := 0) (mc' := 0) (ms' := 0) (h' := 1) (st := []) hF sl_RX8_268 rfl [.ref r, qI (a : Int), qI 6] rfl rfl (by decide) (Nat.le_of_ble_eq_true rfl) dX8_goes_110 ?_
        refine mX8_of (j := (1045 + 12 * a)) hR (by omega) (by omega) ?_
        refine q_aload_n hF 3 rfl rfl dX8_goes_113 ?_
        refine q_aload_n hF 4 rfl rfl dX8_goes_114 ?_
        refine q_iload_n hF 5 rfl rfl dX8_goes_115 ?_
        refine q_iload hF 0 rfl dX8_goes_116 ?_
        refine q_callV (kc := 0) (ks := 0) (mc' := 0) (ms' := 0) (h' := 3) (st := [qL (L1 r (1045 + 12 * a))]) hF vl_RX8_316 rfl [.ref r, qI (a : Int), qI (l : Int)] rfl rfl hS.t0 (by decide) (Nat.le_of_ble_eq_true rfl) dX8_goes_118 ?_
        refine mX8_sleepOf (a := a) hS hSA hR (by omega) hv1 ha1 (by omega) (by omega) h10 hne (fun L' c118_0 => ?_)
        have e5 : L' r = L1 r := funext fun k => c118_0 r k hne
        have h12 : 0 ≤ g_sleep (L1 r) a (l : Int) ∧ g_sleep (L1 r) a (l : Int) ≤ 600 := by unfold g_sleep; omega
        refine q_cmplt hF (by omega) (by omega) dX8_goes_121 dX8_goes_122 (fun c122 => ?_) (fun c122 => ?_)
        · refine q_iconst hF dX8_goes_132 ?_
          refine q_zreturn hF (by decide) rfl dX8_goes_133 ?_
          exact k0 L' 0 (fun q k h h' => (c118_0 q k h').trans (hL1n q k h)) (by rw [hg, e5, if_neg (by omega)]) (Or.inl rfl)
        · refine q_aload_n hF 3 rfl rfl dX8_goes_125 ?_
          refine q_aload_n hF 4 rfl rfl dX8_goes_126 ?_
          refine q_iload_n hF 5 rfl rfl dX8_goes_127 ?_
          refine q_lload_n hF 6 rfl rfl dX8_goes_128 ?_
          refine q_callV (kc := 0) (ks := 0) (mc' := 0) (ms' := 0) (h' := 2) (st := []) hF vl_RX8_319 rfl [.ref r, qI (a : Int), qL nx] rfl rfl hS.t0 (by decide) (Nat.le_of_ble_eq_true rfl) dX8_goes_129 ?_
          refine mX8_writesTo' (i := a) hR hRA (by omega) (by rw [e5]; omega) (by rw [e5]; omega) ?_
          refine q_iconst hF dX8_goes_132 ?_
          refine q_zreturn hF (by decide) rfl dX8_goes_133 ?_
          exact k0 _ 0 (fun q k h h' => (q_row_n _ _ h k).trans ((c118_0 q k h').trans (hL1n q k h))) (by rw [q_row_f, hg, e5, if_pos (by omega)]) (Or.inl rfl)
    · refine q_iconst hF dX8_goes_93 ?_
      refine q_zreturn hF (by decide) rfl dX8_goes_94 ?_
      exact k0 L1 0 (fun q k h _ => hL1n q k h) (by rw [hg, if_pos c90]) (Or.inl rfl)
  · refine q_iconst hF dX8_goes_8 ?_
    refine q_zreturn hF (by decide) rfl dX8_goes_9 ?_
    exact k0 L 0 (fun _ _ _ _ => rfl) (by unfold g_goes; rw [if_neg c5]) (Or.inl rfl)
