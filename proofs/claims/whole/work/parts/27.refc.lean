/-! the reference: calls that add up -/
def g_print (r : Nat → Int) : Nat → Int
  | 0 => 0
  | n + 1 => 31 * (31 * (31 * g_print r n + r (1042 + 12 * n)) + r (1043 + 12 * n)) + r (1045 + 12 * n)
def g_liveC (r : Nat → Int) (k : Nat) : Int := if r (1043 + 12 * k) = 0 ∨ r (1043 + 12 * k) = 1 then r (1042 + 12 * k) else 0
def g_handC (r : Nat → Int) (k : Nat) : Int := if r (1043 + 12 * k) = 2 then r (1042 + 12 * k) else 0
def g_heldC (r : Nat → Int) (l : Int) (k : Nat) : Int := if r (1043 + 12 * k) = 2 ∧ r (1047 + 12 * k) = l then r (1042 + 12 * k) else 0
def g_rowC (r : Nat → Int) (l : Int) (k : Nat) : Int := if r (1185 + 5 * k) = l then r (1186 + 5 * k) else 0
def g_aheadC (r : Nat → Int) (l : Int) (k : Nat) : Int := if l = -1 ∨ r (1185 + 5 * k) = l then r (1186 + 5 * k) else 0
set_option maxRecDepth 100000 in
theorem lX8_print {G : q_G} {F : q_F} {Q : q_Q} {kc ks sz : Nat} {T : q_T} {m mn : Nat} {bd : Int} {I L : q_I} {P : q_P} (hF : q_ok G F YX8_print 2) (hS : q_SM T P m) (hv : g_V0 (L (m + 3))) (hmn : L (m + 3) 1 = (mn : Int)) (hm12 : mn ≤ 12) (hvs : ∀ i : Nat, i < mn → g_VA (L (m + 3)) i bd) (k0 : Q (.inl (some (qL (g_print (L (m + 3)) mn)))) sz T I L P) : ∀ (n : Nat) (k : Nat), mn - k < n → k ≤ mn → qX G F Q kc ks 9 [(3, qI (k : Int)), (1, qL (g_print (L (m + 3)) k)), (0, .ref m)] [] sz T I L P := by
  intro n
  induction n with
  | zero => intro k hn; exact absurd hn (Nat.not_lt_zero _)
  | succ n ih =>
    intro k hn hk
    refine q_iload_n hF 0 rfl rfl dX8_print_9 ?_
    refine q_aload_n hF 2 rfl rfl dX8_print_10 ?_
    refine q_callV (kc := kc) (ks := ks) (mc' := 0) (ms' := 0) (h' := 0) (st := [qI (k : Int)]) hF vl_RX8_337 rfl [] rfl rfl hS.t0 (by decide) (Nat.le_of_ble_eq_true rfl) dX8_print_11 ?_
    refine mX8_many hS ?_
    rw [show L (m + 3) 1 = (mn : Int) from hmn]
    refine q_icmpge hF (by omega) (by omega) dX8_print_14 (fun c14 => ?_) (fun c14 => ?_)
    · refine q_lload_n hF 1 rfl rfl dX8_print_68 ?_
      refine q_lreturn hF rfl dX8_print_69 ?_
      rw [show k = mn by omega]; exact k0
    · refine q_ldc2 hF (n := 31) (q_mem 1718 (by decide +kernel) rfl) dX8_print_17 ?_
      refine q_ldc2 hF (n := 31) (q_mem 1718 (by decide +kernel) rfl) dX8_print_20 ?_
      refine q_ldc2 hF (n := 31) (q_mem 1718 (by decide +kernel) rfl) dX8_print_23 ?_
      refine q_lload_n hF 1 rfl rfl dX8_print_26 ?_
      refine q_lmul hF dX8_print_27 ?_
      refine q_aload_n hF 2 rfl rfl dX8_print_28 ?_
      refine q_getA hF fl_RX8_20 rfl hS.t0 hS.p9 dX8_print_29 ?_
      refine q_iload_n hF 0 rfl rfl dX8_print_32 ?_
      refine q_iconst hF dX8_print_33 ?_
      refine q_callS (kc := kc) (ks := ks) (mc' := 0) (ms' := 0) (h' := 1) (st := [qL (31 * (g_print (L (m + 3)) k)), qL 31, qL 31]) hF sl_RX8_268 rfl [.ref (m + 3), qI (k : Int), qI 3] rfl rfl (by decide) (Nat.le_of_ble_eq_true rfl) dX8_print_34 ?_
      refine mX8_of (j := (1042 + 12 * k)) hS.t3 (by omega) (by omega) ?_
      refine q_ladd hF dX8_print_37 ?_
      refine q_lmul hF dX8_print_38 ?_
      refine q_aload_n hF 2 rfl rfl dX8_print_39 ?_
      refine q_getA hF fl_RX8_20 rfl hS.t0 hS.p9 dX8_print_40 ?_
      refine q_iload_n hF 0 rfl rfl dX8_print_43 ?_
      refine q_iconst hF dX8_print_44 ?_
      refine q_callS (kc := kc) (ks := ks) (mc' := 0) (ms' := 0) (h' := 1) (st := [qL (31 * ((31 * (g_print (L (m + 3)) k)) + (L (m + 3) (1042 + 12 * k)))), qL 31]) hF sl_RX8_268 rfl [.ref (m + 3), qI (k : Int), qI 4] rfl rfl (by decide) (Nat.le_of_ble_eq_true rfl) dX8_print_45 ?_
      refine mX8_of (j := (1043 + 12 * k)) hS.t3 (by omega) (by omega) ?_
      refine q_ladd hF dX8_print_48 ?_
      refine q_lmul hF dX8_print_49 ?_
      refine q_aload_n hF 2 rfl rfl dX8_print_50 ?_
      refine q_getA hF fl_RX8_20 rfl hS.t0 hS.p9 dX8_print_51 ?_
      refine q_iload_n hF 0 rfl rfl dX8_print_54 ?_
      refine q_bipush hF (n := 6) rfl dX8_print_55 ?_
      refine q_callS (kc := kc) (ks := ks) (mc' := 0) (ms' := 0) (h' := 1) (st := [qL (31 * ((31 * ((31 * (g_print (L (m + 3)) k)) + (L (m + 3) (1042 + 12 * k)))) + (L (m + 3) (1043 + 12 * k))))]) hF sl_RX8_268 rfl [.ref (m + 3), qI (k : Int), qI 6] rfl rfl (by decide) (Nat.le_of_ble_eq_true rfl) dX8_print_57 ?_
      refine mX8_of (j := (1045 + 12 * k)) hS.t3 (by omega) (by omega) ?_
      refine q_ladd hF dX8_print_60 ?_
      refine q_lstore_n hF (ls' := [(1, qL ((31 * ((31 * ((31 * (g_print (L (m + 3)) k)) + (L (m + 3) (1042 + 12 * k)))) + (L (m + 3) (1043 + 12 * k)))) + (L (m + 3) (1045 + 12 * k)))), (3, qI (k : Int)), (0, .ref m)]) rfl (by decide) rfl dX8_print_61 ?_
      refine q_iinc hF (z' := ((1 + k : Nat) : Int)) (ls' := [(3, qI ((1 + k : Nat) : Int)), (1, qL ((31 * ((31 * ((31 * (g_print (L (m + 3)) k)) + (L (m + 3) (1042 + 12 * k)))) + (L (m + 3) (1043 + 12 * k)))) + (L (m + 3) (1045 + 12 * k)))), (0, .ref m)]) 1 rfl (by first | rfl | omega) (by decide) rfl dX8_print_62 ?_
      refine q_goto hF dX8_print_65 ?_
      rw [show ((31 * ((31 * ((31 * (g_print (L (m + 3)) k)) + (L (m + 3) (1042 + 12 * k)))) + (L (m + 3) (1043 + 12 * k)))) + (L (m + 3) (1045 + 12 * k))) = g_print (L (m + 3)) (1 + k) from by rw [Nat.add_comm 1 k]; rfl]
      exact ih (1 + k) (by omega) (by omega)
set_option maxRecDepth 100000 in
theorem mX8_print {G : q_G} {sz : Nat} {T : q_T} {I L : q_I} {P : q_P} {Q : q_Q} {m : Nat} {mn : Nat} {bd : Int} (hS : q_SM T P m) (hSA : q_A G m) (hv : g_V0 (L (m + 3))) (hmn : L (m + 3) 1 = (mn : Int)) (hm12 : mn ≤ 12) (hvs : ∀ i : Nat, i < mn → g_VA (L (m + 3)) i bd) (k0 : Q (.inl (some (qL (g_print (L (m + 3)) mn)))) sz T (u2 I m 0 0) L P) : qC G 2 0 0 YX8_print [.ref m] sz T I L P Q := by
  refine qC_of (by decide +kernel) rfl rfl (Nat.le_of_ble_eq_true rfl) (fun F hF _ _ => ?_)
  have hm12 := hv.many
  have hl5 := hv.lands
  refine q_aload_n hF 0 rfl rfl dX8_print_0 ?_
  refine q_iconst hF dX8_print_1 ?_
  refine q_putI hF fl_RX8_52 hS.t0 hSA dX8_print_2 ?_
  refine q_lconst hF (z := 0) rfl dX8_print_5 ?_
  refine q_lstore_n hF (ls' := [(1, qL 0), (0, .ref m)]) rfl (by decide) rfl dX8_print_6 ?_
  refine q_iconst hF dX8_print_7 ?_
  refine q_istore_n hF (ls' := [(3, qI 0), (1, qL 0), (0, .ref m)]) rfl (by decide) rfl dX8_print_8 ?_
  exact lX8_print hF hS hv hmn (by omega) hvs k0 13 0 (by omega) (Nat.zero_le _)
set_option maxRecDepth 100000 in
theorem mX8_books0 {G : q_G} {sz : Nat} {T : q_T} {I L : q_I} {P : q_P} {Q : q_Q} {m : Nat} {w : Int}  (hS : q_SM T P m) (hSA : q_A G m) (hv : g_V0 (L (m + 3))) (hw : -2147483648 ≤ w ∧ w < 2147483648) (hn : ¬ (0 ≤ w ∧ w ≤ 6)) (k1 : Q (.inl (some (qL 0))) sz T (u2 (u2 (u2 I m 0 0) m 0 1) (m + 1) 1 ((I (m + 1) 1) + 1)) L P) : qC G 4 0 0 YX8_books [.ref m, qI w] sz T I L P Q := by
  refine qC_of (by decide +kernel) rfl rfl (Nat.le_of_ble_eq_true rfl) (fun F hF _ _ => ?_)
  have hm12 := hv.many
  have hl5 := hv.lands
  refine q_aload_n hF 0 rfl rfl dX8_books_0 ?_
  refine q_iconst hF dX8_books_1 ?_
  refine q_putI hF fl_RX8_52 hS.t0 hSA dX8_books_2 ?_
  refine q_aload_n hF 0 rfl rfl dX8_books_5 ?_
  refine q_iload_n hF 1 rfl rfl dX8_books_6 ?_
  refine q_i2l hF hw dX8_books_7 ?_
  refine q_lconst hF (z := 0) rfl dX8_books_8 ?_
  refine q_ldc2 hF (n := 6) (q_mem 1713 (by decide +kernel) rfl) dX8_books_9 ?_
  refine q_callS (kc := 0) (ks := 0) (mc' := 0) (ms' := 0) (h' := 0) (st := [.ref m]) hF sl_RX8_123 rfl [qL w, qL 0, qL 6] rfl rfl (by decide) (Nat.le_of_ble_eq_true rfl) dX8_books_12 ?_
  refine mX8_in (by omega) (by decide) (by decide) ?_
  refine q_ifne_b hF dX8_books_15 (fun c15 => ?_) (fun c15 => ?_)
  · omega
  · refine q_iconst hF dX8_books_18 ?_
    refine q_goto hF dX8_books_19 ?_
    refine q_iconst hF dX8_books_23 ?_
    refine q_iconst hF dX8_books_24 ?_
    refine q_callV (kc := 0) (ks := 0) (mc' := 0) (ms' := 0) (h' := 0) (st := []) hF vl_RX8_251 rfl [qI 1, qI 1, qI 1] rfl rfl hS.t0 (by decide) (Nat.le_of_ble_eq_true rfl) dX8_books_25 ?_
    refine mX8_bad1 (j := 1) hS hSA (u2_s _ _ _ _) (by omega) rfl (by decide) ?_
    rw [show (u2 I m 0 0) (m + 1) 1 = I (m + 1) 1 from (u2_k _ _ (by decide))]
    refine q_ifeq hF (by decide) dX8_books_28 (fun c28 => ?_) (fun c28 => ?_)
    · exact absurd c28 (by decide)
    · refine q_lconst hF (z := 0) rfl dX8_books_31 ?_
      refine q_lreturn hF rfl dX8_books_32 ?_
      exact k1
set_option maxRecDepth 100000 in
theorem mX8_books {G : q_G} {sz : Nat} {T : q_T} {I L : q_I} {P : q_P} {Q : q_Q} {m : Nat} {w : Nat} (hS : q_SM T P m) (hSA : q_A G m) (hv : g_V0 (L (m + 3))) (hw : w < 4 ∨ w = 6) (k0 : Q (.inl (some (qL (L (m + 3) (17 + w))))) sz T (u2 I m 0 0) L P) : qC G 4 0 0 YX8_books [.ref m, qI (w : Int)] sz T I L P Q := by
  refine qC_of (by decide +kernel) rfl rfl (Nat.le_of_ble_eq_true rfl) (fun F hF _ _ => ?_)
  have hm12 := hv.many
  have hl5 := hv.lands
  refine q_aload_n hF 0 rfl rfl dX8_books_0 ?_
  refine q_iconst hF dX8_books_1 ?_
  refine q_putI hF fl_RX8_52 hS.t0 hSA dX8_books_2 ?_
  refine q_aload_n hF 0 rfl rfl dX8_books_5 ?_
  refine q_iload_n hF 1 rfl rfl dX8_books_6 ?_
  refine q_i2l hF (by omega) dX8_books_7 ?_
  refine q_lconst hF (z := 0) rfl dX8_books_8 ?_
  refine q_ldc2 hF (n := 6) (q_mem 1713 (by decide +kernel) rfl) dX8_books_9 ?_
  refine q_callS (kc := 0) (ks := 0) (mc' := 0) (ms' := 0) (h' := 0) (st := [.ref m]) hF sl_RX8_123 rfl [qL (w : Int), qL 0, qL 6] rfl rfl (by decide) (Nat.le_of_ble_eq_true rfl) dX8_books_12 ?_
  refine mX8_in (by omega) (by decide) (by decide) ?_
  refine q_ifne_b hF dX8_books_15 (fun c15 => ?_) (fun c15 => ?_)
  · refine q_iconst hF dX8_books_22 ?_
    refine q_iconst hF dX8_books_23 ?_
    refine q_iconst hF dX8_books_24 ?_
    refine q_callV (kc := 0) (ks := 0) (mc' := 0) (ms' := 0) (h' := 0) (st := []) hF vl_RX8_251 rfl [qI 0, qI 1, qI 1] rfl rfl hS.t0 (by decide) (Nat.le_of_ble_eq_true rfl) dX8_books_25 ?_
    refine mX8_bad0 hS hSA (u2_s _ _ _ _) ?_
    refine q_ifeq hF (by decide) dX8_books_28 (fun c28 => ?_) (fun c28 => ?_)
    · refine q_iload_n hF 1 rfl rfl dX8_books_33 ?_
      refine q_iconst hF dX8_books_34 ?_
      refine q_icmplt hF (by omega) (by decide) dX8_books_35 (fun c35 => ?_) (fun c35 => ?_)
      · refine q_aload_n hF 0 rfl rfl dX8_books_44 ?_
        refine q_getA hF fl_RX8_20 rfl hS.t0 hS.p9 dX8_books_45 ?_
        refine q_bipush hF (n := 17) rfl dX8_books_48 ?_
        refine q_iload_n hF 1 rfl rfl dX8_books_50 ?_
        refine q_iadd hF dX8_books_51 ?_
        refine q_laloadv hF (z := L (m + 3) (17 + w)) (n := 1243) (17 + w) hS.t3 (by omega) (by omega) (by decide) rfl dX8_books_52 ?_
        refine q_lreturn hF rfl dX8_books_53 ?_
        exact k0
      · refine q_iload_n hF 1 rfl rfl dX8_books_38 ?_
        refine q_bipush hF (n := 6) rfl dX8_books_39 ?_
        refine q_icmpne hF (by omega) (by decide) dX8_books_41 (fun c41 => ?_) (fun c41 => ?_)
        · omega
        · refine q_aload_n hF 0 rfl rfl dX8_books_44 ?_
          refine q_getA hF fl_RX8_20 rfl hS.t0 hS.p9 dX8_books_45 ?_
          refine q_bipush hF (n := 17) rfl dX8_books_48 ?_
          refine q_iload_n hF 1 rfl rfl dX8_books_50 ?_
          refine q_iadd hF dX8_books_51 ?_
          refine q_laloadv hF (z := L (m + 3) (17 + w)) (n := 1243) (17 + w) hS.t3 (by omega) (by omega) (by decide) rfl dX8_books_52 ?_
          refine q_lreturn hF rfl dX8_books_53 ?_
          exact k0
    · exact absurd c28 (by decide)
  · omega
set_option maxRecDepth 100000 in
theorem lX8_books4 {G : q_G} {F : q_F} {Q : q_Q} {kc ks sz : Nat} {T : q_T} {m mn : Nat} {bd : Int} {I L : q_I} {P : q_P} (hF : q_ok G F YX8_books 4) (hS : q_SM T P m) (hv : g_V0 (L (m + 3))) (hmn : L (m + 3) 1 = (mn : Int)) (hm12 : mn ≤ 12) (hvs : ∀ i : Nat, i < mn → g_VA (L (m + 3)) i bd) (k0 : Q (.inl (some (qL (g_sum (g_liveC (L (m + 3))) mn)))) sz T I L P) : ∀ (n : Nat) (k : Nat), mn - k < n → k ≤ mn → qX G F Q kc ks 59 [(4, qI (k : Int)), (2, qL (g_sum (g_liveC (L (m + 3))) k)), (0, .ref m), (1, qI 4)] [] sz T I L P := by
  intro n
  induction n with
  | zero => intro k hn; exact absurd hn (Nat.not_lt_zero _)
  | succ n ih =>
    intro k hn hk
    refine q_iload hF 0 rfl dX8_books_59 ?_
    refine q_aload_n hF 2 rfl rfl dX8_books_61 ?_
    refine q_callV (kc := kc) (ks := ks) (mc' := 0) (ms' := 0) (h' := 0) (st := [qI (k : Int)]) hF vl_RX8_337 rfl [] rfl rfl hS.t0 (by decide) (Nat.le_of_ble_eq_true rfl) dX8_books_62 ?_
    refine mX8_many hS ?_
    rw [show L (m + 3) 1 = (mn : Int) from hmn]
    refine q_icmpge hF (by omega) (by omega) dX8_books_65 (fun c65 => ?_) (fun c65 => ?_)
    · refine q_lload_n hF 1 rfl rfl dX8_books_128 ?_
      refine q_lreturn hF rfl dX8_books_129 ?_
      rw [show k = mn by omega]; exact k0
    · have hA := hvs k (by omega)
      refine q_lload_n hF 1 rfl rfl dX8_books_68 ?_
      have hJ69 : qX G F Q kc ks 120 [(4, qI (k : Int)), (2, qL (g_sum (g_liveC (L (m + 3))) k)), (0, .ref m), (1, qI 4)] [qL (g_liveC (L (m + 3)) k), qL (g_sum (g_liveC (L (m + 3))) k)] sz T I L P := by
        refine q_ladd hF dX8_books_120 ?_
        refine q_lstore_n hF (ls' := [(2, qL ((g_sum (g_liveC (L (m + 3))) k) + (g_liveC (L (m + 3)) k))), (4, qI (k : Int)), (0, .ref m), (1, qI 4)]) rfl (by decide) rfl dX8_books_121 ?_
        refine q_iinc hF (z' := ((1 + k : Nat) : Int)) (ls' := [(4, qI ((1 + k : Nat) : Int)), (2, qL ((g_sum (g_liveC (L (m + 3))) k) + (g_liveC (L (m + 3)) k))), (0, .ref m), (1, qI 4)]) 1 rfl (by first | rfl | omega) (by decide) rfl dX8_books_122 ?_
        refine q_goto hF dX8_books_125 ?_
        rw [show ((g_sum (g_liveC (L (m + 3))) k) + (g_liveC (L (m + 3)) k)) = g_sum (g_liveC (L (m + 3))) (1 + k) from by rw [Nat.add_comm 1 k]; rfl]
        exact ih (1 + k) (by omega) (by omega)
      refine q_iload_n hF 3 rfl rfl dX8_books_69 ?_
      refine q_iconst hF dX8_books_70 ?_
      refine q_icmpne hF (by decide) (by decide) dX8_books_71 (fun c71 => ?_) (fun c71 => ?_)
      · exact absurd c71 (by decide)
      · refine q_aload_n hF 2 rfl rfl dX8_books_74 ?_
        refine q_getA hF fl_RX8_20 rfl hS.t0 hS.p9 dX8_books_75 ?_
        refine q_iload hF 0 rfl dX8_books_78 ?_
        refine q_callS (kc := kc) (ks := ks) (mc' := 0) (ms' := 0) (h' := 2) (st := [qL (g_sum (g_liveC (L (m + 3))) k)]) hF sl_RX8_304 rfl [.ref (m + 3), qI (k : Int)] rfl rfl (by decide) (Nat.le_of_ble_eq_true rfl) dX8_books_80 ?_
        refine mX8_isOpen (i := k) hS.t3 (by omega) hA.state ?_
        refine q_ifeq_b hF dX8_books_83 (fun c83 => ?_) (fun c83 => ?_)
        · refine q_lconst hF (z := 0) rfl dX8_books_119 ?_
          rw [show (g_liveC (L (m + 3)) k) = 0 from by unfold g_liveC; first | exact if_pos (by omega) | exact if_neg (by omega)] at hJ69; exact hJ69
        · refine q_goto hF dX8_books_86 ?_
          refine q_aload_n hF 2 rfl rfl dX8_books_106 ?_
          refine q_getA hF fl_RX8_20 rfl hS.t0 hS.p9 dX8_books_107 ?_
          refine q_iload hF 0 rfl dX8_books_110 ?_
          refine q_iconst hF dX8_books_112 ?_
          refine q_callS (kc := kc) (ks := ks) (mc' := 0) (ms' := 0) (h' := 1) (st := [qL (g_sum (g_liveC (L (m + 3))) k)]) hF sl_RX8_268 rfl [.ref (m + 3), qI (k : Int), qI 3] rfl rfl (by decide) (Nat.le_of_ble_eq_true rfl) dX8_books_113 ?_
          refine mX8_of (j := (1042 + 12 * k)) hS.t3 (by omega) (by omega) ?_
          refine q_goto hF dX8_books_116 ?_
          rw [show (g_liveC (L (m + 3)) k) = (L (m + 3) (1042 + 12 * k)) from by unfold g_liveC; first | exact if_pos (by omega) | exact if_neg (by omega)] at hJ69; exact hJ69
set_option maxRecDepth 100000 in
theorem mX8_books4 {G : q_G} {sz : Nat} {T : q_T} {I L : q_I} {P : q_P} {Q : q_Q} {m : Nat} {mn : Nat} {bd : Int} (hS : q_SM T P m) (hSA : q_A G m) (hv : g_V0 (L (m + 3))) (hmn : L (m + 3) 1 = (mn : Int)) (hm12 : mn ≤ 12) (hvs : ∀ i : Nat, i < mn → g_VA (L (m + 3)) i bd) (k0 : Q (.inl (some (qL (g_sum (g_liveC (L (m + 3))) mn)))) sz T (u2 I m 0 0) L P) : qC G 4 0 0 YX8_books [.ref m, qI 4] sz T I L P Q := by
  refine qC_of (by decide +kernel) rfl rfl (Nat.le_of_ble_eq_true rfl) (fun F hF _ _ => ?_)
  have hm12 := hv.many
  have hl5 := hv.lands
  refine q_aload_n hF 0 rfl rfl dX8_books_0 ?_
  refine q_iconst hF dX8_books_1 ?_
  refine q_putI hF fl_RX8_52 hS.t0 hSA dX8_books_2 ?_
  refine q_aload_n hF 0 rfl rfl dX8_books_5 ?_
  refine q_iload_n hF 1 rfl rfl dX8_books_6 ?_
  refine q_i2l hF (by decide) dX8_books_7 ?_
  refine q_lconst hF (z := 0) rfl dX8_books_8 ?_
  refine q_ldc2 hF (n := 6) (q_mem 1713 (by decide +kernel) rfl) dX8_books_9 ?_
  refine q_callS (kc := 0) (ks := 0) (mc' := 0) (ms' := 0) (h' := 0) (st := [.ref m]) hF sl_RX8_123 rfl [qL 4, qL 0, qL 6] rfl rfl (by decide) (Nat.le_of_ble_eq_true rfl) dX8_books_12 ?_
  refine mX8_in (by decide) (by decide) (by decide) ?_
  refine q_ifne_b hF dX8_books_15 (fun c15 => ?_) (fun c15 => ?_)
  · refine q_iconst hF dX8_books_22 ?_
    refine q_iconst hF dX8_books_23 ?_
    refine q_iconst hF dX8_books_24 ?_
    refine q_callV (kc := 0) (ks := 0) (mc' := 0) (ms' := 0) (h' := 0) (st := []) hF vl_RX8_251 rfl [qI 0, qI 1, qI 1] rfl rfl hS.t0 (by decide) (Nat.le_of_ble_eq_true rfl) dX8_books_25 ?_
    refine mX8_bad0 hS hSA (u2_s _ _ _ _) ?_
    refine q_ifeq hF (by decide) dX8_books_28 (fun c28 => ?_) (fun c28 => ?_)
    · refine q_iload_n hF 1 rfl rfl dX8_books_33 ?_
      refine q_iconst hF dX8_books_34 ?_
      refine q_icmplt hF (by decide) (by decide) dX8_books_35 (fun c35 => ?_) (fun c35 => ?_)
      · exact absurd c35 (by decide)
      · refine q_iload_n hF 1 rfl rfl dX8_books_38 ?_
        refine q_bipush hF (n := 6) rfl dX8_books_39 ?_
        refine q_icmpne hF (by decide) (by decide) dX8_books_41 (fun c41 => ?_) (fun c41 => ?_)
        · refine q_lconst hF (z := 0) rfl dX8_books_54 ?_
          refine q_lstore_n hF (ls' := [(2, qL 0), (0, .ref m), (1, qI 4)]) rfl (by decide) rfl dX8_books_55 ?_
          refine q_iconst hF dX8_books_56 ?_
          refine q_istore hF (ls' := [(4, qI 0), (2, qL 0), (0, .ref m), (1, qI 4)]) (by decide) rfl dX8_books_57 ?_
          exact lX8_books4 hF hS hv hmn (by omega) hvs k0 13 0 (by omega) (Nat.zero_le _)
        · exact absurd c41 (by decide)
    · exact absurd c28 (by decide)
  · omega
set_option maxRecDepth 100000 in
theorem lX8_books5 {G : q_G} {F : q_F} {Q : q_Q} {kc ks sz : Nat} {T : q_T} {m mn : Nat} {bd : Int} {I L : q_I} {P : q_P} (hF : q_ok G F YX8_books 4) (hS : q_SM T P m) (hv : g_V0 (L (m + 3))) (hmn : L (m + 3) 1 = (mn : Int)) (hm12 : mn ≤ 12) (hvs : ∀ i : Nat, i < mn → g_VA (L (m + 3)) i bd) (k0 : Q (.inl (some (qL (g_sum (g_handC (L (m + 3))) mn)))) sz T I L P) : ∀ (n : Nat) (k : Nat), mn - k < n → k ≤ mn → qX G F Q kc ks 59 [(4, qI (k : Int)), (2, qL (g_sum (g_handC (L (m + 3))) k)), (0, .ref m), (1, qI 5)] [] sz T I L P := by
  intro n
  induction n with
  | zero => intro k hn; exact absurd hn (Nat.not_lt_zero _)
  | succ n ih =>
    intro k hn hk
    refine q_iload hF 0 rfl dX8_books_59 ?_
    refine q_aload_n hF 2 rfl rfl dX8_books_61 ?_
    refine q_callV (kc := kc) (ks := ks) (mc' := 0) (ms' := 0) (h' := 0) (st := [qI (k : Int)]) hF vl_RX8_337 rfl [] rfl rfl hS.t0 (by decide) (Nat.le_of_ble_eq_true rfl) dX8_books_62 ?_
    refine mX8_many hS ?_
    rw [show L (m + 3) 1 = (mn : Int) from hmn]
    refine q_icmpge hF (by omega) (by omega) dX8_books_65 (fun c65 => ?_) (fun c65 => ?_)
    · refine q_lload_n hF 1 rfl rfl dX8_books_128 ?_
      refine q_lreturn hF rfl dX8_books_129 ?_
      rw [show k = mn by omega]; exact k0
    · have hA := hvs k (by omega)
      refine q_lload_n hF 1 rfl rfl dX8_books_68 ?_
      have hJ69 : qX G F Q kc ks 120 [(4, qI (k : Int)), (2, qL (g_sum (g_handC (L (m + 3))) k)), (0, .ref m), (1, qI 5)] [qL (g_handC (L (m + 3)) k), qL (g_sum (g_handC (L (m + 3))) k)] sz T I L P := by
        refine q_ladd hF dX8_books_120 ?_
        refine q_lstore_n hF (ls' := [(2, qL ((g_sum (g_handC (L (m + 3))) k) + (g_handC (L (m + 3)) k))), (4, qI (k : Int)), (0, .ref m), (1, qI 5)]) rfl (by decide) rfl dX8_books_121 ?_
        refine q_iinc hF (z' := ((1 + k : Nat) : Int)) (ls' := [(4, qI ((1 + k : Nat) : Int)), (2, qL ((g_sum (g_handC (L (m + 3))) k) + (g_handC (L (m + 3)) k))), (0, .ref m), (1, qI 5)]) 1 rfl (by first | rfl | omega) (by decide) rfl dX8_books_122 ?_
        refine q_goto hF dX8_books_125 ?_
        rw [show ((g_sum (g_handC (L (m + 3))) k) + (g_handC (L (m + 3)) k)) = g_sum (g_handC (L (m + 3))) (1 + k) from by rw [Nat.add_comm 1 k]; rfl]
        exact ih (1 + k) (by omega) (by omega)
      refine q_iload_n hF 3 rfl rfl dX8_books_69 ?_
      refine q_iconst hF dX8_books_70 ?_
      refine q_icmpne hF (by decide) (by decide) dX8_books_71 (fun c71 => ?_) (fun c71 => ?_)
      · refine q_aload_n hF 2 rfl rfl dX8_books_89 ?_
        refine q_getA hF fl_RX8_20 rfl hS.t0 hS.p9 dX8_books_90 ?_
        refine q_iload hF 0 rfl dX8_books_93 ?_
        refine q_iconst hF dX8_books_95 ?_
        refine q_callS (kc := kc) (ks := ks) (mc' := 0) (ms' := 0) (h' := 1) (st := [qL (g_sum (g_handC (L (m + 3))) k)]) hF sl_RX8_268 rfl [.ref (m + 3), qI (k : Int), qI 4] rfl rfl (by decide) (Nat.le_of_ble_eq_true rfl) dX8_books_96 ?_
        refine mX8_of (j := (1043 + 12 * k)) hS.t3 (by omega) (by omega) ?_
        refine q_ldc2 hF (n := 2) (q_mem 1631 (by decide +kernel) rfl) dX8_books_99 ?_
        refine q_cmpne hF (by have q := hA.state; have q2 := hA.holder; have q3 := hA.cents; have q4 := hv.lands; omega) (by decide) dX8_books_102 dX8_books_103 (fun c103 => ?_) (fun c103 => ?_)
        · refine q_lconst hF (z := 0) rfl dX8_books_119 ?_
          rw [show (g_handC (L (m + 3)) k) = 0 from by unfold g_handC; first | exact if_pos (by omega) | exact if_neg (by omega)] at hJ69; exact hJ69
        · refine q_aload_n hF 2 rfl rfl dX8_books_106 ?_
          refine q_getA hF fl_RX8_20 rfl hS.t0 hS.p9 dX8_books_107 ?_
          refine q_iload hF 0 rfl dX8_books_110 ?_
          refine q_iconst hF dX8_books_112 ?_
          refine q_callS (kc := kc) (ks := ks) (mc' := 0) (ms' := 0) (h' := 1) (st := [qL (g_sum (g_handC (L (m + 3))) k)]) hF sl_RX8_268 rfl [.ref (m + 3), qI (k : Int), qI 3] rfl rfl (by decide) (Nat.le_of_ble_eq_true rfl) dX8_books_113 ?_
          refine mX8_of (j := (1042 + 12 * k)) hS.t3 (by omega) (by omega) ?_
          refine q_goto hF dX8_books_116 ?_
          rw [show (g_handC (L (m + 3)) k) = (L (m + 3) (1042 + 12 * k)) from by unfold g_handC; first | exact if_pos (by omega) | exact if_neg (by omega)] at hJ69; exact hJ69
      · exact absurd c71 (by decide)
set_option maxRecDepth 100000 in
theorem mX8_books5 {G : q_G} {sz : Nat} {T : q_T} {I L : q_I} {P : q_P} {Q : q_Q} {m : Nat} {mn : Nat} {bd : Int} (hS : q_SM T P m) (hSA : q_A G m) (hv : g_V0 (L (m + 3))) (hmn : L (m + 3) 1 = (mn : Int)) (hm12 : mn ≤ 12) (hvs : ∀ i : Nat, i < mn → g_VA (L (m + 3)) i bd) (k0 : Q (.inl (some (qL (g_sum (g_handC (L (m + 3))) mn)))) sz T (u2 I m 0 0) L P) : qC G 4 0 0 YX8_books [.ref m, qI 5] sz T I L P Q := by
  refine qC_of (by decide +kernel) rfl rfl (Nat.le_of_ble_eq_true rfl) (fun F hF _ _ => ?_)
  have hm12 := hv.many
  have hl5 := hv.lands
  refine q_aload_n hF 0 rfl rfl dX8_books_0 ?_
  refine q_iconst hF dX8_books_1 ?_
  refine q_putI hF fl_RX8_52 hS.t0 hSA dX8_books_2 ?_
  refine q_aload_n hF 0 rfl rfl dX8_books_5 ?_
  refine q_iload_n hF 1 rfl rfl dX8_books_6 ?_
  refine q_i2l hF (by decide) dX8_books_7 ?_
  refine q_lconst hF (z := 0) rfl dX8_books_8 ?_
  refine q_ldc2 hF (n := 6) (q_mem 1713 (by decide +kernel) rfl) dX8_books_9 ?_
  refine q_callS (kc := 0) (ks := 0) (mc' := 0) (ms' := 0) (h' := 0) (st := [.ref m]) hF sl_RX8_123 rfl [qL 5, qL 0, qL 6] rfl rfl (by decide) (Nat.le_of_ble_eq_true rfl) dX8_books_12 ?_
  refine mX8_in (by decide) (by decide) (by decide) ?_
  refine q_ifne_b hF dX8_books_15 (fun c15 => ?_) (fun c15 => ?_)
  · refine q_iconst hF dX8_books_22 ?_
    refine q_iconst hF dX8_books_23 ?_
    refine q_iconst hF dX8_books_24 ?_
    refine q_callV (kc := 0) (ks := 0) (mc' := 0) (ms' := 0) (h' := 0) (st := []) hF vl_RX8_251 rfl [qI 0, qI 1, qI 1] rfl rfl hS.t0 (by decide) (Nat.le_of_ble_eq_true rfl) dX8_books_25 ?_
    refine mX8_bad0 hS hSA (u2_s _ _ _ _) ?_
    refine q_ifeq hF (by decide) dX8_books_28 (fun c28 => ?_) (fun c28 => ?_)
    · refine q_iload_n hF 1 rfl rfl dX8_books_33 ?_
      refine q_iconst hF dX8_books_34 ?_
      refine q_icmplt hF (by decide) (by decide) dX8_books_35 (fun c35 => ?_) (fun c35 => ?_)
      · exact absurd c35 (by decide)
      · refine q_iload_n hF 1 rfl rfl dX8_books_38 ?_
        refine q_bipush hF (n := 6) rfl dX8_books_39 ?_
        refine q_icmpne hF (by decide) (by decide) dX8_books_41 (fun c41 => ?_) (fun c41 => ?_)
        · refine q_lconst hF (z := 0) rfl dX8_books_54 ?_
          refine q_lstore_n hF (ls' := [(2, qL 0), (0, .ref m), (1, qI 5)]) rfl (by decide) rfl dX8_books_55 ?_
          refine q_iconst hF dX8_books_56 ?_
          refine q_istore hF (ls' := [(4, qI 0), (2, qL 0), (0, .ref m), (1, qI 5)]) (by decide) rfl dX8_books_57 ?_
          exact lX8_books5 hF hS hv hmn (by omega) hvs k0 13 0 (by omega) (Nat.zero_le _)
        · exact absurd c41 (by decide)
    · exact absurd c28 (by decide)
  · omega
set_option maxRecDepth 100000 in
theorem mX8_purse00 {G : q_G} {sz : Nat} {T : q_T} {I L : q_I} {P : q_P} {Q : q_Q} {m : Nat} {l : Int} {w : Int}  (hS : q_SM T P m) (hSA : q_A G m) (hv : g_V0 (L (m + 3))) (hl : -2147483648 ≤ l ∧ l < 2147483648) (hn : ¬ (0 ≤ l ∧ l ≤ L (m + 3) 0 - 1)) (k1 : Q (.inl (some (qL 0))) sz T (u2 (u2 (u2 I m 0 0) m 0 1) (m + 1) 0 ((I (m + 1) 0) + 1)) L P) : qC G 4 0 0 YX8_purse [.ref m, qI l, qI w] sz T I L P Q := by
  refine qC_of (by decide +kernel) rfl rfl (Nat.le_of_ble_eq_true rfl) (fun F hF _ _ => ?_)
  have hm12 := hv.many
  have hl5 := hv.lands
  refine q_aload_n hF 0 rfl rfl dX8_purse_0 ?_
  refine q_iconst hF dX8_purse_1 ?_
  refine q_putI hF fl_RX8_52 hS.t0 hSA dX8_purse_2 ?_
  refine q_aload_n hF 0 rfl rfl dX8_purse_5 ?_
  refine q_aload_n hF 0 rfl rfl dX8_purse_6 ?_
  refine q_iload_n hF 1 rfl rfl dX8_purse_7 ?_
  refine q_callV (kc := 0) (ks := 0) (mc' := 0) (ms' := 0) (h' := 1) (st := [.ref m]) hF vl_RX8_343 rfl [qI l] rfl rfl hS.t0 (by decide) (Nat.le_of_ble_eq_true rfl) dX8_purse_8 ?_
  refine mX8_isLand hS hv hl ?_
  refine q_ifne_b hF dX8_purse_11 (fun c11 => ?_) (fun c11 => ?_)
  · omega
  · refine q_iconst hF dX8_purse_14 ?_
    refine q_goto hF dX8_purse_15 ?_
    refine q_iconst hF dX8_purse_19 ?_
    refine q_iconst hF dX8_purse_20 ?_
    refine q_callV (kc := 0) (ks := 0) (mc' := 0) (ms' := 0) (h' := 0) (st := []) hF vl_RX8_251 rfl [qI 1, qI 1, qI 0] rfl rfl hS.t0 (by decide) (Nat.le_of_ble_eq_true rfl) dX8_purse_21 ?_
    refine mX8_bad1 (j := 0) hS hSA (u2_s _ _ _ _) (by omega) rfl (by decide) ?_
    rw [show (u2 I m 0 0) (m + 1) 0 = I (m + 1) 0 from (u2_a _ _ (by omega))]
    refine q_ifne hF (by decide) dX8_purse_24 (fun c24 => ?_) (fun c24 => ?_)
    · refine q_lconst hF (z := 0) rfl dX8_purse_53 ?_
      refine q_lreturn hF rfl dX8_purse_54 ?_
      exact k1
    · exact absurd c24 (by decide)
set_option maxRecDepth 100000 in
theorem mX8_purse0 {G : q_G} {sz : Nat} {T : q_T} {I L : q_I} {P : q_P} {Q : q_Q} {m : Nat} {w : Int} {l : Nat} (hS : q_SM T P m) (hSA : q_A G m) (hv : g_V0 (L (m + 3))) (hly : (l : Int) < L (m + 3) 0) (hw : -2147483648 ≤ w ∧ w < 2147483648) (hn : ¬ (0 ≤ w ∧ w ≤ 3)) (k2 : Q (.inl (some (qL 0))) sz T (u2 (u2 (u2 I m 0 0) m 0 2) (m + 1) 1 ((I (m + 1) 1) + 1)) L P) : qC G 4 0 0 YX8_purse [.ref m, qI (l : Int), qI w] sz T I L P Q := by
  refine qC_of (by decide +kernel) rfl rfl (Nat.le_of_ble_eq_true rfl) (fun F hF _ _ => ?_)
  have hm12 := hv.many
  have hl5 := hv.lands
  refine q_aload_n hF 0 rfl rfl dX8_purse_0 ?_
  refine q_iconst hF dX8_purse_1 ?_
  refine q_putI hF fl_RX8_52 hS.t0 hSA dX8_purse_2 ?_
  refine q_aload_n hF 0 rfl rfl dX8_purse_5 ?_
  refine q_aload_n hF 0 rfl rfl dX8_purse_6 ?_
  refine q_iload_n hF 1 rfl rfl dX8_purse_7 ?_
  refine q_callV (kc := 0) (ks := 0) (mc' := 0) (ms' := 0) (h' := 1) (st := [.ref m]) hF vl_RX8_343 rfl [qI (l : Int)] rfl rfl hS.t0 (by decide) (Nat.le_of_ble_eq_true rfl) dX8_purse_8 ?_
  refine mX8_isLand hS hv (by omega) ?_
  refine q_ifne_b hF dX8_purse_11 (fun c11 => ?_) (fun c11 => ?_)
  · refine q_iconst hF dX8_purse_18 ?_
    refine q_iconst hF dX8_purse_19 ?_
    refine q_iconst hF dX8_purse_20 ?_
    refine q_callV (kc := 0) (ks := 0) (mc' := 0) (ms' := 0) (h' := 0) (st := []) hF vl_RX8_251 rfl [qI 0, qI 1, qI 0] rfl rfl hS.t0 (by decide) (Nat.le_of_ble_eq_true rfl) dX8_purse_21 ?_
    refine mX8_bad0 hS hSA (u2_s _ _ _ _) ?_
    refine q_ifne hF (by decide) dX8_purse_24 (fun c24 => ?_) (fun c24 => ?_)
    · exact absurd c24 (by decide)
    · refine q_aload_n hF 0 rfl rfl dX8_purse_27 ?_
      refine q_iload_n hF 2 rfl rfl dX8_purse_28 ?_
      refine q_i2l hF hw dX8_purse_29 ?_
      refine q_lconst hF (z := 0) rfl dX8_purse_30 ?_
      refine q_ldc2 hF (n := 3) (q_mem 1273 (by decide +kernel) rfl) dX8_purse_31 ?_
      refine q_callS (kc := 0) (ks := 0) (mc' := 0) (ms' := 0) (h' := 0) (st := [.ref m]) hF sl_RX8_123 rfl [qL w, qL 0, qL 3] rfl rfl (by decide) (Nat.le_of_ble_eq_true rfl) dX8_purse_34 ?_
      refine mX8_in (by omega) (by decide) (by decide) ?_
      refine q_ifne_b hF dX8_purse_37 (fun c37 => ?_) (fun c37 => ?_)
      · omega
      · refine q_iconst hF dX8_purse_40 ?_
        refine q_goto hF dX8_purse_41 ?_
        refine q_iconst hF dX8_purse_45 ?_
        refine q_iconst hF dX8_purse_46 ?_
        refine q_callV (kc := 0) (ks := 0) (mc' := 0) (ms' := 0) (h' := 0) (st := []) hF vl_RX8_251 rfl [qI 1, qI 2, qI 1] rfl rfl hS.t0 (by decide) (Nat.le_of_ble_eq_true rfl) dX8_purse_47 ?_
        refine mX8_bad1 (j := 1) hS hSA (u2_s _ _ _ _) (by omega) rfl (by decide) ?_
        rw [show (u2 I m 0 0) (m + 1) 1 = I (m + 1) 1 from (u2_k _ _ (by decide))]
        refine q_ifeq hF (by decide) dX8_purse_50 (fun c50 => ?_) (fun c50 => ?_)
        · exact absurd c50 (by decide)
        · refine q_lconst hF (z := 0) rfl dX8_purse_53 ?_
          refine q_lreturn hF rfl dX8_purse_54 ?_
          exact k2
  · omega
set_option maxRecDepth 100000 in
theorem mX8_purse1 {G : q_G} {sz : Nat} {T : q_T} {I L : q_I} {P : q_P} {Q : q_Q} {m : Nat} {l : Nat} (hS : q_SM T P m) (hSA : q_A G m) (hv : g_V0 (L (m + 3))) (hly : (l : Int) < L (m + 3) 0) (k0 : Q (.inl (some (qL (L (m + 3) (35 + 13 * l))))) sz T (u2 I m 0 0) L P) : qC G 4 0 0 YX8_purse [.ref m, qI (l : Int), qI 1] sz T I L P Q := by
  refine qC_of (by decide +kernel) rfl rfl (Nat.le_of_ble_eq_true rfl) (fun F hF _ _ => ?_)
  have hm12 := hv.many
  have hl5 := hv.lands
  refine q_aload_n hF 0 rfl rfl dX8_purse_0 ?_
  refine q_iconst hF dX8_purse_1 ?_
  refine q_putI hF fl_RX8_52 hS.t0 hSA dX8_purse_2 ?_
  refine q_aload_n hF 0 rfl rfl dX8_purse_5 ?_
  refine q_aload_n hF 0 rfl rfl dX8_purse_6 ?_
  refine q_iload_n hF 1 rfl rfl dX8_purse_7 ?_
  refine q_callV (kc := 0) (ks := 0) (mc' := 0) (ms' := 0) (h' := 1) (st := [.ref m]) hF vl_RX8_343 rfl [qI (l : Int)] rfl rfl hS.t0 (by decide) (Nat.le_of_ble_eq_true rfl) dX8_purse_8 ?_
  refine mX8_isLand hS hv (by omega) ?_
  refine q_ifne_b hF dX8_purse_11 (fun c11 => ?_) (fun c11 => ?_)
  · refine q_iconst hF dX8_purse_18 ?_
    refine q_iconst hF dX8_purse_19 ?_
    refine q_iconst hF dX8_purse_20 ?_
    refine q_callV (kc := 0) (ks := 0) (mc' := 0) (ms' := 0) (h' := 0) (st := []) hF vl_RX8_251 rfl [qI 0, qI 1, qI 0] rfl rfl hS.t0 (by decide) (Nat.le_of_ble_eq_true rfl) dX8_purse_21 ?_
    refine mX8_bad0 hS hSA (u2_s _ _ _ _) ?_
    refine q_ifne hF (by decide) dX8_purse_24 (fun c24 => ?_) (fun c24 => ?_)
    · exact absurd c24 (by decide)
    · refine q_aload_n hF 0 rfl rfl dX8_purse_27 ?_
      refine q_iload_n hF 2 rfl rfl dX8_purse_28 ?_
      refine q_i2l hF (by decide) dX8_purse_29 ?_
      refine q_lconst hF (z := 0) rfl dX8_purse_30 ?_
      refine q_ldc2 hF (n := 3) (q_mem 1273 (by decide +kernel) rfl) dX8_purse_31 ?_
      refine q_callS (kc := 0) (ks := 0) (mc' := 0) (ms' := 0) (h' := 0) (st := [.ref m]) hF sl_RX8_123 rfl [qL 1, qL 0, qL 3] rfl rfl (by decide) (Nat.le_of_ble_eq_true rfl) dX8_purse_34 ?_
      refine mX8_in (by decide) (by decide) (by decide) ?_
      refine q_ifne_b hF dX8_purse_37 (fun c37 => ?_) (fun c37 => ?_)
      · refine q_iconst hF dX8_purse_44 ?_
        refine q_iconst hF dX8_purse_45 ?_
        refine q_iconst hF dX8_purse_46 ?_
        refine q_callV (kc := 0) (ks := 0) (mc' := 0) (ms' := 0) (h' := 0) (st := []) hF vl_RX8_251 rfl [qI 0, qI 2, qI 1] rfl rfl hS.t0 (by decide) (Nat.le_of_ble_eq_true rfl) dX8_purse_47 ?_
        refine mX8_bad0 hS hSA (u2_s _ _ _ _) ?_
        refine q_ifeq hF (by decide) dX8_purse_50 (fun c50 => ?_) (fun c50 => ?_)
        · refine q_lconst hF (z := 0) rfl dX8_purse_55 ?_
          refine q_lstore_n hF (ls' := [(3, qL 0), (0, .ref m), (1, qI (l : Int)), (2, qI 1)]) rfl (by decide) rfl dX8_purse_56 ?_
          refine q_iload_n hF 3 rfl rfl dX8_purse_57 ?_
          refine q_tableIn hF dX8_purse_58 (by decide) (by decide) (by decide) rfl (tgt := 131) rfl ?_
          refine q_aload_n hF 1 rfl rfl dX8_purse_131 ?_
          refine q_getA hF fl_RX8_20 rfl hS.t0 hS.p9 dX8_purse_132 ?_
          refine q_iload_n hF 2 rfl rfl dX8_purse_135 ?_
          refine q_bipush hF (n := 11) rfl dX8_purse_136 ?_
          refine q_callS (kc := 0) (ks := 0) (mc' := 0) (ms' := 0) (h' := 0) (st := [.ref (m + 3)]) hF sl_RX8_176 rfl [qI (l : Int), qI 11] rfl rfl (by decide) (Nat.le_of_ble_eq_true rfl) dX8_purse_138 ?_
          refine mX8_landAt ?_
          refine q_laloadv hF (z := L (m + 3) (35 + 13 * l)) (n := 1243) (35 + 13 * l) hS.t3 (by omega) (by omega) (by decide) rfl dX8_purse_141 ?_
          refine q_lreturn hF rfl dX8_purse_142 ?_
          exact k0
        · exact absurd c50 (by decide)
      · omega
  · omega
set_option maxRecDepth 100000 in
theorem mX8_purse3 {G : q_G} {sz : Nat} {T : q_T} {I L : q_I} {P : q_P} {Q : q_Q} {m : Nat} {l : Nat} (hS : q_SM T P m) (hSA : q_A G m) (hv : g_V0 (L (m + 3))) (hly : (l : Int) < L (m + 3) 0) (k0 : Q (.inl (some (qL (L (m + 3) (36 + 13 * l))))) sz T (u2 I m 0 0) L P) : qC G 4 0 0 YX8_purse [.ref m, qI (l : Int), qI 3] sz T I L P Q := by
  refine qC_of (by decide +kernel) rfl rfl (Nat.le_of_ble_eq_true rfl) (fun F hF _ _ => ?_)
  have hm12 := hv.many
  have hl5 := hv.lands
  refine q_aload_n hF 0 rfl rfl dX8_purse_0 ?_
  refine q_iconst hF dX8_purse_1 ?_
  refine q_putI hF fl_RX8_52 hS.t0 hSA dX8_purse_2 ?_
  refine q_aload_n hF 0 rfl rfl dX8_purse_5 ?_
  refine q_aload_n hF 0 rfl rfl dX8_purse_6 ?_
  refine q_iload_n hF 1 rfl rfl dX8_purse_7 ?_
  refine q_callV (kc := 0) (ks := 0) (mc' := 0) (ms' := 0) (h' := 1) (st := [.ref m]) hF vl_RX8_343 rfl [qI (l : Int)] rfl rfl hS.t0 (by decide) (Nat.le_of_ble_eq_true rfl) dX8_purse_8 ?_
  refine mX8_isLand hS hv (by omega) ?_
  refine q_ifne_b hF dX8_purse_11 (fun c11 => ?_) (fun c11 => ?_)
  · refine q_iconst hF dX8_purse_18 ?_
    refine q_iconst hF dX8_purse_19 ?_
    refine q_iconst hF dX8_purse_20 ?_
    refine q_callV (kc := 0) (ks := 0) (mc' := 0) (ms' := 0) (h' := 0) (st := []) hF vl_RX8_251 rfl [qI 0, qI 1, qI 0] rfl rfl hS.t0 (by decide) (Nat.le_of_ble_eq_true rfl) dX8_purse_21 ?_
    refine mX8_bad0 hS hSA (u2_s _ _ _ _) ?_
    refine q_ifne hF (by decide) dX8_purse_24 (fun c24 => ?_) (fun c24 => ?_)
    · exact absurd c24 (by decide)
    · refine q_aload_n hF 0 rfl rfl dX8_purse_27 ?_
      refine q_iload_n hF 2 rfl rfl dX8_purse_28 ?_
      refine q_i2l hF (by decide) dX8_purse_29 ?_
      refine q_lconst hF (z := 0) rfl dX8_purse_30 ?_
      refine q_ldc2 hF (n := 3) (q_mem 1273 (by decide +kernel) rfl) dX8_purse_31 ?_
      refine q_callS (kc := 0) (ks := 0) (mc' := 0) (ms' := 0) (h' := 0) (st := [.ref m]) hF sl_RX8_123 rfl [qL 3, qL 0, qL 3] rfl rfl (by decide) (Nat.le_of_ble_eq_true rfl) dX8_purse_34 ?_
      refine mX8_in (by decide) (by decide) (by decide) ?_
      refine q_ifne_b hF dX8_purse_37 (fun c37 => ?_) (fun c37 => ?_)
      · refine q_iconst hF dX8_purse_44 ?_
        refine q_iconst hF dX8_purse_45 ?_
        refine q_iconst hF dX8_purse_46 ?_
        refine q_callV (kc := 0) (ks := 0) (mc' := 0) (ms' := 0) (h' := 0) (st := []) hF vl_RX8_251 rfl [qI 0, qI 2, qI 1] rfl rfl hS.t0 (by decide) (Nat.le_of_ble_eq_true rfl) dX8_purse_47 ?_
        refine mX8_bad0 hS hSA (u2_s _ _ _ _) ?_
        refine q_ifeq hF (by decide) dX8_purse_50 (fun c50 => ?_) (fun c50 => ?_)
        · refine q_lconst hF (z := 0) rfl dX8_purse_55 ?_
          refine q_lstore_n hF (ls' := [(3, qL 0), (0, .ref m), (1, qI (l : Int)), (2, qI 3)]) rfl (by decide) rfl dX8_purse_56 ?_
          refine q_iload_n hF 3 rfl rfl dX8_purse_57 ?_
          refine q_tableOut hF dX8_purse_58 (by decide) (by decide) (tgt := 211) rfl ?_
          refine q_aload_n hF 1 rfl rfl dX8_purse_211 ?_
          refine q_getA hF fl_RX8_20 rfl hS.t0 hS.p9 dX8_purse_212 ?_
          refine q_iload_n hF 2 rfl rfl dX8_purse_215 ?_
          refine q_bipush hF (n := 12) rfl dX8_purse_216 ?_
          refine q_callS (kc := 0) (ks := 0) (mc' := 0) (ms' := 0) (h' := 0) (st := [.ref (m + 3)]) hF sl_RX8_176 rfl [qI (l : Int), qI 12] rfl rfl (by decide) (Nat.le_of_ble_eq_true rfl) dX8_purse_218 ?_
          refine mX8_landAt ?_
          refine q_laloadv hF (z := L (m + 3) (36 + 13 * l)) (n := 1243) (36 + 13 * l) hS.t3 (by omega) (by omega) (by decide) rfl dX8_purse_221 ?_
          refine q_lreturn hF rfl dX8_purse_222 ?_
          exact k0
        · exact absurd c50 (by decide)
      · omega
  · omega
set_option maxRecDepth 100000 in
theorem lX8_purse0 {G : q_G} {F : q_F} {Q : q_Q} {kc ks sz : Nat} {T : q_T} {m mn : Nat} {bd : Int} {l : Nat} {I L : q_I} {P : q_P} (hF : q_ok G F YX8_purse 4) (hS : q_SM T P m) (hv : g_V0 (L (m + 3))) (hmn : L (m + 3) 1 = (mn : Int)) (hm12 : mn ≤ 12) (hvs : ∀ i : Nat, i < mn → g_VA (L (m + 3)) i bd) (hly : l < 5) (k0 : Q (.inl (some (qL (g_sum (g_heldC (L (m + 3)) (l : Int)) mn)))) sz T I L P) : ∀ (n : Nat) (k : Nat), mn - k < n → k ≤ mn → qX G F Q kc ks 87 [(5, qI (k : Int)), (3, qL (g_sum (g_heldC (L (m + 3)) (l : Int)) k)), (0, .ref m), (1, qI (l : Int)), (2, qI 0)] [] sz T I L P := by
  intro n
  induction n with
  | zero => intro k hn; exact absurd hn (Nat.not_lt_zero _)
  | succ n ih =>
    intro k hn hk
    refine q_iload hF 0 rfl dX8_purse_87 ?_
    refine q_aload_n hF 2 rfl rfl dX8_purse_89 ?_
    refine q_callV (kc := kc) (ks := ks) (mc' := 0) (ms' := 0) (h' := 0) (st := [qI (k : Int)]) hF vl_RX8_337 rfl [] rfl rfl hS.t0 (by decide) (Nat.le_of_ble_eq_true rfl) dX8_purse_90 ?_
    refine mX8_many hS ?_
    rw [show L (m + 3) 1 = (mn : Int) from hmn]
    refine q_icmpge hF (by omega) (by omega) dX8_purse_93 (fun c93 => ?_) (fun c93 => ?_)
    · refine q_lload_n hF 1 rfl rfl dX8_purse_129 ?_
      refine q_lreturn hF rfl dX8_purse_130 ?_
      rw [show k = mn by omega]; exact k0
    · have hA := hvs k (by omega)
      refine q_lload_n hF 1 rfl rfl dX8_purse_96 ?_
      have hJ97 : qX G F Q kc ks 121 [(5, qI (k : Int)), (3, qL (g_sum (g_heldC (L (m + 3)) (l : Int)) k)), (0, .ref m), (1, qI (l : Int)), (2, qI 0)] [qL (g_heldC (L (m + 3)) (l : Int) k), qL (g_sum (g_heldC (L (m + 3)) (l : Int)) k)] sz T I L P := by
        refine q_ladd hF dX8_purse_121 ?_
        refine q_lstore_n hF (ls' := [(3, qL ((g_sum (g_heldC (L (m + 3)) (l : Int)) k) + (g_heldC (L (m + 3)) (l : Int) k))), (5, qI (k : Int)), (0, .ref m), (1, qI (l : Int)), (2, qI 0)]) rfl (by decide) rfl dX8_purse_122 ?_
        refine q_iinc hF (z' := ((1 + k : Nat) : Int)) (ls' := [(5, qI ((1 + k : Nat) : Int)), (3, qL ((g_sum (g_heldC (L (m + 3)) (l : Int)) k) + (g_heldC (L (m + 3)) (l : Int) k))), (0, .ref m), (1, qI (l : Int)), (2, qI 0)]) 1 rfl (by first | rfl | omega) (by decide) rfl dX8_purse_123 ?_
        refine q_goto hF dX8_purse_126 ?_
        rw [show ((g_sum (g_heldC (L (m + 3)) (l : Int)) k) + (g_heldC (L (m + 3)) (l : Int) k)) = g_sum (g_heldC (L (m + 3)) (l : Int)) (1 + k) from by rw [Nat.add_comm 1 k]; rfl]
        exact ih (1 + k) (by omega) (by omega)
      refine q_aload_n hF 2 rfl rfl dX8_purse_97 ?_
      refine q_iload hF 0 rfl dX8_purse_98 ?_
      refine q_iload_n hF 3 rfl rfl dX8_purse_100 ?_
      refine q_callV (kc := kc) (ks := ks) (mc' := 0) (ms' := 0) (h' := 2) (st := [qL (g_sum (g_heldC (L (m + 3)) (l : Int)) k)]) hF vl_RX8_371 rfl [qI (k : Int), qI (l : Int)] rfl rfl hS.t0 (by decide) (Nat.le_of_ble_eq_true rfl) dX8_purse_101 ?_
      refine mX8_isHeldBy (i := k) hS hv (by omega) hA (by omega) ?_
      refine q_ifeq_b hF dX8_purse_104 (fun c104 => ?_) (fun c104 => ?_)
      · refine q_lconst hF (z := 0) rfl dX8_purse_120 ?_
        rw [show (g_heldC (L (m + 3)) (l : Int) k) = 0 from by unfold g_heldC; first | exact if_pos (by omega) | exact if_neg (by omega)] at hJ97; exact hJ97
      · refine q_aload_n hF 2 rfl rfl dX8_purse_107 ?_
        refine q_getA hF fl_RX8_20 rfl hS.t0 hS.p9 dX8_purse_108 ?_
        refine q_iload hF 0 rfl dX8_purse_111 ?_
        refine q_iconst hF dX8_purse_113 ?_
        refine q_callS (kc := kc) (ks := ks) (mc' := 0) (ms' := 0) (h' := 1) (st := [qL (g_sum (g_heldC (L (m + 3)) (l : Int)) k)]) hF sl_RX8_268 rfl [.ref (m + 3), qI (k : Int), qI 3] rfl rfl (by decide) (Nat.le_of_ble_eq_true rfl) dX8_purse_114 ?_
        refine mX8_of (j := (1042 + 12 * k)) hS.t3 (by omega) (by omega) ?_
        refine q_goto hF dX8_purse_117 ?_
        rw [show (g_heldC (L (m + 3)) (l : Int) k) = (L (m + 3) (1042 + 12 * k)) from by unfold g_heldC; first | exact if_pos (by omega) | exact if_neg (by omega)] at hJ97; exact hJ97
set_option maxRecDepth 100000 in
theorem mX8_purse_0 {G : q_G} {sz : Nat} {T : q_T} {I L : q_I} {P : q_P} {Q : q_Q} {m : Nat} {l mn : Nat} {bd : Int} (hS : q_SM T P m) (hSA : q_A G m) (hv : g_V0 (L (m + 3))) (hmn : L (m + 3) 1 = (mn : Int)) (hm12 : mn ≤ 12) (hvs : ∀ i : Nat, i < mn → g_VA (L (m + 3)) i bd) (hly : (l : Int) < L (m + 3) 0) (k0 : Q (.inl (some (qL (g_sum (g_heldC (L (m + 3)) (l : Int)) mn)))) sz T (u2 I m 0 0) L P) : qC G 4 0 0 YX8_purse [.ref m, qI (l : Int), qI 0] sz T I L P Q := by
  refine qC_of (by decide +kernel) rfl rfl (Nat.le_of_ble_eq_true rfl) (fun F hF _ _ => ?_)
  have hm12 := hv.many
  have hl5 := hv.lands
  refine q_aload_n hF 0 rfl rfl dX8_purse_0 ?_
  refine q_iconst hF dX8_purse_1 ?_
  refine q_putI hF fl_RX8_52 hS.t0 hSA dX8_purse_2 ?_
  refine q_aload_n hF 0 rfl rfl dX8_purse_5 ?_
  refine q_aload_n hF 0 rfl rfl dX8_purse_6 ?_
  refine q_iload_n hF 1 rfl rfl dX8_purse_7 ?_
  refine q_callV (kc := 0) (ks := 0) (mc' := 0) (ms' := 0) (h' := 1) (st := [.ref m]) hF vl_RX8_343 rfl [qI (l : Int)] rfl rfl hS.t0 (by decide) (Nat.le_of_ble_eq_true rfl) dX8_purse_8 ?_
  refine mX8_isLand hS hv (by omega) ?_
  refine q_ifne_b hF dX8_purse_11 (fun c11 => ?_) (fun c11 => ?_)
  · refine q_iconst hF dX8_purse_18 ?_
    refine q_iconst hF dX8_purse_19 ?_
    refine q_iconst hF dX8_purse_20 ?_
    refine q_callV (kc := 0) (ks := 0) (mc' := 0) (ms' := 0) (h' := 0) (st := []) hF vl_RX8_251 rfl [qI 0, qI 1, qI 0] rfl rfl hS.t0 (by decide) (Nat.le_of_ble_eq_true rfl) dX8_purse_21 ?_
    refine mX8_bad0 hS hSA (u2_s _ _ _ _) ?_
    refine q_ifne hF (by decide) dX8_purse_24 (fun c24 => ?_) (fun c24 => ?_)
    · exact absurd c24 (by decide)
    · refine q_aload_n hF 0 rfl rfl dX8_purse_27 ?_
      refine q_iload_n hF 2 rfl rfl dX8_purse_28 ?_
      refine q_i2l hF (by decide) dX8_purse_29 ?_
      refine q_lconst hF (z := 0) rfl dX8_purse_30 ?_
      refine q_ldc2 hF (n := 3) (q_mem 1273 (by decide +kernel) rfl) dX8_purse_31 ?_
      refine q_callS (kc := 0) (ks := 0) (mc' := 0) (ms' := 0) (h' := 0) (st := [.ref m]) hF sl_RX8_123 rfl [qL 0, qL 0, qL 3] rfl rfl (by decide) (Nat.le_of_ble_eq_true rfl) dX8_purse_34 ?_
      refine mX8_in (by decide) (by decide) (by decide) ?_
      refine q_ifne_b hF dX8_purse_37 (fun c37 => ?_) (fun c37 => ?_)
      · refine q_iconst hF dX8_purse_44 ?_
        refine q_iconst hF dX8_purse_45 ?_
        refine q_iconst hF dX8_purse_46 ?_
        refine q_callV (kc := 0) (ks := 0) (mc' := 0) (ms' := 0) (h' := 0) (st := []) hF vl_RX8_251 rfl [qI 0, qI 2, qI 1] rfl rfl hS.t0 (by decide) (Nat.le_of_ble_eq_true rfl) dX8_purse_47 ?_
        refine mX8_bad0 hS hSA (u2_s _ _ _ _) ?_
        refine q_ifeq hF (by decide) dX8_purse_50 (fun c50 => ?_) (fun c50 => ?_)
        · refine q_lconst hF (z := 0) rfl dX8_purse_55 ?_
          refine q_lstore_n hF (ls' := [(3, qL 0), (0, .ref m), (1, qI (l : Int)), (2, qI 0)]) rfl (by decide) rfl dX8_purse_56 ?_
          refine q_iload_n hF 3 rfl rfl dX8_purse_57 ?_
          refine q_tableIn hF dX8_purse_58 (by decide) (by decide) (by decide) rfl (tgt := 84) rfl ?_
          refine q_iconst hF dX8_purse_84 ?_
          refine q_istore hF (ls' := [(5, qI 0), (3, qL 0), (0, .ref m), (1, qI (l : Int)), (2, qI 0)]) (by decide) rfl dX8_purse_85 ?_
          exact lX8_purse0 hF hS hv hmn (by omega) hvs (by omega) k0 13 0 (by omega) (Nat.zero_le _)
        · exact absurd c50 (by decide)
      · omega
  · omega
set_option maxRecDepth 100000 in
theorem lX8_purse2 {G : q_G} {F : q_F} {Q : q_Q} {kc ks sz : Nat} {T : q_T} {m rn l : Nat} {I L : q_I} {P : q_P} (hF : q_ok G F YX8_purse 4) (hS : q_SM T P m) (hv : g_V0 (L (m + 3))) (hrw : L (m + 3) 6 = (rn : Int)) (hr12 : rn ≤ 12) (hrr : ∀ k : Nat, k < rn → 0 ≤ L (m + 3) (1185 + 5 * k) ∧ L (m + 3) (1185 + 5 * k) ≤ 4) (hly : l < 5) (k0 : Q (.inl (some (qL (g_sum (g_rowC (L (m + 3)) (l : Int)) rn)))) sz T I L P) : ∀ (n : Nat) (k : Nat), rn - k < n → k ≤ rn → qX G F Q kc ks 146 [(5, qI (k : Int)), (3, qL (g_sum (g_rowC (L (m + 3)) (l : Int)) k)), (0, .ref m), (1, qI (l : Int)), (2, qI 2)] [] sz T I L P := by
  intro n
  induction n with
  | zero => intro k hn; exact absurd hn (Nat.not_lt_zero _)
  | succ n ih =>
    intro k hn hk
    refine q_iload hF 0 rfl dX8_purse_146 ?_
    refine q_i2l hF (by omega) dX8_purse_148 ?_
    refine q_aload_n hF 2 rfl rfl dX8_purse_149 ?_
    refine q_getA hF fl_RX8_20 rfl hS.t0 hS.p9 dX8_purse_150 ?_
    refine q_bipush hF (n := 6) rfl dX8_purse_153 ?_
    refine q_laloadv hF (z := (rn : Int)) (n := 1243) 6 hS.t3 rfl (by decide) (by decide) hrw dX8_purse_155 ?_
    refine q_cmpge hF (by omega) (by omega) dX8_purse_156 dX8_purse_157 (fun c157 => ?_) (fun c157 => ?_)
    · refine q_lload_n hF 1 rfl rfl dX8_purse_209 ?_
      refine q_lreturn hF rfl dX8_purse_210 ?_
      rw [show k = rn by omega]; exact k0
    · refine q_lload_n hF 1 rfl rfl dX8_purse_160 ?_
      have hJ161 : qX G F Q kc ks 201 [(5, qI (k : Int)), (3, qL (g_sum (g_rowC (L (m + 3)) (l : Int)) k)), (0, .ref m), (1, qI (l : Int)), (2, qI 2)] [qL (g_rowC (L (m + 3)) (l : Int) k), qL (g_sum (g_rowC (L (m + 3)) (l : Int)) k)] sz T I L P := by
        refine q_ladd hF dX8_purse_201 ?_
        refine q_lstore_n hF (ls' := [(3, qL ((g_sum (g_rowC (L (m + 3)) (l : Int)) k) + (g_rowC (L (m + 3)) (l : Int) k))), (5, qI (k : Int)), (0, .ref m), (1, qI (l : Int)), (2, qI 2)]) rfl (by decide) rfl dX8_purse_202 ?_
        refine q_iinc hF (z' := ((1 + k : Nat) : Int)) (ls' := [(5, qI ((1 + k : Nat) : Int)), (3, qL ((g_sum (g_rowC (L (m + 3)) (l : Int)) k) + (g_rowC (L (m + 3)) (l : Int) k))), (0, .ref m), (1, qI (l : Int)), (2, qI 2)]) 1 rfl (by first | rfl | omega) (by decide) rfl dX8_purse_203 ?_
        refine q_goto hF dX8_purse_206 ?_
        rw [show ((g_sum (g_rowC (L (m + 3)) (l : Int)) k) + (g_rowC (L (m + 3)) (l : Int) k)) = g_sum (g_rowC (L (m + 3)) (l : Int)) (1 + k) from by rw [Nat.add_comm 1 k]; rfl]
        exact ih (1 + k) (by omega) (by omega)
      refine q_aload_n hF 2 rfl rfl dX8_purse_161 ?_
      refine q_getA hF fl_RX8_20 rfl hS.t0 hS.p9 dX8_purse_162 ?_
      refine q_sipush hF (n := 1183) rfl dX8_purse_165 ?_
      refine q_iconst hF dX8_purse_168 ?_
      refine q_iload hF 0 rfl dX8_purse_169 ?_
      refine q_imul hF dX8_purse_171 ?_
      refine q_iadd hF dX8_purse_172 ?_
      refine q_iconst hF dX8_purse_173 ?_
      refine q_iadd hF dX8_purse_174 ?_
      refine q_laloadv hF (z := L (m + 3) (1185 + 5 * k)) (n := 1243) (1185 + 5 * k) hS.t3 (by omega) (by omega) (by decide) rfl dX8_purse_175 ?_
      refine q_iload_n hF 3 rfl rfl dX8_purse_176 ?_
      refine q_i2l hF (by omega) dX8_purse_177 ?_
      refine q_cmpne hF (by have q := hrr k (by omega); omega) (by omega) dX8_purse_178 dX8_purse_179 (fun c179 => ?_) (fun c179 => ?_)
      · refine q_lconst hF (z := 0) rfl dX8_purse_200 ?_
        rw [show (g_rowC (L (m + 3)) (l : Int) k) = 0 from by unfold g_rowC; first | exact if_pos (by omega) | exact if_neg (by omega)] at hJ161; exact hJ161
      · refine q_aload_n hF 2 rfl rfl dX8_purse_182 ?_
        refine q_getA hF fl_RX8_20 rfl hS.t0 hS.p9 dX8_purse_183 ?_
        refine q_sipush hF (n := 1183) rfl dX8_purse_186 ?_
        refine q_iconst hF dX8_purse_189 ?_
        refine q_iload hF 0 rfl dX8_purse_190 ?_
        refine q_imul hF dX8_purse_192 ?_
        refine q_iadd hF dX8_purse_193 ?_
        refine q_iconst hF dX8_purse_194 ?_
        refine q_iadd hF dX8_purse_195 ?_
        refine q_laloadv hF (z := L (m + 3) (1186 + 5 * k)) (n := 1243) (1186 + 5 * k) hS.t3 (by omega) (by omega) (by decide) rfl dX8_purse_196 ?_
        refine q_goto hF dX8_purse_197 ?_
        rw [show (g_rowC (L (m + 3)) (l : Int) k) = (L (m + 3) (1186 + 5 * k)) from by unfold g_rowC; first | exact if_pos (by omega) | exact if_neg (by omega)] at hJ161; exact hJ161
set_option maxRecDepth 100000 in
theorem mX8_purse2 {G : q_G} {sz : Nat} {T : q_T} {I L : q_I} {P : q_P} {Q : q_Q} {m : Nat} {l rn : Nat} (hS : q_SM T P m) (hSA : q_A G m) (hv : g_V0 (L (m + 3))) (hly : (l : Int) < L (m + 3) 0) (hrw : L (m + 3) 6 = (rn : Int)) (hr12 : rn ≤ 12) (hrr : ∀ k : Nat, k < rn → 0 ≤ L (m + 3) (1185 + 5 * k) ∧ L (m + 3) (1185 + 5 * k) ≤ 4) (k0 : Q (.inl (some (qL (g_sum (g_rowC (L (m + 3)) (l : Int)) rn)))) sz T (u2 I m 0 0) L P) : qC G 4 0 0 YX8_purse [.ref m, qI (l : Int), qI 2] sz T I L P Q := by
  refine qC_of (by decide +kernel) rfl rfl (Nat.le_of_ble_eq_true rfl) (fun F hF _ _ => ?_)
  have hm12 := hv.many
  have hl5 := hv.lands
  refine q_aload_n hF 0 rfl rfl dX8_purse_0 ?_
  refine q_iconst hF dX8_purse_1 ?_
  refine q_putI hF fl_RX8_52 hS.t0 hSA dX8_purse_2 ?_
  refine q_aload_n hF 0 rfl rfl dX8_purse_5 ?_
  refine q_aload_n hF 0 rfl rfl dX8_purse_6 ?_
  refine q_iload_n hF 1 rfl rfl dX8_purse_7 ?_
  refine q_callV (kc := 0) (ks := 0) (mc' := 0) (ms' := 0) (h' := 1) (st := [.ref m]) hF vl_RX8_343 rfl [qI (l : Int)] rfl rfl hS.t0 (by decide) (Nat.le_of_ble_eq_true rfl) dX8_purse_8 ?_
  refine mX8_isLand hS hv (by omega) ?_
  refine q_ifne_b hF dX8_purse_11 (fun c11 => ?_) (fun c11 => ?_)
  · refine q_iconst hF dX8_purse_18 ?_
    refine q_iconst hF dX8_purse_19 ?_
    refine q_iconst hF dX8_purse_20 ?_
    refine q_callV (kc := 0) (ks := 0) (mc' := 0) (ms' := 0) (h' := 0) (st := []) hF vl_RX8_251 rfl [qI 0, qI 1, qI 0] rfl rfl hS.t0 (by decide) (Nat.le_of_ble_eq_true rfl) dX8_purse_21 ?_
    refine mX8_bad0 hS hSA (u2_s _ _ _ _) ?_
    refine q_ifne hF (by decide) dX8_purse_24 (fun c24 => ?_) (fun c24 => ?_)
    · exact absurd c24 (by decide)
    · refine q_aload_n hF 0 rfl rfl dX8_purse_27 ?_
      refine q_iload_n hF 2 rfl rfl dX8_purse_28 ?_
      refine q_i2l hF (by decide) dX8_purse_29 ?_
      refine q_lconst hF (z := 0) rfl dX8_purse_30 ?_
      refine q_ldc2 hF (n := 3) (q_mem 1273 (by decide +kernel) rfl) dX8_purse_31 ?_
      refine q_callS (kc := 0) (ks := 0) (mc' := 0) (ms' := 0) (h' := 0) (st := [.ref m]) hF sl_RX8_123 rfl [qL 2, qL 0, qL 3] rfl rfl (by decide) (Nat.le_of_ble_eq_true rfl) dX8_purse_34 ?_
      refine mX8_in (by decide) (by decide) (by decide) ?_
      refine q_ifne_b hF dX8_purse_37 (fun c37 => ?_) (fun c37 => ?_)
      · refine q_iconst hF dX8_purse_44 ?_
        refine q_iconst hF dX8_purse_45 ?_
        refine q_iconst hF dX8_purse_46 ?_
        refine q_callV (kc := 0) (ks := 0) (mc' := 0) (ms' := 0) (h' := 0) (st := []) hF vl_RX8_251 rfl [qI 0, qI 2, qI 1] rfl rfl hS.t0 (by decide) (Nat.le_of_ble_eq_true rfl) dX8_purse_47 ?_
        refine mX8_bad0 hS hSA (u2_s _ _ _ _) ?_
        refine q_ifeq hF (by decide) dX8_purse_50 (fun c50 => ?_) (fun c50 => ?_)
        · refine q_lconst hF (z := 0) rfl dX8_purse_55 ?_
          refine q_lstore_n hF (ls' := [(3, qL 0), (0, .ref m), (1, qI (l : Int)), (2, qI 2)]) rfl (by decide) rfl dX8_purse_56 ?_
          refine q_iload_n hF 3 rfl rfl dX8_purse_57 ?_
          refine q_tableIn hF dX8_purse_58 (by decide) (by decide) (by decide) rfl (tgt := 143) rfl ?_
          refine q_iconst hF dX8_purse_143 ?_
          refine q_istore hF (ls' := [(5, qI 0), (3, qL 0), (0, .ref m), (1, qI (l : Int)), (2, qI 2)]) (by decide) rfl dX8_purse_144 ?_
          exact lX8_purse2 hF hS hv hrw hr12 hrr (by omega) k0 13 0 (by omega) (Nat.zero_le _)
        · exact absurd c50 (by decide)
      · omega
  · omega
set_option maxRecDepth 100000 in
theorem mX8_land00 {G : q_G} {sz : Nat} {T : q_T} {I L : q_I} {P : q_P} {Q : q_Q} {m : Nat} {l : Int} {w : Int}  (hS : q_SM T P m) (hSA : q_A G m) (hv : g_V0 (L (m + 3))) (hl : -2147483648 ≤ l ∧ l < 2147483648) (hn : ¬ (0 ≤ l ∧ l ≤ L (m + 3) 0 - 1)) (k1 : Q (.inl (some (qI 0))) sz T (u2 (u2 (u2 I m 0 0) m 0 1) (m + 1) 0 ((I (m + 1) 0) + 1)) L P) : qC G 4 0 0 YX8_land [.ref m, qI l, qI w] sz T I L P Q := by
  refine qC_of (by decide +kernel) rfl rfl (Nat.le_of_ble_eq_true rfl) (fun F hF _ _ => ?_)
  have hm12 := hv.many
  have hl5 := hv.lands
  refine q_aload_n hF 0 rfl rfl dX8_land_0 ?_
  refine q_iconst hF dX8_land_1 ?_
  refine q_putI hF fl_RX8_52 hS.t0 hSA dX8_land_2 ?_
  refine q_aload_n hF 0 rfl rfl dX8_land_5 ?_
  refine q_aload_n hF 0 rfl rfl dX8_land_6 ?_
  refine q_iload_n hF 1 rfl rfl dX8_land_7 ?_
  refine q_callV (kc := 0) (ks := 0) (mc' := 0) (ms' := 0) (h' := 1) (st := [.ref m]) hF vl_RX8_343 rfl [qI l] rfl rfl hS.t0 (by decide) (Nat.le_of_ble_eq_true rfl) dX8_land_8 ?_
  refine mX8_isLand hS hv hl ?_
  refine q_ifne_b hF dX8_land_11 (fun c11 => ?_) (fun c11 => ?_)
  · omega
  · refine q_iconst hF dX8_land_14 ?_
    refine q_goto hF dX8_land_15 ?_
    refine q_iconst hF dX8_land_19 ?_
    refine q_iconst hF dX8_land_20 ?_
    refine q_callV (kc := 0) (ks := 0) (mc' := 0) (ms' := 0) (h' := 0) (st := []) hF vl_RX8_251 rfl [qI 1, qI 1, qI 0] rfl rfl hS.t0 (by decide) (Nat.le_of_ble_eq_true rfl) dX8_land_21 ?_
    refine mX8_bad1 (j := 0) hS hSA (u2_s _ _ _ _) (by omega) rfl (by decide) ?_
    rw [show (u2 I m 0 0) (m + 1) 0 = I (m + 1) 0 from (u2_a _ _ (by omega))]
    refine q_ifne hF (by decide) dX8_land_24 (fun c24 => ?_) (fun c24 => ?_)
    · refine q_iconst hF dX8_land_53 ?_
      refine q_ireturn hF rfl dX8_land_54 ?_
      exact k1
    · exact absurd c24 (by decide)
set_option maxRecDepth 100000 in
theorem mX8_land0 {G : q_G} {sz : Nat} {T : q_T} {I L : q_I} {P : q_P} {Q : q_Q} {m : Nat} {w : Int} {l : Nat} (hS : q_SM T P m) (hSA : q_A G m) (hv : g_V0 (L (m + 3))) (hly : (l : Int) < L (m + 3) 0) (hw : -2147483648 ≤ w ∧ w < 2147483648) (hn : ¬ (0 ≤ w ∧ w ≤ 5)) (k2 : Q (.inl (some (qI 0))) sz T (u2 (u2 (u2 I m 0 0) m 0 2) (m + 1) 1 ((I (m + 1) 1) + 1)) L P) : qC G 4 0 0 YX8_land [.ref m, qI (l : Int), qI w] sz T I L P Q := by
  refine qC_of (by decide +kernel) rfl rfl (Nat.le_of_ble_eq_true rfl) (fun F hF _ _ => ?_)
  have hm12 := hv.many
  have hl5 := hv.lands
  refine q_aload_n hF 0 rfl rfl dX8_land_0 ?_
  refine q_iconst hF dX8_land_1 ?_
  refine q_putI hF fl_RX8_52 hS.t0 hSA dX8_land_2 ?_
  refine q_aload_n hF 0 rfl rfl dX8_land_5 ?_
  refine q_aload_n hF 0 rfl rfl dX8_land_6 ?_
  refine q_iload_n hF 1 rfl rfl dX8_land_7 ?_
  refine q_callV (kc := 0) (ks := 0) (mc' := 0) (ms' := 0) (h' := 1) (st := [.ref m]) hF vl_RX8_343 rfl [qI (l : Int)] rfl rfl hS.t0 (by decide) (Nat.le_of_ble_eq_true rfl) dX8_land_8 ?_
  refine mX8_isLand hS hv (by omega) ?_
  refine q_ifne_b hF dX8_land_11 (fun c11 => ?_) (fun c11 => ?_)
  · refine q_iconst hF dX8_land_18 ?_
    refine q_iconst hF dX8_land_19 ?_
    refine q_iconst hF dX8_land_20 ?_
    refine q_callV (kc := 0) (ks := 0) (mc' := 0) (ms' := 0) (h' := 0) (st := []) hF vl_RX8_251 rfl [qI 0, qI 1, qI 0] rfl rfl hS.t0 (by decide) (Nat.le_of_ble_eq_true rfl) dX8_land_21 ?_
    refine mX8_bad0 hS hSA (u2_s _ _ _ _) ?_
    refine q_ifne hF (by decide) dX8_land_24 (fun c24 => ?_) (fun c24 => ?_)
    · exact absurd c24 (by decide)
    · refine q_aload_n hF 0 rfl rfl dX8_land_27 ?_
      refine q_iload_n hF 2 rfl rfl dX8_land_28 ?_
      refine q_i2l hF hw dX8_land_29 ?_
      refine q_lconst hF (z := 0) rfl dX8_land_30 ?_
      refine q_ldc2 hF (n := 5) (q_mem 1392 (by decide +kernel) rfl) dX8_land_31 ?_
      refine q_callS (kc := 0) (ks := 0) (mc' := 0) (ms' := 0) (h' := 0) (st := [.ref m]) hF sl_RX8_123 rfl [qL w, qL 0, qL 5] rfl rfl (by decide) (Nat.le_of_ble_eq_true rfl) dX8_land_34 ?_
      refine mX8_in (by omega) (by decide) (by decide) ?_
      refine q_ifne_b hF dX8_land_37 (fun c37 => ?_) (fun c37 => ?_)
      · omega
      · refine q_iconst hF dX8_land_40 ?_
        refine q_goto hF dX8_land_41 ?_
        refine q_iconst hF dX8_land_45 ?_
        refine q_iconst hF dX8_land_46 ?_
        refine q_callV (kc := 0) (ks := 0) (mc' := 0) (ms' := 0) (h' := 0) (st := []) hF vl_RX8_251 rfl [qI 1, qI 2, qI 1] rfl rfl hS.t0 (by decide) (Nat.le_of_ble_eq_true rfl) dX8_land_47 ?_
        refine mX8_bad1 (j := 1) hS hSA (u2_s _ _ _ _) (by omega) rfl (by decide) ?_
        rw [show (u2 I m 0 0) (m + 1) 1 = I (m + 1) 1 from (u2_k _ _ (by decide))]
        refine q_ifeq hF (by decide) dX8_land_50 (fun c50 => ?_) (fun c50 => ?_)
        · exact absurd c50 (by decide)
        · refine q_iconst hF dX8_land_53 ?_
          refine q_ireturn hF rfl dX8_land_54 ?_
          exact k2
  · omega
set_option maxRecDepth 100000 in
theorem mX8_land {G : q_G} {sz : Nat} {T : q_T} {I L : q_I} {P : q_P} {Q : q_Q} {m : Nat} {l w : Nat} (hS : q_SM T P m) (hSA : q_A G m) (hv : g_V0 (L (m + 3))) (hly : (l : Int) < L (m + 3) 0) (hw : w < 4) (k0 : Q (.inl (some (qI (L (m + 3) (31 + 13 * l + w))))) sz T (u2 I m 0 0) L P) : qC G 4 0 0 YX8_land [.ref m, qI (l : Int), qI (w : Int)] sz T I L P Q := by
  refine qC_of (by decide +kernel) rfl rfl (Nat.le_of_ble_eq_true rfl) (fun F hF _ _ => ?_)
  have hm12 := hv.many
  have hl5 := hv.lands
  refine q_aload_n hF 0 rfl rfl dX8_land_0 ?_
  refine q_iconst hF dX8_land_1 ?_
  refine q_putI hF fl_RX8_52 hS.t0 hSA dX8_land_2 ?_
  refine q_aload_n hF 0 rfl rfl dX8_land_5 ?_
  refine q_aload_n hF 0 rfl rfl dX8_land_6 ?_
  refine q_iload_n hF 1 rfl rfl dX8_land_7 ?_
  refine q_callV (kc := 0) (ks := 0) (mc' := 0) (ms' := 0) (h' := 1) (st := [.ref m]) hF vl_RX8_343 rfl [qI (l : Int)] rfl rfl hS.t0 (by decide) (Nat.le_of_ble_eq_true rfl) dX8_land_8 ?_
  refine mX8_isLand hS hv (by omega) ?_
  refine q_ifne_b hF dX8_land_11 (fun c11 => ?_) (fun c11 => ?_)
  · refine q_iconst hF dX8_land_18 ?_
    refine q_iconst hF dX8_land_19 ?_
    refine q_iconst hF dX8_land_20 ?_
    refine q_callV (kc := 0) (ks := 0) (mc' := 0) (ms' := 0) (h' := 0) (st := []) hF vl_RX8_251 rfl [qI 0, qI 1, qI 0] rfl rfl hS.t0 (by decide) (Nat.le_of_ble_eq_true rfl) dX8_land_21 ?_
    refine mX8_bad0 hS hSA (u2_s _ _ _ _) ?_
    refine q_ifne hF (by decide) dX8_land_24 (fun c24 => ?_) (fun c24 => ?_)
    · exact absurd c24 (by decide)
    · refine q_aload_n hF 0 rfl rfl dX8_land_27 ?_
      refine q_iload_n hF 2 rfl rfl dX8_land_28 ?_
      refine q_i2l hF (by omega) dX8_land_29 ?_
      refine q_lconst hF (z := 0) rfl dX8_land_30 ?_
      refine q_ldc2 hF (n := 5) (q_mem 1392 (by decide +kernel) rfl) dX8_land_31 ?_
      refine q_callS (kc := 0) (ks := 0) (mc' := 0) (ms' := 0) (h' := 0) (st := [.ref m]) hF sl_RX8_123 rfl [qL (w : Int), qL 0, qL 5] rfl rfl (by decide) (Nat.le_of_ble_eq_true rfl) dX8_land_34 ?_
      refine mX8_in (by omega) (by decide) (by decide) ?_
      refine q_ifne_b hF dX8_land_37 (fun c37 => ?_) (fun c37 => ?_)
      · refine q_iconst hF dX8_land_44 ?_
        refine q_iconst hF dX8_land_45 ?_
        refine q_iconst hF dX8_land_46 ?_
        refine q_callV (kc := 0) (ks := 0) (mc' := 0) (ms' := 0) (h' := 0) (st := []) hF vl_RX8_251 rfl [qI 0, qI 2, qI 1] rfl rfl hS.t0 (by decide) (Nat.le_of_ble_eq_true rfl) dX8_land_47 ?_
        refine mX8_bad0 hS hSA (u2_s _ _ _ _) ?_
        refine q_ifeq hF (by decide) dX8_land_50 (fun c50 => ?_) (fun c50 => ?_)
        · refine q_iload_n hF 2 rfl rfl dX8_land_55 ?_
          refine q_iconst hF dX8_land_56 ?_
          refine q_icmpge hF (by omega) (by decide) dX8_land_57 (fun c57 => ?_) (fun c57 => ?_)
          · omega
          · refine q_aload_n hF 0 rfl rfl dX8_land_60 ?_
            refine q_getA hF fl_RX8_20 rfl hS.t0 hS.p9 dX8_land_61 ?_
            refine q_iload_n hF 1 rfl rfl dX8_land_64 ?_
            refine q_bipush hF (n := 7) rfl dX8_land_65 ?_
            refine q_iload_n hF 2 rfl rfl dX8_land_67 ?_
            refine q_iadd hF dX8_land_68 ?_
            refine q_callS (kc := 0) (ks := 0) (mc' := 0) (ms' := 0) (h' := 0) (st := [.ref (m + 3)]) hF sl_RX8_176 rfl [qI (l : Int), qI (7 + (w : Int))] rfl rfl (by decide) (Nat.le_of_ble_eq_true rfl) dX8_land_69 ?_
            refine mX8_landAt ?_
            refine q_laloadv hF (z := L (m + 3) (31 + 13 * l + w)) (n := 1243) (31 + 13 * l + w) hS.t3 (by omega) (by omega) (by decide) rfl dX8_land_72 ?_
            refine q_l2i hF dX8_land_73 ?_
            refine q_ireturn hF rfl dX8_land_74 ?_
            exact k0
        · exact absurd c50 (by decide)
      · omega
  · omega
set_option maxRecDepth 100000 in
theorem lX8_land5 {G : q_G} {F : q_F} {Q : q_Q} {kc ks sz : Nat} {T : q_T} {m mn l : Nat} {bd : Int} {I L : q_I} {P : q_P} (hF : q_ok G F YX8_land 4) (hS : q_SM T P m) (hv : g_V0 (L (m + 3))) (hmn : L (m + 3) 1 = (mn : Int)) (hm12 : mn ≤ 12) (hvs : ∀ i : Nat, i < mn → g_VA (L (m + 3)) i bd) (hly : l < 5) (k0 : Q (.inl (some (qI (g_set (fun k => L (m + 3) (1043 + 12 * k) = 2 ∧ L (m + 3) (1047 + 12 * k) = (l : Int)) mn)))) sz T I L P) : ∀ (n : Nat) (k : Nat), mn - k < n → k ≤ mn → qX G F Q kc ks 129 [(4, qI (k : Int)), (3, qI (g_set (fun k => L (m + 3) (1043 + 12 * k) = 2 ∧ L (m + 3) (1047 + 12 * k) = (l : Int)) k)), (0, .ref m), (1, qI (l : Int)), (2, qI 5)] [] sz T I L P := by
  intro n
  induction n with
  | zero => intro k hn; exact absurd hn (Nat.not_lt_zero _)
  | succ n ih =>
    intro k hn hk
    refine q_iload hF 0 rfl dX8_land_129 ?_
    refine q_aload_n hF 2 rfl rfl dX8_land_131 ?_
    refine q_callV (kc := kc) (ks := ks) (mc' := 0) (ms' := 0) (h' := 0) (st := [qI (k : Int)]) hF vl_RX8_337 rfl [] rfl rfl hS.t0 (by decide) (Nat.le_of_ble_eq_true rfl) dX8_land_132 ?_
    refine mX8_many hS ?_
    rw [show L (m + 3) 1 = (mn : Int) from hmn]
    refine q_icmpge hF (by omega) (by omega) dX8_land_135 (fun c135 => ?_) (fun c135 => ?_)
    · refine q_iload_n hF 1 rfl rfl dX8_land_165 ?_
      refine q_ireturn hF rfl dX8_land_166 ?_
      rw [show k = mn by omega]; exact k0
    · have hA := hvs k (by omega)
      refine q_iload_n hF 1 rfl rfl dX8_land_138 ?_
      refine q_aload_n hF 2 rfl rfl dX8_land_139 ?_
      refine q_iload hF 0 rfl dX8_land_140 ?_
      refine q_iload_n hF 3 rfl rfl dX8_land_142 ?_
      refine q_callV (kc := kc) (ks := ks) (mc' := 0) (ms' := 0) (h' := 2) (st := [qI (g_set (fun k => L (m + 3) (1043 + 12 * k) = 2 ∧ L (m + 3) (1047 + 12 * k) = (l : Int)) k)]) hF vl_RX8_371 rfl [qI (k : Int), qI (l : Int)] rfl rfl hS.t0 (by decide) (Nat.le_of_ble_eq_true rfl) dX8_land_143 ?_
      refine mX8_isHeldBy (i := k) hS hv (by omega) hA (by omega) ?_
      refine q_ifeq_b hF dX8_land_146 (fun c146 => ?_) (fun c146 => ?_)
      · refine q_iconst hF dX8_land_156 ?_
        refine q_ior hF (c0 := g_set (fun k => L (m + 3) (1043 + 12 * k) = 2 ∧ L (m + 3) (1047 + 12 * k) = (l : Int)) (k + 1)) (q_set_n _ _ (by omega)) dX8_land_157 ?_
        refine q_istore_n hF (ls' := [(3, qI (g_set (fun k => L (m + 3) (1043 + 12 * k) = 2 ∧ L (m + 3) (1047 + 12 * k) = (l : Int)) (k + 1))), (4, qI (k : Int)), (0, .ref m), (1, qI (l : Int)), (2, qI 5)]) rfl (by decide) rfl dX8_land_158 ?_
        refine q_iinc hF (z' := ((1 + k : Nat) : Int)) (ls' := [(4, qI ((1 + k : Nat) : Int)), (3, qI (g_set (fun k => L (m + 3) (1043 + 12 * k) = 2 ∧ L (m + 3) (1047 + 12 * k) = (l : Int)) (k + 1))), (0, .ref m), (1, qI (l : Int)), (2, qI 5)]) 1 rfl (by first | rfl | omega) (by decide) rfl dX8_land_159 ?_
        refine q_goto hF dX8_land_162 ?_
        rw [Nat.add_comm 1 k]
        exact ih (k + 1) (by omega) (by omega)
      · refine q_iconst hF dX8_land_149 ?_
        refine q_iload hF 0 rfl dX8_land_150 ?_
        refine q_ishl hF (c0 := ((2 ^ k : Nat) : Int)) (q_shlN (by omega)) dX8_land_152 ?_
        refine q_goto hF dX8_land_153 ?_
        refine q_ior hF (c0 := g_set (fun k => L (m + 3) (1043 + 12 * k) = 2 ∧ L (m + 3) (1047 + 12 * k) = (l : Int)) (k + 1)) (q_set_s _ _ (by omega)) dX8_land_157 ?_
        refine q_istore_n hF (ls' := [(3, qI (g_set (fun k => L (m + 3) (1043 + 12 * k) = 2 ∧ L (m + 3) (1047 + 12 * k) = (l : Int)) (k + 1))), (4, qI (k : Int)), (0, .ref m), (1, qI (l : Int)), (2, qI 5)]) rfl (by decide) rfl dX8_land_158 ?_
        refine q_iinc hF (z' := ((1 + k : Nat) : Int)) (ls' := [(4, qI ((1 + k : Nat) : Int)), (3, qI (g_set (fun k => L (m + 3) (1043 + 12 * k) = 2 ∧ L (m + 3) (1047 + 12 * k) = (l : Int)) (k + 1))), (0, .ref m), (1, qI (l : Int)), (2, qI 5)]) 1 rfl (by first | rfl | omega) (by decide) rfl dX8_land_159 ?_
        refine q_goto hF dX8_land_162 ?_
        rw [Nat.add_comm 1 k]
        exact ih (k + 1) (by omega) (by omega)
set_option maxRecDepth 100000 in
theorem mX8_land5 {G : q_G} {sz : Nat} {T : q_T} {I L : q_I} {P : q_P} {Q : q_Q} {m : Nat} {l mn : Nat} {bd : Int} (hS : q_SM T P m) (hSA : q_A G m) (hv : g_V0 (L (m + 3))) (hmn : L (m + 3) 1 = (mn : Int)) (hm12 : mn ≤ 12) (hvs : ∀ i : Nat, i < mn → g_VA (L (m + 3)) i bd) (hly : (l : Int) < L (m + 3) 0) (k0 : Q (.inl (some (qI (g_set (fun k => L (m + 3) (1043 + 12 * k) = 2 ∧ L (m + 3) (1047 + 12 * k) = (l : Int)) mn)))) sz T (u2 I m 0 0) L P) : qC G 4 0 0 YX8_land [.ref m, qI (l : Int), qI 5] sz T I L P Q := by
  refine qC_of (by decide +kernel) rfl rfl (Nat.le_of_ble_eq_true rfl) (fun F hF _ _ => ?_)
  have hm12 := hv.many
  have hl5 := hv.lands
  refine q_aload_n hF 0 rfl rfl dX8_land_0 ?_
  refine q_iconst hF dX8_land_1 ?_
  refine q_putI hF fl_RX8_52 hS.t0 hSA dX8_land_2 ?_
  refine q_aload_n hF 0 rfl rfl dX8_land_5 ?_
  refine q_aload_n hF 0 rfl rfl dX8_land_6 ?_
  refine q_iload_n hF 1 rfl rfl dX8_land_7 ?_
  refine q_callV (kc := 0) (ks := 0) (mc' := 0) (ms' := 0) (h' := 1) (st := [.ref m]) hF vl_RX8_343 rfl [qI (l : Int)] rfl rfl hS.t0 (by decide) (Nat.le_of_ble_eq_true rfl) dX8_land_8 ?_
  refine mX8_isLand hS hv (by omega) ?_
  refine q_ifne_b hF dX8_land_11 (fun c11 => ?_) (fun c11 => ?_)
  · refine q_iconst hF dX8_land_18 ?_
    refine q_iconst hF dX8_land_19 ?_
    refine q_iconst hF dX8_land_20 ?_
    refine q_callV (kc := 0) (ks := 0) (mc' := 0) (ms' := 0) (h' := 0) (st := []) hF vl_RX8_251 rfl [qI 0, qI 1, qI 0] rfl rfl hS.t0 (by decide) (Nat.le_of_ble_eq_true rfl) dX8_land_21 ?_
    refine mX8_bad0 hS hSA (u2_s _ _ _ _) ?_
    refine q_ifne hF (by decide) dX8_land_24 (fun c24 => ?_) (fun c24 => ?_)
    · exact absurd c24 (by decide)
    · refine q_aload_n hF 0 rfl rfl dX8_land_27 ?_
      refine q_iload_n hF 2 rfl rfl dX8_land_28 ?_
      refine q_i2l hF (by decide) dX8_land_29 ?_
      refine q_lconst hF (z := 0) rfl dX8_land_30 ?_
      refine q_ldc2 hF (n := 5) (q_mem 1392 (by decide +kernel) rfl) dX8_land_31 ?_
      refine q_callS (kc := 0) (ks := 0) (mc' := 0) (ms' := 0) (h' := 0) (st := [.ref m]) hF sl_RX8_123 rfl [qL 5, qL 0, qL 5] rfl rfl (by decide) (Nat.le_of_ble_eq_true rfl) dX8_land_34 ?_
      refine mX8_in (by decide) (by decide) (by decide) ?_
      refine q_ifne_b hF dX8_land_37 (fun c37 => ?_) (fun c37 => ?_)
      · refine q_iconst hF dX8_land_44 ?_
        refine q_iconst hF dX8_land_45 ?_
        refine q_iconst hF dX8_land_46 ?_
        refine q_callV (kc := 0) (ks := 0) (mc' := 0) (ms' := 0) (h' := 0) (st := []) hF vl_RX8_251 rfl [qI 0, qI 2, qI 1] rfl rfl hS.t0 (by decide) (Nat.le_of_ble_eq_true rfl) dX8_land_47 ?_
        refine mX8_bad0 hS hSA (u2_s _ _ _ _) ?_
        refine q_ifeq hF (by decide) dX8_land_50 (fun c50 => ?_) (fun c50 => ?_)
        · refine q_iload_n hF 2 rfl rfl dX8_land_55 ?_
          refine q_iconst hF dX8_land_56 ?_
          refine q_icmpge hF (by decide) (by decide) dX8_land_57 (fun c57 => ?_) (fun c57 => ?_)
          · refine q_iconst hF dX8_land_75 ?_
            refine q_istore_n hF (ls' := [(3, qI 0), (0, .ref m), (1, qI (l : Int)), (2, qI 5)]) rfl (by decide) rfl dX8_land_76 ?_
            refine q_iload_n hF 3 rfl rfl dX8_land_77 ?_
            refine q_iconst hF dX8_land_78 ?_
            refine q_icmpne hF (by decide) (by decide) dX8_land_79 (fun c79 => ?_) (fun c79 => ?_)
            · refine q_iload_n hF 3 rfl rfl dX8_land_121 ?_
              refine q_iconst hF dX8_land_122 ?_
              refine q_icmpne hF (by decide) (by decide) dX8_land_123 (fun c123 => ?_) (fun c123 => ?_)
              · exact absurd c123 (by decide)
              · refine q_iconst hF dX8_land_126 ?_
                refine q_istore hF (ls' := [(4, qI 0), (3, qI 0), (0, .ref m), (1, qI (l : Int)), (2, qI 5)]) (by decide) rfl dX8_land_127 ?_
                exact lX8_land5 hF hS hv hmn (by omega) hvs (by omega) k0 13 0 (by omega) (Nat.zero_le _)
            · exact absurd c79 (by decide)
          · exact absurd c57 (by decide)
        · exact absurd c50 (by decide)
      · omega
  · omega
set_option maxRecDepth 100000 in
theorem lX8_land4 {G : q_G} {F : q_F} {Q : q_Q} {kc ks sz : Nat} {T : q_T} {m l : Nat} {I L : q_I} {P : q_P} (hF : q_ok G F YX8_land 4) (hS : q_SM T P m) (hv : g_V0 (L (m + 3))) (hly : l < 5) (k0 : Q (.inl (some (qI (g_set (fun k => 0 < L (m + 3) (90 + 2 * (5 * k + l))) 5)))) sz T I L P) : ∀ (n : Nat) (k : Nat), 5 - k < n → k ≤ 5 → qX G F Q kc ks 85 [(4, qI (k : Int)), (3, qI (g_set (fun k => 0 < L (m + 3) (90 + 2 * (5 * k + l))) k)), (0, .ref m), (1, qI (l : Int)), (2, qI 4)] [] sz T I L P := by
  intro n
  induction n with
  | zero => intro k hn; exact absurd hn (Nat.not_lt_zero _)
  | succ n ih =>
    intro k hn hk
    refine q_iload hF 0 rfl dX8_land_85 ?_
    refine q_iconst hF dX8_land_87 ?_
    refine q_icmpge hF (by omega) (by decide) dX8_land_88 (fun c88 => ?_) (fun c88 => ?_)
    · obtain rfl : k = 5 := by omega
      refine q_iload_n hF 4 rfl rfl dX8_land_121 ?_
      refine q_iconst hF dX8_land_122 ?_
      refine q_icmpne hF (by decide) (by decide) dX8_land_123 (fun c123 => ?_) (fun c123 => ?_)
      · refine q_iload_n hF 1 rfl rfl dX8_land_165 ?_
        refine q_ireturn hF rfl dX8_land_166 ?_
        exact k0
      · exact absurd c123 (by decide)
    · refine q_iload_n hF 1 rfl rfl dX8_land_91 ?_
      refine q_aload_n hF 2 rfl rfl dX8_land_92 ?_
      refine q_getA hF fl_RX8_20 rfl hS.t0 hS.p9 dX8_land_93 ?_
      refine q_iload_n hF 3 rfl rfl dX8_land_96 ?_
      refine q_iload hF 0 rfl dX8_land_97 ?_
      refine q_callS (kc := kc) (ks := ks) (mc' := 0) (ms' := 0) (h' := 1) (st := [qI (g_set (fun k => 0 < L (m + 3) (90 + 2 * (5 * k + l))) k)]) hF sl_RX8_272 rfl [.ref (m + 3), qI (l : Int), qI (k : Int)] rfl rfl (by decide) (Nat.le_of_ble_eq_true rfl) dX8_land_99 ?_
      refine mX8_takesKind (j := (90 + 2 * (5 * k + l))) hS.t3 (by omega) (by omega) (by have q := hv.laws (5 * k + l) (by omega); omega) ?_
      refine q_ifeq_b hF dX8_land_102 (fun c102 => ?_) (fun c102 => ?_)
      · refine q_iconst hF dX8_land_112 ?_
        refine q_ior hF (c0 := g_set (fun k => 0 < L (m + 3) (90 + 2 * (5 * k + l))) (k + 1)) (q_set_n _ _ (by omega)) dX8_land_113 ?_
        refine q_istore_n hF (ls' := [(3, qI (g_set (fun k => 0 < L (m + 3) (90 + 2 * (5 * k + l))) (k + 1))), (4, qI (k : Int)), (0, .ref m), (1, qI (l : Int)), (2, qI 4)]) rfl (by decide) rfl dX8_land_114 ?_
        refine q_iinc hF (z' := ((1 + k : Nat) : Int)) (ls' := [(4, qI ((1 + k : Nat) : Int)), (3, qI (g_set (fun k => 0 < L (m + 3) (90 + 2 * (5 * k + l))) (k + 1))), (0, .ref m), (1, qI (l : Int)), (2, qI 4)]) 1 rfl (by first | rfl | omega) (by decide) rfl dX8_land_115 ?_
        refine q_goto hF dX8_land_118 ?_
        rw [Nat.add_comm 1 k]
        exact ih (k + 1) (by omega) (by omega)
      · refine q_iconst hF dX8_land_105 ?_
        refine q_iload hF 0 rfl dX8_land_106 ?_
        refine q_ishl hF (c0 := ((2 ^ k : Nat) : Int)) (q_shlN (by omega)) dX8_land_108 ?_
        refine q_goto hF dX8_land_109 ?_
        refine q_ior hF (c0 := g_set (fun k => 0 < L (m + 3) (90 + 2 * (5 * k + l))) (k + 1)) (q_set_s _ _ (by omega)) dX8_land_113 ?_
        refine q_istore_n hF (ls' := [(3, qI (g_set (fun k => 0 < L (m + 3) (90 + 2 * (5 * k + l))) (k + 1))), (4, qI (k : Int)), (0, .ref m), (1, qI (l : Int)), (2, qI 4)]) rfl (by decide) rfl dX8_land_114 ?_
        refine q_iinc hF (z' := ((1 + k : Nat) : Int)) (ls' := [(4, qI ((1 + k : Nat) : Int)), (3, qI (g_set (fun k => 0 < L (m + 3) (90 + 2 * (5 * k + l))) (k + 1))), (0, .ref m), (1, qI (l : Int)), (2, qI 4)]) 1 rfl (by first | rfl | omega) (by decide) rfl dX8_land_115 ?_
        refine q_goto hF dX8_land_118 ?_
        rw [Nat.add_comm 1 k]
        exact ih (k + 1) (by omega) (by omega)
set_option maxRecDepth 100000 in
theorem mX8_land4 {G : q_G} {sz : Nat} {T : q_T} {I L : q_I} {P : q_P} {Q : q_Q} {m : Nat} {l : Nat} (hS : q_SM T P m) (hSA : q_A G m) (hv : g_V0 (L (m + 3))) (hly : (l : Int) < L (m + 3) 0) (k0 : Q (.inl (some (qI (g_set (fun k => 0 < L (m + 3) (90 + 2 * (5 * k + l))) 5)))) sz T (u2 I m 0 0) L P) : qC G 4 0 0 YX8_land [.ref m, qI (l : Int), qI 4] sz T I L P Q := by
  refine qC_of (by decide +kernel) rfl rfl (Nat.le_of_ble_eq_true rfl) (fun F hF _ _ => ?_)
  have hm12 := hv.many
  have hl5 := hv.lands
  refine q_aload_n hF 0 rfl rfl dX8_land_0 ?_
  refine q_iconst hF dX8_land_1 ?_
  refine q_putI hF fl_RX8_52 hS.t0 hSA dX8_land_2 ?_
  refine q_aload_n hF 0 rfl rfl dX8_land_5 ?_
  refine q_aload_n hF 0 rfl rfl dX8_land_6 ?_
  refine q_iload_n hF 1 rfl rfl dX8_land_7 ?_
  refine q_callV (kc := 0) (ks := 0) (mc' := 0) (ms' := 0) (h' := 1) (st := [.ref m]) hF vl_RX8_343 rfl [qI (l : Int)] rfl rfl hS.t0 (by decide) (Nat.le_of_ble_eq_true rfl) dX8_land_8 ?_
  refine mX8_isLand hS hv (by omega) ?_
  refine q_ifne_b hF dX8_land_11 (fun c11 => ?_) (fun c11 => ?_)
  · refine q_iconst hF dX8_land_18 ?_
    refine q_iconst hF dX8_land_19 ?_
    refine q_iconst hF dX8_land_20 ?_
    refine q_callV (kc := 0) (ks := 0) (mc' := 0) (ms' := 0) (h' := 0) (st := []) hF vl_RX8_251 rfl [qI 0, qI 1, qI 0] rfl rfl hS.t0 (by decide) (Nat.le_of_ble_eq_true rfl) dX8_land_21 ?_
    refine mX8_bad0 hS hSA (u2_s _ _ _ _) ?_
    refine q_ifne hF (by decide) dX8_land_24 (fun c24 => ?_) (fun c24 => ?_)
    · exact absurd c24 (by decide)
    · refine q_aload_n hF 0 rfl rfl dX8_land_27 ?_
      refine q_iload_n hF 2 rfl rfl dX8_land_28 ?_
      refine q_i2l hF (by decide) dX8_land_29 ?_
      refine q_lconst hF (z := 0) rfl dX8_land_30 ?_
      refine q_ldc2 hF (n := 5) (q_mem 1392 (by decide +kernel) rfl) dX8_land_31 ?_
      refine q_callS (kc := 0) (ks := 0) (mc' := 0) (ms' := 0) (h' := 0) (st := [.ref m]) hF sl_RX8_123 rfl [qL 4, qL 0, qL 5] rfl rfl (by decide) (Nat.le_of_ble_eq_true rfl) dX8_land_34 ?_
      refine mX8_in (by decide) (by decide) (by decide) ?_
      refine q_ifne_b hF dX8_land_37 (fun c37 => ?_) (fun c37 => ?_)
      · refine q_iconst hF dX8_land_44 ?_
        refine q_iconst hF dX8_land_45 ?_
        refine q_iconst hF dX8_land_46 ?_
        refine q_callV (kc := 0) (ks := 0) (mc' := 0) (ms' := 0) (h' := 0) (st := []) hF vl_RX8_251 rfl [qI 0, qI 2, qI 1] rfl rfl hS.t0 (by decide) (Nat.le_of_ble_eq_true rfl) dX8_land_47 ?_
        refine mX8_bad0 hS hSA (u2_s _ _ _ _) ?_
        refine q_ifeq hF (by decide) dX8_land_50 (fun c50 => ?_) (fun c50 => ?_)
        · refine q_iload_n hF 2 rfl rfl dX8_land_55 ?_
          refine q_iconst hF dX8_land_56 ?_
          refine q_icmpge hF (by decide) (by decide) dX8_land_57 (fun c57 => ?_) (fun c57 => ?_)
          · refine q_iconst hF dX8_land_75 ?_
            refine q_istore_n hF (ls' := [(3, qI 0), (0, .ref m), (1, qI (l : Int)), (2, qI 4)]) rfl (by decide) rfl dX8_land_76 ?_
            refine q_iload_n hF 3 rfl rfl dX8_land_77 ?_
            refine q_iconst hF dX8_land_78 ?_
            refine q_icmpne hF (by decide) (by decide) dX8_land_79 (fun c79 => ?_) (fun c79 => ?_)
            · exact absurd c79 (by decide)
            · refine q_iconst hF dX8_land_82 ?_
              refine q_istore hF (ls' := [(4, qI 0), (3, qI 0), (0, .ref m), (1, qI (l : Int)), (2, qI 4)]) (by decide) rfl dX8_land_83 ?_
              exact lX8_land4 hF hS hv (by omega) k0 6 0 (by omega) (Nat.zero_le _)
          · exact absurd c57 (by decide)
        · exact absurd c50 (by decide)
      · omega
  · omega
