/-! the reference: ahead, letters, open -/
set_option maxRecDepth 100000 in
theorem mX8_letters0 {G : q_G} {sz : Nat} {T : q_T} {I L : q_I} {P : q_P} {Q : q_Q} {m : Nat} {n : Int}  (hS : q_SM T P m) (hSA : q_A G m) (hv : g_V0 (L (m + 3))) (hn : -2147483648 ≤ n ∧ n < 2147483648) (hx : ¬ (1 ≤ n ∧ n ≤ 120)) (k1 : Q (.inl (some (qI 0))) sz T (u2 (u2 (u2 I m 0 0) m 0 1) (m + 1) 1 ((I (m + 1) 1) + 1)) L P) : qC G 6 0 0 YX8_letters [.ref m, qI n] sz T I L P Q := by
  refine qC_of (by decide +kernel) rfl rfl (Nat.le_of_ble_eq_true rfl) (fun F hF _ _ => ?_)
  have hm12 := hv.many
  have hl5 := hv.lands
  refine q_aload_n hF 0 rfl rfl dX8_letters_0 ?_
  refine q_iconst hF dX8_letters_1 ?_
  refine q_putI hF fl_RX8_52 hS.t0 hSA dX8_letters_2 ?_
  refine q_aload_n hF 0 rfl rfl dX8_letters_5 ?_
  refine q_iload_n hF 1 rfl rfl dX8_letters_6 ?_
  refine q_i2l hF hn dX8_letters_7 ?_
  refine q_lconst hF (z := 1) rfl dX8_letters_8 ?_
  refine q_ldc2 hF (n := 120) (q_mem 1586 (by decide +kernel) rfl) dX8_letters_9 ?_
  refine q_callS (kc := 0) (ks := 0) (mc' := 0) (ms' := 0) (h' := 0) (st := [.ref m]) hF sl_RX8_123 rfl [qL n, qL 1, qL 120] rfl rfl (by decide) (Nat.le_of_ble_eq_true rfl) dX8_letters_12 ?_
  refine mX8_in (by omega) (by decide) (by decide) ?_
  refine q_ifne_b hF dX8_letters_15 (fun c15 => ?_) (fun c15 => ?_)
  · omega
  · refine q_iconst hF dX8_letters_18 ?_
    refine q_goto hF dX8_letters_19 ?_
    refine q_iconst hF dX8_letters_23 ?_
    refine q_iconst hF dX8_letters_24 ?_
    refine q_callV (kc := 0) (ks := 0) (mc' := 0) (ms' := 0) (h' := 0) (st := []) hF vl_RX8_251 rfl [qI 1, qI 1, qI 1] rfl rfl hS.t0 (by decide) (Nat.le_of_ble_eq_true rfl) dX8_letters_25 ?_
    refine mX8_bad1 (j := 1) hS hSA (u2_s _ _ _ _) (by omega) rfl (by decide) ?_
    rw [show (u2 I m 0 0) (m + 1) 1 = I (m + 1) 1 from (u2_k _ _ (by decide))]
    refine q_ifeq hF (by decide) dX8_letters_28 (fun c28 => ?_) (fun c28 => ?_)
    · exact absurd c28 (by decide)
    · refine q_iconst hF dX8_letters_31 ?_
      refine q_ireturn hF rfl dX8_letters_32 ?_
      exact k1
set_option maxRecDepth 100000 in
theorem mX8_letters {G : q_G} {sz : Nat} {T : q_T} {I L : q_I} {P : q_P} {Q : q_Q} {m : Nat} {nn : Nat} (hS : q_SM T P m) (hSA : q_A G m) (hv : g_V0 (L (m + 3))) (hVR : g_VR (L (m + 3))) (hz : q_Z0 L m) (hn : 1 ≤ nn ∧ nn ≤ 120) (k0 : ∀ L', (∀ q k, q ≠ m + 5 → q ≠ m + 15 → L' q k = L q k) → q_Z0 L' m → Q (.inl (some (qI ((g_months nn (L (m + 3))).2 7 - L (m + 3) 7)))) sz T (u2 I m 0 0) L' P) : qC G 6 0 0 YX8_letters [.ref m, qI (nn : Int)] sz T I L P Q := by
  refine qC_of (by decide +kernel) rfl rfl (Nat.le_of_ble_eq_true rfl) (fun F hF _ _ => ?_)
  have hm12 := hv.many
  have hl5 := hv.lands
  refine q_aload_n hF 0 rfl rfl dX8_letters_0 ?_
  refine q_iconst hF dX8_letters_1 ?_
  refine q_putI hF fl_RX8_52 hS.t0 hSA dX8_letters_2 ?_
  refine q_aload_n hF 0 rfl rfl dX8_letters_5 ?_
  refine q_iload_n hF 1 rfl rfl dX8_letters_6 ?_
  refine q_i2l hF (by omega) dX8_letters_7 ?_
  refine q_lconst hF (z := 1) rfl dX8_letters_8 ?_
  refine q_ldc2 hF (n := 120) (q_mem 1586 (by decide +kernel) rfl) dX8_letters_9 ?_
  refine q_callS (kc := 0) (ks := 0) (mc' := 0) (ms' := 0) (h' := 0) (st := [.ref m]) hF sl_RX8_123 rfl [qL (nn : Int), qL 1, qL 120] rfl rfl (by decide) (Nat.le_of_ble_eq_true rfl) dX8_letters_12 ?_
  refine mX8_in (by omega) (by decide) (by decide) ?_
  refine q_ifne_b hF dX8_letters_15 (fun c15 => ?_) (fun c15 => ?_)
  · refine q_iconst hF dX8_letters_22 ?_
    refine q_iconst hF dX8_letters_23 ?_
    refine q_iconst hF dX8_letters_24 ?_
    refine q_callV (kc := 0) (ks := 0) (mc' := 0) (ms' := 0) (h' := 0) (st := []) hF vl_RX8_251 rfl [qI 0, qI 1, qI 1] rfl rfl hS.t0 (by decide) (Nat.le_of_ble_eq_true rfl) dX8_letters_25 ?_
    refine mX8_bad0 hS hSA (u2_s _ _ _ _) ?_
    refine q_ifeq hF (by decide) dX8_letters_28 (fun c28 => ?_) (fun c28 => ?_)
    · refine q_aload_n hF 0 rfl rfl dX8_letters_33 ?_
      refine q_getA hF fl_RX8_20 rfl hS.t0 hS.p9 dX8_letters_34 ?_
      refine q_aload_n hF 0 rfl rfl dX8_letters_37 ?_
      refine q_getA hF fl_RX8_27 rfl hS.t0 hS.p11 dX8_letters_38 ?_
      refine q_callS (kc := 0) (ks := 0) (mc' := 0) (ms' := 0) (h' := 1) (st := []) hF sl_RX8_261 rfl [.ref (m + 3), .ref (m + 5)] rfl rfl (by decide) (Nat.le_of_ble_eq_true rfl) dX8_letters_41 ?_
      refine mX8_copies hS.t3 hS.t5 (q_Ale hSA (by omega)) (by omega) ?_
      have e5 : (cpL L (m + 3) (m + 5) 1243) (m + 5) = L (m + 3) := cpL_z hz (by omega) (by omega) (by omega) (by omega)
      refine q_aload_n hF 0 rfl rfl dX8_letters_44 ?_
      refine q_aload_n hF 0 rfl rfl dX8_letters_45 ?_
      refine q_getA hF fl_RX8_27 rfl hS.t0 hS.p11 dX8_letters_46 ?_
      refine q_iload_n hF 1 rfl rfl dX8_letters_49 ?_
      refine q_callV (kc := 0) (ks := 0) (mc' := 0) (ms' := 0) (h' := 5) (st := []) hF vl_RX8_359 rfl [.ref (m + 5), qI (nn : Int)] rfl rfl hS.t0 (by decide) (Nat.le_of_ble_eq_true rfl) dX8_letters_50 ?_
      refine mX8_monthsGo (nn := nn) hS hSA hS.t5 (q_Ale hSA (by omega)) (by omega) (by omega) (by rw [e5]; exact hVR) (fun L' c50_0 c50_1 => ?_)
      refine q_istore_n hF (ls' := [(2, qI ((g_months nn ((cpL L (m + 3) (m + 5) 1243) (m + 5))).1)), (0, .ref m), (1, qI (nn : Int))]) rfl (by decide) rfl dX8_letters_53 ?_
      refine q_aload_n hF 1 rfl rfl dX8_letters_54 ?_
      refine q_getA hF fl_RX8_27 rfl hS.t0 hS.p11 dX8_letters_55 ?_
      refine q_bipush hF (n := 7) rfl dX8_letters_58 ?_
      refine q_laloadv hF (z := (g_months nn (L (m + 3))).2 7) (n := 1243) 7 hS.t5 rfl (by decide) (by decide) (congrFun (by rw [c50_1, e5]) _) dX8_letters_60 ?_
      refine q_aload_n hF 1 rfl rfl dX8_letters_61 ?_
      refine q_getA hF fl_RX8_20 rfl hS.t0 hS.p9 dX8_letters_62 ?_
      refine q_bipush hF (n := 7) rfl dX8_letters_65 ?_
      refine q_laloadv hF (z := L (m + 3) 7) (n := 1243) 7 hS.t3 rfl (by decide) (by decide) ((c50_0 _ _ (by omega) (by omega)).trans (cpL_ne _ _ _ (by omega))) dX8_letters_67 ?_
      refine q_lsub hF dX8_letters_68 ?_
      refine q_l2i hF dX8_letters_69 ?_
      refine q_ireturn hF rfl dX8_letters_70 ?_
      exact k0 L' (fun q k x1 x2 => (c50_0 q k x1 x2).trans (cpL_ne _ _ _ x1)) (hz.row (fun q k x1 x2 => (c50_0 q k x1 x2).trans (cpL_ne _ _ _ x1)) (by rw [c50_1, e5]; exact (g_months_z nn (hz.zr (by omega) (by omega)) hVR).1))
    · exact absurd c28 (by decide)
  · omega
set_option maxRecDepth 100000 in
theorem lX8_ahead {G : q_G} {F : q_F} {Q : q_Q} {kc ks sz : Nat} {T : q_T} {m a0 a1 : Nat} {l nv w : Int} {R : Nat → Int} {I M : q_I} {P : q_P} (hF : q_ok G F YX8_ahead 6) (hS : q_SM T P m) (hSA : q_A G m) (hR : M (m + 5) = R) (h3 : M (m + 3) 6 = (a0 : Int)) (h6 : R 6 = (a1 : Int)) (h12 : a0 ≤ 12 ∧ a1 ≤ 12) (hrw : g_RW R) (hl : -2147483648 ≤ l ∧ l < 2147483648) (k0 : Q (.inl (some (qL (g_sum (fun j => g_aheadC R l (a0 + j)) (a1 - a0))))) sz T I M P) : ∀ (n : Nat) (k : Nat), a1 - k < n → a0 ≤ k ∧ k ≤ max a0 a1 → qX G F Q kc ks 94 [(6, qI (k : Int)), (4, qL (g_sum (fun j => g_aheadC R l (a0 + j)) (k - a0))), (3, qI w), (0, .ref m), (1, qI l), (2, qI nv)] [] sz T I M P := by
  intro n
  induction n with
  | zero => intro k hn; exact absurd hn (Nat.not_lt_zero _)
  | succ n ih =>
    intro k hn hk
    refine q_iload hF 0 rfl dX8_ahead_94 ?_
    refine q_i2l hF (by omega) dX8_ahead_96 ?_
    refine q_aload_n hF 3 rfl rfl dX8_ahead_97 ?_
    refine q_getA hF fl_RX8_27 rfl hS.t0 hS.p11 dX8_ahead_98 ?_
    refine q_bipush hF (n := 6) rfl dX8_ahead_101 ?_
    refine q_laloadv hF (z := (a1 : Int)) (n := 1243) 6 hS.t5 rfl (by decide) (by decide) ((congrFun hR _).trans h6) dX8_ahead_103 ?_
    refine q_cmpge hF (by omega) (by omega) dX8_ahead_104 dX8_ahead_105 (fun c105 => ?_) (fun c105 => ?_)
    · refine q_lload hF 1 rfl dX8_ahead_164 ?_
      refine q_lreturn hF rfl dX8_ahead_166 ?_
      rw [show k - a0 = a1 - a0 by omega]; exact k0
    · refine q_lload hF 1 rfl dX8_ahead_108 ?_
      have hJ110 : qX G F Q kc ks 155 [(6, qI (k : Int)), (4, qL (g_sum (fun j => g_aheadC R l (a0 + j)) (k - a0))), (3, qI w), (0, .ref m), (1, qI l), (2, qI nv)] [qL (g_aheadC R l k), qL (g_sum (fun j => g_aheadC R l (a0 + j)) (k - a0))] sz T I M P := by
        refine q_ladd hF dX8_ahead_155 ?_
        refine q_lstore hF (ls' := [(4, qL ((g_sum (fun j => g_aheadC R l (a0 + j)) (k - a0)) + (g_aheadC R l k))), (6, qI (k : Int)), (3, qI w), (0, .ref m), (1, qI l), (2, qI nv)]) (by decide) rfl dX8_ahead_156 ?_
        refine q_iinc hF (z' := ((1 + k : Nat) : Int)) (ls' := [(6, qI ((1 + k : Nat) : Int)), (4, qL ((g_sum (fun j => g_aheadC R l (a0 + j)) (k - a0)) + (g_aheadC R l k))), (3, qI w), (0, .ref m), (1, qI l), (2, qI nv)]) 1 rfl (by first | rfl | omega) (by decide) rfl dX8_ahead_158 ?_
        refine q_goto hF dX8_ahead_161 ?_
        rw [show (g_sum (fun j => g_aheadC R l (a0 + j)) (k - a0)) + (g_aheadC R l k) = g_sum (fun j => g_aheadC R l (a0 + j)) (1 + k - a0) from by rw [show 1 + k - a0 = (k - a0) + 1 by omega, g_sum_s, show a0 + (k - a0) = k by omega]]
        exact ih (1 + k) (by omega) (by omega)
      refine q_iload_n hF 4 rfl rfl dX8_ahead_110 ?_
      refine q_iconst hF dX8_ahead_111 ?_
      refine q_icmpeq hF hl (by decide) dX8_ahead_112 (fun c112 => ?_) (fun c112 => ?_)
      · refine q_aload_n hF 3 rfl rfl dX8_ahead_136 ?_
        refine q_getA hF fl_RX8_27 rfl hS.t0 hS.p11 dX8_ahead_137 ?_
        refine q_sipush hF (n := 1183) rfl dX8_ahead_140 ?_
        refine q_iconst hF dX8_ahead_143 ?_
        refine q_iload hF 0 rfl dX8_ahead_144 ?_
        refine q_imul hF dX8_ahead_146 ?_
        refine q_iadd hF dX8_ahead_147 ?_
        refine q_iconst hF dX8_ahead_148 ?_
        refine q_iadd hF dX8_ahead_149 ?_
        refine q_laloadv hF (z := R (1186 + 5 * k)) (n := 1243) (1186 + 5 * k) hS.t5 (by omega) (by omega) (by decide) (congrFun hR _) dX8_ahead_150 ?_
        refine q_goto hF dX8_ahead_151 ?_
        rw [show (g_aheadC R l k) = (R (1186 + 5 * k)) from by unfold g_aheadC; first | exact if_pos (by omega) | exact if_neg (by omega)] at hJ110; exact hJ110
      · refine q_aload_n hF 3 rfl rfl dX8_ahead_115 ?_
        refine q_getA hF fl_RX8_27 rfl hS.t0 hS.p11 dX8_ahead_116 ?_
        refine q_sipush hF (n := 1183) rfl dX8_ahead_119 ?_
        refine q_iconst hF dX8_ahead_122 ?_
        refine q_iload hF 0 rfl dX8_ahead_123 ?_
        refine q_imul hF dX8_ahead_125 ?_
        refine q_iadd hF dX8_ahead_126 ?_
        refine q_iconst hF dX8_ahead_127 ?_
        refine q_iadd hF dX8_ahead_128 ?_
        refine q_laloadv hF (z := R (1185 + 5 * k)) (n := 1243) (1185 + 5 * k) hS.t5 (by omega) (by omega) (by decide) (congrFun hR _) dX8_ahead_129 ?_
        refine q_iload_n hF 4 rfl rfl dX8_ahead_130 ?_
        refine q_i2l hF hl dX8_ahead_131 ?_
        refine q_cmpne hF (by have q := hrw k (by omega); omega) (by omega) dX8_ahead_132 dX8_ahead_133 (fun c133 => ?_) (fun c133 => ?_)
        · refine q_lconst hF (z := 0) rfl dX8_ahead_154 ?_
          rw [show (g_aheadC R l k) = 0 from by unfold g_aheadC; first | exact if_pos (by omega) | exact if_neg (by omega)] at hJ110; exact hJ110
        · refine q_aload_n hF 3 rfl rfl dX8_ahead_136 ?_
          refine q_getA hF fl_RX8_27 rfl hS.t0 hS.p11 dX8_ahead_137 ?_
          refine q_sipush hF (n := 1183) rfl dX8_ahead_140 ?_
          refine q_iconst hF dX8_ahead_143 ?_
          refine q_iload hF 0 rfl dX8_ahead_144 ?_
          refine q_imul hF dX8_ahead_146 ?_
          refine q_iadd hF dX8_ahead_147 ?_
          refine q_iconst hF dX8_ahead_148 ?_
          refine q_iadd hF dX8_ahead_149 ?_
          refine q_laloadv hF (z := R (1186 + 5 * k)) (n := 1243) (1186 + 5 * k) hS.t5 (by omega) (by omega) (by decide) (congrFun hR _) dX8_ahead_150 ?_
          refine q_goto hF dX8_ahead_151 ?_
          rw [show (g_aheadC R l k) = (R (1186 + 5 * k)) from by unfold g_aheadC; first | exact if_pos (by omega) | exact if_neg (by omega)] at hJ110; exact hJ110
def g_ahead (r : Nat → Int) (l : Int) (n : Nat) : Int := g_sum (fun j => g_aheadC (g_months n r).2 l ((r 6).toNat + j)) (((g_months n r).2 6).toNat - (r 6).toNat)
set_option maxRecDepth 100000 in
theorem mX8_ahead0 {G : q_G} {sz : Nat} {T : q_T} {I L : q_I} {P : q_P} {Q : q_Q} {m : Nat} {l : Int} {n : Int}  (hS : q_SM T P m) (hSA : q_A G m) (hv : g_V0 (L (m + 3))) (hl : -2147483648 ≤ l ∧ l < 2147483648) (hn : -2147483648 ≤ n ∧ n < 2147483648) (hx : ¬ ((l = -1 ∨ 0 ≤ l ∧ l < L (m + 3) 0) ∧ 1 ≤ n ∧ n ≤ 120)) (k1 : ¬ (l = -1 ∨ 0 ≤ l ∧ l < L (m + 3) 0) → Q (.inl (some (qL 0))) sz T (u2 (u2 (u2 I m 0 0) m 0 1) (m + 1) 0 ((I (m + 1) 0) + 1)) L P) (k2 : (l = -1 ∨ 0 ≤ l ∧ l < L (m + 3) 0) → ¬ (1 ≤ n ∧ n ≤ 120) → Q (.inl (some (qL 0))) sz T (u2 (u2 (u2 I m 0 0) m 0 2) (m + 1) 1 ((I (m + 1) 1) + 1)) L P) : qC G 6 0 0 YX8_ahead [.ref m, qI l, qI n] sz T I L P Q := by
  refine qC_of (by decide +kernel) rfl rfl (Nat.le_of_ble_eq_true rfl) (fun F hF _ _ => ?_)
  have hm12 := hv.many
  have hl5 := hv.lands
  refine q_aload_n hF 0 rfl rfl dX8_ahead_0 ?_
  refine q_iconst hF dX8_ahead_1 ?_
  refine q_putI hF fl_RX8_52 hS.t0 hSA dX8_ahead_2 ?_
  refine q_aload_n hF 0 rfl rfl dX8_ahead_5 ?_
  refine q_iload_n hF 1 rfl rfl dX8_ahead_6 ?_
  refine q_iconst hF dX8_ahead_7 ?_
  refine q_icmpeq hF hl (by decide) dX8_ahead_8 (fun c8 => ?_) (fun c8 => ?_)
  · refine q_iconst hF dX8_ahead_23 ?_
    refine q_iconst hF dX8_ahead_24 ?_
    refine q_iconst hF dX8_ahead_25 ?_
    refine q_callV (kc := 0) (ks := 0) (mc' := 0) (ms' := 0) (h' := 0) (st := []) hF vl_RX8_251 rfl [qI 0, qI 1, qI 0] rfl rfl hS.t0 (by decide) (Nat.le_of_ble_eq_true rfl) dX8_ahead_26 ?_
    refine mX8_bad0 hS hSA (u2_s _ _ _ _) ?_
    refine q_ifne hF (by decide) dX8_ahead_29 (fun c29 => ?_) (fun c29 => ?_)
    · exact absurd c29 (by decide)
    · refine q_aload_n hF 0 rfl rfl dX8_ahead_32 ?_
      refine q_iload_n hF 2 rfl rfl dX8_ahead_33 ?_
      refine q_i2l hF hn dX8_ahead_34 ?_
      refine q_lconst hF (z := 1) rfl dX8_ahead_35 ?_
      refine q_ldc2 hF (n := 120) (q_mem 1586 (by decide +kernel) rfl) dX8_ahead_36 ?_
      refine q_callS (kc := 0) (ks := 0) (mc' := 0) (ms' := 0) (h' := 0) (st := [.ref m]) hF sl_RX8_123 rfl [qL n, qL 1, qL 120] rfl rfl (by decide) (Nat.le_of_ble_eq_true rfl) dX8_ahead_39 ?_
      refine mX8_in (by omega) (by decide) (by decide) ?_
      refine q_ifne_b hF dX8_ahead_42 (fun c42 => ?_) (fun c42 => ?_)
      · omega
      · refine q_iconst hF dX8_ahead_45 ?_
        refine q_goto hF dX8_ahead_46 ?_
        refine q_iconst hF dX8_ahead_50 ?_
        refine q_iconst hF dX8_ahead_51 ?_
        refine q_callV (kc := 0) (ks := 0) (mc' := 0) (ms' := 0) (h' := 0) (st := []) hF vl_RX8_251 rfl [qI 1, qI 2, qI 1] rfl rfl hS.t0 (by decide) (Nat.le_of_ble_eq_true rfl) dX8_ahead_52 ?_
        refine mX8_bad1 (j := 1) hS hSA (u2_s _ _ _ _) (by omega) rfl (by decide) ?_
        rw [show (u2 I m 0 0) (m + 1) 1 = I (m + 1) 1 from (u2_k _ _ (by decide))]
        refine q_ifeq hF (by decide) dX8_ahead_55 (fun c55 => ?_) (fun c55 => ?_)
        · exact absurd c55 (by decide)
        · refine q_lconst hF (z := 0) rfl dX8_ahead_58 ?_
          refine q_lreturn hF rfl dX8_ahead_59 ?_
          exact k2 (by omega) (by omega)
  · refine q_aload_n hF 0 rfl rfl dX8_ahead_11 ?_
    refine q_iload_n hF 1 rfl rfl dX8_ahead_12 ?_
    refine q_callV (kc := 0) (ks := 0) (mc' := 0) (ms' := 0) (h' := 1) (st := [.ref m]) hF vl_RX8_343 rfl [qI l] rfl rfl hS.t0 (by decide) (Nat.le_of_ble_eq_true rfl) dX8_ahead_13 ?_
    refine mX8_isLand hS hv hl ?_
    refine q_ifne_b hF dX8_ahead_16 (fun c16 => ?_) (fun c16 => ?_)
    · refine q_iconst hF dX8_ahead_23 ?_
      refine q_iconst hF dX8_ahead_24 ?_
      refine q_iconst hF dX8_ahead_25 ?_
      refine q_callV (kc := 0) (ks := 0) (mc' := 0) (ms' := 0) (h' := 0) (st := []) hF vl_RX8_251 rfl [qI 0, qI 1, qI 0] rfl rfl hS.t0 (by decide) (Nat.le_of_ble_eq_true rfl) dX8_ahead_26 ?_
      refine mX8_bad0 hS hSA (u2_s _ _ _ _) ?_
      refine q_ifne hF (by decide) dX8_ahead_29 (fun c29 => ?_) (fun c29 => ?_)
      · exact absurd c29 (by decide)
      · refine q_aload_n hF 0 rfl rfl dX8_ahead_32 ?_
        refine q_iload_n hF 2 rfl rfl dX8_ahead_33 ?_
        refine q_i2l hF hn dX8_ahead_34 ?_
        refine q_lconst hF (z := 1) rfl dX8_ahead_35 ?_
        refine q_ldc2 hF (n := 120) (q_mem 1586 (by decide +kernel) rfl) dX8_ahead_36 ?_
        refine q_callS (kc := 0) (ks := 0) (mc' := 0) (ms' := 0) (h' := 0) (st := [.ref m]) hF sl_RX8_123 rfl [qL n, qL 1, qL 120] rfl rfl (by decide) (Nat.le_of_ble_eq_true rfl) dX8_ahead_39 ?_
        refine mX8_in (by omega) (by decide) (by decide) ?_
        refine q_ifne_b hF dX8_ahead_42 (fun c42 => ?_) (fun c42 => ?_)
        · omega
        · refine q_iconst hF dX8_ahead_45 ?_
          refine q_goto hF dX8_ahead_46 ?_
          refine q_iconst hF dX8_ahead_50 ?_
          refine q_iconst hF dX8_ahead_51 ?_
          refine q_callV (kc := 0) (ks := 0) (mc' := 0) (ms' := 0) (h' := 0) (st := []) hF vl_RX8_251 rfl [qI 1, qI 2, qI 1] rfl rfl hS.t0 (by decide) (Nat.le_of_ble_eq_true rfl) dX8_ahead_52 ?_
          refine mX8_bad1 (j := 1) hS hSA (u2_s _ _ _ _) (by omega) rfl (by decide) ?_
          rw [show (u2 I m 0 0) (m + 1) 1 = I (m + 1) 1 from (u2_k _ _ (by decide))]
          refine q_ifeq hF (by decide) dX8_ahead_55 (fun c55 => ?_) (fun c55 => ?_)
          · exact absurd c55 (by decide)
          · refine q_lconst hF (z := 0) rfl dX8_ahead_58 ?_
            refine q_lreturn hF rfl dX8_ahead_59 ?_
            exact k2 (by omega) (by omega)
    · refine q_iconst hF dX8_ahead_19 ?_
      refine q_goto hF dX8_ahead_20 ?_
      refine q_iconst hF dX8_ahead_24 ?_
      refine q_iconst hF dX8_ahead_25 ?_
      refine q_callV (kc := 0) (ks := 0) (mc' := 0) (ms' := 0) (h' := 0) (st := []) hF vl_RX8_251 rfl [qI 1, qI 1, qI 0] rfl rfl hS.t0 (by decide) (Nat.le_of_ble_eq_true rfl) dX8_ahead_26 ?_
      refine mX8_bad1 (j := 0) hS hSA (u2_s _ _ _ _) (by omega) rfl (by decide) ?_
      rw [show (u2 I m 0 0) (m + 1) 0 = I (m + 1) 0 from (u2_a _ _ (by omega))]
      refine q_ifne hF (by decide) dX8_ahead_29 (fun c29 => ?_) (fun c29 => ?_)
      · refine q_lconst hF (z := 0) rfl dX8_ahead_58 ?_
        refine q_lreturn hF rfl dX8_ahead_59 ?_
        exact k1 (by omega)
      · exact absurd c29 (by decide)
set_option maxRecDepth 100000 in
theorem mX8_ahead {G : q_G} {sz : Nat} {T : q_T} {I L : q_I} {P : q_P} {Q : q_Q} {m : Nat} {l : Int} {nn : Nat} (hS : q_SM T P m) (hSA : q_A G m) (hv : g_V0 (L (m + 3))) (hl : -2147483648 ≤ l ∧ l < 2147483648) (hVR : g_VR (L (m + 3))) (hz : q_Z0 L m) (hRW : g_RW (L (m + 3))) (hn : 1 ≤ nn ∧ nn ≤ 120) (hlo : (l = -1 ∨ 0 ≤ l ∧ l < L (m + 3) 0)) (k0 : ∀ L', (∀ q k, q ≠ m + 5 → q ≠ m + 15 → L' q k = L q k) → q_Z0 L' m → Q (.inl (some (qL (g_ahead (L (m + 3)) l nn)))) sz T (u2 I m 0 0) L' P) : qC G 6 0 0 YX8_ahead [.ref m, qI l, qI (nn : Int)] sz T I L P Q := by
  refine qC_of (by decide +kernel) rfl rfl (Nat.le_of_ble_eq_true rfl) (fun F hF _ _ => ?_)
  have hm12 := hv.many
  have hl5 := hv.lands
  refine q_aload_n hF 0 rfl rfl dX8_ahead_0 ?_
  refine q_iconst hF dX8_ahead_1 ?_
  refine q_putI hF fl_RX8_52 hS.t0 hSA dX8_ahead_2 ?_
  refine q_aload_n hF 0 rfl rfl dX8_ahead_5 ?_
  refine q_iload_n hF 1 rfl rfl dX8_ahead_6 ?_
  refine q_iconst hF dX8_ahead_7 ?_
  refine q_icmpeq hF hl (by decide) dX8_ahead_8 (fun c8 => ?_) (fun c8 => ?_)
  · refine q_iconst hF dX8_ahead_23 ?_
    refine q_iconst hF dX8_ahead_24 ?_
    refine q_iconst hF dX8_ahead_25 ?_
    refine q_callV (kc := 0) (ks := 0) (mc' := 0) (ms' := 0) (h' := 0) (st := []) hF vl_RX8_251 rfl [qI 0, qI 1, qI 0] rfl rfl hS.t0 (by decide) (Nat.le_of_ble_eq_true rfl) dX8_ahead_26 ?_
    refine mX8_bad0 hS hSA (u2_s _ _ _ _) ?_
    refine q_ifne hF (by decide) dX8_ahead_29 (fun c29 => ?_) (fun c29 => ?_)
    · exact absurd c29 (by decide)
    · refine q_aload_n hF 0 rfl rfl dX8_ahead_32 ?_
      refine q_iload_n hF 2 rfl rfl dX8_ahead_33 ?_
      refine q_i2l hF (by omega) dX8_ahead_34 ?_
      refine q_lconst hF (z := 1) rfl dX8_ahead_35 ?_
      refine q_ldc2 hF (n := 120) (q_mem 1586 (by decide +kernel) rfl) dX8_ahead_36 ?_
      refine q_callS (kc := 0) (ks := 0) (mc' := 0) (ms' := 0) (h' := 0) (st := [.ref m]) hF sl_RX8_123 rfl [qL (nn : Int), qL 1, qL 120] rfl rfl (by decide) (Nat.le_of_ble_eq_true rfl) dX8_ahead_39 ?_
      refine mX8_in (by omega) (by decide) (by decide) ?_
      refine q_ifne_b hF dX8_ahead_42 (fun c42 => ?_) (fun c42 => ?_)
      · refine q_iconst hF dX8_ahead_49 ?_
        refine q_iconst hF dX8_ahead_50 ?_
        refine q_iconst hF dX8_ahead_51 ?_
        refine q_callV (kc := 0) (ks := 0) (mc' := 0) (ms' := 0) (h' := 0) (st := []) hF vl_RX8_251 rfl [qI 0, qI 2, qI 1] rfl rfl hS.t0 (by decide) (Nat.le_of_ble_eq_true rfl) dX8_ahead_52 ?_
        refine mX8_bad0 hS hSA (u2_s _ _ _ _) ?_
        refine q_ifeq hF (by decide) dX8_ahead_55 (fun c55 => ?_) (fun c55 => ?_)
        · refine q_aload_n hF 0 rfl rfl dX8_ahead_60 ?_
          refine q_getA hF fl_RX8_20 rfl hS.t0 hS.p9 dX8_ahead_61 ?_
          refine q_aload_n hF 0 rfl rfl dX8_ahead_64 ?_
          refine q_getA hF fl_RX8_27 rfl hS.t0 hS.p11 dX8_ahead_65 ?_
          refine q_callS (kc := 0) (ks := 0) (mc' := 0) (ms' := 0) (h' := 1) (st := []) hF sl_RX8_261 rfl [.ref (m + 3), .ref (m + 5)] rfl rfl (by decide) (Nat.le_of_ble_eq_true rfl) dX8_ahead_68 ?_
          refine mX8_copies hS.t3 hS.t5 (q_Ale hSA (by omega)) (by omega) ?_
          have e5 : (cpL L (m + 3) (m + 5) 1243) (m + 5) = L (m + 3) := cpL_z hz (by omega) (by omega) (by omega) (by omega)
          refine q_aload_n hF 0 rfl rfl dX8_ahead_71 ?_
          refine q_aload_n hF 0 rfl rfl dX8_ahead_72 ?_
          refine q_getA hF fl_RX8_27 rfl hS.t0 hS.p11 dX8_ahead_73 ?_
          refine q_iload_n hF 2 rfl rfl dX8_ahead_76 ?_
          refine q_callV (kc := 0) (ks := 0) (mc' := 0) (ms' := 0) (h' := 5) (st := []) hF vl_RX8_359 rfl [.ref (m + 5), qI (nn : Int)] rfl rfl hS.t0 (by decide) (Nat.le_of_ble_eq_true rfl) dX8_ahead_77 ?_
          refine mX8_monthsGo (nn := nn) hS hSA hS.t5 (q_Ale hSA (by omega)) (by omega) (by omega) (by rw [e5]; exact hVR) (fun L' c77_0 c77_1 => ?_)
          refine q_istore_n hF (ls' := [(3, qI ((g_months nn ((cpL L (m + 3) (m + 5) 1243) (m + 5))).1)), (0, .ref m), (1, qI l), (2, qI (nn : Int))]) rfl (by decide) rfl dX8_ahead_80 ?_
          refine q_lconst hF (z := 0) rfl dX8_ahead_81 ?_
          refine q_lstore hF (ls' := [(4, qL 0), (3, qI ((g_months nn ((cpL L (m + 3) (m + 5) 1243) (m + 5))).1)), (0, .ref m), (1, qI l), (2, qI (nn : Int))]) (by decide) rfl dX8_ahead_82 ?_
          refine q_aload_n hF 2 rfl rfl dX8_ahead_84 ?_
          refine q_getA hF fl_RX8_20 rfl hS.t0 hS.p9 dX8_ahead_85 ?_
          refine q_bipush hF (n := 6) rfl dX8_ahead_88 ?_
          refine q_laloadv hF (z := L (m + 3) 6) (n := 1243) 6 hS.t3 rfl (by decide) (by decide) ((c77_0 _ _ (by omega) (by omega)).trans (cpL_ne _ _ _ (by omega))) dX8_ahead_90 ?_
          refine q_l2i hF dX8_ahead_91 ?_
          refine q_istore hF (ls' := [(6, qI (L (m + 3) 6)), (4, qL 0), (3, qI ((g_months nn ((cpL L (m + 3) (m + 5) 1243) (m + 5))).1)), (0, .ref m), (1, qI l), (2, qI (nn : Int))]) (by decide) rfl dX8_ahead_92 ?_
          have f6 := hv.rows
          have g6 := (g_months_z nn (hz.zr (q := m + 3) (by omega) (by omega)) hVR).2.1.rows
          obtain ⟨a0, ha0⟩ : ∃ a0 : Nat, L (m + 3) 6 = (a0 : Int) := ⟨(L (m + 3) 6).toNat, by omega⟩
          obtain ⟨a1, ha1⟩ : ∃ a1 : Nat, (g_months nn (L (m + 3))).2 6 = (a1 : Int) := ⟨((g_months nn (L (m + 3))).2 6).toNat, by omega⟩
          have q := k0 L' (fun q k x1 x2 => (c77_0 q k x1 x2).trans (cpL_ne _ _ _ x1)) (hz.row (fun q k x1 x2 => (c77_0 q k x1 x2).trans (cpL_ne _ _ _ x1)) (by rw [c77_1, e5]; exact (g_months_z nn (hz.zr (by omega) (by omega)) hVR).1))
          unfold g_ahead at q
          rw [ha0, ha1, Int.toNat_natCast, Int.toNat_natCast] at q
          rw [ha0]
          have q2 := lX8_ahead (kc := 0) (ks := 0) (nv := (nn : Int)) (w := (g_months nn ((cpL L (m + 3) (m + 5) 1243) (m + 5))).1) (l := l) (M := L') hF hS hSA (by rw [c77_1, e5]) ((c77_0 _ _ (by omega) (by omega)).trans ((cpL_ne _ _ _ (by omega)).trans ha0)) ha1 (by omega) (g_months_rw nn hRW (hz.zr (by omega) (by omega)) hVR) (by omega) q 13 a0 (by omega) (by omega)
          rw [show g_sum (fun j => g_aheadC (g_months nn (L (m + 3))).2 l (a0 + j)) (a0 - a0) = 0 from by rw [Nat.sub_self]; rfl] at q2
          exact q2
        · exact absurd c55 (by decide)
      · omega
  · refine q_aload_n hF 0 rfl rfl dX8_ahead_11 ?_
    refine q_iload_n hF 1 rfl rfl dX8_ahead_12 ?_
    refine q_callV (kc := 0) (ks := 0) (mc' := 0) (ms' := 0) (h' := 1) (st := [.ref m]) hF vl_RX8_343 rfl [qI l] rfl rfl hS.t0 (by decide) (Nat.le_of_ble_eq_true rfl) dX8_ahead_13 ?_
    refine mX8_isLand hS hv hl ?_
    refine q_ifne_b hF dX8_ahead_16 (fun c16 => ?_) (fun c16 => ?_)
    · refine q_iconst hF dX8_ahead_23 ?_
      refine q_iconst hF dX8_ahead_24 ?_
      refine q_iconst hF dX8_ahead_25 ?_
      refine q_callV (kc := 0) (ks := 0) (mc' := 0) (ms' := 0) (h' := 0) (st := []) hF vl_RX8_251 rfl [qI 0, qI 1, qI 0] rfl rfl hS.t0 (by decide) (Nat.le_of_ble_eq_true rfl) dX8_ahead_26 ?_
      refine mX8_bad0 hS hSA (u2_s _ _ _ _) ?_
      refine q_ifne hF (by decide) dX8_ahead_29 (fun c29 => ?_) (fun c29 => ?_)
      · exact absurd c29 (by decide)
      · refine q_aload_n hF 0 rfl rfl dX8_ahead_32 ?_
        refine q_iload_n hF 2 rfl rfl dX8_ahead_33 ?_
        refine q_i2l hF (by omega) dX8_ahead_34 ?_
        refine q_lconst hF (z := 1) rfl dX8_ahead_35 ?_
        refine q_ldc2 hF (n := 120) (q_mem 1586 (by decide +kernel) rfl) dX8_ahead_36 ?_
        refine q_callS (kc := 0) (ks := 0) (mc' := 0) (ms' := 0) (h' := 0) (st := [.ref m]) hF sl_RX8_123 rfl [qL (nn : Int), qL 1, qL 120] rfl rfl (by decide) (Nat.le_of_ble_eq_true rfl) dX8_ahead_39 ?_
        refine mX8_in (by omega) (by decide) (by decide) ?_
        refine q_ifne_b hF dX8_ahead_42 (fun c42 => ?_) (fun c42 => ?_)
        · refine q_iconst hF dX8_ahead_49 ?_
          refine q_iconst hF dX8_ahead_50 ?_
          refine q_iconst hF dX8_ahead_51 ?_
          refine q_callV (kc := 0) (ks := 0) (mc' := 0) (ms' := 0) (h' := 0) (st := []) hF vl_RX8_251 rfl [qI 0, qI 2, qI 1] rfl rfl hS.t0 (by decide) (Nat.le_of_ble_eq_true rfl) dX8_ahead_52 ?_
          refine mX8_bad0 hS hSA (u2_s _ _ _ _) ?_
          refine q_ifeq hF (by decide) dX8_ahead_55 (fun c55 => ?_) (fun c55 => ?_)
          · refine q_aload_n hF 0 rfl rfl dX8_ahead_60 ?_
            refine q_getA hF fl_RX8_20 rfl hS.t0 hS.p9 dX8_ahead_61 ?_
            refine q_aload_n hF 0 rfl rfl dX8_ahead_64 ?_
            refine q_getA hF fl_RX8_27 rfl hS.t0 hS.p11 dX8_ahead_65 ?_
            refine q_callS (kc := 0) (ks := 0) (mc' := 0) (ms' := 0) (h' := 1) (st := []) hF sl_RX8_261 rfl [.ref (m + 3), .ref (m + 5)] rfl rfl (by decide) (Nat.le_of_ble_eq_true rfl) dX8_ahead_68 ?_
            refine mX8_copies hS.t3 hS.t5 (q_Ale hSA (by omega)) (by omega) ?_
            have e5 : (cpL L (m + 3) (m + 5) 1243) (m + 5) = L (m + 3) := cpL_z hz (by omega) (by omega) (by omega) (by omega)
            refine q_aload_n hF 0 rfl rfl dX8_ahead_71 ?_
            refine q_aload_n hF 0 rfl rfl dX8_ahead_72 ?_
            refine q_getA hF fl_RX8_27 rfl hS.t0 hS.p11 dX8_ahead_73 ?_
            refine q_iload_n hF 2 rfl rfl dX8_ahead_76 ?_
            refine q_callV (kc := 0) (ks := 0) (mc' := 0) (ms' := 0) (h' := 5) (st := []) hF vl_RX8_359 rfl [.ref (m + 5), qI (nn : Int)] rfl rfl hS.t0 (by decide) (Nat.le_of_ble_eq_true rfl) dX8_ahead_77 ?_
            refine mX8_monthsGo (nn := nn) hS hSA hS.t5 (q_Ale hSA (by omega)) (by omega) (by omega) (by rw [e5]; exact hVR) (fun L' c77_0 c77_1 => ?_)
            refine q_istore_n hF (ls' := [(3, qI ((g_months nn ((cpL L (m + 3) (m + 5) 1243) (m + 5))).1)), (0, .ref m), (1, qI l), (2, qI (nn : Int))]) rfl (by decide) rfl dX8_ahead_80 ?_
            refine q_lconst hF (z := 0) rfl dX8_ahead_81 ?_
            refine q_lstore hF (ls' := [(4, qL 0), (3, qI ((g_months nn ((cpL L (m + 3) (m + 5) 1243) (m + 5))).1)), (0, .ref m), (1, qI l), (2, qI (nn : Int))]) (by decide) rfl dX8_ahead_82 ?_
            refine q_aload_n hF 2 rfl rfl dX8_ahead_84 ?_
            refine q_getA hF fl_RX8_20 rfl hS.t0 hS.p9 dX8_ahead_85 ?_
            refine q_bipush hF (n := 6) rfl dX8_ahead_88 ?_
            refine q_laloadv hF (z := L (m + 3) 6) (n := 1243) 6 hS.t3 rfl (by decide) (by decide) ((c77_0 _ _ (by omega) (by omega)).trans (cpL_ne _ _ _ (by omega))) dX8_ahead_90 ?_
            refine q_l2i hF dX8_ahead_91 ?_
            refine q_istore hF (ls' := [(6, qI (L (m + 3) 6)), (4, qL 0), (3, qI ((g_months nn ((cpL L (m + 3) (m + 5) 1243) (m + 5))).1)), (0, .ref m), (1, qI l), (2, qI (nn : Int))]) (by decide) rfl dX8_ahead_92 ?_
            have f6 := hv.rows
            have g6 := (g_months_z nn (hz.zr (q := m + 3) (by omega) (by omega)) hVR).2.1.rows
            obtain ⟨a0, ha0⟩ : ∃ a0 : Nat, L (m + 3) 6 = (a0 : Int) := ⟨(L (m + 3) 6).toNat, by omega⟩
            obtain ⟨a1, ha1⟩ : ∃ a1 : Nat, (g_months nn (L (m + 3))).2 6 = (a1 : Int) := ⟨((g_months nn (L (m + 3))).2 6).toNat, by omega⟩
            have q := k0 L' (fun q k x1 x2 => (c77_0 q k x1 x2).trans (cpL_ne _ _ _ x1)) (hz.row (fun q k x1 x2 => (c77_0 q k x1 x2).trans (cpL_ne _ _ _ x1)) (by rw [c77_1, e5]; exact (g_months_z nn (hz.zr (by omega) (by omega)) hVR).1))
            unfold g_ahead at q
            rw [ha0, ha1, Int.toNat_natCast, Int.toNat_natCast] at q
            rw [ha0]
            have q2 := lX8_ahead (kc := 0) (ks := 0) (nv := (nn : Int)) (w := (g_months nn ((cpL L (m + 3) (m + 5) 1243) (m + 5))).1) (l := l) (M := L') hF hS hSA (by rw [c77_1, e5]) ((c77_0 _ _ (by omega) (by omega)).trans ((cpL_ne _ _ _ (by omega)).trans ha0)) ha1 (by omega) (g_months_rw nn hRW (hz.zr (by omega) (by omega)) hVR) (by omega) q 13 a0 (by omega) (by omega)
            rw [show g_sum (fun j => g_aheadC (g_months nn (L (m + 3))).2 l (a0 + j)) (a0 - a0) = 0 from by rw [Nat.sub_self]; rfl] at q2
            exact q2
          · exact absurd c55 (by decide)
        · omega
    · omega
def g_oopen (r : Nat → Int) (i : Nat) (kd ad bi ce : Int) : Nat → Int := g_up (g_up (g_up (g_up (g_up (g_up (g_up (g_up (g_up (g_up (g_up (g_up (g_up (g_up (g_up (g_up (g_up (g_up (g_up (g_up r (1039 + 12 * i) 0) (1040 + 12 * i) 0) (1041 + 12 * i) 0) (1042 + 12 * i) 0) (1043 + 12 * i) 0) (1044 + 12 * i) 0) (1045 + 12 * i) 0) (1046 + 12 * i) 0) (1047 + 12 * i) 0) (1048 + 12 * i) 0) (1049 + 12 * i) 0) (1050 + 12 * i) 0) (1039 + 12 * i) kd) (1040 + 12 * i) ad) (1041 + 12 * i) bi) (1042 + 12 * i) ce) (1048 + 12 * i) (-1)) (1047 + 12 * i) (-1)) 17 ((r 17) + ce)) 1 ((i : Int) + 1)

set_option maxRecDepth 100000 in
theorem mX8_open {G : q_G} {sz : Nat} {T : q_T} {I L : q_I} {P : q_P} {Q : q_Q} {m : Nat} {kd : Int} {ad : Int} {bi : Int} {ce : Int} {i bk : Nat} (hS : q_SM T P m) (hSA : q_A G m) (hv : g_V0 (L (m + 3))) (hmn : L (m + 3) 1 = (i : Int)) (h1 : -2147483648 ≤ kd ∧ kd < 2147483648) (h2 : -2147483648 ≤ ad ∧ ad < 2147483648) (h3 : -2147483648 ≤ bi ∧ bi < 2147483648) (h4 : -2147483648 ≤ ce ∧ ce < 2147483648) (hb : I m 13 = (bk : Int)) (hbk : bk ≤ 8) (hz : q_Z0 L m) (k1 : ¬ ((ad = -1 ∨ 0 ≤ ad ∧ ad < L (m + 3) 0) ∧ (bi = -1 ∨ 0 ≤ bi ∧ bi < L (m + 3) 0)) → Q (.inl (some (qI 0))) sz T (u2 (u2 (u2 I m 0 0) m 0 1) (m + 1) 0 ((I (m + 1) 0) + 1)) L P) (k2 : ((ad = -1 ∨ 0 ≤ ad ∧ ad < L (m + 3) 0) ∧ (bi = -1 ∨ 0 ≤ bi ∧ bi < L (m + 3) 0)) → ¬ ((0 ≤ kd ∧ kd ≤ 4) ∧ 0 ≤ ce ∧ ce ≤ 100000000) → Q (.inl (some (qI 0))) sz T (u2 (u2 (u2 I m 0 0) m 0 2) (m + 1) 1 ((I (m + 1) 1) + 1)) L P) (k3 : ((ad = -1 ∨ 0 ≤ ad ∧ ad < L (m + 3) 0) ∧ (bi = -1 ∨ 0 ≤ bi ∧ bi < L (m + 3) 0)) → ((0 ≤ kd ∧ kd ≤ 4) ∧ 0 ≤ ce ∧ ce ≤ 100000000) → i = 12 → Q (.inl (some (qI 0))) sz T (u2 (u2 (u2 I m 0 0) m 0 3) (m + 1) 2 ((I (m + 1) 2) + 1)) L P) (k0 : ∀ L', ((ad = -1 ∨ 0 ≤ ad ∧ ad < L (m + 3) 0) ∧ (bi = -1 ∨ 0 ≤ bi ∧ bi < L (m + 3) 0)) → ((0 ≤ kd ∧ kd ≤ 4) ∧ 0 ≤ ce ∧ ce ≤ 100000000) → i < 12 → g_Rm L L' m bk → Q (.inl (some (qI ((i : Int))))) sz T (u2 (u2 I m 0 0) m 13 (g_nb bk : Int)) (q_row L' (m + 3) (g_oopen (L (m + 3)) i kd ad bi ce)) P) : qC G 4 0 0 YX8_open [.ref m, qI kd, qI ad, qI bi, qI ce] sz T I L P Q := by
  refine qC_of (by decide +kernel) rfl rfl (Nat.le_of_ble_eq_true rfl) (fun F hF _ _ => ?_)
  have hm12 := hv.many
  have hl5 := hv.lands
  refine q_aload_n hF 0 rfl rfl dX8_open_0 ?_
  refine q_iconst hF dX8_open_1 ?_
  refine q_putI hF fl_RX8_52 hS.t0 hSA dX8_open_2 ?_
  refine q_aload_n hF 0 rfl rfl dX8_open_5 ?_
  refine q_iload_n hF 2 rfl rfl dX8_open_6 ?_
  refine q_iconst hF dX8_open_7 ?_
  refine q_icmpeq hF h2 (by decide) dX8_open_8 (fun c8 => ?_) (fun c8 => ?_)
  · refine q_iload_n hF 3 rfl rfl dX8_open_19 ?_
    refine q_iconst hF dX8_open_20 ?_
    refine q_icmpeq hF h3 (by decide) dX8_open_21 (fun c21 => ?_) (fun c21 => ?_)
    · refine q_iconst hF dX8_open_36 ?_
      refine q_iconst hF dX8_open_37 ?_
      refine q_iconst hF dX8_open_38 ?_
      refine q_callV (kc := 0) (ks := 0) (mc' := 0) (ms' := 0) (h' := 0) (st := []) hF vl_RX8_251 rfl [qI 0, qI 1, qI 0] rfl rfl hS.t0 (by decide) (Nat.le_of_ble_eq_true rfl) dX8_open_39 ?_
      refine mX8_bad0 hS hSA (u2_s _ _ _ _) ?_
      refine q_ifne hF (by decide) dX8_open_42 (fun c42 => ?_) (fun c42 => ?_)
      · exact absurd c42 (by decide)
      · refine q_aload_n hF 0 rfl rfl dX8_open_45 ?_
        refine q_iload_n hF 1 rfl rfl dX8_open_46 ?_
        refine q_i2l hF h1 dX8_open_47 ?_
        refine q_lconst hF (z := 0) rfl dX8_open_48 ?_
        refine q_ldc2 hF (n := 4) (q_mem 1529 (by decide +kernel) rfl) dX8_open_49 ?_
        refine q_callS (kc := 0) (ks := 0) (mc' := 0) (ms' := 0) (h' := 0) (st := [.ref m]) hF sl_RX8_123 rfl [qL kd, qL 0, qL 4] rfl rfl (by decide) (Nat.le_of_ble_eq_true rfl) dX8_open_52 ?_
        refine mX8_in (by omega) (by decide) (by decide) ?_
        refine q_ifeq_b hF dX8_open_55 (fun c55 => ?_) (fun c55 => ?_)
        · refine q_iconst hF dX8_open_71 ?_
          refine q_goto hF dX8_open_72 ?_
          refine q_iconst hF dX8_open_76 ?_
          refine q_iconst hF dX8_open_77 ?_
          refine q_callV (kc := 0) (ks := 0) (mc' := 0) (ms' := 0) (h' := 0) (st := []) hF vl_RX8_251 rfl [qI 1, qI 2, qI 1] rfl rfl hS.t0 (by decide) (Nat.le_of_ble_eq_true rfl) dX8_open_78 ?_
          refine mX8_bad1 (j := 1) hS hSA (u2_s _ _ _ _) (by omega) rfl (by decide) ?_
          rw [show (u2 I m 0 0) (m + 1) 1 = I (m + 1) 1 from (u2_k _ _ (by decide))]
          refine q_ifne hF (by decide) dX8_open_81 (fun c81 => ?_) (fun c81 => ?_)
          · refine q_iconst hF dX8_open_107 ?_
            refine q_ireturn hF rfl dX8_open_108 ?_
            exact k2 (by omega) (by omega)
          · exact absurd c81 (by decide)
        · refine q_iload hF 4 rfl dX8_open_58 ?_
          refine q_i2l hF h4 dX8_open_60 ?_
          refine q_lconst hF (z := 0) rfl dX8_open_61 ?_
          refine q_ldc2 hF (n := 100000000) (q_mem 1530 (by decide +kernel) rfl) dX8_open_62 ?_
          refine q_callS (kc := 0) (ks := 0) (mc' := 0) (ms' := 0) (h' := 0) (st := [.ref m]) hF sl_RX8_123 rfl [qL ce, qL 0, qL 100000000] rfl rfl (by decide) (Nat.le_of_ble_eq_true rfl) dX8_open_65 ?_
          refine mX8_in (by omega) (by decide) (by decide) ?_
          refine q_ifne_b hF dX8_open_68 (fun c68 => ?_) (fun c68 => ?_)
          · refine q_iconst hF dX8_open_75 ?_
            refine q_iconst hF dX8_open_76 ?_
            refine q_iconst hF dX8_open_77 ?_
            refine q_callV (kc := 0) (ks := 0) (mc' := 0) (ms' := 0) (h' := 0) (st := []) hF vl_RX8_251 rfl [qI 0, qI 2, qI 1] rfl rfl hS.t0 (by decide) (Nat.le_of_ble_eq_true rfl) dX8_open_78 ?_
            refine mX8_bad0 hS hSA (u2_s _ _ _ _) ?_
            refine q_ifne hF (by decide) dX8_open_81 (fun c81 => ?_) (fun c81 => ?_)
            · exact absurd c81 (by decide)
            · refine q_aload_n hF 0 rfl rfl dX8_open_84 ?_
              refine q_aload_n hF 0 rfl rfl dX8_open_85 ?_
              refine q_callV (kc := 0) (ks := 0) (mc' := 0) (ms' := 0) (h' := 0) (st := [.ref m]) hF vl_RX8_337 rfl [] rfl rfl hS.t0 (by decide) (Nat.le_of_ble_eq_true rfl) dX8_open_86 ?_
              refine mX8_many hS ?_
              rw [show L (m + 3) 1 = (i : Int) from hmn]
              refine q_bipush hF (n := 12) rfl dX8_open_89 ?_
              refine q_icmpne hF (by omega) (by decide) dX8_open_91 (fun c91 => ?_) (fun c91 => ?_)
              · refine q_iconst hF dX8_open_98 ?_
                refine q_iconst hF dX8_open_99 ?_
                refine q_iconst hF dX8_open_100 ?_
                refine q_callV (kc := 0) (ks := 0) (mc' := 0) (ms' := 0) (h' := 0) (st := []) hF vl_RX8_251 rfl [qI 0, qI 3, qI 2] rfl rfl hS.t0 (by decide) (Nat.le_of_ble_eq_true rfl) dX8_open_101 ?_
                refine mX8_bad0 hS hSA (u2_s _ _ _ _) ?_
                refine q_ifeq hF (by decide) dX8_open_104 (fun c104 => ?_) (fun c104 => ?_)
                · refine q_aload_n hF 0 rfl rfl dX8_open_109 ?_
                  refine q_callV (kc := 0) (ks := 0) (mc' := 0) (ms' := 0) (h' := 2) (st := []) hF vl_RX8_258 rfl [] rfl rfl hS.t0 (by decide) (Nat.le_of_ble_eq_true rfl) dX8_open_110 ?_
                  refine mX8_remembers (bk := bk) hS hSA (((u2_k _ _ (by decide)).trans hb)) (by omega) hz (fun LR c110_0 => ?_)
                  refine q_aload_n hF 0 rfl rfl dX8_open_113 ?_
                  refine q_callV (kc := 0) (ks := 0) (mc' := 0) (ms' := 0) (h' := 0) (st := []) hF vl_RX8_337 rfl [] rfl rfl hS.t0 (by decide) (Nat.le_of_ble_eq_true rfl) dX8_open_114 ?_
                  refine mX8_many hS ?_
                  rw [show LR (m + 3) 1 = (i : Int) from ((c110_0.1 _ _ (by omega)).trans hmn)]
                  refine q_istore hF (ls' := [(5, qI ((i : Int))), (0, .ref m), (1, qI kd), (2, qI ad), (3, qI bi), (4, qI ce)]) (by decide) rfl dX8_open_117 ?_
                  refine q_iconst hF dX8_open_119 ?_
                  refine q_istore hF (ls' := [(6, qI 0), (5, qI ((i : Int))), (0, .ref m), (1, qI kd), (2, qI ad), (3, qI bi), (4, qI ce)]) (by decide) rfl dX8_open_120 ?_
                  refine q_iload hF 0 rfl dX8_open_122 ?_
                  refine q_bipush hF (n := 12) rfl dX8_open_124 ?_
                  refine q_icmpge hF (by decide) (by decide) dX8_open_126 (fun c126 => ?_) (fun c126 => ?_)
                  · exact absurd c126 (by decide)
                  · refine q_aload_n hF 2 rfl rfl dX8_open_129 ?_
                    refine q_getA hF fl_RX8_20 rfl hS.t0 hS.p9 dX8_open_130 ?_
                    refine q_iload hF 1 rfl dX8_open_133 ?_
                    refine q_iload hF 0 rfl dX8_open_135 ?_
                    refine q_lconst hF (z := 0) rfl dX8_open_137 ?_
                    refine q_callS (kc := 0) (ks := 0) (mc' := 0) (ms' := 0) (h' := 1) (st := []) hF sl_RX8_299 rfl [.ref (m + 3), qI ((i : Int)), qI 0, qL 0] rfl rfl (by decide) (Nat.le_of_ble_eq_true rfl) dX8_open_138 ?_
                    refine mX8_sets (j := (1039 + 12 * i)) hS.t3 (q_Ale hSA (by omega)) (by omega) (by have := hv.many; have := hv.lands; omega) ?_
                    refine q_iinc hF (z' := 1) (ls' := [(6, qI 1), (5, qI ((i : Int))), (0, .ref m), (1, qI kd), (2, qI ad), (3, qI bi), (4, qI ce)]) 0 rfl (by first | rfl | omega) (by decide) rfl dX8_open_141 ?_
                    refine q_goto hF dX8_open_144 ?_
                    refine q_iload hF 0 rfl dX8_open_122 ?_
                    refine q_bipush hF (n := 12) rfl dX8_open_124 ?_
                    refine q_icmpge hF (by decide) (by decide) dX8_open_126 (fun c126 => ?_) (fun c126 => ?_)
                    · exact absurd c126 (by decide)
                    · refine q_aload_n hF 2 rfl rfl dX8_open_129 ?_
                      refine q_getA hF fl_RX8_20 rfl hS.t0 hS.p9 dX8_open_130 ?_
                      refine q_iload hF 1 rfl dX8_open_133 ?_
                      refine q_iload hF 0 rfl dX8_open_135 ?_
                      refine q_lconst hF (z := 0) rfl dX8_open_137 ?_
                      refine q_callS (kc := 0) (ks := 0) (mc' := 0) (ms' := 0) (h' := 1) (st := []) hF sl_RX8_299 rfl [.ref (m + 3), qI ((i : Int)), qI 1, qL 0] rfl rfl (by decide) (Nat.le_of_ble_eq_true rfl) dX8_open_138 ?_
                      refine mX8_sets (j := (1040 + 12 * i)) hS.t3 (q_Ale hSA (by omega)) (by omega) (by have := hv.many; have := hv.lands; omega) ?_
                      refine q_iinc hF (z' := 2) (ls' := [(6, qI 2), (5, qI ((i : Int))), (0, .ref m), (1, qI kd), (2, qI ad), (3, qI bi), (4, qI ce)]) 0 rfl (by first | rfl | omega) (by decide) rfl dX8_open_141 ?_
                      refine q_goto hF dX8_open_144 ?_
                      refine q_iload hF 0 rfl dX8_open_122 ?_
                      refine q_bipush hF (n := 12) rfl dX8_open_124 ?_
                      refine q_icmpge hF (by decide) (by decide) dX8_open_126 (fun c126 => ?_) (fun c126 => ?_)
                      · exact absurd c126 (by decide)
                      · refine q_aload_n hF 2 rfl rfl dX8_open_129 ?_
                        refine q_getA hF fl_RX8_20 rfl hS.t0 hS.p9 dX8_open_130 ?_
                        refine q_iload hF 1 rfl dX8_open_133 ?_
                        refine q_iload hF 0 rfl dX8_open_135 ?_
                        refine q_lconst hF (z := 0) rfl dX8_open_137 ?_
                        refine q_callS (kc := 0) (ks := 0) (mc' := 0) (ms' := 0) (h' := 1) (st := []) hF sl_RX8_299 rfl [.ref (m + 3), qI ((i : Int)), qI 2, qL 0] rfl rfl (by decide) (Nat.le_of_ble_eq_true rfl) dX8_open_138 ?_
                        refine mX8_sets (j := (1041 + 12 * i)) hS.t3 (q_Ale hSA (by omega)) (by omega) (by have := hv.many; have := hv.lands; omega) ?_
                        refine q_iinc hF (z' := 3) (ls' := [(6, qI 3), (5, qI ((i : Int))), (0, .ref m), (1, qI kd), (2, qI ad), (3, qI bi), (4, qI ce)]) 0 rfl (by first | rfl | omega) (by decide) rfl dX8_open_141 ?_
                        refine q_goto hF dX8_open_144 ?_
                        refine q_iload hF 0 rfl dX8_open_122 ?_
                        refine q_bipush hF (n := 12) rfl dX8_open_124 ?_
                        refine q_icmpge hF (by decide) (by decide) dX8_open_126 (fun c126 => ?_) (fun c126 => ?_)
                        · exact absurd c126 (by decide)
                        · refine q_aload_n hF 2 rfl rfl dX8_open_129 ?_
                          refine q_getA hF fl_RX8_20 rfl hS.t0 hS.p9 dX8_open_130 ?_
                          refine q_iload hF 1 rfl dX8_open_133 ?_
                          refine q_iload hF 0 rfl dX8_open_135 ?_
                          refine q_lconst hF (z := 0) rfl dX8_open_137 ?_
                          refine q_callS (kc := 0) (ks := 0) (mc' := 0) (ms' := 0) (h' := 1) (st := []) hF sl_RX8_299 rfl [.ref (m + 3), qI ((i : Int)), qI 3, qL 0] rfl rfl (by decide) (Nat.le_of_ble_eq_true rfl) dX8_open_138 ?_
                          refine mX8_sets (j := (1042 + 12 * i)) hS.t3 (q_Ale hSA (by omega)) (by omega) (by have := hv.many; have := hv.lands; omega) ?_
                          refine q_iinc hF (z' := 4) (ls' := [(6, qI 4), (5, qI ((i : Int))), (0, .ref m), (1, qI kd), (2, qI ad), (3, qI bi), (4, qI ce)]) 0 rfl (by first | rfl | omega) (by decide) rfl dX8_open_141 ?_
                          refine q_goto hF dX8_open_144 ?_
                          refine q_iload hF 0 rfl dX8_open_122 ?_
                          refine q_bipush hF (n := 12) rfl dX8_open_124 ?_
                          refine q_icmpge hF (by decide) (by decide) dX8_open_126 (fun c126 => ?_) (fun c126 => ?_)
                          · exact absurd c126 (by decide)
                          · refine q_aload_n hF 2 rfl rfl dX8_open_129 ?_
                            refine q_getA hF fl_RX8_20 rfl hS.t0 hS.p9 dX8_open_130 ?_
                            refine q_iload hF 1 rfl dX8_open_133 ?_
                            refine q_iload hF 0 rfl dX8_open_135 ?_
                            refine q_lconst hF (z := 0) rfl dX8_open_137 ?_
                            refine q_callS (kc := 0) (ks := 0) (mc' := 0) (ms' := 0) (h' := 1) (st := []) hF sl_RX8_299 rfl [.ref (m + 3), qI ((i : Int)), qI 4, qL 0] rfl rfl (by decide) (Nat.le_of_ble_eq_true rfl) dX8_open_138 ?_
                            refine mX8_sets (j := (1043 + 12 * i)) hS.t3 (q_Ale hSA (by omega)) (by omega) (by have := hv.many; have := hv.lands; omega) ?_
                            refine q_iinc hF (z' := 5) (ls' := [(6, qI 5), (5, qI ((i : Int))), (0, .ref m), (1, qI kd), (2, qI ad), (3, qI bi), (4, qI ce)]) 0 rfl (by first | rfl | omega) (by decide) rfl dX8_open_141 ?_
                            refine q_goto hF dX8_open_144 ?_
                            refine q_iload hF 0 rfl dX8_open_122 ?_
                            refine q_bipush hF (n := 12) rfl dX8_open_124 ?_
                            refine q_icmpge hF (by decide) (by decide) dX8_open_126 (fun c126 => ?_) (fun c126 => ?_)
                            · exact absurd c126 (by decide)
                            · refine q_aload_n hF 2 rfl rfl dX8_open_129 ?_
                              refine q_getA hF fl_RX8_20 rfl hS.t0 hS.p9 dX8_open_130 ?_
                              refine q_iload hF 1 rfl dX8_open_133 ?_
                              refine q_iload hF 0 rfl dX8_open_135 ?_
                              refine q_lconst hF (z := 0) rfl dX8_open_137 ?_
                              refine q_callS (kc := 0) (ks := 0) (mc' := 0) (ms' := 0) (h' := 1) (st := []) hF sl_RX8_299 rfl [.ref (m + 3), qI ((i : Int)), qI 5, qL 0] rfl rfl (by decide) (Nat.le_of_ble_eq_true rfl) dX8_open_138 ?_
                              refine mX8_sets (j := (1044 + 12 * i)) hS.t3 (q_Ale hSA (by omega)) (by omega) (by have := hv.many; have := hv.lands; omega) ?_
                              refine q_iinc hF (z' := 6) (ls' := [(6, qI 6), (5, qI ((i : Int))), (0, .ref m), (1, qI kd), (2, qI ad), (3, qI bi), (4, qI ce)]) 0 rfl (by first | rfl | omega) (by decide) rfl dX8_open_141 ?_
                              refine q_goto hF dX8_open_144 ?_
                              refine q_iload hF 0 rfl dX8_open_122 ?_
                              refine q_bipush hF (n := 12) rfl dX8_open_124 ?_
                              refine q_icmpge hF (by decide) (by decide) dX8_open_126 (fun c126 => ?_) (fun c126 => ?_)
                              · exact absurd c126 (by decide)
                              · refine q_aload_n hF 2 rfl rfl dX8_open_129 ?_
                                refine q_getA hF fl_RX8_20 rfl hS.t0 hS.p9 dX8_open_130 ?_
                                refine q_iload hF 1 rfl dX8_open_133 ?_
                                refine q_iload hF 0 rfl dX8_open_135 ?_
                                refine q_lconst hF (z := 0) rfl dX8_open_137 ?_
                                refine q_callS (kc := 0) (ks := 0) (mc' := 0) (ms' := 0) (h' := 1) (st := []) hF sl_RX8_299 rfl [.ref (m + 3), qI ((i : Int)), qI 6, qL 0] rfl rfl (by decide) (Nat.le_of_ble_eq_true rfl) dX8_open_138 ?_
                                refine mX8_sets (j := (1045 + 12 * i)) hS.t3 (q_Ale hSA (by omega)) (by omega) (by have := hv.many; have := hv.lands; omega) ?_
                                refine q_iinc hF (z' := 7) (ls' := [(6, qI 7), (5, qI ((i : Int))), (0, .ref m), (1, qI kd), (2, qI ad), (3, qI bi), (4, qI ce)]) 0 rfl (by first | rfl | omega) (by decide) rfl dX8_open_141 ?_
                                refine q_goto hF dX8_open_144 ?_
                                refine q_iload hF 0 rfl dX8_open_122 ?_
                                refine q_bipush hF (n := 12) rfl dX8_open_124 ?_
                                refine q_icmpge hF (by decide) (by decide) dX8_open_126 (fun c126 => ?_) (fun c126 => ?_)
                                · exact absurd c126 (by decide)
                                · refine q_aload_n hF 2 rfl rfl dX8_open_129 ?_
                                  refine q_getA hF fl_RX8_20 rfl hS.t0 hS.p9 dX8_open_130 ?_
                                  refine q_iload hF 1 rfl dX8_open_133 ?_
                                  refine q_iload hF 0 rfl dX8_open_135 ?_
                                  refine q_lconst hF (z := 0) rfl dX8_open_137 ?_
                                  refine q_callS (kc := 0) (ks := 0) (mc' := 0) (ms' := 0) (h' := 1) (st := []) hF sl_RX8_299 rfl [.ref (m + 3), qI ((i : Int)), qI 7, qL 0] rfl rfl (by decide) (Nat.le_of_ble_eq_true rfl) dX8_open_138 ?_
                                  refine mX8_sets (j := (1046 + 12 * i)) hS.t3 (q_Ale hSA (by omega)) (by omega) (by have := hv.many; have := hv.lands; omega) ?_
                                  refine q_iinc hF (z' := 8) (ls' := [(6, qI 8), (5, qI ((i : Int))), (0, .ref m), (1, qI kd), (2, qI ad), (3, qI bi), (4, qI ce)]) 0 rfl (by first | rfl | omega) (by decide) rfl dX8_open_141 ?_
                                  refine q_goto hF dX8_open_144 ?_
                                  refine q_iload hF 0 rfl dX8_open_122 ?_
                                  refine q_bipush hF (n := 12) rfl dX8_open_124 ?_
                                  refine q_icmpge hF (by decide) (by decide) dX8_open_126 (fun c126 => ?_) (fun c126 => ?_)
                                  · exact absurd c126 (by decide)
                                  · refine q_aload_n hF 2 rfl rfl dX8_open_129 ?_
                                    refine q_getA hF fl_RX8_20 rfl hS.t0 hS.p9 dX8_open_130 ?_
                                    refine q_iload hF 1 rfl dX8_open_133 ?_
                                    refine q_iload hF 0 rfl dX8_open_135 ?_
                                    refine q_lconst hF (z := 0) rfl dX8_open_137 ?_
                                    refine q_callS (kc := 0) (ks := 0) (mc' := 0) (ms' := 0) (h' := 1) (st := []) hF sl_RX8_299 rfl [.ref (m + 3), qI ((i : Int)), qI 8, qL 0] rfl rfl (by decide) (Nat.le_of_ble_eq_true rfl) dX8_open_138 ?_
                                    refine mX8_sets (j := (1047 + 12 * i)) hS.t3 (q_Ale hSA (by omega)) (by omega) (by have := hv.many; have := hv.lands; omega) ?_
                                    refine q_iinc hF (z' := 9) (ls' := [(6, qI 9), (5, qI ((i : Int))), (0, .ref m), (1, qI kd), (2, qI ad), (3, qI bi), (4, qI ce)]) 0 rfl (by first | rfl | omega) (by decide) rfl dX8_open_141 ?_
                                    refine q_goto hF dX8_open_144 ?_
                                    refine q_iload hF 0 rfl dX8_open_122 ?_
                                    refine q_bipush hF (n := 12) rfl dX8_open_124 ?_
                                    refine q_icmpge hF (by decide) (by decide) dX8_open_126 (fun c126 => ?_) (fun c126 => ?_)
                                    · exact absurd c126 (by decide)
                                    · refine q_aload_n hF 2 rfl rfl dX8_open_129 ?_
                                      refine q_getA hF fl_RX8_20 rfl hS.t0 hS.p9 dX8_open_130 ?_
                                      refine q_iload hF 1 rfl dX8_open_133 ?_
                                      refine q_iload hF 0 rfl dX8_open_135 ?_
                                      refine q_lconst hF (z := 0) rfl dX8_open_137 ?_
                                      refine q_callS (kc := 0) (ks := 0) (mc' := 0) (ms' := 0) (h' := 1) (st := []) hF sl_RX8_299 rfl [.ref (m + 3), qI ((i : Int)), qI 9, qL 0] rfl rfl (by decide) (Nat.le_of_ble_eq_true rfl) dX8_open_138 ?_
                                      refine mX8_sets (j := (1048 + 12 * i)) hS.t3 (q_Ale hSA (by omega)) (by omega) (by have := hv.many; have := hv.lands; omega) ?_
                                      refine q_iinc hF (z' := 10) (ls' := [(6, qI 10), (5, qI ((i : Int))), (0, .ref m), (1, qI kd), (2, qI ad), (3, qI bi), (4, qI ce)]) 0 rfl (by first | rfl | omega) (by decide) rfl dX8_open_141 ?_
                                      refine q_goto hF dX8_open_144 ?_
                                      refine q_iload hF 0 rfl dX8_open_122 ?_
                                      refine q_bipush hF (n := 12) rfl dX8_open_124 ?_
                                      refine q_icmpge hF (by decide) (by decide) dX8_open_126 (fun c126 => ?_) (fun c126 => ?_)
                                      · exact absurd c126 (by decide)
                                      · refine q_aload_n hF 2 rfl rfl dX8_open_129 ?_
                                        refine q_getA hF fl_RX8_20 rfl hS.t0 hS.p9 dX8_open_130 ?_
                                        refine q_iload hF 1 rfl dX8_open_133 ?_
                                        refine q_iload hF 0 rfl dX8_open_135 ?_
                                        refine q_lconst hF (z := 0) rfl dX8_open_137 ?_
                                        refine q_callS (kc := 0) (ks := 0) (mc' := 0) (ms' := 0) (h' := 1) (st := []) hF sl_RX8_299 rfl [.ref (m + 3), qI ((i : Int)), qI 10, qL 0] rfl rfl (by decide) (Nat.le_of_ble_eq_true rfl) dX8_open_138 ?_
                                        refine mX8_sets (j := (1049 + 12 * i)) hS.t3 (q_Ale hSA (by omega)) (by omega) (by have := hv.many; have := hv.lands; omega) ?_
                                        refine q_iinc hF (z' := 11) (ls' := [(6, qI 11), (5, qI ((i : Int))), (0, .ref m), (1, qI kd), (2, qI ad), (3, qI bi), (4, qI ce)]) 0 rfl (by first | rfl | omega) (by decide) rfl dX8_open_141 ?_
                                        refine q_goto hF dX8_open_144 ?_
                                        refine q_iload hF 0 rfl dX8_open_122 ?_
                                        refine q_bipush hF (n := 12) rfl dX8_open_124 ?_
                                        refine q_icmpge hF (by decide) (by decide) dX8_open_126 (fun c126 => ?_) (fun c126 => ?_)
                                        · exact absurd c126 (by decide)
                                        · refine q_aload_n hF 2 rfl rfl dX8_open_129 ?_
                                          refine q_getA hF fl_RX8_20 rfl hS.t0 hS.p9 dX8_open_130 ?_
                                          refine q_iload hF 1 rfl dX8_open_133 ?_
                                          refine q_iload hF 0 rfl dX8_open_135 ?_
                                          refine q_lconst hF (z := 0) rfl dX8_open_137 ?_
                                          refine q_callS (kc := 0) (ks := 0) (mc' := 0) (ms' := 0) (h' := 1) (st := []) hF sl_RX8_299 rfl [.ref (m + 3), qI ((i : Int)), qI 11, qL 0] rfl rfl (by decide) (Nat.le_of_ble_eq_true rfl) dX8_open_138 ?_
                                          refine mX8_sets (j := (1050 + 12 * i)) hS.t3 (q_Ale hSA (by omega)) (by omega) (by have := hv.many; have := hv.lands; omega) ?_
                                          refine q_iinc hF (z' := 12) (ls' := [(6, qI 12), (5, qI ((i : Int))), (0, .ref m), (1, qI kd), (2, qI ad), (3, qI bi), (4, qI ce)]) 0 rfl (by first | rfl | omega) (by decide) rfl dX8_open_141 ?_
                                          refine q_goto hF dX8_open_144 ?_
                                          refine q_iload hF 0 rfl dX8_open_122 ?_
                                          refine q_bipush hF (n := 12) rfl dX8_open_124 ?_
                                          refine q_icmpge hF (by decide) (by decide) dX8_open_126 (fun c126 => ?_) (fun c126 => ?_)
                                          · refine q_aload_n hF 2 rfl rfl dX8_open_147 ?_
                                            refine q_getA hF fl_RX8_20 rfl hS.t0 hS.p9 dX8_open_148 ?_
                                            refine q_iload hF 1 rfl dX8_open_151 ?_
                                            refine q_iconst hF dX8_open_153 ?_
                                            refine q_iload_n hF 3 rfl rfl dX8_open_154 ?_
                                            refine q_i2l hF h1 dX8_open_155 ?_
                                            refine q_callS (kc := 0) (ks := 0) (mc' := 0) (ms' := 0) (h' := 1) (st := []) hF sl_RX8_299 rfl [.ref (m + 3), qI ((i : Int)), qI 0, qL kd] rfl rfl (by decide) (Nat.le_of_ble_eq_true rfl) dX8_open_156 ?_
                                            refine mX8_sets (j := (1039 + 12 * i)) hS.t3 (q_Ale hSA (by omega)) (by omega) (by have := hv.many; have := hv.lands; omega) ?_
                                            refine q_aload_n hF 2 rfl rfl dX8_open_159 ?_
                                            refine q_getA hF fl_RX8_20 rfl hS.t0 hS.p9 dX8_open_160 ?_
                                            refine q_iload hF 1 rfl dX8_open_163 ?_
                                            refine q_iconst hF dX8_open_165 ?_
                                            refine q_iload_n hF 4 rfl rfl dX8_open_166 ?_
                                            refine q_i2l hF h2 dX8_open_167 ?_
                                            refine q_callS (kc := 0) (ks := 0) (mc' := 0) (ms' := 0) (h' := 1) (st := []) hF sl_RX8_299 rfl [.ref (m + 3), qI ((i : Int)), qI 1, qL ad] rfl rfl (by decide) (Nat.le_of_ble_eq_true rfl) dX8_open_168 ?_
                                            refine mX8_sets (j := (1040 + 12 * i)) hS.t3 (q_Ale hSA (by omega)) (by omega) (by have := hv.many; have := hv.lands; omega) ?_
                                            refine q_aload_n hF 2 rfl rfl dX8_open_171 ?_
                                            refine q_getA hF fl_RX8_20 rfl hS.t0 hS.p9 dX8_open_172 ?_
                                            refine q_iload hF 1 rfl dX8_open_175 ?_
                                            refine q_iconst hF dX8_open_177 ?_
                                            refine q_iload_n hF 5 rfl rfl dX8_open_178 ?_
                                            refine q_i2l hF h3 dX8_open_179 ?_
                                            refine q_callS (kc := 0) (ks := 0) (mc' := 0) (ms' := 0) (h' := 1) (st := []) hF sl_RX8_299 rfl [.ref (m + 3), qI ((i : Int)), qI 2, qL bi] rfl rfl (by decide) (Nat.le_of_ble_eq_true rfl) dX8_open_180 ?_
                                            refine mX8_sets (j := (1041 + 12 * i)) hS.t3 (q_Ale hSA (by omega)) (by omega) (by have := hv.many; have := hv.lands; omega) ?_
                                            refine q_aload_n hF 2 rfl rfl dX8_open_183 ?_
                                            refine q_getA hF fl_RX8_20 rfl hS.t0 hS.p9 dX8_open_184 ?_
                                            refine q_iload hF 1 rfl dX8_open_187 ?_
                                            refine q_iconst hF dX8_open_189 ?_
                                            refine q_iload hF 6 rfl dX8_open_190 ?_
                                            refine q_i2l hF h4 dX8_open_192 ?_
                                            refine q_callS (kc := 0) (ks := 0) (mc' := 0) (ms' := 0) (h' := 1) (st := []) hF sl_RX8_299 rfl [.ref (m + 3), qI ((i : Int)), qI 3, qL ce] rfl rfl (by decide) (Nat.le_of_ble_eq_true rfl) dX8_open_193 ?_
                                            refine mX8_sets (j := (1042 + 12 * i)) hS.t3 (q_Ale hSA (by omega)) (by omega) (by have := hv.many; have := hv.lands; omega) ?_
                                            refine q_aload_n hF 2 rfl rfl dX8_open_196 ?_
                                            refine q_getA hF fl_RX8_20 rfl hS.t0 hS.p9 dX8_open_197 ?_
                                            refine q_iload hF 1 rfl dX8_open_200 ?_
                                            refine q_bipush hF (n := 9) rfl dX8_open_202 ?_
                                            refine q_ldc2 hF (n := -1) (q_mem 1274 (by decide +kernel) rfl) dX8_open_204 ?_
                                            refine q_callS (kc := 0) (ks := 0) (mc' := 0) (ms' := 0) (h' := 1) (st := []) hF sl_RX8_299 rfl [.ref (m + 3), qI ((i : Int)), qI 9, qL (-1)] rfl rfl (by decide) (Nat.le_of_ble_eq_true rfl) dX8_open_207 ?_
                                            refine mX8_sets (j := (1048 + 12 * i)) hS.t3 (q_Ale hSA (by omega)) (by omega) (by have := hv.many; have := hv.lands; omega) ?_
                                            refine q_aload_n hF 2 rfl rfl dX8_open_210 ?_
                                            refine q_getA hF fl_RX8_20 rfl hS.t0 hS.p9 dX8_open_211 ?_
                                            refine q_iload hF 1 rfl dX8_open_214 ?_
                                            refine q_bipush hF (n := 8) rfl dX8_open_216 ?_
                                            refine q_ldc2 hF (n := -1) (q_mem 1274 (by decide +kernel) rfl) dX8_open_218 ?_
                                            refine q_callS (kc := 0) (ks := 0) (mc' := 0) (ms' := 0) (h' := 1) (st := []) hF sl_RX8_299 rfl [.ref (m + 3), qI ((i : Int)), qI 8, qL (-1)] rfl rfl (by decide) (Nat.le_of_ble_eq_true rfl) dX8_open_221 ?_
                                            refine mX8_sets (j := (1047 + 12 * i)) hS.t3 (q_Ale hSA (by omega)) (by omega) (by have := hv.many; have := hv.lands; omega) ?_
                                            refine q_aload_n hF 2 rfl rfl dX8_open_224 ?_
                                            refine q_getA hF fl_RX8_20 rfl hS.t0 hS.p9 dX8_open_225 ?_
                                            refine q_bipush hF (n := 17) rfl dX8_open_228 ?_
                                            refine q_dup2 hF rfl rfl dX8_open_230 ?_
                                            refine q_laloadv hF (z := L (m + 3) 17) (n := 1243) 17 hS.t3 rfl (by decide) (by decide) ((u2_k _ _ (by omega)).trans ((u2_k _ _ (by omega)).trans ((u2_k _ _ (by omega)).trans ((u2_k _ _ (by omega)).trans ((u2_k _ _ (by omega)).trans ((u2_k _ _ (by omega)).trans ((u2_k _ _ (by omega)).trans ((u2_k _ _ (by omega)).trans ((u2_k _ _ (by omega)).trans ((u2_k _ _ (by omega)).trans ((u2_k _ _ (by omega)).trans ((u2_k _ _ (by omega)).trans ((u2_k _ _ (by omega)).trans ((u2_k _ _ (by omega)).trans ((u2_k _ _ (by omega)).trans ((u2_k _ _ (by omega)).trans ((u2_k _ _ (by omega)).trans ((u2_k _ _ (by omega)).trans (c110_0.1 _ _ (by omega)))))))))))))))))))) dX8_open_231 ?_
                                            refine q_iload hF 6 rfl dX8_open_232 ?_
                                            refine q_i2l hF h4 dX8_open_234 ?_
                                            refine q_ladd hF dX8_open_235 ?_
                                            refine q_lastorev hF (n := 1243) 17 hS.t3 (q_Ale hSA (by omega)) rfl (by decide) (by decide) dX8_open_236 ?_
                                            refine q_aload_n hF 2 rfl rfl dX8_open_237 ?_
                                            refine q_getA hF fl_RX8_20 rfl hS.t0 hS.p9 dX8_open_238 ?_
                                            refine q_iconst hF dX8_open_241 ?_
                                            refine q_dup2 hF rfl rfl dX8_open_242 ?_
                                            refine q_laloadv hF (z := (i : Int)) (n := 1243) 1 hS.t3 rfl (by decide) (by decide) ((u2_k _ _ (by decide)).trans ((u2_k _ _ (by omega)).trans ((u2_k _ _ (by omega)).trans ((u2_k _ _ (by omega)).trans ((u2_k _ _ (by omega)).trans ((u2_k _ _ (by omega)).trans ((u2_k _ _ (by omega)).trans ((u2_k _ _ (by omega)).trans ((u2_k _ _ (by omega)).trans ((u2_k _ _ (by omega)).trans ((u2_k _ _ (by omega)).trans ((u2_k _ _ (by omega)).trans ((u2_k _ _ (by omega)).trans ((u2_k _ _ (by omega)).trans ((u2_k _ _ (by omega)).trans ((u2_k _ _ (by omega)).trans ((u2_k _ _ (by omega)).trans ((u2_k _ _ (by omega)).trans ((u2_k _ _ (by omega)).trans ((c110_0.1 _ _ (by omega)).trans hmn)))))))))))))))))))) dX8_open_243 ?_
                                            refine q_lconst hF (z := 1) rfl dX8_open_244 ?_
                                            refine q_ladd hF dX8_open_245 ?_
                                            refine q_lastorev hF (n := 1243) 1 hS.t3 (q_Ale hSA (by omega)) rfl (by decide) (by decide) dX8_open_246 ?_
                                            refine q_iload hF 1 rfl dX8_open_247 ?_
                                            refine q_ireturn hF rfl dX8_open_249 ?_
                                            have e3 : LR (m + 3) = L (m + 3) := funext fun k => c110_0.1 _ k (by omega)
                                            have q := k0 LR (by omega) (by omega) (by omega) c110_0
                                            rw [show u2 (u2 (u2 (u2 (u2 (u2 (u2 (u2 (u2 (u2 (u2 (u2 (u2 (u2 (u2 (u2 (u2 (u2 (u2 (u2 LR (m + 3) (1039 + 12 * i) 0) (m + 3) (1040 + 12 * i) 0) (m + 3) (1041 + 12 * i) 0) (m + 3) (1042 + 12 * i) 0) (m + 3) (1043 + 12 * i) 0) (m + 3) (1044 + 12 * i) 0) (m + 3) (1045 + 12 * i) 0) (m + 3) (1046 + 12 * i) 0) (m + 3) (1047 + 12 * i) 0) (m + 3) (1048 + 12 * i) 0) (m + 3) (1049 + 12 * i) 0) (m + 3) (1050 + 12 * i) 0) (m + 3) (1039 + 12 * i) kd) (m + 3) (1040 + 12 * i) ad) (m + 3) (1041 + 12 * i) bi) (m + 3) (1042 + 12 * i) ce) (m + 3) (1048 + 12 * i) (-1)) (m + 3) (1047 + 12 * i) (-1)) (m + 3) 17 ((L (m + 3) 17) + ce)) (m + 3) 1 ((i : Int) + 1) = q_row LR (m + 3) (g_oopen (L (m + 3)) i kd ad bi ce) from by rw [q_row_u1 LR, q_row_u, q_row_u, q_row_u, q_row_u, q_row_u, q_row_u, q_row_u, q_row_u, q_row_u, q_row_u, q_row_u, q_row_u, q_row_u, q_row_u, q_row_u, q_row_u, q_row_u, q_row_u, q_row_u, e3]; rfl]
                                            exact q
                                          · exact absurd c126 (by decide)
                · exact absurd c104 (by decide)
              · refine q_iconst hF dX8_open_94 ?_
                refine q_goto hF dX8_open_95 ?_
                refine q_iconst hF dX8_open_99 ?_
                refine q_iconst hF dX8_open_100 ?_
                refine q_callV (kc := 0) (ks := 0) (mc' := 0) (ms' := 0) (h' := 0) (st := []) hF vl_RX8_251 rfl [qI 1, qI 3, qI 2] rfl rfl hS.t0 (by decide) (Nat.le_of_ble_eq_true rfl) dX8_open_101 ?_
                refine mX8_bad1 (j := 2) hS hSA (u2_s _ _ _ _) (by omega) rfl (by decide) ?_
                rw [show (u2 I m 0 0) (m + 1) 2 = I (m + 1) 2 from (u2_k _ _ (by decide))]
                refine q_ifeq hF (by decide) dX8_open_104 (fun c104 => ?_) (fun c104 => ?_)
                · exact absurd c104 (by decide)
                · refine q_iconst hF dX8_open_107 ?_
                  refine q_ireturn hF rfl dX8_open_108 ?_
                  exact k3 (by omega) (by omega) (by omega)
          · refine q_iconst hF dX8_open_71 ?_
            refine q_goto hF dX8_open_72 ?_
            refine q_iconst hF dX8_open_76 ?_
            refine q_iconst hF dX8_open_77 ?_
            refine q_callV (kc := 0) (ks := 0) (mc' := 0) (ms' := 0) (h' := 0) (st := []) hF vl_RX8_251 rfl [qI 1, qI 2, qI 1] rfl rfl hS.t0 (by decide) (Nat.le_of_ble_eq_true rfl) dX8_open_78 ?_
            refine mX8_bad1 (j := 1) hS hSA (u2_s _ _ _ _) (by omega) rfl (by decide) ?_
            rw [show (u2 I m 0 0) (m + 1) 1 = I (m + 1) 1 from (u2_k _ _ (by decide))]
            refine q_ifne hF (by decide) dX8_open_81 (fun c81 => ?_) (fun c81 => ?_)
            · refine q_iconst hF dX8_open_107 ?_
              refine q_ireturn hF rfl dX8_open_108 ?_
              exact k2 (by omega) (by omega)
            · exact absurd c81 (by decide)
    · refine q_aload_n hF 0 rfl rfl dX8_open_24 ?_
      refine q_iload_n hF 3 rfl rfl dX8_open_25 ?_
      refine q_callV (kc := 0) (ks := 0) (mc' := 0) (ms' := 0) (h' := 1) (st := [.ref m]) hF vl_RX8_343 rfl [qI bi] rfl rfl hS.t0 (by decide) (Nat.le_of_ble_eq_true rfl) dX8_open_26 ?_
      refine mX8_isLand hS hv h3 ?_
      refine q_ifne_b hF dX8_open_29 (fun c29 => ?_) (fun c29 => ?_)
      · refine q_iconst hF dX8_open_36 ?_
        refine q_iconst hF dX8_open_37 ?_
        refine q_iconst hF dX8_open_38 ?_
        refine q_callV (kc := 0) (ks := 0) (mc' := 0) (ms' := 0) (h' := 0) (st := []) hF vl_RX8_251 rfl [qI 0, qI 1, qI 0] rfl rfl hS.t0 (by decide) (Nat.le_of_ble_eq_true rfl) dX8_open_39 ?_
        refine mX8_bad0 hS hSA (u2_s _ _ _ _) ?_
        refine q_ifne hF (by decide) dX8_open_42 (fun c42 => ?_) (fun c42 => ?_)
        · exact absurd c42 (by decide)
        · refine q_aload_n hF 0 rfl rfl dX8_open_45 ?_
          refine q_iload_n hF 1 rfl rfl dX8_open_46 ?_
          refine q_i2l hF h1 dX8_open_47 ?_
          refine q_lconst hF (z := 0) rfl dX8_open_48 ?_
          refine q_ldc2 hF (n := 4) (q_mem 1529 (by decide +kernel) rfl) dX8_open_49 ?_
          refine q_callS (kc := 0) (ks := 0) (mc' := 0) (ms' := 0) (h' := 0) (st := [.ref m]) hF sl_RX8_123 rfl [qL kd, qL 0, qL 4] rfl rfl (by decide) (Nat.le_of_ble_eq_true rfl) dX8_open_52 ?_
          refine mX8_in (by omega) (by decide) (by decide) ?_
          refine q_ifeq_b hF dX8_open_55 (fun c55 => ?_) (fun c55 => ?_)
          · refine q_iconst hF dX8_open_71 ?_
            refine q_goto hF dX8_open_72 ?_
            refine q_iconst hF dX8_open_76 ?_
            refine q_iconst hF dX8_open_77 ?_
            refine q_callV (kc := 0) (ks := 0) (mc' := 0) (ms' := 0) (h' := 0) (st := []) hF vl_RX8_251 rfl [qI 1, qI 2, qI 1] rfl rfl hS.t0 (by decide) (Nat.le_of_ble_eq_true rfl) dX8_open_78 ?_
            refine mX8_bad1 (j := 1) hS hSA (u2_s _ _ _ _) (by omega) rfl (by decide) ?_
            rw [show (u2 I m 0 0) (m + 1) 1 = I (m + 1) 1 from (u2_k _ _ (by decide))]
            refine q_ifne hF (by decide) dX8_open_81 (fun c81 => ?_) (fun c81 => ?_)
            · refine q_iconst hF dX8_open_107 ?_
              refine q_ireturn hF rfl dX8_open_108 ?_
              exact k2 (by omega) (by omega)
            · exact absurd c81 (by decide)
          · refine q_iload hF 4 rfl dX8_open_58 ?_
            refine q_i2l hF h4 dX8_open_60 ?_
            refine q_lconst hF (z := 0) rfl dX8_open_61 ?_
            refine q_ldc2 hF (n := 100000000) (q_mem 1530 (by decide +kernel) rfl) dX8_open_62 ?_
            refine q_callS (kc := 0) (ks := 0) (mc' := 0) (ms' := 0) (h' := 0) (st := [.ref m]) hF sl_RX8_123 rfl [qL ce, qL 0, qL 100000000] rfl rfl (by decide) (Nat.le_of_ble_eq_true rfl) dX8_open_65 ?_
            refine mX8_in (by omega) (by decide) (by decide) ?_
            refine q_ifne_b hF dX8_open_68 (fun c68 => ?_) (fun c68 => ?_)
            · refine q_iconst hF dX8_open_75 ?_
              refine q_iconst hF dX8_open_76 ?_
              refine q_iconst hF dX8_open_77 ?_
              refine q_callV (kc := 0) (ks := 0) (mc' := 0) (ms' := 0) (h' := 0) (st := []) hF vl_RX8_251 rfl [qI 0, qI 2, qI 1] rfl rfl hS.t0 (by decide) (Nat.le_of_ble_eq_true rfl) dX8_open_78 ?_
              refine mX8_bad0 hS hSA (u2_s _ _ _ _) ?_
              refine q_ifne hF (by decide) dX8_open_81 (fun c81 => ?_) (fun c81 => ?_)
              · exact absurd c81 (by decide)
              · refine q_aload_n hF 0 rfl rfl dX8_open_84 ?_
                refine q_aload_n hF 0 rfl rfl dX8_open_85 ?_
                refine q_callV (kc := 0) (ks := 0) (mc' := 0) (ms' := 0) (h' := 0) (st := [.ref m]) hF vl_RX8_337 rfl [] rfl rfl hS.t0 (by decide) (Nat.le_of_ble_eq_true rfl) dX8_open_86 ?_
                refine mX8_many hS ?_
                rw [show L (m + 3) 1 = (i : Int) from hmn]
                refine q_bipush hF (n := 12) rfl dX8_open_89 ?_
                refine q_icmpne hF (by omega) (by decide) dX8_open_91 (fun c91 => ?_) (fun c91 => ?_)
                · refine q_iconst hF dX8_open_98 ?_
                  refine q_iconst hF dX8_open_99 ?_
                  refine q_iconst hF dX8_open_100 ?_
                  refine q_callV (kc := 0) (ks := 0) (mc' := 0) (ms' := 0) (h' := 0) (st := []) hF vl_RX8_251 rfl [qI 0, qI 3, qI 2] rfl rfl hS.t0 (by decide) (Nat.le_of_ble_eq_true rfl) dX8_open_101 ?_
                  refine mX8_bad0 hS hSA (u2_s _ _ _ _) ?_
                  refine q_ifeq hF (by decide) dX8_open_104 (fun c104 => ?_) (fun c104 => ?_)
                  · refine q_aload_n hF 0 rfl rfl dX8_open_109 ?_
                    refine q_callV (kc := 0) (ks := 0) (mc' := 0) (ms' := 0) (h' := 2) (st := []) hF vl_RX8_258 rfl [] rfl rfl hS.t0 (by decide) (Nat.le_of_ble_eq_true rfl) dX8_open_110 ?_
                    refine mX8_remembers (bk := bk) hS hSA (((u2_k _ _ (by decide)).trans hb)) (by omega) hz (fun LR c110_0 => ?_)
                    refine q_aload_n hF 0 rfl rfl dX8_open_113 ?_
                    refine q_callV (kc := 0) (ks := 0) (mc' := 0) (ms' := 0) (h' := 0) (st := []) hF vl_RX8_337 rfl [] rfl rfl hS.t0 (by decide) (Nat.le_of_ble_eq_true rfl) dX8_open_114 ?_
                    refine mX8_many hS ?_
                    rw [show LR (m + 3) 1 = (i : Int) from ((c110_0.1 _ _ (by omega)).trans hmn)]
                    refine q_istore hF (ls' := [(5, qI ((i : Int))), (0, .ref m), (1, qI kd), (2, qI ad), (3, qI bi), (4, qI ce)]) (by decide) rfl dX8_open_117 ?_
                    refine q_iconst hF dX8_open_119 ?_
                    refine q_istore hF (ls' := [(6, qI 0), (5, qI ((i : Int))), (0, .ref m), (1, qI kd), (2, qI ad), (3, qI bi), (4, qI ce)]) (by decide) rfl dX8_open_120 ?_
                    refine q_iload hF 0 rfl dX8_open_122 ?_
                    refine q_bipush hF (n := 12) rfl dX8_open_124 ?_
                    refine q_icmpge hF (by decide) (by decide) dX8_open_126 (fun c126 => ?_) (fun c126 => ?_)
                    · exact absurd c126 (by decide)
                    · refine q_aload_n hF 2 rfl rfl dX8_open_129 ?_
                      refine q_getA hF fl_RX8_20 rfl hS.t0 hS.p9 dX8_open_130 ?_
                      refine q_iload hF 1 rfl dX8_open_133 ?_
                      refine q_iload hF 0 rfl dX8_open_135 ?_
                      refine q_lconst hF (z := 0) rfl dX8_open_137 ?_
                      refine q_callS (kc := 0) (ks := 0) (mc' := 0) (ms' := 0) (h' := 1) (st := []) hF sl_RX8_299 rfl [.ref (m + 3), qI ((i : Int)), qI 0, qL 0] rfl rfl (by decide) (Nat.le_of_ble_eq_true rfl) dX8_open_138 ?_
                      refine mX8_sets (j := (1039 + 12 * i)) hS.t3 (q_Ale hSA (by omega)) (by omega) (by have := hv.many; have := hv.lands; omega) ?_
                      refine q_iinc hF (z' := 1) (ls' := [(6, qI 1), (5, qI ((i : Int))), (0, .ref m), (1, qI kd), (2, qI ad), (3, qI bi), (4, qI ce)]) 0 rfl (by first | rfl | omega) (by decide) rfl dX8_open_141 ?_
                      refine q_goto hF dX8_open_144 ?_
                      refine q_iload hF 0 rfl dX8_open_122 ?_
                      refine q_bipush hF (n := 12) rfl dX8_open_124 ?_
                      refine q_icmpge hF (by decide) (by decide) dX8_open_126 (fun c126 => ?_) (fun c126 => ?_)
                      · exact absurd c126 (by decide)
                      · refine q_aload_n hF 2 rfl rfl dX8_open_129 ?_
                        refine q_getA hF fl_RX8_20 rfl hS.t0 hS.p9 dX8_open_130 ?_
                        refine q_iload hF 1 rfl dX8_open_133 ?_
                        refine q_iload hF 0 rfl dX8_open_135 ?_
                        refine q_lconst hF (z := 0) rfl dX8_open_137 ?_
                        refine q_callS (kc := 0) (ks := 0) (mc' := 0) (ms' := 0) (h' := 1) (st := []) hF sl_RX8_299 rfl [.ref (m + 3), qI ((i : Int)), qI 1, qL 0] rfl rfl (by decide) (Nat.le_of_ble_eq_true rfl) dX8_open_138 ?_
                        refine mX8_sets (j := (1040 + 12 * i)) hS.t3 (q_Ale hSA (by omega)) (by omega) (by have := hv.many; have := hv.lands; omega) ?_
                        refine q_iinc hF (z' := 2) (ls' := [(6, qI 2), (5, qI ((i : Int))), (0, .ref m), (1, qI kd), (2, qI ad), (3, qI bi), (4, qI ce)]) 0 rfl (by first | rfl | omega) (by decide) rfl dX8_open_141 ?_
                        refine q_goto hF dX8_open_144 ?_
                        refine q_iload hF 0 rfl dX8_open_122 ?_
                        refine q_bipush hF (n := 12) rfl dX8_open_124 ?_
                        refine q_icmpge hF (by decide) (by decide) dX8_open_126 (fun c126 => ?_) (fun c126 => ?_)
                        · exact absurd c126 (by decide)
                        · refine q_aload_n hF 2 rfl rfl dX8_open_129 ?_
                          refine q_getA hF fl_RX8_20 rfl hS.t0 hS.p9 dX8_open_130 ?_
                          refine q_iload hF 1 rfl dX8_open_133 ?_
                          refine q_iload hF 0 rfl dX8_open_135 ?_
                          refine q_lconst hF (z := 0) rfl dX8_open_137 ?_
                          refine q_callS (kc := 0) (ks := 0) (mc' := 0) (ms' := 0) (h' := 1) (st := []) hF sl_RX8_299 rfl [.ref (m + 3), qI ((i : Int)), qI 2, qL 0] rfl rfl (by decide) (Nat.le_of_ble_eq_true rfl) dX8_open_138 ?_
                          refine mX8_sets (j := (1041 + 12 * i)) hS.t3 (q_Ale hSA (by omega)) (by omega) (by have := hv.many; have := hv.lands; omega) ?_
                          refine q_iinc hF (z' := 3) (ls' := [(6, qI 3), (5, qI ((i : Int))), (0, .ref m), (1, qI kd), (2, qI ad), (3, qI bi), (4, qI ce)]) 0 rfl (by first | rfl | omega) (by decide) rfl dX8_open_141 ?_
                          refine q_goto hF dX8_open_144 ?_
                          refine q_iload hF 0 rfl dX8_open_122 ?_
                          refine q_bipush hF (n := 12) rfl dX8_open_124 ?_
                          refine q_icmpge hF (by decide) (by decide) dX8_open_126 (fun c126 => ?_) (fun c126 => ?_)
                          · exact absurd c126 (by decide)
                          · refine q_aload_n hF 2 rfl rfl dX8_open_129 ?_
                            refine q_getA hF fl_RX8_20 rfl hS.t0 hS.p9 dX8_open_130 ?_
                            refine q_iload hF 1 rfl dX8_open_133 ?_
                            refine q_iload hF 0 rfl dX8_open_135 ?_
                            refine q_lconst hF (z := 0) rfl dX8_open_137 ?_
                            refine q_callS (kc := 0) (ks := 0) (mc' := 0) (ms' := 0) (h' := 1) (st := []) hF sl_RX8_299 rfl [.ref (m + 3), qI ((i : Int)), qI 3, qL 0] rfl rfl (by decide) (Nat.le_of_ble_eq_true rfl) dX8_open_138 ?_
                            refine mX8_sets (j := (1042 + 12 * i)) hS.t3 (q_Ale hSA (by omega)) (by omega) (by have := hv.many; have := hv.lands; omega) ?_
                            refine q_iinc hF (z' := 4) (ls' := [(6, qI 4), (5, qI ((i : Int))), (0, .ref m), (1, qI kd), (2, qI ad), (3, qI bi), (4, qI ce)]) 0 rfl (by first | rfl | omega) (by decide) rfl dX8_open_141 ?_
                            refine q_goto hF dX8_open_144 ?_
                            refine q_iload hF 0 rfl dX8_open_122 ?_
                            refine q_bipush hF (n := 12) rfl dX8_open_124 ?_
                            refine q_icmpge hF (by decide) (by decide) dX8_open_126 (fun c126 => ?_) (fun c126 => ?_)
                            · exact absurd c126 (by decide)
                            · refine q_aload_n hF 2 rfl rfl dX8_open_129 ?_
                              refine q_getA hF fl_RX8_20 rfl hS.t0 hS.p9 dX8_open_130 ?_
                              refine q_iload hF 1 rfl dX8_open_133 ?_
                              refine q_iload hF 0 rfl dX8_open_135 ?_
                              refine q_lconst hF (z := 0) rfl dX8_open_137 ?_
                              refine q_callS (kc := 0) (ks := 0) (mc' := 0) (ms' := 0) (h' := 1) (st := []) hF sl_RX8_299 rfl [.ref (m + 3), qI ((i : Int)), qI 4, qL 0] rfl rfl (by decide) (Nat.le_of_ble_eq_true rfl) dX8_open_138 ?_
                              refine mX8_sets (j := (1043 + 12 * i)) hS.t3 (q_Ale hSA (by omega)) (by omega) (by have := hv.many; have := hv.lands; omega) ?_
                              refine q_iinc hF (z' := 5) (ls' := [(6, qI 5), (5, qI ((i : Int))), (0, .ref m), (1, qI kd), (2, qI ad), (3, qI bi), (4, qI ce)]) 0 rfl (by first | rfl | omega) (by decide) rfl dX8_open_141 ?_
                              refine q_goto hF dX8_open_144 ?_
                              refine q_iload hF 0 rfl dX8_open_122 ?_
                              refine q_bipush hF (n := 12) rfl dX8_open_124 ?_
                              refine q_icmpge hF (by decide) (by decide) dX8_open_126 (fun c126 => ?_) (fun c126 => ?_)
                              · exact absurd c126 (by decide)
                              · refine q_aload_n hF 2 rfl rfl dX8_open_129 ?_
                                refine q_getA hF fl_RX8_20 rfl hS.t0 hS.p9 dX8_open_130 ?_
                                refine q_iload hF 1 rfl dX8_open_133 ?_
                                refine q_iload hF 0 rfl dX8_open_135 ?_
                                refine q_lconst hF (z := 0) rfl dX8_open_137 ?_
                                refine q_callS (kc := 0) (ks := 0) (mc' := 0) (ms' := 0) (h' := 1) (st := []) hF sl_RX8_299 rfl [.ref (m + 3), qI ((i : Int)), qI 5, qL 0] rfl rfl (by decide) (Nat.le_of_ble_eq_true rfl) dX8_open_138 ?_
                                refine mX8_sets (j := (1044 + 12 * i)) hS.t3 (q_Ale hSA (by omega)) (by omega) (by have := hv.many; have := hv.lands; omega) ?_
                                refine q_iinc hF (z' := 6) (ls' := [(6, qI 6), (5, qI ((i : Int))), (0, .ref m), (1, qI kd), (2, qI ad), (3, qI bi), (4, qI ce)]) 0 rfl (by first | rfl | omega) (by decide) rfl dX8_open_141 ?_
                                refine q_goto hF dX8_open_144 ?_
                                refine q_iload hF 0 rfl dX8_open_122 ?_
                                refine q_bipush hF (n := 12) rfl dX8_open_124 ?_
                                refine q_icmpge hF (by decide) (by decide) dX8_open_126 (fun c126 => ?_) (fun c126 => ?_)
                                · exact absurd c126 (by decide)
                                · refine q_aload_n hF 2 rfl rfl dX8_open_129 ?_
                                  refine q_getA hF fl_RX8_20 rfl hS.t0 hS.p9 dX8_open_130 ?_
                                  refine q_iload hF 1 rfl dX8_open_133 ?_
                                  refine q_iload hF 0 rfl dX8_open_135 ?_
                                  refine q_lconst hF (z := 0) rfl dX8_open_137 ?_
                                  refine q_callS (kc := 0) (ks := 0) (mc' := 0) (ms' := 0) (h' := 1) (st := []) hF sl_RX8_299 rfl [.ref (m + 3), qI ((i : Int)), qI 6, qL 0] rfl rfl (by decide) (Nat.le_of_ble_eq_true rfl) dX8_open_138 ?_
                                  refine mX8_sets (j := (1045 + 12 * i)) hS.t3 (q_Ale hSA (by omega)) (by omega) (by have := hv.many; have := hv.lands; omega) ?_
                                  refine q_iinc hF (z' := 7) (ls' := [(6, qI 7), (5, qI ((i : Int))), (0, .ref m), (1, qI kd), (2, qI ad), (3, qI bi), (4, qI ce)]) 0 rfl (by first | rfl | omega) (by decide) rfl dX8_open_141 ?_
                                  refine q_goto hF dX8_open_144 ?_
                                  refine q_iload hF 0 rfl dX8_open_122 ?_
                                  refine q_bipush hF (n := 12) rfl dX8_open_124 ?_
                                  refine q_icmpge hF (by decide) (by decide) dX8_open_126 (fun c126 => ?_) (fun c126 => ?_)
                                  · exact absurd c126 (by decide)
                                  · refine q_aload_n hF 2 rfl rfl dX8_open_129 ?_
                                    refine q_getA hF fl_RX8_20 rfl hS.t0 hS.p9 dX8_open_130 ?_
                                    refine q_iload hF 1 rfl dX8_open_133 ?_
                                    refine q_iload hF 0 rfl dX8_open_135 ?_
                                    refine q_lconst hF (z := 0) rfl dX8_open_137 ?_
                                    refine q_callS (kc := 0) (ks := 0) (mc' := 0) (ms' := 0) (h' := 1) (st := []) hF sl_RX8_299 rfl [.ref (m + 3), qI ((i : Int)), qI 7, qL 0] rfl rfl (by decide) (Nat.le_of_ble_eq_true rfl) dX8_open_138 ?_
                                    refine mX8_sets (j := (1046 + 12 * i)) hS.t3 (q_Ale hSA (by omega)) (by omega) (by have := hv.many; have := hv.lands; omega) ?_
                                    refine q_iinc hF (z' := 8) (ls' := [(6, qI 8), (5, qI ((i : Int))), (0, .ref m), (1, qI kd), (2, qI ad), (3, qI bi), (4, qI ce)]) 0 rfl (by first | rfl | omega) (by decide) rfl dX8_open_141 ?_
                                    refine q_goto hF dX8_open_144 ?_
                                    refine q_iload hF 0 rfl dX8_open_122 ?_
                                    refine q_bipush hF (n := 12) rfl dX8_open_124 ?_
                                    refine q_icmpge hF (by decide) (by decide) dX8_open_126 (fun c126 => ?_) (fun c126 => ?_)
                                    · exact absurd c126 (by decide)
                                    · refine q_aload_n hF 2 rfl rfl dX8_open_129 ?_
                                      refine q_getA hF fl_RX8_20 rfl hS.t0 hS.p9 dX8_open_130 ?_
                                      refine q_iload hF 1 rfl dX8_open_133 ?_
                                      refine q_iload hF 0 rfl dX8_open_135 ?_
                                      refine q_lconst hF (z := 0) rfl dX8_open_137 ?_
                                      refine q_callS (kc := 0) (ks := 0) (mc' := 0) (ms' := 0) (h' := 1) (st := []) hF sl_RX8_299 rfl [.ref (m + 3), qI ((i : Int)), qI 8, qL 0] rfl rfl (by decide) (Nat.le_of_ble_eq_true rfl) dX8_open_138 ?_
                                      refine mX8_sets (j := (1047 + 12 * i)) hS.t3 (q_Ale hSA (by omega)) (by omega) (by have := hv.many; have := hv.lands; omega) ?_
                                      refine q_iinc hF (z' := 9) (ls' := [(6, qI 9), (5, qI ((i : Int))), (0, .ref m), (1, qI kd), (2, qI ad), (3, qI bi), (4, qI ce)]) 0 rfl (by first | rfl | omega) (by decide) rfl dX8_open_141 ?_
                                      refine q_goto hF dX8_open_144 ?_
                                      refine q_iload hF 0 rfl dX8_open_122 ?_
                                      refine q_bipush hF (n := 12) rfl dX8_open_124 ?_
                                      refine q_icmpge hF (by decide) (by decide) dX8_open_126 (fun c126 => ?_) (fun c126 => ?_)
                                      · exact absurd c126 (by decide)
                                      · refine q_aload_n hF 2 rfl rfl dX8_open_129 ?_
                                        refine q_getA hF fl_RX8_20 rfl hS.t0 hS.p9 dX8_open_130 ?_
                                        refine q_iload hF 1 rfl dX8_open_133 ?_
                                        refine q_iload hF 0 rfl dX8_open_135 ?_
                                        refine q_lconst hF (z := 0) rfl dX8_open_137 ?_
                                        refine q_callS (kc := 0) (ks := 0) (mc' := 0) (ms' := 0) (h' := 1) (st := []) hF sl_RX8_299 rfl [.ref (m + 3), qI ((i : Int)), qI 9, qL 0] rfl rfl (by decide) (Nat.le_of_ble_eq_true rfl) dX8_open_138 ?_
                                        refine mX8_sets (j := (1048 + 12 * i)) hS.t3 (q_Ale hSA (by omega)) (by omega) (by have := hv.many; have := hv.lands; omega) ?_
                                        refine q_iinc hF (z' := 10) (ls' := [(6, qI 10), (5, qI ((i : Int))), (0, .ref m), (1, qI kd), (2, qI ad), (3, qI bi), (4, qI ce)]) 0 rfl (by first | rfl | omega) (by decide) rfl dX8_open_141 ?_
                                        refine q_goto hF dX8_open_144 ?_
                                        refine q_iload hF 0 rfl dX8_open_122 ?_
                                        refine q_bipush hF (n := 12) rfl dX8_open_124 ?_
                                        refine q_icmpge hF (by decide) (by decide) dX8_open_126 (fun c126 => ?_) (fun c126 => ?_)
                                        · exact absurd c126 (by decide)
                                        · refine q_aload_n hF 2 rfl rfl dX8_open_129 ?_
                                          refine q_getA hF fl_RX8_20 rfl hS.t0 hS.p9 dX8_open_130 ?_
                                          refine q_iload hF 1 rfl dX8_open_133 ?_
                                          refine q_iload hF 0 rfl dX8_open_135 ?_
                                          refine q_lconst hF (z := 0) rfl dX8_open_137 ?_
                                          refine q_callS (kc := 0) (ks := 0) (mc' := 0) (ms' := 0) (h' := 1) (st := []) hF sl_RX8_299 rfl [.ref (m + 3), qI ((i : Int)), qI 10, qL 0] rfl rfl (by decide) (Nat.le_of_ble_eq_true rfl) dX8_open_138 ?_
                                          refine mX8_sets (j := (1049 + 12 * i)) hS.t3 (q_Ale hSA (by omega)) (by omega) (by have := hv.many; have := hv.lands; omega) ?_
                                          refine q_iinc hF (z' := 11) (ls' := [(6, qI 11), (5, qI ((i : Int))), (0, .ref m), (1, qI kd), (2, qI ad), (3, qI bi), (4, qI ce)]) 0 rfl (by first | rfl | omega) (by decide) rfl dX8_open_141 ?_
                                          refine q_goto hF dX8_open_144 ?_
                                          refine q_iload hF 0 rfl dX8_open_122 ?_
                                          refine q_bipush hF (n := 12) rfl dX8_open_124 ?_
                                          refine q_icmpge hF (by decide) (by decide) dX8_open_126 (fun c126 => ?_) (fun c126 => ?_)
                                          · exact absurd c126 (by decide)
                                          · refine q_aload_n hF 2 rfl rfl dX8_open_129 ?_
                                            refine q_getA hF fl_RX8_20 rfl hS.t0 hS.p9 dX8_open_130 ?_
                                            refine q_iload hF 1 rfl dX8_open_133 ?_
                                            refine q_iload hF 0 rfl dX8_open_135 ?_
                                            refine q_lconst hF (z := 0) rfl dX8_open_137 ?_
                                            refine q_callS (kc := 0) (ks := 0) (mc' := 0) (ms' := 0) (h' := 1) (st := []) hF sl_RX8_299 rfl [.ref (m + 3), qI ((i : Int)), qI 11, qL 0] rfl rfl (by decide) (Nat.le_of_ble_eq_true rfl) dX8_open_138 ?_
                                            refine mX8_sets (j := (1050 + 12 * i)) hS.t3 (q_Ale hSA (by omega)) (by omega) (by have := hv.many; have := hv.lands; omega) ?_
                                            refine q_iinc hF (z' := 12) (ls' := [(6, qI 12), (5, qI ((i : Int))), (0, .ref m), (1, qI kd), (2, qI ad), (3, qI bi), (4, qI ce)]) 0 rfl (by first | rfl | omega) (by decide) rfl dX8_open_141 ?_
                                            refine q_goto hF dX8_open_144 ?_
                                            refine q_iload hF 0 rfl dX8_open_122 ?_
                                            refine q_bipush hF (n := 12) rfl dX8_open_124 ?_
                                            refine q_icmpge hF (by decide) (by decide) dX8_open_126 (fun c126 => ?_) (fun c126 => ?_)
                                            · refine q_aload_n hF 2 rfl rfl dX8_open_147 ?_
                                              refine q_getA hF fl_RX8_20 rfl hS.t0 hS.p9 dX8_open_148 ?_
                                              refine q_iload hF 1 rfl dX8_open_151 ?_
                                              refine q_iconst hF dX8_open_153 ?_
                                              refine q_iload_n hF 3 rfl rfl dX8_open_154 ?_
                                              refine q_i2l hF h1 dX8_open_155 ?_
                                              refine q_callS (kc := 0) (ks := 0) (mc' := 0) (ms' := 0) (h' := 1) (st := []) hF sl_RX8_299 rfl [.ref (m + 3), qI ((i : Int)), qI 0, qL kd] rfl rfl (by decide) (Nat.le_of_ble_eq_true rfl) dX8_open_156 ?_
                                              refine mX8_sets (j := (1039 + 12 * i)) hS.t3 (q_Ale hSA (by omega)) (by omega) (by have := hv.many; have := hv.lands; omega) ?_
                                              refine q_aload_n hF 2 rfl rfl dX8_open_159 ?_
                                              refine q_getA hF fl_RX8_20 rfl hS.t0 hS.p9 dX8_open_160 ?_
                                              refine q_iload hF 1 rfl dX8_open_163 ?_
                                              refine q_iconst hF dX8_open_165 ?_
                                              refine q_iload_n hF 4 rfl rfl dX8_open_166 ?_
                                              refine q_i2l hF h2 dX8_open_167 ?_
                                              refine q_callS (kc := 0) (ks := 0) (mc' := 0) (ms' := 0) (h' := 1) (st := []) hF sl_RX8_299 rfl [.ref (m + 3), qI ((i : Int)), qI 1, qL ad] rfl rfl (by decide) (Nat.le_of_ble_eq_true rfl) dX8_open_168 ?_
                                              refine mX8_sets (j := (1040 + 12 * i)) hS.t3 (q_Ale hSA (by omega)) (by omega) (by have := hv.many; have := hv.lands; omega) ?_
                                              refine q_aload_n hF 2 rfl rfl dX8_open_171 ?_
                                              refine q_getA hF fl_RX8_20 rfl hS.t0 hS.p9 dX8_open_172 ?_
                                              refine q_iload hF 1 rfl dX8_open_175 ?_
                                              refine q_iconst hF dX8_open_177 ?_
                                              refine q_iload_n hF 5 rfl rfl dX8_open_178 ?_
                                              refine q_i2l hF h3 dX8_open_179 ?_
                                              refine q_callS (kc := 0) (ks := 0) (mc' := 0) (ms' := 0) (h' := 1) (st := []) hF sl_RX8_299 rfl [.ref (m + 3), qI ((i : Int)), qI 2, qL bi] rfl rfl (by decide) (Nat.le_of_ble_eq_true rfl) dX8_open_180 ?_
                                              refine mX8_sets (j := (1041 + 12 * i)) hS.t3 (q_Ale hSA (by omega)) (by omega) (by have := hv.many; have := hv.lands; omega) ?_
                                              refine q_aload_n hF 2 rfl rfl dX8_open_183 ?_
                                              refine q_getA hF fl_RX8_20 rfl hS.t0 hS.p9 dX8_open_184 ?_
                                              refine q_iload hF 1 rfl dX8_open_187 ?_
                                              refine q_iconst hF dX8_open_189 ?_
                                              refine q_iload hF 6 rfl dX8_open_190 ?_
                                              refine q_i2l hF h4 dX8_open_192 ?_
                                              refine q_callS (kc := 0) (ks := 0) (mc' := 0) (ms' := 0) (h' := 1) (st := []) hF sl_RX8_299 rfl [.ref (m + 3), qI ((i : Int)), qI 3, qL ce] rfl rfl (by decide) (Nat.le_of_ble_eq_true rfl) dX8_open_193 ?_
                                              refine mX8_sets (j := (1042 + 12 * i)) hS.t3 (q_Ale hSA (by omega)) (by omega) (by have := hv.many; have := hv.lands; omega) ?_
                                              refine q_aload_n hF 2 rfl rfl dX8_open_196 ?_
                                              refine q_getA hF fl_RX8_20 rfl hS.t0 hS.p9 dX8_open_197 ?_
                                              refine q_iload hF 1 rfl dX8_open_200 ?_
                                              refine q_bipush hF (n := 9) rfl dX8_open_202 ?_
                                              refine q_ldc2 hF (n := -1) (q_mem 1274 (by decide +kernel) rfl) dX8_open_204 ?_
                                              refine q_callS (kc := 0) (ks := 0) (mc' := 0) (ms' := 0) (h' := 1) (st := []) hF sl_RX8_299 rfl [.ref (m + 3), qI ((i : Int)), qI 9, qL (-1)] rfl rfl (by decide) (Nat.le_of_ble_eq_true rfl) dX8_open_207 ?_
                                              refine mX8_sets (j := (1048 + 12 * i)) hS.t3 (q_Ale hSA (by omega)) (by omega) (by have := hv.many; have := hv.lands; omega) ?_
                                              refine q_aload_n hF 2 rfl rfl dX8_open_210 ?_
                                              refine q_getA hF fl_RX8_20 rfl hS.t0 hS.p9 dX8_open_211 ?_
                                              refine q_iload hF 1 rfl dX8_open_214 ?_
                                              refine q_bipush hF (n := 8) rfl dX8_open_216 ?_
                                              refine q_ldc2 hF (n := -1) (q_mem 1274 (by decide +kernel) rfl) dX8_open_218 ?_
                                              refine q_callS (kc := 0) (ks := 0) (mc' := 0) (ms' := 0) (h' := 1) (st := []) hF sl_RX8_299 rfl [.ref (m + 3), qI ((i : Int)), qI 8, qL (-1)] rfl rfl (by decide) (Nat.le_of_ble_eq_true rfl) dX8_open_221 ?_
                                              refine mX8_sets (j := (1047 + 12 * i)) hS.t3 (q_Ale hSA (by omega)) (by omega) (by have := hv.many; have := hv.lands; omega) ?_
                                              refine q_aload_n hF 2 rfl rfl dX8_open_224 ?_
                                              refine q_getA hF fl_RX8_20 rfl hS.t0 hS.p9 dX8_open_225 ?_
                                              refine q_bipush hF (n := 17) rfl dX8_open_228 ?_
                                              refine q_dup2 hF rfl rfl dX8_open_230 ?_
                                              refine q_laloadv hF (z := L (m + 3) 17) (n := 1243) 17 hS.t3 rfl (by decide) (by decide) ((u2_k _ _ (by omega)).trans ((u2_k _ _ (by omega)).trans ((u2_k _ _ (by omega)).trans ((u2_k _ _ (by omega)).trans ((u2_k _ _ (by omega)).trans ((u2_k _ _ (by omega)).trans ((u2_k _ _ (by omega)).trans ((u2_k _ _ (by omega)).trans ((u2_k _ _ (by omega)).trans ((u2_k _ _ (by omega)).trans ((u2_k _ _ (by omega)).trans ((u2_k _ _ (by omega)).trans ((u2_k _ _ (by omega)).trans ((u2_k _ _ (by omega)).trans ((u2_k _ _ (by omega)).trans ((u2_k _ _ (by omega)).trans ((u2_k _ _ (by omega)).trans ((u2_k _ _ (by omega)).trans (c110_0.1 _ _ (by omega)))))))))))))))))))) dX8_open_231 ?_
                                              refine q_iload hF 6 rfl dX8_open_232 ?_
                                              refine q_i2l hF h4 dX8_open_234 ?_
                                              refine q_ladd hF dX8_open_235 ?_
                                              refine q_lastorev hF (n := 1243) 17 hS.t3 (q_Ale hSA (by omega)) rfl (by decide) (by decide) dX8_open_236 ?_
                                              refine q_aload_n hF 2 rfl rfl dX8_open_237 ?_
                                              refine q_getA hF fl_RX8_20 rfl hS.t0 hS.p9 dX8_open_238 ?_
                                              refine q_iconst hF dX8_open_241 ?_
                                              refine q_dup2 hF rfl rfl dX8_open_242 ?_
                                              refine q_laloadv hF (z := (i : Int)) (n := 1243) 1 hS.t3 rfl (by decide) (by decide) ((u2_k _ _ (by decide)).trans ((u2_k _ _ (by omega)).trans ((u2_k _ _ (by omega)).trans ((u2_k _ _ (by omega)).trans ((u2_k _ _ (by omega)).trans ((u2_k _ _ (by omega)).trans ((u2_k _ _ (by omega)).trans ((u2_k _ _ (by omega)).trans ((u2_k _ _ (by omega)).trans ((u2_k _ _ (by omega)).trans ((u2_k _ _ (by omega)).trans ((u2_k _ _ (by omega)).trans ((u2_k _ _ (by omega)).trans ((u2_k _ _ (by omega)).trans ((u2_k _ _ (by omega)).trans ((u2_k _ _ (by omega)).trans ((u2_k _ _ (by omega)).trans ((u2_k _ _ (by omega)).trans ((u2_k _ _ (by omega)).trans ((c110_0.1 _ _ (by omega)).trans hmn)))))))))))))))))))) dX8_open_243 ?_
                                              refine q_lconst hF (z := 1) rfl dX8_open_244 ?_
                                              refine q_ladd hF dX8_open_245 ?_
                                              refine q_lastorev hF (n := 1243) 1 hS.t3 (q_Ale hSA (by omega)) rfl (by decide) (by decide) dX8_open_246 ?_
                                              refine q_iload hF 1 rfl dX8_open_247 ?_
                                              refine q_ireturn hF rfl dX8_open_249 ?_
                                              have e3 : LR (m + 3) = L (m + 3) := funext fun k => c110_0.1 _ k (by omega)
                                              have q := k0 LR (by omega) (by omega) (by omega) c110_0
                                              rw [show u2 (u2 (u2 (u2 (u2 (u2 (u2 (u2 (u2 (u2 (u2 (u2 (u2 (u2 (u2 (u2 (u2 (u2 (u2 (u2 LR (m + 3) (1039 + 12 * i) 0) (m + 3) (1040 + 12 * i) 0) (m + 3) (1041 + 12 * i) 0) (m + 3) (1042 + 12 * i) 0) (m + 3) (1043 + 12 * i) 0) (m + 3) (1044 + 12 * i) 0) (m + 3) (1045 + 12 * i) 0) (m + 3) (1046 + 12 * i) 0) (m + 3) (1047 + 12 * i) 0) (m + 3) (1048 + 12 * i) 0) (m + 3) (1049 + 12 * i) 0) (m + 3) (1050 + 12 * i) 0) (m + 3) (1039 + 12 * i) kd) (m + 3) (1040 + 12 * i) ad) (m + 3) (1041 + 12 * i) bi) (m + 3) (1042 + 12 * i) ce) (m + 3) (1048 + 12 * i) (-1)) (m + 3) (1047 + 12 * i) (-1)) (m + 3) 17 ((L (m + 3) 17) + ce)) (m + 3) 1 ((i : Int) + 1) = q_row LR (m + 3) (g_oopen (L (m + 3)) i kd ad bi ce) from by rw [q_row_u1 LR, q_row_u, q_row_u, q_row_u, q_row_u, q_row_u, q_row_u, q_row_u, q_row_u, q_row_u, q_row_u, q_row_u, q_row_u, q_row_u, q_row_u, q_row_u, q_row_u, q_row_u, q_row_u, q_row_u, e3]; rfl]
                                              exact q
                                            · exact absurd c126 (by decide)
                  · exact absurd c104 (by decide)
                · refine q_iconst hF dX8_open_94 ?_
                  refine q_goto hF dX8_open_95 ?_
                  refine q_iconst hF dX8_open_99 ?_
                  refine q_iconst hF dX8_open_100 ?_
                  refine q_callV (kc := 0) (ks := 0) (mc' := 0) (ms' := 0) (h' := 0) (st := []) hF vl_RX8_251 rfl [qI 1, qI 3, qI 2] rfl rfl hS.t0 (by decide) (Nat.le_of_ble_eq_true rfl) dX8_open_101 ?_
                  refine mX8_bad1 (j := 2) hS hSA (u2_s _ _ _ _) (by omega) rfl (by decide) ?_
                  rw [show (u2 I m 0 0) (m + 1) 2 = I (m + 1) 2 from (u2_k _ _ (by decide))]
                  refine q_ifeq hF (by decide) dX8_open_104 (fun c104 => ?_) (fun c104 => ?_)
                  · exact absurd c104 (by decide)
                  · refine q_iconst hF dX8_open_107 ?_
                    refine q_ireturn hF rfl dX8_open_108 ?_
                    exact k3 (by omega) (by omega) (by omega)
            · refine q_iconst hF dX8_open_71 ?_
              refine q_goto hF dX8_open_72 ?_
              refine q_iconst hF dX8_open_76 ?_
              refine q_iconst hF dX8_open_77 ?_
              refine q_callV (kc := 0) (ks := 0) (mc' := 0) (ms' := 0) (h' := 0) (st := []) hF vl_RX8_251 rfl [qI 1, qI 2, qI 1] rfl rfl hS.t0 (by decide) (Nat.le_of_ble_eq_true rfl) dX8_open_78 ?_
              refine mX8_bad1 (j := 1) hS hSA (u2_s _ _ _ _) (by omega) rfl (by decide) ?_
              rw [show (u2 I m 0 0) (m + 1) 1 = I (m + 1) 1 from (u2_k _ _ (by decide))]
              refine q_ifne hF (by decide) dX8_open_81 (fun c81 => ?_) (fun c81 => ?_)
              · refine q_iconst hF dX8_open_107 ?_
                refine q_ireturn hF rfl dX8_open_108 ?_
                exact k2 (by omega) (by omega)
              · exact absurd c81 (by decide)
      · refine q_iconst hF dX8_open_32 ?_
        refine q_goto hF dX8_open_33 ?_
        refine q_iconst hF dX8_open_37 ?_
        refine q_iconst hF dX8_open_38 ?_
        refine q_callV (kc := 0) (ks := 0) (mc' := 0) (ms' := 0) (h' := 0) (st := []) hF vl_RX8_251 rfl [qI 1, qI 1, qI 0] rfl rfl hS.t0 (by decide) (Nat.le_of_ble_eq_true rfl) dX8_open_39 ?_
        refine mX8_bad1 (j := 0) hS hSA (u2_s _ _ _ _) (by omega) rfl (by decide) ?_
        rw [show (u2 I m 0 0) (m + 1) 0 = I (m + 1) 0 from (u2_a _ _ (by omega))]
        refine q_ifne hF (by decide) dX8_open_42 (fun c42 => ?_) (fun c42 => ?_)
        · refine q_iconst hF dX8_open_107 ?_
          refine q_ireturn hF rfl dX8_open_108 ?_
          exact k1 (by omega)
        · exact absurd c42 (by decide)
  · refine q_aload_n hF 0 rfl rfl dX8_open_11 ?_
    refine q_iload_n hF 2 rfl rfl dX8_open_12 ?_
    refine q_callV (kc := 0) (ks := 0) (mc' := 0) (ms' := 0) (h' := 1) (st := [.ref m]) hF vl_RX8_343 rfl [qI ad] rfl rfl hS.t0 (by decide) (Nat.le_of_ble_eq_true rfl) dX8_open_13 ?_
    refine mX8_isLand hS hv h2 ?_
    refine q_ifeq_b hF dX8_open_16 (fun c16 => ?_) (fun c16 => ?_)
    · refine q_iconst hF dX8_open_32 ?_
      refine q_goto hF dX8_open_33 ?_
      refine q_iconst hF dX8_open_37 ?_
      refine q_iconst hF dX8_open_38 ?_
      refine q_callV (kc := 0) (ks := 0) (mc' := 0) (ms' := 0) (h' := 0) (st := []) hF vl_RX8_251 rfl [qI 1, qI 1, qI 0] rfl rfl hS.t0 (by decide) (Nat.le_of_ble_eq_true rfl) dX8_open_39 ?_
      refine mX8_bad1 (j := 0) hS hSA (u2_s _ _ _ _) (by omega) rfl (by decide) ?_
      rw [show (u2 I m 0 0) (m + 1) 0 = I (m + 1) 0 from (u2_a _ _ (by omega))]
      refine q_ifne hF (by decide) dX8_open_42 (fun c42 => ?_) (fun c42 => ?_)
      · refine q_iconst hF dX8_open_107 ?_
        refine q_ireturn hF rfl dX8_open_108 ?_
        exact k1 (by omega)
      · exact absurd c42 (by decide)
    · refine q_iload_n hF 3 rfl rfl dX8_open_19 ?_
      refine q_iconst hF dX8_open_20 ?_
      refine q_icmpeq hF h3 (by decide) dX8_open_21 (fun c21 => ?_) (fun c21 => ?_)
      · refine q_iconst hF dX8_open_36 ?_
        refine q_iconst hF dX8_open_37 ?_
        refine q_iconst hF dX8_open_38 ?_
        refine q_callV (kc := 0) (ks := 0) (mc' := 0) (ms' := 0) (h' := 0) (st := []) hF vl_RX8_251 rfl [qI 0, qI 1, qI 0] rfl rfl hS.t0 (by decide) (Nat.le_of_ble_eq_true rfl) dX8_open_39 ?_
        refine mX8_bad0 hS hSA (u2_s _ _ _ _) ?_
        refine q_ifne hF (by decide) dX8_open_42 (fun c42 => ?_) (fun c42 => ?_)
        · exact absurd c42 (by decide)
        · refine q_aload_n hF 0 rfl rfl dX8_open_45 ?_
          refine q_iload_n hF 1 rfl rfl dX8_open_46 ?_
          refine q_i2l hF h1 dX8_open_47 ?_
          refine q_lconst hF (z := 0) rfl dX8_open_48 ?_
          refine q_ldc2 hF (n := 4) (q_mem 1529 (by decide +kernel) rfl) dX8_open_49 ?_
          refine q_callS (kc := 0) (ks := 0) (mc' := 0) (ms' := 0) (h' := 0) (st := [.ref m]) hF sl_RX8_123 rfl [qL kd, qL 0, qL 4] rfl rfl (by decide) (Nat.le_of_ble_eq_true rfl) dX8_open_52 ?_
          refine mX8_in (by omega) (by decide) (by decide) ?_
          refine q_ifeq_b hF dX8_open_55 (fun c55 => ?_) (fun c55 => ?_)
          · refine q_iconst hF dX8_open_71 ?_
            refine q_goto hF dX8_open_72 ?_
            refine q_iconst hF dX8_open_76 ?_
            refine q_iconst hF dX8_open_77 ?_
            refine q_callV (kc := 0) (ks := 0) (mc' := 0) (ms' := 0) (h' := 0) (st := []) hF vl_RX8_251 rfl [qI 1, qI 2, qI 1] rfl rfl hS.t0 (by decide) (Nat.le_of_ble_eq_true rfl) dX8_open_78 ?_
            refine mX8_bad1 (j := 1) hS hSA (u2_s _ _ _ _) (by omega) rfl (by decide) ?_
            rw [show (u2 I m 0 0) (m + 1) 1 = I (m + 1) 1 from (u2_k _ _ (by decide))]
            refine q_ifne hF (by decide) dX8_open_81 (fun c81 => ?_) (fun c81 => ?_)
            · refine q_iconst hF dX8_open_107 ?_
              refine q_ireturn hF rfl dX8_open_108 ?_
              exact k2 (by omega) (by omega)
            · exact absurd c81 (by decide)
          · refine q_iload hF 4 rfl dX8_open_58 ?_
            refine q_i2l hF h4 dX8_open_60 ?_
            refine q_lconst hF (z := 0) rfl dX8_open_61 ?_
            refine q_ldc2 hF (n := 100000000) (q_mem 1530 (by decide +kernel) rfl) dX8_open_62 ?_
            refine q_callS (kc := 0) (ks := 0) (mc' := 0) (ms' := 0) (h' := 0) (st := [.ref m]) hF sl_RX8_123 rfl [qL ce, qL 0, qL 100000000] rfl rfl (by decide) (Nat.le_of_ble_eq_true rfl) dX8_open_65 ?_
            refine mX8_in (by omega) (by decide) (by decide) ?_
            refine q_ifne_b hF dX8_open_68 (fun c68 => ?_) (fun c68 => ?_)
            · refine q_iconst hF dX8_open_75 ?_
              refine q_iconst hF dX8_open_76 ?_
              refine q_iconst hF dX8_open_77 ?_
              refine q_callV (kc := 0) (ks := 0) (mc' := 0) (ms' := 0) (h' := 0) (st := []) hF vl_RX8_251 rfl [qI 0, qI 2, qI 1] rfl rfl hS.t0 (by decide) (Nat.le_of_ble_eq_true rfl) dX8_open_78 ?_
              refine mX8_bad0 hS hSA (u2_s _ _ _ _) ?_
              refine q_ifne hF (by decide) dX8_open_81 (fun c81 => ?_) (fun c81 => ?_)
              · exact absurd c81 (by decide)
              · refine q_aload_n hF 0 rfl rfl dX8_open_84 ?_
                refine q_aload_n hF 0 rfl rfl dX8_open_85 ?_
                refine q_callV (kc := 0) (ks := 0) (mc' := 0) (ms' := 0) (h' := 0) (st := [.ref m]) hF vl_RX8_337 rfl [] rfl rfl hS.t0 (by decide) (Nat.le_of_ble_eq_true rfl) dX8_open_86 ?_
                refine mX8_many hS ?_
                rw [show L (m + 3) 1 = (i : Int) from hmn]
                refine q_bipush hF (n := 12) rfl dX8_open_89 ?_
                refine q_icmpne hF (by omega) (by decide) dX8_open_91 (fun c91 => ?_) (fun c91 => ?_)
                · refine q_iconst hF dX8_open_98 ?_
                  refine q_iconst hF dX8_open_99 ?_
                  refine q_iconst hF dX8_open_100 ?_
                  refine q_callV (kc := 0) (ks := 0) (mc' := 0) (ms' := 0) (h' := 0) (st := []) hF vl_RX8_251 rfl [qI 0, qI 3, qI 2] rfl rfl hS.t0 (by decide) (Nat.le_of_ble_eq_true rfl) dX8_open_101 ?_
                  refine mX8_bad0 hS hSA (u2_s _ _ _ _) ?_
                  refine q_ifeq hF (by decide) dX8_open_104 (fun c104 => ?_) (fun c104 => ?_)
                  · refine q_aload_n hF 0 rfl rfl dX8_open_109 ?_
                    refine q_callV (kc := 0) (ks := 0) (mc' := 0) (ms' := 0) (h' := 2) (st := []) hF vl_RX8_258 rfl [] rfl rfl hS.t0 (by decide) (Nat.le_of_ble_eq_true rfl) dX8_open_110 ?_
                    refine mX8_remembers (bk := bk) hS hSA (((u2_k _ _ (by decide)).trans hb)) (by omega) hz (fun LR c110_0 => ?_)
                    refine q_aload_n hF 0 rfl rfl dX8_open_113 ?_
                    refine q_callV (kc := 0) (ks := 0) (mc' := 0) (ms' := 0) (h' := 0) (st := []) hF vl_RX8_337 rfl [] rfl rfl hS.t0 (by decide) (Nat.le_of_ble_eq_true rfl) dX8_open_114 ?_
                    refine mX8_many hS ?_
                    rw [show LR (m + 3) 1 = (i : Int) from ((c110_0.1 _ _ (by omega)).trans hmn)]
                    refine q_istore hF (ls' := [(5, qI ((i : Int))), (0, .ref m), (1, qI kd), (2, qI ad), (3, qI bi), (4, qI ce)]) (by decide) rfl dX8_open_117 ?_
                    refine q_iconst hF dX8_open_119 ?_
                    refine q_istore hF (ls' := [(6, qI 0), (5, qI ((i : Int))), (0, .ref m), (1, qI kd), (2, qI ad), (3, qI bi), (4, qI ce)]) (by decide) rfl dX8_open_120 ?_
                    refine q_iload hF 0 rfl dX8_open_122 ?_
                    refine q_bipush hF (n := 12) rfl dX8_open_124 ?_
                    refine q_icmpge hF (by decide) (by decide) dX8_open_126 (fun c126 => ?_) (fun c126 => ?_)
                    · exact absurd c126 (by decide)
                    · refine q_aload_n hF 2 rfl rfl dX8_open_129 ?_
                      refine q_getA hF fl_RX8_20 rfl hS.t0 hS.p9 dX8_open_130 ?_
                      refine q_iload hF 1 rfl dX8_open_133 ?_
                      refine q_iload hF 0 rfl dX8_open_135 ?_
                      refine q_lconst hF (z := 0) rfl dX8_open_137 ?_
                      refine q_callS (kc := 0) (ks := 0) (mc' := 0) (ms' := 0) (h' := 1) (st := []) hF sl_RX8_299 rfl [.ref (m + 3), qI ((i : Int)), qI 0, qL 0] rfl rfl (by decide) (Nat.le_of_ble_eq_true rfl) dX8_open_138 ?_
                      refine mX8_sets (j := (1039 + 12 * i)) hS.t3 (q_Ale hSA (by omega)) (by omega) (by have := hv.many; have := hv.lands; omega) ?_
                      refine q_iinc hF (z' := 1) (ls' := [(6, qI 1), (5, qI ((i : Int))), (0, .ref m), (1, qI kd), (2, qI ad), (3, qI bi), (4, qI ce)]) 0 rfl (by first | rfl | omega) (by decide) rfl dX8_open_141 ?_
                      refine q_goto hF dX8_open_144 ?_
                      refine q_iload hF 0 rfl dX8_open_122 ?_
                      refine q_bipush hF (n := 12) rfl dX8_open_124 ?_
                      refine q_icmpge hF (by decide) (by decide) dX8_open_126 (fun c126 => ?_) (fun c126 => ?_)
                      · exact absurd c126 (by decide)
                      · refine q_aload_n hF 2 rfl rfl dX8_open_129 ?_
                        refine q_getA hF fl_RX8_20 rfl hS.t0 hS.p9 dX8_open_130 ?_
                        refine q_iload hF 1 rfl dX8_open_133 ?_
                        refine q_iload hF 0 rfl dX8_open_135 ?_
                        refine q_lconst hF (z := 0) rfl dX8_open_137 ?_
                        refine q_callS (kc := 0) (ks := 0) (mc' := 0) (ms' := 0) (h' := 1) (st := []) hF sl_RX8_299 rfl [.ref (m + 3), qI ((i : Int)), qI 1, qL 0] rfl rfl (by decide) (Nat.le_of_ble_eq_true rfl) dX8_open_138 ?_
                        refine mX8_sets (j := (1040 + 12 * i)) hS.t3 (q_Ale hSA (by omega)) (by omega) (by have := hv.many; have := hv.lands; omega) ?_
                        refine q_iinc hF (z' := 2) (ls' := [(6, qI 2), (5, qI ((i : Int))), (0, .ref m), (1, qI kd), (2, qI ad), (3, qI bi), (4, qI ce)]) 0 rfl (by first | rfl | omega) (by decide) rfl dX8_open_141 ?_
                        refine q_goto hF dX8_open_144 ?_
                        refine q_iload hF 0 rfl dX8_open_122 ?_
                        refine q_bipush hF (n := 12) rfl dX8_open_124 ?_
                        refine q_icmpge hF (by decide) (by decide) dX8_open_126 (fun c126 => ?_) (fun c126 => ?_)
                        · exact absurd c126 (by decide)
                        · refine q_aload_n hF 2 rfl rfl dX8_open_129 ?_
                          refine q_getA hF fl_RX8_20 rfl hS.t0 hS.p9 dX8_open_130 ?_
                          refine q_iload hF 1 rfl dX8_open_133 ?_
                          refine q_iload hF 0 rfl dX8_open_135 ?_
                          refine q_lconst hF (z := 0) rfl dX8_open_137 ?_
                          refine q_callS (kc := 0) (ks := 0) (mc' := 0) (ms' := 0) (h' := 1) (st := []) hF sl_RX8_299 rfl [.ref (m + 3), qI ((i : Int)), qI 2, qL 0] rfl rfl (by decide) (Nat.le_of_ble_eq_true rfl) dX8_open_138 ?_
                          refine mX8_sets (j := (1041 + 12 * i)) hS.t3 (q_Ale hSA (by omega)) (by omega) (by have := hv.many; have := hv.lands; omega) ?_
                          refine q_iinc hF (z' := 3) (ls' := [(6, qI 3), (5, qI ((i : Int))), (0, .ref m), (1, qI kd), (2, qI ad), (3, qI bi), (4, qI ce)]) 0 rfl (by first | rfl | omega) (by decide) rfl dX8_open_141 ?_
                          refine q_goto hF dX8_open_144 ?_
                          refine q_iload hF 0 rfl dX8_open_122 ?_
                          refine q_bipush hF (n := 12) rfl dX8_open_124 ?_
                          refine q_icmpge hF (by decide) (by decide) dX8_open_126 (fun c126 => ?_) (fun c126 => ?_)
                          · exact absurd c126 (by decide)
                          · refine q_aload_n hF 2 rfl rfl dX8_open_129 ?_
                            refine q_getA hF fl_RX8_20 rfl hS.t0 hS.p9 dX8_open_130 ?_
                            refine q_iload hF 1 rfl dX8_open_133 ?_
                            refine q_iload hF 0 rfl dX8_open_135 ?_
                            refine q_lconst hF (z := 0) rfl dX8_open_137 ?_
                            refine q_callS (kc := 0) (ks := 0) (mc' := 0) (ms' := 0) (h' := 1) (st := []) hF sl_RX8_299 rfl [.ref (m + 3), qI ((i : Int)), qI 3, qL 0] rfl rfl (by decide) (Nat.le_of_ble_eq_true rfl) dX8_open_138 ?_
                            refine mX8_sets (j := (1042 + 12 * i)) hS.t3 (q_Ale hSA (by omega)) (by omega) (by have := hv.many; have := hv.lands; omega) ?_
                            refine q_iinc hF (z' := 4) (ls' := [(6, qI 4), (5, qI ((i : Int))), (0, .ref m), (1, qI kd), (2, qI ad), (3, qI bi), (4, qI ce)]) 0 rfl (by first | rfl | omega) (by decide) rfl dX8_open_141 ?_
                            refine q_goto hF dX8_open_144 ?_
                            refine q_iload hF 0 rfl dX8_open_122 ?_
                            refine q_bipush hF (n := 12) rfl dX8_open_124 ?_
                            refine q_icmpge hF (by decide) (by decide) dX8_open_126 (fun c126 => ?_) (fun c126 => ?_)
                            · exact absurd c126 (by decide)
                            · refine q_aload_n hF 2 rfl rfl dX8_open_129 ?_
                              refine q_getA hF fl_RX8_20 rfl hS.t0 hS.p9 dX8_open_130 ?_
                              refine q_iload hF 1 rfl dX8_open_133 ?_
                              refine q_iload hF 0 rfl dX8_open_135 ?_
                              refine q_lconst hF (z := 0) rfl dX8_open_137 ?_
                              refine q_callS (kc := 0) (ks := 0) (mc' := 0) (ms' := 0) (h' := 1) (st := []) hF sl_RX8_299 rfl [.ref (m + 3), qI ((i : Int)), qI 4, qL 0] rfl rfl (by decide) (Nat.le_of_ble_eq_true rfl) dX8_open_138 ?_
                              refine mX8_sets (j := (1043 + 12 * i)) hS.t3 (q_Ale hSA (by omega)) (by omega) (by have := hv.many; have := hv.lands; omega) ?_
                              refine q_iinc hF (z' := 5) (ls' := [(6, qI 5), (5, qI ((i : Int))), (0, .ref m), (1, qI kd), (2, qI ad), (3, qI bi), (4, qI ce)]) 0 rfl (by first | rfl | omega) (by decide) rfl dX8_open_141 ?_
                              refine q_goto hF dX8_open_144 ?_
                              refine q_iload hF 0 rfl dX8_open_122 ?_
                              refine q_bipush hF (n := 12) rfl dX8_open_124 ?_
                              refine q_icmpge hF (by decide) (by decide) dX8_open_126 (fun c126 => ?_) (fun c126 => ?_)
                              · exact absurd c126 (by decide)
                              · refine q_aload_n hF 2 rfl rfl dX8_open_129 ?_
                                refine q_getA hF fl_RX8_20 rfl hS.t0 hS.p9 dX8_open_130 ?_
                                refine q_iload hF 1 rfl dX8_open_133 ?_
                                refine q_iload hF 0 rfl dX8_open_135 ?_
                                refine q_lconst hF (z := 0) rfl dX8_open_137 ?_
                                refine q_callS (kc := 0) (ks := 0) (mc' := 0) (ms' := 0) (h' := 1) (st := []) hF sl_RX8_299 rfl [.ref (m + 3), qI ((i : Int)), qI 5, qL 0] rfl rfl (by decide) (Nat.le_of_ble_eq_true rfl) dX8_open_138 ?_
                                refine mX8_sets (j := (1044 + 12 * i)) hS.t3 (q_Ale hSA (by omega)) (by omega) (by have := hv.many; have := hv.lands; omega) ?_
                                refine q_iinc hF (z' := 6) (ls' := [(6, qI 6), (5, qI ((i : Int))), (0, .ref m), (1, qI kd), (2, qI ad), (3, qI bi), (4, qI ce)]) 0 rfl (by first | rfl | omega) (by decide) rfl dX8_open_141 ?_
                                refine q_goto hF dX8_open_144 ?_
                                refine q_iload hF 0 rfl dX8_open_122 ?_
                                refine q_bipush hF (n := 12) rfl dX8_open_124 ?_
                                refine q_icmpge hF (by decide) (by decide) dX8_open_126 (fun c126 => ?_) (fun c126 => ?_)
                                · exact absurd c126 (by decide)
                                · refine q_aload_n hF 2 rfl rfl dX8_open_129 ?_
                                  refine q_getA hF fl_RX8_20 rfl hS.t0 hS.p9 dX8_open_130 ?_
                                  refine q_iload hF 1 rfl dX8_open_133 ?_
                                  refine q_iload hF 0 rfl dX8_open_135 ?_
                                  refine q_lconst hF (z := 0) rfl dX8_open_137 ?_
                                  refine q_callS (kc := 0) (ks := 0) (mc' := 0) (ms' := 0) (h' := 1) (st := []) hF sl_RX8_299 rfl [.ref (m + 3), qI ((i : Int)), qI 6, qL 0] rfl rfl (by decide) (Nat.le_of_ble_eq_true rfl) dX8_open_138 ?_
                                  refine mX8_sets (j := (1045 + 12 * i)) hS.t3 (q_Ale hSA (by omega)) (by omega) (by have := hv.many; have := hv.lands; omega) ?_
                                  refine q_iinc hF (z' := 7) (ls' := [(6, qI 7), (5, qI ((i : Int))), (0, .ref m), (1, qI kd), (2, qI ad), (3, qI bi), (4, qI ce)]) 0 rfl (by first | rfl | omega) (by decide) rfl dX8_open_141 ?_
                                  refine q_goto hF dX8_open_144 ?_
                                  refine q_iload hF 0 rfl dX8_open_122 ?_
                                  refine q_bipush hF (n := 12) rfl dX8_open_124 ?_
                                  refine q_icmpge hF (by decide) (by decide) dX8_open_126 (fun c126 => ?_) (fun c126 => ?_)
                                  · exact absurd c126 (by decide)
                                  · refine q_aload_n hF 2 rfl rfl dX8_open_129 ?_
                                    refine q_getA hF fl_RX8_20 rfl hS.t0 hS.p9 dX8_open_130 ?_
                                    refine q_iload hF 1 rfl dX8_open_133 ?_
                                    refine q_iload hF 0 rfl dX8_open_135 ?_
                                    refine q_lconst hF (z := 0) rfl dX8_open_137 ?_
                                    refine q_callS (kc := 0) (ks := 0) (mc' := 0) (ms' := 0) (h' := 1) (st := []) hF sl_RX8_299 rfl [.ref (m + 3), qI ((i : Int)), qI 7, qL 0] rfl rfl (by decide) (Nat.le_of_ble_eq_true rfl) dX8_open_138 ?_
                                    refine mX8_sets (j := (1046 + 12 * i)) hS.t3 (q_Ale hSA (by omega)) (by omega) (by have := hv.many; have := hv.lands; omega) ?_
                                    refine q_iinc hF (z' := 8) (ls' := [(6, qI 8), (5, qI ((i : Int))), (0, .ref m), (1, qI kd), (2, qI ad), (3, qI bi), (4, qI ce)]) 0 rfl (by first | rfl | omega) (by decide) rfl dX8_open_141 ?_
                                    refine q_goto hF dX8_open_144 ?_
                                    refine q_iload hF 0 rfl dX8_open_122 ?_
                                    refine q_bipush hF (n := 12) rfl dX8_open_124 ?_
                                    refine q_icmpge hF (by decide) (by decide) dX8_open_126 (fun c126 => ?_) (fun c126 => ?_)
                                    · exact absurd c126 (by decide)
                                    · refine q_aload_n hF 2 rfl rfl dX8_open_129 ?_
                                      refine q_getA hF fl_RX8_20 rfl hS.t0 hS.p9 dX8_open_130 ?_
                                      refine q_iload hF 1 rfl dX8_open_133 ?_
                                      refine q_iload hF 0 rfl dX8_open_135 ?_
                                      refine q_lconst hF (z := 0) rfl dX8_open_137 ?_
                                      refine q_callS (kc := 0) (ks := 0) (mc' := 0) (ms' := 0) (h' := 1) (st := []) hF sl_RX8_299 rfl [.ref (m + 3), qI ((i : Int)), qI 8, qL 0] rfl rfl (by decide) (Nat.le_of_ble_eq_true rfl) dX8_open_138 ?_
                                      refine mX8_sets (j := (1047 + 12 * i)) hS.t3 (q_Ale hSA (by omega)) (by omega) (by have := hv.many; have := hv.lands; omega) ?_
                                      refine q_iinc hF (z' := 9) (ls' := [(6, qI 9), (5, qI ((i : Int))), (0, .ref m), (1, qI kd), (2, qI ad), (3, qI bi), (4, qI ce)]) 0 rfl (by first | rfl | omega) (by decide) rfl dX8_open_141 ?_
                                      refine q_goto hF dX8_open_144 ?_
                                      refine q_iload hF 0 rfl dX8_open_122 ?_
                                      refine q_bipush hF (n := 12) rfl dX8_open_124 ?_
                                      refine q_icmpge hF (by decide) (by decide) dX8_open_126 (fun c126 => ?_) (fun c126 => ?_)
                                      · exact absurd c126 (by decide)
                                      · refine q_aload_n hF 2 rfl rfl dX8_open_129 ?_
                                        refine q_getA hF fl_RX8_20 rfl hS.t0 hS.p9 dX8_open_130 ?_
                                        refine q_iload hF 1 rfl dX8_open_133 ?_
                                        refine q_iload hF 0 rfl dX8_open_135 ?_
                                        refine q_lconst hF (z := 0) rfl dX8_open_137 ?_
                                        refine q_callS (kc := 0) (ks := 0) (mc' := 0) (ms' := 0) (h' := 1) (st := []) hF sl_RX8_299 rfl [.ref (m + 3), qI ((i : Int)), qI 9, qL 0] rfl rfl (by decide) (Nat.le_of_ble_eq_true rfl) dX8_open_138 ?_
                                        refine mX8_sets (j := (1048 + 12 * i)) hS.t3 (q_Ale hSA (by omega)) (by omega) (by have := hv.many; have := hv.lands; omega) ?_
                                        refine q_iinc hF (z' := 10) (ls' := [(6, qI 10), (5, qI ((i : Int))), (0, .ref m), (1, qI kd), (2, qI ad), (3, qI bi), (4, qI ce)]) 0 rfl (by first | rfl | omega) (by decide) rfl dX8_open_141 ?_
                                        refine q_goto hF dX8_open_144 ?_
                                        refine q_iload hF 0 rfl dX8_open_122 ?_
                                        refine q_bipush hF (n := 12) rfl dX8_open_124 ?_
                                        refine q_icmpge hF (by decide) (by decide) dX8_open_126 (fun c126 => ?_) (fun c126 => ?_)
                                        · exact absurd c126 (by decide)
                                        · refine q_aload_n hF 2 rfl rfl dX8_open_129 ?_
                                          refine q_getA hF fl_RX8_20 rfl hS.t0 hS.p9 dX8_open_130 ?_
                                          refine q_iload hF 1 rfl dX8_open_133 ?_
                                          refine q_iload hF 0 rfl dX8_open_135 ?_
                                          refine q_lconst hF (z := 0) rfl dX8_open_137 ?_
                                          refine q_callS (kc := 0) (ks := 0) (mc' := 0) (ms' := 0) (h' := 1) (st := []) hF sl_RX8_299 rfl [.ref (m + 3), qI ((i : Int)), qI 10, qL 0] rfl rfl (by decide) (Nat.le_of_ble_eq_true rfl) dX8_open_138 ?_
                                          refine mX8_sets (j := (1049 + 12 * i)) hS.t3 (q_Ale hSA (by omega)) (by omega) (by have := hv.many; have := hv.lands; omega) ?_
                                          refine q_iinc hF (z' := 11) (ls' := [(6, qI 11), (5, qI ((i : Int))), (0, .ref m), (1, qI kd), (2, qI ad), (3, qI bi), (4, qI ce)]) 0 rfl (by first | rfl | omega) (by decide) rfl dX8_open_141 ?_
                                          refine q_goto hF dX8_open_144 ?_
                                          refine q_iload hF 0 rfl dX8_open_122 ?_
                                          refine q_bipush hF (n := 12) rfl dX8_open_124 ?_
                                          refine q_icmpge hF (by decide) (by decide) dX8_open_126 (fun c126 => ?_) (fun c126 => ?_)
                                          · exact absurd c126 (by decide)
                                          · refine q_aload_n hF 2 rfl rfl dX8_open_129 ?_
                                            refine q_getA hF fl_RX8_20 rfl hS.t0 hS.p9 dX8_open_130 ?_
                                            refine q_iload hF 1 rfl dX8_open_133 ?_
                                            refine q_iload hF 0 rfl dX8_open_135 ?_
                                            refine q_lconst hF (z := 0) rfl dX8_open_137 ?_
                                            refine q_callS (kc := 0) (ks := 0) (mc' := 0) (ms' := 0) (h' := 1) (st := []) hF sl_RX8_299 rfl [.ref (m + 3), qI ((i : Int)), qI 11, qL 0] rfl rfl (by decide) (Nat.le_of_ble_eq_true rfl) dX8_open_138 ?_
                                            refine mX8_sets (j := (1050 + 12 * i)) hS.t3 (q_Ale hSA (by omega)) (by omega) (by have := hv.many; have := hv.lands; omega) ?_
                                            refine q_iinc hF (z' := 12) (ls' := [(6, qI 12), (5, qI ((i : Int))), (0, .ref m), (1, qI kd), (2, qI ad), (3, qI bi), (4, qI ce)]) 0 rfl (by first | rfl | omega) (by decide) rfl dX8_open_141 ?_
                                            refine q_goto hF dX8_open_144 ?_
                                            refine q_iload hF 0 rfl dX8_open_122 ?_
                                            refine q_bipush hF (n := 12) rfl dX8_open_124 ?_
                                            refine q_icmpge hF (by decide) (by decide) dX8_open_126 (fun c126 => ?_) (fun c126 => ?_)
                                            · refine q_aload_n hF 2 rfl rfl dX8_open_147 ?_
                                              refine q_getA hF fl_RX8_20 rfl hS.t0 hS.p9 dX8_open_148 ?_
                                              refine q_iload hF 1 rfl dX8_open_151 ?_
                                              refine q_iconst hF dX8_open_153 ?_
                                              refine q_iload_n hF 3 rfl rfl dX8_open_154 ?_
                                              refine q_i2l hF h1 dX8_open_155 ?_
                                              refine q_callS (kc := 0) (ks := 0) (mc' := 0) (ms' := 0) (h' := 1) (st := []) hF sl_RX8_299 rfl [.ref (m + 3), qI ((i : Int)), qI 0, qL kd] rfl rfl (by decide) (Nat.le_of_ble_eq_true rfl) dX8_open_156 ?_
                                              refine mX8_sets (j := (1039 + 12 * i)) hS.t3 (q_Ale hSA (by omega)) (by omega) (by have := hv.many; have := hv.lands; omega) ?_
                                              refine q_aload_n hF 2 rfl rfl dX8_open_159 ?_
                                              refine q_getA hF fl_RX8_20 rfl hS.t0 hS.p9 dX8_open_160 ?_
                                              refine q_iload hF 1 rfl dX8_open_163 ?_
                                              refine q_iconst hF dX8_open_165 ?_
                                              refine q_iload_n hF 4 rfl rfl dX8_open_166 ?_
                                              refine q_i2l hF h2 dX8_open_167 ?_
                                              refine q_callS (kc := 0) (ks := 0) (mc' := 0) (ms' := 0) (h' := 1) (st := []) hF sl_RX8_299 rfl [.ref (m + 3), qI ((i : Int)), qI 1, qL ad] rfl rfl (by decide) (Nat.le_of_ble_eq_true rfl) dX8_open_168 ?_
                                              refine mX8_sets (j := (1040 + 12 * i)) hS.t3 (q_Ale hSA (by omega)) (by omega) (by have := hv.many; have := hv.lands; omega) ?_
                                              refine q_aload_n hF 2 rfl rfl dX8_open_171 ?_
                                              refine q_getA hF fl_RX8_20 rfl hS.t0 hS.p9 dX8_open_172 ?_
                                              refine q_iload hF 1 rfl dX8_open_175 ?_
                                              refine q_iconst hF dX8_open_177 ?_
                                              refine q_iload_n hF 5 rfl rfl dX8_open_178 ?_
                                              refine q_i2l hF h3 dX8_open_179 ?_
                                              refine q_callS (kc := 0) (ks := 0) (mc' := 0) (ms' := 0) (h' := 1) (st := []) hF sl_RX8_299 rfl [.ref (m + 3), qI ((i : Int)), qI 2, qL bi] rfl rfl (by decide) (Nat.le_of_ble_eq_true rfl) dX8_open_180 ?_
                                              refine mX8_sets (j := (1041 + 12 * i)) hS.t3 (q_Ale hSA (by omega)) (by omega) (by have := hv.many; have := hv.lands; omega) ?_
                                              refine q_aload_n hF 2 rfl rfl dX8_open_183 ?_
                                              refine q_getA hF fl_RX8_20 rfl hS.t0 hS.p9 dX8_open_184 ?_
                                              refine q_iload hF 1 rfl dX8_open_187 ?_
                                              refine q_iconst hF dX8_open_189 ?_
                                              refine q_iload hF 6 rfl dX8_open_190 ?_
                                              refine q_i2l hF h4 dX8_open_192 ?_
                                              refine q_callS (kc := 0) (ks := 0) (mc' := 0) (ms' := 0) (h' := 1) (st := []) hF sl_RX8_299 rfl [.ref (m + 3), qI ((i : Int)), qI 3, qL ce] rfl rfl (by decide) (Nat.le_of_ble_eq_true rfl) dX8_open_193 ?_
                                              refine mX8_sets (j := (1042 + 12 * i)) hS.t3 (q_Ale hSA (by omega)) (by omega) (by have := hv.many; have := hv.lands; omega) ?_
                                              refine q_aload_n hF 2 rfl rfl dX8_open_196 ?_
                                              refine q_getA hF fl_RX8_20 rfl hS.t0 hS.p9 dX8_open_197 ?_
                                              refine q_iload hF 1 rfl dX8_open_200 ?_
                                              refine q_bipush hF (n := 9) rfl dX8_open_202 ?_
                                              refine q_ldc2 hF (n := -1) (q_mem 1274 (by decide +kernel) rfl) dX8_open_204 ?_
                                              refine q_callS (kc := 0) (ks := 0) (mc' := 0) (ms' := 0) (h' := 1) (st := []) hF sl_RX8_299 rfl [.ref (m + 3), qI ((i : Int)), qI 9, qL (-1)] rfl rfl (by decide) (Nat.le_of_ble_eq_true rfl) dX8_open_207 ?_
                                              refine mX8_sets (j := (1048 + 12 * i)) hS.t3 (q_Ale hSA (by omega)) (by omega) (by have := hv.many; have := hv.lands; omega) ?_
                                              refine q_aload_n hF 2 rfl rfl dX8_open_210 ?_
                                              refine q_getA hF fl_RX8_20 rfl hS.t0 hS.p9 dX8_open_211 ?_
                                              refine q_iload hF 1 rfl dX8_open_214 ?_
                                              refine q_bipush hF (n := 8) rfl dX8_open_216 ?_
                                              refine q_ldc2 hF (n := -1) (q_mem 1274 (by decide +kernel) rfl) dX8_open_218 ?_
                                              refine q_callS (kc := 0) (ks := 0) (mc' := 0) (ms' := 0) (h' := 1) (st := []) hF sl_RX8_299 rfl [.ref (m + 3), qI ((i : Int)), qI 8, qL (-1)] rfl rfl (by decide) (Nat.le_of_ble_eq_true rfl) dX8_open_221 ?_
                                              refine mX8_sets (j := (1047 + 12 * i)) hS.t3 (q_Ale hSA (by omega)) (by omega) (by have := hv.many; have := hv.lands; omega) ?_
                                              refine q_aload_n hF 2 rfl rfl dX8_open_224 ?_
                                              refine q_getA hF fl_RX8_20 rfl hS.t0 hS.p9 dX8_open_225 ?_
                                              refine q_bipush hF (n := 17) rfl dX8_open_228 ?_
                                              refine q_dup2 hF rfl rfl dX8_open_230 ?_
                                              refine q_laloadv hF (z := L (m + 3) 17) (n := 1243) 17 hS.t3 rfl (by decide) (by decide) ((u2_k _ _ (by omega)).trans ((u2_k _ _ (by omega)).trans ((u2_k _ _ (by omega)).trans ((u2_k _ _ (by omega)).trans ((u2_k _ _ (by omega)).trans ((u2_k _ _ (by omega)).trans ((u2_k _ _ (by omega)).trans ((u2_k _ _ (by omega)).trans ((u2_k _ _ (by omega)).trans ((u2_k _ _ (by omega)).trans ((u2_k _ _ (by omega)).trans ((u2_k _ _ (by omega)).trans ((u2_k _ _ (by omega)).trans ((u2_k _ _ (by omega)).trans ((u2_k _ _ (by omega)).trans ((u2_k _ _ (by omega)).trans ((u2_k _ _ (by omega)).trans ((u2_k _ _ (by omega)).trans (c110_0.1 _ _ (by omega)))))))))))))))))))) dX8_open_231 ?_
                                              refine q_iload hF 6 rfl dX8_open_232 ?_
                                              refine q_i2l hF h4 dX8_open_234 ?_
                                              refine q_ladd hF dX8_open_235 ?_
                                              refine q_lastorev hF (n := 1243) 17 hS.t3 (q_Ale hSA (by omega)) rfl (by decide) (by decide) dX8_open_236 ?_
                                              refine q_aload_n hF 2 rfl rfl dX8_open_237 ?_
                                              refine q_getA hF fl_RX8_20 rfl hS.t0 hS.p9 dX8_open_238 ?_
                                              refine q_iconst hF dX8_open_241 ?_
                                              refine q_dup2 hF rfl rfl dX8_open_242 ?_
                                              refine q_laloadv hF (z := (i : Int)) (n := 1243) 1 hS.t3 rfl (by decide) (by decide) ((u2_k _ _ (by decide)).trans ((u2_k _ _ (by omega)).trans ((u2_k _ _ (by omega)).trans ((u2_k _ _ (by omega)).trans ((u2_k _ _ (by omega)).trans ((u2_k _ _ (by omega)).trans ((u2_k _ _ (by omega)).trans ((u2_k _ _ (by omega)).trans ((u2_k _ _ (by omega)).trans ((u2_k _ _ (by omega)).trans ((u2_k _ _ (by omega)).trans ((u2_k _ _ (by omega)).trans ((u2_k _ _ (by omega)).trans ((u2_k _ _ (by omega)).trans ((u2_k _ _ (by omega)).trans ((u2_k _ _ (by omega)).trans ((u2_k _ _ (by omega)).trans ((u2_k _ _ (by omega)).trans ((u2_k _ _ (by omega)).trans ((c110_0.1 _ _ (by omega)).trans hmn)))))))))))))))))))) dX8_open_243 ?_
                                              refine q_lconst hF (z := 1) rfl dX8_open_244 ?_
                                              refine q_ladd hF dX8_open_245 ?_
                                              refine q_lastorev hF (n := 1243) 1 hS.t3 (q_Ale hSA (by omega)) rfl (by decide) (by decide) dX8_open_246 ?_
                                              refine q_iload hF 1 rfl dX8_open_247 ?_
                                              refine q_ireturn hF rfl dX8_open_249 ?_
                                              have e3 : LR (m + 3) = L (m + 3) := funext fun k => c110_0.1 _ k (by omega)
                                              have q := k0 LR (by omega) (by omega) (by omega) c110_0
                                              rw [show u2 (u2 (u2 (u2 (u2 (u2 (u2 (u2 (u2 (u2 (u2 (u2 (u2 (u2 (u2 (u2 (u2 (u2 (u2 (u2 LR (m + 3) (1039 + 12 * i) 0) (m + 3) (1040 + 12 * i) 0) (m + 3) (1041 + 12 * i) 0) (m + 3) (1042 + 12 * i) 0) (m + 3) (1043 + 12 * i) 0) (m + 3) (1044 + 12 * i) 0) (m + 3) (1045 + 12 * i) 0) (m + 3) (1046 + 12 * i) 0) (m + 3) (1047 + 12 * i) 0) (m + 3) (1048 + 12 * i) 0) (m + 3) (1049 + 12 * i) 0) (m + 3) (1050 + 12 * i) 0) (m + 3) (1039 + 12 * i) kd) (m + 3) (1040 + 12 * i) ad) (m + 3) (1041 + 12 * i) bi) (m + 3) (1042 + 12 * i) ce) (m + 3) (1048 + 12 * i) (-1)) (m + 3) (1047 + 12 * i) (-1)) (m + 3) 17 ((L (m + 3) 17) + ce)) (m + 3) 1 ((i : Int) + 1) = q_row LR (m + 3) (g_oopen (L (m + 3)) i kd ad bi ce) from by rw [q_row_u1 LR, q_row_u, q_row_u, q_row_u, q_row_u, q_row_u, q_row_u, q_row_u, q_row_u, q_row_u, q_row_u, q_row_u, q_row_u, q_row_u, q_row_u, q_row_u, q_row_u, q_row_u, q_row_u, q_row_u, e3]; rfl]
                                              exact q
                                            · exact absurd c126 (by decide)
                  · exact absurd c104 (by decide)
                · refine q_iconst hF dX8_open_94 ?_
                  refine q_goto hF dX8_open_95 ?_
                  refine q_iconst hF dX8_open_99 ?_
                  refine q_iconst hF dX8_open_100 ?_
                  refine q_callV (kc := 0) (ks := 0) (mc' := 0) (ms' := 0) (h' := 0) (st := []) hF vl_RX8_251 rfl [qI 1, qI 3, qI 2] rfl rfl hS.t0 (by decide) (Nat.le_of_ble_eq_true rfl) dX8_open_101 ?_
                  refine mX8_bad1 (j := 2) hS hSA (u2_s _ _ _ _) (by omega) rfl (by decide) ?_
                  rw [show (u2 I m 0 0) (m + 1) 2 = I (m + 1) 2 from (u2_k _ _ (by decide))]
                  refine q_ifeq hF (by decide) dX8_open_104 (fun c104 => ?_) (fun c104 => ?_)
                  · exact absurd c104 (by decide)
                  · refine q_iconst hF dX8_open_107 ?_
                    refine q_ireturn hF rfl dX8_open_108 ?_
                    exact k3 (by omega) (by omega) (by omega)
            · refine q_iconst hF dX8_open_71 ?_
              refine q_goto hF dX8_open_72 ?_
              refine q_iconst hF dX8_open_76 ?_
              refine q_iconst hF dX8_open_77 ?_
              refine q_callV (kc := 0) (ks := 0) (mc' := 0) (ms' := 0) (h' := 0) (st := []) hF vl_RX8_251 rfl [qI 1, qI 2, qI 1] rfl rfl hS.t0 (by decide) (Nat.le_of_ble_eq_true rfl) dX8_open_78 ?_
              refine mX8_bad1 (j := 1) hS hSA (u2_s _ _ _ _) (by omega) rfl (by decide) ?_
              rw [show (u2 I m 0 0) (m + 1) 1 = I (m + 1) 1 from (u2_k _ _ (by decide))]
              refine q_ifne hF (by decide) dX8_open_81 (fun c81 => ?_) (fun c81 => ?_)
              · refine q_iconst hF dX8_open_107 ?_
                refine q_ireturn hF rfl dX8_open_108 ?_
                exact k2 (by omega) (by omega)
              · exact absurd c81 (by decide)
      · refine q_aload_n hF 0 rfl rfl dX8_open_24 ?_
        refine q_iload_n hF 3 rfl rfl dX8_open_25 ?_
        refine q_callV (kc := 0) (ks := 0) (mc' := 0) (ms' := 0) (h' := 1) (st := [.ref m]) hF vl_RX8_343 rfl [qI bi] rfl rfl hS.t0 (by decide) (Nat.le_of_ble_eq_true rfl) dX8_open_26 ?_
        refine mX8_isLand hS hv h3 ?_
        refine q_ifne_b hF dX8_open_29 (fun c29 => ?_) (fun c29 => ?_)
        · refine q_iconst hF dX8_open_36 ?_
          refine q_iconst hF dX8_open_37 ?_
          refine q_iconst hF dX8_open_38 ?_
          refine q_callV (kc := 0) (ks := 0) (mc' := 0) (ms' := 0) (h' := 0) (st := []) hF vl_RX8_251 rfl [qI 0, qI 1, qI 0] rfl rfl hS.t0 (by decide) (Nat.le_of_ble_eq_true rfl) dX8_open_39 ?_
          refine mX8_bad0 hS hSA (u2_s _ _ _ _) ?_
          refine q_ifne hF (by decide) dX8_open_42 (fun c42 => ?_) (fun c42 => ?_)
          · exact absurd c42 (by decide)
          · refine q_aload_n hF 0 rfl rfl dX8_open_45 ?_
            refine q_iload_n hF 1 rfl rfl dX8_open_46 ?_
            refine q_i2l hF h1 dX8_open_47 ?_
            refine q_lconst hF (z := 0) rfl dX8_open_48 ?_
            refine q_ldc2 hF (n := 4) (q_mem 1529 (by decide +kernel) rfl) dX8_open_49 ?_
            refine q_callS (kc := 0) (ks := 0) (mc' := 0) (ms' := 0) (h' := 0) (st := [.ref m]) hF sl_RX8_123 rfl [qL kd, qL 0, qL 4] rfl rfl (by decide) (Nat.le_of_ble_eq_true rfl) dX8_open_52 ?_
            refine mX8_in (by omega) (by decide) (by decide) ?_
            refine q_ifeq_b hF dX8_open_55 (fun c55 => ?_) (fun c55 => ?_)
            · refine q_iconst hF dX8_open_71 ?_
              refine q_goto hF dX8_open_72 ?_
              refine q_iconst hF dX8_open_76 ?_
              refine q_iconst hF dX8_open_77 ?_
              refine q_callV (kc := 0) (ks := 0) (mc' := 0) (ms' := 0) (h' := 0) (st := []) hF vl_RX8_251 rfl [qI 1, qI 2, qI 1] rfl rfl hS.t0 (by decide) (Nat.le_of_ble_eq_true rfl) dX8_open_78 ?_
              refine mX8_bad1 (j := 1) hS hSA (u2_s _ _ _ _) (by omega) rfl (by decide) ?_
              rw [show (u2 I m 0 0) (m + 1) 1 = I (m + 1) 1 from (u2_k _ _ (by decide))]
              refine q_ifne hF (by decide) dX8_open_81 (fun c81 => ?_) (fun c81 => ?_)
              · refine q_iconst hF dX8_open_107 ?_
                refine q_ireturn hF rfl dX8_open_108 ?_
                exact k2 (by omega) (by omega)
              · exact absurd c81 (by decide)
            · refine q_iload hF 4 rfl dX8_open_58 ?_
              refine q_i2l hF h4 dX8_open_60 ?_
              refine q_lconst hF (z := 0) rfl dX8_open_61 ?_
              refine q_ldc2 hF (n := 100000000) (q_mem 1530 (by decide +kernel) rfl) dX8_open_62 ?_
              refine q_callS (kc := 0) (ks := 0) (mc' := 0) (ms' := 0) (h' := 0) (st := [.ref m]) hF sl_RX8_123 rfl [qL ce, qL 0, qL 100000000] rfl rfl (by decide) (Nat.le_of_ble_eq_true rfl) dX8_open_65 ?_
              refine mX8_in (by omega) (by decide) (by decide) ?_
              refine q_ifne_b hF dX8_open_68 (fun c68 => ?_) (fun c68 => ?_)
              · refine q_iconst hF dX8_open_75 ?_
                refine q_iconst hF dX8_open_76 ?_
                refine q_iconst hF dX8_open_77 ?_
                refine q_callV (kc := 0) (ks := 0) (mc' := 0) (ms' := 0) (h' := 0) (st := []) hF vl_RX8_251 rfl [qI 0, qI 2, qI 1] rfl rfl hS.t0 (by decide) (Nat.le_of_ble_eq_true rfl) dX8_open_78 ?_
                refine mX8_bad0 hS hSA (u2_s _ _ _ _) ?_
                refine q_ifne hF (by decide) dX8_open_81 (fun c81 => ?_) (fun c81 => ?_)
                · exact absurd c81 (by decide)
                · refine q_aload_n hF 0 rfl rfl dX8_open_84 ?_
                  refine q_aload_n hF 0 rfl rfl dX8_open_85 ?_
                  refine q_callV (kc := 0) (ks := 0) (mc' := 0) (ms' := 0) (h' := 0) (st := [.ref m]) hF vl_RX8_337 rfl [] rfl rfl hS.t0 (by decide) (Nat.le_of_ble_eq_true rfl) dX8_open_86 ?_
                  refine mX8_many hS ?_
                  rw [show L (m + 3) 1 = (i : Int) from hmn]
                  refine q_bipush hF (n := 12) rfl dX8_open_89 ?_
                  refine q_icmpne hF (by omega) (by decide) dX8_open_91 (fun c91 => ?_) (fun c91 => ?_)
                  · refine q_iconst hF dX8_open_98 ?_
                    refine q_iconst hF dX8_open_99 ?_
                    refine q_iconst hF dX8_open_100 ?_
                    refine q_callV (kc := 0) (ks := 0) (mc' := 0) (ms' := 0) (h' := 0) (st := []) hF vl_RX8_251 rfl [qI 0, qI 3, qI 2] rfl rfl hS.t0 (by decide) (Nat.le_of_ble_eq_true rfl) dX8_open_101 ?_
                    refine mX8_bad0 hS hSA (u2_s _ _ _ _) ?_
                    refine q_ifeq hF (by decide) dX8_open_104 (fun c104 => ?_) (fun c104 => ?_)
                    · refine q_aload_n hF 0 rfl rfl dX8_open_109 ?_
                      refine q_callV (kc := 0) (ks := 0) (mc' := 0) (ms' := 0) (h' := 2) (st := []) hF vl_RX8_258 rfl [] rfl rfl hS.t0 (by decide) (Nat.le_of_ble_eq_true rfl) dX8_open_110 ?_
                      refine mX8_remembers (bk := bk) hS hSA (((u2_k _ _ (by decide)).trans hb)) (by omega) hz (fun LR c110_0 => ?_)
                      refine q_aload_n hF 0 rfl rfl dX8_open_113 ?_
                      refine q_callV (kc := 0) (ks := 0) (mc' := 0) (ms' := 0) (h' := 0) (st := []) hF vl_RX8_337 rfl [] rfl rfl hS.t0 (by decide) (Nat.le_of_ble_eq_true rfl) dX8_open_114 ?_
                      refine mX8_many hS ?_
                      rw [show LR (m + 3) 1 = (i : Int) from ((c110_0.1 _ _ (by omega)).trans hmn)]
                      refine q_istore hF (ls' := [(5, qI ((i : Int))), (0, .ref m), (1, qI kd), (2, qI ad), (3, qI bi), (4, qI ce)]) (by decide) rfl dX8_open_117 ?_
                      refine q_iconst hF dX8_open_119 ?_
                      refine q_istore hF (ls' := [(6, qI 0), (5, qI ((i : Int))), (0, .ref m), (1, qI kd), (2, qI ad), (3, qI bi), (4, qI ce)]) (by decide) rfl dX8_open_120 ?_
                      refine q_iload hF 0 rfl dX8_open_122 ?_
                      refine q_bipush hF (n := 12) rfl dX8_open_124 ?_
                      refine q_icmpge hF (by decide) (by decide) dX8_open_126 (fun c126 => ?_) (fun c126 => ?_)
                      · exact absurd c126 (by decide)
                      · refine q_aload_n hF 2 rfl rfl dX8_open_129 ?_
                        refine q_getA hF fl_RX8_20 rfl hS.t0 hS.p9 dX8_open_130 ?_
                        refine q_iload hF 1 rfl dX8_open_133 ?_
                        refine q_iload hF 0 rfl dX8_open_135 ?_
                        refine q_lconst hF (z := 0) rfl dX8_open_137 ?_
                        refine q_callS (kc := 0) (ks := 0) (mc' := 0) (ms' := 0) (h' := 1) (st := []) hF sl_RX8_299 rfl [.ref (m + 3), qI ((i : Int)), qI 0, qL 0] rfl rfl (by decide) (Nat.le_of_ble_eq_true rfl) dX8_open_138 ?_
                        refine mX8_sets (j := (1039 + 12 * i)) hS.t3 (q_Ale hSA (by omega)) (by omega) (by have := hv.many; have := hv.lands; omega) ?_
                        refine q_iinc hF (z' := 1) (ls' := [(6, qI 1), (5, qI ((i : Int))), (0, .ref m), (1, qI kd), (2, qI ad), (3, qI bi), (4, qI ce)]) 0 rfl (by first | rfl | omega) (by decide) rfl dX8_open_141 ?_
                        refine q_goto hF dX8_open_144 ?_
                        refine q_iload hF 0 rfl dX8_open_122 ?_
                        refine q_bipush hF (n := 12) rfl dX8_open_124 ?_
                        refine q_icmpge hF (by decide) (by decide) dX8_open_126 (fun c126 => ?_) (fun c126 => ?_)
                        · exact absurd c126 (by decide)
                        · refine q_aload_n hF 2 rfl rfl dX8_open_129 ?_
                          refine q_getA hF fl_RX8_20 rfl hS.t0 hS.p9 dX8_open_130 ?_
                          refine q_iload hF 1 rfl dX8_open_133 ?_
                          refine q_iload hF 0 rfl dX8_open_135 ?_
                          refine q_lconst hF (z := 0) rfl dX8_open_137 ?_
                          refine q_callS (kc := 0) (ks := 0) (mc' := 0) (ms' := 0) (h' := 1) (st := []) hF sl_RX8_299 rfl [.ref (m + 3), qI ((i : Int)), qI 1, qL 0] rfl rfl (by decide) (Nat.le_of_ble_eq_true rfl) dX8_open_138 ?_
                          refine mX8_sets (j := (1040 + 12 * i)) hS.t3 (q_Ale hSA (by omega)) (by omega) (by have := hv.many; have := hv.lands; omega) ?_
                          refine q_iinc hF (z' := 2) (ls' := [(6, qI 2), (5, qI ((i : Int))), (0, .ref m), (1, qI kd), (2, qI ad), (3, qI bi), (4, qI ce)]) 0 rfl (by first | rfl | omega) (by decide) rfl dX8_open_141 ?_
                          refine q_goto hF dX8_open_144 ?_
                          refine q_iload hF 0 rfl dX8_open_122 ?_
                          refine q_bipush hF (n := 12) rfl dX8_open_124 ?_
                          refine q_icmpge hF (by decide) (by decide) dX8_open_126 (fun c126 => ?_) (fun c126 => ?_)
                          · exact absurd c126 (by decide)
                          · refine q_aload_n hF 2 rfl rfl dX8_open_129 ?_
                            refine q_getA hF fl_RX8_20 rfl hS.t0 hS.p9 dX8_open_130 ?_
                            refine q_iload hF 1 rfl dX8_open_133 ?_
                            refine q_iload hF 0 rfl dX8_open_135 ?_
                            refine q_lconst hF (z := 0) rfl dX8_open_137 ?_
                            refine q_callS (kc := 0) (ks := 0) (mc' := 0) (ms' := 0) (h' := 1) (st := []) hF sl_RX8_299 rfl [.ref (m + 3), qI ((i : Int)), qI 2, qL 0] rfl rfl (by decide) (Nat.le_of_ble_eq_true rfl) dX8_open_138 ?_
                            refine mX8_sets (j := (1041 + 12 * i)) hS.t3 (q_Ale hSA (by omega)) (by omega) (by have := hv.many; have := hv.lands; omega) ?_
                            refine q_iinc hF (z' := 3) (ls' := [(6, qI 3), (5, qI ((i : Int))), (0, .ref m), (1, qI kd), (2, qI ad), (3, qI bi), (4, qI ce)]) 0 rfl (by first | rfl | omega) (by decide) rfl dX8_open_141 ?_
                            refine q_goto hF dX8_open_144 ?_
                            refine q_iload hF 0 rfl dX8_open_122 ?_
                            refine q_bipush hF (n := 12) rfl dX8_open_124 ?_
                            refine q_icmpge hF (by decide) (by decide) dX8_open_126 (fun c126 => ?_) (fun c126 => ?_)
                            · exact absurd c126 (by decide)
                            · refine q_aload_n hF 2 rfl rfl dX8_open_129 ?_
                              refine q_getA hF fl_RX8_20 rfl hS.t0 hS.p9 dX8_open_130 ?_
                              refine q_iload hF 1 rfl dX8_open_133 ?_
                              refine q_iload hF 0 rfl dX8_open_135 ?_
                              refine q_lconst hF (z := 0) rfl dX8_open_137 ?_
                              refine q_callS (kc := 0) (ks := 0) (mc' := 0) (ms' := 0) (h' := 1) (st := []) hF sl_RX8_299 rfl [.ref (m + 3), qI ((i : Int)), qI 3, qL 0] rfl rfl (by decide) (Nat.le_of_ble_eq_true rfl) dX8_open_138 ?_
                              refine mX8_sets (j := (1042 + 12 * i)) hS.t3 (q_Ale hSA (by omega)) (by omega) (by have := hv.many; have := hv.lands; omega) ?_
                              refine q_iinc hF (z' := 4) (ls' := [(6, qI 4), (5, qI ((i : Int))), (0, .ref m), (1, qI kd), (2, qI ad), (3, qI bi), (4, qI ce)]) 0 rfl (by first | rfl | omega) (by decide) rfl dX8_open_141 ?_
                              refine q_goto hF dX8_open_144 ?_
                              refine q_iload hF 0 rfl dX8_open_122 ?_
                              refine q_bipush hF (n := 12) rfl dX8_open_124 ?_
                              refine q_icmpge hF (by decide) (by decide) dX8_open_126 (fun c126 => ?_) (fun c126 => ?_)
                              · exact absurd c126 (by decide)
                              · refine q_aload_n hF 2 rfl rfl dX8_open_129 ?_
                                refine q_getA hF fl_RX8_20 rfl hS.t0 hS.p9 dX8_open_130 ?_
                                refine q_iload hF 1 rfl dX8_open_133 ?_
                                refine q_iload hF 0 rfl dX8_open_135 ?_
                                refine q_lconst hF (z := 0) rfl dX8_open_137 ?_
                                refine q_callS (kc := 0) (ks := 0) (mc' := 0) (ms' := 0) (h' := 1) (st := []) hF sl_RX8_299 rfl [.ref (m + 3), qI ((i : Int)), qI 4, qL 0] rfl rfl (by decide) (Nat.le_of_ble_eq_true rfl) dX8_open_138 ?_
                                refine mX8_sets (j := (1043 + 12 * i)) hS.t3 (q_Ale hSA (by omega)) (by omega) (by have := hv.many; have := hv.lands; omega) ?_
                                refine q_iinc hF (z' := 5) (ls' := [(6, qI 5), (5, qI ((i : Int))), (0, .ref m), (1, qI kd), (2, qI ad), (3, qI bi), (4, qI ce)]) 0 rfl (by first | rfl | omega) (by decide) rfl dX8_open_141 ?_
                                refine q_goto hF dX8_open_144 ?_
                                refine q_iload hF 0 rfl dX8_open_122 ?_
                                refine q_bipush hF (n := 12) rfl dX8_open_124 ?_
                                refine q_icmpge hF (by decide) (by decide) dX8_open_126 (fun c126 => ?_) (fun c126 => ?_)
                                · exact absurd c126 (by decide)
                                · refine q_aload_n hF 2 rfl rfl dX8_open_129 ?_
                                  refine q_getA hF fl_RX8_20 rfl hS.t0 hS.p9 dX8_open_130 ?_
                                  refine q_iload hF 1 rfl dX8_open_133 ?_
                                  refine q_iload hF 0 rfl dX8_open_135 ?_
                                  refine q_lconst hF (z := 0) rfl dX8_open_137 ?_
                                  refine q_callS (kc := 0) (ks := 0) (mc' := 0) (ms' := 0) (h' := 1) (st := []) hF sl_RX8_299 rfl [.ref (m + 3), qI ((i : Int)), qI 5, qL 0] rfl rfl (by decide) (Nat.le_of_ble_eq_true rfl) dX8_open_138 ?_
                                  refine mX8_sets (j := (1044 + 12 * i)) hS.t3 (q_Ale hSA (by omega)) (by omega) (by have := hv.many; have := hv.lands; omega) ?_
                                  refine q_iinc hF (z' := 6) (ls' := [(6, qI 6), (5, qI ((i : Int))), (0, .ref m), (1, qI kd), (2, qI ad), (3, qI bi), (4, qI ce)]) 0 rfl (by first | rfl | omega) (by decide) rfl dX8_open_141 ?_
                                  refine q_goto hF dX8_open_144 ?_
                                  refine q_iload hF 0 rfl dX8_open_122 ?_
                                  refine q_bipush hF (n := 12) rfl dX8_open_124 ?_
                                  refine q_icmpge hF (by decide) (by decide) dX8_open_126 (fun c126 => ?_) (fun c126 => ?_)
                                  · exact absurd c126 (by decide)
                                  · refine q_aload_n hF 2 rfl rfl dX8_open_129 ?_
                                    refine q_getA hF fl_RX8_20 rfl hS.t0 hS.p9 dX8_open_130 ?_
                                    refine q_iload hF 1 rfl dX8_open_133 ?_
                                    refine q_iload hF 0 rfl dX8_open_135 ?_
                                    refine q_lconst hF (z := 0) rfl dX8_open_137 ?_
                                    refine q_callS (kc := 0) (ks := 0) (mc' := 0) (ms' := 0) (h' := 1) (st := []) hF sl_RX8_299 rfl [.ref (m + 3), qI ((i : Int)), qI 6, qL 0] rfl rfl (by decide) (Nat.le_of_ble_eq_true rfl) dX8_open_138 ?_
                                    refine mX8_sets (j := (1045 + 12 * i)) hS.t3 (q_Ale hSA (by omega)) (by omega) (by have := hv.many; have := hv.lands; omega) ?_
                                    refine q_iinc hF (z' := 7) (ls' := [(6, qI 7), (5, qI ((i : Int))), (0, .ref m), (1, qI kd), (2, qI ad), (3, qI bi), (4, qI ce)]) 0 rfl (by first | rfl | omega) (by decide) rfl dX8_open_141 ?_
                                    refine q_goto hF dX8_open_144 ?_
                                    refine q_iload hF 0 rfl dX8_open_122 ?_
                                    refine q_bipush hF (n := 12) rfl dX8_open_124 ?_
                                    refine q_icmpge hF (by decide) (by decide) dX8_open_126 (fun c126 => ?_) (fun c126 => ?_)
                                    · exact absurd c126 (by decide)
                                    · refine q_aload_n hF 2 rfl rfl dX8_open_129 ?_
                                      refine q_getA hF fl_RX8_20 rfl hS.t0 hS.p9 dX8_open_130 ?_
                                      refine q_iload hF 1 rfl dX8_open_133 ?_
                                      refine q_iload hF 0 rfl dX8_open_135 ?_
                                      refine q_lconst hF (z := 0) rfl dX8_open_137 ?_
                                      refine q_callS (kc := 0) (ks := 0) (mc' := 0) (ms' := 0) (h' := 1) (st := []) hF sl_RX8_299 rfl [.ref (m + 3), qI ((i : Int)), qI 7, qL 0] rfl rfl (by decide) (Nat.le_of_ble_eq_true rfl) dX8_open_138 ?_
                                      refine mX8_sets (j := (1046 + 12 * i)) hS.t3 (q_Ale hSA (by omega)) (by omega) (by have := hv.many; have := hv.lands; omega) ?_
                                      refine q_iinc hF (z' := 8) (ls' := [(6, qI 8), (5, qI ((i : Int))), (0, .ref m), (1, qI kd), (2, qI ad), (3, qI bi), (4, qI ce)]) 0 rfl (by first | rfl | omega) (by decide) rfl dX8_open_141 ?_
                                      refine q_goto hF dX8_open_144 ?_
                                      refine q_iload hF 0 rfl dX8_open_122 ?_
                                      refine q_bipush hF (n := 12) rfl dX8_open_124 ?_
                                      refine q_icmpge hF (by decide) (by decide) dX8_open_126 (fun c126 => ?_) (fun c126 => ?_)
                                      · exact absurd c126 (by decide)
                                      · refine q_aload_n hF 2 rfl rfl dX8_open_129 ?_
                                        refine q_getA hF fl_RX8_20 rfl hS.t0 hS.p9 dX8_open_130 ?_
                                        refine q_iload hF 1 rfl dX8_open_133 ?_
                                        refine q_iload hF 0 rfl dX8_open_135 ?_
                                        refine q_lconst hF (z := 0) rfl dX8_open_137 ?_
                                        refine q_callS (kc := 0) (ks := 0) (mc' := 0) (ms' := 0) (h' := 1) (st := []) hF sl_RX8_299 rfl [.ref (m + 3), qI ((i : Int)), qI 8, qL 0] rfl rfl (by decide) (Nat.le_of_ble_eq_true rfl) dX8_open_138 ?_
                                        refine mX8_sets (j := (1047 + 12 * i)) hS.t3 (q_Ale hSA (by omega)) (by omega) (by have := hv.many; have := hv.lands; omega) ?_
                                        refine q_iinc hF (z' := 9) (ls' := [(6, qI 9), (5, qI ((i : Int))), (0, .ref m), (1, qI kd), (2, qI ad), (3, qI bi), (4, qI ce)]) 0 rfl (by first | rfl | omega) (by decide) rfl dX8_open_141 ?_
                                        refine q_goto hF dX8_open_144 ?_
                                        refine q_iload hF 0 rfl dX8_open_122 ?_
                                        refine q_bipush hF (n := 12) rfl dX8_open_124 ?_
                                        refine q_icmpge hF (by decide) (by decide) dX8_open_126 (fun c126 => ?_) (fun c126 => ?_)
                                        · exact absurd c126 (by decide)
                                        · refine q_aload_n hF 2 rfl rfl dX8_open_129 ?_
                                          refine q_getA hF fl_RX8_20 rfl hS.t0 hS.p9 dX8_open_130 ?_
                                          refine q_iload hF 1 rfl dX8_open_133 ?_
                                          refine q_iload hF 0 rfl dX8_open_135 ?_
                                          refine q_lconst hF (z := 0) rfl dX8_open_137 ?_
                                          refine q_callS (kc := 0) (ks := 0) (mc' := 0) (ms' := 0) (h' := 1) (st := []) hF sl_RX8_299 rfl [.ref (m + 3), qI ((i : Int)), qI 9, qL 0] rfl rfl (by decide) (Nat.le_of_ble_eq_true rfl) dX8_open_138 ?_
                                          refine mX8_sets (j := (1048 + 12 * i)) hS.t3 (q_Ale hSA (by omega)) (by omega) (by have := hv.many; have := hv.lands; omega) ?_
                                          refine q_iinc hF (z' := 10) (ls' := [(6, qI 10), (5, qI ((i : Int))), (0, .ref m), (1, qI kd), (2, qI ad), (3, qI bi), (4, qI ce)]) 0 rfl (by first | rfl | omega) (by decide) rfl dX8_open_141 ?_
                                          refine q_goto hF dX8_open_144 ?_
                                          refine q_iload hF 0 rfl dX8_open_122 ?_
                                          refine q_bipush hF (n := 12) rfl dX8_open_124 ?_
                                          refine q_icmpge hF (by decide) (by decide) dX8_open_126 (fun c126 => ?_) (fun c126 => ?_)
                                          · exact absurd c126 (by decide)
                                          · refine q_aload_n hF 2 rfl rfl dX8_open_129 ?_
                                            refine q_getA hF fl_RX8_20 rfl hS.t0 hS.p9 dX8_open_130 ?_
                                            refine q_iload hF 1 rfl dX8_open_133 ?_
                                            refine q_iload hF 0 rfl dX8_open_135 ?_
                                            refine q_lconst hF (z := 0) rfl dX8_open_137 ?_
                                            refine q_callS (kc := 0) (ks := 0) (mc' := 0) (ms' := 0) (h' := 1) (st := []) hF sl_RX8_299 rfl [.ref (m + 3), qI ((i : Int)), qI 10, qL 0] rfl rfl (by decide) (Nat.le_of_ble_eq_true rfl) dX8_open_138 ?_
                                            refine mX8_sets (j := (1049 + 12 * i)) hS.t3 (q_Ale hSA (by omega)) (by omega) (by have := hv.many; have := hv.lands; omega) ?_
                                            refine q_iinc hF (z' := 11) (ls' := [(6, qI 11), (5, qI ((i : Int))), (0, .ref m), (1, qI kd), (2, qI ad), (3, qI bi), (4, qI ce)]) 0 rfl (by first | rfl | omega) (by decide) rfl dX8_open_141 ?_
                                            refine q_goto hF dX8_open_144 ?_
                                            refine q_iload hF 0 rfl dX8_open_122 ?_
                                            refine q_bipush hF (n := 12) rfl dX8_open_124 ?_
                                            refine q_icmpge hF (by decide) (by decide) dX8_open_126 (fun c126 => ?_) (fun c126 => ?_)
                                            · exact absurd c126 (by decide)
                                            · refine q_aload_n hF 2 rfl rfl dX8_open_129 ?_
                                              refine q_getA hF fl_RX8_20 rfl hS.t0 hS.p9 dX8_open_130 ?_
                                              refine q_iload hF 1 rfl dX8_open_133 ?_
                                              refine q_iload hF 0 rfl dX8_open_135 ?_
                                              refine q_lconst hF (z := 0) rfl dX8_open_137 ?_
                                              refine q_callS (kc := 0) (ks := 0) (mc' := 0) (ms' := 0) (h' := 1) (st := []) hF sl_RX8_299 rfl [.ref (m + 3), qI ((i : Int)), qI 11, qL 0] rfl rfl (by decide) (Nat.le_of_ble_eq_true rfl) dX8_open_138 ?_
                                              refine mX8_sets (j := (1050 + 12 * i)) hS.t3 (q_Ale hSA (by omega)) (by omega) (by have := hv.many; have := hv.lands; omega) ?_
                                              refine q_iinc hF (z' := 12) (ls' := [(6, qI 12), (5, qI ((i : Int))), (0, .ref m), (1, qI kd), (2, qI ad), (3, qI bi), (4, qI ce)]) 0 rfl (by first | rfl | omega) (by decide) rfl dX8_open_141 ?_
                                              refine q_goto hF dX8_open_144 ?_
                                              refine q_iload hF 0 rfl dX8_open_122 ?_
                                              refine q_bipush hF (n := 12) rfl dX8_open_124 ?_
                                              refine q_icmpge hF (by decide) (by decide) dX8_open_126 (fun c126 => ?_) (fun c126 => ?_)
                                              · refine q_aload_n hF 2 rfl rfl dX8_open_147 ?_
                                                refine q_getA hF fl_RX8_20 rfl hS.t0 hS.p9 dX8_open_148 ?_
                                                refine q_iload hF 1 rfl dX8_open_151 ?_
                                                refine q_iconst hF dX8_open_153 ?_
                                                refine q_iload_n hF 3 rfl rfl dX8_open_154 ?_
                                                refine q_i2l hF h1 dX8_open_155 ?_
                                                refine q_callS (kc := 0) (ks := 0) (mc' := 0) (ms' := 0) (h' := 1) (st := []) hF sl_RX8_299 rfl [.ref (m + 3), qI ((i : Int)), qI 0, qL kd] rfl rfl (by decide) (Nat.le_of_ble_eq_true rfl) dX8_open_156 ?_
                                                refine mX8_sets (j := (1039 + 12 * i)) hS.t3 (q_Ale hSA (by omega)) (by omega) (by have := hv.many; have := hv.lands; omega) ?_
                                                refine q_aload_n hF 2 rfl rfl dX8_open_159 ?_
                                                refine q_getA hF fl_RX8_20 rfl hS.t0 hS.p9 dX8_open_160 ?_
                                                refine q_iload hF 1 rfl dX8_open_163 ?_
                                                refine q_iconst hF dX8_open_165 ?_
                                                refine q_iload_n hF 4 rfl rfl dX8_open_166 ?_
                                                refine q_i2l hF h2 dX8_open_167 ?_
                                                refine q_callS (kc := 0) (ks := 0) (mc' := 0) (ms' := 0) (h' := 1) (st := []) hF sl_RX8_299 rfl [.ref (m + 3), qI ((i : Int)), qI 1, qL ad] rfl rfl (by decide) (Nat.le_of_ble_eq_true rfl) dX8_open_168 ?_
                                                refine mX8_sets (j := (1040 + 12 * i)) hS.t3 (q_Ale hSA (by omega)) (by omega) (by have := hv.many; have := hv.lands; omega) ?_
                                                refine q_aload_n hF 2 rfl rfl dX8_open_171 ?_
                                                refine q_getA hF fl_RX8_20 rfl hS.t0 hS.p9 dX8_open_172 ?_
                                                refine q_iload hF 1 rfl dX8_open_175 ?_
                                                refine q_iconst hF dX8_open_177 ?_
                                                refine q_iload_n hF 5 rfl rfl dX8_open_178 ?_
                                                refine q_i2l hF h3 dX8_open_179 ?_
                                                refine q_callS (kc := 0) (ks := 0) (mc' := 0) (ms' := 0) (h' := 1) (st := []) hF sl_RX8_299 rfl [.ref (m + 3), qI ((i : Int)), qI 2, qL bi] rfl rfl (by decide) (Nat.le_of_ble_eq_true rfl) dX8_open_180 ?_
                                                refine mX8_sets (j := (1041 + 12 * i)) hS.t3 (q_Ale hSA (by omega)) (by omega) (by have := hv.many; have := hv.lands; omega) ?_
                                                refine q_aload_n hF 2 rfl rfl dX8_open_183 ?_
                                                refine q_getA hF fl_RX8_20 rfl hS.t0 hS.p9 dX8_open_184 ?_
                                                refine q_iload hF 1 rfl dX8_open_187 ?_
                                                refine q_iconst hF dX8_open_189 ?_
                                                refine q_iload hF 6 rfl dX8_open_190 ?_
                                                refine q_i2l hF h4 dX8_open_192 ?_
                                                refine q_callS (kc := 0) (ks := 0) (mc' := 0) (ms' := 0) (h' := 1) (st := []) hF sl_RX8_299 rfl [.ref (m + 3), qI ((i : Int)), qI 3, qL ce] rfl rfl (by decide) (Nat.le_of_ble_eq_true rfl) dX8_open_193 ?_
                                                refine mX8_sets (j := (1042 + 12 * i)) hS.t3 (q_Ale hSA (by omega)) (by omega) (by have := hv.many; have := hv.lands; omega) ?_
                                                refine q_aload_n hF 2 rfl rfl dX8_open_196 ?_
                                                refine q_getA hF fl_RX8_20 rfl hS.t0 hS.p9 dX8_open_197 ?_
                                                refine q_iload hF 1 rfl dX8_open_200 ?_
                                                refine q_bipush hF (n := 9) rfl dX8_open_202 ?_
                                                refine q_ldc2 hF (n := -1) (q_mem 1274 (by decide +kernel) rfl) dX8_open_204 ?_
                                                refine q_callS (kc := 0) (ks := 0) (mc' := 0) (ms' := 0) (h' := 1) (st := []) hF sl_RX8_299 rfl [.ref (m + 3), qI ((i : Int)), qI 9, qL (-1)] rfl rfl (by decide) (Nat.le_of_ble_eq_true rfl) dX8_open_207 ?_
                                                refine mX8_sets (j := (1048 + 12 * i)) hS.t3 (q_Ale hSA (by omega)) (by omega) (by have := hv.many; have := hv.lands; omega) ?_
                                                refine q_aload_n hF 2 rfl rfl dX8_open_210 ?_
                                                refine q_getA hF fl_RX8_20 rfl hS.t0 hS.p9 dX8_open_211 ?_
                                                refine q_iload hF 1 rfl dX8_open_214 ?_
                                                refine q_bipush hF (n := 8) rfl dX8_open_216 ?_
                                                refine q_ldc2 hF (n := -1) (q_mem 1274 (by decide +kernel) rfl) dX8_open_218 ?_
                                                refine q_callS (kc := 0) (ks := 0) (mc' := 0) (ms' := 0) (h' := 1) (st := []) hF sl_RX8_299 rfl [.ref (m + 3), qI ((i : Int)), qI 8, qL (-1)] rfl rfl (by decide) (Nat.le_of_ble_eq_true rfl) dX8_open_221 ?_
                                                refine mX8_sets (j := (1047 + 12 * i)) hS.t3 (q_Ale hSA (by omega)) (by omega) (by have := hv.many; have := hv.lands; omega) ?_
                                                refine q_aload_n hF 2 rfl rfl dX8_open_224 ?_
                                                refine q_getA hF fl_RX8_20 rfl hS.t0 hS.p9 dX8_open_225 ?_
                                                refine q_bipush hF (n := 17) rfl dX8_open_228 ?_
                                                refine q_dup2 hF rfl rfl dX8_open_230 ?_
                                                refine q_laloadv hF (z := L (m + 3) 17) (n := 1243) 17 hS.t3 rfl (by decide) (by decide) ((u2_k _ _ (by omega)).trans ((u2_k _ _ (by omega)).trans ((u2_k _ _ (by omega)).trans ((u2_k _ _ (by omega)).trans ((u2_k _ _ (by omega)).trans ((u2_k _ _ (by omega)).trans ((u2_k _ _ (by omega)).trans ((u2_k _ _ (by omega)).trans ((u2_k _ _ (by omega)).trans ((u2_k _ _ (by omega)).trans ((u2_k _ _ (by omega)).trans ((u2_k _ _ (by omega)).trans ((u2_k _ _ (by omega)).trans ((u2_k _ _ (by omega)).trans ((u2_k _ _ (by omega)).trans ((u2_k _ _ (by omega)).trans ((u2_k _ _ (by omega)).trans ((u2_k _ _ (by omega)).trans (c110_0.1 _ _ (by omega)))))))))))))))))))) dX8_open_231 ?_
                                                refine q_iload hF 6 rfl dX8_open_232 ?_
                                                refine q_i2l hF h4 dX8_open_234 ?_
                                                refine q_ladd hF dX8_open_235 ?_
                                                refine q_lastorev hF (n := 1243) 17 hS.t3 (q_Ale hSA (by omega)) rfl (by decide) (by decide) dX8_open_236 ?_
                                                refine q_aload_n hF 2 rfl rfl dX8_open_237 ?_
                                                refine q_getA hF fl_RX8_20 rfl hS.t0 hS.p9 dX8_open_238 ?_
                                                refine q_iconst hF dX8_open_241 ?_
                                                refine q_dup2 hF rfl rfl dX8_open_242 ?_
                                                refine q_laloadv hF (z := (i : Int)) (n := 1243) 1 hS.t3 rfl (by decide) (by decide) ((u2_k _ _ (by decide)).trans ((u2_k _ _ (by omega)).trans ((u2_k _ _ (by omega)).trans ((u2_k _ _ (by omega)).trans ((u2_k _ _ (by omega)).trans ((u2_k _ _ (by omega)).trans ((u2_k _ _ (by omega)).trans ((u2_k _ _ (by omega)).trans ((u2_k _ _ (by omega)).trans ((u2_k _ _ (by omega)).trans ((u2_k _ _ (by omega)).trans ((u2_k _ _ (by omega)).trans ((u2_k _ _ (by omega)).trans ((u2_k _ _ (by omega)).trans ((u2_k _ _ (by omega)).trans ((u2_k _ _ (by omega)).trans ((u2_k _ _ (by omega)).trans ((u2_k _ _ (by omega)).trans ((u2_k _ _ (by omega)).trans ((c110_0.1 _ _ (by omega)).trans hmn)))))))))))))))))))) dX8_open_243 ?_
                                                refine q_lconst hF (z := 1) rfl dX8_open_244 ?_
                                                refine q_ladd hF dX8_open_245 ?_
                                                refine q_lastorev hF (n := 1243) 1 hS.t3 (q_Ale hSA (by omega)) rfl (by decide) (by decide) dX8_open_246 ?_
                                                refine q_iload hF 1 rfl dX8_open_247 ?_
                                                refine q_ireturn hF rfl dX8_open_249 ?_
                                                have e3 : LR (m + 3) = L (m + 3) := funext fun k => c110_0.1 _ k (by omega)
                                                have q := k0 LR (by omega) (by omega) (by omega) c110_0
                                                rw [show u2 (u2 (u2 (u2 (u2 (u2 (u2 (u2 (u2 (u2 (u2 (u2 (u2 (u2 (u2 (u2 (u2 (u2 (u2 (u2 LR (m + 3) (1039 + 12 * i) 0) (m + 3) (1040 + 12 * i) 0) (m + 3) (1041 + 12 * i) 0) (m + 3) (1042 + 12 * i) 0) (m + 3) (1043 + 12 * i) 0) (m + 3) (1044 + 12 * i) 0) (m + 3) (1045 + 12 * i) 0) (m + 3) (1046 + 12 * i) 0) (m + 3) (1047 + 12 * i) 0) (m + 3) (1048 + 12 * i) 0) (m + 3) (1049 + 12 * i) 0) (m + 3) (1050 + 12 * i) 0) (m + 3) (1039 + 12 * i) kd) (m + 3) (1040 + 12 * i) ad) (m + 3) (1041 + 12 * i) bi) (m + 3) (1042 + 12 * i) ce) (m + 3) (1048 + 12 * i) (-1)) (m + 3) (1047 + 12 * i) (-1)) (m + 3) 17 ((L (m + 3) 17) + ce)) (m + 3) 1 ((i : Int) + 1) = q_row LR (m + 3) (g_oopen (L (m + 3)) i kd ad bi ce) from by rw [q_row_u1 LR, q_row_u, q_row_u, q_row_u, q_row_u, q_row_u, q_row_u, q_row_u, q_row_u, q_row_u, q_row_u, q_row_u, q_row_u, q_row_u, q_row_u, q_row_u, q_row_u, q_row_u, q_row_u, q_row_u, e3]; rfl]
                                                exact q
                                              · exact absurd c126 (by decide)
                    · exact absurd c104 (by decide)
                  · refine q_iconst hF dX8_open_94 ?_
                    refine q_goto hF dX8_open_95 ?_
                    refine q_iconst hF dX8_open_99 ?_
                    refine q_iconst hF dX8_open_100 ?_
                    refine q_callV (kc := 0) (ks := 0) (mc' := 0) (ms' := 0) (h' := 0) (st := []) hF vl_RX8_251 rfl [qI 1, qI 3, qI 2] rfl rfl hS.t0 (by decide) (Nat.le_of_ble_eq_true rfl) dX8_open_101 ?_
                    refine mX8_bad1 (j := 2) hS hSA (u2_s _ _ _ _) (by omega) rfl (by decide) ?_
                    rw [show (u2 I m 0 0) (m + 1) 2 = I (m + 1) 2 from (u2_k _ _ (by decide))]
                    refine q_ifeq hF (by decide) dX8_open_104 (fun c104 => ?_) (fun c104 => ?_)
                    · exact absurd c104 (by decide)
                    · refine q_iconst hF dX8_open_107 ?_
                      refine q_ireturn hF rfl dX8_open_108 ?_
                      exact k3 (by omega) (by omega) (by omega)
              · refine q_iconst hF dX8_open_71 ?_
                refine q_goto hF dX8_open_72 ?_
                refine q_iconst hF dX8_open_76 ?_
                refine q_iconst hF dX8_open_77 ?_
                refine q_callV (kc := 0) (ks := 0) (mc' := 0) (ms' := 0) (h' := 0) (st := []) hF vl_RX8_251 rfl [qI 1, qI 2, qI 1] rfl rfl hS.t0 (by decide) (Nat.le_of_ble_eq_true rfl) dX8_open_78 ?_
                refine mX8_bad1 (j := 1) hS hSA (u2_s _ _ _ _) (by omega) rfl (by decide) ?_
                rw [show (u2 I m 0 0) (m + 1) 1 = I (m + 1) 1 from (u2_k _ _ (by decide))]
                refine q_ifne hF (by decide) dX8_open_81 (fun c81 => ?_) (fun c81 => ?_)
                · refine q_iconst hF dX8_open_107 ?_
                  refine q_ireturn hF rfl dX8_open_108 ?_
                  exact k2 (by omega) (by omega)
                · exact absurd c81 (by decide)
        · refine q_iconst hF dX8_open_32 ?_
          refine q_goto hF dX8_open_33 ?_
          refine q_iconst hF dX8_open_37 ?_
          refine q_iconst hF dX8_open_38 ?_
          refine q_callV (kc := 0) (ks := 0) (mc' := 0) (ms' := 0) (h' := 0) (st := []) hF vl_RX8_251 rfl [qI 1, qI 1, qI 0] rfl rfl hS.t0 (by decide) (Nat.le_of_ble_eq_true rfl) dX8_open_39 ?_
          refine mX8_bad1 (j := 0) hS hSA (u2_s _ _ _ _) (by omega) rfl (by decide) ?_
          rw [show (u2 I m 0 0) (m + 1) 0 = I (m + 1) 0 from (u2_a _ _ (by omega))]
          refine q_ifne hF (by decide) dX8_open_42 (fun c42 => ?_) (fun c42 => ?_)
          · refine q_iconst hF dX8_open_107 ?_
            refine q_ireturn hF rfl dX8_open_108 ?_
            exact k1 (by omega)
          · exact absurd c42 (by decide)
