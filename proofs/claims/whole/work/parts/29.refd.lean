/-! the reference: what comes -/
set_option maxRecDepth 100000 in
theorem lX8_soon {G : q_G} {F : q_F} {Q : q_Q} {kc ks sz : Nat} {T : q_T} {m mn i : Nat} {b : Int} {R : Int × (Nat → Int)} {I L : q_I} {P : q_P} (hF : q_ok G F YX8_soon 6) (hS : q_SM T P m) (hSA : q_A G m) (hv : g_V0 (L (m + 3))) (hi : i < mn) (hm12 : mn ≤ 12) (k0 : ∀ (M : q_I), (∀ q k, q ≠ m + 5 → q ≠ m + 15 → M q k = L q k) → M (m + 5) = R.2 → g_Zr (M (m + 5)) → Q (.inl (some (qI R.1))) sz T I M P) : ∀ (n : Nat) (k : Nat) (M : q_I), 601 - k < n → 1 ≤ k ∧ k ≤ 601 → (∀ q k, q ≠ m + 5 → q ≠ m + 15 → M q k = L q k) → g_VM (M (m + 5)) 0 (L (m + 3) 2 + (k : Int) - 1) → M (m + 5) 1 = (mn : Int) → g_Zr (M (m + 5)) → g_run (L (m + 3) 2) 600 i (601 - k) k (M (m + 5)) = R → qX G F Q kc ks 42 [(2, qI (k : Int)), (0, .ref m), (1, qI (i : Int))] [] sz T I M P := by
  intro n
  induction n with
  | zero => intro k M hn; exact absurd hn (Nat.not_lt_zero _)
  | succ n ih =>
    intro k M hn hk hM hVM h1 hz hH
    have hmo := hv.month
    have hA := hVM.2.1 i (by omega)
    rw [if_neg (Nat.not_lt_zero _)] at hA
    refine q_iload_n hF 0 rfl rfl dX8_soon_42 ?_
    refine q_sipush hF (n := 600) rfl dX8_soon_43 ?_
    refine q_icmpgt hF (by omega) (by decide) dX8_soon_46 (fun c46 => ?_) (fun c46 => ?_)
    · refine q_iconst hF dX8_soon_94 ?_
      refine q_ireturn hF rfl dX8_soon_95 ?_
      have hR : g_run (L (m + 3) 2) 600 i (601 - k) k (M (m + 5)) = (-1, M (m + 5)) := by
        cases hf : (601 - k) with
        | zero => rfl
        | succ f => rw [g_run_s, if_neg (by omega)]
      rw [hR] at hH
      subst hH
      exact k0 M hM rfl hz
    · refine q_aload_n hF 1 rfl rfl dX8_soon_49 ?_
      refine q_getA hF fl_RX8_20 rfl hS.t0 hS.p9 dX8_soon_50 ?_
      refine q_iconst hF dX8_soon_53 ?_
      refine q_laloadv hF (z := L (m + 3) 2) (n := 1243) 2 hS.t3 rfl (by decide) (by decide) (hM _ _ (by omega) (by omega)) dX8_soon_54 ?_
      refine q_iload_n hF 0 rfl rfl dX8_soon_55 ?_
      refine q_i2l hF (by omega) dX8_soon_56 ?_
      refine q_ladd hF dX8_soon_57 ?_
      refine q_ldc2 hF (n := 6000) (q_mem 1587 (by decide +kernel) rfl) dX8_soon_58 ?_
      refine q_cmpgt hF (by omega) (by decide) dX8_soon_61 dX8_soon_62 (fun c62 => ?_) (fun c62 => ?_)
      · refine q_iconst hF dX8_soon_94 ?_
        refine q_ireturn hF rfl dX8_soon_95 ?_
        have hR : g_run (L (m + 3) 2) 600 i (601 - k) k (M (m + 5)) = (-1, M (m + 5)) := by
          cases hf : (601 - k) with
          | zero => rfl
          | succ f => rw [g_run_s, if_neg (by omega)]
        rw [hR] at hH
        subst hH
        exact k0 M hM rfl hz
      · refine q_aload_n hF 1 rfl rfl dX8_soon_65 ?_
        refine q_aload_n hF 1 rfl rfl dX8_soon_66 ?_
        refine q_getA hF fl_RX8_27 rfl hS.t0 hS.p11 dX8_soon_67 ?_
        refine q_iload_n hF 2 rfl rfl dX8_soon_70 ?_
        refine q_aload_n hF 1 rfl rfl dX8_soon_71 ?_
        refine q_getA hF fl_RX8_20 rfl hS.t0 hS.p9 dX8_soon_72 ?_
        refine q_iconst hF dX8_soon_75 ?_
        refine q_laloadv hF (z := L (m + 3) 2) (n := 1243) 2 hS.t3 rfl (by decide) (by decide) (hM _ _ (by omega) (by omega)) dX8_soon_76 ?_
        refine q_iload_n hF 0 rfl rfl dX8_soon_77 ?_
        refine q_i2l hF (by omega) dX8_soon_78 ?_
        refine q_ladd hF dX8_soon_79 ?_
        refine q_callV (kc := kc) (ks := ks) (mc' := 0) (ms' := 0) (h' := 4) (st := []) hF vl_RX8_330 rfl [.ref (m + 5), qI (i : Int), qL ((L (m + 3) 2) + (k : Int))] rfl rfl hS.t0 (by decide) (Nat.le_of_ble_eq_true rfl) dX8_soon_80 ?_
        refine mX8_goes (a := i) hS hSA hS.t5 (q_Ale hSA (by omega)) (by omega) hVM.1 hA (by omega) (by omega) (by omega) (hVM.row (by omega)) (fun L' z c80_0 c80_1 c80_2 => ?_)
        refine q_ifeq hF (by omega) dX8_soon_83 (fun c83 => ?_) (fun c83 => ?_)
        · refine q_iinc hF (z' := ((1 + k : Nat) : Int)) (ls' := [(2, qI ((1 + k : Nat) : Int)), (0, .ref m), (1, qI (i : Int))]) 0 rfl (by first | rfl | omega) (by decide) rfl dX8_soon_88 ?_
          refine q_goto hF dX8_soon_91 ?_
          rw [show 601 - k = (601 - (1 + k)) + 1 by omega, g_run_s, if_pos ⟨by omega, by omega⟩, c80_1] at hH
          dsimp only at hH
          rw [if_neg (by omega), Nat.add_comm k 1] at hH
          have q9 : (g_goes (M (m + 5)) i (L (m + 3) 2 + (k : Int))).2 = L' (m + 5) := by rw [c80_1]
          have h9 := hVM.one (a := i) (by omega) (by omega)
          rw [show L (m + 3) 2 + (k : Int) - 1 + 1 = L (m + 3) 2 + k by omega, q9] at h9
          have hr := hVM.1.rows
          exact ih (1 + k) L' (by omega) (by omega) (fun q k x1 x2 => (c80_0 q k x1 x2).trans (hM q k x1 x2)) (by rw [show L (m + 3) 2 + ((1 + k : Nat) : Int) - 1 = L (m + 3) 2 + (k : Int) from by omega]; exact h9) (by rw [← q9, g_goes_n hr.1 (by omega) (by omega) (by omega) (by omega) (by omega) (by omega)]; exact h1) (by rw [← q9]; exact hz.goes (by omega) hr.1 (hVM.row (by omega))) hH
        · refine q_iload_n hF 0 rfl rfl dX8_soon_86 ?_
          refine q_ireturn hF rfl dX8_soon_87 ?_
          rw [show 601 - k = (601 - (1 + k)) + 1 by omega, g_run_s, if_pos ⟨by omega, by omega⟩, c80_1] at hH
          dsimp only at hH
          rw [if_pos (by omega)] at hH
          subst hH
          have q9 : (g_goes (M (m + 5)) i (L (m + 3) 2 + (k : Int))).2 = L' (m + 5) := by rw [c80_1]
          have hr := hVM.1.rows
          exact k0 L' (fun q k x1 x2 => (c80_0 q k x1 x2).trans (hM q k x1 x2)) rfl (by rw [← q9]; exact hz.goes (by omega) hr.1 (hVM.row (by omega)))
set_option maxRecDepth 100000 in
theorem lX8_handedBy {G : q_G} {F : q_F} {Q : q_Q} {kc ks sz : Nat} {T : q_T} {m mn i nn : Nat} {b : Int} {R : Int × (Nat → Int)} {I L : q_I} {P : q_P} (hF : q_ok G F YX8_handedBy 5) (hS : q_SM T P m) (hSA : q_A G m) (hv : g_V0 (L (m + 3))) (hi : i < mn) (hm12 : mn ≤ 12) (hn : nn ≤ 600) (k0 : ∀ (M : q_I), (∀ q k, q ≠ m + 5 → q ≠ m + 15 → M q k = L q k) → M (m + 5) = R.2 → g_Zr (M (m + 5)) → Q (.inl (some (qL (if R.1 = -1 then 0 else R.2 (1042 + 12 * i))))) sz T I M P) : ∀ (n : Nat) (k : Nat) (M : q_I), 601 - k < n → 1 ≤ k ∧ k ≤ 601 → (∀ q k, q ≠ m + 5 → q ≠ m + 15 → M q k = L q k) → g_VM (M (m + 5)) 0 (L (m + 3) 2 + (k : Int) - 1) → M (m + 5) 1 = (mn : Int) → g_Zr (M (m + 5)) → g_run (L (m + 3) 2) (nn : Int) i (nn + 1 - k) k (M (m + 5)) = R → qX G F Q kc ks 26 [(4, qI (k : Int)), (0, .ref m), (1, qI (i : Int)), (2, qI (nn : Int)), (3, qI b)] [] sz T I M P := by
  intro n
  induction n with
  | zero => intro k M hn; exact absurd hn (Nat.not_lt_zero _)
  | succ n ih =>
    intro k M hn hk hM hVM h1 hz hH
    have hmo := hv.month
    have hA := hVM.2.1 i (by omega)
    rw [if_neg (Nat.not_lt_zero _)] at hA
    refine q_iload hF 0 rfl dX8_handedBy_26 ?_
    refine q_iload_n hF 3 rfl rfl dX8_handedBy_28 ?_
    refine q_icmpgt hF (by omega) (by omega) dX8_handedBy_29 (fun c29 => ?_) (fun c29 => ?_)
    · refine q_lconst hF (z := 0) rfl dX8_handedBy_87 ?_
      refine q_lreturn hF rfl dX8_handedBy_88 ?_
      have hR : g_run (L (m + 3) 2) (nn : Int) i (nn + 1 - k) k (M (m + 5)) = (-1, M (m + 5)) := by
        cases hf : (nn + 1 - k) with
        | zero => rfl
        | succ f => rw [g_run_s, if_neg (by omega)]
      rw [hR] at hH
      subst hH
      rw [if_pos rfl] at k0
      exact k0 M hM rfl hz
    · refine q_aload_n hF 1 rfl rfl dX8_handedBy_32 ?_
      refine q_getA hF fl_RX8_20 rfl hS.t0 hS.p9 dX8_handedBy_33 ?_
      refine q_iconst hF dX8_handedBy_36 ?_
      refine q_laloadv hF (z := L (m + 3) 2) (n := 1243) 2 hS.t3 rfl (by decide) (by decide) (hM _ _ (by omega) (by omega)) dX8_handedBy_37 ?_
      refine q_iload hF 0 rfl dX8_handedBy_38 ?_
      refine q_i2l hF (by omega) dX8_handedBy_40 ?_
      refine q_ladd hF dX8_handedBy_41 ?_
      refine q_ldc2 hF (n := 6000) (q_mem 1587 (by decide +kernel) rfl) dX8_handedBy_42 ?_
      refine q_cmpgt hF (by omega) (by decide) dX8_handedBy_45 dX8_handedBy_46 (fun c46 => ?_) (fun c46 => ?_)
      · refine q_lconst hF (z := 0) rfl dX8_handedBy_87 ?_
        refine q_lreturn hF rfl dX8_handedBy_88 ?_
        have hR : g_run (L (m + 3) 2) (nn : Int) i (nn + 1 - k) k (M (m + 5)) = (-1, M (m + 5)) := by
          cases hf : (nn + 1 - k) with
          | zero => rfl
          | succ f => rw [g_run_s, if_neg (by omega)]
        rw [hR] at hH
        subst hH
        rw [if_pos rfl] at k0
        exact k0 M hM rfl hz
      · refine q_aload_n hF 1 rfl rfl dX8_handedBy_49 ?_
        refine q_aload_n hF 1 rfl rfl dX8_handedBy_50 ?_
        refine q_getA hF fl_RX8_27 rfl hS.t0 hS.p11 dX8_handedBy_51 ?_
        refine q_iload_n hF 2 rfl rfl dX8_handedBy_54 ?_
        refine q_aload_n hF 1 rfl rfl dX8_handedBy_55 ?_
        refine q_getA hF fl_RX8_20 rfl hS.t0 hS.p9 dX8_handedBy_56 ?_
        refine q_iconst hF dX8_handedBy_59 ?_
        refine q_laloadv hF (z := L (m + 3) 2) (n := 1243) 2 hS.t3 rfl (by decide) (by decide) (hM _ _ (by omega) (by omega)) dX8_handedBy_60 ?_
        refine q_iload hF 0 rfl dX8_handedBy_61 ?_
        refine q_i2l hF (by omega) dX8_handedBy_63 ?_
        refine q_ladd hF dX8_handedBy_64 ?_
        refine q_callV (kc := kc) (ks := ks) (mc' := 0) (ms' := 0) (h' := 4) (st := []) hF vl_RX8_330 rfl [.ref (m + 5), qI (i : Int), qL ((L (m + 3) 2) + (k : Int))] rfl rfl hS.t0 (by decide) (Nat.le_of_ble_eq_true rfl) dX8_handedBy_65 ?_
        refine mX8_goes (a := i) hS hSA hS.t5 (q_Ale hSA (by omega)) (by omega) hVM.1 hA (by omega) (by omega) (by omega) (hVM.row (by omega)) (fun L' z c65_0 c65_1 c65_2 => ?_)
        refine q_ifeq hF (by omega) dX8_handedBy_68 (fun c68 => ?_) (fun c68 => ?_)
        · refine q_iinc hF (z' := ((1 + k : Nat) : Int)) (ls' := [(4, qI ((1 + k : Nat) : Int)), (0, .ref m), (1, qI (i : Int)), (2, qI (nn : Int)), (3, qI b)]) 0 rfl (by first | rfl | omega) (by decide) rfl dX8_handedBy_81 ?_
          refine q_goto hF dX8_handedBy_84 ?_
          rw [show nn + 1 - k = (nn + 1 - (1 + k)) + 1 by omega, g_run_s, if_pos ⟨by omega, by omega⟩, c65_1] at hH
          dsimp only at hH
          rw [if_neg (by omega), Nat.add_comm k 1] at hH
          have q9 : (g_goes (M (m + 5)) i (L (m + 3) 2 + (k : Int))).2 = L' (m + 5) := by rw [c65_1]
          have h9 := hVM.one (a := i) (by omega) (by omega)
          rw [show L (m + 3) 2 + (k : Int) - 1 + 1 = L (m + 3) 2 + k by omega, q9] at h9
          have hr := hVM.1.rows
          exact ih (1 + k) L' (by omega) (by omega) (fun q k x1 x2 => (c65_0 q k x1 x2).trans (hM q k x1 x2)) (by rw [show L (m + 3) 2 + ((1 + k : Nat) : Int) - 1 = L (m + 3) 2 + (k : Int) from by omega]; exact h9) (by rw [← q9, g_goes_n hr.1 (by omega) (by omega) (by omega) (by omega) (by omega) (by omega)]; exact h1) (by rw [← q9]; exact hz.goes (by omega) hr.1 (hVM.row (by omega))) hH
        · refine q_aload_n hF 1 rfl rfl dX8_handedBy_71 ?_
          refine q_getA hF fl_RX8_27 rfl hS.t0 hS.p11 dX8_handedBy_72 ?_
          refine q_iload_n hF 2 rfl rfl dX8_handedBy_75 ?_
          refine q_iconst hF dX8_handedBy_76 ?_
          refine q_callS (kc := kc) (ks := ks) (mc' := 0) (ms' := 0) (h' := 1) (st := []) hF sl_RX8_268 rfl [.ref (m + 5), qI (i : Int), qI 3] rfl rfl (by decide) (Nat.le_of_ble_eq_true rfl) dX8_handedBy_77 ?_
          refine mX8_of (j := (1042 + 12 * i)) hS.t5 (by omega) (by omega) ?_
          refine q_lreturn hF rfl dX8_handedBy_80 ?_
          rw [show nn + 1 - k = (nn + 1 - (1 + k)) + 1 by omega, g_run_s, if_pos ⟨by omega, by omega⟩, c65_1] at hH
          dsimp only at hH
          rw [if_pos (by omega)] at hH
          subst hH
          have q9 : (g_goes (M (m + 5)) i (L (m + 3) 2 + (k : Int))).2 = L' (m + 5) := by rw [c65_1]
          have hr := hVM.1.rows
          rw [if_neg (by dsimp only; omega)] at k0
          exact k0 L' (fun q k x1 x2 => (c65_0 q k x1 x2).trans (hM q k x1 x2)) rfl (by rw [← q9]; exact hz.goes (by omega) hr.1 (hVM.row (by omega)))
set_option maxRecDepth 100000 in
theorem mX8_soon0 {G : q_G} {sz : Nat} {T : q_T} {I L : q_I} {P : q_P} {Q : q_Q} {m : Nat} {a : Int}  (hS : q_SM T P m) (hSA : q_A G m) (hv : g_V0 (L (m + 3))) (ha : -2147483648 ≤ a ∧ a < 2147483648) (hn : ¬ (0 ≤ a ∧ a ≤ L (m + 3) 1 - 1)) (k1 : Q (.inl (some (qI 0))) sz T (u2 (u2 (u2 I m 0 0) m 0 1) (m + 1) 0 ((I (m + 1) 0) + 1)) L P) : qC G 7 0 0 YX8_soon [.ref m, qI a] sz T I L P Q := by
  refine qC_of (by decide +kernel) rfl rfl (Nat.le_of_ble_eq_true rfl) (fun F hF _ _ => ?_)
  have hm12 := hv.many
  have hl5 := hv.lands
  refine q_aload_n hF 0 rfl rfl dX8_soon_0 ?_
  refine q_iconst hF dX8_soon_1 ?_
  refine q_putI hF fl_RX8_52 hS.t0 hSA dX8_soon_2 ?_
  refine q_aload_n hF 0 rfl rfl dX8_soon_5 ?_
  refine q_aload_n hF 0 rfl rfl dX8_soon_6 ?_
  refine q_iload_n hF 1 rfl rfl dX8_soon_7 ?_
  refine q_callV (kc := 0) (ks := 0) (mc' := 0) (ms' := 0) (h' := 1) (st := [.ref m]) hF vl_RX8_340 rfl [qI a] rfl rfl hS.t0 (by decide) (Nat.le_of_ble_eq_true rfl) dX8_soon_8 ?_
  refine mX8_isAccount hS hv ha ?_
  refine q_ifne_b hF dX8_soon_11 (fun c11 => ?_) (fun c11 => ?_)
  · omega
  · refine q_iconst hF dX8_soon_14 ?_
    refine q_goto hF dX8_soon_15 ?_
    refine q_iconst hF dX8_soon_19 ?_
    refine q_iconst hF dX8_soon_20 ?_
    refine q_callV (kc := 0) (ks := 0) (mc' := 0) (ms' := 0) (h' := 0) (st := []) hF vl_RX8_251 rfl [qI 1, qI 1, qI 0] rfl rfl hS.t0 (by decide) (Nat.le_of_ble_eq_true rfl) dX8_soon_21 ?_
    refine mX8_bad1 (j := 0) hS hSA (u2_s _ _ _ _) (by omega) rfl (by decide) ?_
    rw [show (u2 I m 0 0) (m + 1) 0 = I (m + 1) 0 from (u2_a _ _ (by omega))]
    refine q_ifeq hF (by decide) dX8_soon_24 (fun c24 => ?_) (fun c24 => ?_)
    · exact absurd c24 (by decide)
    · refine q_iconst hF dX8_soon_27 ?_
      refine q_ireturn hF rfl dX8_soon_28 ?_
      exact k1
set_option maxRecDepth 100000 in
theorem mX8_soon {G : q_G} {sz : Nat} {T : q_T} {I L : q_I} {P : q_P} {Q : q_Q} {m : Nat} {i mn : Nat} (hS : q_SM T P m) (hSA : q_A G m) (hv : g_V0 (L (m + 3))) (hmn : L (m + 3) 1 = (mn : Int)) (hVR : g_VR (L (m + 3))) (hz : q_Z0 L m) (hy : (i : Int) < L (m + 3) 1) (k0 : ∀ L', (∀ q k, q ≠ m + 5 → q ≠ m + 15 → L' q k = L q k) → q_Z0 L' m → Q (.inl (some (qI (g_run (L (m + 3) 2) 600 i 600 1 (L (m + 3))).1))) sz T (u2 I m 0 0) L' P) : qC G 6 0 0 YX8_soon [.ref m, qI (i : Int)] sz T I L P Q := by
  refine qC_of (by decide +kernel) rfl rfl (Nat.le_of_ble_eq_true rfl) (fun F hF _ _ => ?_)
  have hm12 := hv.many
  have hl5 := hv.lands
  refine q_aload_n hF 0 rfl rfl dX8_soon_0 ?_
  refine q_iconst hF dX8_soon_1 ?_
  refine q_putI hF fl_RX8_52 hS.t0 hSA dX8_soon_2 ?_
  refine q_aload_n hF 0 rfl rfl dX8_soon_5 ?_
  refine q_aload_n hF 0 rfl rfl dX8_soon_6 ?_
  refine q_iload_n hF 1 rfl rfl dX8_soon_7 ?_
  refine q_callV (kc := 0) (ks := 0) (mc' := 0) (ms' := 0) (h' := 1) (st := [.ref m]) hF vl_RX8_340 rfl [qI (i : Int)] rfl rfl hS.t0 (by decide) (Nat.le_of_ble_eq_true rfl) dX8_soon_8 ?_
  refine mX8_isAccount hS hv (by omega) ?_
  refine q_ifne_b hF dX8_soon_11 (fun c11 => ?_) (fun c11 => ?_)
  · refine q_iconst hF dX8_soon_18 ?_
    refine q_iconst hF dX8_soon_19 ?_
    refine q_iconst hF dX8_soon_20 ?_
    refine q_callV (kc := 0) (ks := 0) (mc' := 0) (ms' := 0) (h' := 0) (st := []) hF vl_RX8_251 rfl [qI 0, qI 1, qI 0] rfl rfl hS.t0 (by decide) (Nat.le_of_ble_eq_true rfl) dX8_soon_21 ?_
    refine mX8_bad0 hS hSA (u2_s _ _ _ _) ?_
    refine q_ifeq hF (by decide) dX8_soon_24 (fun c24 => ?_) (fun c24 => ?_)
    · refine q_aload_n hF 0 rfl rfl dX8_soon_29 ?_
      refine q_getA hF fl_RX8_20 rfl hS.t0 hS.p9 dX8_soon_30 ?_
      refine q_aload_n hF 0 rfl rfl dX8_soon_33 ?_
      refine q_getA hF fl_RX8_27 rfl hS.t0 hS.p11 dX8_soon_34 ?_
      refine q_callS (kc := 0) (ks := 0) (mc' := 0) (ms' := 0) (h' := 1) (st := []) hF sl_RX8_261 rfl [.ref (m + 3), .ref (m + 5)] rfl rfl (by decide) (Nat.le_of_ble_eq_true rfl) dX8_soon_37 ?_
      refine mX8_copies hS.t3 hS.t5 (q_Ale hSA (by omega)) (by omega) ?_
      refine q_iconst hF dX8_soon_40 ?_
      refine q_istore_n hF (ls' := [(2, qI 1), (0, .ref m), (1, qI (i : Int))]) rfl (by decide) rfl dX8_soon_41 ?_
      have hm12 := hv.many
      have e5 : (cpL L (m + 3) (m + 5) 1243) (m + 5) = L (m + 3) := cpL_z hz (by omega) (by omega) (by omega) (by omega)
      refine lX8_soon (mn := mn) (b := 0) (L := L) (R := g_run (L (m + 3) 2) 600 i 600 1 (L (m + 3))) hF hS hSA hv (by omega) (by omega) (fun M x1 x2 x3 => k0 M x1 (hz.row x1 x3)) 601 1 (cpL L (m + 3) (m + 5) 1243) (by omega) (by omega) (fun q k x1 x2 => cpL_ne _ _ _ x1) (by rw [e5, show L (m + 3) 2 + ((1 : Nat) : Int) - 1 = L (m + 3) 2 by omega]; exact hVR) (by rw [e5]; exact hmn) (by rw [e5]; exact hz.zr (by omega) (by omega)) (by rw [e5])
    · exact absurd c24 (by decide)
  · omega
def g_handed (r : Nat → Int) (i nn : Nat) : Int := if (g_run (r 2) (nn : Int) i nn 1 r).1 = -1 then 0 else (g_run (r 2) (nn : Int) i nn 1 r).2 (1042 + 12 * i)
def g_tch (r : Nat → Int) (i : Nat) : Nat → Int := g_up (g_up r (1045 + 12 * i) 0) (1043 + 12 * i) 0
theorem g_VM.tch {r : Nat → Int} {b : Int} (h : g_VM r 0 b) {i : Nat} (hi : (i : Int) < r 1) (ho : r (1043 + 12 * i) = 0 ∨ r (1043 + 12 * i) = 1) : g_VM (g_tch r i) 0 b := by
  obtain ⟨h0, h1, h2⟩ := h
  have hm := h0.many
  have n : ∀ k, k ≠ 1045 + 12 * i → k ≠ 1043 + 12 * i → g_tch r i k = r k := fun k a b => by
    unfold g_tch; rw [g_up_n _ _ b, g_up_n _ _ a]
  have e1 : g_tch r i (1045 + 12 * i) = 0 := by unfold g_tch; rw [g_up_n _ _ (by omega), g_up_s]
  have e2 : g_tch r i (1043 + 12 * i) = 0 := by unfold g_tch; rw [g_up_s]
  refine ⟨h0.same (fun k hk => n k (by unfold g_rc at hk; omega) (by unfold g_rc at hk; omega)) (by rw [n 1 (by omega) (by omega)]; exact hm) (by rw [n 2 (by omega) (by omega)]; exact h0.month) (by rw [n 6 (by omega) (by omega)]; exact h0.rows), fun a ha => ?_, ?_⟩
  · rw [n 1 (by omega) (by omega)] at ha
    have q := h1 a ha
    by_cases e : a = i
    · subst e
      have f1 := q.age
      have f2 := q.since
      unfold g_VA
      rw [e1, e2, n 0 (by omega) (by omega), n (1039 + 12 * a) (by omega) (by omega), n (1040 + 12 * a) (by omega) (by omega), n (1041 + 12 * a) (by omega) (by omega), n (1042 + 12 * a) (by omega) (by omega), n (1044 + 12 * a) (by omega) (by omega), n (1046 + 12 * a) (by omega) (by omega), n (1047 + 12 * a) (by omega) (by omega), n (1048 + 12 * a) (by omega) (by omega), n (1049 + 12 * a) (by omega) (by omega), n (1050 + 12 * a) (by omega) (by omega)]
      exact ⟨q.kind, q.addr, q.birth, q.cents, by omega, q.age, by omega, q.wrote, q.holder, q.lat, q.nl, q.hat, fun h => absurd h (by decide)⟩
    · exact q.ext (n 0 (by omega) (by omega)) (fun k k1 k2 => n k (by omega) (by omega))
  · rw [n 6 (by omega) (by omega), n 1 (by omega) (by omega), g_cnt_same (r := r) _ (fun a ha => ?_)]
    · exact h2
    · by_cases e : a = i
      · subst e; rw [e2]; omega
      · rw [n _ (by omega) (by omega)]
theorem g_VR.tch {r : Nat → Int} (h : g_VR r) {i : Nat} (hi : (i : Int) < r 1) (ho : r (1043 + 12 * i) = 0 ∨ r (1043 + 12 * i) = 1) : g_VM (g_tch r i) 0 (r 2) := g_VM.tch h hi ho
set_option maxRecDepth 100000 in
theorem mX8_handedBy0 {G : q_G} {sz : Nat} {T : q_T} {I L : q_I} {P : q_P} {Q : q_Q} {m : Nat} {i mn nn : Nat} (hS : q_SM T P m) (hSA : q_A G m) (hv : g_V0 (L (m + 3))) (hmn : L (m + 3) 1 = (mn : Int)) (hVR : g_VR (L (m + 3))) (hz : q_Z0 L m) (hy : (i : Int) < L (m + 3) 1) (hn : nn ≤ 600) (ho : (L (m + 3) (1043 + 12 * i) = 0 ∨ L (m + 3) (1043 + 12 * i) = 1)) (k0 : ∀ L', (∀ q k, q ≠ m + 5 → q ≠ m + 15 → L' q k = L q k) → q_Z0 L' m → Q (.inl (some (qL (g_handed (L (m + 3)) i nn)))) sz T I L' P) : qC G 5 0 0 YX8_handedBy [.ref m, qI (i : Int), qI (nn : Int), qI 0] sz T I L P Q := by
  refine qC_of (by decide +kernel) rfl rfl (Nat.le_of_ble_eq_true rfl) (fun F hF _ _ => ?_)
  have hm12 := hv.many
  refine q_aload_n hF 0 rfl rfl dX8_handedBy_0 ?_
  refine q_getA hF fl_RX8_20 rfl hS.t0 hS.p9 dX8_handedBy_1 ?_
  refine q_aload_n hF 0 rfl rfl dX8_handedBy_4 ?_
  refine q_getA hF fl_RX8_27 rfl hS.t0 hS.p11 dX8_handedBy_5 ?_
  refine q_callS (kc := 0) (ks := 0) (mc' := 0) (ms' := 0) (h' := 1) (st := []) hF sl_RX8_261 rfl [.ref (m + 3), .ref (m + 5)] rfl rfl (by decide) (Nat.le_of_ble_eq_true rfl) dX8_handedBy_8 ?_
  refine mX8_copies hS.t3 hS.t5 (q_Ale hSA (by omega)) (by omega) ?_
  refine q_iload_n hF 3 rfl rfl dX8_handedBy_11 ?_
  refine q_ifeq hF (by decide) dX8_handedBy_12 (fun c12 => ?_) (fun c12 => ?_)
  · refine q_iconst hF dX8_handedBy_23 ?_
    refine q_istore hF (ls' := [(4, qI 1), (0, .ref m), (1, qI (i : Int)), (2, qI (nn : Int)), (3, qI 0)]) (by decide) rfl dX8_handedBy_24 ?_
    have e5 : (cpL L (m + 3) (m + 5) 1243) (m + 5) = L (m + 3) := cpL_z hz (by omega) (by omega) (by omega) (by omega)
    refine lX8_handedBy (mn := mn) (L := L) (R := g_run (L (m + 3) 2) (nn : Int) i nn 1 (L (m + 3))) hF hS hSA hv (by omega) (by omega) hn (fun M x1 x2 x3 => ?_) 601 1 (cpL L (m + 3) (m + 5) 1243) (by omega) (by omega) (fun q k x1 x2 => cpL_ne _ _ _ x1) (by rw [e5, show L (m + 3) 2 + ((1 : Nat) : Int) - 1 = L (m + 3) 2 by omega]; exact hVR) (by rw [e5]; exact hmn) (by rw [e5]; exact hz.zr (by omega) (by omega)) (by rw [e5, show nn + 1 - 1 = nn by omega])
    exact k0 M x1 (hz.row x1 x3)
  · exact absurd c12 (by decide)
theorem q_row_s' (L : q_I) (r : Nat) (f : Nat → Int) : q_row L r f r = f := q_row_f L r f
set_option maxRecDepth 100000 in
theorem mX8_handedBy1 {G : q_G} {sz : Nat} {T : q_T} {I L : q_I} {P : q_P} {Q : q_Q} {m : Nat} {i mn nn : Nat} (hS : q_SM T P m) (hSA : q_A G m) (hv : g_V0 (L (m + 3))) (hmn : L (m + 3) 1 = (mn : Int)) (hVR : g_VR (L (m + 3))) (hz : q_Z0 L m) (hy : (i : Int) < L (m + 3) 1) (hn : nn ≤ 600) (ho : (L (m + 3) (1043 + 12 * i) = 0 ∨ L (m + 3) (1043 + 12 * i) = 1)) (k0 : ∀ L', (∀ q k, q ≠ m + 5 → q ≠ m + 15 → L' q k = L q k) → q_Z0 L' m → Q (.inl (some (qL (g_handed (g_tch (L (m + 3)) i) i nn)))) sz T I L' P) : qC G 5 0 0 YX8_handedBy [.ref m, qI (i : Int), qI (nn : Int), qI 1] sz T I L P Q := by
  refine qC_of (by decide +kernel) rfl rfl (Nat.le_of_ble_eq_true rfl) (fun F hF _ _ => ?_)
  have hm12 := hv.many
  refine q_aload_n hF 0 rfl rfl dX8_handedBy_0 ?_
  refine q_getA hF fl_RX8_20 rfl hS.t0 hS.p9 dX8_handedBy_1 ?_
  refine q_aload_n hF 0 rfl rfl dX8_handedBy_4 ?_
  refine q_getA hF fl_RX8_27 rfl hS.t0 hS.p11 dX8_handedBy_5 ?_
  refine q_callS (kc := 0) (ks := 0) (mc' := 0) (ms' := 0) (h' := 1) (st := []) hF sl_RX8_261 rfl [.ref (m + 3), .ref (m + 5)] rfl rfl (by decide) (Nat.le_of_ble_eq_true rfl) dX8_handedBy_8 ?_
  refine mX8_copies hS.t3 hS.t5 (q_Ale hSA (by omega)) (by omega) ?_
  refine q_iload_n hF 3 rfl rfl dX8_handedBy_11 ?_
  refine q_ifeq hF (by decide) dX8_handedBy_12 (fun c12 => ?_) (fun c12 => ?_)
  · exact absurd c12 (by decide)
  · refine q_aload_n hF 0 rfl rfl dX8_handedBy_15 ?_
    refine q_getA hF fl_RX8_27 rfl hS.t0 hS.p11 dX8_handedBy_16 ?_
    refine q_iload_n hF 1 rfl rfl dX8_handedBy_19 ?_
    refine q_callS (kc := 0) (ks := 0) (mc' := 0) (ms' := 0) (h' := 2) (st := []) hF sl_RX8_351 rfl [.ref (m + 5), qI (i : Int)] rfl rfl (by decide) (Nat.le_of_ble_eq_true rfl) dX8_handedBy_20 ?_
    refine mX8_touches (i := i) hS.t5 (q_Ale hSA (by omega)) (by omega) ?_
    refine q_iconst hF dX8_handedBy_23 ?_
    refine q_istore hF (ls' := [(4, qI 1), (0, .ref m), (1, qI (i : Int)), (2, qI (nn : Int)), (3, qI 1)]) (by decide) rfl dX8_handedBy_24 ?_
    have e5 : (u2 (u2 (cpL L (m + 3) (m + 5) 1243) (m + 5) (1045 + 12 * i) 0) (m + 5) (1043 + 12 * i) 0) (m + 5) = g_tch (L (m + 3)) i := by rw [q_row_u1 (cpL L (m + 3) (m + 5) 1243), q_row_u, q_row_s', cpL_z hz (by omega) (by omega) (by omega) (by omega)]; rfl
    have e2 : (g_tch (L (m + 3)) i) 2 = L (m + 3) 2 := by unfold g_tch; rw [g_up_n _ _ (by omega), g_up_n _ _ (by omega)]
    refine lX8_handedBy (mn := mn) (L := L) (R := g_run (L (m + 3) 2) (nn : Int) i nn 1 (g_tch (L (m + 3)) i)) hF hS hSA hv (by omega) (by omega) hn (fun M x1 x2 x3 => ?_) 601 1 (u2 (u2 (cpL L (m + 3) (m + 5) 1243) (m + 5) (1045 + 12 * i) 0) (m + 5) (1043 + 12 * i) 0) (by omega) (by omega) (fun q k x1 x2 => (u2_a _ _ (by omega)).trans ((u2_a _ _ (by omega)).trans (cpL_ne _ _ _ x1))) (by rw [e5, show L (m + 3) 2 + ((1 : Nat) : Int) - 1 = L (m + 3) 2 by omega]; exact hVR.tch (by omega) ho) (by rw [e5]; unfold g_tch; rw [g_up_n _ _ (by omega), g_up_n _ _ (by omega)]; exact hmn) (by rw [e5]; exact ((hz.zr (q := m + 3) (by omega) (by omega)).up (by omega)).up (by omega)) (by rw [e5, show nn + 1 - 1 = nn by omega])
    have q := k0 M x1 (hz.row x1 x3)
    unfold g_handed at q
    rw [e2] at q
    exact q
