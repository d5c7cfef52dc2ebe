/-! the class: worlds copied -/
set_option maxRecDepth 100000 in
theorem lX6_copyFromA {G : q_G} {F : q_F} {h : Nat} {Q : q_Q} {kc ks sz : Nat} {T : q_T} {w x : Nat} {mo : Int} {r : Nat → Int} {I L I4 : q_I} {P : q_P} (h1 : 2 ≤ h) (hF : q_ok G F YX6_copyFrom h) (hW : q_SW T P w) (hWA : q_A G w) (hX : q_SW T P x) (hWR : q_WR I L x r mo) (hv : g_V0 r) (hnl : ∀ i : Nat, (i : Int) < r 1 → 0 ≤ r (1049 + 12 * i) ∧ r (1049 + 12 * i) ≤ 1) (hsep : w + 47 ≤ x ∨ x + 47 ≤ w) (hf4 : ∀ q k, q < w + 1 ∨ w + 19 ≤ q → I4 q k = I q k) (kx : ∀ (k : Nat) (I9 L9 : q_I), (k : Int) = r 1 → (∀ q k, q < w + 35 ∨ w + 47 ≤ q → I9 q k = I4 q k) → (∀ q k, q < w + 35 ∨ w + 47 ≤ q → L9 q k = L q k) → (∀ i : Nat, i < k → (∀ j, j < 12 → I9 (w + 35 + i) j = I (x + 35 + i) j) ∧ ∀ j, 12 ≤ j → j < 17 → L9 (w + 35 + i) j = L (x + 35 + i) j) → qX G F Q kc ks 48 [(0, .ref w), (1, .ref x)] [] sz T I9 L9 P) : ∀ (n : Nat) (k : Nat) (I9 L9 : q_I), 12 - k < n → (k : Int) ≤ r 1 → (∀ q k, q < w + 35 ∨ w + 47 ≤ q → I9 q k = I4 q k) → (∀ q k, q < w + 35 ∨ w + 47 ≤ q → L9 q k = L q k) → (∀ i : Nat, i < k → (∀ j, j < 12 → I9 (w + 35 + i) j = I (x + 35 + i) j) ∧ ∀ j, 12 ≤ j → j < 17 → L9 (w + 35 + i) j = L (x + 35 + i) j) → qX G F Q kc ks 13 [(2, qI (k : Int)), (0, .ref w), (1, .ref x)] [] sz T I9 L9 P := by
  intro n
  induction n with
  | zero => intro k I9 L9 hn; exact absurd hn (Nat.not_lt_zero _)
  | succ n ih =>
    intro k I9 L9 hn hk hI hL hC
    have hm := hv.many
    have hr6 := hv.rows
    refine q_iload_n hF 0 rfl rfl dX6_copyFrom_13 ?_
    refine q_aload_n hF 2 rfl rfl dX6_copyFrom_14 ?_
    refine q_getIv hF (z := r 1) fl_RX6_41 hX.t0 ((hI _ _ (by omega)).trans ((hf4 _ _ (by omega)).trans hWR.cnt)) dX6_copyFrom_15 ?_
    refine q_icmpge hF (by omega) (by omega) dX6_copyFrom_18 (fun c18 => ?_) (fun c18 => ?_)
    · refine q_sub [1, 2] rfl ?_
      exact kx k I9 L9 (by omega) hI hL hC
    · refine q_iload_n hF 0 rfl rfl dX6_copyFrom_21 ?_
      refine q_bipush hF (n := 12) rfl dX6_copyFrom_22 ?_
      refine q_icmpge hF (by omega) (by decide) dX6_copyFrom_24 (fun c24 => ?_) (fun c24 => ?_)
      · refine q_sub [1, 2] rfl ?_
        exact kx k I9 L9 (by omega) hI hL hC
      · refine q_aload_n hF 1 rfl rfl dX6_copyFrom_27 ?_
        refine q_getA hF fl_RX6_20 rfl hW.t0 hW.p1 dX6_copyFrom_28 ?_
        refine q_iload_n hF 0 rfl rfl dX6_copyFrom_31 ?_
        refine q_aaloadv hF (b := w + 35 + k) k hW.t19 (by decide) rfl (by omega) (by decide) (hW.pa _ (by omega)) dX6_copyFrom_32 ?_
        refine q_aload_n hF 2 rfl rfl dX6_copyFrom_33 ?_
        refine q_getA hF fl_RX6_20 rfl hX.t0 hX.p1 dX6_copyFrom_34 ?_
        refine q_iload_n hF 0 rfl rfl dX6_copyFrom_37 ?_
        refine q_aaloadv hF (b := x + 35 + k) k hX.t19 (by decide) rfl (by omega) (by decide) (hX.pa _ (by omega)) dX6_copyFrom_38 ?_
        refine q_callV (kc := kc) (ks := ks) (mc' := 0) (ms' := 0) (h' := 0) (st := []) hF vl_RX6_51 rfl [.ref (x + 35 + k)] rfl rfl (hW.ta _ (by omega)) (by omega) (Nat.le_of_ble_eq_true rfl) dX6_copyFrom_39 ?_
        refine mX0_copyFromA (hW.ta _ (by omega)) (q_Ale hWA (by omega)) (hX.ta _ (by omega)) (by omega) (by rw [hI _ _ (by omega), hf4 _ _ (by omega), (hWR.acc k (by omega)).nl]; have := hnl k (by omega); omega) (fun Ic Lc c39_0 c39_1 c39_2 c39_3 => ?_)
        refine q_iinc hF (z' := ((1 + k : Nat) : Int)) (ls' := [(2, qI ((1 + k : Nat) : Int)), (0, .ref w), (1, .ref x)]) 0 rfl (by first | rfl | omega) (by decide) rfl dX6_copyFrom_42 ?_
        refine q_goto hF dX6_copyFrom_45 ?_
        rw [Nat.add_comm 1 k]
        exact ih (k + 1) Ic Lc (by omega) (by omega) (fun q j x => (c39_0 q j (by omega)).trans (hI q j x)) (fun q j x => (c39_1 q j (by omega)).trans (hL q j x)) (fun i hi => by
          by_cases e : i = k
          · subst e
            exact ⟨fun j hj => (c39_2 j hj).trans ((hI _ _ (by omega)).trans (hf4 _ _ (by omega))), fun j h1 h2 => (c39_3 j h1 h2).trans (hL _ _ (by omega))⟩
          · exact ⟨fun j hj => (c39_0 _ _ (by omega)).trans ((hC i (by omega)).1 j hj), fun j h1 h2 => (c39_1 _ _ (by omega)).trans ((hC i (by omega)).2 j h1 h2)⟩)
set_option maxRecDepth 100000 in
theorem lX6_copyFromB {G : q_G} {F : q_F} {h : Nat} {Q : q_Q} {kc ks sz : Nat} {T : q_T} {w x : Nat} {r : Nat → Int} {I5 L : q_I} {P : q_P} (hF : q_ok G F YX6_copyFrom h) (hW : q_SW T P w) (hWA : q_A G w) (hX : q_SW T P x) (hv : g_V0 r) (hsep : w + 47 ≤ x ∨ x + 47 ≤ w) (h56 : I5 x 5 = r 6) (kx : ∀ (k : Nat) (I9 : q_I), (k : Int) = r 6 → (∀ q k, q < w + 21 ∨ w + 33 ≤ q → I9 q k = I5 q k) → (∀ i j : Nat, i < k → j < 5 → I9 (w + 21 + i) j = I5 (x + 21 + i) j) → qX G F Q kc ks 88 [(0, .ref w), (1, .ref x)] [] sz T I9 L P) : ∀ (n : Nat) (k : Nat) (I9 : q_I), 12 - k < n → (k : Int) ≤ r 6 → (∀ q k, q < w + 21 ∨ w + 33 ≤ q → I9 q k = I5 q k) → (∀ i j : Nat, i < k → j < 5 → I9 (w + 21 + i) j = I5 (x + 21 + i) j) → qX G F Q kc ks 50 [(2, qI (k : Int)), (0, .ref w), (1, .ref x)] [] sz T I9 L P := by
  intro n
  induction n with
  | zero => intro k I9 hn; exact absurd hn (Nat.not_lt_zero _)
  | succ n ih =>
    intro k I9 hn hk hI hC
    have hm := hv.many
    have hr6 := hv.rows
    refine q_iload_n hF 0 rfl rfl dX6_copyFrom_50 ?_
    refine q_aload_n hF 2 rfl rfl dX6_copyFrom_51 ?_
    refine q_getIv hF (z := r 6) fl_RX6_48 hX.t0 ((hI _ _ (by omega)).trans h56) dX6_copyFrom_52 ?_
    refine q_icmpge hF (by omega) (by omega) dX6_copyFrom_55 (fun c55 => ?_) (fun c55 => ?_)
    · refine q_sub [1, 2] rfl ?_
      exact kx k I9 (by omega) hI hC
    · refine q_iload_n hF 0 rfl rfl dX6_copyFrom_58 ?_
      refine q_bipush hF (n := 12) rfl dX6_copyFrom_59 ?_
      refine q_icmpge hF (by omega) (by decide) dX6_copyFrom_61 (fun c61 => ?_) (fun c61 => ?_)
      · refine q_sub [1, 2] rfl ?_
        exact kx k I9 (by omega) hI hC
      · refine q_aload_n hF 2 rfl rfl dX6_copyFrom_64 ?_
        refine q_getA hF fl_RX6_26 rfl hX.t0 hX.p4 dX6_copyFrom_65 ?_
        refine q_iload_n hF 0 rfl rfl dX6_copyFrom_68 ?_
        refine q_aaloadv hF (b := x + 21 + k) k hX.t20 (by decide) rfl (by omega) (by decide) (hX.pk _ (by omega)) dX6_copyFrom_69 ?_
        refine q_iconst hF dX6_copyFrom_70 ?_
        refine q_aload_n hF 1 rfl rfl dX6_copyFrom_71 ?_
        refine q_getA hF fl_RX6_26 rfl hW.t0 hW.p4 dX6_copyFrom_72 ?_
        refine q_iload_n hF 0 rfl rfl dX6_copyFrom_75 ?_
        refine q_aaloadv hF (b := w + 21 + k) k hW.t20 (by decide) rfl (by omega) (by decide) (hW.pk _ (by omega)) dX6_copyFrom_76 ?_
        refine q_iconst hF dX6_copyFrom_77 ?_
        refine q_iconst hF dX6_copyFrom_78 ?_
        refine q_copyi hF (m := 5) (q_mem 784 (by decide +kernel) rfl) (q_mem 775 (by decide +kernel) rfl) (q_mem 774 (by decide +kernel) rfl) (q_mem 54 (by decide +kernel) rfl) rfl (hX.tk _ (by omega)) (hW.tk _ (by omega)) (q_Ale hWA (by omega)) (by decide) (by decide) (by decide) (Nat.le_of_ble_eq_true rfl) dX6_copyFrom_79 ?_
        refine q_iinc hF (z' := ((1 + k : Nat) : Int)) (ls' := [(2, qI ((1 + k : Nat) : Int)), (0, .ref w), (1, .ref x)]) 0 rfl (by first | rfl | omega) (by decide) rfl dX6_copyFrom_82 ?_
        refine q_goto hF dX6_copyFrom_85 ?_
        rw [Nat.add_comm 1 k]
        exact ih (k + 1) (cpL I9 (x + 21 + k) (w + 21 + k) 5) (by omega) (by omega) (fun q j y => (cpL_ne _ _ _ (by omega)).trans (hI q j y)) (fun i j hi hj => by
          by_cases e : i = k
          · subst e
            exact (cpL_to _ _ _ hj).trans (hI _ _ (by omega))
          · exact (cpL_ne _ _ _ (by omega)).trans (hC i j (by omega) hj))
set_option maxRecDepth 100000 in
theorem mX6_copyFrom {G : q_G} {sz : Nat} {T : q_T} {I L : q_I} {P : q_P} {Q : q_Q} {w x : Nat} {mo : Int} {r : Nat → Int} (hW : q_SW T P w) (hWA : q_A G w) (hX : q_SW T P x) (hWR : q_WR I L x r mo) (hv : g_V0 r) (hnl : ∀ i : Nat, (i : Int) < r 1 → 0 ≤ r (1049 + 12 * i) ∧ r (1049 + 12 * i) ≤ 1) (hsep : w + 47 ≤ x ∨ x + 47 ≤ w) (k0 : ∀ M9 N9 : q_I, (∀ q k, q < w ∨ w + 47 ≤ q → M9 q k = I q k) → (∀ q k, q < w ∨ w + 47 ≤ q → N9 q k = L q k) → q_WR M9 N9 w r mo → Q (.inl none) sz T M9 N9 P) : qC G 2 0 0 YX6_copyFrom [.ref w, .ref x] sz T I L P Q := by
  refine qC_of (by decide +kernel) rfl rfl (Nat.le_of_ble_eq_true rfl) (fun F hF _ _ => ?_)
  have hm := hv.many
  have hr6 := hv.rows
  refine q_aload_n hF 0 rfl rfl dX6_copyFrom_0 ?_
  refine q_getA hF fl_RX6_12 rfl hW.t0 hW.p0 dX6_copyFrom_1 ?_
  refine q_aload_n hF 1 rfl rfl dX6_copyFrom_4 ?_
  refine q_getA hF fl_RX6_12 rfl hX.t0 hX.p0 dX6_copyFrom_5 ?_
  refine q_callV (kc := 0) (ks := 0) (mc' := 0) (ms' := 0) (h' := 1) (st := []) hF vl_RX6_37 rfl [.ref (x + 1)] rfl rfl hW.ru.t0 (by decide) (Nat.le_of_ble_eq_true rfl) dX6_copyFrom_8 ?_
  refine mX4_copyFrom (r := r) hW.ru (q_Ale hWA (by omega)) hX.ru hWR.ru hv.lands (by omega) hv (fun I4 c8_0 c8_1 => ?_)
  refine q_iconst hF dX6_copyFrom_11 ?_
  refine q_istore_n hF (ls' := [(2, qI 0), (0, .ref w), (1, .ref x)]) rfl (by decide) rfl dX6_copyFrom_12 ?_
  refine lX6_copyFromA (I4 := I4) (by decide) hF hW hWA hX hWR hv hnl hsep (fun q k h => c8_0 q k (by omega)) (fun kA I5 L5 hkA hI5 hL5 hC5 => ?_) 13 0 I4 L (by omega) (by omega) (fun _ _ _ => rfl) (fun _ _ _ => rfl) (fun i hi => absurd hi (Nat.not_lt_zero _))
  refine q_iconst hF dX6_copyFrom_48 ?_
  refine q_istore_n hF (ls' := [(2, qI 0), (0, .ref w), (1, .ref x)]) rfl (by decide) rfl dX6_copyFrom_49 ?_
  refine lX6_copyFromB (I5 := I5) hF hW hWA hX hv hsep (by rw [hI5 _ _ (by omega), c8_0 _ _ (by omega)]; exact hWR.rows) (fun kB I9 hkB hI9 hC9 => ?_) 13 0 I5 (by omega) (by omega) (fun _ _ _ => rfl) (fun i j hi hj => absurd hi (Nat.not_lt_zero _))
  refine q_aload_n hF 0 rfl rfl dX6_copyFrom_88 ?_
  refine q_aload_n hF 1 rfl rfl dX6_copyFrom_89 ?_
  refine q_getIv hF (z := r 1) fl_RX6_41 hX.t0 ((hI9 _ _ (by omega)).trans ((hI5 _ _ (by omega)).trans ((c8_0 _ _ (by omega)).trans hWR.cnt))) dX6_copyFrom_90 ?_
  refine q_putI hF fl_RX6_41 hW.t0 hWA dX6_copyFrom_93 ?_
  refine q_aload_n hF 0 rfl rfl dX6_copyFrom_96 ?_
  refine q_aload_n hF 1 rfl rfl dX6_copyFrom_97 ?_
  refine q_getIv hF (z := mo) fl_RX6_45 hX.t0 ((u2_k _ _ (by decide)).trans ((hI9 _ _ (by omega)).trans ((hI5 _ _ (by omega)).trans ((c8_0 _ _ (by omega)).trans hWR.mon)))) dX6_copyFrom_98 ?_
  refine q_putI hF fl_RX6_45 hW.t0 hWA dX6_copyFrom_101 ?_
  refine q_aload_n hF 0 rfl rfl dX6_copyFrom_104 ?_
  refine q_aload_n hF 1 rfl rfl dX6_copyFrom_105 ?_
  refine q_getIv hF (z := r 6) fl_RX6_48 hX.t0 ((u2_k _ _ (by decide)).trans ((u2_k _ _ (by decide)).trans ((hI9 _ _ (by omega)).trans ((hI5 _ _ (by omega)).trans ((c8_0 _ _ (by omega)).trans hWR.rows))))) dX6_copyFrom_106 ?_
  refine q_putI hF fl_RX6_48 hW.t0 hWA dX6_copyFrom_109 ?_
  refine q_aload_n hF 1 rfl rfl dX6_copyFrom_112 ?_
  refine q_getA hF fl_RX6_29 rfl hX.t0 hX.p6 dX6_copyFrom_113 ?_
  refine q_iconst hF dX6_copyFrom_116 ?_
  refine q_aload_n hF 0 rfl rfl dX6_copyFrom_117 ?_
  refine q_getA hF fl_RX6_29 rfl hW.t0 hW.p6 dX6_copyFrom_118 ?_
  refine q_iconst hF dX6_copyFrom_121 ?_
  refine q_iconst hF dX6_copyFrom_122 ?_
  refine q_copyl hF (m := 5) (q_mem 784 (by decide +kernel) rfl) (q_mem 775 (by decide +kernel) rfl) (q_mem 774 (by decide +kernel) rfl) (q_mem 54 (by decide +kernel) rfl) rfl hX.t33 hW.t33 (q_Ale hWA (by omega)) (by decide) (by decide) (by decide) (Nat.le_of_ble_eq_true rfl) dX6_copyFrom_123 ?_
  refine q_aload_n hF 1 rfl rfl dX6_copyFrom_126 ?_
  refine q_getA hF fl_RX6_33 rfl hX.t0 hX.p7 dX6_copyFrom_127 ?_
  refine q_iconst hF dX6_copyFrom_130 ?_
  refine q_aload_n hF 0 rfl rfl dX6_copyFrom_131 ?_
  refine q_getA hF fl_RX6_33 rfl hW.t0 hW.p7 dX6_copyFrom_132 ?_
  refine q_iconst hF dX6_copyFrom_135 ?_
  refine q_iconst hF dX6_copyFrom_136 ?_
  refine q_copyl hF (m := 5) (q_mem 784 (by decide +kernel) rfl) (q_mem 775 (by decide +kernel) rfl) (q_mem 774 (by decide +kernel) rfl) (q_mem 54 (by decide +kernel) rfl) rfl hX.t34 hW.t34 (q_Ale hWA (by omega)) (by decide) (by decide) (by decide) (Nat.le_of_ble_eq_true rfl) dX6_copyFrom_137 ?_
  refine q_return hF rfl dX6_copyFrom_140 ?_
  obtain ⟨M9, hM9⟩ : ∃ M9 : q_I, M9 = u2 (u2 (u2 I9 w 2 (r 1)) w 3 mo) w 5 (r 6) := ⟨_, rfl⟩
  obtain ⟨N9, hN9⟩ : ∃ N9 : q_I, N9 = cpL (cpL L5 (x + 33) (w + 33) 5) (x + 34) (w + 34) 5 := ⟨_, rfl⟩
  rw [← hM9, ← hN9]
  have m0 : ∀ q j, q ≠ w → M9 q j = I9 q j := fun q j h => by rw [hM9, u2_a _ _ h, u2_a _ _ h, u2_a _ _ h]
  have n0 : ∀ q j, q ≠ w → q ≠ w + 33 → q ≠ w + 34 → N9 q j = L5 q j := fun q j h h2 h3 => by rw [hN9, cpL_ne _ _ _ h3, cpL_ne _ _ _ h2]
  have mA : ∀ i : Nat, (i : Int) < r 1 → ∀ j, j < 12 → M9 (w + 35 + i) j = I (x + 35 + i) j := fun i hi j hj => by rw [m0 _ _ (by omega), hI9 _ _ (by omega)]; exact (hC5 i (by omega)).1 j hj
  have nA : ∀ i : Nat, (i : Int) < r 1 → ∀ j, 12 ≤ j → j < 17 → N9 (w + 35 + i) j = L (x + 35 + i) j := fun i hi j h1 h2 => by rw [n0 _ _ (by omega) (by omega) (by omega)]; exact (hC5 i (by omega)).2 j h1 h2
  have mR : ∀ q j, w + 1 ≤ q → q < w + 19 → M9 q j = I4 q j := fun q j h1 h2 => by rw [m0 _ _ (by omega), hI9 _ _ (by omega), hI5 _ _ (by omega)]
  refine k0 M9 N9 (fun q j h => by rw [m0 _ _ (by omega), hI9 _ _ (by omega), hI5 _ _ (by omega)]; exact c8_0 _ _ (by omega)) (fun q j h => by rw [n0 _ _ (by omega) (by omega) (by omega)]; exact hL5 _ _ (by omega)) ?_
  refine ⟨by rw [hM9, u2_k _ _ (by decide), u2_k _ _ (by decide), u2_s], by rw [hM9, u2_k _ _ (by decide), u2_s], by rw [hM9, u2_s], ?_, c8_1.ext hv (fun q j h1 h2 => mR q j (by omega) (by omega)) (g_same.rf r), fun i hi => (hWR.acc i hi).cp (mA i hi), fun k j hk hj => ?_, fun l hl => ?_, fun l hl => ?_, ?_, ?_, ?_, ?_⟩
  · rw [← hWR.cl]; exact g_sum_ext _ (fun i hi => nA i (by omega) _ (by decide) (by decide))
  · rw [m0 _ _ (by omega), hC9 k j (by omega) hj, hI5 _ _ (by omega), c8_0 _ _ (by omega)]; exact hWR.book k j hk hj
  · rw [hN9, cpL_ne _ _ _ (by omega), cpL_to _ _ _ hl, hL5 _ _ (by omega)]; exact hWR.paid l hl
  · rw [hN9, cpL_to _ _ _ hl, cpL_ne _ _ _ (by omega), hL5 _ _ (by omega)]; exact hWR.pass l hl
  · rw [← hWR.s17]; exact g_sum_ext _ (fun i hi => nA i (by omega) _ (by decide) (by decide))
  · rw [← hWR.s18]; exact g_sum_ext _ (fun i hi => nA i (by omega) _ (by decide) (by decide))
  · rw [← hWR.s19]; exact g_sum_ext _ (fun i hi => nA i (by omega) _ (by decide) (by decide))
  · rw [← hWR.s20]; exact g_sum_ext _ (fun i hi => nA i (by omega) _ (by decide) (by decide))
