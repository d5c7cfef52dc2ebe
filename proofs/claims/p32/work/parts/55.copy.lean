/-! the class: copies -/
set_option maxRecDepth 100000 in
theorem mX2_copyFrom {G : q_G} {sz : Nat} {T : q_T} {I L : q_I} {P : q_P} {Q : q_Q} {a : Nat} {b : Nat}  (hTa : T a = some (.inl 2)) (hTb : T b = some (.inl 2)) (hPa : P a 0 = some (a + 1)) (hPb : P b 0 = some (b + 1)) (hTa1 : T (a + 1) = some (.inr (0, 6))) (hTb1 : T (b + 1) = some (.inr (0, 6))) (hAa : q_A G a) (hAa1 : q_A G (a + 1)) (hne : a + 1 < b ∨ b + 1 < a) (k0 : ∀ Ic : q_I, (∀ q k, q ≠ a → q ≠ a + 1 → Ic q k = I q k) → (∀ k, 1 ≤ k → k ≤ 5 → Ic a k = I b k) → (∀ j, j < 6 → Ic (a + 1) j = I (b + 1) j) → Q (.inl none) sz T Ic L P) : qC G 0 0 0 YX2_copyFrom [.ref a, .ref b] sz T I L P Q := by
  refine qC_of (by decide +kernel) rfl rfl (Nat.le_of_ble_eq_true rfl) (fun F hF _ _ => ?_)
  refine q_aload_n hF 1 rfl rfl dX2_copyFrom_0 ?_
  refine q_getA hF fl_RX2_9 rfl hTb hPb dX2_copyFrom_1 ?_
  refine q_iconst hF dX2_copyFrom_4 ?_
  refine q_aload_n hF 0 rfl rfl dX2_copyFrom_5 ?_
  refine q_getA hF fl_RX2_9 rfl hTa hPa dX2_copyFrom_6 ?_
  refine q_iconst hF dX2_copyFrom_9 ?_
  refine q_bipush hF (n := 6) rfl dX2_copyFrom_10 ?_
  refine q_copyi hF (m := 6) (q_mem 773 (by decide +kernel) rfl) (q_mem 775 (by decide +kernel) rfl) (q_mem 774 (by decide +kernel) rfl) (q_mem 54 (by decide +kernel) rfl) rfl hTb1 hTa1 hAa1 (by decide) (by decide) (by decide) (Nat.le_of_ble_eq_true rfl) dX2_copyFrom_12 ?_
  refine q_aload_n hF 0 rfl rfl dX2_copyFrom_15 ?_
  refine q_aload_n hF 1 rfl rfl dX2_copyFrom_16 ?_
  refine q_getIv hF (z := I b 1) fl_RX2_13 hTb (cpL_ne _ _ _ (by omega)) dX2_copyFrom_17 ?_
  refine q_putI hF fl_RX2_13 hTa hAa dX2_copyFrom_20 ?_
  refine q_aload_n hF 0 rfl rfl dX2_copyFrom_23 ?_
  refine q_aload_n hF 1 rfl rfl dX2_copyFrom_24 ?_
  refine q_getIv hF (z := I b 2) fl_RX2_23 hTb ((u2_k _ _ (by decide)).trans (cpL_ne _ _ _ (by omega))) dX2_copyFrom_25 ?_
  refine q_putI hF fl_RX2_23 hTa hAa dX2_copyFrom_28 ?_
  refine q_aload_n hF 0 rfl rfl dX2_copyFrom_31 ?_
  refine q_aload_n hF 1 rfl rfl dX2_copyFrom_32 ?_
  refine q_getIv hF (z := I b 3) fl_RX2_26 hTb ((u2_k _ _ (by decide)).trans ((u2_k _ _ (by decide)).trans (cpL_ne _ _ _ (by omega)))) dX2_copyFrom_33 ?_
  refine q_putI hF fl_RX2_26 hTa hAa dX2_copyFrom_36 ?_
  refine q_aload_n hF 0 rfl rfl dX2_copyFrom_39 ?_
  refine q_aload_n hF 1 rfl rfl dX2_copyFrom_40 ?_
  refine q_getIv hF (z := I b 4) fl_RX2_29 hTb ((u2_k _ _ (by decide)).trans ((u2_k _ _ (by decide)).trans ((u2_k _ _ (by decide)).trans (cpL_ne _ _ _ (by omega))))) dX2_copyFrom_41 ?_
  refine q_putI hF fl_RX2_29 hTa hAa dX2_copyFrom_44 ?_
  refine q_aload_n hF 0 rfl rfl dX2_copyFrom_47 ?_
  refine q_aload_n hF 1 rfl rfl dX2_copyFrom_48 ?_
  refine q_getIv hF (z := I b 5) fl_RX2_32 hTb ((u2_k _ _ (by decide)).trans ((u2_k _ _ (by decide)).trans ((u2_k _ _ (by decide)).trans ((u2_k _ _ (by decide)).trans (cpL_ne _ _ _ (by omega)))))) dX2_copyFrom_49 ?_
  refine q_putI hF fl_RX2_32 hTa hAa dX2_copyFrom_52 ?_
  refine q_return hF rfl dX2_copyFrom_55 ?_
  refine k0 _ (fun q k h1 h2 => by rw [u2_a _ _ h1, u2_a _ _ h1, u2_a _ _ h1, u2_a _ _ h1, u2_a _ _ h1, cpL_ne _ _ _ h2]) (fun k h1 h2 => ?_) (fun j hj => by rw [u2_a _ _ (by omega), u2_a _ _ (by omega), u2_a _ _ (by omega), u2_a _ _ (by omega), u2_a _ _ (by omega), cpL_to _ _ _ hj])
  rcases (show k = 1 ∨ k = 2 ∨ k = 3 ∨ k = 4 ∨ k = 5 by omega) with rfl | rfl | rfl | rfl | rfl <;> simp [u2]
set_option maxRecDepth 100000 in
theorem lX4_copyFrom {G : q_G} {F : q_F} {h : Nat} {Q : q_Q} {kc ks sz : Nat} {T : q_T} {u v : Nat} {r : Nat → Int} {I L : q_I} {P : q_P} (h1 : 1 ≤ h) (hF : q_ok G F YX4_copyFrom h) (hU : q_SR T P u) (hUA : q_A G u) (hU2 : q_SR T P v) (hR : q_RR I v r) (hl : 0 ≤ r 0 ∧ r 0 ≤ 5) (hsep : u + 18 ≤ v ∨ v + 18 ≤ u) (kx : ∀ (k : Nat) (I9 : q_I), (k : Int) = r 0 → (∀ q k, q < u + 8 ∨ u + 18 ≤ q → I9 q k = I q k) → (∀ l : Nat, l < k → (∀ k, 1 ≤ k → k ≤ 5 → I9 (u + 8 + 2 * l) k = I (v + 8 + 2 * l) k) ∧ ∀ j, j < 6 → I9 (u + 9 + 2 * l) j = I (v + 9 + 2 * l) j) → qX G F Q kc ks 36 [(0, .ref u), (1, .ref v)] [] sz T I9 L P) : ∀ (n : Nat) (k : Nat) (I9 : q_I), 5 - k < n → (k : Int) ≤ r 0 → (∀ q k, q < u + 8 ∨ u + 18 ≤ q → I9 q k = I q k) → (∀ l : Nat, l < k → (∀ k, 1 ≤ k → k ≤ 5 → I9 (u + 8 + 2 * l) k = I (v + 8 + 2 * l) k) ∧ ∀ j, j < 6 → I9 (u + 9 + 2 * l) j = I (v + 9 + 2 * l) j) → qX G F Q kc ks 2 [(2, qI (k : Int)), (0, .ref u), (1, .ref v)] [] sz T I9 L P := by
  intro n
  induction n with
  | zero => intro k I9 hn; exact absurd hn (Nat.not_lt_zero _)
  | succ n ih =>
    intro k I9 hn hk hI hC
    refine q_iload_n hF 0 rfl rfl dX4_copyFrom_2 ?_
    refine q_aload_n hF 2 rfl rfl dX4_copyFrom_3 ?_
    refine q_getIv hF (z := r 0) fl_RX4_44 hU2.t0 ((hI _ _ (by omega)).trans hR.cnt) dX4_copyFrom_4 ?_
    refine q_icmpge hF (by omega) (by omega) dX4_copyFrom_7 (fun c7 => ?_) (fun c7 => ?_)
    · refine q_sub [1, 2] rfl ?_
      exact kx k I9 (by omega) hI hC
    · refine q_iload_n hF 0 rfl rfl dX4_copyFrom_10 ?_
      refine q_iconst hF dX4_copyFrom_11 ?_
      refine q_icmpge hF (by omega) (by decide) dX4_copyFrom_12 (fun c12 => ?_) (fun c12 => ?_)
      · refine q_sub [1, 2] rfl ?_
        exact kx k I9 (by omega) hI hC
      · refine q_aload_n hF 1 rfl rfl dX4_copyFrom_15 ?_
        refine q_getA hF fl_RX4_11 rfl hU.t0 hU.p0 dX4_copyFrom_16 ?_
        refine q_iload_n hF 0 rfl rfl dX4_copyFrom_19 ?_
        refine q_aaloadv hF (b := u + 8 + 2 * k) k hU.t1 (by decide) rfl (by omega) (by decide) (hU.pl _ (by omega)) dX4_copyFrom_20 ?_
        refine q_aload_n hF 2 rfl rfl dX4_copyFrom_21 ?_
        refine q_getA hF fl_RX4_11 rfl hU2.t0 hU2.p0 dX4_copyFrom_22 ?_
        refine q_iload_n hF 0 rfl rfl dX4_copyFrom_25 ?_
        refine q_aaloadv hF (b := v + 8 + 2 * k) k hU2.t1 (by decide) rfl (by omega) (by decide) (hU2.pl _ (by omega)) dX4_copyFrom_26 ?_
        refine q_callV (kc := kc) (ks := ks) (mc' := 0) (ms' := 0) (h' := 0) (st := []) hF vl_RX4_67 rfl [.ref (v + 8 + 2 * k)] rfl rfl (hU.tl _ (by omega)) (by omega) (Nat.le_of_ble_eq_true rfl) dX4_copyFrom_27 ?_
        refine mX2_copyFrom (hU.tl _ (by omega)) (hU2.tl _ (by omega)) (by rw [show u + 8 + 2 * k + 1 = u + 9 + 2 * k by omega]; exact hU.pn _ (by omega)) (by rw [show v + 8 + 2 * k + 1 = v + 9 + 2 * k by omega]; exact hU2.pn _ (by omega)) (by rw [show u + 8 + 2 * k + 1 = u + 9 + 2 * k by omega]; exact hU.tn _ (by omega)) (by rw [show v + 8 + 2 * k + 1 = v + 9 + 2 * k by omega]; exact hU2.tn _ (by omega)) (q_Ale hUA (by omega)) (q_Ale hUA (by omega)) (by omega) (fun Ic c27_0 c27_1 c27_2 => ?_)
        refine q_iinc hF (z' := ((1 + k : Nat) : Int)) (ls' := [(2, qI ((1 + k : Nat) : Int)), (0, .ref u), (1, .ref v)]) 0 rfl (by first | rfl | omega) (by decide) rfl dX4_copyFrom_30 ?_
        refine q_goto hF dX4_copyFrom_33 ?_
        rw [Nat.add_comm 1 k]
        exact ih (k + 1) Ic (by omega) (by omega) (fun q j x => (c27_0 q j (by omega) (by omega)).trans (hI q j x)) (fun l hl2 => by
          by_cases e : l = k
          · subst e
            exact ⟨fun j h1 h2 => (c27_1 j h1 h2).trans (hI _ _ (by omega)), fun j hj => by rw [show u + 9 + 2 * l = u + 8 + 2 * l + 1 by omega, c27_2 j hj, show v + 8 + 2 * l + 1 = v + 9 + 2 * l by omega]; exact hI _ _ (by omega)⟩
          · exact ⟨fun j h1 h2 => (c27_0 _ _ (by omega) (by omega)).trans ((hC l (by omega)).1 j h1 h2), fun j hj => (c27_0 _ _ (by omega) (by omega)).trans ((hC l (by omega)).2 j hj)⟩)
theorem g_lst_ext {c d : Nat → Int} : ∀ n i : Nat, (∀ j, i ≤ j → j < i + n → d j = c j) → g_lst d n i = g_lst c n i
  | 0, _, _ => rfl
  | n + 1, i, h => by
    unfold g_lst
    rw [h i (by omega) (by omega), g_lst_ext n (i + 1) (fun j h1 h2 => h j (by omega) (by omega))]
set_option maxRecDepth 100000 in
theorem mX4_copyFrom {G : q_G} {sz : Nat} {T : q_T} {I L : q_I} {P : q_P} {Q : q_Q} {u v : Nat} {r : Nat → Int} (hU : q_SR T P u) (hUA : q_A G u) (hU2 : q_SR T P v) (hR : q_RR I v r) (hl : 0 ≤ r 0 ∧ r 0 ≤ 5) (hsep : u + 18 ≤ v ∨ v + 18 ≤ u) (hv : g_V0 r) (k0 : ∀ I4 : q_I, (∀ q k, q < u ∨ u + 18 ≤ q → I4 q k = I q k) → q_RR I4 u r → Q (.inl none) sz T I4 L P) : qC G 1 0 0 YX4_copyFrom [.ref u, .ref v] sz T I L P Q := by
  refine qC_of (by decide +kernel) rfl rfl (Nat.le_of_ble_eq_true rfl) (fun F hF _ _ => ?_)
  obtain ⟨cl, hcl⟩ : ∃ cl : Nat, I v 11 = (cl : Int) := ⟨(I v 11).toNat, by have := hR.cl.1; omega⟩
  have hcl6 : cl ≤ 600 := by have := hR.cl.2.1; omega
  have hv3 := hv.wait
  have hv4 := hv.cost
  have hv5 := hv.home
  have hv8 := hv.ords
  refine q_iconst hF dX4_copyFrom_0 ?_
  refine q_istore_n hF (ls' := [(2, qI 0), (0, .ref u), (1, .ref v)]) rfl (by decide) rfl dX4_copyFrom_1 ?_
  refine lX4_copyFrom (by decide) hF hU hUA hU2 hR hl hsep (fun k I9 hk hI hC => ?_) 6 0 I (by omega) (by omega) (fun _ _ _ => rfl) (fun l hl2 => absurd hl2 (Nat.not_lt_zero _))
  refine q_aload_n hF 0 rfl rfl dX4_copyFrom_36 ?_
  refine q_aload_n hF 1 rfl rfl dX4_copyFrom_37 ?_
  refine q_getIv hF (z := r 0) fl_RX4_44 hU2.t0 ((hI _ _ (by omega)).trans hR.cnt) dX4_copyFrom_38 ?_
  refine q_putI hF fl_RX4_44 hU.t0 hUA dX4_copyFrom_41 ?_
  refine q_aload_n hF 0 rfl rfl dX4_copyFrom_44 ?_
  refine q_aload_n hF 1 rfl rfl dX4_copyFrom_45 ?_
  refine q_getIv hF (z := r 3) fl_RX4_48 hU2.t0 ((u2_k _ _ (by decide)).trans ((hI _ _ (by omega)).trans hR.wait)) dX4_copyFrom_46 ?_
  refine q_putI hF fl_RX4_48 hU.t0 hUA dX4_copyFrom_49 ?_
  refine q_aload_n hF 0 rfl rfl dX4_copyFrom_52 ?_
  refine q_aload_n hF 1 rfl rfl dX4_copyFrom_53 ?_
  refine q_getIv hF (z := r 4) fl_RX4_51 hU2.t0 ((u2_k _ _ (by decide)).trans ((u2_k _ _ (by decide)).trans ((hI _ _ (by omega)).trans hR.cost))) dX4_copyFrom_54 ?_
  refine q_putI hF fl_RX4_51 hU.t0 hUA dX4_copyFrom_57 ?_
  refine q_aload_n hF 0 rfl rfl dX4_copyFrom_60 ?_
  refine q_aload_n hF 1 rfl rfl dX4_copyFrom_61 ?_
  refine q_getIv hF (z := r 5) fl_RX4_54 hU2.t0 ((u2_k _ _ (by decide)).trans ((u2_k _ _ (by decide)).trans ((u2_k _ _ (by decide)).trans ((hI _ _ (by omega)).trans hR.home)))) dX4_copyFrom_62 ?_
  refine q_putI hF fl_RX4_54 hU.t0 hUA dX4_copyFrom_65 ?_
  refine q_aload_n hF 0 rfl rfl dX4_copyFrom_68 ?_
  refine q_aload_n hF 1 rfl rfl dX4_copyFrom_69 ?_
  refine q_getIv hF (z := r 8) fl_RX4_57 hU2.t0 ((u2_k _ _ (by decide)).trans ((u2_k _ _ (by decide)).trans ((u2_k _ _ (by decide)).trans ((u2_k _ _ (by decide)).trans ((hI _ _ (by omega)).trans hR.ords))))) dX4_copyFrom_70 ?_
  refine q_putI hF fl_RX4_57 hU.t0 hUA dX4_copyFrom_73 ?_
  refine q_aload_n hF 0 rfl rfl dX4_copyFrom_76 ?_
  refine q_aload_n hF 1 rfl rfl dX4_copyFrom_77 ?_
  refine q_getIv hF (z := (cl : Int)) fl_RX4_60 hU2.t0 ((u2_k _ _ (by decide)).trans ((u2_k _ _ (by decide)).trans ((u2_k _ _ (by decide)).trans ((u2_k _ _ (by decide)).trans ((u2_k _ _ (by decide)).trans ((hI _ _ (by omega)).trans hcl)))))) dX4_copyFrom_78 ?_
  refine q_putI hF fl_RX4_60 hU.t0 hUA dX4_copyFrom_81 ?_
  obtain ⟨I5, h5⟩ : ∃ I5 : q_I, I5 = u2 (u2 (u2 (u2 (u2 (u2 I9 u 1 (r 0)) u 3 (r 3)) u 4 (r 4)) u 5 (r 5)) u 7 (r 8)) u 11 (cl : Int) := ⟨_, rfl⟩
  rw [← h5]
  have f5 : ∀ q j, q ≠ u → I5 q j = I9 q j := fun q j h => by rw [h5, u2_a _ _ h, u2_a _ _ h, u2_a _ _ h, u2_a _ _ h, u2_a _ _ h, u2_a _ _ h]
  have h51 : I5 u 1 = r 0 := by rw [h5, u2_k _ _ (by decide), u2_k _ _ (by decide), u2_k _ _ (by decide), u2_k _ _ (by decide), u2_k _ _ (by decide), u2_s]
  have h53 : I5 u 3 = r 3 := by rw [h5, u2_k _ _ (by decide), u2_k _ _ (by decide), u2_k _ _ (by decide), u2_k _ _ (by decide), u2_s]
  have h54 : I5 u 4 = r 4 := by rw [h5, u2_k _ _ (by decide), u2_k _ _ (by decide), u2_k _ _ (by decide), u2_s]
  have h55 : I5 u 5 = r 5 := by rw [h5, u2_k _ _ (by decide), u2_k _ _ (by decide), u2_s]
  have h57 : I5 u 7 = r 8 := by rw [h5, u2_k _ _ (by decide), u2_s]
  have h511 : I5 u 11 = (cl : Int) := by rw [h5, u2_s]
  refine q_aload_n hF 1 rfl rfl dX4_copyFrom_84 ?_
  refine q_getA hF fl_RX4_17 rfl hU2.t0 hU2.p2 dX4_copyFrom_85 ?_
  refine q_iconst hF dX4_copyFrom_88 ?_
  refine q_aload_n hF 0 rfl rfl dX4_copyFrom_89 ?_
  refine q_getA hF fl_RX4_17 rfl hU.t0 hU.p2 dX4_copyFrom_90 ?_
  refine q_iconst hF dX4_copyFrom_93 ?_
  refine q_iconst hF dX4_copyFrom_94 ?_
  refine q_copyi hF (m := 5) (q_mem 776 (by decide +kernel) rfl) (q_mem 775 (by decide +kernel) rfl) (q_mem 774 (by decide +kernel) rfl) (q_mem 54 (by decide +kernel) rfl) rfl hU2.t2 hU.t2 (q_Ale hUA (by omega)) (by decide) (by decide) (by decide) (Nat.le_of_ble_eq_true rfl) dX4_copyFrom_95 ?_
  refine q_aload_n hF 1 rfl rfl dX4_copyFrom_98 ?_
  refine q_getA hF fl_RX4_21 rfl hU2.t0 hU2.p6 dX4_copyFrom_99 ?_
  refine q_iconst hF dX4_copyFrom_102 ?_
  refine q_aload_n hF 0 rfl rfl dX4_copyFrom_103 ?_
  refine q_getA hF fl_RX4_21 rfl hU.t0 hU.p6 dX4_copyFrom_104 ?_
  refine q_iconst hF dX4_copyFrom_107 ?_
  refine q_iconst hF dX4_copyFrom_108 ?_
  refine q_copyi hF (m := 3) (q_mem 776 (by decide +kernel) rfl) (q_mem 775 (by decide +kernel) rfl) (q_mem 774 (by decide +kernel) rfl) (q_mem 54 (by decide +kernel) rfl) rfl hU2.t3 hU.t3 (q_Ale hUA (by omega)) (by decide) (by decide) (by decide) (Nat.le_of_ble_eq_true rfl) dX4_copyFrom_109 ?_
  refine q_aload_n hF 1 rfl rfl dX4_copyFrom_112 ?_
  refine q_getA hF fl_RX4_24 rfl hU2.t0 hU2.p8 dX4_copyFrom_113 ?_
  refine q_iconst hF dX4_copyFrom_116 ?_
  refine q_aload_n hF 0 rfl rfl dX4_copyFrom_117 ?_
  refine q_getA hF fl_RX4_24 rfl hU.t0 hU.p8 dX4_copyFrom_118 ?_
  refine q_iconst hF dX4_copyFrom_121 ?_
  refine q_aload_n hF 0 rfl rfl dX4_copyFrom_122 ?_
  refine q_getA hF fl_RX4_24 rfl hU.t0 hU.p8 dX4_copyFrom_123 ?_
  refine q_alen hF (n := 25) hU.t4 dX4_copyFrom_126 ?_
  refine q_copyi hF (m := 25) (q_mem 776 (by decide +kernel) rfl) (q_mem 775 (by decide +kernel) rfl) (q_mem 774 (by decide +kernel) rfl) (q_mem 54 (by decide +kernel) rfl) rfl hU2.t4 hU.t4 (q_Ale hUA (by omega)) (by decide) (by decide) (by decide) (Nat.le_of_ble_eq_true rfl) dX4_copyFrom_127 ?_
  refine q_aload_n hF 1 rfl rfl dX4_copyFrom_130 ?_
  refine q_getA hF fl_RX4_27 rfl hU2.t0 hU2.p9 dX4_copyFrom_131 ?_
  refine q_iconst hF dX4_copyFrom_134 ?_
  refine q_aload_n hF 0 rfl rfl dX4_copyFrom_135 ?_
  refine q_getA hF fl_RX4_27 rfl hU.t0 hU.p9 dX4_copyFrom_136 ?_
  refine q_iconst hF dX4_copyFrom_139 ?_
  refine q_aload_n hF 0 rfl rfl dX4_copyFrom_140 ?_
  refine q_getA hF fl_RX4_27 rfl hU.t0 hU.p9 dX4_copyFrom_141 ?_
  refine q_alen hF (n := 25) hU.t5 dX4_copyFrom_144 ?_
  refine q_copyi hF (m := 25) (q_mem 776 (by decide +kernel) rfl) (q_mem 775 (by decide +kernel) rfl) (q_mem 774 (by decide +kernel) rfl) (q_mem 54 (by decide +kernel) rfl) rfl hU2.t5 hU.t5 (q_Ale hUA (by omega)) (by decide) (by decide) (by decide) (Nat.le_of_ble_eq_true rfl) dX4_copyFrom_145 ?_
  refine q_aload_n hF 1 rfl rfl dX4_copyFrom_148 ?_
  refine q_getA hF fl_RX4_30 rfl hU2.t0 hU2.p10 dX4_copyFrom_149 ?_
  refine q_iconst hF dX4_copyFrom_152 ?_
  refine q_aload_n hF 0 rfl rfl dX4_copyFrom_153 ?_
  refine q_getA hF fl_RX4_30 rfl hU.t0 hU.p10 dX4_copyFrom_154 ?_
  refine q_iconst hF dX4_copyFrom_157 ?_
  refine q_aload_n hF 0 rfl rfl dX4_copyFrom_158 ?_
  refine q_getIv hF (z := (cl : Int)) fl_RX4_60 hU.t0 ((cpL_ne _ _ _ (by omega)).trans ((cpL_ne _ _ _ (by omega)).trans ((cpL_ne _ _ _ (by omega)).trans ((cpL_ne _ _ _ (by omega)).trans h511)))) dX4_copyFrom_159 ?_
  refine q_sipush hF (n := 600) rfl dX4_copyFrom_162 ?_
  refine q_mini hF (q_mem 777 (by decide +kernel) rfl) (q_mem 778 (by decide +kernel) rfl) (q_mem 55 (by decide +kernel) rfl) (q_mem 779 (by decide +kernel) rfl) (by omega) (by decide) (Nat.le_of_ble_eq_true rfl) dX4_copyFrom_165 ?_
  refine q_copyi hF (m := cl) (q_mem 776 (by decide +kernel) rfl) (q_mem 775 (by decide +kernel) rfl) (q_mem 774 (by decide +kernel) rfl) (q_mem 54 (by decide +kernel) rfl) (by omega) hU2.t6 hU.t6 (q_Ale hUA (by omega)) (by omega) (by omega) (by omega) (Nat.le_of_ble_eq_true rfl) dX4_copyFrom_168 ?_
  refine q_return hF rfl dX4_copyFrom_171 ?_
  obtain ⟨M9, h9⟩ : ∃ M9 : q_I, M9 = cpL (cpL (cpL (cpL (cpL I5 (v + 2) (u + 2) 5) (v + 3) (u + 3) 3) (v + 4) (u + 4) 25) (v + 5) (u + 5) 25) (v + 6) (u + 6) cl := ⟨_, rfl⟩
  rw [← h9]
  have f9 : ∀ q j, q < u + 2 ∨ u + 7 ≤ q → M9 q j = I5 q j := fun q j h => by rw [h9, cpL_ne _ _ _ (by omega), cpL_ne _ _ _ (by omega), cpL_ne _ _ _ (by omega), cpL_ne _ _ _ (by omega), cpL_ne _ _ _ (by omega)]
  have a2 : ∀ j, j < 5 → M9 (u + 2) j = I (v + 2) j := fun j hj => by rw [h9, cpL_ne _ _ _ (by omega), cpL_ne _ _ _ (by omega), cpL_ne _ _ _ (by omega), cpL_ne _ _ _ (by omega), cpL_to _ _ _ hj, f5 _ _ (by omega)]; exact hI _ _ (by omega)
  have a3 : ∀ j, j < 3 → M9 (u + 3) j = I (v + 3) j := fun j hj => by rw [h9, cpL_ne _ _ _ (by omega), cpL_ne _ _ _ (by omega), cpL_ne _ _ _ (by omega), cpL_to _ _ _ hj, cpL_ne _ _ _ (by omega), f5 _ _ (by omega)]; exact hI _ _ (by omega)
  have a4 : ∀ j, j < 25 → M9 (u + 4) j = I (v + 4) j := fun j hj => by rw [h9, cpL_ne _ _ _ (by omega), cpL_ne _ _ _ (by omega), cpL_to _ _ _ hj, cpL_ne _ _ _ (by omega), cpL_ne _ _ _ (by omega), f5 _ _ (by omega)]; exact hI _ _ (by omega)
  have a5 : ∀ j, j < 25 → M9 (u + 5) j = I (v + 5) j := fun j hj => by rw [h9, cpL_ne _ _ _ (by omega), cpL_to _ _ _ hj, cpL_ne _ _ _ (by omega), cpL_ne _ _ _ (by omega), cpL_ne _ _ _ (by omega), f5 _ _ (by omega)]; exact hI _ _ (by omega)
  have a6 : ∀ j, j < cl → M9 (u + 6) j = I (v + 6) j := fun j hj => by rw [h9, cpL_to _ _ _ hj, cpL_ne _ _ _ (by omega), cpL_ne _ _ _ (by omega), cpL_ne _ _ _ (by omega), cpL_ne _ _ _ (by omega), f5 _ _ (by omega)]; exact hI _ _ (by omega)
  refine k0 M9 (fun q j h => (f9 q j (by omega)).trans ((f5 q j (by omega)).trans (hI q j (by omega)))) ?_
  have hk5 : k ≤ 5 := by omega
  refine ⟨(f9 _ _ (by omega)).trans h51, (f9 _ _ (by omega)).trans h53, (f9 _ _ (by omega)).trans h54, (f9 _ _ (by omega)).trans h55, (f9 _ _ (by omega)).trans h57, fun j hj => (a2 j hj).trans (hR.pays j hj), fun j hj => (a3 j (by omega)).trans (hR.ord j hj), fun l hl2 => ?_, fun l j hl2 hj => ?_, fun q hq hp => (a4 q hq).trans (hR.law0 q hq hp), fun q hq hp => ?_, ?_, ?_, fun q hq hp => ?_⟩
  · have q := (hC l (by omega)).1
    rw [f9 _ _ (by omega), f9 _ _ (by omega), f9 _ _ (by omega), f9 _ _ (by omega), f9 _ _ (by omega), f5 _ _ (by omega), f5 _ _ (by omega), f5 _ _ (by omega), f5 _ _ (by omega), f5 _ _ (by omega), q 1 (by decide) (by decide), q 2 (by decide) (by decide), q 3 (by decide) (by decide), q 4 (by decide) (by decide), q 5 (by decide) (by decide)]
    exact hR.land l hl2
  · have q := (hC l (by omega)).2
    have h6 := hv.land l hl2
    rw [f9 _ _ (by omega), f5 _ _ (by omega), q j (by omega)]
    exact hR.name l j hl2 hj
  · obtain ⟨s, e, q1, q2, q3, q4, q5, q6⟩ := hR.law q hq hp
    have q7 := hR.cl.2.2 q hq hp
    refine ⟨s, e, (a4 q hq).trans q1, (a5 q hq).trans q2, q3, q4, ?_, q6⟩
    rw [← q5]
    exact g_lst_ext _ _ (fun j h1 h2 => a6 j (by omega))
  · rw [f9 _ _ (by omega), h511]; omega
  · rw [f9 _ _ (by omega), h511]; omega
  · rw [a5 q hq, f9 _ _ (by omega), h511, ← hcl]; exact hR.cl.2.2 q hq hp
