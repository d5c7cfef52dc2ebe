/-! the class: acts -/
set_option maxRecDepth 100000 in
theorem mX7_deposit0 {G : q_G} {sz : Nat} {T : q_T} {I L : q_I} {P : q_P} {Q : q_Q} {V : Nat → Nat} {w : Nat} {r : Nat → Int} {b : Nat} {a : Int} {c : Int}  (hS : q_ST T P b) (hA : q_A G b) (hPV : q_PV P b V) (hO : q_OV b V) (hVw : V 0 = w) (hWR : q_WR I L w r (r 2)) (hV : g_VR r) (ha : -2147483648 ≤ a ∧ a < 2147483648) (hn : ¬ (0 ≤ a ∧ a < r 1)) (k1 : ∀ sz', sz ≤ sz' → Q (.inr "java/util/NoSuchElementException") sz' T (u2 I b 7 ((I b 7) + 1)) L P) : qC G 4 1 6 YX7_deposit [.ref b, qI a, qI c] sz T I L P Q := by
  refine qC_of (by decide +kernel) rfl rfl (Nat.le_of_ble_eq_true rfl) (fun F hF _ _ => ?_)
  have hv := hV.1
  have hPVw : P b 3 = some w := hVw ▸ hPV.w
  have hwr := hO.r (i := 0) (by omega)
  rw [hVw] at hwr
  have hW0 : q_SW T P w := by have q := hS.sw hO (i := 0) (by omega); rwa [hVw] at q
  have hW0A : q_A G w := q_Ale hA (by omega)
  have hm12 := hv.many
  have hl5 := hv.lands
  have hmo := hv.month
  have hr6 := hv.rows
  refine q_aload_n hF 0 rfl rfl dX7_deposit_0 ?_
  refine q_aload_n hF 0 rfl rfl dX7_deposit_1 ?_
  refine q_getA hF fl_RX7_26 rfl hS.t0 hPVw dX7_deposit_2 ?_
  refine q_iload_n hF 1 rfl rfl dX7_deposit_5 ?_
  refine q_callV (kc := 1) (ks := 6) (mc' := 0) (ms' := 0) (h' := 0) (st := [.ref b]) hF vl_RX7_101 rfl [qI a] rfl rfl hW0.t0 (by decide) (Nat.le_of_ble_eq_true rfl) dX7_deposit_6 ?_
  refine mX6_hasAccount (r := r) hW0 hWR hv (by omega) ?_
  refine q_ifne_b hF dX7_deposit_9 (fun c9 => ?_) (fun c9 => ?_)
  · omega
  · refine q_iconst hF dX7_deposit_12 ?_
    refine q_goto hF dX7_deposit_13 ?_
    refine q_callV (kc := 0) (ks := 0) (mc' := 1) (ms' := 6) (h' := 0) (st := []) hF vl_RX7_77 rfl [qI 1] rfl rfl hS.t0 (by decide) (Nat.le_of_ble_eq_true rfl) dX7_deposit_17 ?_
    refine mX7_refuseNoSuch1 hS.t0 hA (fun sz' c17_0 => ?_)
    refine q_out hF rfl ?_
    exact k1 sz' c17_0
set_option maxRecDepth 100000 in
theorem mX7_deposit {G : q_G} {sz : Nat} {T : q_T} {I L : q_I} {P : q_P} {Q : q_Q} {V : Nat → Nat} {w : Nat} {r : Nat → Int} {b : Nat} {c : Int} {i bk : Nat} (hS : q_ST T P b) (hA : q_A G b) (hPV : q_PV P b V) (hO : q_OV b V) (hVw : V 0 = w) (hWR : q_WR I L w r (r 2)) (hV : g_VR r) (hb : I b 6 = (bk : Int)) (hbk : bk ≤ 8) (hy : (i : Int) < r 1) (hc : -2147483648 ≤ c ∧ c < 2147483648) (k2 : ∀ sz', sz ≤ sz' → (1 ≤ c ∧ c ≤ 1000000) → ¬ ((r (1043 + 12 * i) = 0 ∨ r (1043 + 12 * i) = 1) ∧ r (1042 + 12 * i) + c ≤ 100000000) → Q (.inr "java/lang/IllegalStateException") sz' T (u2 I b 9 ((I b 9) + 1)) L P) (k3 : ∀ sz', sz ≤ sz' → ¬ (1 ≤ c ∧ c ≤ 1000000) → Q (.inr "java/lang/IllegalArgumentException") sz' T (u2 I b 8 ((I b 8) + 1)) L P) (k0 : ∀ (M N : q_I) (P9 : q_P) (V9 : Nat → Nat), (1 ≤ c ∧ c ≤ 1000000) → ((r (1043 + 12 * i) = 0 ∨ r (1043 + 12 * i) = 1) ∧ r (1042 + 12 * i) + c ≤ 100000000) → q_AF T b V bk I L P r (g_odeposit r i c) M N P9 V9 → Q (.inl (some (qI (r (1042 + 12 * i) + c)))) sz T M N P9) : qC G 4 1 6 YX7_deposit [.ref b, qI (i : Int), qI c] sz T I L P Q := by
  refine qC_of (by decide +kernel) rfl rfl (Nat.le_of_ble_eq_true rfl) (fun F hF _ _ => ?_)
  have hv := hV.1
  have hPVw : P b 3 = some w := hVw ▸ hPV.w
  have hwr := hO.r (i := 0) (by omega)
  rw [hVw] at hwr
  have hW0 : q_SW T P w := by have q := hS.sw hO (i := 0) (by omega); rwa [hVw] at q
  have hW0A : q_A G w := q_Ale hA (by omega)
  have hm12 := hv.many
  have hl5 := hv.lands
  have hmo := hv.month
  have hr6 := hv.rows
  have hVA := hV.2.1 i hy
  rw [if_neg (Nat.not_lt_zero _)] at hVA
  have hva1 := hVA.state
  have hva2 := hVA.cents
  have hva3 := hVA.since
  have hva4 := hVA.holder
  have hva5 := hVA.nl
  have hva6 := hVA.age
  have hva7 := hVA.wrote
  have hva8 := hVA.lat
  have hva9 := hVA.addr
  have hva10 := hVA.birth
  have hva11 := hVA.kind
  refine q_aload_n hF 0 rfl rfl dX7_deposit_0 ?_
  refine q_aload_n hF 0 rfl rfl dX7_deposit_1 ?_
  refine q_getA hF fl_RX7_26 rfl hS.t0 hPVw dX7_deposit_2 ?_
  refine q_iload_n hF 1 rfl rfl dX7_deposit_5 ?_
  refine q_callV (kc := 1) (ks := 6) (mc' := 0) (ms' := 0) (h' := 0) (st := [.ref b]) hF vl_RX7_101 rfl [qI (i : Int)] rfl rfl hW0.t0 (by decide) (Nat.le_of_ble_eq_true rfl) dX7_deposit_6 ?_
  refine mX6_hasAccount (r := r) hW0 hWR hv (by omega) ?_
  refine q_ifne_b hF dX7_deposit_9 (fun c9 => ?_) (fun c9 => ?_)
  · refine q_iconst hF dX7_deposit_16 ?_
    refine q_callV (kc := 1) (ks := 6) (mc' := 0) (ms' := 0) (h' := 0) (st := []) hF vl_RX7_77 rfl [qI 0] rfl rfl hS.t0 (by decide) (Nat.le_of_ble_eq_true rfl) dX7_deposit_17 ?_
    refine mX7_refuseNoSuch0 hS.t0 ?_
    refine q_aload_n hF 0 rfl rfl dX7_deposit_20 ?_
    refine q_iload_n hF 2 rfl rfl dX7_deposit_21 ?_
    refine q_iconst hF dX7_deposit_22 ?_
    refine q_ldc hF (n := 1000000) (q_mem 818 (by decide +kernel) rfl) dX7_deposit_23 ?_
    refine q_callS (kc := 1) (ks := 6) (mc' := 0) (ms' := 0) (h' := 0) (st := [.ref b]) hF sl_RX7_80 rfl [qI c, qI 1, qI 1000000] rfl rfl (by decide) (Nat.le_of_ble_eq_true rfl) dX7_deposit_25 ?_
    refine mX7_isWithin (by omega) (by decide) (by decide) ?_
    refine q_ifne_b hF dX7_deposit_28 (fun c28 => ?_) (fun c28 => ?_)
    · refine q_iconst hF dX7_deposit_35 ?_
      refine q_callV (kc := 1) (ks := 6) (mc' := 0) (ms' := 0) (h' := 0) (st := []) hF vl_RX7_45 rfl [qI 0] rfl rfl hS.t0 (by decide) (Nat.le_of_ble_eq_true rfl) dX7_deposit_36 ?_
      refine mX7_refuseArgument0 hS.t0 ?_
      refine q_aload_n hF 0 rfl rfl dX7_deposit_39 ?_
      refine q_getA hF fl_RX7_26 rfl hS.t0 hPVw dX7_deposit_40 ?_
      refine q_getA hF fl_RX7_91 rfl hW0.t0 hW0.p1 dX7_deposit_43 ?_
      refine q_iload_n hF 1 rfl rfl dX7_deposit_46 ?_
      refine q_aaloadv hF (b := w + 35 + i) i hW0.t19 (by decide) rfl (by omega) (by decide) (hW0.pa _ (by omega)) dX7_deposit_47 ?_
      refine q_astore_n hF (ls' := [(3, .ref (w + 35 + i)), (0, .ref b), (1, qI (i : Int)), (2, qI c)]) rfl (by decide) rfl dX7_deposit_48 ?_
      refine q_aload_n hF 1 rfl rfl dX7_deposit_49 ?_
      refine q_aload_n hF 0 rfl rfl dX7_deposit_50 ?_
      refine q_callV (kc := 1) (ks := 6) (mc' := 0) (ms' := 0) (h' := 0) (st := [.ref b]) hF vl_RX7_104 rfl [] rfl rfl (hW0.ta _ (by omega)) (by decide) (Nat.le_of_ble_eq_true rfl) dX7_deposit_51 ?_
      refine mX0_isWithBankR (r := r) (a := i) (hW0.ta _ (by omega)) (hWR.acc _ hy) hva1 ?_
      refine q_ifeq_b hF dX7_deposit_54 (fun c54 => ?_) (fun c54 => ?_)
      · refine q_iconst hF dX7_deposit_68 ?_
        refine q_goto hF dX7_deposit_69 ?_
        refine q_callV (kc := 0) (ks := 0) (mc' := 1) (ms' := 6) (h' := 0) (st := []) hF vl_RX7_88 rfl [qI 1] rfl rfl hS.t0 (by decide) (Nat.le_of_ble_eq_true rfl) dX7_deposit_73 ?_
        refine mX7_refuseState1 hS.t0 hA (fun sz' c73_0 => ?_)
        refine q_out hF rfl ?_
        exact k2 sz' c73_0 (by omega) (by omega)
      · refine q_aload_n hF 0 rfl rfl dX7_deposit_57 ?_
        refine q_getIv hF (z := r (1042 + 12 * i)) fl_RX7_115 (hW0.ta _ (by omega)) (hWR.acc _ hy).cents dX7_deposit_58 ?_
        refine q_ldc hF (n := 100000000) (q_mem 716 (by decide +kernel) rfl) dX7_deposit_61 ?_
        refine q_iload_n hF 3 rfl rfl dX7_deposit_63 ?_
        refine q_isub hF dX7_deposit_64 ?_
        refine q_icmple hF (by omega) (by omega) dX7_deposit_65 (fun c65 => ?_) (fun c65 => ?_)
        · refine q_iconst hF dX7_deposit_72 ?_
          refine q_callV (kc := 1) (ks := 6) (mc' := 0) (ms' := 0) (h' := 0) (st := []) hF vl_RX7_88 rfl [qI 0] rfl rfl hS.t0 (by decide) (Nat.le_of_ble_eq_true rfl) dX7_deposit_73 ?_
          refine mX7_refuseState0 hS.t0 ?_
          refine q_aload_n hF 1 rfl rfl dX7_deposit_76 ?_
          refine q_callV (kc := 1) (ks := 6) (mc' := 0) (ms' := 0) (h' := 3) (st := []) hF vl_RX7_56 rfl [] rfl rfl hS.t0 (by decide) (Nat.le_of_ble_eq_true rfl) dX7_deposit_77 ?_
          refine mX7_remember hS hA hPV hO hb hbk (by rw [hVw]; exact hWR) hv (fun j hj => by have q := (hV.2.1 j hj).nl; exact q) (fun M9 N9 P9 V9 c77_0 c77_1 c77_2 c77_3 c77_4 c77_5 c77_6 c77_7 c77_8 c77_9 => ?_)
          have hnb := g_nb_r hbk
          have hS9 := c77_0
          have hPV9 := c77_1
          have hO9 := c77_2
          have hw9 : V9 0 = w := c77_3.trans hVw
          have hPVw9 : P9 b 3 = some w := hw9 ▸ hPV9.w
          have hW9 : q_SW T P9 w := by have q := hS9.sw hO9 (i := 0) (by omega); rwa [hw9] at q
          have hd9 := hO9.d (i := 0) (j := g_nb bk) (by omega) (by omega) (by omega)
          rw [hw9] at hd9
          have hI9 : ∀ q k, w ≤ q → q < w + 47 → M9 q k = I q k := fun q k h1 h2 => c77_6 q k (by omega) (by omega)
          have hL9 : ∀ q k, w ≤ q → q < w + 47 → N9 q k = L q k := fun q k h1 h2 => c77_7 q k (by omega)
          have hWR9 : q_WR M9 N9 w r (r 2) := hWR.fr hv hI9 (fun q k h1 h2 _ => hL9 q k h1 h2)
          refine q_aload_n hF 0 rfl rfl dX7_deposit_80 ?_
          refine q_iload_n hF 3 rfl rfl dX7_deposit_81 ?_
          refine q_callV (kc := 1) (ks := 6) (mc' := 0) (ms' := 0) (h' := 0) (st := []) hF vl_RX7_118 rfl [qI c] rfl rfl (hW0.ta _ (by omega)) (by decide) (Nat.le_of_ble_eq_true rfl) dX7_deposit_82 ?_
          refine mX0_bringIn (hW0.ta _ (by omega)) (q_Ale hW0A (by omega)) (by omega) ?_
          rw [show M9 (w + 35 + i) 3 = r (1042 + 12 * i) from (hWR9.acc _ hy).cents]
          refine q_aload_n hF 0 rfl rfl dX7_deposit_85 ?_
          refine q_callV (kc := 1) (ks := 6) (mc' := 0) (ms' := 0) (h' := 0) (st := []) hF vl_RX7_111 rfl [] rfl rfl (hW0.ta _ (by omega)) (by decide) (Nat.le_of_ble_eq_true rfl) dX7_deposit_86 ?_
          refine mX0_wake (hW0.ta _ (by omega)) (q_Ale hW0A (by omega)) ?_
          refine q_aload_n hF 0 rfl rfl dX7_deposit_89 ?_
          refine q_getIv hF (z := (r (1042 + 12 * i)) + c) fl_RX7_115 (hW0.ta _ (by omega)) ((u2_k _ _ (by decide)).trans ((u2_k _ _ (by decide)).trans (u2_s _ _ _ _))) dX7_deposit_90 ?_
          refine q_ireturn hF rfl dX7_deposit_93 ?_
          rw [show (r (1042 + 12 * i) + c) = ((r (1042 + 12 * i)) + c) from by omega] at k0
          have hAR9 : q_AR (u2 (u2 (u2 M9 (w + 35 + i) 3 ((r (1042 + 12 * i)) + c)) (w + 35 + i) 6 0) (w + 35 + i) 4 0) (w + 35 + i) (g_odeposit r i c) i := ⟨(by unfold g_odeposit; rw [u2_k _ _ (by decide), u2_k _ _ (by decide), u2_k _ _ (by decide), g_up_n _ _ (by omega), g_up_n _ _ (by omega), g_up_n _ _ (by omega), g_up_n _ _ (by omega)]; exact (hWR9.acc i hy).kind), (by unfold g_odeposit; rw [u2_k _ _ (by decide), u2_k _ _ (by decide), u2_k _ _ (by decide), g_up_n _ _ (by omega), g_up_n _ _ (by omega), g_up_n _ _ (by omega), g_up_n _ _ (by omega)]; exact (hWR9.acc i hy).addr), (by unfold g_odeposit; rw [u2_k _ _ (by decide), u2_k _ _ (by decide), u2_k _ _ (by decide), g_up_n _ _ (by omega), g_up_n _ _ (by omega), g_up_n _ _ (by omega), g_up_n _ _ (by omega)]; exact (hWR9.acc i hy).birth), (by unfold g_odeposit; rw [u2_k _ _ (by decide), u2_k _ _ (by decide), u2_s, g_up_n _ _ (by omega), g_up_s]; first | done | rfl | omega), (by unfold g_odeposit; rw [u2_s, g_up_n _ _ (by omega), g_up_n _ _ (by omega), g_up_s]; first | done | rfl | omega), (by unfold g_odeposit; rw [u2_k _ _ (by decide), u2_k _ _ (by decide), u2_k _ _ (by decide), g_up_n _ _ (by omega), g_up_n _ _ (by omega), g_up_n _ _ (by omega), g_up_n _ _ (by omega)]; exact (hWR9.acc i hy).age), (by unfold g_odeposit; rw [u2_k _ _ (by decide), u2_s, g_up_n _ _ (by omega), g_up_n _ _ (by omega), g_up_n _ _ (by omega), g_up_s]; first | done | rfl | omega), (by unfold g_odeposit; rw [u2_k _ _ (by decide), u2_k _ _ (by decide), u2_k _ _ (by decide), g_up_n _ _ (by omega), g_up_n _ _ (by omega), g_up_n _ _ (by omega), g_up_n _ _ (by omega)]; exact (hWR9.acc i hy).wrote), (by unfold g_odeposit; rw [u2_k _ _ (by decide), u2_k _ _ (by decide), u2_k _ _ (by decide), g_up_n _ _ (by omega), g_up_n _ _ (by omega), g_up_n _ _ (by omega), g_up_n _ _ (by omega)]; exact (hWR9.acc i hy).lat), (by unfold g_odeposit; rw [u2_k _ _ (by decide), u2_k _ _ (by decide), u2_k _ _ (by decide), g_up_n _ _ (by omega), g_up_n _ _ (by omega), g_up_n _ _ (by omega), g_up_n _ _ (by omega)]; exact (hWR9.acc i hy).holder), (by unfold g_odeposit; rw [u2_k _ _ (by decide), u2_k _ _ (by decide), u2_k _ _ (by decide), g_up_n _ _ (by omega), g_up_n _ _ (by omega), g_up_n _ _ (by omega), g_up_n _ _ (by omega)]; exact (hWR9.acc i hy).nl), (fun q => by unfold g_odeposit at q; rw [g_up_n _ _ (by omega), g_up_n _ _ (by omega), g_up_s] at q; exact absurd q (by decide))⟩
          have hX9 : q_WR (u2 (u2 (u2 M9 (w + 35 + i) 3 ((r (1042 + 12 * i)) + c)) (w + 35 + i) 6 0) (w + 35 + i) 4 0) (u2 N9 (w + 35 + i) 12 ((N9 (w + 35 + i) 12) + c)) w (g_odeposit r i c) ((g_odeposit r i c) 2) := by
            rw [show (g_odeposit r i c) 2 = r 2 from (by unfold g_odeposit; rw [g_up_n _ _ (by omega), g_up_n _ _ (by omega), g_up_n _ _ (by omega), g_up_n _ _ (by omega)])]
            exact hWR9.upd hv hy (fun k hk => by unfold g_rc at hk; unfold g_odeposit; rw [g_up_n _ _ (by omega), g_up_n _ _ (by omega), g_up_n _ _ (by omega), g_up_n _ _ (by omega)]) (by unfold g_odeposit; rw [g_up_n _ _ (by omega), g_up_n _ _ (by omega), g_up_n _ _ (by omega), g_up_n _ _ (by omega)]) (by unfold g_odeposit; rw [g_up_n _ _ (by omega), g_up_n _ _ (by omega), g_up_n _ _ (by omega), g_up_n _ _ (by omega)]) (fun k k1 k2 => by unfold g_odeposit; rw [g_up_n _ _ (by omega), g_up_n _ _ (by omega), g_up_n _ _ (by omega), g_up_n _ _ (by omega)]) (fun q k h => by rw [u2_a _ _ h, u2_a _ _ h, u2_a _ _ h]) hAR9 (fun l9 hl9 => by unfold g_odeposit; rw [u2_a _ _ (by omega), g_up_n _ _ (by omega), g_up_n _ _ (by omega), g_up_n _ _ (by omega), g_up_n _ _ (by omega)]; exact hWR9.paid l9 hl9) (fun l9 hl9 => by unfold g_odeposit; rw [u2_a _ _ (by omega), g_up_n _ _ (by omega), g_up_n _ _ (by omega), g_up_n _ _ (by omega), g_up_n _ _ (by omega)]; exact hWR9.pass l9 hl9) (fun j k j1 j2 => by rw [u2_a _ _ (by omega)]) (by unfold g_odeposit; rw [u2_s, g_up_s]; omega) (by unfold g_odeposit; rw [u2_k _ _ (by decide), g_up_n _ _ (by omega), g_up_n _ _ (by omega), g_up_n _ _ (by omega), g_up_n _ _ (by omega)]; omega) (by unfold g_odeposit; rw [u2_k _ _ (by decide), g_up_n _ _ (by omega), g_up_n _ _ (by omega), g_up_n _ _ (by omega), g_up_n _ _ (by omega)]; omega) (by unfold g_odeposit; rw [u2_k _ _ (by decide), g_up_n _ _ (by omega), g_up_n _ _ (by omega), g_up_n _ _ (by omega), g_up_n _ _ (by omega)]; omega) (by unfold g_odeposit; rw [u2_k _ _ (by decide), g_up_n _ _ (by omega), g_up_n _ _ (by omega), g_up_n _ _ (by omega), g_up_n _ _ (by omega)]; omega)
          exact k0 (u2 (u2 (u2 M9 (w + 35 + i) 3 ((r (1042 + 12 * i)) + c)) (w + 35 + i) 6 0) (w + 35 + i) 4 0) (u2 N9 (w + 35 + i) 12 ((N9 (w + 35 + i) 12) + c)) P9 V9 (by omega) (by omega) (q_AF.mk hv hbk hVw hS9 hPV9 hO9 c77_3 c77_4 c77_5 c77_6 c77_7 c77_8 c77_9 (fun q k h => by rw [u2_a _ _ (by omega), u2_a _ _ (by omega), u2_a _ _ (by omega)]) (fun q k h => by rw [u2_a _ _ (by omega)]) hX9)
        · refine q_iconst hF dX7_deposit_68 ?_
          refine q_goto hF dX7_deposit_69 ?_
          refine q_callV (kc := 0) (ks := 0) (mc' := 1) (ms' := 6) (h' := 0) (st := []) hF vl_RX7_88 rfl [qI 1] rfl rfl hS.t0 (by decide) (Nat.le_of_ble_eq_true rfl) dX7_deposit_73 ?_
          refine mX7_refuseState1 hS.t0 hA (fun sz' c73_0 => ?_)
          refine q_out hF rfl ?_
          exact k2 sz' c73_0 (by omega) (by omega)
    · refine q_iconst hF dX7_deposit_31 ?_
      refine q_goto hF dX7_deposit_32 ?_
      refine q_callV (kc := 0) (ks := 0) (mc' := 1) (ms' := 6) (h' := 0) (st := []) hF vl_RX7_45 rfl [qI 1] rfl rfl hS.t0 (by decide) (Nat.le_of_ble_eq_true rfl) dX7_deposit_36 ?_
      refine mX7_refuseArgument1 hS.t0 hA (fun sz' c36_0 => ?_)
      refine q_out hF rfl ?_
      exact k3 sz' c36_0 (by omega)
  · omega
set_option maxRecDepth 100000 in
theorem mX7_draw0 {G : q_G} {sz : Nat} {T : q_T} {I L : q_I} {P : q_P} {Q : q_Q} {V : Nat → Nat} {w : Nat} {r : Nat → Int} {b : Nat} {a : Int} {c : Int}  (hS : q_ST T P b) (hA : q_A G b) (hPV : q_PV P b V) (hO : q_OV b V) (hVw : V 0 = w) (hWR : q_WR I L w r (r 2)) (hV : g_VR r) (ha : -2147483648 ≤ a ∧ a < 2147483648) (hn : ¬ (0 ≤ a ∧ a < r 1)) (k1 : ∀ sz', sz ≤ sz' → Q (.inr "java/util/NoSuchElementException") sz' T (u2 I b 7 ((I b 7) + 1)) L P) : qC G 4 1 6 YX7_draw [.ref b, qI a, qI c] sz T I L P Q := by
  refine qC_of (by decide +kernel) rfl rfl (Nat.le_of_ble_eq_true rfl) (fun F hF _ _ => ?_)
  have hv := hV.1
  have hPVw : P b 3 = some w := hVw ▸ hPV.w
  have hwr := hO.r (i := 0) (by omega)
  rw [hVw] at hwr
  have hW0 : q_SW T P w := by have q := hS.sw hO (i := 0) (by omega); rwa [hVw] at q
  have hW0A : q_A G w := q_Ale hA (by omega)
  have hm12 := hv.many
  have hl5 := hv.lands
  have hmo := hv.month
  have hr6 := hv.rows
  refine q_aload_n hF 0 rfl rfl dX7_draw_0 ?_
  refine q_aload_n hF 0 rfl rfl dX7_draw_1 ?_
  refine q_getA hF fl_RX7_26 rfl hS.t0 hPVw dX7_draw_2 ?_
  refine q_iload_n hF 1 rfl rfl dX7_draw_5 ?_
  refine q_callV (kc := 1) (ks := 6) (mc' := 0) (ms' := 0) (h' := 0) (st := [.ref b]) hF vl_RX7_101 rfl [qI a] rfl rfl hW0.t0 (by decide) (Nat.le_of_ble_eq_true rfl) dX7_draw_6 ?_
  refine mX6_hasAccount (r := r) hW0 hWR hv (by omega) ?_
  refine q_ifne_b hF dX7_draw_9 (fun c9 => ?_) (fun c9 => ?_)
  · omega
  · refine q_iconst hF dX7_draw_12 ?_
    refine q_goto hF dX7_draw_13 ?_
    refine q_callV (kc := 0) (ks := 0) (mc' := 1) (ms' := 6) (h' := 0) (st := []) hF vl_RX7_77 rfl [qI 1] rfl rfl hS.t0 (by decide) (Nat.le_of_ble_eq_true rfl) dX7_draw_17 ?_
    refine mX7_refuseNoSuch1 hS.t0 hA (fun sz' c17_0 => ?_)
    refine q_out hF rfl ?_
    exact k1 sz' c17_0
set_option maxRecDepth 100000 in
theorem mX7_draw {G : q_G} {sz : Nat} {T : q_T} {I L : q_I} {P : q_P} {Q : q_Q} {V : Nat → Nat} {w : Nat} {r : Nat → Int} {b : Nat} {c : Int} {i bk : Nat} (hS : q_ST T P b) (hA : q_A G b) (hPV : q_PV P b V) (hO : q_OV b V) (hVw : V 0 = w) (hWR : q_WR I L w r (r 2)) (hV : g_VR r) (hb : I b 6 = (bk : Int)) (hbk : bk ≤ 8) (hy : (i : Int) < r 1) (hc : -2147483648 ≤ c ∧ c < 2147483648) (k2 : ∀ sz', sz ≤ sz' → (1 ≤ c ∧ c ≤ 1000000) → ¬ ((r (1043 + 12 * i) = 0 ∨ r (1043 + 12 * i) = 1) ∧ c ≤ r (1042 + 12 * i)) → Q (.inr "java/lang/IllegalStateException") sz' T (u2 I b 9 ((I b 9) + 1)) L P) (k3 : ∀ sz', sz ≤ sz' → ¬ (1 ≤ c ∧ c ≤ 1000000) → Q (.inr "java/lang/IllegalArgumentException") sz' T (u2 I b 8 ((I b 8) + 1)) L P) (k0 : ∀ (M N : q_I) (P9 : q_P) (V9 : Nat → Nat), (1 ≤ c ∧ c ≤ 1000000) → ((r (1043 + 12 * i) = 0 ∨ r (1043 + 12 * i) = 1) ∧ c ≤ r (1042 + 12 * i)) → q_AF T b V bk I L P r (g_odraw r i c) M N P9 V9 → Q (.inl (some (qI (r (1042 + 12 * i) + -c)))) sz T M N P9) : qC G 4 1 6 YX7_draw [.ref b, qI (i : Int), qI c] sz T I L P Q := by
  refine qC_of (by decide +kernel) rfl rfl (Nat.le_of_ble_eq_true rfl) (fun F hF _ _ => ?_)
  have hv := hV.1
  have hPVw : P b 3 = some w := hVw ▸ hPV.w
  have hwr := hO.r (i := 0) (by omega)
  rw [hVw] at hwr
  have hW0 : q_SW T P w := by have q := hS.sw hO (i := 0) (by omega); rwa [hVw] at q
  have hW0A : q_A G w := q_Ale hA (by omega)
  have hm12 := hv.many
  have hl5 := hv.lands
  have hmo := hv.month
  have hr6 := hv.rows
  have hVA := hV.2.1 i hy
  rw [if_neg (Nat.not_lt_zero _)] at hVA
  have hva1 := hVA.state
  have hva2 := hVA.cents
  have hva3 := hVA.since
  have hva4 := hVA.holder
  have hva5 := hVA.nl
  have hva6 := hVA.age
  have hva7 := hVA.wrote
  have hva8 := hVA.lat
  have hva9 := hVA.addr
  have hva10 := hVA.birth
  have hva11 := hVA.kind
  refine q_aload_n hF 0 rfl rfl dX7_draw_0 ?_
  refine q_aload_n hF 0 rfl rfl dX7_draw_1 ?_
  refine q_getA hF fl_RX7_26 rfl hS.t0 hPVw dX7_draw_2 ?_
  refine q_iload_n hF 1 rfl rfl dX7_draw_5 ?_
  refine q_callV (kc := 1) (ks := 6) (mc' := 0) (ms' := 0) (h' := 0) (st := [.ref b]) hF vl_RX7_101 rfl [qI (i : Int)] rfl rfl hW0.t0 (by decide) (Nat.le_of_ble_eq_true rfl) dX7_draw_6 ?_
  refine mX6_hasAccount (r := r) hW0 hWR hv (by omega) ?_
  refine q_ifne_b hF dX7_draw_9 (fun c9 => ?_) (fun c9 => ?_)
  · refine q_iconst hF dX7_draw_16 ?_
    refine q_callV (kc := 1) (ks := 6) (mc' := 0) (ms' := 0) (h' := 0) (st := []) hF vl_RX7_77 rfl [qI 0] rfl rfl hS.t0 (by decide) (Nat.le_of_ble_eq_true rfl) dX7_draw_17 ?_
    refine mX7_refuseNoSuch0 hS.t0 ?_
    refine q_aload_n hF 0 rfl rfl dX7_draw_20 ?_
    refine q_iload_n hF 2 rfl rfl dX7_draw_21 ?_
    refine q_iconst hF dX7_draw_22 ?_
    refine q_ldc hF (n := 1000000) (q_mem 818 (by decide +kernel) rfl) dX7_draw_23 ?_
    refine q_callS (kc := 1) (ks := 6) (mc' := 0) (ms' := 0) (h' := 0) (st := [.ref b]) hF sl_RX7_80 rfl [qI c, qI 1, qI 1000000] rfl rfl (by decide) (Nat.le_of_ble_eq_true rfl) dX7_draw_25 ?_
    refine mX7_isWithin (by omega) (by decide) (by decide) ?_
    refine q_ifne_b hF dX7_draw_28 (fun c28 => ?_) (fun c28 => ?_)
    · refine q_iconst hF dX7_draw_35 ?_
      refine q_callV (kc := 1) (ks := 6) (mc' := 0) (ms' := 0) (h' := 0) (st := []) hF vl_RX7_45 rfl [qI 0] rfl rfl hS.t0 (by decide) (Nat.le_of_ble_eq_true rfl) dX7_draw_36 ?_
      refine mX7_refuseArgument0 hS.t0 ?_
      refine q_aload_n hF 0 rfl rfl dX7_draw_39 ?_
      refine q_getA hF fl_RX7_26 rfl hS.t0 hPVw dX7_draw_40 ?_
      refine q_getA hF fl_RX7_91 rfl hW0.t0 hW0.p1 dX7_draw_43 ?_
      refine q_iload_n hF 1 rfl rfl dX7_draw_46 ?_
      refine q_aaloadv hF (b := w + 35 + i) i hW0.t19 (by decide) rfl (by omega) (by decide) (hW0.pa _ (by omega)) dX7_draw_47 ?_
      refine q_astore_n hF (ls' := [(3, .ref (w + 35 + i)), (0, .ref b), (1, qI (i : Int)), (2, qI c)]) rfl (by decide) rfl dX7_draw_48 ?_
      refine q_aload_n hF 1 rfl rfl dX7_draw_49 ?_
      refine q_aload_n hF 0 rfl rfl dX7_draw_50 ?_
      refine q_callV (kc := 1) (ks := 6) (mc' := 0) (ms' := 0) (h' := 0) (st := [.ref b]) hF vl_RX7_104 rfl [] rfl rfl (hW0.ta _ (by omega)) (by decide) (Nat.le_of_ble_eq_true rfl) dX7_draw_51 ?_
      refine mX0_isWithBankR (r := r) (a := i) (hW0.ta _ (by omega)) (hWR.acc _ hy) hva1 ?_
      refine q_ifeq_b hF dX7_draw_54 (fun c54 => ?_) (fun c54 => ?_)
      · refine q_iconst hF dX7_draw_65 ?_
        refine q_goto hF dX7_draw_66 ?_
        refine q_callV (kc := 0) (ks := 0) (mc' := 1) (ms' := 6) (h' := 0) (st := []) hF vl_RX7_88 rfl [qI 1] rfl rfl hS.t0 (by decide) (Nat.le_of_ble_eq_true rfl) dX7_draw_70 ?_
        refine mX7_refuseState1 hS.t0 hA (fun sz' c70_0 => ?_)
        refine q_out hF rfl ?_
        exact k2 sz' c70_0 (by omega) (by omega)
      · refine q_aload_n hF 0 rfl rfl dX7_draw_57 ?_
        refine q_getIv hF (z := r (1042 + 12 * i)) fl_RX7_115 (hW0.ta _ (by omega)) (hWR.acc _ hy).cents dX7_draw_58 ?_
        refine q_iload_n hF 3 rfl rfl dX7_draw_61 ?_
        refine q_icmpge hF (by omega) (by omega) dX7_draw_62 (fun c62 => ?_) (fun c62 => ?_)
        · refine q_iconst hF dX7_draw_69 ?_
          refine q_callV (kc := 1) (ks := 6) (mc' := 0) (ms' := 0) (h' := 0) (st := []) hF vl_RX7_88 rfl [qI 0] rfl rfl hS.t0 (by decide) (Nat.le_of_ble_eq_true rfl) dX7_draw_70 ?_
          refine mX7_refuseState0 hS.t0 ?_
          refine q_aload_n hF 1 rfl rfl dX7_draw_73 ?_
          refine q_callV (kc := 1) (ks := 6) (mc' := 0) (ms' := 0) (h' := 3) (st := []) hF vl_RX7_56 rfl [] rfl rfl hS.t0 (by decide) (Nat.le_of_ble_eq_true rfl) dX7_draw_74 ?_
          refine mX7_remember hS hA hPV hO hb hbk (by rw [hVw]; exact hWR) hv (fun j hj => by have q := (hV.2.1 j hj).nl; exact q) (fun M9 N9 P9 V9 c74_0 c74_1 c74_2 c74_3 c74_4 c74_5 c74_6 c74_7 c74_8 c74_9 => ?_)
          have hnb := g_nb_r hbk
          have hS9 := c74_0
          have hPV9 := c74_1
          have hO9 := c74_2
          have hw9 : V9 0 = w := c74_3.trans hVw
          have hPVw9 : P9 b 3 = some w := hw9 ▸ hPV9.w
          have hW9 : q_SW T P9 w := by have q := hS9.sw hO9 (i := 0) (by omega); rwa [hw9] at q
          have hd9 := hO9.d (i := 0) (j := g_nb bk) (by omega) (by omega) (by omega)
          rw [hw9] at hd9
          have hI9 : ∀ q k, w ≤ q → q < w + 47 → M9 q k = I q k := fun q k h1 h2 => c74_6 q k (by omega) (by omega)
          have hL9 : ∀ q k, w ≤ q → q < w + 47 → N9 q k = L q k := fun q k h1 h2 => c74_7 q k (by omega)
          have hWR9 : q_WR M9 N9 w r (r 2) := hWR.fr hv hI9 (fun q k h1 h2 _ => hL9 q k h1 h2)
          refine q_aload_n hF 0 rfl rfl dX7_draw_77 ?_
          refine q_iload_n hF 3 rfl rfl dX7_draw_78 ?_
          refine q_callV (kc := 1) (ks := 6) (mc' := 0) (ms' := 0) (h' := 0) (st := []) hF vl_RX7_121 rfl [qI c] rfl rfl (hW0.ta _ (by omega)) (by decide) (Nat.le_of_ble_eq_true rfl) dX7_draw_79 ?_
          refine mX0_payOut (hW0.ta _ (by omega)) (q_Ale hW0A (by omega)) (by omega) ?_
          rw [show M9 (w + 35 + i) 3 = r (1042 + 12 * i) from (hWR9.acc _ hy).cents]
          refine q_aload_n hF 0 rfl rfl dX7_draw_82 ?_
          refine q_callV (kc := 1) (ks := 6) (mc' := 0) (ms' := 0) (h' := 0) (st := []) hF vl_RX7_111 rfl [] rfl rfl (hW0.ta _ (by omega)) (by decide) (Nat.le_of_ble_eq_true rfl) dX7_draw_83 ?_
          refine mX0_wake (hW0.ta _ (by omega)) (q_Ale hW0A (by omega)) ?_
          refine q_aload_n hF 0 rfl rfl dX7_draw_86 ?_
          refine q_getIv hF (z := (r (1042 + 12 * i)) - c) fl_RX7_115 (hW0.ta _ (by omega)) ((u2_k _ _ (by decide)).trans ((u2_k _ _ (by decide)).trans (u2_s _ _ _ _))) dX7_draw_87 ?_
          refine q_ireturn hF rfl dX7_draw_90 ?_
          rw [show (r (1042 + 12 * i) + -c) = ((r (1042 + 12 * i)) - c) from by omega] at k0
          have hAR9 : q_AR (u2 (u2 (u2 M9 (w + 35 + i) 3 ((r (1042 + 12 * i)) - c)) (w + 35 + i) 6 0) (w + 35 + i) 4 0) (w + 35 + i) (g_odraw r i c) i := ⟨(by unfold g_odraw; rw [u2_k _ _ (by decide), u2_k _ _ (by decide), u2_k _ _ (by decide), g_up_n _ _ (by omega), g_up_n _ _ (by omega), g_up_n _ _ (by omega), g_up_n _ _ (by omega)]; exact (hWR9.acc i hy).kind), (by unfold g_odraw; rw [u2_k _ _ (by decide), u2_k _ _ (by decide), u2_k _ _ (by decide), g_up_n _ _ (by omega), g_up_n _ _ (by omega), g_up_n _ _ (by omega), g_up_n _ _ (by omega)]; exact (hWR9.acc i hy).addr), (by unfold g_odraw; rw [u2_k _ _ (by decide), u2_k _ _ (by decide), u2_k _ _ (by decide), g_up_n _ _ (by omega), g_up_n _ _ (by omega), g_up_n _ _ (by omega), g_up_n _ _ (by omega)]; exact (hWR9.acc i hy).birth), (by unfold g_odraw; rw [u2_k _ _ (by decide), u2_k _ _ (by decide), u2_s, g_up_n _ _ (by omega), g_up_s]; first | done | rfl | omega), (by unfold g_odraw; rw [u2_s, g_up_n _ _ (by omega), g_up_n _ _ (by omega), g_up_s]; first | done | rfl | omega), (by unfold g_odraw; rw [u2_k _ _ (by decide), u2_k _ _ (by decide), u2_k _ _ (by decide), g_up_n _ _ (by omega), g_up_n _ _ (by omega), g_up_n _ _ (by omega), g_up_n _ _ (by omega)]; exact (hWR9.acc i hy).age), (by unfold g_odraw; rw [u2_k _ _ (by decide), u2_s, g_up_n _ _ (by omega), g_up_n _ _ (by omega), g_up_n _ _ (by omega), g_up_s]; first | done | rfl | omega), (by unfold g_odraw; rw [u2_k _ _ (by decide), u2_k _ _ (by decide), u2_k _ _ (by decide), g_up_n _ _ (by omega), g_up_n _ _ (by omega), g_up_n _ _ (by omega), g_up_n _ _ (by omega)]; exact (hWR9.acc i hy).wrote), (by unfold g_odraw; rw [u2_k _ _ (by decide), u2_k _ _ (by decide), u2_k _ _ (by decide), g_up_n _ _ (by omega), g_up_n _ _ (by omega), g_up_n _ _ (by omega), g_up_n _ _ (by omega)]; exact (hWR9.acc i hy).lat), (by unfold g_odraw; rw [u2_k _ _ (by decide), u2_k _ _ (by decide), u2_k _ _ (by decide), g_up_n _ _ (by omega), g_up_n _ _ (by omega), g_up_n _ _ (by omega), g_up_n _ _ (by omega)]; exact (hWR9.acc i hy).holder), (by unfold g_odraw; rw [u2_k _ _ (by decide), u2_k _ _ (by decide), u2_k _ _ (by decide), g_up_n _ _ (by omega), g_up_n _ _ (by omega), g_up_n _ _ (by omega), g_up_n _ _ (by omega)]; exact (hWR9.acc i hy).nl), (fun q => by unfold g_odraw at q; rw [g_up_n _ _ (by omega), g_up_n _ _ (by omega), g_up_s] at q; exact absurd q (by decide))⟩
          have hX9 : q_WR (u2 (u2 (u2 M9 (w + 35 + i) 3 ((r (1042 + 12 * i)) - c)) (w + 35 + i) 6 0) (w + 35 + i) 4 0) (u2 N9 (w + 35 + i) 14 ((N9 (w + 35 + i) 14) + c)) w (g_odraw r i c) ((g_odraw r i c) 2) := by
            rw [show (g_odraw r i c) 2 = r 2 from (by unfold g_odraw; rw [g_up_n _ _ (by omega), g_up_n _ _ (by omega), g_up_n _ _ (by omega), g_up_n _ _ (by omega)])]
            exact hWR9.upd hv hy (fun k hk => by unfold g_rc at hk; unfold g_odraw; rw [g_up_n _ _ (by omega), g_up_n _ _ (by omega), g_up_n _ _ (by omega), g_up_n _ _ (by omega)]) (by unfold g_odraw; rw [g_up_n _ _ (by omega), g_up_n _ _ (by omega), g_up_n _ _ (by omega), g_up_n _ _ (by omega)]) (by unfold g_odraw; rw [g_up_n _ _ (by omega), g_up_n _ _ (by omega), g_up_n _ _ (by omega), g_up_n _ _ (by omega)]) (fun k k1 k2 => by unfold g_odraw; rw [g_up_n _ _ (by omega), g_up_n _ _ (by omega), g_up_n _ _ (by omega), g_up_n _ _ (by omega)]) (fun q k h => by rw [u2_a _ _ h, u2_a _ _ h, u2_a _ _ h]) hAR9 (fun l9 hl9 => by unfold g_odraw; rw [u2_a _ _ (by omega), g_up_n _ _ (by omega), g_up_n _ _ (by omega), g_up_n _ _ (by omega), g_up_n _ _ (by omega)]; exact hWR9.paid l9 hl9) (fun l9 hl9 => by unfold g_odraw; rw [u2_a _ _ (by omega), g_up_n _ _ (by omega), g_up_n _ _ (by omega), g_up_n _ _ (by omega), g_up_n _ _ (by omega)]; exact hWR9.pass l9 hl9) (fun j k j1 j2 => by rw [u2_a _ _ (by omega)]) (by unfold g_odraw; rw [u2_k _ _ (by decide), g_up_n _ _ (by omega), g_up_n _ _ (by omega), g_up_n _ _ (by omega), g_up_n _ _ (by omega)]; omega) (by unfold g_odraw; rw [u2_k _ _ (by decide), g_up_n _ _ (by omega), g_up_n _ _ (by omega), g_up_n _ _ (by omega), g_up_n _ _ (by omega)]; omega) (by unfold g_odraw; rw [u2_s, g_up_s]; omega) (by unfold g_odraw; rw [u2_k _ _ (by decide), g_up_n _ _ (by omega), g_up_n _ _ (by omega), g_up_n _ _ (by omega), g_up_n _ _ (by omega)]; omega) (by unfold g_odraw; rw [u2_k _ _ (by decide), g_up_n _ _ (by omega), g_up_n _ _ (by omega), g_up_n _ _ (by omega), g_up_n _ _ (by omega)]; omega)
          exact k0 (u2 (u2 (u2 M9 (w + 35 + i) 3 ((r (1042 + 12 * i)) - c)) (w + 35 + i) 6 0) (w + 35 + i) 4 0) (u2 N9 (w + 35 + i) 14 ((N9 (w + 35 + i) 14) + c)) P9 V9 (by omega) (by omega) (q_AF.mk hv hbk hVw hS9 hPV9 hO9 c74_3 c74_4 c74_5 c74_6 c74_7 c74_8 c74_9 (fun q k h => by rw [u2_a _ _ (by omega), u2_a _ _ (by omega), u2_a _ _ (by omega)]) (fun q k h => by rw [u2_a _ _ (by omega)]) hX9)
        · refine q_iconst hF dX7_draw_65 ?_
          refine q_goto hF dX7_draw_66 ?_
          refine q_callV (kc := 0) (ks := 0) (mc' := 1) (ms' := 6) (h' := 0) (st := []) hF vl_RX7_88 rfl [qI 1] rfl rfl hS.t0 (by decide) (Nat.le_of_ble_eq_true rfl) dX7_draw_70 ?_
          refine mX7_refuseState1 hS.t0 hA (fun sz' c70_0 => ?_)
          refine q_out hF rfl ?_
          exact k2 sz' c70_0 (by omega) (by omega)
    · refine q_iconst hF dX7_draw_31 ?_
      refine q_goto hF dX7_draw_32 ?_
      refine q_callV (kc := 0) (ks := 0) (mc' := 1) (ms' := 6) (h' := 0) (st := []) hF vl_RX7_45 rfl [qI 1] rfl rfl hS.t0 (by decide) (Nat.le_of_ble_eq_true rfl) dX7_draw_36 ?_
      refine mX7_refuseArgument1 hS.t0 hA (fun sz' c36_0 => ?_)
      refine q_out hF rfl ?_
      exact k3 sz' c36_0 (by omega)
  · omega
set_option maxRecDepth 100000 in
theorem mX7_address0 {G : q_G} {sz : Nat} {T : q_T} {I L : q_I} {P : q_P} {Q : q_Q} {V : Nat → Nat} {w : Nat} {r : Nat → Int} {b : Nat} {a : Int} {l : Int}  (hS : q_ST T P b) (hA : q_A G b) (hPV : q_PV P b V) (hO : q_OV b V) (hVw : V 0 = w) (hWR : q_WR I L w r (r 2)) (hV : g_VR r) (ha : -2147483648 ≤ a ∧ a < 2147483648) (hn : ¬ (0 ≤ a ∧ a < r 1)) (k1 : ∀ sz', sz ≤ sz' → Q (.inr "java/util/NoSuchElementException") sz' T (u2 I b 7 ((I b 7) + 1)) L P) : qC G 4 1 6 YX7_address [.ref b, qI a, qI l] sz T I L P Q := by
  refine qC_of (by decide +kernel) rfl rfl (Nat.le_of_ble_eq_true rfl) (fun F hF _ _ => ?_)
  have hv := hV.1
  have hPVw : P b 3 = some w := hVw ▸ hPV.w
  have hwr := hO.r (i := 0) (by omega)
  rw [hVw] at hwr
  have hW0 : q_SW T P w := by have q := hS.sw hO (i := 0) (by omega); rwa [hVw] at q
  have hW0A : q_A G w := q_Ale hA (by omega)
  have hm12 := hv.many
  have hl5 := hv.lands
  have hmo := hv.month
  have hr6 := hv.rows
  refine q_aload_n hF 0 rfl rfl dX7_address_0 ?_
  refine q_aload_n hF 0 rfl rfl dX7_address_1 ?_
  refine q_getA hF fl_RX7_26 rfl hS.t0 hPVw dX7_address_2 ?_
  refine q_iload_n hF 1 rfl rfl dX7_address_5 ?_
  refine q_callV (kc := 1) (ks := 6) (mc' := 0) (ms' := 0) (h' := 0) (st := [.ref b]) hF vl_RX7_101 rfl [qI a] rfl rfl hW0.t0 (by decide) (Nat.le_of_ble_eq_true rfl) dX7_address_6 ?_
  refine mX6_hasAccount (r := r) hW0 hWR hv (by omega) ?_
  refine q_ifeq_b hF dX7_address_9 (fun c9 => ?_) (fun c9 => ?_)
  · refine q_iconst hF dX7_address_26 ?_
    refine q_goto hF dX7_address_27 ?_
    refine q_callV (kc := 0) (ks := 0) (mc' := 1) (ms' := 6) (h' := 0) (st := []) hF vl_RX7_77 rfl [qI 1] rfl rfl hS.t0 (by decide) (Nat.le_of_ble_eq_true rfl) dX7_address_31 ?_
    refine mX7_refuseNoSuch1 hS.t0 hA (fun sz' c31_0 => ?_)
    refine q_out hF rfl ?_
    exact k1 sz' c31_0
  · omega
set_option maxRecDepth 100000 in
theorem mX7_address {G : q_G} {sz : Nat} {T : q_T} {I L : q_I} {P : q_P} {Q : q_Q} {V : Nat → Nat} {w : Nat} {r : Nat → Int} {b : Nat} {l : Int} {i bk : Nat} (hS : q_ST T P b) (hA : q_A G b) (hPV : q_PV P b V) (hO : q_OV b V) (hVw : V 0 = w) (hWR : q_WR I L w r (r 2)) (hV : g_VR r) (hb : I b 6 = (bk : Int)) (hbk : bk ≤ 8) (hy : (i : Int) < r 1) (hl : -2147483648 ≤ l ∧ l < 2147483648) (k1 : ∀ sz', sz ≤ sz' → ¬ (l = -1 ∨ 0 ≤ l ∧ l < r 0) → Q (.inr "java/util/NoSuchElementException") sz' T (u2 I b 7 ((I b 7) + 1)) L P) (k0 : ∀ (M N : q_I) (P9 : q_P) (V9 : Nat → Nat), (l = -1 ∨ 0 ≤ l ∧ l < r 0) → q_AF T b V bk I L P r (g_oaddress r i l) M N P9 V9 → Q (.inl (some (qI (r (1040 + 12 * i))))) sz T M N P9) : qC G 4 1 6 YX7_address [.ref b, qI (i : Int), qI l] sz T I L P Q := by
  refine qC_of (by decide +kernel) rfl rfl (Nat.le_of_ble_eq_true rfl) (fun F hF _ _ => ?_)
  have hv := hV.1
  have hPVw : P b 3 = some w := hVw ▸ hPV.w
  have hwr := hO.r (i := 0) (by omega)
  rw [hVw] at hwr
  have hW0 : q_SW T P w := by have q := hS.sw hO (i := 0) (by omega); rwa [hVw] at q
  have hW0A : q_A G w := q_Ale hA (by omega)
  have hm12 := hv.many
  have hl5 := hv.lands
  have hmo := hv.month
  have hr6 := hv.rows
  have hVA := hV.2.1 i hy
  rw [if_neg (Nat.not_lt_zero _)] at hVA
  have hva1 := hVA.state
  have hva2 := hVA.cents
  have hva3 := hVA.since
  have hva4 := hVA.holder
  have hva5 := hVA.nl
  have hva6 := hVA.age
  have hva7 := hVA.wrote
  have hva8 := hVA.lat
  have hva9 := hVA.addr
  have hva10 := hVA.birth
  have hva11 := hVA.kind
  refine q_aload_n hF 0 rfl rfl dX7_address_0 ?_
  refine q_aload_n hF 0 rfl rfl dX7_address_1 ?_
  refine q_getA hF fl_RX7_26 rfl hS.t0 hPVw dX7_address_2 ?_
  refine q_iload_n hF 1 rfl rfl dX7_address_5 ?_
  refine q_callV (kc := 1) (ks := 6) (mc' := 0) (ms' := 0) (h' := 0) (st := [.ref b]) hF vl_RX7_101 rfl [qI (i : Int)] rfl rfl hW0.t0 (by decide) (Nat.le_of_ble_eq_true rfl) dX7_address_6 ?_
  refine mX6_hasAccount (r := r) hW0 hWR hv (by omega) ?_
  refine q_ifeq_b hF dX7_address_9 (fun c9 => ?_) (fun c9 => ?_)
  · omega
  · refine q_aload_n hF 0 rfl rfl dX7_address_12 ?_
    refine q_getA hF fl_RX7_26 rfl hS.t0 hPVw dX7_address_13 ?_
    refine q_getA hF fl_RX7_67 rfl hW0.t0 hW0.p0 dX7_address_16 ?_
    refine q_iload_n hF 2 rfl rfl dX7_address_19 ?_
    refine q_callV (kc := 1) (ks := 6) (mc' := 0) (ms' := 0) (h' := 1) (st := [.ref b]) hF vl_RX7_73 rfl [qI l] rfl rfl hW0.ru.t0 (by decide) (Nat.le_of_ble_eq_true rfl) dX7_address_20 ?_
    refine mX4_isLandOrNone (r := r) hW0.ru hWR.ru hv (by omega) ?_
    refine q_ifne_b hF dX7_address_23 (fun c23 => ?_) (fun c23 => ?_)
    · refine q_iconst hF dX7_address_30 ?_
      refine q_callV (kc := 1) (ks := 6) (mc' := 0) (ms' := 0) (h' := 0) (st := []) hF vl_RX7_77 rfl [qI 0] rfl rfl hS.t0 (by decide) (Nat.le_of_ble_eq_true rfl) dX7_address_31 ?_
      refine mX7_refuseNoSuch0 hS.t0 ?_
      refine q_aload_n hF 0 rfl rfl dX7_address_34 ?_
      refine q_callV (kc := 1) (ks := 6) (mc' := 0) (ms' := 0) (h' := 3) (st := []) hF vl_RX7_56 rfl [] rfl rfl hS.t0 (by decide) (Nat.le_of_ble_eq_true rfl) dX7_address_35 ?_
      refine mX7_remember hS hA hPV hO hb hbk (by rw [hVw]; exact hWR) hv (fun j hj => by have q := (hV.2.1 j hj).nl; exact q) (fun M9 N9 P9 V9 c35_0 c35_1 c35_2 c35_3 c35_4 c35_5 c35_6 c35_7 c35_8 c35_9 => ?_)
      have hnb := g_nb_r hbk
      have hS9 := c35_0
      have hPV9 := c35_1
      have hO9 := c35_2
      have hw9 : V9 0 = w := c35_3.trans hVw
      have hPVw9 : P9 b 3 = some w := hw9 ▸ hPV9.w
      have hW9 : q_SW T P9 w := by have q := hS9.sw hO9 (i := 0) (by omega); rwa [hw9] at q
      have hd9 := hO9.d (i := 0) (j := g_nb bk) (by omega) (by omega) (by omega)
      rw [hw9] at hd9
      have hI9 : ∀ q k, w ≤ q → q < w + 47 → M9 q k = I q k := fun q k h1 h2 => c35_6 q k (by omega) (by omega)
      have hL9 : ∀ q k, w ≤ q → q < w + 47 → N9 q k = L q k := fun q k h1 h2 => c35_7 q k (by omega)
      have hWR9 : q_WR M9 N9 w r (r 2) := hWR.fr hv hI9 (fun q k h1 h2 _ => hL9 q k h1 h2)
      refine q_aload_n hF 0 rfl rfl dX7_address_38 ?_
      refine q_getA hF fl_RX7_26 rfl hS.t0 hPVw9 dX7_address_39 ?_
      refine q_getA hF fl_RX7_91 rfl hW0.t0 hW9.p1 dX7_address_42 ?_
      refine q_iload_n hF 1 rfl rfl dX7_address_45 ?_
      refine q_aaloadv hF (b := w + 35 + i) i hW0.t19 (by decide) rfl (by omega) (by decide) (hW9.pa _ (by omega)) dX7_address_46 ?_
      refine q_astore_n hF (ls' := [(3, .ref (w + 35 + i)), (0, .ref b), (1, qI (i : Int)), (2, qI l)]) rfl (by decide) rfl dX7_address_47 ?_
      refine q_aload_n hF 0 rfl rfl dX7_address_48 ?_
      refine q_getIv hF (z := r (1040 + 12 * i)) fl_RX7_124 (hW0.ta _ (by omega)) (hWR9.acc _ hy).addr dX7_address_49 ?_
      refine q_istore hF (ls' := [(4, qI (r (1040 + 12 * i))), (3, .ref (w + 35 + i)), (0, .ref b), (1, qI (i : Int)), (2, qI l)]) (by decide) rfl dX7_address_52 ?_
      refine q_aload_n hF 1 rfl rfl dX7_address_54 ?_
      refine q_iload_n hF 4 rfl rfl dX7_address_55 ?_
      refine q_putI hF fl_RX7_124 (hW0.ta _ (by omega)) (q_Ale hW0A (by omega)) dX7_address_56 ?_
      refine q_iload hF 0 rfl dX7_address_59 ?_
      refine q_ireturn hF rfl dX7_address_61 ?_
      have hAR9 : q_AR (u2 M9 (w + 35 + i) 1 l) (w + 35 + i) (g_oaddress r i l) i := ⟨(by unfold g_oaddress; rw [u2_k _ _ (by decide), g_up_n _ _ (by omega)]; exact (hWR9.acc i hy).kind), (by unfold g_oaddress; rw [u2_s, g_up_s]; first | done | rfl | omega), (by unfold g_oaddress; rw [u2_k _ _ (by decide), g_up_n _ _ (by omega)]; exact (hWR9.acc i hy).birth), (by unfold g_oaddress; rw [u2_k _ _ (by decide), g_up_n _ _ (by omega)]; exact (hWR9.acc i hy).cents), (by unfold g_oaddress; rw [u2_k _ _ (by decide), g_up_n _ _ (by omega)]; exact (hWR9.acc i hy).state), (by unfold g_oaddress; rw [u2_k _ _ (by decide), g_up_n _ _ (by omega)]; exact (hWR9.acc i hy).age), (by unfold g_oaddress; rw [u2_k _ _ (by decide), g_up_n _ _ (by omega)]; exact (hWR9.acc i hy).since), (by unfold g_oaddress; rw [u2_k _ _ (by decide), g_up_n _ _ (by omega)]; exact (hWR9.acc i hy).wrote), (by unfold g_oaddress; rw [u2_k _ _ (by decide), g_up_n _ _ (by omega)]; exact (hWR9.acc i hy).lat), (by unfold g_oaddress; rw [u2_k _ _ (by decide), g_up_n _ _ (by omega)]; exact (hWR9.acc i hy).holder), (by unfold g_oaddress; rw [u2_k _ _ (by decide), g_up_n _ _ (by omega)]; exact (hWR9.acc i hy).nl), (fun q => by unfold g_oaddress at q ⊢; rw [g_up_n _ _ (by omega)] at q; rw [u2_k _ _ (by decide), g_up_n _ _ (by omega)]; exact (hWR9.acc i hy).hat q)⟩
      have hX9 : q_WR (u2 M9 (w + 35 + i) 1 l) (N9) w (g_oaddress r i l) ((g_oaddress r i l) 2) := by
        rw [show (g_oaddress r i l) 2 = r 2 from (by unfold g_oaddress; rw [g_up_n _ _ (by omega)])]
        exact hWR9.upd hv hy (fun k hk => by unfold g_rc at hk; unfold g_oaddress; rw [g_up_n _ _ (by omega)]) (by unfold g_oaddress; rw [g_up_n _ _ (by omega)]) (by unfold g_oaddress; rw [g_up_n _ _ (by omega)]) (fun k k1 k2 => by unfold g_oaddress; rw [g_up_n _ _ (by omega)]) (fun q k h => by rw [u2_a _ _ h]) hAR9 (fun l9 hl9 => by unfold g_oaddress; rw [g_up_n _ _ (by omega)]; exact hWR9.paid l9 hl9) (fun l9 hl9 => by unfold g_oaddress; rw [g_up_n _ _ (by omega)]; exact hWR9.pass l9 hl9) (fun j k j1 j2 => rfl) (by unfold g_oaddress; rw [g_up_n _ _ (by omega)]; omega) (by unfold g_oaddress; rw [g_up_n _ _ (by omega)]; omega) (by unfold g_oaddress; rw [g_up_n _ _ (by omega)]; omega) (by unfold g_oaddress; rw [g_up_n _ _ (by omega)]; omega) (by unfold g_oaddress; rw [g_up_n _ _ (by omega)]; omega)
      exact k0 (u2 M9 (w + 35 + i) 1 l) (N9) P9 V9 (by omega) (q_AF.mk hv hbk hVw hS9 hPV9 hO9 c35_3 c35_4 c35_5 c35_6 c35_7 c35_8 c35_9 (fun q k h => by rw [u2_a _ _ (by omega)]) (fun q k h => rfl) hX9)
    · refine q_iconst hF dX7_address_26 ?_
      refine q_goto hF dX7_address_27 ?_
      refine q_callV (kc := 0) (ks := 0) (mc' := 1) (ms' := 6) (h' := 0) (st := []) hF vl_RX7_77 rfl [qI 1] rfl rfl hS.t0 (by decide) (Nat.le_of_ble_eq_true rfl) dX7_address_31 ?_
      refine mX7_refuseNoSuch1 hS.t0 hA (fun sz' c31_0 => ?_)
      refine q_out hF rfl ?_
      exact k1 sz' c31_0 (by omega)
set_option maxRecDepth 100000 in
theorem mX7_close0 {G : q_G} {sz : Nat} {T : q_T} {I L : q_I} {P : q_P} {Q : q_Q} {V : Nat → Nat} {w : Nat} {r : Nat → Int} {b : Nat} {a : Int}  (hS : q_ST T P b) (hA : q_A G b) (hPV : q_PV P b V) (hO : q_OV b V) (hVw : V 0 = w) (hWR : q_WR I L w r (r 2)) (hV : g_VR r) (ha : -2147483648 ≤ a ∧ a < 2147483648) (hn : ¬ (0 ≤ a ∧ a < r 1)) (k1 : ∀ sz', sz ≤ sz' → Q (.inr "java/util/NoSuchElementException") sz' T (u2 I b 7 ((I b 7) + 1)) L P) : qC G 4 1 6 YX7_close [.ref b, qI a] sz T I L P Q := by
  refine qC_of (by decide +kernel) rfl rfl (Nat.le_of_ble_eq_true rfl) (fun F hF _ _ => ?_)
  have hv := hV.1
  have hPVw : P b 3 = some w := hVw ▸ hPV.w
  have hwr := hO.r (i := 0) (by omega)
  rw [hVw] at hwr
  have hW0 : q_SW T P w := by have q := hS.sw hO (i := 0) (by omega); rwa [hVw] at q
  have hW0A : q_A G w := q_Ale hA (by omega)
  have hm12 := hv.many
  have hl5 := hv.lands
  have hmo := hv.month
  have hr6 := hv.rows
  refine q_aload_n hF 0 rfl rfl dX7_close_0 ?_
  refine q_aload_n hF 0 rfl rfl dX7_close_1 ?_
  refine q_getA hF fl_RX7_26 rfl hS.t0 hPVw dX7_close_2 ?_
  refine q_iload_n hF 1 rfl rfl dX7_close_5 ?_
  refine q_callV (kc := 1) (ks := 6) (mc' := 0) (ms' := 0) (h' := 0) (st := [.ref b]) hF vl_RX7_101 rfl [qI a] rfl rfl hW0.t0 (by decide) (Nat.le_of_ble_eq_true rfl) dX7_close_6 ?_
  refine mX6_hasAccount (r := r) hW0 hWR hv (by omega) ?_
  refine q_ifne_b hF dX7_close_9 (fun c9 => ?_) (fun c9 => ?_)
  · omega
  · refine q_iconst hF dX7_close_12 ?_
    refine q_goto hF dX7_close_13 ?_
    refine q_callV (kc := 0) (ks := 0) (mc' := 1) (ms' := 6) (h' := 0) (st := []) hF vl_RX7_77 rfl [qI 1] rfl rfl hS.t0 (by decide) (Nat.le_of_ble_eq_true rfl) dX7_close_17 ?_
    refine mX7_refuseNoSuch1 hS.t0 hA (fun sz' c17_0 => ?_)
    refine q_out hF rfl ?_
    exact k1 sz' c17_0
set_option maxRecDepth 100000 in
theorem mX7_close {G : q_G} {sz : Nat} {T : q_T} {I L : q_I} {P : q_P} {Q : q_Q} {V : Nat → Nat} {w : Nat} {r : Nat → Int} {b : Nat} {i bk : Nat} (hS : q_ST T P b) (hA : q_A G b) (hPV : q_PV P b V) (hO : q_OV b V) (hVw : V 0 = w) (hWR : q_WR I L w r (r 2)) (hV : g_VR r) (hb : I b 6 = (bk : Int)) (hbk : bk ≤ 8) (hy : (i : Int) < r 1) (k2 : ∀ sz', sz ≤ sz' → ¬ (r (1043 + 12 * i) = 0 ∨ r (1043 + 12 * i) = 1) → Q (.inr "java/lang/IllegalStateException") sz' T (u2 I b 9 ((I b 9) + 1)) L P) (k0 : ∀ (M N : q_I) (P9 : q_P) (V9 : Nat → Nat), (r (1043 + 12 * i) = 0 ∨ r (1043 + 12 * i) = 1) → q_AF T b V bk I L P r (g_oclose r i) M N P9 V9 → Q (.inl (some (qI (r (1042 + 12 * i))))) sz T M N P9) : qC G 4 1 6 YX7_close [.ref b, qI (i : Int)] sz T I L P Q := by
  refine qC_of (by decide +kernel) rfl rfl (Nat.le_of_ble_eq_true rfl) (fun F hF _ _ => ?_)
  have hv := hV.1
  have hPVw : P b 3 = some w := hVw ▸ hPV.w
  have hwr := hO.r (i := 0) (by omega)
  rw [hVw] at hwr
  have hW0 : q_SW T P w := by have q := hS.sw hO (i := 0) (by omega); rwa [hVw] at q
  have hW0A : q_A G w := q_Ale hA (by omega)
  have hm12 := hv.many
  have hl5 := hv.lands
  have hmo := hv.month
  have hr6 := hv.rows
  have hVA := hV.2.1 i hy
  rw [if_neg (Nat.not_lt_zero _)] at hVA
  have hva1 := hVA.state
  have hva2 := hVA.cents
  have hva3 := hVA.since
  have hva4 := hVA.holder
  have hva5 := hVA.nl
  have hva6 := hVA.age
  have hva7 := hVA.wrote
  have hva8 := hVA.lat
  have hva9 := hVA.addr
  have hva10 := hVA.birth
  have hva11 := hVA.kind
  refine q_aload_n hF 0 rfl rfl dX7_close_0 ?_
  refine q_aload_n hF 0 rfl rfl dX7_close_1 ?_
  refine q_getA hF fl_RX7_26 rfl hS.t0 hPVw dX7_close_2 ?_
  refine q_iload_n hF 1 rfl rfl dX7_close_5 ?_
  refine q_callV (kc := 1) (ks := 6) (mc' := 0) (ms' := 0) (h' := 0) (st := [.ref b]) hF vl_RX7_101 rfl [qI (i : Int)] rfl rfl hW0.t0 (by decide) (Nat.le_of_ble_eq_true rfl) dX7_close_6 ?_
  refine mX6_hasAccount (r := r) hW0 hWR hv (by omega) ?_
  refine q_ifne_b hF dX7_close_9 (fun c9 => ?_) (fun c9 => ?_)
  · refine q_iconst hF dX7_close_16 ?_
    refine q_callV (kc := 1) (ks := 6) (mc' := 0) (ms' := 0) (h' := 0) (st := []) hF vl_RX7_77 rfl [qI 0] rfl rfl hS.t0 (by decide) (Nat.le_of_ble_eq_true rfl) dX7_close_17 ?_
    refine mX7_refuseNoSuch0 hS.t0 ?_
    refine q_aload_n hF 0 rfl rfl dX7_close_20 ?_
    refine q_getA hF fl_RX7_26 rfl hS.t0 hPVw dX7_close_21 ?_
    refine q_getA hF fl_RX7_91 rfl hW0.t0 hW0.p1 dX7_close_24 ?_
    refine q_iload_n hF 1 rfl rfl dX7_close_27 ?_
    refine q_aaloadv hF (b := w + 35 + i) i hW0.t19 (by decide) rfl (by omega) (by decide) (hW0.pa _ (by omega)) dX7_close_28 ?_
    refine q_astore_n hF (ls' := [(2, .ref (w + 35 + i)), (0, .ref b), (1, qI (i : Int))]) rfl (by decide) rfl dX7_close_29 ?_
    refine q_aload_n hF 1 rfl rfl dX7_close_30 ?_
    refine q_aload_n hF 0 rfl rfl dX7_close_31 ?_
    refine q_callV (kc := 1) (ks := 6) (mc' := 0) (ms' := 0) (h' := 0) (st := [.ref b]) hF vl_RX7_104 rfl [] rfl rfl (hW0.ta _ (by omega)) (by decide) (Nat.le_of_ble_eq_true rfl) dX7_close_32 ?_
    refine mX0_isWithBankR (r := r) (a := i) (hW0.ta _ (by omega)) (hWR.acc _ hy) hva1 ?_
    refine q_ifne_b hF dX7_close_35 (fun c35 => ?_) (fun c35 => ?_)
    · refine q_iconst hF dX7_close_42 ?_
      refine q_callV (kc := 1) (ks := 6) (mc' := 0) (ms' := 0) (h' := 0) (st := []) hF vl_RX7_88 rfl [qI 0] rfl rfl hS.t0 (by decide) (Nat.le_of_ble_eq_true rfl) dX7_close_43 ?_
      refine mX7_refuseState0 hS.t0 ?_
      refine q_aload_n hF 1 rfl rfl dX7_close_46 ?_
      refine q_callV (kc := 1) (ks := 6) (mc' := 0) (ms' := 0) (h' := 3) (st := []) hF vl_RX7_56 rfl [] rfl rfl hS.t0 (by decide) (Nat.le_of_ble_eq_true rfl) dX7_close_47 ?_
      refine mX7_remember hS hA hPV hO hb hbk (by rw [hVw]; exact hWR) hv (fun j hj => by have q := (hV.2.1 j hj).nl; exact q) (fun M9 N9 P9 V9 c47_0 c47_1 c47_2 c47_3 c47_4 c47_5 c47_6 c47_7 c47_8 c47_9 => ?_)
      have hnb := g_nb_r hbk
      have hS9 := c47_0
      have hPV9 := c47_1
      have hO9 := c47_2
      have hw9 : V9 0 = w := c47_3.trans hVw
      have hPVw9 : P9 b 3 = some w := hw9 ▸ hPV9.w
      have hW9 : q_SW T P9 w := by have q := hS9.sw hO9 (i := 0) (by omega); rwa [hw9] at q
      have hd9 := hO9.d (i := 0) (j := g_nb bk) (by omega) (by omega) (by omega)
      rw [hw9] at hd9
      have hI9 : ∀ q k, w ≤ q → q < w + 47 → M9 q k = I q k := fun q k h1 h2 => c47_6 q k (by omega) (by omega)
      have hL9 : ∀ q k, w ≤ q → q < w + 47 → N9 q k = L q k := fun q k h1 h2 => c47_7 q k (by omega)
      have hWR9 : q_WR M9 N9 w r (r 2) := hWR.fr hv hI9 (fun q k h1 h2 _ => hL9 q k h1 h2)
      refine q_aload_n hF 0 rfl rfl dX7_close_50 ?_
      refine q_getIv hF (z := r (1042 + 12 * i)) fl_RX7_115 (hW0.ta _ (by omega)) (hWR9.acc _ hy).cents dX7_close_51 ?_
      refine q_istore_n hF (ls' := [(3, qI (r (1042 + 12 * i))), (2, .ref (w + 35 + i)), (0, .ref b), (1, qI (i : Int))]) rfl (by decide) rfl dX7_close_54 ?_
      refine q_aload_n hF 1 rfl rfl dX7_close_55 ?_
      refine q_iload_n hF 0 rfl rfl dX7_close_56 ?_
      refine q_callV (kc := 1) (ks := 6) (mc' := 0) (ms' := 0) (h' := 0) (st := []) hF vl_RX7_121 rfl [qI (r (1042 + 12 * i))] rfl rfl (hW0.ta _ (by omega)) (by decide) (Nat.le_of_ble_eq_true rfl) dX7_close_57 ?_
      refine mX0_payOut (hW0.ta _ (by omega)) (q_Ale hW0A (by omega)) (by omega) ?_
      rw [show M9 (w + 35 + i) 3 = r (1042 + 12 * i) from (hWR9.acc _ hy).cents]
      refine q_aload_n hF 1 rfl rfl dX7_close_60 ?_
      refine q_iconst hF dX7_close_61 ?_
      refine q_putI hF fl_RX7_127 (hW0.ta _ (by omega)) (q_Ale hW0A (by omega)) dX7_close_62 ?_
      refine q_iload_n hF 0 rfl rfl dX7_close_65 ?_
      refine q_ireturn hF rfl dX7_close_66 ?_
      have hAR9 : q_AR (u2 (u2 M9 (w + 35 + i) 3 ((r (1042 + 12 * i)) - (r (1042 + 12 * i)))) (w + 35 + i) 4 4) (w + 35 + i) (g_oclose r i) i := ⟨(by unfold g_oclose; rw [u2_k _ _ (by decide), u2_k _ _ (by decide), g_up_n _ _ (by omega), g_up_n _ _ (by omega), g_up_n _ _ (by omega)]; exact (hWR9.acc i hy).kind), (by unfold g_oclose; rw [u2_k _ _ (by decide), u2_k _ _ (by decide), g_up_n _ _ (by omega), g_up_n _ _ (by omega), g_up_n _ _ (by omega)]; exact (hWR9.acc i hy).addr), (by unfold g_oclose; rw [u2_k _ _ (by decide), u2_k _ _ (by decide), g_up_n _ _ (by omega), g_up_n _ _ (by omega), g_up_n _ _ (by omega)]; exact (hWR9.acc i hy).birth), (by unfold g_oclose; rw [u2_k _ _ (by decide), u2_s, g_up_n _ _ (by omega), g_up_s]; first | done | rfl | omega), (by unfold g_oclose; rw [u2_s, g_up_s]; first | done | rfl | omega), (by unfold g_oclose; rw [u2_k _ _ (by decide), u2_k _ _ (by decide), g_up_n _ _ (by omega), g_up_n _ _ (by omega), g_up_n _ _ (by omega)]; exact (hWR9.acc i hy).age), (by unfold g_oclose; rw [u2_k _ _ (by decide), u2_k _ _ (by decide), g_up_n _ _ (by omega), g_up_n _ _ (by omega), g_up_n _ _ (by omega)]; exact (hWR9.acc i hy).since), (by unfold g_oclose; rw [u2_k _ _ (by decide), u2_k _ _ (by decide), g_up_n _ _ (by omega), g_up_n _ _ (by omega), g_up_n _ _ (by omega)]; exact (hWR9.acc i hy).wrote), (by unfold g_oclose; rw [u2_k _ _ (by decide), u2_k _ _ (by decide), g_up_n _ _ (by omega), g_up_n _ _ (by omega), g_up_n _ _ (by omega)]; exact (hWR9.acc i hy).lat), (by unfold g_oclose; rw [u2_k _ _ (by decide), u2_k _ _ (by decide), g_up_n _ _ (by omega), g_up_n _ _ (by omega), g_up_n _ _ (by omega)]; exact (hWR9.acc i hy).holder), (by unfold g_oclose; rw [u2_k _ _ (by decide), u2_k _ _ (by decide), g_up_n _ _ (by omega), g_up_n _ _ (by omega), g_up_n _ _ (by omega)]; exact (hWR9.acc i hy).nl), (fun q => by unfold g_oclose at q; rw [g_up_s] at q; exact absurd q (by decide))⟩
      have hX9 : q_WR (u2 (u2 M9 (w + 35 + i) 3 ((r (1042 + 12 * i)) - (r (1042 + 12 * i)))) (w + 35 + i) 4 4) (u2 N9 (w + 35 + i) 14 ((N9 (w + 35 + i) 14) + (r (1042 + 12 * i)))) w (g_oclose r i) ((g_oclose r i) 2) := by
        rw [show (g_oclose r i) 2 = r 2 from (by unfold g_oclose; rw [g_up_n _ _ (by omega), g_up_n _ _ (by omega), g_up_n _ _ (by omega)])]
        exact hWR9.upd hv hy (fun k hk => by unfold g_rc at hk; unfold g_oclose; rw [g_up_n _ _ (by omega), g_up_n _ _ (by omega), g_up_n _ _ (by omega)]) (by unfold g_oclose; rw [g_up_n _ _ (by omega), g_up_n _ _ (by omega), g_up_n _ _ (by omega)]) (by unfold g_oclose; rw [g_up_n _ _ (by omega), g_up_n _ _ (by omega), g_up_n _ _ (by omega)]) (fun k k1 k2 => by unfold g_oclose; rw [g_up_n _ _ (by omega), g_up_n _ _ (by omega), g_up_n _ _ (by omega)]) (fun q k h => by rw [u2_a _ _ h, u2_a _ _ h]) hAR9 (fun l9 hl9 => by unfold g_oclose; rw [u2_a _ _ (by omega), g_up_n _ _ (by omega), g_up_n _ _ (by omega), g_up_n _ _ (by omega)]; exact hWR9.paid l9 hl9) (fun l9 hl9 => by unfold g_oclose; rw [u2_a _ _ (by omega), g_up_n _ _ (by omega), g_up_n _ _ (by omega), g_up_n _ _ (by omega)]; exact hWR9.pass l9 hl9) (fun j k j1 j2 => by rw [u2_a _ _ (by omega)]) (by unfold g_oclose; rw [u2_k _ _ (by decide), g_up_n _ _ (by omega), g_up_n _ _ (by omega), g_up_n _ _ (by omega)]; omega) (by unfold g_oclose; rw [u2_k _ _ (by decide), g_up_n _ _ (by omega), g_up_n _ _ (by omega), g_up_n _ _ (by omega)]; omega) (by unfold g_oclose; rw [u2_s, g_up_n _ _ (by omega), g_up_n _ _ (by omega), g_up_s]; omega) (by unfold g_oclose; rw [u2_k _ _ (by decide), g_up_n _ _ (by omega), g_up_n _ _ (by omega), g_up_n _ _ (by omega)]; omega) (by unfold g_oclose; rw [u2_k _ _ (by decide), g_up_n _ _ (by omega), g_up_n _ _ (by omega), g_up_n _ _ (by omega)]; omega)
      exact k0 (u2 (u2 M9 (w + 35 + i) 3 ((r (1042 + 12 * i)) - (r (1042 + 12 * i)))) (w + 35 + i) 4 4) (u2 N9 (w + 35 + i) 14 ((N9 (w + 35 + i) 14) + (r (1042 + 12 * i)))) P9 V9 (by omega) (q_AF.mk hv hbk hVw hS9 hPV9 hO9 c47_3 c47_4 c47_5 c47_6 c47_7 c47_8 c47_9 (fun q k h => by rw [u2_a _ _ (by omega), u2_a _ _ (by omega)]) (fun q k h => by rw [u2_a _ _ (by omega)]) hX9)
    · refine q_iconst hF dX7_close_38 ?_
      refine q_goto hF dX7_close_39 ?_
      refine q_callV (kc := 0) (ks := 0) (mc' := 1) (ms' := 6) (h' := 0) (st := []) hF vl_RX7_88 rfl [qI 1] rfl rfl hS.t0 (by decide) (Nat.le_of_ble_eq_true rfl) dX7_close_43 ?_
      refine mX7_refuseState1 hS.t0 hA (fun sz' c43_0 => ?_)
      refine q_out hF rfl ?_
      exact k2 sz' c43_0 (by omega)
  · omega
