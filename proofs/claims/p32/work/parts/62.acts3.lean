/-! the class: months, claims, sums passed on, accounts opened, acts taken back -/
theorem q_WR.add {M N I' L' : q_I} {w i : Nat} {R X : Nat → Int} {mo : Int} (h : q_WR M N w R mo) (hv : g_V0 R) (hi : R 1 = (i : Int)) (hi12 : i < 12)
    (hs : g_same R X) (x1 : X 1 = (i : Int) + 1) (x6 : X 6 = R 6) (xk : ∀ k, 1039 ≤ k → k < 1039 + 12 * i ∨ 1050 + 12 * i < k → X k = R k) (x35 : ∀ l : Nat, l < 5 → X (35 + 13 * l) = R (35 + 13 * l)) (x36 : ∀ l : Nat, l < 5 → X (36 + 13 * l) = R (36 + 13 * l))
    (f2 : I' w 2 = (i : Int) + 1) (f1 : ∀ q k, q ≠ w + 35 + i → (q ≠ w ∨ k ≠ 2) → I' q k = M q k) (hA : q_AR I' (w + 35 + i) X i) (fL : ∀ q k, q ≠ w + 35 + i → L' q k = N q k)
    (l12 : L' (w + 35 + i) 12 = X 17 - R 17) (l13 : L' (w + 35 + i) 13 = X 18 - R 18) (l14 : L' (w + 35 + i) 14 = X 19 - R 19) (l15 : L' (w + 35 + i) 15 = X 20 - R 20) (l16 : L' (w + 35 + i) 16 = X 23 - R 23) : q_WR I' L' w X mo := by
  have hr := hv.rows
  have e1 : (X 1).toNat = i + 1 := by omega
  have e0 : (R 1).toNat = i := by omega
  have sm : ∀ f : Nat, g_sum (fun j => L' (w + 35 + j) f) i = g_sum (fun j => N (w + 35 + j) f) i := fun f => g_sum_ext _ (fun j hj => fL _ _ (by omega))
  refine ⟨by rw [f2, x1], (f1 _ _ (by omega) (by omega)).trans h.mon, by rw [f1 _ _ (by omega) (by omega), x6]; exact h.rows, ?_, h.ru.ext hv (fun q k x y => f1 q k (by omega) (by omega)) hs, fun j hj => ?_, fun k j hk hj => ?_, fun l hl => by rw [fL _ _ (by omega), x35 l hl]; exact h.paid l hl, fun l hl => by rw [fL _ _ (by omega), x36 l hl]; exact h.pass l hl, ?_, ?_, ?_, ?_⟩
  · have q := h.cl; rw [e0] at q; rw [e1, g_sum_s, sm, l16, q]; omega
  · rw [x1] at hj
    by_cases e : j = i
    · subst e; exact hA
    · exact (h.acc j (by omega)).ext (fun k => f1 _ k (by omega) (by omega)) (fun k k1 k2 => xk k (by omega) (by omega))
  · rw [x6] at hk
    rw [f1 _ _ (by omega) (by omega), xk _ (by omega) (by omega)]; exact h.book k j hk hj
  · have q := h.s17; rw [e0] at q; rw [e1, g_sum_s, sm, l12, q]; omega
  · have q := h.s18; rw [e0] at q; rw [e1, g_sum_s, sm, l13, q]; omega
  · have q := h.s19; rw [e0] at q; rw [e1, g_sum_s, sm, l14, q]; omega
  · have q := h.s20; rw [e0] at q; rw [e1, g_sum_s, sm, l15, q]; omega
set_option maxRecDepth 100000 in
theorem mX7_claim0 {G : q_G} {sz : Nat} {T : q_T} {I L : q_I} {P : q_P} {Q : q_Q} {V : Nat → Nat} {w : Nat} {r : Nat → Int} {b : Nat} {a : Int}  (hS : q_ST T P b) (hA : q_A G b) (hPV : q_PV P b V) (hO : q_OV b V) (hVw : V 0 = w) (hWR : q_WR I L w r (r 2)) (hV : g_VR r) (ha : -2147483648 ≤ a ∧ a < 2147483648) (hn : ¬ (0 ≤ a ∧ a < r 1)) (k1 : ∀ sz', sz ≤ sz' → Q (.inr "java/util/NoSuchElementException") sz' T (u2 I b 7 ((I b 7) + 1)) L P) : qC G 4 1 6 YX7_claim [.ref b, qI a] sz T I L P Q := by
  refine qC_of (by decide +kernel) rfl rfl (Nat.le_of_ble_eq_true rfl) (fun F hF _ _ => ?_)
  have hv := hV.1
  have hPVw : P b 3 = some w := hVw ▸ hPV.w
  have hwr := hO.r (i := 0) (by omega)
  rw [hVw] at hwr
  have hW0 : q_SW T P w := by have q := hS.sw hO (i := 0) (by omega); rwa [hVw] at q
  have hW0A : q_A G w := q_Ale hA (by omega)
  have hm12 := hv.many
  have hl5 := hv.lands
  have hmo := hv.month
  have hr6 := hv.rows
  refine q_aload_n hF 0 rfl rfl dX7_claim_0 ?_
  refine q_aload_n hF 0 rfl rfl dX7_claim_1 ?_
  refine q_getA hF fl_RX7_26 rfl hS.t0 hPVw dX7_claim_2 ?_
  refine q_iload_n hF 1 rfl rfl dX7_claim_5 ?_
  refine q_callV (kc := 1) (ks := 6) (mc' := 0) (ms' := 0) (h' := 0) (st := [.ref b]) hF vl_RX7_101 rfl [qI a] rfl rfl hW0.t0 (by decide) (Nat.le_of_ble_eq_true rfl) dX7_claim_6 ?_
  refine mX6_hasAccount (r := r) hW0 hWR hv (by omega) ?_
  refine q_ifne_b hF dX7_claim_9 (fun c9 => ?_) (fun c9 => ?_)
  · omega
  · refine q_iconst hF dX7_claim_12 ?_
    refine q_goto hF dX7_claim_13 ?_
    refine q_callV (kc := 0) (ks := 0) (mc' := 1) (ms' := 6) (h' := 0) (st := []) hF vl_RX7_77 rfl [qI 1] rfl rfl hS.t0 (by decide) (Nat.le_of_ble_eq_true rfl) dX7_claim_17 ?_
    refine mX7_refuseNoSuch1 hS.t0 hA (fun sz' c17_0 => ?_)
    refine q_out hF rfl ?_
    exact k1 sz' c17_0
set_option maxRecDepth 100000 in
theorem mX7_claim {G : q_G} {sz : Nat} {T : q_T} {I L : q_I} {P : q_P} {Q : q_Q} {V : Nat → Nat} {w : Nat} {r : Nat → Int} {b : Nat} {i bk : Nat} (hS : q_ST T P b) (hA : q_A G b) (hPV : q_PV P b V) (hO : q_OV b V) (hVw : V 0 = w) (hWR : q_WR I L w r (r 2)) (hV : g_VR r) (hb : I b 6 = (bk : Int)) (hbk : bk ≤ 8) (hy : (i : Int) < r 1) (k2 : ∀ sz', sz ≤ sz' → ¬ (r (1043 + 12 * i) = 2 ∧ r (1049 + 12 * i) = 0) → Q (.inr "java/lang/IllegalStateException") sz' T (u2 I b 9 ((I b 9) + 1)) L P) (k0 : ∀ (M N : q_I) (P9 : q_P) (V9 : Nat → Nat) (l : Nat), r (1047 + 12 * i) = (l : Int) → (l : Int) < r 0 → (r (1043 + 12 * i) = 2 ∧ r (1049 + 12 * i) = 0) → q_AF T b V bk I L P r (g_oclaim r i l) M N P9 V9 → Q (.inl (some (qL (r (1042 + 12 * i) + g_interest r i 0)))) sz T M N P9) : qC G 4 1 6 YX7_claim [.ref b, qI (i : Int)] sz T I L P Q := by
  refine qC_of (by decide +kernel) rfl rfl (Nat.le_of_ble_eq_true rfl) (fun F hF _ _ => ?_)
  have hv := hV.1
  have hPVw : P b 3 = some w := hVw ▸ hPV.w
  have hwr := hO.r (i := 0) (by omega)
  rw [hVw] at hwr
  have hW0 : q_SW T P w := by have q := hS.sw hO (i := 0) (by omega); rwa [hVw] at q
  have hW0A : q_A G w := q_Ale hA (by omega)
  have hm12 := hv.many
  have hl5 := hv.lands
  have hmo := hv.month
  have hr6 := hv.rows
  have hVA := hV.2.1 i hy
  rw [if_neg (Nat.not_lt_zero _)] at hVA
  have hva1 := hVA.state
  have hva2 := hVA.cents
  have hva3 := hVA.since
  have hva4 := hVA.holder
  have hva5 := hVA.nl
  have hva6 := hVA.age
  have hva7 := hVA.wrote
  have hva8 := hVA.lat
  have hva9 := hVA.addr
  have hva10 := hVA.birth
  have hva11 := hVA.kind
  refine q_aload_n hF 0 rfl rfl dX7_claim_0 ?_
  refine q_aload_n hF 0 rfl rfl dX7_claim_1 ?_
  refine q_getA hF fl_RX7_26 rfl hS.t0 hPVw dX7_claim_2 ?_
  refine q_iload_n hF 1 rfl rfl dX7_claim_5 ?_
  refine q_callV (kc := 1) (ks := 6) (mc' := 0) (ms' := 0) (h' := 0) (st := [.ref b]) hF vl_RX7_101 rfl [qI (i : Int)] rfl rfl hW0.t0 (by decide) (Nat.le_of_ble_eq_true rfl) dX7_claim_6 ?_
  refine mX6_hasAccount (r := r) hW0 hWR hv (by omega) ?_
  refine q_ifne_b hF dX7_claim_9 (fun c9 => ?_) (fun c9 => ?_)
  · refine q_iconst hF dX7_claim_16 ?_
    refine q_callV (kc := 1) (ks := 6) (mc' := 0) (ms' := 0) (h' := 0) (st := []) hF vl_RX7_77 rfl [qI 0] rfl rfl hS.t0 (by decide) (Nat.le_of_ble_eq_true rfl) dX7_claim_17 ?_
    refine mX7_refuseNoSuch0 hS.t0 ?_
    refine q_aload_n hF 0 rfl rfl dX7_claim_20 ?_
    refine q_getA hF fl_RX7_26 rfl hS.t0 hPVw dX7_claim_21 ?_
    refine q_getA hF fl_RX7_91 rfl hW0.t0 hW0.p1 dX7_claim_24 ?_
    refine q_iload_n hF 1 rfl rfl dX7_claim_27 ?_
    refine q_aaloadv hF (b := w + 35 + i) i hW0.t19 (by decide) rfl (by omega) (by decide) (hW0.pa _ (by omega)) dX7_claim_28 ?_
    refine q_astore_n hF (ls' := [(2, .ref (w + 35 + i)), (0, .ref b), (1, qI (i : Int))]) rfl (by decide) rfl dX7_claim_29 ?_
    refine q_aload_n hF 1 rfl rfl dX7_claim_30 ?_
    refine q_aload_n hF 0 rfl rfl dX7_claim_31 ?_
    refine q_callV (kc := 1) (ks := 6) (mc' := 0) (ms' := 0) (h' := 0) (st := [.ref b]) hF vl_RX7_137 rfl [] rfl rfl (hW0.ta _ (by omega)) (by decide) (Nat.le_of_ble_eq_true rfl) dX7_claim_32 ?_
    refine mX0_isClaimableR (r := r) (a := i) (hW0.ta _ (by omega)) (hWR.acc _ hy) hva1 hva5 ?_
    refine q_ifne_b hF dX7_claim_35 (fun c35 => ?_) (fun c35 => ?_)
    · refine q_iconst hF dX7_claim_42 ?_
      refine q_callV (kc := 1) (ks := 6) (mc' := 0) (ms' := 0) (h' := 0) (st := []) hF vl_RX7_88 rfl [qI 0] rfl rfl hS.t0 (by decide) (Nat.le_of_ble_eq_true rfl) dX7_claim_43 ?_
      refine mX7_refuseState0 hS.t0 ?_
      refine q_aload_n hF 1 rfl rfl dX7_claim_46 ?_
      refine q_callV (kc := 1) (ks := 6) (mc' := 0) (ms' := 0) (h' := 3) (st := []) hF vl_RX7_56 rfl [] rfl rfl hS.t0 (by decide) (Nat.le_of_ble_eq_true rfl) dX7_claim_47 ?_
      refine mX7_remember hS hA hPV hO hb hbk (by rw [hVw]; exact hWR) hv (fun j hj => by have q := (hV.2.1 j hj).nl; exact q) (fun M9 N9 P9 V9 c47_0 c47_1 c47_2 c47_3 c47_4 c47_5 c47_6 c47_7 c47_8 c47_9 => ?_)
      have hnb := g_nb_r hbk
      have hS9 := c47_0
      have hPV9 := c47_1
      have hO9 := c47_2
      have hw9 : V9 0 = w := c47_3.trans hVw
      have hPVw9 : P9 b 3 = some w := hw9 ▸ hPV9.w
      have hW9 : q_SW T P9 w := by have q := hS9.sw hO9 (i := 0) (by omega); rwa [hw9] at q
      have hd9 := hO9.d (i := 0) (j := g_nb bk) (by omega) (by omega) (by omega)
      rw [hw9] at hd9
      have hI9 : ∀ q k, w ≤ q → q < w + 47 → M9 q k = I q k := fun q k h1 h2 => c47_6 q k (by omega) (by omega)
      have hL9 : ∀ q k, w ≤ q → q < w + 47 → N9 q k = L q k := fun q k h1 h2 => c47_7 q k (by omega)
      have hWR9 : q_WR M9 N9 w r (r 2) := hWR.fr hv hI9 (fun q k h1 h2 _ => hL9 q k h1 h2)
      have hst2 : r (1043 + 12 * i) = 2 := by omega
      obtain ⟨l, hl⟩ : ∃ l : Nat, r (1047 + 12 * i) = (l : Int) := ⟨_, (Int.toNat_of_nonneg (hVA.hh hst2).1).symm⟩
      have hl2 := (hVA.hh hst2).2
      rw [hl] at hl2
      refine q_aload_n hF 1 rfl rfl dX7_claim_50 ?_
      refine q_getA hF fl_RX7_26 rfl hS.t0 hPVw9 dX7_claim_51 ?_
      refine q_aload_n hF 0 rfl rfl dX7_claim_54 ?_
      refine q_callV (kc := 1) (ks := 6) (mc' := 0) (ms' := 0) (h' := 2) (st := []) hF vl_RX7_140 rfl [.ref (w + 35 + i)] rfl rfl hW0.t0 (by decide) (Nat.le_of_ble_eq_true rfl) dX7_claim_55 ?_
      refine mX6_giveBack (r := r) (a := i) hW9 hW0A (hW0.ta _ (by omega)) (q_Ale hW0A (by omega)) hWR9 hv (hWR9.acc _ hy) hVA (by omega) (by omega) hst2 hl hl2 (by omega) (by omega) (fun c55_0 => ?_)
      refine q_lreturn hF rfl dX7_claim_58 ?_
      have hAR9 : q_AR (u2 (u2 M9 (w + 35 + i) 3 0) (w + 35 + i) 4 3) (w + 35 + i) (g_oclaim r i l) i := ⟨(by unfold g_oclaim; rw [u2_k _ _ (by decide), u2_k _ _ (by decide), g_up_n _ _ (by omega), g_up_n _ _ (by omega), g_up_n _ _ (by omega), g_up_n _ _ (by omega)]; exact (hWR9.acc i hy).kind), (by unfold g_oclaim; rw [u2_k _ _ (by decide), u2_k _ _ (by decide), g_up_n _ _ (by omega), g_up_n _ _ (by omega), g_up_n _ _ (by omega), g_up_n _ _ (by omega)]; exact (hWR9.acc i hy).addr), (by unfold g_oclaim; rw [u2_k _ _ (by decide), u2_k _ _ (by decide), g_up_n _ _ (by omega), g_up_n _ _ (by omega), g_up_n _ _ (by omega), g_up_n _ _ (by omega)]; exact (hWR9.acc i hy).birth), (by unfold g_oclaim; rw [u2_k _ _ (by decide), u2_s, g_up_n _ _ (by omega), g_up_s]; first | done | rfl | omega), (by unfold g_oclaim; rw [u2_s, g_up_s]; first | done | rfl | omega), (by unfold g_oclaim; rw [u2_k _ _ (by decide), u2_k _ _ (by decide), g_up_n _ _ (by omega), g_up_n _ _ (by omega), g_up_n _ _ (by omega), g_up_n _ _ (by omega)]; exact (hWR9.acc i hy).age), (by unfold g_oclaim; rw [u2_k _ _ (by decide), u2_k _ _ (by decide), g_up_n _ _ (by omega), g_up_n _ _ (by omega), g_up_n _ _ (by omega), g_up_n _ _ (by omega)]; exact (hWR9.acc i hy).since), (by unfold g_oclaim; rw [u2_k _ _ (by decide), u2_k _ _ (by decide), g_up_n _ _ (by omega), g_up_n _ _ (by omega), g_up_n _ _ (by omega), g_up_n _ _ (by omega)]; exact (hWR9.acc i hy).wrote), (by unfold g_oclaim; rw [u2_k _ _ (by decide), u2_k _ _ (by decide), g_up_n _ _ (by omega), g_up_n _ _ (by omega), g_up_n _ _ (by omega), g_up_n _ _ (by omega)]; exact (hWR9.acc i hy).lat), (by unfold g_oclaim; rw [u2_k _ _ (by decide), u2_k _ _ (by decide), g_up_n _ _ (by omega), g_up_n _ _ (by omega), g_up_n _ _ (by omega), g_up_n _ _ (by omega)]; exact (hWR9.acc i hy).holder), (by unfold g_oclaim; rw [u2_k _ _ (by decide), u2_k _ _ (by decide), g_up_n _ _ (by omega), g_up_n _ _ (by omega), g_up_n _ _ (by omega), g_up_n _ _ (by omega)]; exact (hWR9.acc i hy).nl), (fun q => by unfold g_oclaim at q; rw [g_up_s] at q; exact absurd q (by decide))⟩
      have hX9 : q_WR (u2 (u2 M9 (w + 35 + i) 3 0) (w + 35 + i) 4 3) (u2 (u2 N9 (w + 33) l ((r (35 + 13 * l)) + (g_interest r i 0))) (w + 35 + i) 16 ((N9 (w + 35 + i) 16) + (r (1042 + 12 * i)))) w (g_oclaim r i l) ((g_oclaim r i l) 2) := by
        rw [show (g_oclaim r i l) 2 = r 2 from (by unfold g_oclaim; rw [g_up_n _ _ (by omega), g_up_n _ _ (by omega), g_up_n _ _ (by omega), g_up_n _ _ (by omega)])]
        exact hWR9.upd hv hy (fun k hk => by unfold g_rc at hk; unfold g_oclaim; rw [g_up_n _ _ (by omega), g_up_n _ _ (by omega), g_up_n _ _ (by omega), g_up_n _ _ (by omega)]) (by unfold g_oclaim; rw [g_up_n _ _ (by omega), g_up_n _ _ (by omega), g_up_n _ _ (by omega), g_up_n _ _ (by omega)]) (by unfold g_oclaim; rw [g_up_n _ _ (by omega), g_up_n _ _ (by omega), g_up_n _ _ (by omega), g_up_n _ _ (by omega)]) (fun k k1 k2 => by unfold g_oclaim; rw [g_up_n _ _ (by omega), g_up_n _ _ (by omega), g_up_n _ _ (by omega), g_up_n _ _ (by omega)]) (fun q k h => by rw [u2_a _ _ h, u2_a _ _ h]) hAR9 (fun l9 hl9 => by
          unfold g_oclaim
          by_cases e : l9 = l
          · subst e; rw [u2_a _ _ (by omega), u2_s, g_up_n _ _ (by omega), g_up_n _ _ (by omega), g_up_n _ _ (by omega), g_up_s]; first | done | rfl | omega
          · rw [u2_a _ _ (by omega), u2_k _ _ e, g_up_n _ _ (by omega), g_up_n _ _ (by omega), g_up_n _ _ (by omega), g_up_n _ _ (by omega)]; exact hWR9.paid l9 hl9) (fun l9 hl9 => by unfold g_oclaim; rw [u2_a _ _ (by omega), u2_a _ _ (by omega), g_up_n _ _ (by omega), g_up_n _ _ (by omega), g_up_n _ _ (by omega), g_up_n _ _ (by omega)]; exact hWR9.pass l9 hl9) (fun j k j1 j2 => by rw [u2_a _ _ (by omega), u2_a _ _ (by omega)]) (by unfold g_oclaim; rw [u2_k _ _ (by decide), u2_a _ _ (by omega), g_up_n _ _ (by omega), g_up_n _ _ (by omega), g_up_n _ _ (by omega), g_up_n _ _ (by omega)]; omega) (by unfold g_oclaim; rw [u2_k _ _ (by decide), u2_a _ _ (by omega), g_up_n _ _ (by omega), g_up_n _ _ (by omega), g_up_n _ _ (by omega), g_up_n _ _ (by omega)]; omega) (by unfold g_oclaim; rw [u2_k _ _ (by decide), u2_a _ _ (by omega), g_up_n _ _ (by omega), g_up_n _ _ (by omega), g_up_n _ _ (by omega), g_up_n _ _ (by omega)]; omega) (by unfold g_oclaim; rw [u2_k _ _ (by decide), u2_a _ _ (by omega), g_up_n _ _ (by omega), g_up_n _ _ (by omega), g_up_n _ _ (by omega), g_up_n _ _ (by omega)]; omega) (by unfold g_oclaim; rw [u2_s, g_up_n _ _ (by omega), g_up_n _ _ (by omega), g_up_s]; omega)
      exact k0 (u2 (u2 M9 (w + 35 + i) 3 0) (w + 35 + i) 4 3) (u2 (u2 N9 (w + 33) l ((r (35 + 13 * l)) + (g_interest r i 0))) (w + 35 + i) 16 ((N9 (w + 35 + i) 16) + (r (1042 + 12 * i)))) P9 V9 l hl hl2 (by omega) (q_AF.mk hv hbk hVw hS9 hPV9 hO9 c47_3 c47_4 c47_5 c47_6 c47_7 c47_8 c47_9 (fun q k h => by rw [u2_a _ _ (by omega), u2_a _ _ (by omega)]) (fun q k h => by rw [u2_a _ _ (by omega), u2_a _ _ (by omega)]) hX9)
    · refine q_iconst hF dX7_claim_38 ?_
      refine q_goto hF dX7_claim_39 ?_
      refine q_callV (kc := 0) (ks := 0) (mc' := 1) (ms' := 6) (h' := 0) (st := []) hF vl_RX7_88 rfl [qI 1] rfl rfl hS.t0 (by decide) (Nat.le_of_ble_eq_true rfl) dX7_claim_43 ?_
      refine mX7_refuseState1 hS.t0 hA (fun sz' c43_0 => ?_)
      refine q_out hF rfl ?_
      exact k2 sz' c43_0 (by omega)
  · omega
set_option maxRecDepth 100000 in
theorem mX7_pass0 {G : q_G} {sz : Nat} {T : q_T} {I L : q_I} {P : q_P} {Q : q_Q} {V : Nat → Nat} {w : Nat} {r : Nat → Int} {b : Nat} {a : Int}  (hS : q_ST T P b) (hA : q_A G b) (hPV : q_PV P b V) (hO : q_OV b V) (hVw : V 0 = w) (hWR : q_WR I L w r (r 2)) (hV : g_VR r) (ha : -2147483648 ≤ a ∧ a < 2147483648) (hn : ¬ (0 ≤ a ∧ a < r 1)) (k1 : ∀ sz', sz ≤ sz' → Q (.inr "java/util/NoSuchElementException") sz' T (u2 I b 7 ((I b 7) + 1)) L P) : qC G 4 1 6 YX7_pass [.ref b, qI a] sz T I L P Q := by
  refine qC_of (by decide +kernel) rfl rfl (Nat.le_of_ble_eq_true rfl) (fun F hF _ _ => ?_)
  have hv := hV.1
  have hPVw : P b 3 = some w := hVw ▸ hPV.w
  have hwr := hO.r (i := 0) (by omega)
  rw [hVw] at hwr
  have hW0 : q_SW T P w := by have q := hS.sw hO (i := 0) (by omega); rwa [hVw] at q
  have hW0A : q_A G w := q_Ale hA (by omega)
  have hm12 := hv.many
  have hl5 := hv.lands
  have hmo := hv.month
  have hr6 := hv.rows
  refine q_aload_n hF 0 rfl rfl dX7_pass_0 ?_
  refine q_aload_n hF 0 rfl rfl dX7_pass_1 ?_
  refine q_getA hF fl_RX7_26 rfl hS.t0 hPVw dX7_pass_2 ?_
  refine q_iload_n hF 1 rfl rfl dX7_pass_5 ?_
  refine q_callV (kc := 1) (ks := 6) (mc' := 0) (ms' := 0) (h' := 0) (st := [.ref b]) hF vl_RX7_101 rfl [qI a] rfl rfl hW0.t0 (by decide) (Nat.le_of_ble_eq_true rfl) dX7_pass_6 ?_
  refine mX6_hasAccount (r := r) hW0 hWR hv (by omega) ?_
  refine q_ifne_b hF dX7_pass_9 (fun c9 => ?_) (fun c9 => ?_)
  · omega
  · refine q_iconst hF dX7_pass_12 ?_
    refine q_goto hF dX7_pass_13 ?_
    refine q_callV (kc := 0) (ks := 0) (mc' := 1) (ms' := 6) (h' := 0) (st := []) hF vl_RX7_77 rfl [qI 1] rfl rfl hS.t0 (by decide) (Nat.le_of_ble_eq_true rfl) dX7_pass_17 ?_
    refine mX7_refuseNoSuch1 hS.t0 hA (fun sz' c17_0 => ?_)
    refine q_out hF rfl ?_
    exact k1 sz' c17_0
set_option maxRecDepth 100000 in
theorem mX7_pass {G : q_G} {sz : Nat} {T : q_T} {I L : q_I} {P : q_P} {Q : q_Q} {V : Nat → Nat} {w : Nat} {r : Nat → Int} {b : Nat} {i bk : Nat} (hS : q_ST T P b) (hA : q_A G b) (hPV : q_PV P b V) (hO : q_OV b V) (hVw : V 0 = w) (hWR : q_WR I L w r (r 2)) (hV : g_VR r) (hb : I b 6 = (bk : Int)) (hbk : bk ≤ 8) (hy : (i : Int) < r 1) (k2 : ∀ sz', sz ≤ sz' → ¬ (r (1043 + 12 * i) = 2 ∧ g_bel r i ≠ -1 ∧ g_bel r i ≠ r (1047 + 12 * i)) → Q (.inr "java/lang/IllegalStateException") sz' T (u2 I b 9 ((I b 9) + 1)) L P) (k0 : ∀ (M N : q_I) (P9 : q_P) (V9 : Nat → Nat) (l : Nat), g_bel r i = (l : Int) → (r (1043 + 12 * i) = 2 ∧ g_bel r i ≠ -1 ∧ g_bel r i ≠ r (1047 + 12 * i)) → q_AF T b V bk I L P r (g_opass r i l) M N P9 V9 → Q (.inl (some (qI (l : Int)))) sz T M N P9) : qC G 4 1 6 YX7_pass [.ref b, qI (i : Int)] sz T I L P Q := by
  refine qC_of (by decide +kernel) rfl rfl (Nat.le_of_ble_eq_true rfl) (fun F hF _ _ => ?_)
  have hv := hV.1
  have hPVw : P b 3 = some w := hVw ▸ hPV.w
  have hwr := hO.r (i := 0) (by omega)
  rw [hVw] at hwr
  have hW0 : q_SW T P w := by have q := hS.sw hO (i := 0) (by omega); rwa [hVw] at q
  have hW0A : q_A G w := q_Ale hA (by omega)
  have hm12 := hv.many
  have hl5 := hv.lands
  have hmo := hv.month
  have hr6 := hv.rows
  have hVA := hV.2.1 i hy
  rw [if_neg (Nat.not_lt_zero _)] at hVA
  have hva1 := hVA.state
  have hva2 := hVA.cents
  have hva3 := hVA.since
  have hva4 := hVA.holder
  have hva5 := hVA.nl
  have hva6 := hVA.age
  have hva7 := hVA.wrote
  have hva8 := hVA.lat
  have hva9 := hVA.addr
  have hva10 := hVA.birth
  have hva11 := hVA.kind
  have hbr := g_bel_r hv hVA
  have hbr2 : g_bel r i = -1 ∨ (0 ≤ g_bel r i ∧ g_bel r i < r 0) := by
    by_cases e9 : g_bel r i = -1
    · exact Or.inl e9
    · have q9 := (g_bel_tk hv hVA e9).1
      exact Or.inr ⟨q9.1, q9.2.1⟩
  refine q_aload_n hF 0 rfl rfl dX7_pass_0 ?_
  refine q_aload_n hF 0 rfl rfl dX7_pass_1 ?_
  refine q_getA hF fl_RX7_26 rfl hS.t0 hPVw dX7_pass_2 ?_
  refine q_iload_n hF 1 rfl rfl dX7_pass_5 ?_
  refine q_callV (kc := 1) (ks := 6) (mc' := 0) (ms' := 0) (h' := 0) (st := [.ref b]) hF vl_RX7_101 rfl [qI (i : Int)] rfl rfl hW0.t0 (by decide) (Nat.le_of_ble_eq_true rfl) dX7_pass_6 ?_
  refine mX6_hasAccount (r := r) hW0 hWR hv (by omega) ?_
  refine q_ifne_b hF dX7_pass_9 (fun c9 => ?_) (fun c9 => ?_)
  · refine q_iconst hF dX7_pass_16 ?_
    refine q_callV (kc := 1) (ks := 6) (mc' := 0) (ms' := 0) (h' := 0) (st := []) hF vl_RX7_77 rfl [qI 0] rfl rfl hS.t0 (by decide) (Nat.le_of_ble_eq_true rfl) dX7_pass_17 ?_
    refine mX7_refuseNoSuch0 hS.t0 ?_
    refine q_aload_n hF 0 rfl rfl dX7_pass_20 ?_
    refine q_getA hF fl_RX7_26 rfl hS.t0 hPVw dX7_pass_21 ?_
    refine q_getA hF fl_RX7_91 rfl hW0.t0 hW0.p1 dX7_pass_24 ?_
    refine q_iload_n hF 1 rfl rfl dX7_pass_27 ?_
    refine q_aaloadv hF (b := w + 35 + i) i hW0.t19 (by decide) rfl (by omega) (by decide) (hW0.pa _ (by omega)) dX7_pass_28 ?_
    refine q_astore_n hF (ls' := [(2, .ref (w + 35 + i)), (0, .ref b), (1, qI (i : Int))]) rfl (by decide) rfl dX7_pass_29 ?_
    refine q_aload_n hF 1 rfl rfl dX7_pass_30 ?_
    refine q_getA hF fl_RX7_26 rfl hS.t0 hPVw dX7_pass_31 ?_
    refine q_getA hF fl_RX7_67 rfl hW0.t0 hW0.p0 dX7_pass_34 ?_
    refine q_aload_n hF 0 rfl rfl dX7_pass_37 ?_
    refine q_callV (kc := 1) (ks := 6) (mc' := 0) (ms' := 0) (h' := 2) (st := []) hF vl_RX7_144 rfl [.ref (w + 35 + i)] rfl rfl hW0.ru.t0 (by decide) (Nat.le_of_ble_eq_true rfl) dX7_pass_38 ?_
    refine mX4_landOf (r := r) (a := i) hW0.ru hWR.ru hv (hW0.ta _ (by omega)) (hWR.acc _ hy) hVA ?_
    refine q_istore_n hF (ls' := [(3, qI (g_bel r i)), (2, .ref (w + 35 + i)), (0, .ref b), (1, qI (i : Int))]) rfl (by decide) rfl dX7_pass_41 ?_
    refine q_aload_n hF 2 rfl rfl dX7_pass_42 ?_
    refine q_aload_n hF 1 rfl rfl dX7_pass_43 ?_
    refine q_getIv hF (z := r (1043 + 12 * i)) fl_RX7_127 (hW0.ta _ (by omega)) (hWR.acc _ hy).state dX7_pass_44 ?_
    refine q_iconst hF dX7_pass_47 ?_
    refine q_icmpne hF (by omega) (by decide) dX7_pass_48 (fun c48 => ?_) (fun c48 => ?_)
    · refine q_iconst hF dX7_pass_73 ?_
      refine q_goto hF dX7_pass_74 ?_
      refine q_callV (kc := 0) (ks := 0) (mc' := 1) (ms' := 6) (h' := 0) (st := []) hF vl_RX7_88 rfl [qI 1] rfl rfl hS.t0 (by decide) (Nat.le_of_ble_eq_true rfl) dX7_pass_78 ?_
      refine mX7_refuseState1 hS.t0 hA (fun sz' c78_0 => ?_)
      refine q_out hF rfl ?_
      exact k2 sz' c78_0 (by omega)
    · refine q_aload_n hF 2 rfl rfl dX7_pass_51 ?_
      refine q_getA hF fl_RX7_26 rfl hS.t0 hPVw dX7_pass_52 ?_
      refine q_getA hF fl_RX7_67 rfl hW0.t0 hW0.p0 dX7_pass_55 ?_
      refine q_iload_n hF 0 rfl rfl dX7_pass_58 ?_
      refine q_callV (kc := 1) (ks := 6) (mc' := 0) (ms' := 0) (h' := 0) (st := [.ref b]) hF vl_RX7_148 rfl [qI (g_bel r i)] rfl rfl hW0.ru.t0 (by decide) (Nat.le_of_ble_eq_true rfl) dX7_pass_59 ?_
      refine mX4_isLand (r := r) hW0.ru hWR.ru hv (by omega) ?_
      refine q_ifeq_b hF dX7_pass_62 (fun c62 => ?_) (fun c62 => ?_)
      · refine q_iconst hF dX7_pass_73 ?_
        refine q_goto hF dX7_pass_74 ?_
        refine q_callV (kc := 0) (ks := 0) (mc' := 1) (ms' := 6) (h' := 0) (st := []) hF vl_RX7_88 rfl [qI 1] rfl rfl hS.t0 (by decide) (Nat.le_of_ble_eq_true rfl) dX7_pass_78 ?_
        refine mX7_refuseState1 hS.t0 hA (fun sz' c78_0 => ?_)
        refine q_out hF rfl ?_
        exact k2 sz' c78_0 (by omega)
      · refine q_iload_n hF 0 rfl rfl dX7_pass_65 ?_
        refine q_aload_n hF 1 rfl rfl dX7_pass_66 ?_
        refine q_getIv hF (z := r (1047 + 12 * i)) fl_RX7_151 (hW0.ta _ (by omega)) (hWR.acc _ hy).holder dX7_pass_67 ?_
        refine q_icmpne hF (by omega) (by omega) dX7_pass_70 (fun c70 => ?_) (fun c70 => ?_)
        · refine q_iconst hF dX7_pass_77 ?_
          refine q_callV (kc := 1) (ks := 6) (mc' := 0) (ms' := 0) (h' := 0) (st := []) hF vl_RX7_88 rfl [qI 0] rfl rfl hS.t0 (by decide) (Nat.le_of_ble_eq_true rfl) dX7_pass_78 ?_
          refine mX7_refuseState0 hS.t0 ?_
          have hbt := (g_bel_tk hv hVA (by omega)).1
          obtain ⟨l, hl⟩ : ∃ l : Nat, g_bel r i = (l : Int) := ⟨_, (Int.toNat_of_nonneg hbt.1).symm⟩
          rw [hl] at hbt
          rw [hl]
          refine q_aload_n hF 2 rfl rfl dX7_pass_81 ?_
          refine q_callV (kc := 1) (ks := 6) (mc' := 0) (ms' := 0) (h' := 3) (st := []) hF vl_RX7_56 rfl [] rfl rfl hS.t0 (by decide) (Nat.le_of_ble_eq_true rfl) dX7_pass_82 ?_
          refine mX7_remember hS hA hPV hO hb hbk (by rw [hVw]; exact hWR) hv (fun j hj => by have q := (hV.2.1 j hj).nl; exact q) (fun M9 N9 P9 V9 c82_0 c82_1 c82_2 c82_3 c82_4 c82_5 c82_6 c82_7 c82_8 c82_9 => ?_)
          have hnb := g_nb_r hbk
          have hS9 := c82_0
          have hPV9 := c82_1
          have hO9 := c82_2
          have hw9 : V9 0 = w := c82_3.trans hVw
          have hPVw9 : P9 b 3 = some w := hw9 ▸ hPV9.w
          have hW9 : q_SW T P9 w := by have q := hS9.sw hO9 (i := 0) (by omega); rwa [hw9] at q
          have hd9 := hO9.d (i := 0) (j := g_nb bk) (by omega) (by omega) (by omega)
          rw [hw9] at hd9
          have hI9 : ∀ q k, w ≤ q → q < w + 47 → M9 q k = I q k := fun q k h1 h2 => c82_6 q k (by omega) (by omega)
          have hL9 : ∀ q k, w ≤ q → q < w + 47 → N9 q k = L q k := fun q k h1 h2 => c82_7 q k (by omega)
          have hWR9 : q_WR M9 N9 w r (r 2) := hWR.fr hv hI9 (fun q k h1 h2 _ => hL9 q k h1 h2)
          refine q_aload_n hF 2 rfl rfl dX7_pass_85 ?_
          refine q_getA hF fl_RX7_26 rfl hS.t0 hPVw9 dX7_pass_86 ?_
          refine q_aload_n hF 1 rfl rfl dX7_pass_89 ?_
          refine q_iload_n hF 0 rfl rfl dX7_pass_90 ?_
          refine q_callV (kc := 1) (ks := 6) (mc' := 0) (ms' := 0) (h' := 1) (st := []) hF vl_RX7_154 rfl [.ref (w + 35 + i), qI (l : Int)] rfl rfl hW0.t0 (by decide) (Nat.le_of_ble_eq_true rfl) dX7_pass_91 ?_
          refine mX6_passOn (l := l) (r := r) hW9 hW0A (hW0.ta _ (by omega)) (q_Ale hW0A (by omega)) hWR9 hv (by omega) (by omega) (by rw [(hWR9.acc _ hy).cents]; omega) (fun c91_0 => ?_)
          rw [show M9 (w + 35 + i) 3 = r (1042 + 12 * i) from (hWR9.acc _ hy).cents]
          rw [show N9 (w + 34) l = r (36 + 13 * l) from (hWR9.pass _ (by omega))]
          refine q_iload_n hF 0 rfl rfl dX7_pass_94 ?_
          refine q_ireturn hF rfl dX7_pass_95 ?_
          have hAR9 : q_AR (u2 M9 (w + 35 + i) 9 (l : Int)) (w + 35 + i) (g_opass r i l) i := ⟨(by unfold g_opass; rw [u2_k _ _ (by decide), g_up_n _ _ (by omega), g_up_n _ _ (by omega)]; exact (hWR9.acc i hy).kind), (by unfold g_opass; rw [u2_k _ _ (by decide), g_up_n _ _ (by omega), g_up_n _ _ (by omega)]; exact (hWR9.acc i hy).addr), (by unfold g_opass; rw [u2_k _ _ (by decide), g_up_n _ _ (by omega), g_up_n _ _ (by omega)]; exact (hWR9.acc i hy).birth), (by unfold g_opass; rw [u2_k _ _ (by decide), g_up_n _ _ (by omega), g_up_n _ _ (by omega)]; exact (hWR9.acc i hy).cents), (by unfold g_opass; rw [u2_k _ _ (by decide), g_up_n _ _ (by omega), g_up_n _ _ (by omega)]; exact (hWR9.acc i hy).state), (by unfold g_opass; rw [u2_k _ _ (by decide), g_up_n _ _ (by omega), g_up_n _ _ (by omega)]; exact (hWR9.acc i hy).age), (by unfold g_opass; rw [u2_k _ _ (by decide), g_up_n _ _ (by omega), g_up_n _ _ (by omega)]; exact (hWR9.acc i hy).since), (by unfold g_opass; rw [u2_k _ _ (by decide), g_up_n _ _ (by omega), g_up_n _ _ (by omega)]; exact (hWR9.acc i hy).wrote), (by unfold g_opass; rw [u2_k _ _ (by decide), g_up_n _ _ (by omega), g_up_n _ _ (by omega)]; exact (hWR9.acc i hy).lat), (by unfold g_opass; rw [u2_s, g_up_n _ _ (by omega), g_up_s]; first | done | rfl | omega), (by unfold g_opass; rw [u2_k _ _ (by decide), g_up_n _ _ (by omega), g_up_n _ _ (by omega)]; exact (hWR9.acc i hy).nl), (fun q => by unfold g_opass at q ⊢; rw [g_up_n _ _ (by omega), g_up_n _ _ (by omega)] at q; rw [u2_k _ _ (by decide), g_up_n _ _ (by omega), g_up_n _ _ (by omega)]; exact (hWR9.acc i hy).hat q)⟩
          have hX9 : q_WR (u2 M9 (w + 35 + i) 9 (l : Int)) (u2 N9 (w + 34) l ((r (36 + 13 * l)) + (r (1042 + 12 * i)))) w (g_opass r i l) ((g_opass r i l) 2) := by
            rw [show (g_opass r i l) 2 = r 2 from (by unfold g_opass; rw [g_up_n _ _ (by omega), g_up_n _ _ (by omega)])]
            exact hWR9.upd hv hy (fun k hk => by unfold g_rc at hk; unfold g_opass; rw [g_up_n _ _ (by omega), g_up_n _ _ (by omega)]) (by unfold g_opass; rw [g_up_n _ _ (by omega), g_up_n _ _ (by omega)]) (by unfold g_opass; rw [g_up_n _ _ (by omega), g_up_n _ _ (by omega)]) (fun k k1 k2 => by unfold g_opass; rw [g_up_n _ _ (by omega), g_up_n _ _ (by omega)]) (fun q k h => by rw [u2_a _ _ h]) hAR9 (fun l9 hl9 => by unfold g_opass; rw [u2_a _ _ (by omega), g_up_n _ _ (by omega), g_up_n _ _ (by omega)]; exact hWR9.paid l9 hl9) (fun l9 hl9 => by
              unfold g_opass
              by_cases e : l9 = l
              · subst e; rw [u2_s, g_up_s]; first | done | rfl | omega
              · rw [u2_k _ _ e, g_up_n _ _ (by omega), g_up_n _ _ (by omega)]; exact hWR9.pass l9 hl9) (fun j k j1 j2 => by rw [u2_a _ _ (by omega)]) (by unfold g_opass; rw [u2_a _ _ (by omega), g_up_n _ _ (by omega), g_up_n _ _ (by omega)]; omega) (by unfold g_opass; rw [u2_a _ _ (by omega), g_up_n _ _ (by omega), g_up_n _ _ (by omega)]; omega) (by unfold g_opass; rw [u2_a _ _ (by omega), g_up_n _ _ (by omega), g_up_n _ _ (by omega)]; omega) (by unfold g_opass; rw [u2_a _ _ (by omega), g_up_n _ _ (by omega), g_up_n _ _ (by omega)]; omega) (by unfold g_opass; rw [u2_a _ _ (by omega), g_up_n _ _ (by omega), g_up_n _ _ (by omega)]; omega)
          exact k0 (u2 M9 (w + 35 + i) 9 (l : Int)) (u2 N9 (w + 34) l ((r (36 + 13 * l)) + (r (1042 + 12 * i)))) P9 V9 l hl (by omega) (q_AF.mk hv hbk hVw hS9 hPV9 hO9 c82_3 c82_4 c82_5 c82_6 c82_7 c82_8 c82_9 (fun q k h => by rw [u2_a _ _ (by omega)]) (fun q k h => by rw [u2_a _ _ (by omega)]) hX9)
        · refine q_iconst hF dX7_pass_73 ?_
          refine q_goto hF dX7_pass_74 ?_
          refine q_callV (kc := 0) (ks := 0) (mc' := 1) (ms' := 6) (h' := 0) (st := []) hF vl_RX7_88 rfl [qI 1] rfl rfl hS.t0 (by decide) (Nat.le_of_ble_eq_true rfl) dX7_pass_78 ?_
          refine mX7_refuseState1 hS.t0 hA (fun sz' c78_0 => ?_)
          refine q_out hF rfl ?_
          exact k2 sz' c78_0 (by omega)
  · omega
set_option maxRecDepth 100000 in
theorem lX7_months {G : q_G} {F : q_F} {h : Nat} {Q : q_Q} {kc ks sz : Nat} {T : q_T} {b w n9 : Nat} {H : Int} {RF : Nat → Int} {J K : q_I} {P : q_P} (h6 : 6 ≤ h) (hF : q_ok G F YX7_months h) (hW : q_SW T P w) (hWA : q_A G w) (hT : T b = some (.inl 6)) (hP5 : P b 3 = some w) (hn9 : n9 ≤ 120) (k0 : ∀ M N : q_I, (∀ q k, q < w ∨ w + 47 ≤ q → M q k = J q k) → (∀ q k, q < w ∨ w + 47 ≤ q → N q k = K q k) → q_WR M N w RF (RF 2) → Q (.inl (some (qI H))) sz T M N P) : ∀ (n : Nat) (k : Nat) (hd : Int) (I9 L9 : q_I) (R : Nat → Int), n9 - k < n → k ≤ n9 → q_WR I9 L9 w R (R 2) → g_VR R → g_Zr R → R 2 + ((n9 - k : Nat) : Int) ≤ 6000 → (∀ q k, q < w ∨ w + 47 ≤ q → I9 q k = J q k) → (∀ q k, q < w ∨ w + 47 ≤ q → L9 q k = K q k) → hd + (g_months (n9 - k) R).1 = H → (g_months (n9 - k) R).2 = RF → qX G F Q kc ks 51 [(3, qI (k : Int)), (2, qI hd), (0, .ref b), (1, qI (n9 : Int))] [] sz T I9 L9 P := by
  intro n
  induction n with
  | zero => intro k hd I9 L9 R hn; exact absurd hn (Nat.not_lt_zero _)
  | succ n ih =>
    intro k hd I9 L9 R hn hk hWR hVR hZ h2 hJ hK hH hR2
    refine q_iload_n hF 0 rfl rfl dX7_months_51 ?_
    refine q_iload_n hF 3 rfl rfl dX7_months_52 ?_
    refine q_icmpge hF (by omega) (by omega) dX7_months_53 (fun c53 => ?_) (fun c53 => ?_)
    · refine q_iload_n hF 1 rfl rfl dX7_months_72 ?_
      refine q_ireturn hF rfl dX7_months_73 ?_
      rw [show n9 - k = 0 by omega] at hH hR2
      have q1 : hd = H := by rw [← hH]; exact (Int.add_zero _).symm
      have q2 : R = RF := hR2
      rw [q1]
      rw [q2] at hWR
      exact k0 I9 L9 hJ hK hWR
    · refine q_iload_n hF 1 rfl rfl dX7_months_56 ?_
      refine q_aload_n hF 2 rfl rfl dX7_months_57 ?_
      refine q_getA hF fl_RX7_26 rfl hT hP5 dX7_months_58 ?_
      refine q_callV (kc := kc) (ks := ks) (mc' := 0) (ms' := 0) (h' := 5) (st := [qI hd]) hF vl_RX7_133 rfl [] rfl rfl hW.t0 (by omega) (Nat.le_of_ble_eq_true rfl) dX7_months_61 ?_
      refine mX6_goMonth (r := R) hW hWA hWR hVR (by omega) (fun I' L' c61_0 c61_1 c61_2 => ?_)
      refine q_iadd hF dX7_months_64 ?_
      refine q_istore_n hF (ls' := [(2, qI (hd + ((g_month R).1))), (3, qI (k : Int)), (0, .ref b), (1, qI (n9 : Int))]) rfl (by decide) rfl dX7_months_65 ?_
      refine q_iinc hF (z' := ((1 + k : Nat) : Int)) (ls' := [(3, qI ((1 + k : Nat) : Int)), (2, qI (hd + ((g_month R).1))), (0, .ref b), (1, qI (n9 : Int))]) 1 rfl (by first | rfl | omega) (by decide) rfl dX7_months_66 ?_
      refine q_goto hF dX7_months_69 ?_
      rw [show n9 - k = (n9 - (1 + k)) + 1 by omega, g_months_s, if_pos (by omega)] at hH hR2
      have q := g_month_z hZ hVR (by omega)
      have g2 := g_month_2 hZ hVR
      exact ih (1 + k) (hd + ((g_month R).1)) I' L' (g_month R).2 (by omega) (by omega) (by rw [g2]; exact c61_2) q.2 q.1 (by rw [g2]; omega) (fun q j x => (c61_0 q j x).trans (hJ q j x)) (fun q j x => (c61_1 q j x).trans (hK q j x)) (by omega) hR2
set_option maxRecDepth 100000 in
theorem mX7_months0 {G : q_G} {sz : Nat} {T : q_T} {I L : q_I} {P : q_P} {Q : q_Q} {V : Nat → Nat} {w : Nat} {r : Nat → Int} {b : Nat} {n : Int}  (hS : q_ST T P b) (hA : q_A G b) (hPV : q_PV P b V) (hO : q_OV b V) (hVw : V 0 = w) (hWR : q_WR I L w r (r 2)) (hV : g_VR r) (hn : -2147483648 ≤ n ∧ n < 2147483648) (hx : ¬ (1 ≤ n ∧ n ≤ 120)) (k1 : ∀ sz', sz ≤ sz' → Q (.inr "java/lang/IllegalArgumentException") sz' T (u2 I b 8 ((I b 8) + 1)) L P) : qC G 7 1 6 YX7_months [.ref b, qI n] sz T I L P Q := by
  refine qC_of (by decide +kernel) rfl rfl (Nat.le_of_ble_eq_true rfl) (fun F hF _ _ => ?_)
  have hv := hV.1
  have hPVw : P b 3 = some w := hVw ▸ hPV.w
  have hwr := hO.r (i := 0) (by omega)
  rw [hVw] at hwr
  have hW0 : q_SW T P w := by have q := hS.sw hO (i := 0) (by omega); rwa [hVw] at q
  have hW0A : q_A G w := q_Ale hA (by omega)
  have hm12 := hv.many
  have hl5 := hv.lands
  have hmo := hv.month
  have hr6 := hv.rows
  refine q_aload_n hF 0 rfl rfl dX7_months_0 ?_
  refine q_iload_n hF 1 rfl rfl dX7_months_1 ?_
  refine q_iconst hF dX7_months_2 ?_
  refine q_bipush hF (n := 120) rfl dX7_months_3 ?_
  refine q_callS (kc := 1) (ks := 6) (mc' := 0) (ms' := 0) (h' := 0) (st := [.ref b]) hF sl_RX7_80 rfl [qI n, qI 1, qI 120] rfl rfl (by decide) (Nat.le_of_ble_eq_true rfl) dX7_months_5 ?_
  refine mX7_isWithin (by omega) (by decide) (by decide) ?_
  refine q_ifne_b hF dX7_months_8 (fun c8 => ?_) (fun c8 => ?_)
  · omega
  · refine q_iconst hF dX7_months_11 ?_
    refine q_goto hF dX7_months_12 ?_
    refine q_callV (kc := 0) (ks := 0) (mc' := 1) (ms' := 6) (h' := 0) (st := []) hF vl_RX7_45 rfl [qI 1] rfl rfl hS.t0 (by decide) (Nat.le_of_ble_eq_true rfl) dX7_months_16 ?_
    refine mX7_refuseArgument1 hS.t0 hA (fun sz' c16_0 => ?_)
    refine q_out hF rfl ?_
    exact k1 sz' c16_0
set_option maxRecDepth 100000 in
theorem mX7_months {G : q_G} {sz : Nat} {T : q_T} {I L : q_I} {P : q_P} {Q : q_Q} {V : Nat → Nat} {w : Nat} {r : Nat → Int} {b : Nat} {n9 bk : Nat} (hS : q_ST T P b) (hA : q_A G b) (hPV : q_PV P b V) (hO : q_OV b V) (hVw : V 0 = w) (hWR : q_WR I L w r (r 2)) (hV : g_VR r) (hb : I b 6 = (bk : Int)) (hbk : bk ≤ 8) (hZ : g_Zr r) (hn : 1 ≤ n9 ∧ n9 ≤ 120) (k2 : ∀ sz', sz ≤ sz' → ¬ (r 2 + n9 ≤ 6000) → Q (.inr "java/lang/IllegalStateException") sz' T (u2 I b 9 ((I b 9) + 1)) L P) (k0 : ∀ (M N : q_I) (P9 : q_P) (V9 : Nat → Nat), r 2 + n9 ≤ 6000 → q_AF T b V bk I L P r ((g_months n9 r).2) M N P9 V9 → Q (.inl (some (qI (g_months n9 r).1))) sz T M N P9) : qC G 7 1 6 YX7_months [.ref b, qI (n9 : Int)] sz T I L P Q := by
  refine qC_of (by decide +kernel) rfl rfl (Nat.le_of_ble_eq_true rfl) (fun F hF _ _ => ?_)
  have hv := hV.1
  have hPVw : P b 3 = some w := hVw ▸ hPV.w
  have hwr := hO.r (i := 0) (by omega)
  rw [hVw] at hwr
  have hW0 : q_SW T P w := by have q := hS.sw hO (i := 0) (by omega); rwa [hVw] at q
  have hW0A : q_A G w := q_Ale hA (by omega)
  have hm12 := hv.many
  have hl5 := hv.lands
  have hmo := hv.month
  have hr6 := hv.rows
  refine q_aload_n hF 0 rfl rfl dX7_months_0 ?_
  refine q_iload_n hF 1 rfl rfl dX7_months_1 ?_
  refine q_iconst hF dX7_months_2 ?_
  refine q_bipush hF (n := 120) rfl dX7_months_3 ?_
  refine q_callS (kc := 1) (ks := 6) (mc' := 0) (ms' := 0) (h' := 0) (st := [.ref b]) hF sl_RX7_80 rfl [qI (n9 : Int), qI 1, qI 120] rfl rfl (by decide) (Nat.le_of_ble_eq_true rfl) dX7_months_5 ?_
  refine mX7_isWithin (by omega) (by decide) (by decide) ?_
  refine q_ifne_b hF dX7_months_8 (fun c8 => ?_) (fun c8 => ?_)
  · refine q_iconst hF dX7_months_15 ?_
    refine q_callV (kc := 1) (ks := 6) (mc' := 0) (ms' := 0) (h' := 0) (st := []) hF vl_RX7_45 rfl [qI 0] rfl rfl hS.t0 (by decide) (Nat.le_of_ble_eq_true rfl) dX7_months_16 ?_
    refine mX7_refuseArgument0 hS.t0 ?_
    refine q_aload_n hF 0 rfl rfl dX7_months_19 ?_
    refine q_aload_n hF 0 rfl rfl dX7_months_20 ?_
    refine q_getA hF fl_RX7_26 rfl hS.t0 hPVw dX7_months_21 ?_
    refine q_getIv hF (z := r 2) fl_RX7_130 hW0.t0 hWR.mon dX7_months_24 ?_
    refine q_iload_n hF 1 rfl rfl dX7_months_27 ?_
    refine q_iadd hF dX7_months_28 ?_
    refine q_sipush hF (n := 6000) rfl dX7_months_29 ?_
    refine q_icmple hF (by omega) (by decide) dX7_months_32 (fun c32 => ?_) (fun c32 => ?_)
    · refine q_iconst hF dX7_months_39 ?_
      refine q_callV (kc := 1) (ks := 6) (mc' := 0) (ms' := 0) (h' := 0) (st := []) hF vl_RX7_88 rfl [qI 0] rfl rfl hS.t0 (by decide) (Nat.le_of_ble_eq_true rfl) dX7_months_40 ?_
      refine mX7_refuseState0 hS.t0 ?_
      refine q_aload_n hF 0 rfl rfl dX7_months_43 ?_
      refine q_callV (kc := 1) (ks := 6) (mc' := 0) (ms' := 0) (h' := 3) (st := []) hF vl_RX7_56 rfl [] rfl rfl hS.t0 (by decide) (Nat.le_of_ble_eq_true rfl) dX7_months_44 ?_
      refine mX7_remember hS hA hPV hO hb hbk (by rw [hVw]; exact hWR) hv (fun j hj => by have q := (hV.2.1 j hj).nl; exact q) (fun M9 N9 P9 V9 c44_0 c44_1 c44_2 c44_3 c44_4 c44_5 c44_6 c44_7 c44_8 c44_9 => ?_)
      have hnb := g_nb_r hbk
      have hS9 := c44_0
      have hPV9 := c44_1
      have hO9 := c44_2
      have hw9 : V9 0 = w := c44_3.trans hVw
      have hPVw9 : P9 b 3 = some w := hw9 ▸ hPV9.w
      have hW9 : q_SW T P9 w := by have q := hS9.sw hO9 (i := 0) (by omega); rwa [hw9] at q
      have hd9 := hO9.d (i := 0) (j := g_nb bk) (by omega) (by omega) (by omega)
      rw [hw9] at hd9
      have hI9 : ∀ q k, w ≤ q → q < w + 47 → M9 q k = I q k := fun q k h1 h2 => c44_6 q k (by omega) (by omega)
      have hL9 : ∀ q k, w ≤ q → q < w + 47 → N9 q k = L q k := fun q k h1 h2 => c44_7 q k (by omega)
      have hWR9 : q_WR M9 N9 w r (r 2) := hWR.fr hv hI9 (fun q k h1 h2 _ => hL9 q k h1 h2)
      refine q_iconst hF dX7_months_47 ?_
      refine q_istore_n hF (ls' := [(2, qI 0), (0, .ref b), (1, qI (n9 : Int))]) rfl (by decide) rfl dX7_months_48 ?_
      refine q_iconst hF dX7_months_49 ?_
      refine q_istore_n hF (ls' := [(3, qI 0), (2, qI 0), (0, .ref b), (1, qI (n9 : Int))]) rfl (by decide) rfl dX7_months_50 ?_
      have hmz := g_months_z n9 hZ hV
      refine q_sub [0, 1, 2, 3] rfl ?_
      refine lX7_months (n9 := n9) (H := (g_months n9 r).1) (RF := (g_months n9 r).2) (J := M9) (K := N9) (by decide) hF hW9 hW0A hS.t0 hPVw9 (by omega) (fun M N e1 e2 e3 => ?_) (n9 + 1) 0 0 M9 N9 r (by omega) (Nat.zero_le _) hWR9 hV hZ (by omega) (fun _ _ _ => rfl) (fun _ _ _ => rfl) (by rw [Nat.sub_zero]; exact Int.zero_add _) (by rw [Nat.sub_zero])
      exact k0 M N P9 V9 (by omega) (q_AF.mk hv hbk hVw hS9 hPV9 hO9 c44_3 c44_4 c44_5 c44_6 c44_7 c44_8 c44_9 e1 e2 e3)
    · refine q_iconst hF dX7_months_35 ?_
      refine q_goto hF dX7_months_36 ?_
      refine q_callV (kc := 0) (ks := 0) (mc' := 1) (ms' := 6) (h' := 0) (st := []) hF vl_RX7_88 rfl [qI 1] rfl rfl hS.t0 (by decide) (Nat.le_of_ble_eq_true rfl) dX7_months_40 ?_
      refine mX7_refuseState1 hS.t0 hA (fun sz' c40_0 => ?_)
      refine q_out hF rfl ?_
      exact k2 sz' c40_0 (by omega)
  · omega
set_option maxRecDepth 100000 in
theorem mX7_open {G : q_G} {sz : Nat} {T : q_T} {I L : q_I} {P : q_P} {Q : q_Q} {V : Nat → Nat} {w : Nat} {r : Nat → Int} {b : Nat} {kd : Int} {ad : Int} {bi : Int} {ce : Int} {i bk : Nat} (hS : q_ST T P b) (hA : q_A G b) (hPV : q_PV P b V) (hO : q_OV b V) (hVw : V 0 = w) (hWR : q_WR I L w r (r 2)) (hV : g_VR r) (hb : I b 6 = (bk : Int)) (hbk : bk ≤ 8) (hi1 : r 1 = (i : Int)) (h1 : -2147483648 ≤ kd ∧ kd < 2147483648) (h2 : -2147483648 ≤ ad ∧ ad < 2147483648) (h3 : -2147483648 ≤ bi ∧ bi < 2147483648) (h4 : -2147483648 ≤ ce ∧ ce < 2147483648) (k1 : ∀ sz', sz ≤ sz' → ¬ ((ad = -1 ∨ 0 ≤ ad ∧ ad < r 0) ∧ (bi = -1 ∨ 0 ≤ bi ∧ bi < r 0)) → Q (.inr "java/util/NoSuchElementException") sz' T (u2 I b 7 ((I b 7) + 1)) L P) (k2 : ∀ sz', sz ≤ sz' → ((ad = -1 ∨ 0 ≤ ad ∧ ad < r 0) ∧ (bi = -1 ∨ 0 ≤ bi ∧ bi < r 0)) → ¬ ((0 ≤ kd ∧ kd ≤ 4) ∧ 0 ≤ ce ∧ ce ≤ 100000000) → Q (.inr "java/lang/IllegalArgumentException") sz' T (u2 I b 8 ((I b 8) + 1)) L P) (k3 : ∀ sz', sz ≤ sz' → ((ad = -1 ∨ 0 ≤ ad ∧ ad < r 0) ∧ (bi = -1 ∨ 0 ≤ bi ∧ bi < r 0)) → ((0 ≤ kd ∧ kd ≤ 4) ∧ 0 ≤ ce ∧ ce ≤ 100000000) → i = 12 → Q (.inr "java/lang/IllegalStateException") sz' T (u2 I b 9 ((I b 9) + 1)) L P) (k0 : ∀ (M N : q_I) (P9 : q_P) (V9 : Nat → Nat), ((ad = -1 ∨ 0 ≤ ad ∧ ad < r 0) ∧ (bi = -1 ∨ 0 ≤ bi ∧ bi < r 0)) → ((0 ≤ kd ∧ kd ≤ 4) ∧ 0 ≤ ce ∧ ce ≤ 100000000) → i < 12 → q_AF T b V bk I L P r (g_oopen r i kd ad bi ce) M N P9 V9 → Q (.inl (some (qI (i : Int)))) sz T M N P9) : qC G 4 1 6 YX7_open [.ref b, qI kd, qI ad, qI bi, qI ce] sz T I L P Q := by
  refine qC_of (by decide +kernel) rfl rfl (Nat.le_of_ble_eq_true rfl) (fun F hF _ _ => ?_)
  have hv := hV.1
  have hPVw : P b 3 = some w := hVw ▸ hPV.w
  have hwr := hO.r (i := 0) (by omega)
  rw [hVw] at hwr
  have hW0 : q_SW T P w := by have q := hS.sw hO (i := 0) (by omega); rwa [hVw] at q
  have hW0A : q_A G w := q_Ale hA (by omega)
  have hm12 := hv.many
  have hl5 := hv.lands
  have hmo := hv.month
  have hr6 := hv.rows
  refine q_aload_n hF 0 rfl rfl dX7_open_0 ?_
  refine q_aload_n hF 0 rfl rfl dX7_open_1 ?_
  refine q_getA hF fl_RX7_26 rfl hS.t0 hPVw dX7_open_2 ?_
  refine q_getA hF fl_RX7_67 rfl hW0.t0 hW0.p0 dX7_open_5 ?_
  refine q_iload_n hF 2 rfl rfl dX7_open_8 ?_
  refine q_callV (kc := 1) (ks := 6) (mc' := 0) (ms' := 0) (h' := 1) (st := [.ref b]) hF vl_RX7_73 rfl [qI ad] rfl rfl hW0.ru.t0 (by decide) (Nat.le_of_ble_eq_true rfl) dX7_open_9 ?_
  refine mX4_isLandOrNone (r := r) hW0.ru hWR.ru hv (by omega) ?_
  refine q_ifeq_b hF dX7_open_12 (fun c12 => ?_) (fun c12 => ?_)
  · refine q_iconst hF dX7_open_29 ?_
    refine q_goto hF dX7_open_30 ?_
    refine q_callV (kc := 0) (ks := 0) (mc' := 1) (ms' := 6) (h' := 0) (st := []) hF vl_RX7_77 rfl [qI 1] rfl rfl hS.t0 (by decide) (Nat.le_of_ble_eq_true rfl) dX7_open_34 ?_
    refine mX7_refuseNoSuch1 hS.t0 hA (fun sz' c34_0 => ?_)
    refine q_out hF rfl ?_
    exact k1 sz' c34_0 (by omega)
  · refine q_aload_n hF 0 rfl rfl dX7_open_15 ?_
    refine q_getA hF fl_RX7_26 rfl hS.t0 hPVw dX7_open_16 ?_
    refine q_getA hF fl_RX7_67 rfl hW0.t0 hW0.p0 dX7_open_19 ?_
    refine q_iload_n hF 3 rfl rfl dX7_open_22 ?_
    refine q_callV (kc := 1) (ks := 6) (mc' := 0) (ms' := 0) (h' := 1) (st := [.ref b]) hF vl_RX7_73 rfl [qI bi] rfl rfl hW0.ru.t0 (by decide) (Nat.le_of_ble_eq_true rfl) dX7_open_23 ?_
    refine mX4_isLandOrNone (r := r) hW0.ru hWR.ru hv (by omega) ?_
    refine q_ifne_b hF dX7_open_26 (fun c26 => ?_) (fun c26 => ?_)
    · refine q_iconst hF dX7_open_33 ?_
      refine q_callV (kc := 1) (ks := 6) (mc' := 0) (ms' := 0) (h' := 0) (st := []) hF vl_RX7_77 rfl [qI 0] rfl rfl hS.t0 (by decide) (Nat.le_of_ble_eq_true rfl) dX7_open_34 ?_
      refine mX7_refuseNoSuch0 hS.t0 ?_
      refine q_aload_n hF 0 rfl rfl dX7_open_37 ?_
      refine q_iload_n hF 1 rfl rfl dX7_open_38 ?_
      refine q_iconst hF dX7_open_39 ?_
      refine q_iconst hF dX7_open_40 ?_
      refine q_callS (kc := 1) (ks := 6) (mc' := 0) (ms' := 0) (h' := 0) (st := [.ref b]) hF sl_RX7_80 rfl [qI kd, qI 0, qI 4] rfl rfl (by decide) (Nat.le_of_ble_eq_true rfl) dX7_open_41 ?_
      refine mX7_isWithin (by omega) (by decide) (by decide) ?_
      refine q_ifeq_b hF dX7_open_44 (fun c44 => ?_) (fun c44 => ?_)
      · refine q_iconst hF dX7_open_58 ?_
        refine q_goto hF dX7_open_59 ?_
        refine q_callV (kc := 0) (ks := 0) (mc' := 1) (ms' := 6) (h' := 0) (st := []) hF vl_RX7_45 rfl [qI 1] rfl rfl hS.t0 (by decide) (Nat.le_of_ble_eq_true rfl) dX7_open_63 ?_
        refine mX7_refuseArgument1 hS.t0 hA (fun sz' c63_0 => ?_)
        refine q_out hF rfl ?_
        exact k2 sz' c63_0 (by omega) (by omega)
      · refine q_iload hF 4 rfl dX7_open_47 ?_
        refine q_iconst hF dX7_open_49 ?_
        refine q_ldc hF (n := 100000000) (q_mem 716 (by decide +kernel) rfl) dX7_open_50 ?_
        refine q_callS (kc := 1) (ks := 6) (mc' := 0) (ms' := 0) (h' := 0) (st := [.ref b]) hF sl_RX7_80 rfl [qI ce, qI 0, qI 100000000] rfl rfl (by decide) (Nat.le_of_ble_eq_true rfl) dX7_open_52 ?_
        refine mX7_isWithin (by omega) (by decide) (by decide) ?_
        refine q_ifne_b hF dX7_open_55 (fun c55 => ?_) (fun c55 => ?_)
        · refine q_iconst hF dX7_open_62 ?_
          refine q_callV (kc := 1) (ks := 6) (mc' := 0) (ms' := 0) (h' := 0) (st := []) hF vl_RX7_45 rfl [qI 0] rfl rfl hS.t0 (by decide) (Nat.le_of_ble_eq_true rfl) dX7_open_63 ?_
          refine mX7_refuseArgument0 hS.t0 ?_
          refine q_aload_n hF 0 rfl rfl dX7_open_66 ?_
          refine q_aload_n hF 0 rfl rfl dX7_open_67 ?_
          refine q_getA hF fl_RX7_26 rfl hS.t0 hPVw dX7_open_68 ?_
          refine q_getIv hF (z := (i : Int)) fl_RX7_85 hW0.t0 (hWR.cnt.trans hi1) dX7_open_71 ?_
          refine q_bipush hF (n := 12) rfl dX7_open_74 ?_
          refine q_icmplt hF (by omega) (by decide) dX7_open_76 (fun c76 => ?_) (fun c76 => ?_)
          · refine q_iconst hF dX7_open_83 ?_
            refine q_callV (kc := 1) (ks := 6) (mc' := 0) (ms' := 0) (h' := 0) (st := []) hF vl_RX7_88 rfl [qI 0] rfl rfl hS.t0 (by decide) (Nat.le_of_ble_eq_true rfl) dX7_open_84 ?_
            refine mX7_refuseState0 hS.t0 ?_
            refine q_aload_n hF 0 rfl rfl dX7_open_87 ?_
            refine q_callV (kc := 1) (ks := 6) (mc' := 0) (ms' := 0) (h' := 3) (st := []) hF vl_RX7_56 rfl [] rfl rfl hS.t0 (by decide) (Nat.le_of_ble_eq_true rfl) dX7_open_88 ?_
            refine mX7_remember hS hA hPV hO hb hbk (by rw [hVw]; exact hWR) hv (fun j hj => by have q := (hV.2.1 j hj).nl; exact q) (fun M9 N9 P9 V9 c88_0 c88_1 c88_2 c88_3 c88_4 c88_5 c88_6 c88_7 c88_8 c88_9 => ?_)
            have hnb := g_nb_r hbk
            have hS9 := c88_0
            have hPV9 := c88_1
            have hO9 := c88_2
            have hw9 : V9 0 = w := c88_3.trans hVw
            have hPVw9 : P9 b 3 = some w := hw9 ▸ hPV9.w
            have hW9 : q_SW T P9 w := by have q := hS9.sw hO9 (i := 0) (by omega); rwa [hw9] at q
            have hd9 := hO9.d (i := 0) (j := g_nb bk) (by omega) (by omega) (by omega)
            rw [hw9] at hd9
            have hI9 : ∀ q k, w ≤ q → q < w + 47 → M9 q k = I q k := fun q k h1 h2 => c88_6 q k (by omega) (by omega)
            have hL9 : ∀ q k, w ≤ q → q < w + 47 → N9 q k = L q k := fun q k h1 h2 => c88_7 q k (by omega)
            have hWR9 : q_WR M9 N9 w r (r 2) := hWR.fr hv hI9 (fun q k h1 h2 _ => hL9 q k h1 h2)
            refine q_aload_n hF 0 rfl rfl dX7_open_91 ?_
            refine q_getA hF fl_RX7_26 rfl hS.t0 hPVw9 dX7_open_92 ?_
            refine q_getA hF fl_RX7_91 rfl hW0.t0 hW9.p1 dX7_open_95 ?_
            refine q_aload_n hF 0 rfl rfl dX7_open_98 ?_
            refine q_getA hF fl_RX7_26 rfl hS.t0 hPVw9 dX7_open_99 ?_
            refine q_getIv hF (z := (i : Int)) fl_RX7_85 hW0.t0 (hWR9.cnt.trans hi1) dX7_open_102 ?_
            refine q_aaloadv hF (b := w + 35 + i) i hW0.t19 (by decide) rfl (by omega) (by decide) (hW9.pa _ (by omega)) dX7_open_105 ?_
            refine q_iload_n hF 1 rfl rfl dX7_open_106 ?_
            refine q_iload_n hF 2 rfl rfl dX7_open_107 ?_
            refine q_iload_n hF 3 rfl rfl dX7_open_108 ?_
            refine q_iload hF 4 rfl dX7_open_109 ?_
            refine q_callV (kc := 1) (ks := 6) (mc' := 0) (ms' := 0) (h' := 0) (st := []) hF vl_RX7_95 rfl [qI kd, qI ad, qI bi, qI ce] rfl rfl (hW0.ta _ (by omega)) (by decide) (Nat.le_of_ble_eq_true rfl) dX7_open_111 ?_
            refine mX0_start (hW0.ta _ (by omega)) (q_Ale hW0A (by omega)) (by omega) ?_
            refine q_aload_n hF 0 rfl rfl dX7_open_114 ?_
            refine q_getA hF fl_RX7_26 rfl hS.t0 hPVw9 dX7_open_115 ?_
            refine q_dup hF rfl dX7_open_118 ?_
            refine q_getIv hF (z := (i : Int)) fl_RX7_85 hW0.t0 ((u2_k _ _ (by decide)).trans ((u2_k _ _ (by decide)).trans ((u2_k _ _ (by decide)).trans ((u2_k _ _ (by decide)).trans ((u2_k _ _ (by decide)).trans ((u2_k _ _ (by decide)).trans ((u2_k _ _ (by decide)).trans ((u2_k _ _ (by decide)).trans ((u2_k _ _ (by decide)).trans ((u2_a _ _ (by omega)).trans ((u2_k _ _ (by decide)).trans ((u2_k _ _ (by decide)).trans (hWR9.cnt.trans hi1))))))))))))) dX7_open_119 ?_
            refine q_iconst hF dX7_open_122 ?_
            refine q_iadd hF dX7_open_123 ?_
            refine q_putI hF fl_RX7_85 hW0.t0 hW0A dX7_open_124 ?_
            refine q_aload_n hF 0 rfl rfl dX7_open_127 ?_
            refine q_getA hF fl_RX7_26 rfl hS.t0 hPVw9 dX7_open_128 ?_
            refine q_getIv hF (z := (i : Int) + 1) fl_RX7_85 hW0.t0 (u2_s _ _ _ _) dX7_open_131 ?_
            refine q_iconst hF dX7_open_134 ?_
            refine q_isub hF dX7_open_135 ?_
            refine q_ireturn hF rfl dX7_open_136 ?_
            have hAR9 : q_AR (u2 (u2 (u2 (u2 (u2 (u2 (u2 (u2 (u2 (u2 (u2 (u2 (u2 M9 (w + 35 + i) 0 kd) (w + 35 + i) 1 ad) (w + 35 + i) 2 bi) (w + 35 + i) 3 ce) (w + 35 + i) 4 0) (w + 35 + i) 5 0) (w + 35 + i) 6 0) (w + 35 + i) 7 0) (w + 35 + i) 8 (-1)) (w + 35 + i) 9 (-1)) (w + 35 + i) 10 (-1)) (w + 35 + i) 11 0) w 2 ((i : Int) + 1)) (w + 35 + i) (g_oopen r i kd ad bi ce) i := ⟨(by unfold g_oopen; rw [u2_a _ _ (by omega), u2_k _ _ (by decide), u2_k _ _ (by decide), u2_k _ _ (by decide), u2_k _ _ (by decide), u2_k _ _ (by decide), u2_k _ _ (by decide), u2_k _ _ (by decide), u2_k _ _ (by decide), u2_k _ _ (by decide), u2_k _ _ (by decide), u2_k _ _ (by decide), u2_s, g_up_n _ _ (by omega), g_up_n _ _ (by omega), g_up_n _ _ (by omega), g_up_n _ _ (by omega), g_up_n _ _ (by omega), g_up_n _ _ (by omega), g_up_n _ _ (by omega), g_up_s]; first | done | rfl | omega), (by unfold g_oopen; rw [u2_a _ _ (by omega), u2_k _ _ (by decide), u2_k _ _ (by decide), u2_k _ _ (by decide), u2_k _ _ (by decide), u2_k _ _ (by decide), u2_k _ _ (by decide), u2_k _ _ (by decide), u2_k _ _ (by decide), u2_k _ _ (by decide), u2_k _ _ (by decide), u2_s, g_up_n _ _ (by omega), g_up_n _ _ (by omega), g_up_n _ _ (by omega), g_up_n _ _ (by omega), g_up_n _ _ (by omega), g_up_n _ _ (by omega), g_up_s]; first | done | rfl | omega), (by unfold g_oopen; rw [u2_a _ _ (by omega), u2_k _ _ (by decide), u2_k _ _ (by decide), u2_k _ _ (by decide), u2_k _ _ (by decide), u2_k _ _ (by decide), u2_k _ _ (by decide), u2_k _ _ (by decide), u2_k _ _ (by decide), u2_k _ _ (by decide), u2_s, g_up_n _ _ (by omega), g_up_n _ _ (by omega), g_up_n _ _ (by omega), g_up_n _ _ (by omega), g_up_n _ _ (by omega), g_up_s]; first | done | rfl | omega), (by unfold g_oopen; rw [u2_a _ _ (by omega), u2_k _ _ (by decide), u2_k _ _ (by decide), u2_k _ _ (by decide), u2_k _ _ (by decide), u2_k _ _ (by decide), u2_k _ _ (by decide), u2_k _ _ (by decide), u2_k _ _ (by decide), u2_s, g_up_n _ _ (by omega), g_up_n _ _ (by omega), g_up_n _ _ (by omega), g_up_n _ _ (by omega), g_up_s]; first | done | rfl | omega), (by unfold g_oopen; rw [u2_a _ _ (by omega), u2_k _ _ (by decide), u2_k _ _ (by decide), u2_k _ _ (by decide), u2_k _ _ (by decide), u2_k _ _ (by decide), u2_k _ _ (by decide), u2_k _ _ (by decide), u2_s, g_up_n _ _ (by omega), g_up_n _ _ (by omega), g_up_n _ _ (by omega), g_up_n _ _ (by omega), g_up_n _ _ (by omega), g_up_n _ _ (by omega), g_up_n _ _ (by omega), g_up_n _ _ (by omega), g_up_n _ _ (by omega), g_up_n _ _ (by omega), g_up_n _ _ (by omega), g_up_n _ _ (by omega), g_up_n _ _ (by omega), g_up_n _ _ (by omega), g_up_n _ _ (by omega), g_up_s]; first | done | rfl | omega), (by unfold g_oopen; rw [u2_a _ _ (by omega), u2_k _ _ (by decide), u2_k _ _ (by decide), u2_k _ _ (by decide), u2_k _ _ (by decide), u2_k _ _ (by decide), u2_k _ _ (by decide), u2_s, g_up_n _ _ (by omega), g_up_n _ _ (by omega), g_up_n _ _ (by omega), g_up_n _ _ (by omega), g_up_n _ _ (by omega), g_up_n _ _ (by omega), g_up_n _ _ (by omega), g_up_n _ _ (by omega), g_up_n _ _ (by omega), g_up_n _ _ (by omega), g_up_n _ _ (by omega), g_up_n _ _ (by omega), g_up_n _ _ (by omega), g_up_n _ _ (by omega), g_up_s]; first | done | rfl | omega), (by unfold g_oopen; rw [u2_a _ _ (by omega), u2_k _ _ (by decide), u2_k _ _ (by decide), u2_k _ _ (by decide), u2_k _ _ (by decide), u2_k _ _ (by decide), u2_s, g_up_n _ _ (by omega), g_up_n _ _ (by omega), g_up_n _ _ (by omega), g_up_n _ _ (by omega), g_up_n _ _ (by omega), g_up_n _ _ (by omega), g_up_n _ _ (by omega), g_up_n _ _ (by omega), g_up_n _ _ (by omega), g_up_n _ _ (by omega), g_up_n _ _ (by omega), g_up_n _ _ (by omega), g_up_n _ _ (by omega), g_up_s]; first | done | rfl | omega), (by unfold g_oopen; rw [u2_a _ _ (by omega), u2_k _ _ (by decide), u2_k _ _ (by decide), u2_k _ _ (by decide), u2_k _ _ (by decide), u2_s, g_up_n _ _ (by omega), g_up_n _ _ (by omega), g_up_n _ _ (by omega), g_up_n _ _ (by omega), g_up_n _ _ (by omega), g_up_n _ _ (by omega), g_up_n _ _ (by omega), g_up_n _ _ (by omega), g_up_n _ _ (by omega), g_up_n _ _ (by omega), g_up_n _ _ (by omega), g_up_n _ _ (by omega), g_up_s]; first | done | rfl | omega), (by unfold g_oopen; rw [u2_a _ _ (by omega), u2_k _ _ (by decide), u2_k _ _ (by decide), u2_k _ _ (by decide), u2_s, g_up_n _ _ (by omega), g_up_n _ _ (by omega), g_up_n _ _ (by omega), g_up_s]; first | done | rfl | omega), (by unfold g_oopen; rw [u2_a _ _ (by omega), u2_k _ _ (by decide), u2_k _ _ (by decide), u2_s, g_up_n _ _ (by omega), g_up_n _ _ (by omega), g_up_s]; first | done | rfl | omega), (by unfold g_oopen; rw [u2_a _ _ (by omega), u2_s, g_up_n _ _ (by omega), g_up_n _ _ (by omega), g_up_n _ _ (by omega), g_up_n _ _ (by omega), g_up_n _ _ (by omega), g_up_n _ _ (by omega), g_up_n _ _ (by omega), g_up_n _ _ (by omega), g_up_n _ _ (by omega), g_up_s]; first | done | rfl | omega), (fun q => by unfold g_oopen at q; rw [g_up_n _ _ (by omega), g_up_n _ _ (by omega), g_up_n _ _ (by omega), g_up_n _ _ (by omega), g_up_n _ _ (by omega), g_up_n _ _ (by omega), g_up_n _ _ (by omega), g_up_n _ _ (by omega), g_up_n _ _ (by omega), g_up_n _ _ (by omega), g_up_n _ _ (by omega), g_up_n _ _ (by omega), g_up_n _ _ (by omega), g_up_n _ _ (by omega), g_up_n _ _ (by omega), g_up_s] at q; exact absurd q (by decide))⟩
            have hX9 : q_WR (u2 (u2 (u2 (u2 (u2 (u2 (u2 (u2 (u2 (u2 (u2 (u2 (u2 M9 (w + 35 + i) 0 kd) (w + 35 + i) 1 ad) (w + 35 + i) 2 bi) (w + 35 + i) 3 ce) (w + 35 + i) 4 0) (w + 35 + i) 5 0) (w + 35 + i) 6 0) (w + 35 + i) 7 0) (w + 35 + i) 8 (-1)) (w + 35 + i) 9 (-1)) (w + 35 + i) 10 (-1)) (w + 35 + i) 11 0) w 2 ((i : Int) + 1)) (u2 (u2 (u2 (u2 (u2 N9 (w + 35 + i) 12 ce) (w + 35 + i) 13 0) (w + 35 + i) 14 0) (w + 35 + i) 15 0) (w + 35 + i) 16 0) w (g_oopen r i kd ad bi ce) ((g_oopen r i kd ad bi ce) 2) := by
              rw [show (g_oopen r i kd ad bi ce) 2 = r 2 from (by unfold g_oopen; rw [g_up_n _ _ (by omega), g_up_n _ _ (by omega), g_up_n _ _ (by omega), g_up_n _ _ (by omega), g_up_n _ _ (by omega), g_up_n _ _ (by omega), g_up_n _ _ (by omega), g_up_n _ _ (by omega), g_up_n _ _ (by omega), g_up_n _ _ (by omega), g_up_n _ _ (by omega), g_up_n _ _ (by omega), g_up_n _ _ (by omega), g_up_n _ _ (by omega), g_up_n _ _ (by omega), g_up_n _ _ (by omega), g_up_n _ _ (by omega), g_up_n _ _ (by omega), g_up_n _ _ (by omega), g_up_n _ _ (by omega)])]
              exact hWR9.add hv hi1 (by omega) (fun k hk => by unfold g_rc at hk; unfold g_oopen; rw [g_up_n _ _ (by omega), g_up_n _ _ (by omega), g_up_n _ _ (by omega), g_up_n _ _ (by omega), g_up_n _ _ (by omega), g_up_n _ _ (by omega), g_up_n _ _ (by omega), g_up_n _ _ (by omega), g_up_n _ _ (by omega), g_up_n _ _ (by omega), g_up_n _ _ (by omega), g_up_n _ _ (by omega), g_up_n _ _ (by omega), g_up_n _ _ (by omega), g_up_n _ _ (by omega), g_up_n _ _ (by omega), g_up_n _ _ (by omega), g_up_n _ _ (by omega), g_up_n _ _ (by omega), g_up_n _ _ (by omega)]) (by unfold g_oopen; rw [g_up_s]) (by unfold g_oopen; rw [g_up_n _ _ (by omega), g_up_n _ _ (by omega), g_up_n _ _ (by omega), g_up_n _ _ (by omega), g_up_n _ _ (by omega), g_up_n _ _ (by omega), g_up_n _ _ (by omega), g_up_n _ _ (by omega), g_up_n _ _ (by omega), g_up_n _ _ (by omega), g_up_n _ _ (by omega), g_up_n _ _ (by omega), g_up_n _ _ (by omega), g_up_n _ _ (by omega), g_up_n _ _ (by omega), g_up_n _ _ (by omega), g_up_n _ _ (by omega), g_up_n _ _ (by omega), g_up_n _ _ (by omega), g_up_n _ _ (by omega)]) (fun k k1 k2 => by unfold g_oopen; rw [g_up_n _ _ (by omega), g_up_n _ _ (by omega), g_up_n _ _ (by omega), g_up_n _ _ (by omega), g_up_n _ _ (by omega), g_up_n _ _ (by omega), g_up_n _ _ (by omega), g_up_n _ _ (by omega), g_up_n _ _ (by omega), g_up_n _ _ (by omega), g_up_n _ _ (by omega), g_up_n _ _ (by omega), g_up_n _ _ (by omega), g_up_n _ _ (by omega), g_up_n _ _ (by omega), g_up_n _ _ (by omega), g_up_n _ _ (by omega), g_up_n _ _ (by omega), g_up_n _ _ (by omega), g_up_n _ _ (by omega)]) (fun l hl => by unfold g_oopen; rw [g_up_n _ _ (by omega), g_up_n _ _ (by omega), g_up_n _ _ (by omega), g_up_n _ _ (by omega), g_up_n _ _ (by omega), g_up_n _ _ (by omega), g_up_n _ _ (by omega), g_up_n _ _ (by omega), g_up_n _ _ (by omega), g_up_n _ _ (by omega), g_up_n _ _ (by omega), g_up_n _ _ (by omega), g_up_n _ _ (by omega), g_up_n _ _ (by omega), g_up_n _ _ (by omega), g_up_n _ _ (by omega), g_up_n _ _ (by omega), g_up_n _ _ (by omega), g_up_n _ _ (by omega), g_up_n _ _ (by omega)]) (fun l hl => by unfold g_oopen; rw [g_up_n _ _ (by omega), g_up_n _ _ (by omega), g_up_n _ _ (by omega), g_up_n _ _ (by omega), g_up_n _ _ (by omega), g_up_n _ _ (by omega), g_up_n _ _ (by omega), g_up_n _ _ (by omega), g_up_n _ _ (by omega), g_up_n _ _ (by omega), g_up_n _ _ (by omega), g_up_n _ _ (by omega), g_up_n _ _ (by omega), g_up_n _ _ (by omega), g_up_n _ _ (by omega), g_up_n _ _ (by omega), g_up_n _ _ (by omega), g_up_n _ _ (by omega), g_up_n _ _ (by omega), g_up_n _ _ (by omega)]) (u2_s _ _ _ _) (fun q k h1 h2 => by rw [q_u2o h2, u2_a _ _ h1, u2_a _ _ h1, u2_a _ _ h1, u2_a _ _ h1, u2_a _ _ h1, u2_a _ _ h1, u2_a _ _ h1, u2_a _ _ h1, u2_a _ _ h1, u2_a _ _ h1, u2_a _ _ h1, u2_a _ _ h1]) hAR9 (fun q k h => by rw [u2_a _ _ h, u2_a _ _ h, u2_a _ _ h, u2_a _ _ h, u2_a _ _ h]) (by unfold g_oopen; rw [u2_k _ _ (by decide), u2_k _ _ (by decide), u2_k _ _ (by decide), u2_k _ _ (by decide), u2_s, g_up_n _ _ (by omega), g_up_s]; omega) (by unfold g_oopen; rw [u2_k _ _ (by decide), u2_k _ _ (by decide), u2_k _ _ (by decide), u2_s, g_up_n _ _ (by omega), g_up_n _ _ (by omega), g_up_n _ _ (by omega), g_up_n _ _ (by omega), g_up_n _ _ (by omega), g_up_n _ _ (by omega), g_up_n _ _ (by omega), g_up_n _ _ (by omega), g_up_n _ _ (by omega), g_up_n _ _ (by omega), g_up_n _ _ (by omega), g_up_n _ _ (by omega), g_up_n _ _ (by omega), g_up_n _ _ (by omega), g_up_n _ _ (by omega), g_up_n _ _ (by omega), g_up_n _ _ (by omega), g_up_n _ _ (by omega), g_up_n _ _ (by omega), g_up_n _ _ (by omega)]; omega) (by unfold g_oopen; rw [u2_k _ _ (by decide), u2_k _ _ (by decide), u2_s, g_up_n _ _ (by omega), g_up_n _ _ (by omega), g_up_n _ _ (by omega), g_up_n _ _ (by omega), g_up_n _ _ (by omega), g_up_n _ _ (by omega), g_up_n _ _ (by omega), g_up_n _ _ (by omega), g_up_n _ _ (by omega), g_up_n _ _ (by omega), g_up_n _ _ (by omega), g_up_n _ _ (by omega), g_up_n _ _ (by omega), g_up_n _ _ (by omega), g_up_n _ _ (by omega), g_up_n _ _ (by omega), g_up_n _ _ (by omega), g_up_n _ _ (by omega), g_up_n _ _ (by omega), g_up_n _ _ (by omega)]; omega) (by unfold g_oopen; rw [u2_k _ _ (by decide), u2_s, g_up_n _ _ (by omega), g_up_n _ _ (by omega), g_up_n _ _ (by omega), g_up_n _ _ (by omega), g_up_n _ _ (by omega), g_up_n _ _ (by omega), g_up_n _ _ (by omega), g_up_n _ _ (by omega), g_up_n _ _ (by omega), g_up_n _ _ (by omega), g_up_n _ _ (by omega), g_up_n _ _ (by omega), g_up_n _ _ (by omega), g_up_n _ _ (by omega), g_up_n _ _ (by omega), g_up_n _ _ (by omega), g_up_n _ _ (by omega), g_up_n _ _ (by omega), g_up_n _ _ (by omega), g_up_n _ _ (by omega)]; omega) (by unfold g_oopen; rw [u2_s, g_up_n _ _ (by omega), g_up_n _ _ (by omega), g_up_n _ _ (by omega), g_up_n _ _ (by omega), g_up_n _ _ (by omega), g_up_n _ _ (by omega), g_up_n _ _ (by omega), g_up_n _ _ (by omega), g_up_n _ _ (by omega), g_up_n _ _ (by omega), g_up_n _ _ (by omega), g_up_n _ _ (by omega), g_up_n _ _ (by omega), g_up_n _ _ (by omega), g_up_n _ _ (by omega), g_up_n _ _ (by omega), g_up_n _ _ (by omega), g_up_n _ _ (by omega), g_up_n _ _ (by omega), g_up_n _ _ (by omega)]; omega)
            skip
            have q9 := k0 (u2 (u2 (u2 (u2 (u2 (u2 (u2 (u2 (u2 (u2 (u2 (u2 (u2 M9 (w + 35 + i) 0 kd) (w + 35 + i) 1 ad) (w + 35 + i) 2 bi) (w + 35 + i) 3 ce) (w + 35 + i) 4 0) (w + 35 + i) 5 0) (w + 35 + i) 6 0) (w + 35 + i) 7 0) (w + 35 + i) 8 (-1)) (w + 35 + i) 9 (-1)) (w + 35 + i) 10 (-1)) (w + 35 + i) 11 0) w 2 ((i : Int) + 1)) (u2 (u2 (u2 (u2 (u2 N9 (w + 35 + i) 12 ce) (w + 35 + i) 13 0) (w + 35 + i) 14 0) (w + 35 + i) 15 0) (w + 35 + i) 16 0) P9 V9 (by omega) (by omega) (by omega) (q_AF.mk hv hbk hVw hS9 hPV9 hO9 c88_3 c88_4 c88_5 c88_6 c88_7 c88_8 c88_9 (fun q k h => by rw [u2_a _ _ (by omega), u2_a _ _ (by omega), u2_a _ _ (by omega), u2_a _ _ (by omega), u2_a _ _ (by omega), u2_a _ _ (by omega), u2_a _ _ (by omega), u2_a _ _ (by omega), u2_a _ _ (by omega), u2_a _ _ (by omega), u2_a _ _ (by omega), u2_a _ _ (by omega), u2_a _ _ (by omega)]) (fun q k h => by rw [u2_a _ _ (by omega), u2_a _ _ (by omega), u2_a _ _ (by omega), u2_a _ _ (by omega), u2_a _ _ (by omega)]) hX9)
            rw [show (((i : Int) + 1) - 1) = (i : Int) from by omega]
            exact q9
          · refine q_iconst hF dX7_open_79 ?_
            refine q_goto hF dX7_open_80 ?_
            refine q_callV (kc := 0) (ks := 0) (mc' := 1) (ms' := 6) (h' := 0) (st := []) hF vl_RX7_88 rfl [qI 1] rfl rfl hS.t0 (by decide) (Nat.le_of_ble_eq_true rfl) dX7_open_84 ?_
            refine mX7_refuseState1 hS.t0 hA (fun sz' c84_0 => ?_)
            refine q_out hF rfl ?_
            exact k3 sz' c84_0 (by omega) (by omega) (by omega)
        · refine q_iconst hF dX7_open_58 ?_
          refine q_goto hF dX7_open_59 ?_
          refine q_callV (kc := 0) (ks := 0) (mc' := 1) (ms' := 6) (h' := 0) (st := []) hF vl_RX7_45 rfl [qI 1] rfl rfl hS.t0 (by decide) (Nat.le_of_ble_eq_true rfl) dX7_open_63 ?_
          refine mX7_refuseArgument1 hS.t0 hA (fun sz' c63_0 => ?_)
          refine q_out hF rfl ?_
          exact k2 sz' c63_0 (by omega) (by omega)
    · refine q_iconst hF dX7_open_29 ?_
      refine q_goto hF dX7_open_30 ?_
      refine q_callV (kc := 0) (ks := 0) (mc' := 1) (ms' := 6) (h' := 0) (st := []) hF vl_RX7_77 rfl [qI 1] rfl rfl hS.t0 (by decide) (Nat.le_of_ble_eq_true rfl) dX7_open_34 ?_
      refine mX7_refuseNoSuch1 hS.t0 hA (fun sz' c34_0 => ?_)
      refine q_out hF rfl ?_
      exact k1 sz' c34_0 (by omega)
theorem q_PV.swp {P P9 : q_P} {b n : Nat} {V : Nat → Nat} (h : q_PV P b V) (hn : n < 8) (e5 : P9 b 3 = some (V (1 + n))) (en : P9 (b + 75) n = some (V 0)) (eo : ∀ j : Nat, j ≠ n → P9 (b + 75) j = P (b + 75) j) : q_PV P9 b (g_swp V n) := by
  refine ⟨e5, fun j hj => ?_⟩
  unfold g_swp
  rw [if_neg (by omega)]
  by_cases e : j = n
  · subst e; rw [if_pos rfl]; exact en
  · rw [if_neg (by omega), eo j e]; exact h.pa j hj
set_option maxRecDepth 100000 in
theorem mX7_undo0 {G : q_G} {sz : Nat} {T : q_T} {I L : q_I} {P : q_P} {Q : q_Q} {b : Nat} {V : Nat → Nat} (hS : q_ST T P b) (hA : q_A G b) (hPV : q_PV P b V) (hO : q_OV b V) (hb : I b 6 = 0) (k0 : Q (.inl (some (qI (-1)))) sz T I L P) : qC G 0 0 0 YX7_undo [.ref b] sz T I L P Q := by
  refine qC_of (by decide +kernel) rfl rfl (Nat.le_of_ble_eq_true rfl) (fun F hF _ _ => ?_)
  refine q_aload_n hF 0 rfl rfl dX7_undo_0 ?_
  refine q_getIv hF (z := 0) fl_RX7_158 hS.t0 hb dX7_undo_1 ?_
  refine q_ifle hF (by decide) dX7_undo_4 (fun c4 => ?_) (fun c4 => ?_)
  · refine q_iconst hF dX7_undo_19 ?_
    refine q_ireturn hF rfl dX7_undo_20 ?_
    exact k0
  · exact absurd c4 (by decide)
set_option maxRecDepth 100000 in
theorem mX7_undo {G : q_G} {sz : Nat} {T : q_T} {I L : q_I} {P : q_P} {Q : q_Q} {b : Nat} {n : Nat} {V : Nat → Nat} (hS : q_ST T P b) (hA : q_A G b) (hPV : q_PV P b V) (hO : q_OV b V) (hb : I b 6 = ((1 + n : Nat) : Int)) (hn : n < 8) (k0 : ∀ P9 : q_P, q_ST T P9 b → q_PV P9 b (g_swp V n) → q_OV b (g_swp V n) → (∀ q k, b + 452 ≤ q → P9 q k = P q k) → Q (.inl (some (qI (n : Int)))) sz T (u2 I b 6 (n : Int)) L P9) : qC G 0 0 0 YX7_undo [.ref b] sz T I L P Q := by
  refine qC_of (by decide +kernel) rfl rfl (Nat.le_of_ble_eq_true rfl) (fun F hF _ _ => ?_)
  refine q_aload_n hF 0 rfl rfl dX7_undo_0 ?_
  refine q_getIv hF (z := ((1 + n : Nat) : Int)) fl_RX7_158 hS.t0 hb dX7_undo_1 ?_
  refine q_ifle hF (by omega) dX7_undo_4 (fun c4 => ?_) (fun c4 => ?_)
  · omega
  · refine q_aload_n hF 0 rfl rfl dX7_undo_7 ?_
    refine q_getIv hF (z := ((1 + n : Nat) : Int)) fl_RX7_158 hS.t0 hb dX7_undo_8 ?_
    refine q_aload_n hF 0 rfl rfl dX7_undo_11 ?_
    refine q_getA hF fl_RX7_30 rfl hS.t0 hS.p4 dX7_undo_12 ?_
    refine q_alen hF (n := 8) hS.t75 dX7_undo_15 ?_
    refine q_icmple hF (by omega) (by decide) dX7_undo_16 (fun c16 => ?_) (fun c16 => ?_)
    · refine q_aload_n hF 0 rfl rfl dX7_undo_21 ?_
      refine q_dup hF rfl dX7_undo_22 ?_
      refine q_getIv hF (z := ((1 + n : Nat) : Int)) fl_RX7_158 hS.t0 hb dX7_undo_23 ?_
      refine q_iconst hF dX7_undo_26 ?_
      refine q_isub hF dX7_undo_27 ?_
      refine q_putI hF fl_RX7_158 hS.t0 hA dX7_undo_28 ?_
      rw [show ((1 + n : Nat) : Int) - 1 = (n : Int) by omega]
      refine q_aload_n hF 0 rfl rfl dX7_undo_31 ?_
      refine q_getA hF fl_RX7_26 rfl hS.t0 hPV.w dX7_undo_32 ?_
      refine q_astore_n hF (ls' := [(1, .ref (V 0)), (0, .ref b)]) rfl (by decide) rfl dX7_undo_35 ?_
      refine q_aload_n hF 1 rfl rfl dX7_undo_36 ?_
      refine q_aload_n hF 1 rfl rfl dX7_undo_37 ?_
      refine q_getA hF fl_RX7_30 rfl hS.t0 hS.p4 dX7_undo_38 ?_
      refine q_aload_n hF 1 rfl rfl dX7_undo_41 ?_
      refine q_getIv hF (z := (n : Int)) fl_RX7_158 hS.t0 (u2_s _ _ _ _) dX7_undo_42 ?_
      refine q_aaloadv hF (b := V (1 + n)) n hS.t75 (by decide) rfl (by omega) (by decide) (by first | exact hPV.pa _ (by omega) | (have q9 := hPV.pa (n) (by omega); simpa using q9)) dX7_undo_45 ?_
      refine q_putA hF fl_RX7_26 rfl hS.t0 hA dX7_undo_46 ?_
      refine q_aload_n hF 1 rfl rfl dX7_undo_49 ?_
      refine q_getA hF fl_RX7_30 rfl hS.t0 ((u2_k _ _ (by decide)).trans hS.p4) dX7_undo_50 ?_
      refine q_aload_n hF 1 rfl rfl dX7_undo_53 ?_
      refine q_getIv hF (z := (n : Int)) fl_RX7_158 hS.t0 (u2_s _ _ _ _) dX7_undo_54 ?_
      refine q_aload_n hF 0 rfl rfl dX7_undo_57 ?_
      refine q_aastorev hF (n := 8) (ci := 5) n hS.t75 (hS.sw hO (i := 0) (by omega)).t0 rfl rfl (q_Ale hA (by omega)) rfl (by omega) (by decide) dX7_undo_58 ?_
      refine q_aload_n hF 1 rfl rfl dX7_undo_59 ?_
      refine q_getIv hF (z := (n : Int)) fl_RX7_158 hS.t0 (u2_s _ _ _ _) dX7_undo_60 ?_
      refine q_ireturn hF rfl dX7_undo_63 ?_
      exact k0 (u2 (u2 P b 3 (some (V (1 + n)))) (b + 75) n (some (V 0))) (hS.mv (fun q k h1 h2 => by rw [u2_a _ _ h1, q_u2o h2])) (hPV.swp hn ((u2_a _ _ (by omega)).trans (u2_s _ _ _ _)) (u2_s _ _ _ _) (fun j hj => (u2_k _ _ hj).trans (u2_a _ _ (by omega)))) (hO.swp hn) (fun q k h => by rw [u2_a _ _ (by omega), u2_a _ _ (by omega)])
    · omega
