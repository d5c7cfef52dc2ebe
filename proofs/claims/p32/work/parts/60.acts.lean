/-! the class: its calls, what an act leaves -/
def q_AF (T : q_T) (b : Nat) (V : Nat → Nat) (bk : Nat) (I L : q_I) (P : q_P) (r r' : Nat → Int) (M N : q_I) (P9 : q_P) (V9 : Nat → Nat) : Prop :=
  q_ST T P9 b ∧ q_PV P9 b V9 ∧ q_OV b V9 ∧ V9 0 = V 0 ∧ (∀ j : Nat, j + 1 < g_nb bk → V9 (1 + j) = if bk = 8 then V (2 + j) else V (1 + j)) ∧ M b 6 = (g_nb bk : Int) ∧ q_WR M N (V9 0) r' (r' 2) ∧ q_WR M N (V9 (g_nb bk)) r (r 2) ∧
  (∀ q k, (q ≠ b ∨ k ≠ 6) → (q < V9 (g_nb bk) ∨ V9 (g_nb bk) + 47 ≤ q) → (q < V9 0 ∨ V9 0 + 47 ≤ q) → M q k = I q k) ∧ (∀ q k, (q < V9 (g_nb bk) ∨ V9 (g_nb bk) + 47 ≤ q) → (q < V9 0 ∨ V9 0 + 47 ≤ q) → N q k = L q k) ∧ (∀ q k, b + 452 ≤ q → P9 q k = P q k)
theorem g_nb_r {bk : Nat} (h : bk ≤ 8) : 1 ≤ g_nb bk ∧ g_nb bk ≤ 8 := by unfold g_nb; split <;> omega
theorem q_AF.mk {T : q_T} {b w bk : Nat} {V V9 : Nat → Nat} {I L M9 N9 M N : q_I} {P P9 : q_P} {r r' : Nat → Int} (hv : g_V0 r) (hbk : bk ≤ 8) (hVw : V 0 = w)
    (c0 : q_ST T P9 b) (c1 : q_PV P9 b V9) (c2 : q_OV b V9) (c3 : V9 0 = V 0) (c4 : ∀ j : Nat, j + 1 < g_nb bk → V9 (1 + j) = if bk = 8 then V (2 + j) else V (1 + j)) (c5 : M9 b 6 = (g_nb bk : Int))
    (c6 : ∀ q k, (q ≠ b ∨ k ≠ 6) → (q < V9 (g_nb bk) ∨ V9 (g_nb bk) + 47 ≤ q) → M9 q k = I q k) (c7 : ∀ q k, (q < V9 (g_nb bk) ∨ V9 (g_nb bk) + 47 ≤ q) → N9 q k = L q k) (c8 : q_WR M9 N9 (V9 (g_nb bk)) r (r 2)) (c9 : ∀ q k, b + 452 ≤ q → P9 q k = P q k)
    (fM : ∀ q k, q < w ∨ w + 47 ≤ q → M q k = M9 q k) (fN : ∀ q k, q < w ∨ w + 47 ≤ q → N q k = N9 q k) (hX : q_WR M N w r' (r' 2)) : q_AF T b V bk I L P r r' M N P9 V9 := by
  have hnb := g_nb_r hbk
  have hw9 : V9 0 = w := c3.trans hVw
  have hd := c2.d (i := 0) (j := g_nb bk) (by omega) (by omega) (by omega)
  have hr0 := c2.r (i := 0) (by omega)
  rw [hw9] at hd hr0
  refine ⟨c0, c1, c2, c3, c4, (fM _ _ (by omega)).trans c5, by rw [hw9]; exact hX, c8.fr hv (fun q k h1 h2 => fM q k (by omega)) (fun q k h1 h2 _ => fN q k (by omega)), fun q k h1 h2 h3 => ?_, fun q k h2 h3 => ?_, c9⟩
  · rw [hw9] at h3; exact (fM q k h3).trans (c6 q k h1 h2)
  · rw [hw9] at h3; exact (fN q k h3).trans (c7 q k h2)
theorem mX7_refuseNoSuch0 {G : q_G} {sz : Nat} {T : q_T} {I L : q_I} {P : q_P} {Q : q_Q} {b : Nat} (hT : T b = some (.inl 6)) (k0 : Q (.inl none) sz T I L P) : qC G 0 0 0 YX7_refuseNoSuch [.ref b, qI 0] sz T I L P Q := by
  refine qC_of (by decide +kernel) rfl rfl (Nat.le_of_ble_eq_true rfl) (fun F hF _ _ => ?_)
  refine q_iload_n hF 1 rfl rfl dX7_refuseNoSuch_0 ?_
  refine q_ifeq hF (by decide) dX7_refuseNoSuch_1 (fun _ => ?_) (fun c => absurd rfl c)
  exact q_return hF rfl dX7_refuseNoSuch_25 k0
set_option maxRecDepth 100000 in
theorem tX7_refuseNoSuch : q_thr RX7 297 301 "java/util/NoSuchElementException" 13 ⟨#[0x2a, 0x2b, 0xb7, 0x00, 0x0d, 0xb1]⟩ ["java/lang/RuntimeException", "java/lang/Exception"] = true := by decide +kernel
theorem mX7_refuseNoSuch1 {G : q_G} {sz : Nat} {T : q_T} {I L : q_I} {P : q_P} {Q : q_Q} {b : Nat} (hT : T b = some (.inl 6)) (hA : q_A G b) (k0 : ∀ sz', sz ≤ sz' → Q (.inr "java/util/NoSuchElementException") sz' T (u2 I b 7 ((I b 7) + 1)) L P) : qC G 0 1 6 YX7_refuseNoSuch [.ref b, qI 1] sz T I L P Q := by
  refine qC_of (by decide +kernel) rfl rfl (Nat.le_of_ble_eq_true rfl) (fun F hF _ _ => ?_)
  refine q_iload_n hF 1 rfl rfl dX7_refuseNoSuch_0 ?_
  refine q_ifeq hF (by decide) dX7_refuseNoSuch_1 (fun c => absurd c (by decide)) (fun _ => ?_)
  refine q_aload_n hF 0 rfl rfl dX7_refuseNoSuch_4 ?_
  refine q_dup hF rfl dX7_refuseNoSuch_5 ?_
  refine q_getIv hF (z := I b 7) fl_RX7_288 hT rfl dX7_refuseNoSuch_6 ?_
  refine q_iconst hF dX7_refuseNoSuch_9 ?_
  refine q_iadd hF dX7_refuseNoSuch_10 ?_
  refine q_putI hF fl_RX7_288 hT hA dX7_refuseNoSuch_11 ?_
  exact q_throw hF (i := 24) (rx := ⟨#[0x2a, 0x2b, 0xb7, 0x00, 0x0d, 0xb1]⟩) (ix := 13) (names := ["java/lang/RuntimeException", "java/lang/Exception"]) (by decide +kernel) (by decide +kernel) (by decide +kernel) (by decide +kernel) (by decide +kernel) (by decide +kernel) rfl tX7_refuseNoSuch rfl (by decide) (Nat.le_of_ble_eq_true rfl) (by decide) (by decide) dX7_refuseNoSuch_14.1 dX7_refuseNoSuch_17.1 dX7_refuseNoSuch_18.1 dX7_refuseNoSuch_21.1 dX7_refuseNoSuch_24.1 k0
theorem mX7_refuseArgument0 {G : q_G} {sz : Nat} {T : q_T} {I L : q_I} {P : q_P} {Q : q_Q} {b : Nat} (hT : T b = some (.inl 6)) (k0 : Q (.inl none) sz T I L P) : qC G 0 0 0 YX7_refuseArgument [.ref b, qI 0] sz T I L P Q := by
  refine qC_of (by decide +kernel) rfl rfl (Nat.le_of_ble_eq_true rfl) (fun F hF _ _ => ?_)
  refine q_iload_n hF 1 rfl rfl dX7_refuseArgument_0 ?_
  refine q_ifeq hF (by decide) dX7_refuseArgument_1 (fun _ => ?_) (fun c => absurd rfl c)
  exact q_return hF rfl dX7_refuseArgument_25 k0
set_option maxRecDepth 100000 in
theorem tX7_refuseArgument : q_thr RX7 304 308 "java/lang/IllegalArgumentException" 7 Bundle.six ["java/lang/RuntimeException", "java/lang/Exception"] = true := by decide +kernel
theorem mX7_refuseArgument1 {G : q_G} {sz : Nat} {T : q_T} {I L : q_I} {P : q_P} {Q : q_Q} {b : Nat} (hT : T b = some (.inl 6)) (hA : q_A G b) (k0 : ∀ sz', sz ≤ sz' → Q (.inr "java/lang/IllegalArgumentException") sz' T (u2 I b 8 ((I b 8) + 1)) L P) : qC G 0 1 6 YX7_refuseArgument [.ref b, qI 1] sz T I L P Q := by
  refine qC_of (by decide +kernel) rfl rfl (Nat.le_of_ble_eq_true rfl) (fun F hF _ _ => ?_)
  refine q_iload_n hF 1 rfl rfl dX7_refuseArgument_0 ?_
  refine q_ifeq hF (by decide) dX7_refuseArgument_1 (fun c => absurd c (by decide)) (fun _ => ?_)
  refine q_aload_n hF 0 rfl rfl dX7_refuseArgument_4 ?_
  refine q_dup hF rfl dX7_refuseArgument_5 ?_
  refine q_getIv hF (z := I b 8) fl_RX7_291 hT rfl dX7_refuseArgument_6 ?_
  refine q_iconst hF dX7_refuseArgument_9 ?_
  refine q_iadd hF dX7_refuseArgument_10 ?_
  refine q_putI hF fl_RX7_291 hT hA dX7_refuseArgument_11 ?_
  exact q_throw hF (i := 23) (rx := Bundle.six) (ix := 7) (names := ["java/lang/RuntimeException", "java/lang/Exception"]) (by decide +kernel) (by decide +kernel) (by decide +kernel) (by decide +kernel) (by decide +kernel) (by decide +kernel) rfl tX7_refuseArgument rfl (by decide) (Nat.le_of_ble_eq_true rfl) (by decide) (by decide) dX7_refuseArgument_14.1 dX7_refuseArgument_17.1 dX7_refuseArgument_18.1 dX7_refuseArgument_21.1 dX7_refuseArgument_24.1 k0
theorem mX7_refuseState0 {G : q_G} {sz : Nat} {T : q_T} {I L : q_I} {P : q_P} {Q : q_Q} {b : Nat} (hT : T b = some (.inl 6)) (k0 : Q (.inl none) sz T I L P) : qC G 0 0 0 YX7_refuseState [.ref b, qI 0] sz T I L P Q := by
  refine qC_of (by decide +kernel) rfl rfl (Nat.le_of_ble_eq_true rfl) (fun F hF _ _ => ?_)
  refine q_iload_n hF 1 rfl rfl dX7_refuseState_0 ?_
  refine q_ifeq hF (by decide) dX7_refuseState_1 (fun _ => ?_) (fun c => absurd rfl c)
  exact q_return hF rfl dX7_refuseState_25 k0
set_option maxRecDepth 100000 in
theorem tX7_refuseState : q_thr RX7 309 313 "java/lang/IllegalStateException" 7 Bundle.six ["java/lang/RuntimeException", "java/lang/Exception"] = true := by decide +kernel
theorem mX7_refuseState1 {G : q_G} {sz : Nat} {T : q_T} {I L : q_I} {P : q_P} {Q : q_Q} {b : Nat} (hT : T b = some (.inl 6)) (hA : q_A G b) (k0 : ∀ sz', sz ≤ sz' → Q (.inr "java/lang/IllegalStateException") sz' T (u2 I b 9 ((I b 9) + 1)) L P) : qC G 0 1 6 YX7_refuseState [.ref b, qI 1] sz T I L P Q := by
  refine qC_of (by decide +kernel) rfl rfl (Nat.le_of_ble_eq_true rfl) (fun F hF _ _ => ?_)
  refine q_iload_n hF 1 rfl rfl dX7_refuseState_0 ?_
  refine q_ifeq hF (by decide) dX7_refuseState_1 (fun c => absurd c (by decide)) (fun _ => ?_)
  refine q_aload_n hF 0 rfl rfl dX7_refuseState_4 ?_
  refine q_dup hF rfl dX7_refuseState_5 ?_
  refine q_getIv hF (z := I b 9) fl_RX7_294 hT rfl dX7_refuseState_6 ?_
  refine q_iconst hF dX7_refuseState_9 ?_
  refine q_iadd hF dX7_refuseState_10 ?_
  refine q_putI hF fl_RX7_294 hT hA dX7_refuseState_11 ?_
  exact q_throw hF (i := 25) (rx := Bundle.six) (ix := 7) (names := ["java/lang/RuntimeException", "java/lang/Exception"]) (by decide +kernel) (by decide +kernel) (by decide +kernel) (by decide +kernel) (by decide +kernel) (by decide +kernel) rfl tX7_refuseState rfl (by decide) (Nat.le_of_ble_eq_true rfl) (by decide) (by decide) dX7_refuseState_14.1 dX7_refuseState_17.1 dX7_refuseState_18.1 dX7_refuseState_21.1 dX7_refuseState_24.1 k0
set_option maxRecDepth 100000 in
theorem mX7_isWithin {G : q_G} {sz : Nat} {T : q_T} {I L : q_I} {P : q_P} {Q : q_Q} {n : Int} {lo : Int} {hi : Int}  (h1 : -2147483648 ≤ n ∧ n < 2147483648) (h2 : -2147483648 ≤ lo ∧ lo < 2147483648) (h3 : -2147483648 ≤ hi ∧ hi < 2147483648) (k0 : Q (.inl (some (qI (q_b (lo ≤ n ∧ n ≤ hi))))) sz T I L P) : qC G 0 0 0 YX7_isWithin [qI n, qI lo, qI hi] sz T I L P Q := by
  refine qC_of (by decide +kernel) rfl rfl (Nat.le_of_ble_eq_true rfl) (fun F hF _ _ => ?_)
  refine q_iload_n hF 0 rfl rfl dX7_isWithin_0 ?_
  refine q_iload_n hF 1 rfl rfl dX7_isWithin_1 ?_
  refine q_icmplt hF h1 h2 dX7_isWithin_2 (fun c2 => ?_) (fun c2 => ?_)
  · refine q_iconst hF dX7_isWithin_14 ?_
    refine q_zreturn hF (by decide) rfl dX7_isWithin_15 ?_
    rw [q_b_f (c := lo ≤ n ∧ n ≤ hi) (by omega)] at k0; exact k0
  · refine q_iload_n hF 0 rfl rfl dX7_isWithin_5 ?_
    refine q_iload_n hF 2 rfl rfl dX7_isWithin_6 ?_
    refine q_icmpgt hF h1 h3 dX7_isWithin_7 (fun c7 => ?_) (fun c7 => ?_)
    · refine q_iconst hF dX7_isWithin_14 ?_
      refine q_zreturn hF (by decide) rfl dX7_isWithin_15 ?_
      rw [q_b_f (c := lo ≤ n ∧ n ≤ hi) (by omega)] at k0; exact k0
    · refine q_iconst hF dX7_isWithin_10 ?_
      refine q_goto hF dX7_isWithin_11 ?_
      refine q_zreturn hF (by decide) rfl dX7_isWithin_15 ?_
      rw [q_b_t (c := lo ≤ n ∧ n ≤ hi) (by omega)] at k0; exact k0
set_option maxRecDepth 100000 in
theorem mX0_isClaimableR {G : q_G} {sz : Nat} {T : q_T} {I L : q_I} {P : q_P} {Q : q_Q} {o : Nat} {a : Nat} {r : Nat → Int} (hO : T o = some (.inl 0)) (hAR : q_AR I o r a) (hst : 0 ≤ r (1043 + 12 * a) ∧ r (1043 + 12 * a) ≤ 4) (hnl : 0 ≤ r (1049 + 12 * a) ∧ r (1049 + 12 * a) ≤ 1) (k0 : Q (.inl (some (qI (q_b (r (1043 + 12 * a) = 2 ∧ r (1049 + 12 * a) = 0))))) sz T I L P) : qC G 0 0 0 YX0_isClaimable [.ref o] sz T I L P Q := by
  refine qC_of (by decide +kernel) rfl rfl (Nat.le_of_ble_eq_true rfl) (fun F hF _ _ => ?_)
  refine q_aload_n hF 0 rfl rfl dX0_isClaimable_0 ?_
  refine q_getIv hF (z := r (1043 + 12 * a)) fl_RX0_24 hO hAR.state dX0_isClaimable_1 ?_
  refine q_iconst hF dX0_isClaimable_4 ?_
  refine q_icmpne hF (by omega) (by decide) dX0_isClaimable_5 (fun c5 => ?_) (fun c5 => ?_)
  · refine q_iconst hF dX0_isClaimable_19 ?_
    refine q_zreturn hF (by decide) rfl dX0_isClaimable_20 ?_
    rw [q_b_f (c := r (1043 + 12 * a) = 2 ∧ r (1049 + 12 * a) = 0) (by omega)] at k0; exact k0
  · refine q_aload_n hF 0 rfl rfl dX0_isClaimable_8 ?_
    refine q_getZv hF (z := r (1049 + 12 * a)) fl_RX0_45 hO hAR.nl dX0_isClaimable_9 ?_
    refine q_ifne hF (by omega) dX0_isClaimable_12 (fun c12 => ?_) (fun c12 => ?_)
    · refine q_iconst hF dX0_isClaimable_19 ?_
      refine q_zreturn hF (by decide) rfl dX0_isClaimable_20 ?_
      rw [q_b_f (c := r (1043 + 12 * a) = 2 ∧ r (1049 + 12 * a) = 0) (by omega)] at k0; exact k0
    · refine q_iconst hF dX0_isClaimable_15 ?_
      refine q_goto hF dX0_isClaimable_16 ?_
      refine q_zreturn hF (by decide) rfl dX0_isClaimable_20 ?_
      rw [q_b_t (c := r (1043 + 12 * a) = 2 ∧ r (1049 + 12 * a) = 0) (by omega)] at k0; exact k0
set_option maxRecDepth 100000 in
theorem mX7_contact0 {G : q_G} {sz : Nat} {T : q_T} {I L : q_I} {P : q_P} {Q : q_Q} {V : Nat → Nat} {w : Nat} {r : Nat → Int} {b : Nat} {a : Int}  (hS : q_ST T P b) (hA : q_A G b) (hPV : q_PV P b V) (hO : q_OV b V) (hVw : V 0 = w) (hWR : q_WR I L w r (r 2)) (hV : g_VR r) (ha : -2147483648 ≤ a ∧ a < 2147483648) (hn : ¬ (0 ≤ a ∧ a < r 1)) (k1 : ∀ sz', sz ≤ sz' → Q (.inr "java/util/NoSuchElementException") sz' T (u2 I b 7 ((I b 7) + 1)) L P) : qC G 4 1 6 YX7_contact [.ref b, qI a] sz T I L P Q := by
  refine qC_of (by decide +kernel) rfl rfl (Nat.le_of_ble_eq_true rfl) (fun F hF _ _ => ?_)
  have hv := hV.1
  have hPVw : P b 3 = some w := hVw ▸ hPV.w
  have hwr := hO.r (i := 0) (by omega)
  rw [hVw] at hwr
  have hW0 : q_SW T P w := by have q := hS.sw hO (i := 0) (by omega); rwa [hVw] at q
  have hW0A : q_A G w := q_Ale hA (by omega)
  have hm12 := hv.many
  have hl5 := hv.lands
  have hmo := hv.month
  have hr6 := hv.rows
  refine q_aload_n hF 0 rfl rfl dX7_contact_0 ?_
  refine q_aload_n hF 0 rfl rfl dX7_contact_1 ?_
  refine q_getA hF fl_RX7_26 rfl hS.t0 hPVw dX7_contact_2 ?_
  refine q_iload_n hF 1 rfl rfl dX7_contact_5 ?_
  refine q_callV (kc := 1) (ks := 6) (mc' := 0) (ms' := 0) (h' := 0) (st := [.ref b]) hF vl_RX7_101 rfl [qI a] rfl rfl hW0.t0 (by decide) (Nat.le_of_ble_eq_true rfl) dX7_contact_6 ?_
  refine mX6_hasAccount (r := r) hW0 hWR hv (by omega) ?_
  refine q_ifne_b hF dX7_contact_9 (fun c9 => ?_) (fun c9 => ?_)
  · omega
  · refine q_iconst hF dX7_contact_12 ?_
    refine q_goto hF dX7_contact_13 ?_
    refine q_callV (kc := 0) (ks := 0) (mc' := 1) (ms' := 6) (h' := 0) (st := []) hF vl_RX7_77 rfl [qI 1] rfl rfl hS.t0 (by decide) (Nat.le_of_ble_eq_true rfl) dX7_contact_17 ?_
    refine mX7_refuseNoSuch1 hS.t0 hA (fun sz' c17_0 => ?_)
    refine q_out hF rfl ?_
    exact k1 sz' c17_0
set_option maxRecDepth 100000 in
theorem mX7_contact {G : q_G} {sz : Nat} {T : q_T} {I L : q_I} {P : q_P} {Q : q_Q} {V : Nat → Nat} {w : Nat} {r : Nat → Int} {b : Nat} {i bk : Nat} (hS : q_ST T P b) (hA : q_A G b) (hPV : q_PV P b V) (hO : q_OV b V) (hVw : V 0 = w) (hWR : q_WR I L w r (r 2)) (hV : g_VR r) (hb : I b 6 = (bk : Int)) (hbk : bk ≤ 8) (hy : (i : Int) < r 1) (k2 : ∀ sz', sz ≤ sz' → ¬ (r (1043 + 12 * i) = 0 ∨ r (1043 + 12 * i) = 1) → Q (.inr "java/lang/IllegalStateException") sz' T (u2 I b 9 ((I b 9) + 1)) L P) (k0 : ∀ (M N : q_I) (P9 : q_P) (V9 : Nat → Nat), (r (1043 + 12 * i) = 0 ∨ r (1043 + 12 * i) = 1) → q_AF T b V bk I L P r (g_ocontact r i) M N P9 V9 → Q (.inl (some (qI (r (1045 + 12 * i))))) sz T M N P9) : qC G 4 1 6 YX7_contact [.ref b, qI (i : Int)] sz T I L P Q := by
  refine qC_of (by decide +kernel) rfl rfl (Nat.le_of_ble_eq_true rfl) (fun F hF _ _ => ?_)
  have hv := hV.1
  have hPVw : P b 3 = some w := hVw ▸ hPV.w
  have hwr := hO.r (i := 0) (by omega)
  rw [hVw] at hwr
  have hW0 : q_SW T P w := by have q := hS.sw hO (i := 0) (by omega); rwa [hVw] at q
  have hW0A : q_A G w := q_Ale hA (by omega)
  have hm12 := hv.many
  have hl5 := hv.lands
  have hmo := hv.month
  have hr6 := hv.rows
  have hVA := hV.2.1 i hy
  rw [if_neg (Nat.not_lt_zero _)] at hVA
  have hva1 := hVA.state
  have hva2 := hVA.cents
  have hva3 := hVA.since
  have hva4 := hVA.holder
  have hva5 := hVA.nl
  have hva6 := hVA.age
  have hva7 := hVA.wrote
  have hva8 := hVA.lat
  have hva9 := hVA.addr
  have hva10 := hVA.birth
  have hva11 := hVA.kind
  refine q_aload_n hF 0 rfl rfl dX7_contact_0 ?_
  refine q_aload_n hF 0 rfl rfl dX7_contact_1 ?_
  refine q_getA hF fl_RX7_26 rfl hS.t0 hPVw dX7_contact_2 ?_
  refine q_iload_n hF 1 rfl rfl dX7_contact_5 ?_
  refine q_callV (kc := 1) (ks := 6) (mc' := 0) (ms' := 0) (h' := 0) (st := [.ref b]) hF vl_RX7_101 rfl [qI (i : Int)] rfl rfl hW0.t0 (by decide) (Nat.le_of_ble_eq_true rfl) dX7_contact_6 ?_
  refine mX6_hasAccount (r := r) hW0 hWR hv (by omega) ?_
  refine q_ifne_b hF dX7_contact_9 (fun c9 => ?_) (fun c9 => ?_)
  · refine q_iconst hF dX7_contact_16 ?_
    refine q_callV (kc := 1) (ks := 6) (mc' := 0) (ms' := 0) (h' := 0) (st := []) hF vl_RX7_77 rfl [qI 0] rfl rfl hS.t0 (by decide) (Nat.le_of_ble_eq_true rfl) dX7_contact_17 ?_
    refine mX7_refuseNoSuch0 hS.t0 ?_
    refine q_aload_n hF 0 rfl rfl dX7_contact_20 ?_
    refine q_getA hF fl_RX7_26 rfl hS.t0 hPVw dX7_contact_21 ?_
    refine q_getA hF fl_RX7_91 rfl hW0.t0 hW0.p1 dX7_contact_24 ?_
    refine q_iload_n hF 1 rfl rfl dX7_contact_27 ?_
    refine q_aaloadv hF (b := w + 35 + i) i hW0.t19 (by decide) rfl (by omega) (by decide) (hW0.pa _ (by omega)) dX7_contact_28 ?_
    refine q_astore_n hF (ls' := [(2, .ref (w + 35 + i)), (0, .ref b), (1, qI (i : Int))]) rfl (by decide) rfl dX7_contact_29 ?_
    refine q_aload_n hF 1 rfl rfl dX7_contact_30 ?_
    refine q_aload_n hF 0 rfl rfl dX7_contact_31 ?_
    refine q_callV (kc := 1) (ks := 6) (mc' := 0) (ms' := 0) (h' := 0) (st := [.ref b]) hF vl_RX7_104 rfl [] rfl rfl (hW0.ta _ (by omega)) (by decide) (Nat.le_of_ble_eq_true rfl) dX7_contact_32 ?_
    refine mX0_isWithBankR (r := r) (a := i) (hW0.ta _ (by omega)) (hWR.acc _ hy) hva1 ?_
    refine q_ifne_b hF dX7_contact_35 (fun c35 => ?_) (fun c35 => ?_)
    · refine q_iconst hF dX7_contact_42 ?_
      refine q_callV (kc := 1) (ks := 6) (mc' := 0) (ms' := 0) (h' := 0) (st := []) hF vl_RX7_88 rfl [qI 0] rfl rfl hS.t0 (by decide) (Nat.le_of_ble_eq_true rfl) dX7_contact_43 ?_
      refine mX7_refuseState0 hS.t0 ?_
      refine q_aload_n hF 1 rfl rfl dX7_contact_46 ?_
      refine q_callV (kc := 1) (ks := 6) (mc' := 0) (ms' := 0) (h' := 3) (st := []) hF vl_RX7_56 rfl [] rfl rfl hS.t0 (by decide) (Nat.le_of_ble_eq_true rfl) dX7_contact_47 ?_
      refine mX7_remember hS hA hPV hO hb hbk (by rw [hVw]; exact hWR) hv (fun j hj => by have q := (hV.2.1 j hj).nl; exact q) (fun M9 N9 P9 V9 c47_0 c47_1 c47_2 c47_3 c47_4 c47_5 c47_6 c47_7 c47_8 c47_9 => ?_)
      have hnb := g_nb_r hbk
      have hS9 := c47_0
      have hPV9 := c47_1
      have hO9 := c47_2
      have hw9 : V9 0 = w := c47_3.trans hVw
      have hPVw9 : P9 b 3 = some w := hw9 ▸ hPV9.w
      have hW9 : q_SW T P9 w := by have q := hS9.sw hO9 (i := 0) (by omega); rwa [hw9] at q
      have hd9 := hO9.d (i := 0) (j := g_nb bk) (by omega) (by omega) (by omega)
      rw [hw9] at hd9
      have hI9 : ∀ q k, w ≤ q → q < w + 47 → M9 q k = I q k := fun q k h1 h2 => c47_6 q k (by omega) (by omega)
      have hL9 : ∀ q k, w ≤ q → q < w + 47 → N9 q k = L q k := fun q k h1 h2 => c47_7 q k (by omega)
      have hWR9 : q_WR M9 N9 w r (r 2) := hWR.fr hv hI9 (fun q k h1 h2 _ => hL9 q k h1 h2)
      refine q_aload_n hF 0 rfl rfl dX7_contact_50 ?_
      refine q_getIv hF (z := r (1045 + 12 * i)) fl_RX7_108 (hW0.ta _ (by omega)) (hWR9.acc _ hy).since dX7_contact_51 ?_
      refine q_istore_n hF (ls' := [(3, qI (r (1045 + 12 * i))), (2, .ref (w + 35 + i)), (0, .ref b), (1, qI (i : Int))]) rfl (by decide) rfl dX7_contact_54 ?_
      refine q_aload_n hF 1 rfl rfl dX7_contact_55 ?_
      refine q_callV (kc := 1) (ks := 6) (mc' := 0) (ms' := 0) (h' := 0) (st := []) hF vl_RX7_111 rfl [] rfl rfl (hW0.ta _ (by omega)) (by decide) (Nat.le_of_ble_eq_true rfl) dX7_contact_56 ?_
      refine mX0_wake (hW0.ta _ (by omega)) (q_Ale hW0A (by omega)) ?_
      refine q_iload_n hF 0 rfl rfl dX7_contact_59 ?_
      refine q_ireturn hF rfl dX7_contact_60 ?_
      have hAR9 : q_AR (u2 (u2 M9 (w + 35 + i) 6 0) (w + 35 + i) 4 0) (w + 35 + i) (g_ocontact r i) i := ⟨(by unfold g_ocontact; rw [u2_k _ _ (by decide), u2_k _ _ (by decide), g_up_n _ _ (by omega), g_up_n _ _ (by omega)]; exact (hWR9.acc i hy).kind), (by unfold g_ocontact; rw [u2_k _ _ (by decide), u2_k _ _ (by decide), g_up_n _ _ (by omega), g_up_n _ _ (by omega)]; exact (hWR9.acc i hy).addr), (by unfold g_ocontact; rw [u2_k _ _ (by decide), u2_k _ _ (by decide), g_up_n _ _ (by omega), g_up_n _ _ (by omega)]; exact (hWR9.acc i hy).birth), (by unfold g_ocontact; rw [u2_k _ _ (by decide), u2_k _ _ (by decide), g_up_n _ _ (by omega), g_up_n _ _ (by omega)]; exact (hWR9.acc i hy).cents), (by unfold g_ocontact; rw [u2_s, g_up_s]; first | done | rfl | omega), (by unfold g_ocontact; rw [u2_k _ _ (by decide), u2_k _ _ (by decide), g_up_n _ _ (by omega), g_up_n _ _ (by omega)]; exact (hWR9.acc i hy).age), (by unfold g_ocontact; rw [u2_k _ _ (by decide), u2_s, g_up_n _ _ (by omega), g_up_s]; first | done | rfl | omega), (by unfold g_ocontact; rw [u2_k _ _ (by decide), u2_k _ _ (by decide), g_up_n _ _ (by omega), g_up_n _ _ (by omega)]; exact (hWR9.acc i hy).wrote), (by unfold g_ocontact; rw [u2_k _ _ (by decide), u2_k _ _ (by decide), g_up_n _ _ (by omega), g_up_n _ _ (by omega)]; exact (hWR9.acc i hy).lat), (by unfold g_ocontact; rw [u2_k _ _ (by decide), u2_k _ _ (by decide), g_up_n _ _ (by omega), g_up_n _ _ (by omega)]; exact (hWR9.acc i hy).holder), (by unfold g_ocontact; rw [u2_k _ _ (by decide), u2_k _ _ (by decide), g_up_n _ _ (by omega), g_up_n _ _ (by omega)]; exact (hWR9.acc i hy).nl), (fun q => by unfold g_ocontact at q; rw [g_up_s] at q; exact absurd q (by decide))⟩
      have hX9 : q_WR (u2 (u2 M9 (w + 35 + i) 6 0) (w + 35 + i) 4 0) (N9) w (g_ocontact r i) ((g_ocontact r i) 2) := by
        rw [show (g_ocontact r i) 2 = r 2 from (by unfold g_ocontact; rw [g_up_n _ _ (by omega), g_up_n _ _ (by omega)])]
        exact hWR9.upd hv hy (fun k hk => by unfold g_rc at hk; unfold g_ocontact; rw [g_up_n _ _ (by omega), g_up_n _ _ (by omega)]) (by unfold g_ocontact; rw [g_up_n _ _ (by omega), g_up_n _ _ (by omega)]) (by unfold g_ocontact; rw [g_up_n _ _ (by omega), g_up_n _ _ (by omega)]) (fun k k1 k2 => by unfold g_ocontact; rw [g_up_n _ _ (by omega), g_up_n _ _ (by omega)]) (fun q k h => by rw [u2_a _ _ h, u2_a _ _ h]) hAR9 (fun l9 hl9 => by unfold g_ocontact; rw [g_up_n _ _ (by omega), g_up_n _ _ (by omega)]; exact hWR9.paid l9 hl9) (fun l9 hl9 => by unfold g_ocontact; rw [g_up_n _ _ (by omega), g_up_n _ _ (by omega)]; exact hWR9.pass l9 hl9) (fun j k j1 j2 => rfl) (by unfold g_ocontact; rw [g_up_n _ _ (by omega), g_up_n _ _ (by omega)]; omega) (by unfold g_ocontact; rw [g_up_n _ _ (by omega), g_up_n _ _ (by omega)]; omega) (by unfold g_ocontact; rw [g_up_n _ _ (by omega), g_up_n _ _ (by omega)]; omega) (by unfold g_ocontact; rw [g_up_n _ _ (by omega), g_up_n _ _ (by omega)]; omega) (by unfold g_ocontact; rw [g_up_n _ _ (by omega), g_up_n _ _ (by omega)]; omega)
      exact k0 (u2 (u2 M9 (w + 35 + i) 6 0) (w + 35 + i) 4 0) (N9) P9 V9 (by omega) (q_AF.mk hv hbk hVw hS9 hPV9 hO9 c47_3 c47_4 c47_5 c47_6 c47_7 c47_8 c47_9 (fun q k h => by rw [u2_a _ _ (by omega), u2_a _ _ (by omega)]) (fun q k h => rfl) hX9)
    · refine q_iconst hF dX7_contact_38 ?_
      refine q_goto hF dX7_contact_39 ?_
      refine q_callV (kc := 0) (ks := 0) (mc' := 1) (ms' := 6) (h' := 0) (st := []) hF vl_RX7_88 rfl [qI 1] rfl rfl hS.t0 (by decide) (Nat.le_of_ble_eq_true rfl) dX7_contact_43 ?_
      refine mX7_refuseState1 hS.t0 hA (fun sz' c43_0 => ?_)
      refine q_out hF rfl ?_
      exact k2 sz' c43_0 (by omega)
  · omega
