/-! a name; which land bears it -/
theorem g_app_lt : ∀ (xs : List Int) (t : Nat → Int) (i k : Nat), k < i → g_app t i xs k = t k
  | [], _, _, _, _ => rfl
  | x :: xs, t, i, k, h => by
    show g_app (g_up t i x) (i + 1) xs k = t k
    rw [g_app_lt xs _ _ _ (by omega)]
    exact g_up_n _ _ (by omega)
/-- cells of the row before the codes are small numbers; lands are at most five -/
def g_TR (t : Nat → Int) : Prop := (∀ k, k < 139 → -2147483648 ≤ t k ∧ t k < 2147483648) ∧ 0 ≤ t 0 ∧ t 0 ≤ 5
theorem g_TR.up {t : Nat → Int} (h : g_TR t) {k : Nat} {v : Int} (hv : -2147483648 ≤ v ∧ v < 2147483648) (h0 : k ≠ 0 ∨ 0 ≤ v ∧ v ≤ 5) : g_TR (g_up t k v) := by
  refine ⟨fun j hj => ?_, ?_⟩
  · unfold g_up; split
    · exact hv
    · exact h.1 j hj
  · unfold g_up
    by_cases e : 0 = k
    · subst e
      rw [if_pos rfl]
      rcases h0 with h0 | h0
      · exact absurd rfl h0
      · exact h0
    · rw [if_neg e]; exact h.2
theorem g_TR.app {t : Nat → Int} (h : g_TR t) {i : Nat} (hi : 139 ≤ i) (xs : List Int) : g_TR (g_app t i xs) := by
  refine ⟨fun k hk => ?_, ?_⟩
  · rw [g_app_lt xs _ _ _ (by omega)]; exact h.1 k hk
  · rw [g_app_lt xs _ _ _ (by omega)]; exact h.2
/-- letters of the name that stands at q -/
def g_nl (B : Nat → Int) (n q : Nat) : Nat := g_ne B n q - q
/-- a name may stand at q -/
abbrev g_nm (B : Nat → Int) (n q : Nat) : Prop := (0 < g_nl B n q ∧ g_nl B n q ≤ 6) ∧ ∀ k, k < 23 → ¬ g_isW B n (g_wi k) q
/-- land l bears the name of c letters at q -/
abbrev g_lm (B : Nat → Int) (n : Nat) (t : Nat → Int) (q c l : Nat) : Prop := t (30 + 13 * l) = (c : Int) ∧ ∀ k, k < c → t (24 + 13 * l + k) = g_bt B n (q + k)
def g_lndF (B : Nat → Int) (n : Nat) (t : Nat → Int) (q c : Nat) : Nat → Nat → Int
  | 0, _ => -1
  | f + 1, l => if (l : Int) < t 0 then (if g_lm B n t q c l then (l : Int) else g_lndF B n t q c f (l + 1)) else -1
/-- which land bears it; none: -1 -/
def g_lnd (B : Nat → Int) (n : Nat) (t : Nat → Int) (q c : Nat) : Int := g_lndF B n t q c 6 0
theorem g_lndF_r {B : Nat → Int} {n : Nat} {t : Nat → Int} {q c : Nat} : ∀ f l, -1 ≤ g_lndF B n t q c f l ∧ (g_lndF B n t q c f l = -1 ∨ g_lndF B n t q c f l < t 0)
  | 0, _ => ⟨by unfold g_lndF; decide, Or.inl rfl⟩
  | f + 1, l => by
    unfold g_lndF
    split
    · split
      · exact ⟨by omega, Or.inr (by omega)⟩
      · exact g_lndF_r f (l + 1)
    · exact ⟨by decide, Or.inl rfl⟩
theorem g_nl_r {B : Nat → Int} {n q : Nat} (hq : q ≤ n) : q + g_nl B n q = g_ne B n q ∧ q + g_nl B n q ≤ n := by
  have h := g_ne_all (B := B) (n := n) _ q (Nat.lt_succ_self _) hq
  unfold g_nl
  omega
set_option maxRecDepth 100000 in
theorem mX8_one0 {G : q_G} {sz : Nat} {T : q_T} {I L : q_I} {P : q_P} {Q : q_Q} {m : Nat} {q : Nat} {s : g_PS} {B : Nat → Int} {n : Nat}  (hS : q_SM T P m) (hSA : q_A G m) (hB : q_BT I m B n) (hp : s.p ≤ n) (hfl : s.fl = 0) (hsk : g_sk B n s.p = q) (k0 : g_isW B n 27 q → Q (.inl (some (qI 0))) sz T (q_ps I m (g_mk (g_len 27 + q) s.fl s.fa s.cd s.op s.on s.hp)) L P) (k1 : ¬ (g_isW B n 27 q) → g_isW B n 28 q → Q (.inl (some (qI 1))) sz T (q_ps I m (g_mk (g_len 28 + q) s.fl s.fa s.cd s.op s.on s.hp)) L P) (k2 : ¬ (g_isW B n 27 q) → ¬ (g_isW B n 28 q) → g_isW B n 29 q → Q (.inl (some (qI 2))) sz T (q_ps I m (g_mk (g_len 29 + q) s.fl s.fa s.cd s.op s.on s.hp)) L P) (k3 : ¬ (g_isW B n 27 q) → ¬ (g_isW B n 28 q) → ¬ (g_isW B n 29 q) → g_isW B n 30 q → Q (.inl (some (qI 3))) sz T (q_ps I m (g_mk (g_len 30 + q) s.fl s.fa s.cd s.op s.on s.hp)) L P) (k4 : ¬ (g_isW B n 27 q) → ¬ (g_isW B n 28 q) → ¬ (g_isW B n 29 q) → ¬ (g_isW B n 30 q) → g_isW B n 31 q → Q (.inl (some (qI 4))) sz T (q_ps I m (g_mk (g_len 31 + q) s.fl s.fa s.cd s.op s.on s.hp)) L P) (k5 : ¬ (g_isW B n 27 q) → ¬ (g_isW B n 28 q) → ¬ (g_isW B n 29 q) → ¬ (g_isW B n 30 q) → ¬ (g_isW B n 31 q) → Q (.inl (some (qI (-1)))) sz T (q_ps I m (g_mk q 1 (q : Int) s.cd s.op s.on s.hp)) L P) : qC G 6 0 0 YX8_one [.ref m, qI 0, qI 4] sz T (q_ps I m s) L P Q := by
  refine qC_of (by decide +kernel) rfl rfl (Nat.le_of_ble_eq_true rfl) (fun F hF _ _ => ?_)
  have hn6 := hB.2.1
  have hq := g_sk_r (B := B) hp
  rw [hsk] at hq
  have hqq : g_sk B n q = q := by rw [← hsk]; exact g_sk_sk hp
  refine q_iload_n hF 1 rfl rfl dX8_one_0 ?_
  refine q_istore_n hF (ls' := [(3, qI 0), (0, .ref m), (1, qI 0), (2, qI 4)]) rfl (by decide) rfl dX8_one_1 ?_
  refine q_iload_n hF 0 rfl rfl dX8_one_2 ?_
  refine q_iload_n hF 3 rfl rfl dX8_one_3 ?_
  refine q_icmpgt hF (by decide) (by decide) dX8_one_4 (fun c4 => ?_) (fun c4 => ?_)
  · exact absurd c4 (by decide)
  · refine q_aload_n hF 1 rfl rfl dX8_one_7 ?_
    refine q_iload_n hF 0 rfl rfl dX8_one_8 ?_
    refine q_callS (kc := 0) (ks := 0) (mc' := 0) (ms' := 0) (h' := 0) (st := [.ref m]) hF sl_RX8_172 rfl [qI 0] rfl rfl (by omega) (Nat.le_of_ble_eq_true rfl) dX8_one_9 ?_
    refine mX8_wordOf (k := 0) (by omega) ?_
    refine q_callV (kc := 0) (ks := 0) (mc' := 0) (ms' := 0) (h' := 5) (st := []) hF vl_RX8_103 rfl [.ref (q_KS G 27)] rfl rfl hS.t0 (by omega) (Nat.le_of_ble_eq_true rfl) dX8_one_12 ?_
    refine mX8_takesPQ (i := 27) hS hSA hB (by decide) (show s.p ≤ n by omega) hfl hsk (fun (c12_0_2 : ¬ (g_isW B n 27 q)) => ?_) (fun (c12_0_2 : g_isW B n 27 q) => ?_)
    · show qX G F Q 0 0 15 [(3, qI 0), (0, .ref m), (1, qI 0), (2, qI 4)] [qI 0] sz T (q_ps I m (g_mk q s.fl s.fa s.cd s.op s.on s.hp)) L P
      refine q_ifeq hF (by decide) dX8_one_15 (fun c15 => ?_) (fun c15 => ?_)
      · refine q_iinc hF (z' := 1) (ls' := [(3, qI 1), (0, .ref m), (1, qI 0), (2, qI 4)]) 0 rfl (by first | rfl | omega) (by decide) rfl dX8_one_22 ?_
        refine q_goto hF dX8_one_25 ?_
        refine q_iload_n hF 0 rfl rfl dX8_one_2 ?_
        refine q_iload_n hF 3 rfl rfl dX8_one_3 ?_
        refine q_icmpgt hF (by decide) (by decide) dX8_one_4 (fun c4 => ?_) (fun c4 => ?_)
        · exact absurd c4 (by decide)
        · refine q_aload_n hF 1 rfl rfl dX8_one_7 ?_
          refine q_iload_n hF 0 rfl rfl dX8_one_8 ?_
          refine q_callS (kc := 0) (ks := 0) (mc' := 0) (ms' := 0) (h' := 0) (st := [.ref m]) hF sl_RX8_172 rfl [qI 1] rfl rfl (by omega) (Nat.le_of_ble_eq_true rfl) dX8_one_9 ?_
          refine mX8_wordOf (k := 1) (by omega) ?_
          refine q_callV (kc := 0) (ks := 0) (mc' := 0) (ms' := 0) (h' := 5) (st := []) hF vl_RX8_103 rfl [.ref (q_KS G 28)] rfl rfl hS.t0 (by omega) (Nat.le_of_ble_eq_true rfl) dX8_one_12 ?_
          refine mX8_takesPQ (i := 28) hS hSA hB (by decide) (show q ≤ n by omega) hfl hqq (fun (c12_0_4 : ¬ (g_isW B n 28 q)) => ?_) (fun (c12_0_4 : g_isW B n 28 q) => ?_)
          · show qX G F Q 0 0 15 [(3, qI 1), (0, .ref m), (1, qI 0), (2, qI 4)] [qI 0] sz T (q_ps I m (g_mk q s.fl s.fa s.cd s.op s.on s.hp)) L P
            refine q_ifeq hF (by decide) dX8_one_15 (fun c15 => ?_) (fun c15 => ?_)
            · refine q_iinc hF (z' := 2) (ls' := [(3, qI 2), (0, .ref m), (1, qI 0), (2, qI 4)]) 0 rfl (by first | rfl | omega) (by decide) rfl dX8_one_22 ?_
              refine q_goto hF dX8_one_25 ?_
              refine q_iload_n hF 0 rfl rfl dX8_one_2 ?_
              refine q_iload_n hF 3 rfl rfl dX8_one_3 ?_
              refine q_icmpgt hF (by decide) (by decide) dX8_one_4 (fun c4 => ?_) (fun c4 => ?_)
              · exact absurd c4 (by decide)
              · refine q_aload_n hF 1 rfl rfl dX8_one_7 ?_
                refine q_iload_n hF 0 rfl rfl dX8_one_8 ?_
                refine q_callS (kc := 0) (ks := 0) (mc' := 0) (ms' := 0) (h' := 0) (st := [.ref m]) hF sl_RX8_172 rfl [qI 2] rfl rfl (by omega) (Nat.le_of_ble_eq_true rfl) dX8_one_9 ?_
                refine mX8_wordOf (k := 2) (by omega) ?_
                refine q_callV (kc := 0) (ks := 0) (mc' := 0) (ms' := 0) (h' := 5) (st := []) hF vl_RX8_103 rfl [.ref (q_KS G 29)] rfl rfl hS.t0 (by omega) (Nat.le_of_ble_eq_true rfl) dX8_one_12 ?_
                refine mX8_takesPQ (i := 29) hS hSA hB (by decide) (show q ≤ n by omega) hfl hqq (fun (c12_0_6 : ¬ (g_isW B n 29 q)) => ?_) (fun (c12_0_6 : g_isW B n 29 q) => ?_)
                · show qX G F Q 0 0 15 [(3, qI 2), (0, .ref m), (1, qI 0), (2, qI 4)] [qI 0] sz T (q_ps I m (g_mk q s.fl s.fa s.cd s.op s.on s.hp)) L P
                  refine q_ifeq hF (by decide) dX8_one_15 (fun c15 => ?_) (fun c15 => ?_)
                  · refine q_iinc hF (z' := 3) (ls' := [(3, qI 3), (0, .ref m), (1, qI 0), (2, qI 4)]) 0 rfl (by first | rfl | omega) (by decide) rfl dX8_one_22 ?_
                    refine q_goto hF dX8_one_25 ?_
                    refine q_iload_n hF 0 rfl rfl dX8_one_2 ?_
                    refine q_iload_n hF 3 rfl rfl dX8_one_3 ?_
                    refine q_icmpgt hF (by decide) (by decide) dX8_one_4 (fun c4 => ?_) (fun c4 => ?_)
                    · exact absurd c4 (by decide)
                    · refine q_aload_n hF 1 rfl rfl dX8_one_7 ?_
                      refine q_iload_n hF 0 rfl rfl dX8_one_8 ?_
                      refine q_callS (kc := 0) (ks := 0) (mc' := 0) (ms' := 0) (h' := 0) (st := [.ref m]) hF sl_RX8_172 rfl [qI 3] rfl rfl (by omega) (Nat.le_of_ble_eq_true rfl) dX8_one_9 ?_
                      refine mX8_wordOf (k := 3) (by omega) ?_
                      refine q_callV (kc := 0) (ks := 0) (mc' := 0) (ms' := 0) (h' := 5) (st := []) hF vl_RX8_103 rfl [.ref (q_KS G 30)] rfl rfl hS.t0 (by omega) (Nat.le_of_ble_eq_true rfl) dX8_one_12 ?_
                      refine mX8_takesPQ (i := 30) hS hSA hB (by decide) (show q ≤ n by omega) hfl hqq (fun (c12_0_8 : ¬ (g_isW B n 30 q)) => ?_) (fun (c12_0_8 : g_isW B n 30 q) => ?_)
                      · show qX G F Q 0 0 15 [(3, qI 3), (0, .ref m), (1, qI 0), (2, qI 4)] [qI 0] sz T (q_ps I m (g_mk q s.fl s.fa s.cd s.op s.on s.hp)) L P
                        refine q_ifeq hF (by decide) dX8_one_15 (fun c15 => ?_) (fun c15 => ?_)
                        · refine q_iinc hF (z' := 4) (ls' := [(3, qI 4), (0, .ref m), (1, qI 0), (2, qI 4)]) 0 rfl (by first | rfl | omega) (by decide) rfl dX8_one_22 ?_
                          refine q_goto hF dX8_one_25 ?_
                          refine q_iload_n hF 0 rfl rfl dX8_one_2 ?_
                          refine q_iload_n hF 3 rfl rfl dX8_one_3 ?_
                          refine q_icmpgt hF (by decide) (by decide) dX8_one_4 (fun c4 => ?_) (fun c4 => ?_)
                          · exact absurd c4 (by decide)
                          · refine q_aload_n hF 1 rfl rfl dX8_one_7 ?_
                            refine q_iload_n hF 0 rfl rfl dX8_one_8 ?_
                            refine q_callS (kc := 0) (ks := 0) (mc' := 0) (ms' := 0) (h' := 0) (st := [.ref m]) hF sl_RX8_172 rfl [qI 4] rfl rfl (by omega) (Nat.le_of_ble_eq_true rfl) dX8_one_9 ?_
                            refine mX8_wordOf (k := 4) (by omega) ?_
                            refine q_callV (kc := 0) (ks := 0) (mc' := 0) (ms' := 0) (h' := 5) (st := []) hF vl_RX8_103 rfl [.ref (q_KS G 31)] rfl rfl hS.t0 (by omega) (Nat.le_of_ble_eq_true rfl) dX8_one_12 ?_
                            refine mX8_takesPQ (i := 31) hS hSA hB (by decide) (show q ≤ n by omega) hfl hqq (fun (c12_0_10 : ¬ (g_isW B n 31 q)) => ?_) (fun (c12_0_10 : g_isW B n 31 q) => ?_)
                            · show qX G F Q 0 0 15 [(3, qI 4), (0, .ref m), (1, qI 0), (2, qI 4)] [qI 0] sz T (q_ps I m (g_mk q s.fl s.fa s.cd s.op s.on s.hp)) L P
                              refine q_ifeq hF (by decide) dX8_one_15 (fun c15 => ?_) (fun c15 => ?_)
                              · refine q_iinc hF (z' := 5) (ls' := [(3, qI 5), (0, .ref m), (1, qI 0), (2, qI 4)]) 0 rfl (by first | rfl | omega) (by decide) rfl dX8_one_22 ?_
                                refine q_goto hF dX8_one_25 ?_
                                refine q_iload_n hF 0 rfl rfl dX8_one_2 ?_
                                refine q_iload_n hF 3 rfl rfl dX8_one_3 ?_
                                refine q_icmpgt hF (by decide) (by decide) dX8_one_4 (fun c4 => ?_) (fun c4 => ?_)
                                · refine q_aload_n hF 1 rfl rfl dX8_one_28 ?_
                                  refine q_callV (kc := 0) (ks := 0) (mc' := 0) (ms' := 0) (h' := 0) (st := []) hF vl_RX8_95 rfl [] rfl rfl hS.t0 (by omega) (Nat.le_of_ble_eq_true rfl) dX8_one_29 ?_
                                  refine mX8_fineA hS hfl ?_
                                  refine q_ifeq hF (by decide) dX8_one_32 (fun c32 => ?_) (fun c32 => ?_)
                                  · exact absurd c32 (by decide)
                                  · refine q_aload_n hF 1 rfl rfl dX8_one_35 ?_
                                    refine q_iconst hF dX8_one_36 ?_
                                    refine q_aload_n hF 1 rfl rfl dX8_one_37 ?_
                                    refine q_getIv hF (z := (q : Int)) fl_RX8_65 hS.t0 q_ps_4 dX8_one_38 ?_
                                    refine q_callV (kc := 0) (ks := 0) (mc' := 0) (ms' := 0) (h' := 0) (st := []) hF vl_RX8_106 rfl [qI 1, qI (q : Int)] rfl rfl hS.t0 (by omega) (Nat.le_of_ble_eq_true rfl) dX8_one_41 ?_
                                    refine mX8_wrongA hS hSA hfl ?_
                                    show qX G F Q 0 0 44 [(3, qI 5), (0, .ref m), (1, qI 0), (2, qI 4)] [] sz T (q_ps I m (g_mk q 1 (q : Int) s.cd s.op s.on s.hp)) L P
                                    refine q_iconst hF dX8_one_44 ?_
                                    refine q_ireturn hF rfl dX8_one_45 ?_
                                    exact k5 c12_0_2 c12_0_4 c12_0_6 c12_0_8 c12_0_10
                                · exact absurd c4 (by decide)
                              · exact absurd c15 (by decide)
                            · show qX G F Q 0 0 15 [(3, qI 4), (0, .ref m), (1, qI 0), (2, qI 4)] [qI 1] sz T (q_ps I m (g_mk (g_len 31 + q) s.fl s.fa s.cd s.op s.on s.hp)) L P
                              refine q_ifeq hF (by decide) dX8_one_15 (fun c15 => ?_) (fun c15 => ?_)
                              · exact absurd c15 (by decide)
                              · refine q_iload_n hF 0 rfl rfl dX8_one_18 ?_
                                refine q_iload_n hF 2 rfl rfl dX8_one_19 ?_
                                refine q_isub hF dX8_one_20 ?_
                                refine q_ireturn hF rfl dX8_one_21 ?_
                                exact k4 c12_0_2 c12_0_4 c12_0_6 c12_0_8 c12_0_10
                        · exact absurd c15 (by decide)
                      · show qX G F Q 0 0 15 [(3, qI 3), (0, .ref m), (1, qI 0), (2, qI 4)] [qI 1] sz T (q_ps I m (g_mk (g_len 30 + q) s.fl s.fa s.cd s.op s.on s.hp)) L P
                        refine q_ifeq hF (by decide) dX8_one_15 (fun c15 => ?_) (fun c15 => ?_)
                        · exact absurd c15 (by decide)
                        · refine q_iload_n hF 0 rfl rfl dX8_one_18 ?_
                          refine q_iload_n hF 2 rfl rfl dX8_one_19 ?_
                          refine q_isub hF dX8_one_20 ?_
                          refine q_ireturn hF rfl dX8_one_21 ?_
                          exact k3 c12_0_2 c12_0_4 c12_0_6 c12_0_8
                  · exact absurd c15 (by decide)
                · show qX G F Q 0 0 15 [(3, qI 2), (0, .ref m), (1, qI 0), (2, qI 4)] [qI 1] sz T (q_ps I m (g_mk (g_len 29 + q) s.fl s.fa s.cd s.op s.on s.hp)) L P
                  refine q_ifeq hF (by decide) dX8_one_15 (fun c15 => ?_) (fun c15 => ?_)
                  · exact absurd c15 (by decide)
                  · refine q_iload_n hF 0 rfl rfl dX8_one_18 ?_
                    refine q_iload_n hF 2 rfl rfl dX8_one_19 ?_
                    refine q_isub hF dX8_one_20 ?_
                    refine q_ireturn hF rfl dX8_one_21 ?_
                    exact k2 c12_0_2 c12_0_4 c12_0_6
            · exact absurd c15 (by decide)
          · show qX G F Q 0 0 15 [(3, qI 1), (0, .ref m), (1, qI 0), (2, qI 4)] [qI 1] sz T (q_ps I m (g_mk (g_len 28 + q) s.fl s.fa s.cd s.op s.on s.hp)) L P
            refine q_ifeq hF (by decide) dX8_one_15 (fun c15 => ?_) (fun c15 => ?_)
            · exact absurd c15 (by decide)
            · refine q_iload_n hF 0 rfl rfl dX8_one_18 ?_
              refine q_iload_n hF 2 rfl rfl dX8_one_19 ?_
              refine q_isub hF dX8_one_20 ?_
              refine q_ireturn hF rfl dX8_one_21 ?_
              exact k1 c12_0_2 c12_0_4
      · exact absurd c15 (by decide)
    · show qX G F Q 0 0 15 [(3, qI 0), (0, .ref m), (1, qI 0), (2, qI 4)] [qI 1] sz T (q_ps I m (g_mk (g_len 27 + q) s.fl s.fa s.cd s.op s.on s.hp)) L P
      refine q_ifeq hF (by decide) dX8_one_15 (fun c15 => ?_) (fun c15 => ?_)
      · exact absurd c15 (by decide)
      · refine q_iload_n hF 0 rfl rfl dX8_one_18 ?_
        refine q_iload_n hF 2 rfl rfl dX8_one_19 ?_
        refine q_isub hF dX8_one_20 ?_
        refine q_ireturn hF rfl dX8_one_21 ?_
        exact k0 c12_0_2
set_option maxRecDepth 100000 in
theorem mX8_one00 {G : q_G} {sz : Nat} {T : q_T} {I L : q_I} {P : q_P} {Q : q_Q} {m : Nat}  {s : g_PS}   (hS : q_SM T P m) (hSA : q_A G m) (her : s.fl ≠ 0) (hrf : -2147483648 ≤ s.fl ∧ s.fl < 2147483648) (k0 : Q (.inl (some (qI (-1)))) sz T (q_ps I m s) L P) : qC G 6 0 0 YX8_one [.ref m, qI 0, qI 4] sz T (q_ps I m s) L P Q := by
  refine qC_of (by decide +kernel) rfl rfl (Nat.le_of_ble_eq_true rfl) (fun F hF _ _ => ?_)
  refine q_iload_n hF 1 rfl rfl dX8_one_0 ?_
  refine q_istore_n hF (ls' := [(3, qI 0), (0, .ref m), (1, qI 0), (2, qI 4)]) rfl (by decide) rfl dX8_one_1 ?_
  refine q_iload_n hF 0 rfl rfl dX8_one_2 ?_
  refine q_iload_n hF 3 rfl rfl dX8_one_3 ?_
  refine q_icmpgt hF (by decide) (by decide) dX8_one_4 (fun c4 => ?_) (fun c4 => ?_)
  · exact absurd c4 (by decide)
  · refine q_aload_n hF 1 rfl rfl dX8_one_7 ?_
    refine q_iload_n hF 0 rfl rfl dX8_one_8 ?_
    refine q_callS (kc := 0) (ks := 0) (mc' := 0) (ms' := 0) (h' := 0) (st := [.ref m]) hF sl_RX8_172 rfl [qI 0] rfl rfl (by omega) (Nat.le_of_ble_eq_true rfl) dX8_one_9 ?_
    refine mX8_wordOf (k := 0) (by omega) ?_
    refine q_callV (kc := 0) (ks := 0) (mc' := 0) (ms' := 0) (h' := 5) (st := []) hF vl_RX8_103 rfl [.ref (q_KS G 27)] rfl rfl hS.t0 (by omega) (Nat.le_of_ble_eq_true rfl) dX8_one_12 ?_
    refine mX8_takes0 (i := 27) hS hSA her (show -2147483648 ≤ s.fl ∧ s.fl < 2147483648 by first | decide | omega | assumption) ?_
    refine q_ifeq hF (by decide) dX8_one_15 (fun c15 => ?_) (fun c15 => ?_)
    · refine q_iinc hF (z' := 1) (ls' := [(3, qI 1), (0, .ref m), (1, qI 0), (2, qI 4)]) 0 rfl (by first | rfl | omega) (by decide) rfl dX8_one_22 ?_
      refine q_goto hF dX8_one_25 ?_
      refine q_iload_n hF 0 rfl rfl dX8_one_2 ?_
      refine q_iload_n hF 3 rfl rfl dX8_one_3 ?_
      refine q_icmpgt hF (by decide) (by decide) dX8_one_4 (fun c4 => ?_) (fun c4 => ?_)
      · exact absurd c4 (by decide)
      · refine q_aload_n hF 1 rfl rfl dX8_one_7 ?_
        refine q_iload_n hF 0 rfl rfl dX8_one_8 ?_
        refine q_callS (kc := 0) (ks := 0) (mc' := 0) (ms' := 0) (h' := 0) (st := [.ref m]) hF sl_RX8_172 rfl [qI 1] rfl rfl (by omega) (Nat.le_of_ble_eq_true rfl) dX8_one_9 ?_
        refine mX8_wordOf (k := 1) (by omega) ?_
        refine q_callV (kc := 0) (ks := 0) (mc' := 0) (ms' := 0) (h' := 5) (st := []) hF vl_RX8_103 rfl [.ref (q_KS G 28)] rfl rfl hS.t0 (by omega) (Nat.le_of_ble_eq_true rfl) dX8_one_12 ?_
        refine mX8_takes0 (i := 28) hS hSA her (show -2147483648 ≤ s.fl ∧ s.fl < 2147483648 by first | decide | omega | assumption) ?_
        refine q_ifeq hF (by decide) dX8_one_15 (fun c15 => ?_) (fun c15 => ?_)
        · refine q_iinc hF (z' := 2) (ls' := [(3, qI 2), (0, .ref m), (1, qI 0), (2, qI 4)]) 0 rfl (by first | rfl | omega) (by decide) rfl dX8_one_22 ?_
          refine q_goto hF dX8_one_25 ?_
          refine q_iload_n hF 0 rfl rfl dX8_one_2 ?_
          refine q_iload_n hF 3 rfl rfl dX8_one_3 ?_
          refine q_icmpgt hF (by decide) (by decide) dX8_one_4 (fun c4 => ?_) (fun c4 => ?_)
          · exact absurd c4 (by decide)
          · refine q_aload_n hF 1 rfl rfl dX8_one_7 ?_
            refine q_iload_n hF 0 rfl rfl dX8_one_8 ?_
            refine q_callS (kc := 0) (ks := 0) (mc' := 0) (ms' := 0) (h' := 0) (st := [.ref m]) hF sl_RX8_172 rfl [qI 2] rfl rfl (by omega) (Nat.le_of_ble_eq_true rfl) dX8_one_9 ?_
            refine mX8_wordOf (k := 2) (by omega) ?_
            refine q_callV (kc := 0) (ks := 0) (mc' := 0) (ms' := 0) (h' := 5) (st := []) hF vl_RX8_103 rfl [.ref (q_KS G 29)] rfl rfl hS.t0 (by omega) (Nat.le_of_ble_eq_true rfl) dX8_one_12 ?_
            refine mX8_takes0 (i := 29) hS hSA her (show -2147483648 ≤ s.fl ∧ s.fl < 2147483648 by first | decide | omega | assumption) ?_
            refine q_ifeq hF (by decide) dX8_one_15 (fun c15 => ?_) (fun c15 => ?_)
            · refine q_iinc hF (z' := 3) (ls' := [(3, qI 3), (0, .ref m), (1, qI 0), (2, qI 4)]) 0 rfl (by first | rfl | omega) (by decide) rfl dX8_one_22 ?_
              refine q_goto hF dX8_one_25 ?_
              refine q_iload_n hF 0 rfl rfl dX8_one_2 ?_
              refine q_iload_n hF 3 rfl rfl dX8_one_3 ?_
              refine q_icmpgt hF (by decide) (by decide) dX8_one_4 (fun c4 => ?_) (fun c4 => ?_)
              · exact absurd c4 (by decide)
              · refine q_aload_n hF 1 rfl rfl dX8_one_7 ?_
                refine q_iload_n hF 0 rfl rfl dX8_one_8 ?_
                refine q_callS (kc := 0) (ks := 0) (mc' := 0) (ms' := 0) (h' := 0) (st := [.ref m]) hF sl_RX8_172 rfl [qI 3] rfl rfl (by omega) (Nat.le_of_ble_eq_true rfl) dX8_one_9 ?_
                refine mX8_wordOf (k := 3) (by omega) ?_
                refine q_callV (kc := 0) (ks := 0) (mc' := 0) (ms' := 0) (h' := 5) (st := []) hF vl_RX8_103 rfl [.ref (q_KS G 30)] rfl rfl hS.t0 (by omega) (Nat.le_of_ble_eq_true rfl) dX8_one_12 ?_
                refine mX8_takes0 (i := 30) hS hSA her (show -2147483648 ≤ s.fl ∧ s.fl < 2147483648 by first | decide | omega | assumption) ?_
                refine q_ifeq hF (by decide) dX8_one_15 (fun c15 => ?_) (fun c15 => ?_)
                · refine q_iinc hF (z' := 4) (ls' := [(3, qI 4), (0, .ref m), (1, qI 0), (2, qI 4)]) 0 rfl (by first | rfl | omega) (by decide) rfl dX8_one_22 ?_
                  refine q_goto hF dX8_one_25 ?_
                  refine q_iload_n hF 0 rfl rfl dX8_one_2 ?_
                  refine q_iload_n hF 3 rfl rfl dX8_one_3 ?_
                  refine q_icmpgt hF (by decide) (by decide) dX8_one_4 (fun c4 => ?_) (fun c4 => ?_)
                  · exact absurd c4 (by decide)
                  · refine q_aload_n hF 1 rfl rfl dX8_one_7 ?_
                    refine q_iload_n hF 0 rfl rfl dX8_one_8 ?_
                    refine q_callS (kc := 0) (ks := 0) (mc' := 0) (ms' := 0) (h' := 0) (st := [.ref m]) hF sl_RX8_172 rfl [qI 4] rfl rfl (by omega) (Nat.le_of_ble_eq_true rfl) dX8_one_9 ?_
                    refine mX8_wordOf (k := 4) (by omega) ?_
                    refine q_callV (kc := 0) (ks := 0) (mc' := 0) (ms' := 0) (h' := 5) (st := []) hF vl_RX8_103 rfl [.ref (q_KS G 31)] rfl rfl hS.t0 (by omega) (Nat.le_of_ble_eq_true rfl) dX8_one_12 ?_
                    refine mX8_takes0 (i := 31) hS hSA her (show -2147483648 ≤ s.fl ∧ s.fl < 2147483648 by first | decide | omega | assumption) ?_
                    refine q_ifeq hF (by decide) dX8_one_15 (fun c15 => ?_) (fun c15 => ?_)
                    · refine q_iinc hF (z' := 5) (ls' := [(3, qI 5), (0, .ref m), (1, qI 0), (2, qI 4)]) 0 rfl (by first | rfl | omega) (by decide) rfl dX8_one_22 ?_
                      refine q_goto hF dX8_one_25 ?_
                      refine q_iload_n hF 0 rfl rfl dX8_one_2 ?_
                      refine q_iload_n hF 3 rfl rfl dX8_one_3 ?_
                      refine q_icmpgt hF (by decide) (by decide) dX8_one_4 (fun c4 => ?_) (fun c4 => ?_)
                      · refine q_aload_n hF 1 rfl rfl dX8_one_28 ?_
                        refine q_callV (kc := 0) (ks := 0) (mc' := 0) (ms' := 0) (h' := 0) (st := []) hF vl_RX8_95 rfl [] rfl rfl hS.t0 (by omega) (Nat.le_of_ble_eq_true rfl) dX8_one_29 ?_
                        refine mX8_fine0 hS her (show -2147483648 ≤ s.fl ∧ s.fl < 2147483648 by first | decide | omega | assumption) ?_
                        refine q_ifeq hF (by decide) dX8_one_32 (fun c32 => ?_) (fun c32 => ?_)
                        · refine q_iconst hF dX8_one_44 ?_
                          refine q_ireturn hF rfl dX8_one_45 ?_
                          exact k0
                        · exact absurd c32 (by decide)
                      · exact absurd c4 (by decide)
                    · exact absurd c15 (by decide)
                · exact absurd c15 (by decide)
            · exact absurd c15 (by decide)
        · exact absurd c15 (by decide)
    · exact absurd c15 (by decide)
set_option maxRecDepth 100000 in
theorem mX8_one5 {G : q_G} {sz : Nat} {T : q_T} {I L : q_I} {P : q_P} {Q : q_Q} {m : Nat} {q : Nat} {s : g_PS} {B : Nat → Int} {n : Nat}  (hS : q_SM T P m) (hSA : q_A G m) (hB : q_BT I m B n) (hp : s.p ≤ n) (hfl : s.fl = 0) (hsk : g_sk B n s.p = q) (k0 : g_isW B n 32 q → Q (.inl (some (qI 0))) sz T (q_ps I m (g_mk (g_len 32 + q) s.fl s.fa s.cd s.op s.on s.hp)) L P) (k1 : ¬ (g_isW B n 32 q) → g_isW B n 33 q → Q (.inl (some (qI 1))) sz T (q_ps I m (g_mk (g_len 33 + q) s.fl s.fa s.cd s.op s.on s.hp)) L P) (k2 : ¬ (g_isW B n 32 q) → ¬ (g_isW B n 33 q) → g_isW B n 34 q → Q (.inl (some (qI 2))) sz T (q_ps I m (g_mk (g_len 34 + q) s.fl s.fa s.cd s.op s.on s.hp)) L P) (k3 : ¬ (g_isW B n 32 q) → ¬ (g_isW B n 33 q) → ¬ (g_isW B n 34 q) → Q (.inl (some (qI (-1)))) sz T (q_ps I m (g_mk q 1 (q : Int) s.cd s.op s.on s.hp)) L P) : qC G 6 0 0 YX8_one [.ref m, qI 5, qI 7] sz T (q_ps I m s) L P Q := by
  refine qC_of (by decide +kernel) rfl rfl (Nat.le_of_ble_eq_true rfl) (fun F hF _ _ => ?_)
  have hn6 := hB.2.1
  have hq := g_sk_r (B := B) hp
  rw [hsk] at hq
  have hqq : g_sk B n q = q := by rw [← hsk]; exact g_sk_sk hp
  refine q_iload_n hF 1 rfl rfl dX8_one_0 ?_
  refine q_istore_n hF (ls' := [(3, qI 5), (0, .ref m), (1, qI 5), (2, qI 7)]) rfl (by decide) rfl dX8_one_1 ?_
  refine q_iload_n hF 0 rfl rfl dX8_one_2 ?_
  refine q_iload_n hF 3 rfl rfl dX8_one_3 ?_
  refine q_icmpgt hF (by decide) (by decide) dX8_one_4 (fun c4 => ?_) (fun c4 => ?_)
  · exact absurd c4 (by decide)
  · refine q_aload_n hF 1 rfl rfl dX8_one_7 ?_
    refine q_iload_n hF 0 rfl rfl dX8_one_8 ?_
    refine q_callS (kc := 0) (ks := 0) (mc' := 0) (ms' := 0) (h' := 0) (st := [.ref m]) hF sl_RX8_172 rfl [qI 5] rfl rfl (by omega) (Nat.le_of_ble_eq_true rfl) dX8_one_9 ?_
    refine mX8_wordOf (k := 5) (by omega) ?_
    refine q_callV (kc := 0) (ks := 0) (mc' := 0) (ms' := 0) (h' := 5) (st := []) hF vl_RX8_103 rfl [.ref (q_KS G 32)] rfl rfl hS.t0 (by omega) (Nat.le_of_ble_eq_true rfl) dX8_one_12 ?_
    refine mX8_takesPQ (i := 32) hS hSA hB (by decide) (show s.p ≤ n by omega) hfl hsk (fun (c12_0_2 : ¬ (g_isW B n 32 q)) => ?_) (fun (c12_0_2 : g_isW B n 32 q) => ?_)
    · show qX G F Q 0 0 15 [(3, qI 5), (0, .ref m), (1, qI 5), (2, qI 7)] [qI 0] sz T (q_ps I m (g_mk q s.fl s.fa s.cd s.op s.on s.hp)) L P
      refine q_ifeq hF (by decide) dX8_one_15 (fun c15 => ?_) (fun c15 => ?_)
      · refine q_iinc hF (z' := 6) (ls' := [(3, qI 6), (0, .ref m), (1, qI 5), (2, qI 7)]) 0 rfl (by first | rfl | omega) (by decide) rfl dX8_one_22 ?_
        refine q_goto hF dX8_one_25 ?_
        refine q_iload_n hF 0 rfl rfl dX8_one_2 ?_
        refine q_iload_n hF 3 rfl rfl dX8_one_3 ?_
        refine q_icmpgt hF (by decide) (by decide) dX8_one_4 (fun c4 => ?_) (fun c4 => ?_)
        · exact absurd c4 (by decide)
        · refine q_aload_n hF 1 rfl rfl dX8_one_7 ?_
          refine q_iload_n hF 0 rfl rfl dX8_one_8 ?_
          refine q_callS (kc := 0) (ks := 0) (mc' := 0) (ms' := 0) (h' := 0) (st := [.ref m]) hF sl_RX8_172 rfl [qI 6] rfl rfl (by omega) (Nat.le_of_ble_eq_true rfl) dX8_one_9 ?_
          refine mX8_wordOf (k := 6) (by omega) ?_
          refine q_callV (kc := 0) (ks := 0) (mc' := 0) (ms' := 0) (h' := 5) (st := []) hF vl_RX8_103 rfl [.ref (q_KS G 33)] rfl rfl hS.t0 (by omega) (Nat.le_of_ble_eq_true rfl) dX8_one_12 ?_
          refine mX8_takesPQ (i := 33) hS hSA hB (by decide) (show q ≤ n by omega) hfl hqq (fun (c12_0_4 : ¬ (g_isW B n 33 q)) => ?_) (fun (c12_0_4 : g_isW B n 33 q) => ?_)
          · show qX G F Q 0 0 15 [(3, qI 6), (0, .ref m), (1, qI 5), (2, qI 7)] [qI 0] sz T (q_ps I m (g_mk q s.fl s.fa s.cd s.op s.on s.hp)) L P
            refine q_ifeq hF (by decide) dX8_one_15 (fun c15 => ?_) (fun c15 => ?_)
            · refine q_iinc hF (z' := 7) (ls' := [(3, qI 7), (0, .ref m), (1, qI 5), (2, qI 7)]) 0 rfl (by first | rfl | omega) (by decide) rfl dX8_one_22 ?_
              refine q_goto hF dX8_one_25 ?_
              refine q_iload_n hF 0 rfl rfl dX8_one_2 ?_
              refine q_iload_n hF 3 rfl rfl dX8_one_3 ?_
              refine q_icmpgt hF (by decide) (by decide) dX8_one_4 (fun c4 => ?_) (fun c4 => ?_)
              · exact absurd c4 (by decide)
              · refine q_aload_n hF 1 rfl rfl dX8_one_7 ?_
                refine q_iload_n hF 0 rfl rfl dX8_one_8 ?_
                refine q_callS (kc := 0) (ks := 0) (mc' := 0) (ms' := 0) (h' := 0) (st := [.ref m]) hF sl_RX8_172 rfl [qI 7] rfl rfl (by omega) (Nat.le_of_ble_eq_true rfl) dX8_one_9 ?_
                refine mX8_wordOf (k := 7) (by omega) ?_
                refine q_callV (kc := 0) (ks := 0) (mc' := 0) (ms' := 0) (h' := 5) (st := []) hF vl_RX8_103 rfl [.ref (q_KS G 34)] rfl rfl hS.t0 (by omega) (Nat.le_of_ble_eq_true rfl) dX8_one_12 ?_
                refine mX8_takesPQ (i := 34) hS hSA hB (by decide) (show q ≤ n by omega) hfl hqq (fun (c12_0_6 : ¬ (g_isW B n 34 q)) => ?_) (fun (c12_0_6 : g_isW B n 34 q) => ?_)
                · show qX G F Q 0 0 15 [(3, qI 7), (0, .ref m), (1, qI 5), (2, qI 7)] [qI 0] sz T (q_ps I m (g_mk q s.fl s.fa s.cd s.op s.on s.hp)) L P
                  refine q_ifeq hF (by decide) dX8_one_15 (fun c15 => ?_) (fun c15 => ?_)
                  · refine q_iinc hF (z' := 8) (ls' := [(3, qI 8), (0, .ref m), (1, qI 5), (2, qI 7)]) 0 rfl (by first | rfl | omega) (by decide) rfl dX8_one_22 ?_
                    refine q_goto hF dX8_one_25 ?_
                    refine q_iload_n hF 0 rfl rfl dX8_one_2 ?_
                    refine q_iload_n hF 3 rfl rfl dX8_one_3 ?_
                    refine q_icmpgt hF (by decide) (by decide) dX8_one_4 (fun c4 => ?_) (fun c4 => ?_)
                    · refine q_aload_n hF 1 rfl rfl dX8_one_28 ?_
                      refine q_callV (kc := 0) (ks := 0) (mc' := 0) (ms' := 0) (h' := 0) (st := []) hF vl_RX8_95 rfl [] rfl rfl hS.t0 (by omega) (Nat.le_of_ble_eq_true rfl) dX8_one_29 ?_
                      refine mX8_fineA hS hfl ?_
                      refine q_ifeq hF (by decide) dX8_one_32 (fun c32 => ?_) (fun c32 => ?_)
                      · exact absurd c32 (by decide)
                      · refine q_aload_n hF 1 rfl rfl dX8_one_35 ?_
                        refine q_iconst hF dX8_one_36 ?_
                        refine q_aload_n hF 1 rfl rfl dX8_one_37 ?_
                        refine q_getIv hF (z := (q : Int)) fl_RX8_65 hS.t0 q_ps_4 dX8_one_38 ?_
                        refine q_callV (kc := 0) (ks := 0) (mc' := 0) (ms' := 0) (h' := 0) (st := []) hF vl_RX8_106 rfl [qI 1, qI (q : Int)] rfl rfl hS.t0 (by omega) (Nat.le_of_ble_eq_true rfl) dX8_one_41 ?_
                        refine mX8_wrongA hS hSA hfl ?_
                        show qX G F Q 0 0 44 [(3, qI 8), (0, .ref m), (1, qI 5), (2, qI 7)] [] sz T (q_ps I m (g_mk q 1 (q : Int) s.cd s.op s.on s.hp)) L P
                        refine q_iconst hF dX8_one_44 ?_
                        refine q_ireturn hF rfl dX8_one_45 ?_
                        exact k3 c12_0_2 c12_0_4 c12_0_6
                    · exact absurd c4 (by decide)
                  · exact absurd c15 (by decide)
                · show qX G F Q 0 0 15 [(3, qI 7), (0, .ref m), (1, qI 5), (2, qI 7)] [qI 1] sz T (q_ps I m (g_mk (g_len 34 + q) s.fl s.fa s.cd s.op s.on s.hp)) L P
                  refine q_ifeq hF (by decide) dX8_one_15 (fun c15 => ?_) (fun c15 => ?_)
                  · exact absurd c15 (by decide)
                  · refine q_iload_n hF 0 rfl rfl dX8_one_18 ?_
                    refine q_iload_n hF 2 rfl rfl dX8_one_19 ?_
                    refine q_isub hF dX8_one_20 ?_
                    refine q_ireturn hF rfl dX8_one_21 ?_
                    exact k2 c12_0_2 c12_0_4 c12_0_6
            · exact absurd c15 (by decide)
          · show qX G F Q 0 0 15 [(3, qI 6), (0, .ref m), (1, qI 5), (2, qI 7)] [qI 1] sz T (q_ps I m (g_mk (g_len 33 + q) s.fl s.fa s.cd s.op s.on s.hp)) L P
            refine q_ifeq hF (by decide) dX8_one_15 (fun c15 => ?_) (fun c15 => ?_)
            · exact absurd c15 (by decide)
            · refine q_iload_n hF 0 rfl rfl dX8_one_18 ?_
              refine q_iload_n hF 2 rfl rfl dX8_one_19 ?_
              refine q_isub hF dX8_one_20 ?_
              refine q_ireturn hF rfl dX8_one_21 ?_
              exact k1 c12_0_2 c12_0_4
      · exact absurd c15 (by decide)
    · show qX G F Q 0 0 15 [(3, qI 5), (0, .ref m), (1, qI 5), (2, qI 7)] [qI 1] sz T (q_ps I m (g_mk (g_len 32 + q) s.fl s.fa s.cd s.op s.on s.hp)) L P
      refine q_ifeq hF (by decide) dX8_one_15 (fun c15 => ?_) (fun c15 => ?_)
      · exact absurd c15 (by decide)
      · refine q_iload_n hF 0 rfl rfl dX8_one_18 ?_
        refine q_iload_n hF 2 rfl rfl dX8_one_19 ?_
        refine q_isub hF dX8_one_20 ?_
        refine q_ireturn hF rfl dX8_one_21 ?_
        exact k0 c12_0_2
set_option maxRecDepth 100000 in
theorem mX8_one50 {G : q_G} {sz : Nat} {T : q_T} {I L : q_I} {P : q_P} {Q : q_Q} {m : Nat}  {s : g_PS}   (hS : q_SM T P m) (hSA : q_A G m) (her : s.fl ≠ 0) (hrf : -2147483648 ≤ s.fl ∧ s.fl < 2147483648) (k0 : Q (.inl (some (qI (-1)))) sz T (q_ps I m s) L P) : qC G 6 0 0 YX8_one [.ref m, qI 5, qI 7] sz T (q_ps I m s) L P Q := by
  refine qC_of (by decide +kernel) rfl rfl (Nat.le_of_ble_eq_true rfl) (fun F hF _ _ => ?_)
  refine q_iload_n hF 1 rfl rfl dX8_one_0 ?_
  refine q_istore_n hF (ls' := [(3, qI 5), (0, .ref m), (1, qI 5), (2, qI 7)]) rfl (by decide) rfl dX8_one_1 ?_
  refine q_iload_n hF 0 rfl rfl dX8_one_2 ?_
  refine q_iload_n hF 3 rfl rfl dX8_one_3 ?_
  refine q_icmpgt hF (by decide) (by decide) dX8_one_4 (fun c4 => ?_) (fun c4 => ?_)
  · exact absurd c4 (by decide)
  · refine q_aload_n hF 1 rfl rfl dX8_one_7 ?_
    refine q_iload_n hF 0 rfl rfl dX8_one_8 ?_
    refine q_callS (kc := 0) (ks := 0) (mc' := 0) (ms' := 0) (h' := 0) (st := [.ref m]) hF sl_RX8_172 rfl [qI 5] rfl rfl (by omega) (Nat.le_of_ble_eq_true rfl) dX8_one_9 ?_
    refine mX8_wordOf (k := 5) (by omega) ?_
    refine q_callV (kc := 0) (ks := 0) (mc' := 0) (ms' := 0) (h' := 5) (st := []) hF vl_RX8_103 rfl [.ref (q_KS G 32)] rfl rfl hS.t0 (by omega) (Nat.le_of_ble_eq_true rfl) dX8_one_12 ?_
    refine mX8_takes0 (i := 32) hS hSA her (show -2147483648 ≤ s.fl ∧ s.fl < 2147483648 by first | decide | omega | assumption) ?_
    refine q_ifeq hF (by decide) dX8_one_15 (fun c15 => ?_) (fun c15 => ?_)
    · refine q_iinc hF (z' := 6) (ls' := [(3, qI 6), (0, .ref m), (1, qI 5), (2, qI 7)]) 0 rfl (by first | rfl | omega) (by decide) rfl dX8_one_22 ?_
      refine q_goto hF dX8_one_25 ?_
      refine q_iload_n hF 0 rfl rfl dX8_one_2 ?_
      refine q_iload_n hF 3 rfl rfl dX8_one_3 ?_
      refine q_icmpgt hF (by decide) (by decide) dX8_one_4 (fun c4 => ?_) (fun c4 => ?_)
      · exact absurd c4 (by decide)
      · refine q_aload_n hF 1 rfl rfl dX8_one_7 ?_
        refine q_iload_n hF 0 rfl rfl dX8_one_8 ?_
        refine q_callS (kc := 0) (ks := 0) (mc' := 0) (ms' := 0) (h' := 0) (st := [.ref m]) hF sl_RX8_172 rfl [qI 6] rfl rfl (by omega) (Nat.le_of_ble_eq_true rfl) dX8_one_9 ?_
        refine mX8_wordOf (k := 6) (by omega) ?_
        refine q_callV (kc := 0) (ks := 0) (mc' := 0) (ms' := 0) (h' := 5) (st := []) hF vl_RX8_103 rfl [.ref (q_KS G 33)] rfl rfl hS.t0 (by omega) (Nat.le_of_ble_eq_true rfl) dX8_one_12 ?_
        refine mX8_takes0 (i := 33) hS hSA her (show -2147483648 ≤ s.fl ∧ s.fl < 2147483648 by first | decide | omega | assumption) ?_
        refine q_ifeq hF (by decide) dX8_one_15 (fun c15 => ?_) (fun c15 => ?_)
        · refine q_iinc hF (z' := 7) (ls' := [(3, qI 7), (0, .ref m), (1, qI 5), (2, qI 7)]) 0 rfl (by first | rfl | omega) (by decide) rfl dX8_one_22 ?_
          refine q_goto hF dX8_one_25 ?_
          refine q_iload_n hF 0 rfl rfl dX8_one_2 ?_
          refine q_iload_n hF 3 rfl rfl dX8_one_3 ?_
          refine q_icmpgt hF (by decide) (by decide) dX8_one_4 (fun c4 => ?_) (fun c4 => ?_)
          · exact absurd c4 (by decide)
          · refine q_aload_n hF 1 rfl rfl dX8_one_7 ?_
            refine q_iload_n hF 0 rfl rfl dX8_one_8 ?_
            refine q_callS (kc := 0) (ks := 0) (mc' := 0) (ms' := 0) (h' := 0) (st := [.ref m]) hF sl_RX8_172 rfl [qI 7] rfl rfl (by omega) (Nat.le_of_ble_eq_true rfl) dX8_one_9 ?_
            refine mX8_wordOf (k := 7) (by omega) ?_
            refine q_callV (kc := 0) (ks := 0) (mc' := 0) (ms' := 0) (h' := 5) (st := []) hF vl_RX8_103 rfl [.ref (q_KS G 34)] rfl rfl hS.t0 (by omega) (Nat.le_of_ble_eq_true rfl) dX8_one_12 ?_
            refine mX8_takes0 (i := 34) hS hSA her (show -2147483648 ≤ s.fl ∧ s.fl < 2147483648 by first | decide | omega | assumption) ?_
            refine q_ifeq hF (by decide) dX8_one_15 (fun c15 => ?_) (fun c15 => ?_)
            · refine q_iinc hF (z' := 8) (ls' := [(3, qI 8), (0, .ref m), (1, qI 5), (2, qI 7)]) 0 rfl (by first | rfl | omega) (by decide) rfl dX8_one_22 ?_
              refine q_goto hF dX8_one_25 ?_
              refine q_iload_n hF 0 rfl rfl dX8_one_2 ?_
              refine q_iload_n hF 3 rfl rfl dX8_one_3 ?_
              refine q_icmpgt hF (by decide) (by decide) dX8_one_4 (fun c4 => ?_) (fun c4 => ?_)
              · refine q_aload_n hF 1 rfl rfl dX8_one_28 ?_
                refine q_callV (kc := 0) (ks := 0) (mc' := 0) (ms' := 0) (h' := 0) (st := []) hF vl_RX8_95 rfl [] rfl rfl hS.t0 (by omega) (Nat.le_of_ble_eq_true rfl) dX8_one_29 ?_
                refine mX8_fine0 hS her (show -2147483648 ≤ s.fl ∧ s.fl < 2147483648 by first | decide | omega | assumption) ?_
                refine q_ifeq hF (by decide) dX8_one_32 (fun c32 => ?_) (fun c32 => ?_)
                · refine q_iconst hF dX8_one_44 ?_
                  refine q_ireturn hF rfl dX8_one_45 ?_
                  exact k0
                · exact absurd c32 (by decide)
              · exact absurd c4 (by decide)
            · exact absurd c15 (by decide)
        · exact absurd c15 (by decide)
    · exact absurd c15 (by decide)
set_option maxRecDepth 100000 in
theorem lX8_name {G : q_G} {F : q_F} {h : Nat} {Q : q_Q} {kc ks sz : Nat} {T : q_T} {m n : Nat} {B : Nat → Int} {s : g_PS} {I L : q_I} {P : q_P} {q : Nat} (h1 : 1 ≤ h) (hq : q ≤ n) (hF : q_ok G F YX8_name h) (hS : q_SM T P m) (hSA : q_A G m) (hB : q_BT I m B n) (k0 : qX G F Q kc ks 38 [(1, qI ((g_nl B n q : Nat) : Int)), (0, .ref m)] [] sz T (q_ps I m (g_mk q s.fl s.fa s.cd s.op s.on s.hp)) L P) : ∀ (w : Nat) (v : Nat), n - (q + v) < w → (q + v ≤ n) → (g_ne B n (q + v) = g_ne B n q) → qX G F Q kc ks 16 [(1, qI (v : Int)), (0, .ref m)] [] sz T (q_ps I m (g_mk q s.fl s.fa s.cd s.op s.on s.hp)) L P := by
  intro w
  induction w with
  | zero => intro v hn; exact absurd hn (Nat.not_lt_zero _)
  | succ w ih =>
    intro v hn ha hE
    have hn6 := hB.2.1
    refine q_aload_n hF 1 rfl rfl dX8_name_16 ?_
    refine q_aload_n hF 1 rfl rfl dX8_name_17 ?_
    refine q_getIv hF (z := (q : Int)) fl_RX8_65 hS.t0 q_ps_4 dX8_name_18 ?_
    refine q_iload_n hF 0 rfl rfl dX8_name_21 ?_
    refine q_iadd hF dX8_name_22 ?_
    refine q_callV (kc := kc) (ks := ks) (mc' := 0) (ms' := 0) (h' := 0) (st := []) hF vl_RX8_68 rfl [qI ((q : Int) + (v : Int))] rfl rfl hS.t0 (by omega) (Nat.le_of_ble_eq_true rfl) dX8_name_23 ?_
    refine mX8_byteAtB (B := B) (n := n) (k := q + v) hS (hB.ps _) (by omega) ?_
    refine q_callS (kc := kc) (ks := ks) (mc' := 0) (ms' := 0) (h' := 0) (st := []) hF sl_RX8_91 rfl [qI (g_bt B n (q + v))] rfl rfl (by omega) (Nat.le_of_ble_eq_true rfl) dX8_name_26 ?_
    refine mX8_isSmall (g_bt_32 hB _) ?_
    refine q_ifeq_b hF dX8_name_29 (fun c29 => ?_) (fun c29 => ?_)
    · have c9 : ¬ g_sm (g_bt B n (q + v)) := c29
      rw [g_ne_e c9] at hE
      obtain rfl : v = g_nl B n q := by unfold g_nl; omega
      exact k0
    · refine q_iinc hF (z' := ((1 + v : Nat) : Int)) (ls' := [(1, qI ((1 + v : Nat) : Int)), (0, .ref m)]) 0 rfl (by first | rfl | omega) (by decide) rfl dX8_name_32 ?_
      refine q_goto hF dX8_name_35 ?_
      have c9 : g_sm (g_bt B n (q + v)) := c29
      have han := g_bt_in (B := B) (n := n) (k := q + v) (by have := c9.1; omega)
      exact ih (1 + v) (by omega) (by omega) (by rw [← hE, g_ne_s c9]; congr 1; omega)
set_option maxRecDepth 100000 in
theorem lX8_nameK {G : q_G} {F : q_F} {h : Nat} {Q : q_Q} {kc ks sz : Nat} {T : q_T} {m n q : Nat} {c : Int} {B : Nat → Int} {s : g_PS} {I L : q_I} {P : q_P} (hF : q_ok G F YX8_name h) (h5 : 5 ≤ h) (hS : q_SM T P m) (hSA : q_A G m) (hB : q_BT I m B n) (hq : q ≤ n) (hqq : g_sk B n q = q) (kx1 : (∀ k, k < 23 → ¬ g_isW B n (g_wi k) q) → qX G F Q kc ks 89 [(2, qI 1), (0, .ref m), (1, qI c)] [] sz T (q_ps I m (g_mk q s.fl s.fa s.cd s.op s.on s.hp)) L P) (kx0 : ∀ k, k < 23 → g_isW B n (g_wi k) q → qX G F Q kc ks 89 [(2, qI 0), (0, .ref m), (1, qI c)] [] sz T (q_ps I m (g_mk q s.fl s.fa s.cd s.op s.on s.hp)) L P) : ∀ (w k : Nat), 23 - k < w → k ≤ 23 → (∀ j, j < k → ¬ g_isW B n (g_wi j) q) → qX G F Q kc ks 56 [(3, qI (k : Int)), (2, qI 1), (0, .ref m), (1, qI c)] [] sz T (q_ps I m (g_mk q s.fl s.fa s.cd s.op s.on s.hp)) L P := by
  intro w
  induction w with
  | zero => intro k hn; exact absurd hn (Nat.not_lt_zero _)
  | succ w ih =>
    intro k hn hk hall
    have hn6 := hB.2.1
    refine q_iload_n hF 0 rfl rfl dX8_name_56 ?_
    refine q_bipush hF (n := 23) rfl dX8_name_57 ?_
    refine q_icmpge hF (by omega) (by decide) dX8_name_59 (fun c59 => ?_) (fun c59 => ?_)
    · refine q_sub [1, 2, 3] rfl ?_
      exact kx1 (fun j hj => hall j (by omega))
    · refine q_iload_n hF 1 rfl rfl dX8_name_62 ?_
      refine q_ifeq hF (by decide) dX8_name_63 (fun c63 => ?_) (fun c63 => ?_)
      · exact absurd c63 (by decide)
      · refine q_aload_n hF 2 rfl rfl dX8_name_66 ?_
        refine q_iload_n hF 0 rfl rfl dX8_name_67 ?_
        refine q_callS (kc := kc) (ks := ks) (mc' := 0) (ms' := 0) (h' := 0) (st := [.ref m]) hF sl_RX8_172 rfl [qI (k : Int)] rfl rfl (by omega) (Nat.le_of_ble_eq_true rfl) dX8_name_68 ?_
        refine mX8_wordOf (k := k) (by omega) ?_
        refine q_callV (kc := kc) (ks := ks) (mc' := 0) (ms' := 0) (h' := 4) (st := []) hF vl_RX8_99 rfl [.ref (q_KS G (g_wi k))] rfl rfl hS.t0 (by omega) (Nat.le_of_ble_eq_true rfl) dX8_name_71 ?_
        refine mX8_isWordPQ (i := (g_wi k)) hS hSA hB (g_wi_r _) (show q ≤ n by omega) hqq ?_
        show qX G F Q kc ks 74 [(3, qI (k : Int)), (2, qI 1), (0, .ref m), (1, qI c)] [qI (q_b (g_isW B n (g_wi k) q))] sz T (q_ps I m (g_mk q s.fl s.fa s.cd s.op s.on s.hp)) L P
        refine q_ifne_b hF dX8_name_74 (fun c74 => ?_) (fun c74 => ?_)
        · refine q_iconst hF dX8_name_81 ?_
          refine q_istore_n hF (ls' := [(2, qI 0), (3, qI (k : Int)), (0, .ref m), (1, qI c)]) rfl (by decide) rfl dX8_name_82 ?_
          refine q_iinc hF (z' := ((1 + k : Nat) : Int)) (ls' := [(3, qI ((1 + k : Nat) : Int)), (2, qI 0), (0, .ref m), (1, qI c)]) 1 rfl (by first | rfl | omega) (by decide) rfl dX8_name_83 ?_
          refine q_goto hF dX8_name_86 ?_
          refine q_iload_n hF 0 rfl rfl dX8_name_56 ?_
          refine q_bipush hF (n := 23) rfl dX8_name_57 ?_
          refine q_icmpge hF (by omega) (by decide) dX8_name_59 (fun c59 => ?_) (fun c59 => ?_)
          · refine q_sub [1, 2, 3] rfl ?_
            exact kx0 k (by omega) c74
          · refine q_iload_n hF 1 rfl rfl dX8_name_62 ?_
            refine q_ifeq hF (by decide) dX8_name_63 (fun c63 => ?_) (fun c63 => ?_)
            · refine q_sub [1, 2, 3] rfl ?_
              exact kx0 k (by omega) c74
            · exact absurd c63 (by decide)
        · refine q_iconst hF dX8_name_77 ?_
          refine q_goto hF dX8_name_78 ?_
          refine q_istore_n hF (ls' := [(2, qI 1), (3, qI (k : Int)), (0, .ref m), (1, qI c)]) rfl (by decide) rfl dX8_name_82 ?_
          refine q_iinc hF (z' := ((1 + k : Nat) : Int)) (ls' := [(3, qI ((1 + k : Nat) : Int)), (2, qI 1), (0, .ref m), (1, qI c)]) 1 rfl (by first | rfl | omega) (by decide) rfl dX8_name_83 ?_
          refine q_goto hF dX8_name_86 ?_
          exact ih (1 + k) (by omega) (by omega) (fun j hj => by
            by_cases e : j = k
            · subst e; exact c74
            · exact hall j (by omega))
set_option maxRecDepth 100000 in
theorem mX8_nameP {G : q_G} {sz : Nat} {T : q_T} {I L : q_I} {P : q_P} {Q : q_Q} {m : Nat} {q : Nat} {s : g_PS} {B : Nat → Int} {n : Nat}  (hS : q_SM T P m) (hSA : q_A G m) (hB : q_BT I m B n) (hp : s.p ≤ n) (hfl : s.fl = 0) (hsk : g_sk B n s.p = q) (k0 : g_nm B n q → Q (.inl (some (qI ((g_nl B n q : Nat) : Int)))) sz T (q_ps I m (g_mk q s.fl s.fa s.cd s.op s.on s.hp)) L P) (k1 : ¬ (g_nm B n q) → Q (.inl (some (qI 0))) sz T (q_ps I m (g_mk q 1 (q : Int) s.cd s.op s.on s.hp)) L P) : qC G 6 0 0 YX8_name [.ref m] sz T (q_ps I m s) L P Q := by
  refine qC_of (by decide +kernel) rfl rfl (Nat.le_of_ble_eq_true rfl) (fun F hF _ _ => ?_)
  have hn6 := hB.2.1
  have hq := g_sk_r (B := B) hp
  rw [hsk] at hq
  have hqq : g_sk B n q = q := by rw [← hsk]; exact g_sk_sk hp
  have hnl := g_nl_r (B := B) hq.2
  refine q_aload_n hF 0 rfl rfl dX8_name_0 ?_
  refine q_callV (kc := 0) (ks := 0) (mc' := 0) (ms' := 0) (h' := 0) (st := []) hF vl_RX8_95 rfl [] rfl rfl hS.t0 (by omega) (Nat.le_of_ble_eq_true rfl) dX8_name_1 ?_
  refine mX8_fineA hS hfl ?_
  refine q_ifne hF (by decide) dX8_name_4 (fun c4 => ?_) (fun c4 => ?_)
  · refine q_aload_n hF 0 rfl rfl dX8_name_9 ?_
    refine q_callV (kc := 0) (ks := 0) (mc' := 0) (ms' := 0) (h' := 1) (st := []) hF vl_RX8_78 rfl [] rfl rfl hS.t0 (by omega) (Nat.le_of_ble_eq_true rfl) dX8_name_10 ?_
    refine mX8_herePQ (B := B) (n := n) hS hSA hB (show s.p ≤ n by omega) hsk ?_
    show qX G F Q 0 0 13 [(0, .ref m)] [qI (g_bt B n q)] sz T (q_ps I m (g_mk q s.fl s.fa s.cd s.op s.on s.hp)) L P
    refine q_pop hF rfl dX8_name_13 ?_
    refine q_iconst hF dX8_name_14 ?_
    refine q_istore_n hF (ls' := [(1, qI 0), (0, .ref m)]) rfl (by decide) rfl dX8_name_15 ?_
    refine q_sub [0, 1] rfl ?_
    refine lX8_name (by decide) hq.2 hF hS hSA hB ?_ (n - (q + 0) + 1) 0 (by omega) (by omega) rfl
    refine q_iload_n hF 0 rfl rfl dX8_name_38 ?_
    refine q_ifle hF (by omega) dX8_name_39 (fun c39 => ?_) (fun c39 => ?_)
    · refine q_iconst hF dX8_name_52 ?_
      refine q_istore_n hF (ls' := [(2, qI 0), (1, qI ((g_nl B n q : Nat) : Int)), (0, .ref m)]) rfl (by decide) rfl dX8_name_53 ?_
      refine q_iconst hF dX8_name_54 ?_
      refine q_istore_n hF (ls' := [(3, qI 0), (2, qI 0), (1, qI ((g_nl B n q : Nat) : Int)), (0, .ref m)]) rfl (by decide) rfl dX8_name_55 ?_
      refine q_iload_n hF 0 rfl rfl dX8_name_56 ?_
      refine q_bipush hF (n := 23) rfl dX8_name_57 ?_
      refine q_icmpge hF (by decide) (by decide) dX8_name_59 (fun c59 => ?_) (fun c59 => ?_)
      · exact absurd c59 (by decide)
      · refine q_iload_n hF 1 rfl rfl dX8_name_62 ?_
        refine q_ifeq hF (by decide) dX8_name_63 (fun c63 => ?_) (fun c63 => ?_)
        · refine q_iload_n hF 1 rfl rfl dX8_name_89 ?_
          refine q_ifne hF (by decide) dX8_name_90 (fun c90 => ?_) (fun c90 => ?_)
          · exact absurd c90 (by decide)
          · refine q_aload_n hF 3 rfl rfl dX8_name_93 ?_
            refine q_iconst hF dX8_name_94 ?_
            refine q_aload_n hF 3 rfl rfl dX8_name_95 ?_
            refine q_getIv hF (z := (q : Int)) fl_RX8_65 hS.t0 q_ps_4 dX8_name_96 ?_
            refine q_callV (kc := 0) (ks := 0) (mc' := 0) (ms' := 0) (h' := 0) (st := []) hF vl_RX8_106 rfl [qI 1, qI (q : Int)] rfl rfl hS.t0 (by omega) (Nat.le_of_ble_eq_true rfl) dX8_name_99 ?_
            refine mX8_wrongA hS hSA hfl ?_
            show qX G F Q 0 0 102 [(3, qI 0), (2, qI 0), (1, qI ((g_nl B n q : Nat) : Int)), (0, .ref m)] [] sz T (q_ps I m (g_mk q 1 (q : Int) s.cd s.op s.on s.hp)) L P
            refine q_iload_n hF 1 rfl rfl dX8_name_102 ?_
            refine q_ifeq hF (by decide) dX8_name_103 (fun c103 => ?_) (fun c103 => ?_)
            · refine q_iconst hF dX8_name_110 ?_
              refine q_ireturn hF rfl dX8_name_111 ?_
              exact k1 (fun h => by have := h.1; omega)
            · exact absurd c103 (by decide)
        · exact absurd c63 (by decide)
    · refine q_iload_n hF 0 rfl rfl dX8_name_42 ?_
      refine q_bipush hF (n := 6) rfl dX8_name_43 ?_
      refine q_icmpgt hF (by omega) (by decide) dX8_name_45 (fun c45 => ?_) (fun c45 => ?_)
      · refine q_iconst hF dX8_name_52 ?_
        refine q_istore_n hF (ls' := [(2, qI 0), (1, qI ((g_nl B n q : Nat) : Int)), (0, .ref m)]) rfl (by decide) rfl dX8_name_53 ?_
        refine q_iconst hF dX8_name_54 ?_
        refine q_istore_n hF (ls' := [(3, qI 0), (2, qI 0), (1, qI ((g_nl B n q : Nat) : Int)), (0, .ref m)]) rfl (by decide) rfl dX8_name_55 ?_
        refine q_iload_n hF 0 rfl rfl dX8_name_56 ?_
        refine q_bipush hF (n := 23) rfl dX8_name_57 ?_
        refine q_icmpge hF (by decide) (by decide) dX8_name_59 (fun c59 => ?_) (fun c59 => ?_)
        · exact absurd c59 (by decide)
        · refine q_iload_n hF 1 rfl rfl dX8_name_62 ?_
          refine q_ifeq hF (by decide) dX8_name_63 (fun c63 => ?_) (fun c63 => ?_)
          · refine q_iload_n hF 1 rfl rfl dX8_name_89 ?_
            refine q_ifne hF (by decide) dX8_name_90 (fun c90 => ?_) (fun c90 => ?_)
            · exact absurd c90 (by decide)
            · refine q_aload_n hF 3 rfl rfl dX8_name_93 ?_
              refine q_iconst hF dX8_name_94 ?_
              refine q_aload_n hF 3 rfl rfl dX8_name_95 ?_
              refine q_getIv hF (z := (q : Int)) fl_RX8_65 hS.t0 q_ps_4 dX8_name_96 ?_
              refine q_callV (kc := 0) (ks := 0) (mc' := 0) (ms' := 0) (h' := 0) (st := []) hF vl_RX8_106 rfl [qI 1, qI (q : Int)] rfl rfl hS.t0 (by omega) (Nat.le_of_ble_eq_true rfl) dX8_name_99 ?_
              refine mX8_wrongA hS hSA hfl ?_
              show qX G F Q 0 0 102 [(3, qI 0), (2, qI 0), (1, qI ((g_nl B n q : Nat) : Int)), (0, .ref m)] [] sz T (q_ps I m (g_mk q 1 (q : Int) s.cd s.op s.on s.hp)) L P
              refine q_iload_n hF 1 rfl rfl dX8_name_102 ?_
              refine q_ifeq hF (by decide) dX8_name_103 (fun c103 => ?_) (fun c103 => ?_)
              · refine q_iconst hF dX8_name_110 ?_
                refine q_ireturn hF rfl dX8_name_111 ?_
                exact k1 (fun h => by have := h.1; omega)
              · exact absurd c103 (by decide)
          · exact absurd c63 (by decide)
      · refine q_iconst hF dX8_name_48 ?_
        refine q_goto hF dX8_name_49 ?_
        refine q_istore_n hF (ls' := [(2, qI 1), (1, qI ((g_nl B n q : Nat) : Int)), (0, .ref m)]) rfl (by decide) rfl dX8_name_53 ?_
        refine q_iconst hF dX8_name_54 ?_
        refine q_istore_n hF (ls' := [(3, qI 0), (2, qI 1), (1, qI ((g_nl B n q : Nat) : Int)), (0, .ref m)]) rfl (by decide) rfl dX8_name_55 ?_
        refine q_sub [0, 1, 3, 2] rfl ?_
        refine lX8_nameK hF (by decide) hS hSA hB hq.2 hqq (fun ca => ?_) (fun k hk cb => ?_) 24 0 (by decide) (by decide) (fun j hj => absurd hj (Nat.not_lt_zero _))
        · refine q_iload_n hF 0 rfl rfl dX8_name_89 ?_
          refine q_ifne hF (by decide) dX8_name_90 (fun c90 => ?_) (fun c90 => ?_)
          · refine q_iload_n hF 0 rfl rfl dX8_name_102 ?_
            refine q_ifeq hF (by decide) dX8_name_103 (fun c103 => ?_) (fun c103 => ?_)
            · exact absurd c103 (by decide)
            · refine q_iload_n hF 2 rfl rfl dX8_name_106 ?_
              refine q_goto hF dX8_name_107 ?_
              refine q_ireturn hF rfl dX8_name_111 ?_
              exact k0 ⟨⟨by omega, by omega⟩, ca⟩
          · exact absurd c90 (by decide)
        · refine q_iload_n hF 0 rfl rfl dX8_name_89 ?_
          refine q_ifne hF (by decide) dX8_name_90 (fun c90 => ?_) (fun c90 => ?_)
          · exact absurd c90 (by decide)
          · refine q_aload_n hF 1 rfl rfl dX8_name_93 ?_
            refine q_iconst hF dX8_name_94 ?_
            refine q_aload_n hF 1 rfl rfl dX8_name_95 ?_
            refine q_getIv hF (z := (q : Int)) fl_RX8_65 hS.t0 q_ps_4 dX8_name_96 ?_
            refine q_callV (kc := 0) (ks := 0) (mc' := 0) (ms' := 0) (h' := 0) (st := []) hF vl_RX8_106 rfl [qI 1, qI (q : Int)] rfl rfl hS.t0 (by omega) (Nat.le_of_ble_eq_true rfl) dX8_name_99 ?_
            refine mX8_wrongA hS hSA hfl ?_
            show qX G F Q 0 0 102 [(2, qI 0), (0, .ref m), (1, qI ((g_nl B n q : Nat) : Int))] [] sz T (q_ps I m (g_mk q 1 (q : Int) s.cd s.op s.on s.hp)) L P
            refine q_iload_n hF 0 rfl rfl dX8_name_102 ?_
            refine q_ifeq hF (by decide) dX8_name_103 (fun c103 => ?_) (fun c103 => ?_)
            · refine q_iconst hF dX8_name_110 ?_
              refine q_ireturn hF rfl dX8_name_111 ?_
              exact k1 (fun h => h.2 k hk cb)
            · exact absurd c103 (by decide)
  · exact absurd c4 (by decide)
set_option maxRecDepth 100000 in
theorem mX8_name0 {G : q_G} {sz : Nat} {T : q_T} {I L : q_I} {P : q_P} {Q : q_Q} {m : Nat}  {s : g_PS}   (hS : q_SM T P m) (hSA : q_A G m) (her : s.fl ≠ 0) (hrf : -2147483648 ≤ s.fl ∧ s.fl < 2147483648) (k0 : Q (.inl (some (qI 0))) sz T (q_ps I m s) L P) : qC G 6 0 0 YX8_name [.ref m] sz T (q_ps I m s) L P Q := by
  refine qC_of (by decide +kernel) rfl rfl (Nat.le_of_ble_eq_true rfl) (fun F hF _ _ => ?_)
  refine q_aload_n hF 0 rfl rfl dX8_name_0 ?_
  refine q_callV (kc := 0) (ks := 0) (mc' := 0) (ms' := 0) (h' := 0) (st := []) hF vl_RX8_95 rfl [] rfl rfl hS.t0 (by omega) (Nat.le_of_ble_eq_true rfl) dX8_name_1 ?_
  refine mX8_fine0 hS her (show -2147483648 ≤ s.fl ∧ s.fl < 2147483648 by first | decide | omega | assumption) ?_
  refine q_ifne hF (by decide) dX8_name_4 (fun c4 => ?_) (fun c4 => ?_)
  · exact absurd c4 (by decide)
  · refine q_iconst hF dX8_name_7 ?_
    refine q_ireturn hF rfl dX8_name_8 ?_
    exact k0
