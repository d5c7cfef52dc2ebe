/-! the line of the order -/
/-- word j of the order at q, place p behind it; those in u are told already -/
def g_rdO1 (B : Nat → Int) (n : Nat) (s : g_PS) (t : Nat → Int) (u : List Nat) (q j p : Nat) (R : (Nat → Int) → List Nat → Nat → g_Rl) : g_Rl :=
  if j ∈ u then g_Rl.er 1 q
  else if g_sm (g_bt B n (g_sk B n p)) then R (g_up t (9 + u.length) (j : Int)) (j :: u) (g_sk B n p)
  else g_Rl.ok (g_mk (g_sk B n p) s.fl s.fa s.cd s.op s.on s.hp) (g_up (g_up t (9 + u.length) (j : Int)) 8 ((u.length + 1 : Nat) : Int))
def g_rdO (B : Nat → Int) (n : Nat) (s : g_PS) : Nat → (Nat → Int) → List Nat → Nat → g_Rl
  | 0, _, _, q => g_Rl.er 1 q
  | f + 1, t, u, q =>
    if g_isW B n 32 q then g_rdO1 B n s t u q 0 (g_len 32 + q) (g_rdO B n s f)
    else if g_isW B n 33 q then g_rdO1 B n s t u q 1 (g_len 33 + q) (g_rdO B n s f)
    else if g_isW B n 34 q then g_rdO1 B n s t u q 2 (g_len 34 + q) (g_rdO B n s f)
    else g_Rl.er 1 q
def g_rdOrder (B : Nat → Int) (n : Nat) (s : g_PS) (t : Nat → Int) (q : Nat) : g_Rl := g_rdO B n s 4 t [] q
set_option maxRecDepth 100000 in
theorem mX8_readsOrderP {G : q_G} {sz : Nat} {T : q_T} {I L : q_I} {P : q_P} {Q : q_Q} {m : Nat} {q : Nat} {r : g_Rl} {s : g_PS} {B : Nat → Int} {n : Nat} {t : Nat → Int} (hS : q_SM T P m) (hSA : q_A G m) (hB : q_BT I m B n) (hp : s.p ≤ n) (hfl : s.fl = 0) (hsk : g_sk B n s.p = q) (hne2 : g_rdOrder B n s t q = r) (k0 : ∀ s' t', r = .ok s' t' → Q (.inl none) sz T (q_ps I m s') (q_row L (m + 4) t') P) (k1 : ∀ (w : Int) (x : Nat) (s' : g_PS) (t' : Nat → Int), r = .er w x → (1 ≤ w ∧ w ≤ 7) → s'.fl = w → s'.fa = (x : Int) → s'.p ≤ n → Q (.inl none) sz T (q_ps I m s') (q_row L (m + 4) t') P) : qC G 7 0 0 YX8_readsOrder [.ref m] sz T (q_ps I m s) (q_row L (m + 4) t) P Q := by
  refine qC_of (by decide +kernel) rfl rfl (Nat.le_of_ble_eq_true rfl) (fun F hF _ _ => ?_)
  have hn6 := hB.2.1
  have hq := g_sk_r (B := B) hp
  rw [hsk] at hq
  have hqq : g_sk B n q = q := by rw [← hsk]; exact g_sk_sk hp
  have hx2 := hne2
  refine q_iconst hF dX8_readsOrder_0 ?_
  refine q_istore_n hF (ls' := [(1, qI 0), (0, .ref m)]) rfl (by decide) rfl dX8_readsOrder_1 ?_
  refine q_iconst hF dX8_readsOrder_2 ?_
  refine q_istore_n hF (ls' := [(2, qI 0), (1, qI 0), (0, .ref m)]) rfl (by decide) rfl dX8_readsOrder_3 ?_
  refine q_iconst hF dX8_readsOrder_4 ?_
  refine q_istore_n hF (ls' := [(3, qI 1), (2, qI 0), (1, qI 0), (0, .ref m)]) rfl (by decide) rfl dX8_readsOrder_5 ?_
  refine q_iload_n hF 0 rfl rfl dX8_readsOrder_6 ?_
  refine q_ifeq hF (by decide) dX8_readsOrder_7 (fun c7 => ?_) (fun c7 => ?_)
  · exact absurd c7 (by decide)
  · refine q_aload_n hF 3 rfl rfl dX8_readsOrder_10 ?_
    refine q_callV (kc := 0) (ks := 0) (mc' := 0) (ms' := 0) (h' := 0) (st := []) hF vl_RX8_95 rfl [] rfl rfl hS.t0 (by omega) (Nat.le_of_ble_eq_true rfl) dX8_readsOrder_11 ?_
    refine mX8_fineA hS hfl ?_
    refine q_ifeq hF (by decide) dX8_readsOrder_14 (fun c14 => ?_) (fun c14 => ?_)
    · exact absurd c14 (by decide)
    · skip
      refine q_aload_n hF 3 rfl rfl dX8_readsOrder_17 ?_
      refine q_callV (kc := 0) (ks := 0) (mc' := 0) (ms' := 0) (h' := 1) (st := []) hF vl_RX8_78 rfl [] rfl rfl hS.t0 (by omega) (Nat.le_of_ble_eq_true rfl) dX8_readsOrder_18 ?_
      refine mX8_herePQ (B := B) (n := n) hS hSA hB (show s.p ≤ n by omega) hsk ?_
      show qX G F Q 0 0 21 [(3, qI 1), (2, qI 0), (1, qI 0), (0, .ref m)] [qI (g_bt B n q)] sz T (q_ps I m (g_mk q s.fl s.fa s.cd s.op s.on s.hp)) (q_row L (m + 4) t) P
      refine q_pop hF rfl dX8_readsOrder_21 ?_
      refine q_aload_n hF 3 rfl rfl dX8_readsOrder_22 ?_
      refine q_getIv hF (z := (q : Int)) fl_RX8_65 hS.t0 q_ps_4 dX8_readsOrder_23 ?_
      refine q_istore hF (ls' := [(4, qI (q : Int)), (3, qI 1), (2, qI 0), (1, qI 0), (0, .ref m)]) (by decide) rfl dX8_readsOrder_26 ?_
      refine q_aload_n hF 4 rfl rfl dX8_readsOrder_28 ?_
      refine q_iconst hF dX8_readsOrder_29 ?_
      refine q_bipush hF (n := 7) rfl dX8_readsOrder_30 ?_
      refine q_callV (kc := 0) (ks := 0) (mc' := 0) (ms' := 0) (h' := 6) (st := []) hF vl_RX8_220 rfl [qI 5, qI 7] rfl rfl hS.t0 (by omega) (Nat.le_of_ble_eq_true rfl) dX8_readsOrder_32 ?_
      refine mX8_one5 hS hSA hB (show q ≤ n by omega) hfl hqq (fun (c32_0_3 : g_isW B n 32 q) => ?_) (fun (c32_0_3 : ¬ (g_isW B n 32 q)) (c32_1_3 : g_isW B n 33 q) => ?_) (fun (c32_0_3 : ¬ (g_isW B n 32 q)) (c32_1_3 : ¬ (g_isW B n 33 q)) (c32_2_3 : g_isW B n 34 q) => ?_) (fun (c32_0_3 : ¬ (g_isW B n 32 q)) (c32_1_3 : ¬ (g_isW B n 33 q)) (c32_2_3 : ¬ (g_isW B n 34 q)) => ?_)
      · show qX G F Q 0 0 35 [(4, qI (q : Int)), (3, qI 1), (2, qI 0), (1, qI 0), (0, .ref m)] [qI 0] sz T (q_ps I m (g_mk (g_len 32 + q) s.fl s.fa s.cd s.op s.on s.hp)) (q_row L (m + 4) t) P
        refine q_istore hF (ls' := [(5, qI 0), (4, qI (q : Int)), (3, qI 1), (2, qI 0), (1, qI 0), (0, .ref m)]) (by decide) rfl dX8_readsOrder_35 ?_
        have hwl4 := g_words_ok 32 (by decide)
        have hwn4 := g_isW_n (g_words_ok 32 (by decide)) (fun k hk => by have := g_ch_r (i := 32) (by decide) hk; omega) c32_0_3
        have hsr4 := g_sk_r (B := B) (n := n) (k := g_len 32 + q) (by omega)
        refine q_aload_n hF 5 rfl rfl dX8_readsOrder_37 ?_
        refine q_callV (kc := 0) (ks := 0) (mc' := 0) (ms' := 0) (h' := 0) (st := []) hF vl_RX8_95 rfl [] rfl rfl hS.t0 (by omega) (Nat.le_of_ble_eq_true rfl) dX8_readsOrder_38 ?_
        refine mX8_fineA hS hfl ?_
        refine q_ifeq hF (by decide) dX8_readsOrder_41 (fun c41 => ?_) (fun c41 => ?_)
        · exact absurd c41 (by decide)
        · refine q_iload_n hF 3 rfl rfl dX8_readsOrder_44 ?_
          refine q_iload hF 0 rfl dX8_readsOrder_45 ?_
          refine q_ishr hF (c0 := 0) (by decide) dX8_readsOrder_47 ?_
          refine q_iconst hF dX8_readsOrder_48 ?_
          refine q_iand hF (c0 := 0) (by decide) dX8_readsOrder_49 ?_
          refine q_iconst hF dX8_readsOrder_50 ?_
          refine q_icmpne hF (by decide) (by decide) dX8_readsOrder_51 (fun c51 => ?_) (fun c51 => ?_)
          · refine q_aload_n hF 5 rfl rfl dX8_readsOrder_61 ?_
            refine q_callV (kc := 0) (ks := 0) (mc' := 0) (ms' := 0) (h' := 0) (st := []) hF vl_RX8_95 rfl [] rfl rfl hS.t0 (by omega) (Nat.le_of_ble_eq_true rfl) dX8_readsOrder_62 ?_
            refine mX8_fineA hS hfl ?_
            refine q_ifne hF (by decide) dX8_readsOrder_65 (fun c65 => ?_) (fun c65 => ?_)
            · refine q_iload_n hF 3 rfl rfl dX8_readsOrder_69 ?_
              refine q_iconst hF dX8_readsOrder_70 ?_
              refine q_iload hF 0 rfl dX8_readsOrder_71 ?_
              refine q_ishl hF (c0 := 1) (by decide) dX8_readsOrder_73 ?_
              refine q_ior hF (c0 := 1) (by decide) dX8_readsOrder_74 ?_
              refine q_istore_n hF (ls' := [(2, qI 1), (5, qI 0), (4, qI (q : Int)), (3, qI 1), (1, qI 0), (0, .ref m)]) rfl (by decide) rfl dX8_readsOrder_75 ?_
              refine q_aload_n hF 5 rfl rfl dX8_readsOrder_76 ?_
              refine q_getA hF fl_RX8_24 rfl hS.t0 hS.p10 dX8_readsOrder_77 ?_
              refine q_bipush hF (n := 9) rfl dX8_readsOrder_80 ?_
              refine q_iload_n hF 4 rfl rfl dX8_readsOrder_82 ?_
              refine q_iadd hF dX8_readsOrder_83 ?_
              refine q_iload hF 1 rfl dX8_readsOrder_84 ?_
              refine q_i2l hF (by decide) dX8_readsOrder_86 ?_
              refine q_lastorev hF (n := 1243) 9 hS.t4 (q_Ale hSA (by omega)) (by omega) (by omega) (by decide) dX8_readsOrder_87 ?_
              rw [q_row_u]
              refine q_iinc hF (z' := 1) (ls' := [(1, qI 1), (2, qI 1), (5, qI 0), (4, qI (q : Int)), (3, qI 1), (0, .ref m)]) 4 rfl (by first | rfl | omega) (by decide) rfl dX8_readsOrder_88 ?_
              refine q_aload_n hF 5 rfl rfl dX8_readsOrder_91 ?_
              refine q_callV (kc := 0) (ks := 0) (mc' := 0) (ms' := 0) (h' := 1) (st := []) hF vl_RX8_78 rfl [] rfl rfl hS.t0 (by omega) (Nat.le_of_ble_eq_true rfl) dX8_readsOrder_92 ?_
              refine mX8_herePQ (B := B) (n := n) hS hSA hB (show (g_len 32 + q) ≤ n by omega) rfl ?_
              show qX G F Q 0 0 95 [(1, qI 1), (2, qI 1), (5, qI 0), (4, qI (q : Int)), (3, qI 1), (0, .ref m)] [qI (g_bt B n (g_sk B n (g_len 32 + q)))] sz T (q_ps I m (g_mk (g_sk B n (g_len 32 + q)) s.fl s.fa s.cd s.op s.on s.hp)) (q_row L (m + 4) (g_up t 9 0)) P
              refine q_callS (kc := 0) (ks := 0) (mc' := 0) (ms' := 0) (h' := 0) (st := []) hF sl_RX8_91 rfl [qI (g_bt B n (g_sk B n (g_len 32 + q)))] rfl rfl (by omega) (Nat.le_of_ble_eq_true rfl) dX8_readsOrder_95 ?_
              refine mX8_isSmall (g_bt_32 hB _) ?_
              refine q_istore_n hF (ls' := [(3, qI (q_b (97 ≤ (g_bt B n (g_sk B n (g_len 32 + q))) ∧ (g_bt B n (g_sk B n (g_len 32 + q))) ≤ 122))), (1, qI 1), (2, qI 1), (5, qI 0), (4, qI (q : Int)), (0, .ref m)]) rfl (by decide) rfl dX8_readsOrder_98 ?_
              refine q_goto hF dX8_readsOrder_99 ?_
              refine q_iload_n hF 0 rfl rfl dX8_readsOrder_6 ?_
              refine q_ifeq_b hF dX8_readsOrder_7 (fun c7v9 => ?_) (fun c7v9 => ?_)
              · refine q_aload_n hF 5 rfl rfl dX8_readsOrder_102 ?_
                refine q_getA hF fl_RX8_24 rfl hS.t0 hS.p10 dX8_readsOrder_103 ?_
                refine q_bipush hF (n := 8) rfl dX8_readsOrder_106 ?_
                refine q_iload_n hF 1 rfl rfl dX8_readsOrder_108 ?_
                refine q_i2l hF (by decide) dX8_readsOrder_109 ?_
                refine q_lastorev hF (n := 1243) 8 hS.t4 (q_Ale hSA (by omega)) rfl (by decide) (by decide) dX8_readsOrder_110 ?_
                rw [q_row_u]
                refine q_return hF rfl dX8_readsOrder_111 ?_
                exact k0 _ _ (by rw [← hx2, g_rdOrder, g_rdO, if_pos c32_0_3, g_rdO1, if_neg (by decide), if_neg c7v9]; try rfl)
              · refine q_aload_n hF 5 rfl rfl dX8_readsOrder_10 ?_
                refine q_callV (kc := 0) (ks := 0) (mc' := 0) (ms' := 0) (h' := 0) (st := []) hF vl_RX8_95 rfl [] rfl rfl hS.t0 (by omega) (Nat.le_of_ble_eq_true rfl) dX8_readsOrder_11 ?_
                refine mX8_fineA hS hfl ?_
                refine q_ifeq hF (by decide) dX8_readsOrder_14 (fun c14v11 => ?_) (fun c14v11 => ?_)
                · exact absurd c14v11 (by decide)
                · skip
                  refine q_aload_n hF 5 rfl rfl dX8_readsOrder_17 ?_
                  refine q_callV (kc := 0) (ks := 0) (mc' := 0) (ms' := 0) (h' := 1) (st := []) hF vl_RX8_78 rfl [] rfl rfl hS.t0 (by omega) (Nat.le_of_ble_eq_true rfl) dX8_readsOrder_18 ?_
                  refine mX8_herePQ (B := B) (n := n) hS hSA hB (show (g_sk B n (g_len 32 + q)) ≤ n by omega) (g_sk_sk (by omega)) ?_
                  show qX G F Q 0 0 21 [(3, qI (q_b (97 ≤ (g_bt B n (g_sk B n (g_len 32 + q))) ∧ (g_bt B n (g_sk B n (g_len 32 + q))) ≤ 122))), (1, qI 1), (2, qI 1), (5, qI 0), (4, qI (q : Int)), (0, .ref m)] [qI (g_bt B n (g_sk B n (g_len 32 + q)))] sz T (q_ps I m (g_mk (g_sk B n (g_len 32 + q)) s.fl s.fa s.cd s.op s.on s.hp)) (q_row L (m + 4) (g_up t 9 0)) P
                  refine q_pop hF rfl dX8_readsOrder_21 ?_
                  refine q_aload_n hF 5 rfl rfl dX8_readsOrder_22 ?_
                  refine q_getIv hF (z := ((g_sk B n (g_len 32 + q) : Nat) : Int)) fl_RX8_65 hS.t0 q_ps_4 dX8_readsOrder_23 ?_
                  refine q_istore hF (ls' := [(4, qI ((g_sk B n (g_len 32 + q) : Nat) : Int)), (3, qI (q_b (97 ≤ (g_bt B n (g_sk B n (g_len 32 + q))) ∧ (g_bt B n (g_sk B n (g_len 32 + q))) ≤ 122))), (1, qI 1), (2, qI 1), (5, qI 0), (0, .ref m)]) (by decide) rfl dX8_readsOrder_26 ?_
                  refine q_aload_n hF 5 rfl rfl dX8_readsOrder_28 ?_
                  refine q_iconst hF dX8_readsOrder_29 ?_
                  refine q_bipush hF (n := 7) rfl dX8_readsOrder_30 ?_
                  refine q_callV (kc := 0) (ks := 0) (mc' := 0) (ms' := 0) (h' := 6) (st := []) hF vl_RX8_220 rfl [qI 5, qI 7] rfl rfl hS.t0 (by omega) (Nat.le_of_ble_eq_true rfl) dX8_readsOrder_32 ?_
                  refine mX8_one5 hS hSA hB (show (g_sk B n (g_len 32 + q)) ≤ n by omega) hfl (g_sk_sk (by omega)) (fun (c32_0_13 : g_isW B n 32 (g_sk B n (g_len 32 + q))) => ?_) (fun (c32_0_13 : ¬ (g_isW B n 32 (g_sk B n (g_len 32 + q)))) (c32_1_13 : g_isW B n 33 (g_sk B n (g_len 32 + q))) => ?_) (fun (c32_0_13 : ¬ (g_isW B n 32 (g_sk B n (g_len 32 + q)))) (c32_1_13 : ¬ (g_isW B n 33 (g_sk B n (g_len 32 + q)))) (c32_2_13 : g_isW B n 34 (g_sk B n (g_len 32 + q))) => ?_) (fun (c32_0_13 : ¬ (g_isW B n 32 (g_sk B n (g_len 32 + q)))) (c32_1_13 : ¬ (g_isW B n 33 (g_sk B n (g_len 32 + q)))) (c32_2_13 : ¬ (g_isW B n 34 (g_sk B n (g_len 32 + q)))) => ?_)
                  · show qX G F Q 0 0 35 [(4, qI ((g_sk B n (g_len 32 + q) : Nat) : Int)), (3, qI (q_b (97 ≤ (g_bt B n (g_sk B n (g_len 32 + q))) ∧ (g_bt B n (g_sk B n (g_len 32 + q))) ≤ 122))), (1, qI 1), (2, qI 1), (5, qI 0), (0, .ref m)] [qI 0] sz T (q_ps I m (g_mk (g_len 32 + (g_sk B n (g_len 32 + q))) s.fl s.fa s.cd s.op s.on s.hp)) (q_row L (m + 4) (g_up t 9 0)) P
                    refine q_istore hF (ls' := [(5, qI 0), (4, qI ((g_sk B n (g_len 32 + q) : Nat) : Int)), (3, qI (q_b (97 ≤ (g_bt B n (g_sk B n (g_len 32 + q))) ∧ (g_bt B n (g_sk B n (g_len 32 + q))) ≤ 122))), (1, qI 1), (2, qI 1), (0, .ref m)]) (by decide) rfl dX8_readsOrder_35 ?_
                    have hwl14 := g_words_ok 32 (by decide)
                    have hwn14 := g_isW_n (g_words_ok 32 (by decide)) (fun k hk => by have := g_ch_r (i := 32) (by decide) hk; omega) c32_0_13
                    have hsr14 := g_sk_r (B := B) (n := n) (k := g_len 32 + (g_sk B n (g_len 32 + q))) (by omega)
                    refine q_aload_n hF 5 rfl rfl dX8_readsOrder_37 ?_
                    refine q_callV (kc := 0) (ks := 0) (mc' := 0) (ms' := 0) (h' := 0) (st := []) hF vl_RX8_95 rfl [] rfl rfl hS.t0 (by omega) (Nat.le_of_ble_eq_true rfl) dX8_readsOrder_38 ?_
                    refine mX8_fineA hS hfl ?_
                    refine q_ifeq hF (by decide) dX8_readsOrder_41 (fun c41v16 => ?_) (fun c41v16 => ?_)
                    · exact absurd c41v16 (by decide)
                    · refine q_iload_n hF 4 rfl rfl dX8_readsOrder_44 ?_
                      refine q_iload hF 0 rfl dX8_readsOrder_45 ?_
                      refine q_ishr hF (c0 := 1) (by decide) dX8_readsOrder_47 ?_
                      refine q_iconst hF dX8_readsOrder_48 ?_
                      refine q_iand hF (c0 := 1) (by decide) dX8_readsOrder_49 ?_
                      refine q_iconst hF dX8_readsOrder_50 ?_
                      refine q_icmpne hF (by decide) (by decide) dX8_readsOrder_51 (fun c51v17 => ?_) (fun c51v17 => ?_)
                      · exact absurd c51v17 (by decide)
                      · refine q_aload_n hF 5 rfl rfl dX8_readsOrder_54 ?_
                        refine q_iconst hF dX8_readsOrder_55 ?_
                        refine q_iload hF 1 rfl dX8_readsOrder_56 ?_
                        refine q_callV (kc := 0) (ks := 0) (mc' := 0) (ms' := 0) (h' := 0) (st := []) hF vl_RX8_106 rfl [qI 1, qI ((g_sk B n (g_len 32 + q) : Nat) : Int)] rfl rfl hS.t0 (by omega) (Nat.le_of_ble_eq_true rfl) dX8_readsOrder_58 ?_
                        refine mX8_wrongA hS hSA hfl ?_
                        show qX G F Q 0 0 61 [(5, qI 0), (4, qI ((g_sk B n (g_len 32 + q) : Nat) : Int)), (3, qI (q_b (97 ≤ (g_bt B n (g_sk B n (g_len 32 + q))) ∧ (g_bt B n (g_sk B n (g_len 32 + q))) ≤ 122))), (1, qI 1), (2, qI 1), (0, .ref m)] [] sz T (q_ps I m (g_mk (g_len 32 + (g_sk B n (g_len 32 + q))) 1 ((g_sk B n (g_len 32 + q) : Nat) : Int) s.cd s.op s.on s.hp)) (q_row L (m + 4) (g_up t 9 0)) P
                        refine q_aload_n hF 5 rfl rfl dX8_readsOrder_61 ?_
                        refine q_callV (kc := 0) (ks := 0) (mc' := 0) (ms' := 0) (h' := 0) (st := []) hF vl_RX8_95 rfl [] rfl rfl hS.t0 (by omega) (Nat.le_of_ble_eq_true rfl) dX8_readsOrder_62 ?_
                        refine mX8_fine0 hS (show (1 : Int) ≠ 0 by decide) (show -2147483648 ≤ 1 ∧ 1 < 2147483648 by first | decide | omega | assumption) ?_
                        refine q_ifne hF (by decide) dX8_readsOrder_65 (fun c65v20 => ?_) (fun c65v20 => ?_)
                        · exact absurd c65v20 (by decide)
                        · refine q_return hF rfl dX8_readsOrder_68 ?_
                          show Q (.inl none) sz T (q_ps I m (g_mk (g_len 32 + (g_sk B n (g_len 32 + q))) 1 ((g_sk B n (g_len 32 + q) : Nat) : Int) s.cd s.op s.on s.hp)) (q_row L (m + 4) (g_up t 9 0)) P
                          exact k1 1 (g_sk B n (g_len 32 + q)) _ _ (by rw [← hx2, g_rdOrder, g_rdO, if_pos c32_0_3, g_rdO1, if_neg (by decide), if_pos c7v9, g_rdO, if_pos c32_0_13, g_rdO1, if_pos (by decide)]) (by decide) rfl rfl (show g_len 32 + (g_sk B n (g_len 32 + q)) ≤ n by omega)
                  · show qX G F Q 0 0 35 [(4, qI ((g_sk B n (g_len 32 + q) : Nat) : Int)), (3, qI (q_b (97 ≤ (g_bt B n (g_sk B n (g_len 32 + q))) ∧ (g_bt B n (g_sk B n (g_len 32 + q))) ≤ 122))), (1, qI 1), (2, qI 1), (5, qI 0), (0, .ref m)] [qI 1] sz T (q_ps I m (g_mk (g_len 33 + (g_sk B n (g_len 32 + q))) s.fl s.fa s.cd s.op s.on s.hp)) (q_row L (m + 4) (g_up t 9 0)) P
                    refine q_istore hF (ls' := [(5, qI 1), (4, qI ((g_sk B n (g_len 32 + q) : Nat) : Int)), (3, qI (q_b (97 ≤ (g_bt B n (g_sk B n (g_len 32 + q))) ∧ (g_bt B n (g_sk B n (g_len 32 + q))) ≤ 122))), (1, qI 1), (2, qI 1), (0, .ref m)]) (by decide) rfl dX8_readsOrder_35 ?_
                    have hwl21 := g_words_ok 33 (by decide)
                    have hwn21 := g_isW_n (g_words_ok 33 (by decide)) (fun k hk => by have := g_ch_r (i := 33) (by decide) hk; omega) c32_1_13
                    have hsr21 := g_sk_r (B := B) (n := n) (k := g_len 33 + (g_sk B n (g_len 32 + q))) (by omega)
                    refine q_aload_n hF 5 rfl rfl dX8_readsOrder_37 ?_
                    refine q_callV (kc := 0) (ks := 0) (mc' := 0) (ms' := 0) (h' := 0) (st := []) hF vl_RX8_95 rfl [] rfl rfl hS.t0 (by omega) (Nat.le_of_ble_eq_true rfl) dX8_readsOrder_38 ?_
                    refine mX8_fineA hS hfl ?_
                    refine q_ifeq hF (by decide) dX8_readsOrder_41 (fun c41v23 => ?_) (fun c41v23 => ?_)
                    · exact absurd c41v23 (by decide)
                    · refine q_iload_n hF 4 rfl rfl dX8_readsOrder_44 ?_
                      refine q_iload hF 0 rfl dX8_readsOrder_45 ?_
                      refine q_ishr hF (c0 := 0) (by decide) dX8_readsOrder_47 ?_
                      refine q_iconst hF dX8_readsOrder_48 ?_
                      refine q_iand hF (c0 := 0) (by decide) dX8_readsOrder_49 ?_
                      refine q_iconst hF dX8_readsOrder_50 ?_
                      refine q_icmpne hF (by decide) (by decide) dX8_readsOrder_51 (fun c51v24 => ?_) (fun c51v24 => ?_)
                      · refine q_aload_n hF 5 rfl rfl dX8_readsOrder_61 ?_
                        refine q_callV (kc := 0) (ks := 0) (mc' := 0) (ms' := 0) (h' := 0) (st := []) hF vl_RX8_95 rfl [] rfl rfl hS.t0 (by omega) (Nat.le_of_ble_eq_true rfl) dX8_readsOrder_62 ?_
                        refine mX8_fineA hS hfl ?_
                        refine q_ifne hF (by decide) dX8_readsOrder_65 (fun c65v26 => ?_) (fun c65v26 => ?_)
                        · refine q_iload_n hF 4 rfl rfl dX8_readsOrder_69 ?_
                          refine q_iconst hF dX8_readsOrder_70 ?_
                          refine q_iload hF 0 rfl dX8_readsOrder_71 ?_
                          refine q_ishl hF (c0 := 2) (by decide) dX8_readsOrder_73 ?_
                          refine q_ior hF (c0 := 3) (by decide) dX8_readsOrder_74 ?_
                          refine q_istore_n hF (ls' := [(2, qI 3), (5, qI 1), (4, qI ((g_sk B n (g_len 32 + q) : Nat) : Int)), (3, qI (q_b (97 ≤ (g_bt B n (g_sk B n (g_len 32 + q))) ∧ (g_bt B n (g_sk B n (g_len 32 + q))) ≤ 122))), (1, qI 1), (0, .ref m)]) rfl (by decide) rfl dX8_readsOrder_75 ?_
                          refine q_aload_n hF 5 rfl rfl dX8_readsOrder_76 ?_
                          refine q_getA hF fl_RX8_24 rfl hS.t0 hS.p10 dX8_readsOrder_77 ?_
                          refine q_bipush hF (n := 9) rfl dX8_readsOrder_80 ?_
                          refine q_iload_n hF 4 rfl rfl dX8_readsOrder_82 ?_
                          refine q_iadd hF dX8_readsOrder_83 ?_
                          refine q_iload hF 1 rfl dX8_readsOrder_84 ?_
                          refine q_i2l hF (by decide) dX8_readsOrder_86 ?_
                          refine q_lastorev hF (n := 1243) 10 hS.t4 (q_Ale hSA (by omega)) (by omega) (by omega) (by decide) dX8_readsOrder_87 ?_
                          rw [q_row_u]
                          refine q_iinc hF (z' := 2) (ls' := [(1, qI 2), (2, qI 3), (5, qI 1), (4, qI ((g_sk B n (g_len 32 + q) : Nat) : Int)), (3, qI (q_b (97 ≤ (g_bt B n (g_sk B n (g_len 32 + q))) ∧ (g_bt B n (g_sk B n (g_len 32 + q))) ≤ 122))), (0, .ref m)]) 4 rfl (by first | rfl | omega) (by decide) rfl dX8_readsOrder_88 ?_
                          refine q_aload_n hF 5 rfl rfl dX8_readsOrder_91 ?_
                          refine q_callV (kc := 0) (ks := 0) (mc' := 0) (ms' := 0) (h' := 1) (st := []) hF vl_RX8_78 rfl [] rfl rfl hS.t0 (by omega) (Nat.le_of_ble_eq_true rfl) dX8_readsOrder_92 ?_
                          refine mX8_herePQ (B := B) (n := n) hS hSA hB (show (g_len 33 + (g_sk B n (g_len 32 + q))) ≤ n by omega) rfl ?_
                          show qX G F Q 0 0 95 [(1, qI 2), (2, qI 3), (5, qI 1), (4, qI ((g_sk B n (g_len 32 + q) : Nat) : Int)), (3, qI (q_b (97 ≤ (g_bt B n (g_sk B n (g_len 32 + q))) ∧ (g_bt B n (g_sk B n (g_len 32 + q))) ≤ 122))), (0, .ref m)] [qI (g_bt B n (g_sk B n (g_len 33 + (g_sk B n (g_len 32 + q)))))] sz T (q_ps I m (g_mk (g_sk B n (g_len 33 + (g_sk B n (g_len 32 + q)))) s.fl s.fa s.cd s.op s.on s.hp)) (q_row L (m + 4) (g_up (g_up t 9 0) 10 1)) P
                          refine q_callS (kc := 0) (ks := 0) (mc' := 0) (ms' := 0) (h' := 0) (st := []) hF sl_RX8_91 rfl [qI (g_bt B n (g_sk B n (g_len 33 + (g_sk B n (g_len 32 + q)))))] rfl rfl (by omega) (Nat.le_of_ble_eq_true rfl) dX8_readsOrder_95 ?_
                          refine mX8_isSmall (g_bt_32 hB _) ?_
                          refine q_istore_n hF (ls' := [(3, qI (q_b (97 ≤ (g_bt B n (g_sk B n (g_len 33 + (g_sk B n (g_len 32 + q))))) ∧ (g_bt B n (g_sk B n (g_len 33 + (g_sk B n (g_len 32 + q))))) ≤ 122))), (1, qI 2), (2, qI 3), (5, qI 1), (4, qI ((g_sk B n (g_len 32 + q) : Nat) : Int)), (0, .ref m)]) rfl (by decide) rfl dX8_readsOrder_98 ?_
                          refine q_goto hF dX8_readsOrder_99 ?_
                          refine q_iload_n hF 0 rfl rfl dX8_readsOrder_6 ?_
                          refine q_ifeq_b hF dX8_readsOrder_7 (fun c7v29 => ?_) (fun c7v29 => ?_)
                          · refine q_aload_n hF 5 rfl rfl dX8_readsOrder_102 ?_
                            refine q_getA hF fl_RX8_24 rfl hS.t0 hS.p10 dX8_readsOrder_103 ?_
                            refine q_bipush hF (n := 8) rfl dX8_readsOrder_106 ?_
                            refine q_iload_n hF 1 rfl rfl dX8_readsOrder_108 ?_
                            refine q_i2l hF (by decide) dX8_readsOrder_109 ?_
                            refine q_lastorev hF (n := 1243) 8 hS.t4 (q_Ale hSA (by omega)) rfl (by decide) (by decide) dX8_readsOrder_110 ?_
                            rw [q_row_u]
                            refine q_return hF rfl dX8_readsOrder_111 ?_
                            exact k0 _ _ (by rw [← hx2, g_rdOrder, g_rdO, if_pos c32_0_3, g_rdO1, if_neg (by decide), if_pos c7v9, g_rdO, if_neg c32_0_13, if_pos c32_1_13, g_rdO1, if_neg (by decide), if_neg c7v29]; try rfl)
                          · refine q_aload_n hF 5 rfl rfl dX8_readsOrder_10 ?_
                            refine q_callV (kc := 0) (ks := 0) (mc' := 0) (ms' := 0) (h' := 0) (st := []) hF vl_RX8_95 rfl [] rfl rfl hS.t0 (by omega) (Nat.le_of_ble_eq_true rfl) dX8_readsOrder_11 ?_
                            refine mX8_fineA hS hfl ?_
                            refine q_ifeq hF (by decide) dX8_readsOrder_14 (fun c14v31 => ?_) (fun c14v31 => ?_)
                            · exact absurd c14v31 (by decide)
                            · skip
                              refine q_aload_n hF 5 rfl rfl dX8_readsOrder_17 ?_
                              refine q_callV (kc := 0) (ks := 0) (mc' := 0) (ms' := 0) (h' := 1) (st := []) hF vl_RX8_78 rfl [] rfl rfl hS.t0 (by omega) (Nat.le_of_ble_eq_true rfl) dX8_readsOrder_18 ?_
                              refine mX8_herePQ (B := B) (n := n) hS hSA hB (show (g_sk B n (g_len 33 + (g_sk B n (g_len 32 + q)))) ≤ n by omega) (g_sk_sk (by omega)) ?_
                              show qX G F Q 0 0 21 [(3, qI (q_b (97 ≤ (g_bt B n (g_sk B n (g_len 33 + (g_sk B n (g_len 32 + q))))) ∧ (g_bt B n (g_sk B n (g_len 33 + (g_sk B n (g_len 32 + q))))) ≤ 122))), (1, qI 2), (2, qI 3), (5, qI 1), (4, qI ((g_sk B n (g_len 32 + q) : Nat) : Int)), (0, .ref m)] [qI (g_bt B n (g_sk B n (g_len 33 + (g_sk B n (g_len 32 + q)))))] sz T (q_ps I m (g_mk (g_sk B n (g_len 33 + (g_sk B n (g_len 32 + q)))) s.fl s.fa s.cd s.op s.on s.hp)) (q_row L (m + 4) (g_up (g_up t 9 0) 10 1)) P
                              refine q_pop hF rfl dX8_readsOrder_21 ?_
                              refine q_aload_n hF 5 rfl rfl dX8_readsOrder_22 ?_
                              refine q_getIv hF (z := ((g_sk B n (g_len 33 + (g_sk B n (g_len 32 + q))) : Nat) : Int)) fl_RX8_65 hS.t0 q_ps_4 dX8_readsOrder_23 ?_
                              refine q_istore hF (ls' := [(4, qI ((g_sk B n (g_len 33 + (g_sk B n (g_len 32 + q))) : Nat) : Int)), (3, qI (q_b (97 ≤ (g_bt B n (g_sk B n (g_len 33 + (g_sk B n (g_len 32 + q))))) ∧ (g_bt B n (g_sk B n (g_len 33 + (g_sk B n (g_len 32 + q))))) ≤ 122))), (1, qI 2), (2, qI 3), (5, qI 1), (0, .ref m)]) (by decide) rfl dX8_readsOrder_26 ?_
                              refine q_aload_n hF 5 rfl rfl dX8_readsOrder_28 ?_
                              refine q_iconst hF dX8_readsOrder_29 ?_
                              refine q_bipush hF (n := 7) rfl dX8_readsOrder_30 ?_
                              refine q_callV (kc := 0) (ks := 0) (mc' := 0) (ms' := 0) (h' := 6) (st := []) hF vl_RX8_220 rfl [qI 5, qI 7] rfl rfl hS.t0 (by omega) (Nat.le_of_ble_eq_true rfl) dX8_readsOrder_32 ?_
                              refine mX8_one5 hS hSA hB (show (g_sk B n (g_len 33 + (g_sk B n (g_len 32 + q)))) ≤ n by omega) hfl (g_sk_sk (by omega)) (fun (c32_0_33 : g_isW B n 32 (g_sk B n (g_len 33 + (g_sk B n (g_len 32 + q))))) => ?_) (fun (c32_0_33 : ¬ (g_isW B n 32 (g_sk B n (g_len 33 + (g_sk B n (g_len 32 + q)))))) (c32_1_33 : g_isW B n 33 (g_sk B n (g_len 33 + (g_sk B n (g_len 32 + q))))) => ?_) (fun (c32_0_33 : ¬ (g_isW B n 32 (g_sk B n (g_len 33 + (g_sk B n (g_len 32 + q)))))) (c32_1_33 : ¬ (g_isW B n 33 (g_sk B n (g_len 33 + (g_sk B n (g_len 32 + q)))))) (c32_2_33 : g_isW B n 34 (g_sk B n (g_len 33 + (g_sk B n (g_len 32 + q))))) => ?_) (fun (c32_0_33 : ¬ (g_isW B n 32 (g_sk B n (g_len 33 + (g_sk B n (g_len 32 + q)))))) (c32_1_33 : ¬ (g_isW B n 33 (g_sk B n (g_len 33 + (g_sk B n (g_len 32 + q)))))) (c32_2_33 : ¬ (g_isW B n 34 (g_sk B n (g_len 33 + (g_sk B n (g_len 32 + q)))))) => ?_)
                              · show qX G F Q 0 0 35 [(4, qI ((g_sk B n (g_len 33 + (g_sk B n (g_len 32 + q))) : Nat) : Int)), (3, qI (q_b (97 ≤ (g_bt B n (g_sk B n (g_len 33 + (g_sk B n (g_len 32 + q))))) ∧ (g_bt B n (g_sk B n (g_len 33 + (g_sk B n (g_len 32 + q))))) ≤ 122))), (1, qI 2), (2, qI 3), (5, qI 1), (0, .ref m)] [qI 0] sz T (q_ps I m (g_mk (g_len 32 + (g_sk B n (g_len 33 + (g_sk B n (g_len 32 + q))))) s.fl s.fa s.cd s.op s.on s.hp)) (q_row L (m + 4) (g_up (g_up t 9 0) 10 1)) P
                                refine q_istore hF (ls' := [(5, qI 0), (4, qI ((g_sk B n (g_len 33 + (g_sk B n (g_len 32 + q))) : Nat) : Int)), (3, qI (q_b (97 ≤ (g_bt B n (g_sk B n (g_len 33 + (g_sk B n (g_len 32 + q))))) ∧ (g_bt B n (g_sk B n (g_len 33 + (g_sk B n (g_len 32 + q))))) ≤ 122))), (1, qI 2), (2, qI 3), (0, .ref m)]) (by decide) rfl dX8_readsOrder_35 ?_
                                have hwl34 := g_words_ok 32 (by decide)
                                have hwn34 := g_isW_n (g_words_ok 32 (by decide)) (fun k hk => by have := g_ch_r (i := 32) (by decide) hk; omega) c32_0_33
                                have hsr34 := g_sk_r (B := B) (n := n) (k := g_len 32 + (g_sk B n (g_len 33 + (g_sk B n (g_len 32 + q))))) (by omega)
                                refine q_aload_n hF 5 rfl rfl dX8_readsOrder_37 ?_
                                refine q_callV (kc := 0) (ks := 0) (mc' := 0) (ms' := 0) (h' := 0) (st := []) hF vl_RX8_95 rfl [] rfl rfl hS.t0 (by omega) (Nat.le_of_ble_eq_true rfl) dX8_readsOrder_38 ?_
                                refine mX8_fineA hS hfl ?_
                                refine q_ifeq hF (by decide) dX8_readsOrder_41 (fun c41v36 => ?_) (fun c41v36 => ?_)
                                · exact absurd c41v36 (by decide)
                                · refine q_iload_n hF 4 rfl rfl dX8_readsOrder_44 ?_
                                  refine q_iload hF 0 rfl dX8_readsOrder_45 ?_
                                  refine q_ishr hF (c0 := 3) (by decide) dX8_readsOrder_47 ?_
                                  refine q_iconst hF dX8_readsOrder_48 ?_
                                  refine q_iand hF (c0 := 1) (by decide) dX8_readsOrder_49 ?_
                                  refine q_iconst hF dX8_readsOrder_50 ?_
                                  refine q_icmpne hF (by decide) (by decide) dX8_readsOrder_51 (fun c51v37 => ?_) (fun c51v37 => ?_)
                                  · exact absurd c51v37 (by decide)
                                  · refine q_aload_n hF 5 rfl rfl dX8_readsOrder_54 ?_
                                    refine q_iconst hF dX8_readsOrder_55 ?_
                                    refine q_iload hF 1 rfl dX8_readsOrder_56 ?_
                                    refine q_callV (kc := 0) (ks := 0) (mc' := 0) (ms' := 0) (h' := 0) (st := []) hF vl_RX8_106 rfl [qI 1, qI ((g_sk B n (g_len 33 + (g_sk B n (g_len 32 + q))) : Nat) : Int)] rfl rfl hS.t0 (by omega) (Nat.le_of_ble_eq_true rfl) dX8_readsOrder_58 ?_
                                    refine mX8_wrongA hS hSA hfl ?_
                                    show qX G F Q 0 0 61 [(5, qI 0), (4, qI ((g_sk B n (g_len 33 + (g_sk B n (g_len 32 + q))) : Nat) : Int)), (3, qI (q_b (97 ≤ (g_bt B n (g_sk B n (g_len 33 + (g_sk B n (g_len 32 + q))))) ∧ (g_bt B n (g_sk B n (g_len 33 + (g_sk B n (g_len 32 + q))))) ≤ 122))), (1, qI 2), (2, qI 3), (0, .ref m)] [] sz T (q_ps I m (g_mk (g_len 32 + (g_sk B n (g_len 33 + (g_sk B n (g_len 32 + q))))) 1 ((g_sk B n (g_len 33 + (g_sk B n (g_len 32 + q))) : Nat) : Int) s.cd s.op s.on s.hp)) (q_row L (m + 4) (g_up (g_up t 9 0) 10 1)) P
                                    refine q_aload_n hF 5 rfl rfl dX8_readsOrder_61 ?_
                                    refine q_callV (kc := 0) (ks := 0) (mc' := 0) (ms' := 0) (h' := 0) (st := []) hF vl_RX8_95 rfl [] rfl rfl hS.t0 (by omega) (Nat.le_of_ble_eq_true rfl) dX8_readsOrder_62 ?_
                                    refine mX8_fine0 hS (show (1 : Int) ≠ 0 by decide) (show -2147483648 ≤ 1 ∧ 1 < 2147483648 by first | decide | omega | assumption) ?_
                                    refine q_ifne hF (by decide) dX8_readsOrder_65 (fun c65v40 => ?_) (fun c65v40 => ?_)
                                    · exact absurd c65v40 (by decide)
                                    · refine q_return hF rfl dX8_readsOrder_68 ?_
                                      show Q (.inl none) sz T (q_ps I m (g_mk (g_len 32 + (g_sk B n (g_len 33 + (g_sk B n (g_len 32 + q))))) 1 ((g_sk B n (g_len 33 + (g_sk B n (g_len 32 + q))) : Nat) : Int) s.cd s.op s.on s.hp)) (q_row L (m + 4) (g_up (g_up t 9 0) 10 1)) P
                                      exact k1 1 (g_sk B n (g_len 33 + (g_sk B n (g_len 32 + q)))) _ _ (by rw [← hx2, g_rdOrder, g_rdO, if_pos c32_0_3, g_rdO1, if_neg (by decide), if_pos c7v9, g_rdO, if_neg c32_0_13, if_pos c32_1_13, g_rdO1, if_neg (by decide), if_pos c7v29, g_rdO, if_pos c32_0_33, g_rdO1, if_pos (by decide)]) (by decide) rfl rfl (show g_len 32 + (g_sk B n (g_len 33 + (g_sk B n (g_len 32 + q)))) ≤ n by omega)
                              · show qX G F Q 0 0 35 [(4, qI ((g_sk B n (g_len 33 + (g_sk B n (g_len 32 + q))) : Nat) : Int)), (3, qI (q_b (97 ≤ (g_bt B n (g_sk B n (g_len 33 + (g_sk B n (g_len 32 + q))))) ∧ (g_bt B n (g_sk B n (g_len 33 + (g_sk B n (g_len 32 + q))))) ≤ 122))), (1, qI 2), (2, qI 3), (5, qI 1), (0, .ref m)] [qI 1] sz T (q_ps I m (g_mk (g_len 33 + (g_sk B n (g_len 33 + (g_sk B n (g_len 32 + q))))) s.fl s.fa s.cd s.op s.on s.hp)) (q_row L (m + 4) (g_up (g_up t 9 0) 10 1)) P
                                refine q_istore hF (ls' := [(5, qI 1), (4, qI ((g_sk B n (g_len 33 + (g_sk B n (g_len 32 + q))) : Nat) : Int)), (3, qI (q_b (97 ≤ (g_bt B n (g_sk B n (g_len 33 + (g_sk B n (g_len 32 + q))))) ∧ (g_bt B n (g_sk B n (g_len 33 + (g_sk B n (g_len 32 + q))))) ≤ 122))), (1, qI 2), (2, qI 3), (0, .ref m)]) (by decide) rfl dX8_readsOrder_35 ?_
                                have hwl41 := g_words_ok 33 (by decide)
                                have hwn41 := g_isW_n (g_words_ok 33 (by decide)) (fun k hk => by have := g_ch_r (i := 33) (by decide) hk; omega) c32_1_33
                                have hsr41 := g_sk_r (B := B) (n := n) (k := g_len 33 + (g_sk B n (g_len 33 + (g_sk B n (g_len 32 + q))))) (by omega)
                                refine q_aload_n hF 5 rfl rfl dX8_readsOrder_37 ?_
                                refine q_callV (kc := 0) (ks := 0) (mc' := 0) (ms' := 0) (h' := 0) (st := []) hF vl_RX8_95 rfl [] rfl rfl hS.t0 (by omega) (Nat.le_of_ble_eq_true rfl) dX8_readsOrder_38 ?_
                                refine mX8_fineA hS hfl ?_
                                refine q_ifeq hF (by decide) dX8_readsOrder_41 (fun c41v43 => ?_) (fun c41v43 => ?_)
                                · exact absurd c41v43 (by decide)
                                · refine q_iload_n hF 4 rfl rfl dX8_readsOrder_44 ?_
                                  refine q_iload hF 0 rfl dX8_readsOrder_45 ?_
                                  refine q_ishr hF (c0 := 1) (by decide) dX8_readsOrder_47 ?_
                                  refine q_iconst hF dX8_readsOrder_48 ?_
                                  refine q_iand hF (c0 := 1) (by decide) dX8_readsOrder_49 ?_
                                  refine q_iconst hF dX8_readsOrder_50 ?_
                                  refine q_icmpne hF (by decide) (by decide) dX8_readsOrder_51 (fun c51v44 => ?_) (fun c51v44 => ?_)
                                  · exact absurd c51v44 (by decide)
                                  · refine q_aload_n hF 5 rfl rfl dX8_readsOrder_54 ?_
                                    refine q_iconst hF dX8_readsOrder_55 ?_
                                    refine q_iload hF 1 rfl dX8_readsOrder_56 ?_
                                    refine q_callV (kc := 0) (ks := 0) (mc' := 0) (ms' := 0) (h' := 0) (st := []) hF vl_RX8_106 rfl [qI 1, qI ((g_sk B n (g_len 33 + (g_sk B n (g_len 32 + q))) : Nat) : Int)] rfl rfl hS.t0 (by omega) (Nat.le_of_ble_eq_true rfl) dX8_readsOrder_58 ?_
                                    refine mX8_wrongA hS hSA hfl ?_
                                    show qX G F Q 0 0 61 [(5, qI 1), (4, qI ((g_sk B n (g_len 33 + (g_sk B n (g_len 32 + q))) : Nat) : Int)), (3, qI (q_b (97 ≤ (g_bt B n (g_sk B n (g_len 33 + (g_sk B n (g_len 32 + q))))) ∧ (g_bt B n (g_sk B n (g_len 33 + (g_sk B n (g_len 32 + q))))) ≤ 122))), (1, qI 2), (2, qI 3), (0, .ref m)] [] sz T (q_ps I m (g_mk (g_len 33 + (g_sk B n (g_len 33 + (g_sk B n (g_len 32 + q))))) 1 ((g_sk B n (g_len 33 + (g_sk B n (g_len 32 + q))) : Nat) : Int) s.cd s.op s.on s.hp)) (q_row L (m + 4) (g_up (g_up t 9 0) 10 1)) P
                                    refine q_aload_n hF 5 rfl rfl dX8_readsOrder_61 ?_
                                    refine q_callV (kc := 0) (ks := 0) (mc' := 0) (ms' := 0) (h' := 0) (st := []) hF vl_RX8_95 rfl [] rfl rfl hS.t0 (by omega) (Nat.le_of_ble_eq_true rfl) dX8_readsOrder_62 ?_
                                    refine mX8_fine0 hS (show (1 : Int) ≠ 0 by decide) (show -2147483648 ≤ 1 ∧ 1 < 2147483648 by first | decide | omega | assumption) ?_
                                    refine q_ifne hF (by decide) dX8_readsOrder_65 (fun c65v47 => ?_) (fun c65v47 => ?_)
                                    · exact absurd c65v47 (by decide)
                                    · refine q_return hF rfl dX8_readsOrder_68 ?_
                                      show Q (.inl none) sz T (q_ps I m (g_mk (g_len 33 + (g_sk B n (g_len 33 + (g_sk B n (g_len 32 + q))))) 1 ((g_sk B n (g_len 33 + (g_sk B n (g_len 32 + q))) : Nat) : Int) s.cd s.op s.on s.hp)) (q_row L (m + 4) (g_up (g_up t 9 0) 10 1)) P
                                      exact k1 1 (g_sk B n (g_len 33 + (g_sk B n (g_len 32 + q)))) _ _ (by rw [← hx2, g_rdOrder, g_rdO, if_pos c32_0_3, g_rdO1, if_neg (by decide), if_pos c7v9, g_rdO, if_neg c32_0_13, if_pos c32_1_13, g_rdO1, if_neg (by decide), if_pos c7v29, g_rdO, if_neg c32_0_33, if_pos c32_1_33, g_rdO1, if_pos (by decide)]) (by decide) rfl rfl (show g_len 33 + (g_sk B n (g_len 33 + (g_sk B n (g_len 32 + q)))) ≤ n by omega)
                              · show qX G F Q 0 0 35 [(4, qI ((g_sk B n (g_len 33 + (g_sk B n (g_len 32 + q))) : Nat) : Int)), (3, qI (q_b (97 ≤ (g_bt B n (g_sk B n (g_len 33 + (g_sk B n (g_len 32 + q))))) ∧ (g_bt B n (g_sk B n (g_len 33 + (g_sk B n (g_len 32 + q))))) ≤ 122))), (1, qI 2), (2, qI 3), (5, qI 1), (0, .ref m)] [qI 2] sz T (q_ps I m (g_mk (g_len 34 + (g_sk B n (g_len 33 + (g_sk B n (g_len 32 + q))))) s.fl s.fa s.cd s.op s.on s.hp)) (q_row L (m + 4) (g_up (g_up t 9 0) 10 1)) P
                                refine q_istore hF (ls' := [(5, qI 2), (4, qI ((g_sk B n (g_len 33 + (g_sk B n (g_len 32 + q))) : Nat) : Int)), (3, qI (q_b (97 ≤ (g_bt B n (g_sk B n (g_len 33 + (g_sk B n (g_len 32 + q))))) ∧ (g_bt B n (g_sk B n (g_len 33 + (g_sk B n (g_len 32 + q))))) ≤ 122))), (1, qI 2), (2, qI 3), (0, .ref m)]) (by decide) rfl dX8_readsOrder_35 ?_
                                have hwl48 := g_words_ok 34 (by decide)
                                have hwn48 := g_isW_n (g_words_ok 34 (by decide)) (fun k hk => by have := g_ch_r (i := 34) (by decide) hk; omega) c32_2_33
                                have hsr48 := g_sk_r (B := B) (n := n) (k := g_len 34 + (g_sk B n (g_len 33 + (g_sk B n (g_len 32 + q))))) (by omega)
                                refine q_aload_n hF 5 rfl rfl dX8_readsOrder_37 ?_
                                refine q_callV (kc := 0) (ks := 0) (mc' := 0) (ms' := 0) (h' := 0) (st := []) hF vl_RX8_95 rfl [] rfl rfl hS.t0 (by omega) (Nat.le_of_ble_eq_true rfl) dX8_readsOrder_38 ?_
                                refine mX8_fineA hS hfl ?_
                                refine q_ifeq hF (by decide) dX8_readsOrder_41 (fun c41v50 => ?_) (fun c41v50 => ?_)
                                · exact absurd c41v50 (by decide)
                                · refine q_iload_n hF 4 rfl rfl dX8_readsOrder_44 ?_
                                  refine q_iload hF 0 rfl dX8_readsOrder_45 ?_
                                  refine q_ishr hF (c0 := 0) (by decide) dX8_readsOrder_47 ?_
                                  refine q_iconst hF dX8_readsOrder_48 ?_
                                  refine q_iand hF (c0 := 0) (by decide) dX8_readsOrder_49 ?_
                                  refine q_iconst hF dX8_readsOrder_50 ?_
                                  refine q_icmpne hF (by decide) (by decide) dX8_readsOrder_51 (fun c51v51 => ?_) (fun c51v51 => ?_)
                                  · refine q_aload_n hF 5 rfl rfl dX8_readsOrder_61 ?_
                                    refine q_callV (kc := 0) (ks := 0) (mc' := 0) (ms' := 0) (h' := 0) (st := []) hF vl_RX8_95 rfl [] rfl rfl hS.t0 (by omega) (Nat.le_of_ble_eq_true rfl) dX8_readsOrder_62 ?_
                                    refine mX8_fineA hS hfl ?_
                                    refine q_ifne hF (by decide) dX8_readsOrder_65 (fun c65v53 => ?_) (fun c65v53 => ?_)
                                    · refine q_iload_n hF 4 rfl rfl dX8_readsOrder_69 ?_
                                      refine q_iconst hF dX8_readsOrder_70 ?_
                                      refine q_iload hF 0 rfl dX8_readsOrder_71 ?_
                                      refine q_ishl hF (c0 := 4) (by decide) dX8_readsOrder_73 ?_
                                      refine q_ior hF (c0 := 7) (by decide) dX8_readsOrder_74 ?_
                                      refine q_istore_n hF (ls' := [(2, qI 7), (5, qI 2), (4, qI ((g_sk B n (g_len 33 + (g_sk B n (g_len 32 + q))) : Nat) : Int)), (3, qI (q_b (97 ≤ (g_bt B n (g_sk B n (g_len 33 + (g_sk B n (g_len 32 + q))))) ∧ (g_bt B n (g_sk B n (g_len 33 + (g_sk B n (g_len 32 + q))))) ≤ 122))), (1, qI 2), (0, .ref m)]) rfl (by decide) rfl dX8_readsOrder_75 ?_
                                      refine q_aload_n hF 5 rfl rfl dX8_readsOrder_76 ?_
                                      refine q_getA hF fl_RX8_24 rfl hS.t0 hS.p10 dX8_readsOrder_77 ?_
                                      refine q_bipush hF (n := 9) rfl dX8_readsOrder_80 ?_
                                      refine q_iload_n hF 4 rfl rfl dX8_readsOrder_82 ?_
                                      refine q_iadd hF dX8_readsOrder_83 ?_
                                      refine q_iload hF 1 rfl dX8_readsOrder_84 ?_
                                      refine q_i2l hF (by decide) dX8_readsOrder_86 ?_
                                      refine q_lastorev hF (n := 1243) 11 hS.t4 (q_Ale hSA (by omega)) (by omega) (by omega) (by decide) dX8_readsOrder_87 ?_
                                      rw [q_row_u]
                                      refine q_iinc hF (z' := 3) (ls' := [(1, qI 3), (2, qI 7), (5, qI 2), (4, qI ((g_sk B n (g_len 33 + (g_sk B n (g_len 32 + q))) : Nat) : Int)), (3, qI (q_b (97 ≤ (g_bt B n (g_sk B n (g_len 33 + (g_sk B n (g_len 32 + q))))) ∧ (g_bt B n (g_sk B n (g_len 33 + (g_sk B n (g_len 32 + q))))) ≤ 122))), (0, .ref m)]) 4 rfl (by first | rfl | omega) (by decide) rfl dX8_readsOrder_88 ?_
                                      refine q_aload_n hF 5 rfl rfl dX8_readsOrder_91 ?_
                                      refine q_callV (kc := 0) (ks := 0) (mc' := 0) (ms' := 0) (h' := 1) (st := []) hF vl_RX8_78 rfl [] rfl rfl hS.t0 (by omega) (Nat.le_of_ble_eq_true rfl) dX8_readsOrder_92 ?_
                                      refine mX8_herePQ (B := B) (n := n) hS hSA hB (show (g_len 34 + (g_sk B n (g_len 33 + (g_sk B n (g_len 32 + q))))) ≤ n by omega) rfl ?_
                                      show qX G F Q 0 0 95 [(1, qI 3), (2, qI 7), (5, qI 2), (4, qI ((g_sk B n (g_len 33 + (g_sk B n (g_len 32 + q))) : Nat) : Int)), (3, qI (q_b (97 ≤ (g_bt B n (g_sk B n (g_len 33 + (g_sk B n (g_len 32 + q))))) ∧ (g_bt B n (g_sk B n (g_len 33 + (g_sk B n (g_len 32 + q))))) ≤ 122))), (0, .ref m)] [qI (g_bt B n (g_sk B n (g_len 34 + (g_sk B n (g_len 33 + (g_sk B n (g_len 32 + q)))))))] sz T (q_ps I m (g_mk (g_sk B n (g_len 34 + (g_sk B n (g_len 33 + (g_sk B n (g_len 32 + q)))))) s.fl s.fa s.cd s.op s.on s.hp)) (q_row L (m + 4) (g_up (g_up (g_up t 9 0) 10 1) 11 2)) P
                                      refine q_callS (kc := 0) (ks := 0) (mc' := 0) (ms' := 0) (h' := 0) (st := []) hF sl_RX8_91 rfl [qI (g_bt B n (g_sk B n (g_len 34 + (g_sk B n (g_len 33 + (g_sk B n (g_len 32 + q)))))))] rfl rfl (by omega) (Nat.le_of_ble_eq_true rfl) dX8_readsOrder_95 ?_
                                      refine mX8_isSmall (g_bt_32 hB _) ?_
                                      refine q_istore_n hF (ls' := [(3, qI (q_b (97 ≤ (g_bt B n (g_sk B n (g_len 34 + (g_sk B n (g_len 33 + (g_sk B n (g_len 32 + q))))))) ∧ (g_bt B n (g_sk B n (g_len 34 + (g_sk B n (g_len 33 + (g_sk B n (g_len 32 + q))))))) ≤ 122))), (1, qI 3), (2, qI 7), (5, qI 2), (4, qI ((g_sk B n (g_len 33 + (g_sk B n (g_len 32 + q))) : Nat) : Int)), (0, .ref m)]) rfl (by decide) rfl dX8_readsOrder_98 ?_
                                      refine q_goto hF dX8_readsOrder_99 ?_
                                      refine q_iload_n hF 0 rfl rfl dX8_readsOrder_6 ?_
                                      refine q_ifeq_b hF dX8_readsOrder_7 (fun c7v56 => ?_) (fun c7v56 => ?_)
                                      · refine q_aload_n hF 5 rfl rfl dX8_readsOrder_102 ?_
                                        refine q_getA hF fl_RX8_24 rfl hS.t0 hS.p10 dX8_readsOrder_103 ?_
                                        refine q_bipush hF (n := 8) rfl dX8_readsOrder_106 ?_
                                        refine q_iload_n hF 1 rfl rfl dX8_readsOrder_108 ?_
                                        refine q_i2l hF (by decide) dX8_readsOrder_109 ?_
                                        refine q_lastorev hF (n := 1243) 8 hS.t4 (q_Ale hSA (by omega)) rfl (by decide) (by decide) dX8_readsOrder_110 ?_
                                        rw [q_row_u]
                                        refine q_return hF rfl dX8_readsOrder_111 ?_
                                        exact k0 _ _ (by rw [← hx2, g_rdOrder, g_rdO, if_pos c32_0_3, g_rdO1, if_neg (by decide), if_pos c7v9, g_rdO, if_neg c32_0_13, if_pos c32_1_13, g_rdO1, if_neg (by decide), if_pos c7v29, g_rdO, if_neg c32_0_33, if_neg c32_1_33, if_pos c32_2_33, g_rdO1, if_neg (by decide), if_neg c7v56]; try rfl)
                                      · refine q_aload_n hF 5 rfl rfl dX8_readsOrder_10 ?_
                                        refine q_callV (kc := 0) (ks := 0) (mc' := 0) (ms' := 0) (h' := 0) (st := []) hF vl_RX8_95 rfl [] rfl rfl hS.t0 (by omega) (Nat.le_of_ble_eq_true rfl) dX8_readsOrder_11 ?_
                                        refine mX8_fineA hS hfl ?_
                                        refine q_ifeq hF (by decide) dX8_readsOrder_14 (fun c14v58 => ?_) (fun c14v58 => ?_)
                                        · exact absurd c14v58 (by decide)
                                        · skip
                                          refine q_aload_n hF 5 rfl rfl dX8_readsOrder_17 ?_
                                          refine q_callV (kc := 0) (ks := 0) (mc' := 0) (ms' := 0) (h' := 1) (st := []) hF vl_RX8_78 rfl [] rfl rfl hS.t0 (by omega) (Nat.le_of_ble_eq_true rfl) dX8_readsOrder_18 ?_
                                          refine mX8_herePQ (B := B) (n := n) hS hSA hB (show (g_sk B n (g_len 34 + (g_sk B n (g_len 33 + (g_sk B n (g_len 32 + q)))))) ≤ n by omega) (g_sk_sk (by omega)) ?_
                                          show qX G F Q 0 0 21 [(3, qI (q_b (97 ≤ (g_bt B n (g_sk B n (g_len 34 + (g_sk B n (g_len 33 + (g_sk B n (g_len 32 + q))))))) ∧ (g_bt B n (g_sk B n (g_len 34 + (g_sk B n (g_len 33 + (g_sk B n (g_len 32 + q))))))) ≤ 122))), (1, qI 3), (2, qI 7), (5, qI 2), (4, qI ((g_sk B n (g_len 33 + (g_sk B n (g_len 32 + q))) : Nat) : Int)), (0, .ref m)] [qI (g_bt B n (g_sk B n (g_len 34 + (g_sk B n (g_len 33 + (g_sk B n (g_len 32 + q)))))))] sz T (q_ps I m (g_mk (g_sk B n (g_len 34 + (g_sk B n (g_len 33 + (g_sk B n (g_len 32 + q)))))) s.fl s.fa s.cd s.op s.on s.hp)) (q_row L (m + 4) (g_up (g_up (g_up t 9 0) 10 1) 11 2)) P
                                          refine q_pop hF rfl dX8_readsOrder_21 ?_
                                          refine q_aload_n hF 5 rfl rfl dX8_readsOrder_22 ?_
                                          refine q_getIv hF (z := ((g_sk B n (g_len 34 + (g_sk B n (g_len 33 + (g_sk B n (g_len 32 + q))))) : Nat) : Int)) fl_RX8_65 hS.t0 q_ps_4 dX8_readsOrder_23 ?_
                                          refine q_istore hF (ls' := [(4, qI ((g_sk B n (g_len 34 + (g_sk B n (g_len 33 + (g_sk B n (g_len 32 + q))))) : Nat) : Int)), (3, qI (q_b (97 ≤ (g_bt B n (g_sk B n (g_len 34 + (g_sk B n (g_len 33 + (g_sk B n (g_len 32 + q))))))) ∧ (g_bt B n (g_sk B n (g_len 34 + (g_sk B n (g_len 33 + (g_sk B n (g_len 32 + q))))))) ≤ 122))), (1, qI 3), (2, qI 7), (5, qI 2), (0, .ref m)]) (by decide) rfl dX8_readsOrder_26 ?_
                                          refine q_aload_n hF 5 rfl rfl dX8_readsOrder_28 ?_
                                          refine q_iconst hF dX8_readsOrder_29 ?_
                                          refine q_bipush hF (n := 7) rfl dX8_readsOrder_30 ?_
                                          refine q_callV (kc := 0) (ks := 0) (mc' := 0) (ms' := 0) (h' := 6) (st := []) hF vl_RX8_220 rfl [qI 5, qI 7] rfl rfl hS.t0 (by omega) (Nat.le_of_ble_eq_true rfl) dX8_readsOrder_32 ?_
                                          refine mX8_one5 hS hSA hB (show (g_sk B n (g_len 34 + (g_sk B n (g_len 33 + (g_sk B n (g_len 32 + q)))))) ≤ n by omega) hfl (g_sk_sk (by omega)) (fun (c32_0_60 : g_isW B n 32 (g_sk B n (g_len 34 + (g_sk B n (g_len 33 + (g_sk B n (g_len 32 + q))))))) => ?_) (fun (c32_0_60 : ¬ (g_isW B n 32 (g_sk B n (g_len 34 + (g_sk B n (g_len 33 + (g_sk B n (g_len 32 + q)))))))) (c32_1_60 : g_isW B n 33 (g_sk B n (g_len 34 + (g_sk B n (g_len 33 + (g_sk B n (g_len 32 + q))))))) => ?_) (fun (c32_0_60 : ¬ (g_isW B n 32 (g_sk B n (g_len 34 + (g_sk B n (g_len 33 + (g_sk B n (g_len 32 + q)))))))) (c32_1_60 : ¬ (g_isW B n 33 (g_sk B n (g_len 34 + (g_sk B n (g_len 33 + (g_sk B n (g_len 32 + q)))))))) (c32_2_60 : g_isW B n 34 (g_sk B n (g_len 34 + (g_sk B n (g_len 33 + (g_sk B n (g_len 32 + q))))))) => ?_) (fun (c32_0_60 : ¬ (g_isW B n 32 (g_sk B n (g_len 34 + (g_sk B n (g_len 33 + (g_sk B n (g_len 32 + q)))))))) (c32_1_60 : ¬ (g_isW B n 33 (g_sk B n (g_len 34 + (g_sk B n (g_len 33 + (g_sk B n (g_len 32 + q)))))))) (c32_2_60 : ¬ (g_isW B n 34 (g_sk B n (g_len 34 + (g_sk B n (g_len 33 + (g_sk B n (g_len 32 + q)))))))) => ?_)
                                          · show qX G F Q 0 0 35 [(4, qI ((g_sk B n (g_len 34 + (g_sk B n (g_len 33 + (g_sk B n (g_len 32 + q))))) : Nat) : Int)), (3, qI (q_b (97 ≤ (g_bt B n (g_sk B n (g_len 34 + (g_sk B n (g_len 33 + (g_sk B n (g_len 32 + q))))))) ∧ (g_bt B n (g_sk B n (g_len 34 + (g_sk B n (g_len 33 + (g_sk B n (g_len 32 + q))))))) ≤ 122))), (1, qI 3), (2, qI 7), (5, qI 2), (0, .ref m)] [qI 0] sz T (q_ps I m (g_mk (g_len 32 + (g_sk B n (g_len 34 + (g_sk B n (g_len 33 + (g_sk B n (g_len 32 + q))))))) s.fl s.fa s.cd s.op s.on s.hp)) (q_row L (m + 4) (g_up (g_up (g_up t 9 0) 10 1) 11 2)) P
                                            refine q_istore hF (ls' := [(5, qI 0), (4, qI ((g_sk B n (g_len 34 + (g_sk B n (g_len 33 + (g_sk B n (g_len 32 + q))))) : Nat) : Int)), (3, qI (q_b (97 ≤ (g_bt B n (g_sk B n (g_len 34 + (g_sk B n (g_len 33 + (g_sk B n (g_len 32 + q))))))) ∧ (g_bt B n (g_sk B n (g_len 34 + (g_sk B n (g_len 33 + (g_sk B n (g_len 32 + q))))))) ≤ 122))), (1, qI 3), (2, qI 7), (0, .ref m)]) (by decide) rfl dX8_readsOrder_35 ?_
                                            have hwl61 := g_words_ok 32 (by decide)
                                            have hwn61 := g_isW_n (g_words_ok 32 (by decide)) (fun k hk => by have := g_ch_r (i := 32) (by decide) hk; omega) c32_0_60
                                            have hsr61 := g_sk_r (B := B) (n := n) (k := g_len 32 + (g_sk B n (g_len 34 + (g_sk B n (g_len 33 + (g_sk B n (g_len 32 + q))))))) (by omega)
                                            refine q_aload_n hF 5 rfl rfl dX8_readsOrder_37 ?_
                                            refine q_callV (kc := 0) (ks := 0) (mc' := 0) (ms' := 0) (h' := 0) (st := []) hF vl_RX8_95 rfl [] rfl rfl hS.t0 (by omega) (Nat.le_of_ble_eq_true rfl) dX8_readsOrder_38 ?_
                                            refine mX8_fineA hS hfl ?_
                                            refine q_ifeq hF (by decide) dX8_readsOrder_41 (fun c41v63 => ?_) (fun c41v63 => ?_)
                                            · exact absurd c41v63 (by decide)
                                            · refine q_iload_n hF 4 rfl rfl dX8_readsOrder_44 ?_
                                              refine q_iload hF 0 rfl dX8_readsOrder_45 ?_
                                              refine q_ishr hF (c0 := 7) (by decide) dX8_readsOrder_47 ?_
                                              refine q_iconst hF dX8_readsOrder_48 ?_
                                              refine q_iand hF (c0 := 1) (by decide) dX8_readsOrder_49 ?_
                                              refine q_iconst hF dX8_readsOrder_50 ?_
                                              refine q_icmpne hF (by decide) (by decide) dX8_readsOrder_51 (fun c51v64 => ?_) (fun c51v64 => ?_)
                                              · exact absurd c51v64 (by decide)
                                              · refine q_aload_n hF 5 rfl rfl dX8_readsOrder_54 ?_
                                                refine q_iconst hF dX8_readsOrder_55 ?_
                                                refine q_iload hF 1 rfl dX8_readsOrder_56 ?_
                                                refine q_callV (kc := 0) (ks := 0) (mc' := 0) (ms' := 0) (h' := 0) (st := []) hF vl_RX8_106 rfl [qI 1, qI ((g_sk B n (g_len 34 + (g_sk B n (g_len 33 + (g_sk B n (g_len 32 + q))))) : Nat) : Int)] rfl rfl hS.t0 (by omega) (Nat.le_of_ble_eq_true rfl) dX8_readsOrder_58 ?_
                                                refine mX8_wrongA hS hSA hfl ?_
                                                show qX G F Q 0 0 61 [(5, qI 0), (4, qI ((g_sk B n (g_len 34 + (g_sk B n (g_len 33 + (g_sk B n (g_len 32 + q))))) : Nat) : Int)), (3, qI (q_b (97 ≤ (g_bt B n (g_sk B n (g_len 34 + (g_sk B n (g_len 33 + (g_sk B n (g_len 32 + q))))))) ∧ (g_bt B n (g_sk B n (g_len 34 + (g_sk B n (g_len 33 + (g_sk B n (g_len 32 + q))))))) ≤ 122))), (1, qI 3), (2, qI 7), (0, .ref m)] [] sz T (q_ps I m (g_mk (g_len 32 + (g_sk B n (g_len 34 + (g_sk B n (g_len 33 + (g_sk B n (g_len 32 + q))))))) 1 ((g_sk B n (g_len 34 + (g_sk B n (g_len 33 + (g_sk B n (g_len 32 + q))))) : Nat) : Int) s.cd s.op s.on s.hp)) (q_row L (m + 4) (g_up (g_up (g_up t 9 0) 10 1) 11 2)) P
                                                refine q_aload_n hF 5 rfl rfl dX8_readsOrder_61 ?_
                                                refine q_callV (kc := 0) (ks := 0) (mc' := 0) (ms' := 0) (h' := 0) (st := []) hF vl_RX8_95 rfl [] rfl rfl hS.t0 (by omega) (Nat.le_of_ble_eq_true rfl) dX8_readsOrder_62 ?_
                                                refine mX8_fine0 hS (show (1 : Int) ≠ 0 by decide) (show -2147483648 ≤ 1 ∧ 1 < 2147483648 by first | decide | omega | assumption) ?_
                                                refine q_ifne hF (by decide) dX8_readsOrder_65 (fun c65v67 => ?_) (fun c65v67 => ?_)
                                                · exact absurd c65v67 (by decide)
                                                · refine q_return hF rfl dX8_readsOrder_68 ?_
                                                  show Q (.inl none) sz T (q_ps I m (g_mk (g_len 32 + (g_sk B n (g_len 34 + (g_sk B n (g_len 33 + (g_sk B n (g_len 32 + q))))))) 1 ((g_sk B n (g_len 34 + (g_sk B n (g_len 33 + (g_sk B n (g_len 32 + q))))) : Nat) : Int) s.cd s.op s.on s.hp)) (q_row L (m + 4) (g_up (g_up (g_up t 9 0) 10 1) 11 2)) P
                                                  exact k1 1 (g_sk B n (g_len 34 + (g_sk B n (g_len 33 + (g_sk B n (g_len 32 + q)))))) _ _ (by rw [← hx2, g_rdOrder, g_rdO, if_pos c32_0_3, g_rdO1, if_neg (by decide), if_pos c7v9, g_rdO, if_neg c32_0_13, if_pos c32_1_13, g_rdO1, if_neg (by decide), if_pos c7v29, g_rdO, if_neg c32_0_33, if_neg c32_1_33, if_pos c32_2_33, g_rdO1, if_neg (by decide), if_pos c7v56, g_rdO, if_pos c32_0_60, g_rdO1, if_pos (by decide)]) (by decide) rfl rfl (show g_len 32 + (g_sk B n (g_len 34 + (g_sk B n (g_len 33 + (g_sk B n (g_len 32 + q)))))) ≤ n by omega)
                                          · show qX G F Q 0 0 35 [(4, qI ((g_sk B n (g_len 34 + (g_sk B n (g_len 33 + (g_sk B n (g_len 32 + q))))) : Nat) : Int)), (3, qI (q_b (97 ≤ (g_bt B n (g_sk B n (g_len 34 + (g_sk B n (g_len 33 + (g_sk B n (g_len 32 + q))))))) ∧ (g_bt B n (g_sk B n (g_len 34 + (g_sk B n (g_len 33 + (g_sk B n (g_len 32 + q))))))) ≤ 122))), (1, qI 3), (2, qI 7), (5, qI 2), (0, .ref m)] [qI 1] sz T (q_ps I m (g_mk (g_len 33 + (g_sk B n (g_len 34 + (g_sk B n (g_len 33 + (g_sk B n (g_len 32 + q))))))) s.fl s.fa s.cd s.op s.on s.hp)) (q_row L (m + 4) (g_up (g_up (g_up t 9 0) 10 1) 11 2)) P
                                            refine q_istore hF (ls' := [(5, qI 1), (4, qI ((g_sk B n (g_len 34 + (g_sk B n (g_len 33 + (g_sk B n (g_len 32 + q))))) : Nat) : Int)), (3, qI (q_b (97 ≤ (g_bt B n (g_sk B n (g_len 34 + (g_sk B n (g_len 33 + (g_sk B n (g_len 32 + q))))))) ∧ (g_bt B n (g_sk B n (g_len 34 + (g_sk B n (g_len 33 + (g_sk B n (g_len 32 + q))))))) ≤ 122))), (1, qI 3), (2, qI 7), (0, .ref m)]) (by decide) rfl dX8_readsOrder_35 ?_
                                            have hwl68 := g_words_ok 33 (by decide)
                                            have hwn68 := g_isW_n (g_words_ok 33 (by decide)) (fun k hk => by have := g_ch_r (i := 33) (by decide) hk; omega) c32_1_60
                                            have hsr68 := g_sk_r (B := B) (n := n) (k := g_len 33 + (g_sk B n (g_len 34 + (g_sk B n (g_len 33 + (g_sk B n (g_len 32 + q))))))) (by omega)
                                            refine q_aload_n hF 5 rfl rfl dX8_readsOrder_37 ?_
                                            refine q_callV (kc := 0) (ks := 0) (mc' := 0) (ms' := 0) (h' := 0) (st := []) hF vl_RX8_95 rfl [] rfl rfl hS.t0 (by omega) (Nat.le_of_ble_eq_true rfl) dX8_readsOrder_38 ?_
                                            refine mX8_fineA hS hfl ?_
                                            refine q_ifeq hF (by decide) dX8_readsOrder_41 (fun c41v70 => ?_) (fun c41v70 => ?_)
                                            · exact absurd c41v70 (by decide)
                                            · refine q_iload_n hF 4 rfl rfl dX8_readsOrder_44 ?_
                                              refine q_iload hF 0 rfl dX8_readsOrder_45 ?_
                                              refine q_ishr hF (c0 := 3) (by decide) dX8_readsOrder_47 ?_
                                              refine q_iconst hF dX8_readsOrder_48 ?_
                                              refine q_iand hF (c0 := 1) (by decide) dX8_readsOrder_49 ?_
                                              refine q_iconst hF dX8_readsOrder_50 ?_
                                              refine q_icmpne hF (by decide) (by decide) dX8_readsOrder_51 (fun c51v71 => ?_) (fun c51v71 => ?_)
                                              · exact absurd c51v71 (by decide)
                                              · refine q_aload_n hF 5 rfl rfl dX8_readsOrder_54 ?_
                                                refine q_iconst hF dX8_readsOrder_55 ?_
                                                refine q_iload hF 1 rfl dX8_readsOrder_56 ?_
                                                refine q_callV (kc := 0) (ks := 0) (mc' := 0) (ms' := 0) (h' := 0) (st := []) hF vl_RX8_106 rfl [qI 1, qI ((g_sk B n (g_len 34 + (g_sk B n (g_len 33 + (g_sk B n (g_len 32 + q))))) : Nat) : Int)] rfl rfl hS.t0 (by omega) (Nat.le_of_ble_eq_true rfl) dX8_readsOrder_58 ?_
                                                refine mX8_wrongA hS hSA hfl ?_
                                                show qX G F Q 0 0 61 [(5, qI 1), (4, qI ((g_sk B n (g_len 34 + (g_sk B n (g_len 33 + (g_sk B n (g_len 32 + q))))) : Nat) : Int)), (3, qI (q_b (97 ≤ (g_bt B n (g_sk B n (g_len 34 + (g_sk B n (g_len 33 + (g_sk B n (g_len 32 + q))))))) ∧ (g_bt B n (g_sk B n (g_len 34 + (g_sk B n (g_len 33 + (g_sk B n (g_len 32 + q))))))) ≤ 122))), (1, qI 3), (2, qI 7), (0, .ref m)] [] sz T (q_ps I m (g_mk (g_len 33 + (g_sk B n (g_len 34 + (g_sk B n (g_len 33 + (g_sk B n (g_len 32 + q))))))) 1 ((g_sk B n (g_len 34 + (g_sk B n (g_len 33 + (g_sk B n (g_len 32 + q))))) : Nat) : Int) s.cd s.op s.on s.hp)) (q_row L (m + 4) (g_up (g_up (g_up t 9 0) 10 1) 11 2)) P
                                                refine q_aload_n hF 5 rfl rfl dX8_readsOrder_61 ?_
                                                refine q_callV (kc := 0) (ks := 0) (mc' := 0) (ms' := 0) (h' := 0) (st := []) hF vl_RX8_95 rfl [] rfl rfl hS.t0 (by omega) (Nat.le_of_ble_eq_true rfl) dX8_readsOrder_62 ?_
                                                refine mX8_fine0 hS (show (1 : Int) ≠ 0 by decide) (show -2147483648 ≤ 1 ∧ 1 < 2147483648 by first | decide | omega | assumption) ?_
                                                refine q_ifne hF (by decide) dX8_readsOrder_65 (fun c65v74 => ?_) (fun c65v74 => ?_)
                                                · exact absurd c65v74 (by decide)
                                                · refine q_return hF rfl dX8_readsOrder_68 ?_
                                                  show Q (.inl none) sz T (q_ps I m (g_mk (g_len 33 + (g_sk B n (g_len 34 + (g_sk B n (g_len 33 + (g_sk B n (g_len 32 + q))))))) 1 ((g_sk B n (g_len 34 + (g_sk B n (g_len 33 + (g_sk B n (g_len 32 + q))))) : Nat) : Int) s.cd s.op s.on s.hp)) (q_row L (m + 4) (g_up (g_up (g_up t 9 0) 10 1) 11 2)) P
                                                  exact k1 1 (g_sk B n (g_len 34 + (g_sk B n (g_len 33 + (g_sk B n (g_len 32 + q)))))) _ _ (by rw [← hx2, g_rdOrder, g_rdO, if_pos c32_0_3, g_rdO1, if_neg (by decide), if_pos c7v9, g_rdO, if_neg c32_0_13, if_pos c32_1_13, g_rdO1, if_neg (by decide), if_pos c7v29, g_rdO, if_neg c32_0_33, if_neg c32_1_33, if_pos c32_2_33, g_rdO1, if_neg (by decide), if_pos c7v56, g_rdO, if_neg c32_0_60, if_pos c32_1_60, g_rdO1, if_pos (by decide)]) (by decide) rfl rfl (show g_len 33 + (g_sk B n (g_len 34 + (g_sk B n (g_len 33 + (g_sk B n (g_len 32 + q)))))) ≤ n by omega)
                                          · show qX G F Q 0 0 35 [(4, qI ((g_sk B n (g_len 34 + (g_sk B n (g_len 33 + (g_sk B n (g_len 32 + q))))) : Nat) : Int)), (3, qI (q_b (97 ≤ (g_bt B n (g_sk B n (g_len 34 + (g_sk B n (g_len 33 + (g_sk B n (g_len 32 + q))))))) ∧ (g_bt B n (g_sk B n (g_len 34 + (g_sk B n (g_len 33 + (g_sk B n (g_len 32 + q))))))) ≤ 122))), (1, qI 3), (2, qI 7), (5, qI 2), (0, .ref m)] [qI 2] sz T (q_ps I m (g_mk (g_len 34 + (g_sk B n (g_len 34 + (g_sk B n (g_len 33 + (g_sk B n (g_len 32 + q))))))) s.fl s.fa s.cd s.op s.on s.hp)) (q_row L (m + 4) (g_up (g_up (g_up t 9 0) 10 1) 11 2)) P
                                            refine q_istore hF (ls' := [(5, qI 2), (4, qI ((g_sk B n (g_len 34 + (g_sk B n (g_len 33 + (g_sk B n (g_len 32 + q))))) : Nat) : Int)), (3, qI (q_b (97 ≤ (g_bt B n (g_sk B n (g_len 34 + (g_sk B n (g_len 33 + (g_sk B n (g_len 32 + q))))))) ∧ (g_bt B n (g_sk B n (g_len 34 + (g_sk B n (g_len 33 + (g_sk B n (g_len 32 + q))))))) ≤ 122))), (1, qI 3), (2, qI 7), (0, .ref m)]) (by decide) rfl dX8_readsOrder_35 ?_
                                            have hwl75 := g_words_ok 34 (by decide)
                                            have hwn75 := g_isW_n (g_words_ok 34 (by decide)) (fun k hk => by have := g_ch_r (i := 34) (by decide) hk; omega) c32_2_60
                                            have hsr75 := g_sk_r (B := B) (n := n) (k := g_len 34 + (g_sk B n (g_len 34 + (g_sk B n (g_len 33 + (g_sk B n (g_len 32 + q))))))) (by omega)
                                            refine q_aload_n hF 5 rfl rfl dX8_readsOrder_37 ?_
                                            refine q_callV (kc := 0) (ks := 0) (mc' := 0) (ms' := 0) (h' := 0) (st := []) hF vl_RX8_95 rfl [] rfl rfl hS.t0 (by omega) (Nat.le_of_ble_eq_true rfl) dX8_readsOrder_38 ?_
                                            refine mX8_fineA hS hfl ?_
                                            refine q_ifeq hF (by decide) dX8_readsOrder_41 (fun c41v77 => ?_) (fun c41v77 => ?_)
                                            · exact absurd c41v77 (by decide)
                                            · refine q_iload_n hF 4 rfl rfl dX8_readsOrder_44 ?_
                                              refine q_iload hF 0 rfl dX8_readsOrder_45 ?_
                                              refine q_ishr hF (c0 := 1) (by decide) dX8_readsOrder_47 ?_
                                              refine q_iconst hF dX8_readsOrder_48 ?_
                                              refine q_iand hF (c0 := 1) (by decide) dX8_readsOrder_49 ?_
                                              refine q_iconst hF dX8_readsOrder_50 ?_
                                              refine q_icmpne hF (by decide) (by decide) dX8_readsOrder_51 (fun c51v78 => ?_) (fun c51v78 => ?_)
                                              · exact absurd c51v78 (by decide)
                                              · refine q_aload_n hF 5 rfl rfl dX8_readsOrder_54 ?_
                                                refine q_iconst hF dX8_readsOrder_55 ?_
                                                refine q_iload hF 1 rfl dX8_readsOrder_56 ?_
                                                refine q_callV (kc := 0) (ks := 0) (mc' := 0) (ms' := 0) (h' := 0) (st := []) hF vl_RX8_106 rfl [qI 1, qI ((g_sk B n (g_len 34 + (g_sk B n (g_len 33 + (g_sk B n (g_len 32 + q))))) : Nat) : Int)] rfl rfl hS.t0 (by omega) (Nat.le_of_ble_eq_true rfl) dX8_readsOrder_58 ?_
                                                refine mX8_wrongA hS hSA hfl ?_
                                                show qX G F Q 0 0 61 [(5, qI 2), (4, qI ((g_sk B n (g_len 34 + (g_sk B n (g_len 33 + (g_sk B n (g_len 32 + q))))) : Nat) : Int)), (3, qI (q_b (97 ≤ (g_bt B n (g_sk B n (g_len 34 + (g_sk B n (g_len 33 + (g_sk B n (g_len 32 + q))))))) ∧ (g_bt B n (g_sk B n (g_len 34 + (g_sk B n (g_len 33 + (g_sk B n (g_len 32 + q))))))) ≤ 122))), (1, qI 3), (2, qI 7), (0, .ref m)] [] sz T (q_ps I m (g_mk (g_len 34 + (g_sk B n (g_len 34 + (g_sk B n (g_len 33 + (g_sk B n (g_len 32 + q))))))) 1 ((g_sk B n (g_len 34 + (g_sk B n (g_len 33 + (g_sk B n (g_len 32 + q))))) : Nat) : Int) s.cd s.op s.on s.hp)) (q_row L (m + 4) (g_up (g_up (g_up t 9 0) 10 1) 11 2)) P
                                                refine q_aload_n hF 5 rfl rfl dX8_readsOrder_61 ?_
                                                refine q_callV (kc := 0) (ks := 0) (mc' := 0) (ms' := 0) (h' := 0) (st := []) hF vl_RX8_95 rfl [] rfl rfl hS.t0 (by omega) (Nat.le_of_ble_eq_true rfl) dX8_readsOrder_62 ?_
                                                refine mX8_fine0 hS (show (1 : Int) ≠ 0 by decide) (show -2147483648 ≤ 1 ∧ 1 < 2147483648 by first | decide | omega | assumption) ?_
                                                refine q_ifne hF (by decide) dX8_readsOrder_65 (fun c65v81 => ?_) (fun c65v81 => ?_)
                                                · exact absurd c65v81 (by decide)
                                                · refine q_return hF rfl dX8_readsOrder_68 ?_
                                                  show Q (.inl none) sz T (q_ps I m (g_mk (g_len 34 + (g_sk B n (g_len 34 + (g_sk B n (g_len 33 + (g_sk B n (g_len 32 + q))))))) 1 ((g_sk B n (g_len 34 + (g_sk B n (g_len 33 + (g_sk B n (g_len 32 + q))))) : Nat) : Int) s.cd s.op s.on s.hp)) (q_row L (m + 4) (g_up (g_up (g_up t 9 0) 10 1) 11 2)) P
                                                  exact k1 1 (g_sk B n (g_len 34 + (g_sk B n (g_len 33 + (g_sk B n (g_len 32 + q)))))) _ _ (by rw [← hx2, g_rdOrder, g_rdO, if_pos c32_0_3, g_rdO1, if_neg (by decide), if_pos c7v9, g_rdO, if_neg c32_0_13, if_pos c32_1_13, g_rdO1, if_neg (by decide), if_pos c7v29, g_rdO, if_neg c32_0_33, if_neg c32_1_33, if_pos c32_2_33, g_rdO1, if_neg (by decide), if_pos c7v56, g_rdO, if_neg c32_0_60, if_neg c32_1_60, if_pos c32_2_60, g_rdO1, if_pos (by decide)]) (by decide) rfl rfl (show g_len 34 + (g_sk B n (g_len 34 + (g_sk B n (g_len 33 + (g_sk B n (g_len 32 + q)))))) ≤ n by omega)
                                          · show qX G F Q 0 0 35 [(4, qI ((g_sk B n (g_len 34 + (g_sk B n (g_len 33 + (g_sk B n (g_len 32 + q))))) : Nat) : Int)), (3, qI (q_b (97 ≤ (g_bt B n (g_sk B n (g_len 34 + (g_sk B n (g_len 33 + (g_sk B n (g_len 32 + q))))))) ∧ (g_bt B n (g_sk B n (g_len 34 + (g_sk B n (g_len 33 + (g_sk B n (g_len 32 + q))))))) ≤ 122))), (1, qI 3), (2, qI 7), (5, qI 2), (0, .ref m)] [qI (-1)] sz T (q_ps I m (g_mk (g_sk B n (g_len 34 + (g_sk B n (g_len 33 + (g_sk B n (g_len 32 + q)))))) 1 ((g_sk B n (g_len 34 + (g_sk B n (g_len 33 + (g_sk B n (g_len 32 + q))))) : Nat) : Int) s.cd s.op s.on s.hp)) (q_row L (m + 4) (g_up (g_up (g_up t 9 0) 10 1) 11 2)) P
                                            refine q_istore hF (ls' := [(5, qI (-1)), (4, qI ((g_sk B n (g_len 34 + (g_sk B n (g_len 33 + (g_sk B n (g_len 32 + q))))) : Nat) : Int)), (3, qI (q_b (97 ≤ (g_bt B n (g_sk B n (g_len 34 + (g_sk B n (g_len 33 + (g_sk B n (g_len 32 + q))))))) ∧ (g_bt B n (g_sk B n (g_len 34 + (g_sk B n (g_len 33 + (g_sk B n (g_len 32 + q))))))) ≤ 122))), (1, qI 3), (2, qI 7), (0, .ref m)]) (by decide) rfl dX8_readsOrder_35 ?_
                                            skip
                                            refine q_aload_n hF 5 rfl rfl dX8_readsOrder_37 ?_
                                            refine q_callV (kc := 0) (ks := 0) (mc' := 0) (ms' := 0) (h' := 0) (st := []) hF vl_RX8_95 rfl [] rfl rfl hS.t0 (by omega) (Nat.le_of_ble_eq_true rfl) dX8_readsOrder_38 ?_
                                            refine mX8_fine0 hS (show (1 : Int) ≠ 0 by decide) (show -2147483648 ≤ 1 ∧ 1 < 2147483648 by first | decide | omega | assumption) ?_
                                            refine q_ifeq hF (by decide) dX8_readsOrder_41 (fun c41v83 => ?_) (fun c41v83 => ?_)
                                            · refine q_aload_n hF 5 rfl rfl dX8_readsOrder_61 ?_
                                              refine q_callV (kc := 0) (ks := 0) (mc' := 0) (ms' := 0) (h' := 0) (st := []) hF vl_RX8_95 rfl [] rfl rfl hS.t0 (by omega) (Nat.le_of_ble_eq_true rfl) dX8_readsOrder_62 ?_
                                              refine mX8_fine0 hS (show (1 : Int) ≠ 0 by decide) (show -2147483648 ≤ 1 ∧ 1 < 2147483648 by first | decide | omega | assumption) ?_
                                              refine q_ifne hF (by decide) dX8_readsOrder_65 (fun c65v85 => ?_) (fun c65v85 => ?_)
                                              · exact absurd c65v85 (by decide)
                                              · refine q_return hF rfl dX8_readsOrder_68 ?_
                                                show Q (.inl none) sz T (q_ps I m (g_mk (g_sk B n (g_len 34 + (g_sk B n (g_len 33 + (g_sk B n (g_len 32 + q)))))) 1 ((g_sk B n (g_len 34 + (g_sk B n (g_len 33 + (g_sk B n (g_len 32 + q))))) : Nat) : Int) s.cd s.op s.on s.hp)) (q_row L (m + 4) (g_up (g_up (g_up t 9 0) 10 1) 11 2)) P
                                                exact k1 1 (g_sk B n (g_len 34 + (g_sk B n (g_len 33 + (g_sk B n (g_len 32 + q)))))) _ _ (by rw [← hx2, g_rdOrder, g_rdO, if_pos c32_0_3, g_rdO1, if_neg (by decide), if_pos c7v9, g_rdO, if_neg c32_0_13, if_pos c32_1_13, g_rdO1, if_neg (by decide), if_pos c7v29, g_rdO, if_neg c32_0_33, if_neg c32_1_33, if_pos c32_2_33, g_rdO1, if_neg (by decide), if_pos c7v56, g_rdO, if_neg c32_0_60, if_neg c32_1_60, if_neg c32_2_60]) (by decide) rfl rfl (show g_sk B n (g_len 34 + (g_sk B n (g_len 33 + (g_sk B n (g_len 32 + q))))) ≤ n by omega)
                                            · exact absurd c41v83 (by decide)
                                    · exact absurd c65v53 (by decide)
                                  · exact absurd c51v51 (by decide)
                              · show qX G F Q 0 0 35 [(4, qI ((g_sk B n (g_len 33 + (g_sk B n (g_len 32 + q))) : Nat) : Int)), (3, qI (q_b (97 ≤ (g_bt B n (g_sk B n (g_len 33 + (g_sk B n (g_len 32 + q))))) ∧ (g_bt B n (g_sk B n (g_len 33 + (g_sk B n (g_len 32 + q))))) ≤ 122))), (1, qI 2), (2, qI 3), (5, qI 1), (0, .ref m)] [qI (-1)] sz T (q_ps I m (g_mk (g_sk B n (g_len 33 + (g_sk B n (g_len 32 + q)))) 1 ((g_sk B n (g_len 33 + (g_sk B n (g_len 32 + q))) : Nat) : Int) s.cd s.op s.on s.hp)) (q_row L (m + 4) (g_up (g_up t 9 0) 10 1)) P
                                refine q_istore hF (ls' := [(5, qI (-1)), (4, qI ((g_sk B n (g_len 33 + (g_sk B n (g_len 32 + q))) : Nat) : Int)), (3, qI (q_b (97 ≤ (g_bt B n (g_sk B n (g_len 33 + (g_sk B n (g_len 32 + q))))) ∧ (g_bt B n (g_sk B n (g_len 33 + (g_sk B n (g_len 32 + q))))) ≤ 122))), (1, qI 2), (2, qI 3), (0, .ref m)]) (by decide) rfl dX8_readsOrder_35 ?_
                                skip
                                refine q_aload_n hF 5 rfl rfl dX8_readsOrder_37 ?_
                                refine q_callV (kc := 0) (ks := 0) (mc' := 0) (ms' := 0) (h' := 0) (st := []) hF vl_RX8_95 rfl [] rfl rfl hS.t0 (by omega) (Nat.le_of_ble_eq_true rfl) dX8_readsOrder_38 ?_
                                refine mX8_fine0 hS (show (1 : Int) ≠ 0 by decide) (show -2147483648 ≤ 1 ∧ 1 < 2147483648 by first | decide | omega | assumption) ?_
                                refine q_ifeq hF (by decide) dX8_readsOrder_41 (fun c41v87 => ?_) (fun c41v87 => ?_)
                                · refine q_aload_n hF 5 rfl rfl dX8_readsOrder_61 ?_
                                  refine q_callV (kc := 0) (ks := 0) (mc' := 0) (ms' := 0) (h' := 0) (st := []) hF vl_RX8_95 rfl [] rfl rfl hS.t0 (by omega) (Nat.le_of_ble_eq_true rfl) dX8_readsOrder_62 ?_
                                  refine mX8_fine0 hS (show (1 : Int) ≠ 0 by decide) (show -2147483648 ≤ 1 ∧ 1 < 2147483648 by first | decide | omega | assumption) ?_
                                  refine q_ifne hF (by decide) dX8_readsOrder_65 (fun c65v89 => ?_) (fun c65v89 => ?_)
                                  · exact absurd c65v89 (by decide)
                                  · refine q_return hF rfl dX8_readsOrder_68 ?_
                                    show Q (.inl none) sz T (q_ps I m (g_mk (g_sk B n (g_len 33 + (g_sk B n (g_len 32 + q)))) 1 ((g_sk B n (g_len 33 + (g_sk B n (g_len 32 + q))) : Nat) : Int) s.cd s.op s.on s.hp)) (q_row L (m + 4) (g_up (g_up t 9 0) 10 1)) P
                                    exact k1 1 (g_sk B n (g_len 33 + (g_sk B n (g_len 32 + q)))) _ _ (by rw [← hx2, g_rdOrder, g_rdO, if_pos c32_0_3, g_rdO1, if_neg (by decide), if_pos c7v9, g_rdO, if_neg c32_0_13, if_pos c32_1_13, g_rdO1, if_neg (by decide), if_pos c7v29, g_rdO, if_neg c32_0_33, if_neg c32_1_33, if_neg c32_2_33]) (by decide) rfl rfl (show g_sk B n (g_len 33 + (g_sk B n (g_len 32 + q))) ≤ n by omega)
                                · exact absurd c41v87 (by decide)
                        · exact absurd c65v26 (by decide)
                      · exact absurd c51v24 (by decide)
                  · show qX G F Q 0 0 35 [(4, qI ((g_sk B n (g_len 32 + q) : Nat) : Int)), (3, qI (q_b (97 ≤ (g_bt B n (g_sk B n (g_len 32 + q))) ∧ (g_bt B n (g_sk B n (g_len 32 + q))) ≤ 122))), (1, qI 1), (2, qI 1), (5, qI 0), (0, .ref m)] [qI 2] sz T (q_ps I m (g_mk (g_len 34 + (g_sk B n (g_len 32 + q))) s.fl s.fa s.cd s.op s.on s.hp)) (q_row L (m + 4) (g_up t 9 0)) P
                    refine q_istore hF (ls' := [(5, qI 2), (4, qI ((g_sk B n (g_len 32 + q) : Nat) : Int)), (3, qI (q_b (97 ≤ (g_bt B n (g_sk B n (g_len 32 + q))) ∧ (g_bt B n (g_sk B n (g_len 32 + q))) ≤ 122))), (1, qI 1), (2, qI 1), (0, .ref m)]) (by decide) rfl dX8_readsOrder_35 ?_
                    have hwl90 := g_words_ok 34 (by decide)
                    have hwn90 := g_isW_n (g_words_ok 34 (by decide)) (fun k hk => by have := g_ch_r (i := 34) (by decide) hk; omega) c32_2_13
                    have hsr90 := g_sk_r (B := B) (n := n) (k := g_len 34 + (g_sk B n (g_len 32 + q))) (by omega)
                    refine q_aload_n hF 5 rfl rfl dX8_readsOrder_37 ?_
                    refine q_callV (kc := 0) (ks := 0) (mc' := 0) (ms' := 0) (h' := 0) (st := []) hF vl_RX8_95 rfl [] rfl rfl hS.t0 (by omega) (Nat.le_of_ble_eq_true rfl) dX8_readsOrder_38 ?_
                    refine mX8_fineA hS hfl ?_
                    refine q_ifeq hF (by decide) dX8_readsOrder_41 (fun c41v92 => ?_) (fun c41v92 => ?_)
                    · exact absurd c41v92 (by decide)
                    · refine q_iload_n hF 4 rfl rfl dX8_readsOrder_44 ?_
                      refine q_iload hF 0 rfl dX8_readsOrder_45 ?_
                      refine q_ishr hF (c0 := 0) (by decide) dX8_readsOrder_47 ?_
                      refine q_iconst hF dX8_readsOrder_48 ?_
                      refine q_iand hF (c0 := 0) (by decide) dX8_readsOrder_49 ?_
                      refine q_iconst hF dX8_readsOrder_50 ?_
                      refine q_icmpne hF (by decide) (by decide) dX8_readsOrder_51 (fun c51v93 => ?_) (fun c51v93 => ?_)
                      · refine q_aload_n hF 5 rfl rfl dX8_readsOrder_61 ?_
                        refine q_callV (kc := 0) (ks := 0) (mc' := 0) (ms' := 0) (h' := 0) (st := []) hF vl_RX8_95 rfl [] rfl rfl hS.t0 (by omega) (Nat.le_of_ble_eq_true rfl) dX8_readsOrder_62 ?_
                        refine mX8_fineA hS hfl ?_
                        refine q_ifne hF (by decide) dX8_readsOrder_65 (fun c65v95 => ?_) (fun c65v95 => ?_)
                        · refine q_iload_n hF 4 rfl rfl dX8_readsOrder_69 ?_
                          refine q_iconst hF dX8_readsOrder_70 ?_
                          refine q_iload hF 0 rfl dX8_readsOrder_71 ?_
                          refine q_ishl hF (c0 := 4) (by decide) dX8_readsOrder_73 ?_
                          refine q_ior hF (c0 := 5) (by decide) dX8_readsOrder_74 ?_
                          refine q_istore_n hF (ls' := [(2, qI 5), (5, qI 2), (4, qI ((g_sk B n (g_len 32 + q) : Nat) : Int)), (3, qI (q_b (97 ≤ (g_bt B n (g_sk B n (g_len 32 + q))) ∧ (g_bt B n (g_sk B n (g_len 32 + q))) ≤ 122))), (1, qI 1), (0, .ref m)]) rfl (by decide) rfl dX8_readsOrder_75 ?_
                          refine q_aload_n hF 5 rfl rfl dX8_readsOrder_76 ?_
                          refine q_getA hF fl_RX8_24 rfl hS.t0 hS.p10 dX8_readsOrder_77 ?_
                          refine q_bipush hF (n := 9) rfl dX8_readsOrder_80 ?_
                          refine q_iload_n hF 4 rfl rfl dX8_readsOrder_82 ?_
                          refine q_iadd hF dX8_readsOrder_83 ?_
                          refine q_iload hF 1 rfl dX8_readsOrder_84 ?_
                          refine q_i2l hF (by decide) dX8_readsOrder_86 ?_
                          refine q_lastorev hF (n := 1243) 10 hS.t4 (q_Ale hSA (by omega)) (by omega) (by omega) (by decide) dX8_readsOrder_87 ?_
                          rw [q_row_u]
                          refine q_iinc hF (z' := 2) (ls' := [(1, qI 2), (2, qI 5), (5, qI 2), (4, qI ((g_sk B n (g_len 32 + q) : Nat) : Int)), (3, qI (q_b (97 ≤ (g_bt B n (g_sk B n (g_len 32 + q))) ∧ (g_bt B n (g_sk B n (g_len 32 + q))) ≤ 122))), (0, .ref m)]) 4 rfl (by first | rfl | omega) (by decide) rfl dX8_readsOrder_88 ?_
                          refine q_aload_n hF 5 rfl rfl dX8_readsOrder_91 ?_
                          refine q_callV (kc := 0) (ks := 0) (mc' := 0) (ms' := 0) (h' := 1) (st := []) hF vl_RX8_78 rfl [] rfl rfl hS.t0 (by omega) (Nat.le_of_ble_eq_true rfl) dX8_readsOrder_92 ?_
                          refine mX8_herePQ (B := B) (n := n) hS hSA hB (show (g_len 34 + (g_sk B n (g_len 32 + q))) ≤ n by omega) rfl ?_
                          show qX G F Q 0 0 95 [(1, qI 2), (2, qI 5), (5, qI 2), (4, qI ((g_sk B n (g_len 32 + q) : Nat) : Int)), (3, qI (q_b (97 ≤ (g_bt B n (g_sk B n (g_len 32 + q))) ∧ (g_bt B n (g_sk B n (g_len 32 + q))) ≤ 122))), (0, .ref m)] [qI (g_bt B n (g_sk B n (g_len 34 + (g_sk B n (g_len 32 + q)))))] sz T (q_ps I m (g_mk (g_sk B n (g_len 34 + (g_sk B n (g_len 32 + q)))) s.fl s.fa s.cd s.op s.on s.hp)) (q_row L (m + 4) (g_up (g_up t 9 0) 10 2)) P
                          refine q_callS (kc := 0) (ks := 0) (mc' := 0) (ms' := 0) (h' := 0) (st := []) hF sl_RX8_91 rfl [qI (g_bt B n (g_sk B n (g_len 34 + (g_sk B n (g_len 32 + q)))))] rfl rfl (by omega) (Nat.le_of_ble_eq_true rfl) dX8_readsOrder_95 ?_
                          refine mX8_isSmall (g_bt_32 hB _) ?_
                          refine q_istore_n hF (ls' := [(3, qI (q_b (97 ≤ (g_bt B n (g_sk B n (g_len 34 + (g_sk B n (g_len 32 + q))))) ∧ (g_bt B n (g_sk B n (g_len 34 + (g_sk B n (g_len 32 + q))))) ≤ 122))), (1, qI 2), (2, qI 5), (5, qI 2), (4, qI ((g_sk B n (g_len 32 + q) : Nat) : Int)), (0, .ref m)]) rfl (by decide) rfl dX8_readsOrder_98 ?_
                          refine q_goto hF dX8_readsOrder_99 ?_
                          refine q_iload_n hF 0 rfl rfl dX8_readsOrder_6 ?_
                          refine q_ifeq_b hF dX8_readsOrder_7 (fun c7v98 => ?_) (fun c7v98 => ?_)
                          · refine q_aload_n hF 5 rfl rfl dX8_readsOrder_102 ?_
                            refine q_getA hF fl_RX8_24 rfl hS.t0 hS.p10 dX8_readsOrder_103 ?_
                            refine q_bipush hF (n := 8) rfl dX8_readsOrder_106 ?_
                            refine q_iload_n hF 1 rfl rfl dX8_readsOrder_108 ?_
                            refine q_i2l hF (by decide) dX8_readsOrder_109 ?_
                            refine q_lastorev hF (n := 1243) 8 hS.t4 (q_Ale hSA (by omega)) rfl (by decide) (by decide) dX8_readsOrder_110 ?_
                            rw [q_row_u]
                            refine q_return hF rfl dX8_readsOrder_111 ?_
                            exact k0 _ _ (by rw [← hx2, g_rdOrder, g_rdO, if_pos c32_0_3, g_rdO1, if_neg (by decide), if_pos c7v9, g_rdO, if_neg c32_0_13, if_neg c32_1_13, if_pos c32_2_13, g_rdO1, if_neg (by decide), if_neg c7v98]; try rfl)
                          · refine q_aload_n hF 5 rfl rfl dX8_readsOrder_10 ?_
                            refine q_callV (kc := 0) (ks := 0) (mc' := 0) (ms' := 0) (h' := 0) (st := []) hF vl_RX8_95 rfl [] rfl rfl hS.t0 (by omega) (Nat.le_of_ble_eq_true rfl) dX8_readsOrder_11 ?_
                            refine mX8_fineA hS hfl ?_
                            refine q_ifeq hF (by decide) dX8_readsOrder_14 (fun c14v100 => ?_) (fun c14v100 => ?_)
                            · exact absurd c14v100 (by decide)
                            · skip
                              refine q_aload_n hF 5 rfl rfl dX8_readsOrder_17 ?_
                              refine q_callV (kc := 0) (ks := 0) (mc' := 0) (ms' := 0) (h' := 1) (st := []) hF vl_RX8_78 rfl [] rfl rfl hS.t0 (by omega) (Nat.le_of_ble_eq_true rfl) dX8_readsOrder_18 ?_
                              refine mX8_herePQ (B := B) (n := n) hS hSA hB (show (g_sk B n (g_len 34 + (g_sk B n (g_len 32 + q)))) ≤ n by omega) (g_sk_sk (by omega)) ?_
                              show qX G F Q 0 0 21 [(3, qI (q_b (97 ≤ (g_bt B n (g_sk B n (g_len 34 + (g_sk B n (g_len 32 + q))))) ∧ (g_bt B n (g_sk B n (g_len 34 + (g_sk B n (g_len 32 + q))))) ≤ 122))), (1, qI 2), (2, qI 5), (5, qI 2), (4, qI ((g_sk B n (g_len 32 + q) : Nat) : Int)), (0, .ref m)] [qI (g_bt B n (g_sk B n (g_len 34 + (g_sk B n (g_len 32 + q)))))] sz T (q_ps I m (g_mk (g_sk B n (g_len 34 + (g_sk B n (g_len 32 + q)))) s.fl s.fa s.cd s.op s.on s.hp)) (q_row L (m + 4) (g_up (g_up t 9 0) 10 2)) P
                              refine q_pop hF rfl dX8_readsOrder_21 ?_
                              refine q_aload_n hF 5 rfl rfl dX8_readsOrder_22 ?_
                              refine q_getIv hF (z := ((g_sk B n (g_len 34 + (g_sk B n (g_len 32 + q))) : Nat) : Int)) fl_RX8_65 hS.t0 q_ps_4 dX8_readsOrder_23 ?_
                              refine q_istore hF (ls' := [(4, qI ((g_sk B n (g_len 34 + (g_sk B n (g_len 32 + q))) : Nat) : Int)), (3, qI (q_b (97 ≤ (g_bt B n (g_sk B n (g_len 34 + (g_sk B n (g_len 32 + q))))) ∧ (g_bt B n (g_sk B n (g_len 34 + (g_sk B n (g_len 32 + q))))) ≤ 122))), (1, qI 2), (2, qI 5), (5, qI 2), (0, .ref m)]) (by decide) rfl dX8_readsOrder_26 ?_
                              refine q_aload_n hF 5 rfl rfl dX8_readsOrder_28 ?_
                              refine q_iconst hF dX8_readsOrder_29 ?_
                              refine q_bipush hF (n := 7) rfl dX8_readsOrder_30 ?_
                              refine q_callV (kc := 0) (ks := 0) (mc' := 0) (ms' := 0) (h' := 6) (st := []) hF vl_RX8_220 rfl [qI 5, qI 7] rfl rfl hS.t0 (by omega) (Nat.le_of_ble_eq_true rfl) dX8_readsOrder_32 ?_
                              refine mX8_one5 hS hSA hB (show (g_sk B n (g_len 34 + (g_sk B n (g_len 32 + q)))) ≤ n by omega) hfl (g_sk_sk (by omega)) (fun (c32_0_102 : g_isW B n 32 (g_sk B n (g_len 34 + (g_sk B n (g_len 32 + q))))) => ?_) (fun (c32_0_102 : ¬ (g_isW B n 32 (g_sk B n (g_len 34 + (g_sk B n (g_len 32 + q)))))) (c32_1_102 : g_isW B n 33 (g_sk B n (g_len 34 + (g_sk B n (g_len 32 + q))))) => ?_) (fun (c32_0_102 : ¬ (g_isW B n 32 (g_sk B n (g_len 34 + (g_sk B n (g_len 32 + q)))))) (c32_1_102 : ¬ (g_isW B n 33 (g_sk B n (g_len 34 + (g_sk B n (g_len 32 + q)))))) (c32_2_102 : g_isW B n 34 (g_sk B n (g_len 34 + (g_sk B n (g_len 32 + q))))) => ?_) (fun (c32_0_102 : ¬ (g_isW B n 32 (g_sk B n (g_len 34 + (g_sk B n (g_len 32 + q)))))) (c32_1_102 : ¬ (g_isW B n 33 (g_sk B n (g_len 34 + (g_sk B n (g_len 32 + q)))))) (c32_2_102 : ¬ (g_isW B n 34 (g_sk B n (g_len 34 + (g_sk B n (g_len 32 + q)))))) => ?_)
                              · show qX G F Q 0 0 35 [(4, qI ((g_sk B n (g_len 34 + (g_sk B n (g_len 32 + q))) : Nat) : Int)), (3, qI (q_b (97 ≤ (g_bt B n (g_sk B n (g_len 34 + (g_sk B n (g_len 32 + q))))) ∧ (g_bt B n (g_sk B n (g_len 34 + (g_sk B n (g_len 32 + q))))) ≤ 122))), (1, qI 2), (2, qI 5), (5, qI 2), (0, .ref m)] [qI 0] sz T (q_ps I m (g_mk (g_len 32 + (g_sk B n (g_len 34 + (g_sk B n (g_len 32 + q))))) s.fl s.fa s.cd s.op s.on s.hp)) (q_row L (m + 4) (g_up (g_up t 9 0) 10 2)) P
                                refine q_istore hF (ls' := [(5, qI 0), (4, qI ((g_sk B n (g_len 34 + (g_sk B n (g_len 32 + q))) : Nat) : Int)), (3, qI (q_b (97 ≤ (g_bt B n (g_sk B n (g_len 34 + (g_sk B n (g_len 32 + q))))) ∧ (g_bt B n (g_sk B n (g_len 34 + (g_sk B n (g_len 32 + q))))) ≤ 122))), (1, qI 2), (2, qI 5), (0, .ref m)]) (by decide) rfl dX8_readsOrder_35 ?_
                                have hwl103 := g_words_ok 32 (by decide)
                                have hwn103 := g_isW_n (g_words_ok 32 (by decide)) (fun k hk => by have := g_ch_r (i := 32) (by decide) hk; omega) c32_0_102
                                have hsr103 := g_sk_r (B := B) (n := n) (k := g_len 32 + (g_sk B n (g_len 34 + (g_sk B n (g_len 32 + q))))) (by omega)
                                refine q_aload_n hF 5 rfl rfl dX8_readsOrder_37 ?_
                                refine q_callV (kc := 0) (ks := 0) (mc' := 0) (ms' := 0) (h' := 0) (st := []) hF vl_RX8_95 rfl [] rfl rfl hS.t0 (by omega) (Nat.le_of_ble_eq_true rfl) dX8_readsOrder_38 ?_
                                refine mX8_fineA hS hfl ?_
                                refine q_ifeq hF (by decide) dX8_readsOrder_41 (fun c41v105 => ?_) (fun c41v105 => ?_)
                                · exact absurd c41v105 (by decide)
                                · refine q_iload_n hF 4 rfl rfl dX8_readsOrder_44 ?_
                                  refine q_iload hF 0 rfl dX8_readsOrder_45 ?_
                                  refine q_ishr hF (c0 := 5) (by decide) dX8_readsOrder_47 ?_
                                  refine q_iconst hF dX8_readsOrder_48 ?_
                                  refine q_iand hF (c0 := 1) (by decide) dX8_readsOrder_49 ?_
                                  refine q_iconst hF dX8_readsOrder_50 ?_
                                  refine q_icmpne hF (by decide) (by decide) dX8_readsOrder_51 (fun c51v106 => ?_) (fun c51v106 => ?_)
                                  · exact absurd c51v106 (by decide)
                                  · refine q_aload_n hF 5 rfl rfl dX8_readsOrder_54 ?_
                                    refine q_iconst hF dX8_readsOrder_55 ?_
                                    refine q_iload hF 1 rfl dX8_readsOrder_56 ?_
                                    refine q_callV (kc := 0) (ks := 0) (mc' := 0) (ms' := 0) (h' := 0) (st := []) hF vl_RX8_106 rfl [qI 1, qI ((g_sk B n (g_len 34 + (g_sk B n (g_len 32 + q))) : Nat) : Int)] rfl rfl hS.t0 (by omega) (Nat.le_of_ble_eq_true rfl) dX8_readsOrder_58 ?_
                                    refine mX8_wrongA hS hSA hfl ?_
                                    show qX G F Q 0 0 61 [(5, qI 0), (4, qI ((g_sk B n (g_len 34 + (g_sk B n (g_len 32 + q))) : Nat) : Int)), (3, qI (q_b (97 ≤ (g_bt B n (g_sk B n (g_len 34 + (g_sk B n (g_len 32 + q))))) ∧ (g_bt B n (g_sk B n (g_len 34 + (g_sk B n (g_len 32 + q))))) ≤ 122))), (1, qI 2), (2, qI 5), (0, .ref m)] [] sz T (q_ps I m (g_mk (g_len 32 + (g_sk B n (g_len 34 + (g_sk B n (g_len 32 + q))))) 1 ((g_sk B n (g_len 34 + (g_sk B n (g_len 32 + q))) : Nat) : Int) s.cd s.op s.on s.hp)) (q_row L (m + 4) (g_up (g_up t 9 0) 10 2)) P
                                    refine q_aload_n hF 5 rfl rfl dX8_readsOrder_61 ?_
                                    refine q_callV (kc := 0) (ks := 0) (mc' := 0) (ms' := 0) (h' := 0) (st := []) hF vl_RX8_95 rfl [] rfl rfl hS.t0 (by omega) (Nat.le_of_ble_eq_true rfl) dX8_readsOrder_62 ?_
                                    refine mX8_fine0 hS (show (1 : Int) ≠ 0 by decide) (show -2147483648 ≤ 1 ∧ 1 < 2147483648 by first | decide | omega | assumption) ?_
                                    refine q_ifne hF (by decide) dX8_readsOrder_65 (fun c65v109 => ?_) (fun c65v109 => ?_)
                                    · exact absurd c65v109 (by decide)
                                    · refine q_return hF rfl dX8_readsOrder_68 ?_
                                      show Q (.inl none) sz T (q_ps I m (g_mk (g_len 32 + (g_sk B n (g_len 34 + (g_sk B n (g_len 32 + q))))) 1 ((g_sk B n (g_len 34 + (g_sk B n (g_len 32 + q))) : Nat) : Int) s.cd s.op s.on s.hp)) (q_row L (m + 4) (g_up (g_up t 9 0) 10 2)) P
                                      exact k1 1 (g_sk B n (g_len 34 + (g_sk B n (g_len 32 + q)))) _ _ (by rw [← hx2, g_rdOrder, g_rdO, if_pos c32_0_3, g_rdO1, if_neg (by decide), if_pos c7v9, g_rdO, if_neg c32_0_13, if_neg c32_1_13, if_pos c32_2_13, g_rdO1, if_neg (by decide), if_pos c7v98, g_rdO, if_pos c32_0_102, g_rdO1, if_pos (by decide)]) (by decide) rfl rfl (show g_len 32 + (g_sk B n (g_len 34 + (g_sk B n (g_len 32 + q)))) ≤ n by omega)
                              · show qX G F Q 0 0 35 [(4, qI ((g_sk B n (g_len 34 + (g_sk B n (g_len 32 + q))) : Nat) : Int)), (3, qI (q_b (97 ≤ (g_bt B n (g_sk B n (g_len 34 + (g_sk B n (g_len 32 + q))))) ∧ (g_bt B n (g_sk B n (g_len 34 + (g_sk B n (g_len 32 + q))))) ≤ 122))), (1, qI 2), (2, qI 5), (5, qI 2), (0, .ref m)] [qI 1] sz T (q_ps I m (g_mk (g_len 33 + (g_sk B n (g_len 34 + (g_sk B n (g_len 32 + q))))) s.fl s.fa s.cd s.op s.on s.hp)) (q_row L (m + 4) (g_up (g_up t 9 0) 10 2)) P
                                refine q_istore hF (ls' := [(5, qI 1), (4, qI ((g_sk B n (g_len 34 + (g_sk B n (g_len 32 + q))) : Nat) : Int)), (3, qI (q_b (97 ≤ (g_bt B n (g_sk B n (g_len 34 + (g_sk B n (g_len 32 + q))))) ∧ (g_bt B n (g_sk B n (g_len 34 + (g_sk B n (g_len 32 + q))))) ≤ 122))), (1, qI 2), (2, qI 5), (0, .ref m)]) (by decide) rfl dX8_readsOrder_35 ?_
                                have hwl110 := g_words_ok 33 (by decide)
                                have hwn110 := g_isW_n (g_words_ok 33 (by decide)) (fun k hk => by have := g_ch_r (i := 33) (by decide) hk; omega) c32_1_102
                                have hsr110 := g_sk_r (B := B) (n := n) (k := g_len 33 + (g_sk B n (g_len 34 + (g_sk B n (g_len 32 + q))))) (by omega)
                                refine q_aload_n hF 5 rfl rfl dX8_readsOrder_37 ?_
                                refine q_callV (kc := 0) (ks := 0) (mc' := 0) (ms' := 0) (h' := 0) (st := []) hF vl_RX8_95 rfl [] rfl rfl hS.t0 (by omega) (Nat.le_of_ble_eq_true rfl) dX8_readsOrder_38 ?_
                                refine mX8_fineA hS hfl ?_
                                refine q_ifeq hF (by decide) dX8_readsOrder_41 (fun c41v112 => ?_) (fun c41v112 => ?_)
                                · exact absurd c41v112 (by decide)
                                · refine q_iload_n hF 4 rfl rfl dX8_readsOrder_44 ?_
                                  refine q_iload hF 0 rfl dX8_readsOrder_45 ?_
                                  refine q_ishr hF (c0 := 2) (by decide) dX8_readsOrder_47 ?_
                                  refine q_iconst hF dX8_readsOrder_48 ?_
                                  refine q_iand hF (c0 := 0) (by decide) dX8_readsOrder_49 ?_
                                  refine q_iconst hF dX8_readsOrder_50 ?_
                                  refine q_icmpne hF (by decide) (by decide) dX8_readsOrder_51 (fun c51v113 => ?_) (fun c51v113 => ?_)
                                  · refine q_aload_n hF 5 rfl rfl dX8_readsOrder_61 ?_
                                    refine q_callV (kc := 0) (ks := 0) (mc' := 0) (ms' := 0) (h' := 0) (st := []) hF vl_RX8_95 rfl [] rfl rfl hS.t0 (by omega) (Nat.le_of_ble_eq_true rfl) dX8_readsOrder_62 ?_
                                    refine mX8_fineA hS hfl ?_
                                    refine q_ifne hF (by decide) dX8_readsOrder_65 (fun c65v115 => ?_) (fun c65v115 => ?_)
                                    · refine q_iload_n hF 4 rfl rfl dX8_readsOrder_69 ?_
                                      refine q_iconst hF dX8_readsOrder_70 ?_
                                      refine q_iload hF 0 rfl dX8_readsOrder_71 ?_
                                      refine q_ishl hF (c0 := 2) (by decide) dX8_readsOrder_73 ?_
                                      refine q_ior hF (c0 := 7) (by decide) dX8_readsOrder_74 ?_
                                      refine q_istore_n hF (ls' := [(2, qI 7), (5, qI 1), (4, qI ((g_sk B n (g_len 34 + (g_sk B n (g_len 32 + q))) : Nat) : Int)), (3, qI (q_b (97 ≤ (g_bt B n (g_sk B n (g_len 34 + (g_sk B n (g_len 32 + q))))) ∧ (g_bt B n (g_sk B n (g_len 34 + (g_sk B n (g_len 32 + q))))) ≤ 122))), (1, qI 2), (0, .ref m)]) rfl (by decide) rfl dX8_readsOrder_75 ?_
                                      refine q_aload_n hF 5 rfl rfl dX8_readsOrder_76 ?_
                                      refine q_getA hF fl_RX8_24 rfl hS.t0 hS.p10 dX8_readsOrder_77 ?_
                                      refine q_bipush hF (n := 9) rfl dX8_readsOrder_80 ?_
                                      refine q_iload_n hF 4 rfl rfl dX8_readsOrder_82 ?_
                                      refine q_iadd hF dX8_readsOrder_83 ?_
                                      refine q_iload hF 1 rfl dX8_readsOrder_84 ?_
                                      refine q_i2l hF (by decide) dX8_readsOrder_86 ?_
                                      refine q_lastorev hF (n := 1243) 11 hS.t4 (q_Ale hSA (by omega)) (by omega) (by omega) (by decide) dX8_readsOrder_87 ?_
                                      rw [q_row_u]
                                      refine q_iinc hF (z' := 3) (ls' := [(1, qI 3), (2, qI 7), (5, qI 1), (4, qI ((g_sk B n (g_len 34 + (g_sk B n (g_len 32 + q))) : Nat) : Int)), (3, qI (q_b (97 ≤ (g_bt B n (g_sk B n (g_len 34 + (g_sk B n (g_len 32 + q))))) ∧ (g_bt B n (g_sk B n (g_len 34 + (g_sk B n (g_len 32 + q))))) ≤ 122))), (0, .ref m)]) 4 rfl (by first | rfl | omega) (by decide) rfl dX8_readsOrder_88 ?_
                                      refine q_aload_n hF 5 rfl rfl dX8_readsOrder_91 ?_
                                      refine q_callV (kc := 0) (ks := 0) (mc' := 0) (ms' := 0) (h' := 1) (st := []) hF vl_RX8_78 rfl [] rfl rfl hS.t0 (by omega) (Nat.le_of_ble_eq_true rfl) dX8_readsOrder_92 ?_
                                      refine mX8_herePQ (B := B) (n := n) hS hSA hB (show (g_len 33 + (g_sk B n (g_len 34 + (g_sk B n (g_len 32 + q))))) ≤ n by omega) rfl ?_
                                      show qX G F Q 0 0 95 [(1, qI 3), (2, qI 7), (5, qI 1), (4, qI ((g_sk B n (g_len 34 + (g_sk B n (g_len 32 + q))) : Nat) : Int)), (3, qI (q_b (97 ≤ (g_bt B n (g_sk B n (g_len 34 + (g_sk B n (g_len 32 + q))))) ∧ (g_bt B n (g_sk B n (g_len 34 + (g_sk B n (g_len 32 + q))))) ≤ 122))), (0, .ref m)] [qI (g_bt B n (g_sk B n (g_len 33 + (g_sk B n (g_len 34 + (g_sk B n (g_len 32 + q)))))))] sz T (q_ps I m (g_mk (g_sk B n (g_len 33 + (g_sk B n (g_len 34 + (g_sk B n (g_len 32 + q)))))) s.fl s.fa s.cd s.op s.on s.hp)) (q_row L (m + 4) (g_up (g_up (g_up t 9 0) 10 2) 11 1)) P
                                      refine q_callS (kc := 0) (ks := 0) (mc' := 0) (ms' := 0) (h' := 0) (st := []) hF sl_RX8_91 rfl [qI (g_bt B n (g_sk B n (g_len 33 + (g_sk B n (g_len 34 + (g_sk B n (g_len 32 + q)))))))] rfl rfl (by omega) (Nat.le_of_ble_eq_true rfl) dX8_readsOrder_95 ?_
                                      refine mX8_isSmall (g_bt_32 hB _) ?_
                                      refine q_istore_n hF (ls' := [(3, qI (q_b (97 ≤ (g_bt B n (g_sk B n (g_len 33 + (g_sk B n (g_len 34 + (g_sk B n (g_len 32 + q))))))) ∧ (g_bt B n (g_sk B n (g_len 33 + (g_sk B n (g_len 34 + (g_sk B n (g_len 32 + q))))))) ≤ 122))), (1, qI 3), (2, qI 7), (5, qI 1), (4, qI ((g_sk B n (g_len 34 + (g_sk B n (g_len 32 + q))) : Nat) : Int)), (0, .ref m)]) rfl (by decide) rfl dX8_readsOrder_98 ?_
                                      refine q_goto hF dX8_readsOrder_99 ?_
                                      refine q_iload_n hF 0 rfl rfl dX8_readsOrder_6 ?_
                                      refine q_ifeq_b hF dX8_readsOrder_7 (fun c7v118 => ?_) (fun c7v118 => ?_)
                                      · refine q_aload_n hF 5 rfl rfl dX8_readsOrder_102 ?_
                                        refine q_getA hF fl_RX8_24 rfl hS.t0 hS.p10 dX8_readsOrder_103 ?_
                                        refine q_bipush hF (n := 8) rfl dX8_readsOrder_106 ?_
                                        refine q_iload_n hF 1 rfl rfl dX8_readsOrder_108 ?_
                                        refine q_i2l hF (by decide) dX8_readsOrder_109 ?_
                                        refine q_lastorev hF (n := 1243) 8 hS.t4 (q_Ale hSA (by omega)) rfl (by decide) (by decide) dX8_readsOrder_110 ?_
                                        rw [q_row_u]
                                        refine q_return hF rfl dX8_readsOrder_111 ?_
                                        exact k0 _ _ (by rw [← hx2, g_rdOrder, g_rdO, if_pos c32_0_3, g_rdO1, if_neg (by decide), if_pos c7v9, g_rdO, if_neg c32_0_13, if_neg c32_1_13, if_pos c32_2_13, g_rdO1, if_neg (by decide), if_pos c7v98, g_rdO, if_neg c32_0_102, if_pos c32_1_102, g_rdO1, if_neg (by decide), if_neg c7v118]; try rfl)
                                      · refine q_aload_n hF 5 rfl rfl dX8_readsOrder_10 ?_
                                        refine q_callV (kc := 0) (ks := 0) (mc' := 0) (ms' := 0) (h' := 0) (st := []) hF vl_RX8_95 rfl [] rfl rfl hS.t0 (by omega) (Nat.le_of_ble_eq_true rfl) dX8_readsOrder_11 ?_
                                        refine mX8_fineA hS hfl ?_
                                        refine q_ifeq hF (by decide) dX8_readsOrder_14 (fun c14v120 => ?_) (fun c14v120 => ?_)
                                        · exact absurd c14v120 (by decide)
                                        · skip
                                          refine q_aload_n hF 5 rfl rfl dX8_readsOrder_17 ?_
                                          refine q_callV (kc := 0) (ks := 0) (mc' := 0) (ms' := 0) (h' := 1) (st := []) hF vl_RX8_78 rfl [] rfl rfl hS.t0 (by omega) (Nat.le_of_ble_eq_true rfl) dX8_readsOrder_18 ?_
                                          refine mX8_herePQ (B := B) (n := n) hS hSA hB (show (g_sk B n (g_len 33 + (g_sk B n (g_len 34 + (g_sk B n (g_len 32 + q)))))) ≤ n by omega) (g_sk_sk (by omega)) ?_
                                          show qX G F Q 0 0 21 [(3, qI (q_b (97 ≤ (g_bt B n (g_sk B n (g_len 33 + (g_sk B n (g_len 34 + (g_sk B n (g_len 32 + q))))))) ∧ (g_bt B n (g_sk B n (g_len 33 + (g_sk B n (g_len 34 + (g_sk B n (g_len 32 + q))))))) ≤ 122))), (1, qI 3), (2, qI 7), (5, qI 1), (4, qI ((g_sk B n (g_len 34 + (g_sk B n (g_len 32 + q))) : Nat) : Int)), (0, .ref m)] [qI (g_bt B n (g_sk B n (g_len 33 + (g_sk B n (g_len 34 + (g_sk B n (g_len 32 + q)))))))] sz T (q_ps I m (g_mk (g_sk B n (g_len 33 + (g_sk B n (g_len 34 + (g_sk B n (g_len 32 + q)))))) s.fl s.fa s.cd s.op s.on s.hp)) (q_row L (m + 4) (g_up (g_up (g_up t 9 0) 10 2) 11 1)) P
                                          refine q_pop hF rfl dX8_readsOrder_21 ?_
                                          refine q_aload_n hF 5 rfl rfl dX8_readsOrder_22 ?_
                                          refine q_getIv hF (z := ((g_sk B n (g_len 33 + (g_sk B n (g_len 34 + (g_sk B n (g_len 32 + q))))) : Nat) : Int)) fl_RX8_65 hS.t0 q_ps_4 dX8_readsOrder_23 ?_
                                          refine q_istore hF (ls' := [(4, qI ((g_sk B n (g_len 33 + (g_sk B n (g_len 34 + (g_sk B n (g_len 32 + q))))) : Nat) : Int)), (3, qI (q_b (97 ≤ (g_bt B n (g_sk B n (g_len 33 + (g_sk B n (g_len 34 + (g_sk B n (g_len 32 + q))))))) ∧ (g_bt B n (g_sk B n (g_len 33 + (g_sk B n (g_len 34 + (g_sk B n (g_len 32 + q))))))) ≤ 122))), (1, qI 3), (2, qI 7), (5, qI 1), (0, .ref m)]) (by decide) rfl dX8_readsOrder_26 ?_
                                          refine q_aload_n hF 5 rfl rfl dX8_readsOrder_28 ?_
                                          refine q_iconst hF dX8_readsOrder_29 ?_
                                          refine q_bipush hF (n := 7) rfl dX8_readsOrder_30 ?_
                                          refine q_callV (kc := 0) (ks := 0) (mc' := 0) (ms' := 0) (h' := 6) (st := []) hF vl_RX8_220 rfl [qI 5, qI 7] rfl rfl hS.t0 (by omega) (Nat.le_of_ble_eq_true rfl) dX8_readsOrder_32 ?_
                                          refine mX8_one5 hS hSA hB (show (g_sk B n (g_len 33 + (g_sk B n (g_len 34 + (g_sk B n (g_len 32 + q)))))) ≤ n by omega) hfl (g_sk_sk (by omega)) (fun (c32_0_122 : g_isW B n 32 (g_sk B n (g_len 33 + (g_sk B n (g_len 34 + (g_sk B n (g_len 32 + q))))))) => ?_) (fun (c32_0_122 : ¬ (g_isW B n 32 (g_sk B n (g_len 33 + (g_sk B n (g_len 34 + (g_sk B n (g_len 32 + q)))))))) (c32_1_122 : g_isW B n 33 (g_sk B n (g_len 33 + (g_sk B n (g_len 34 + (g_sk B n (g_len 32 + q))))))) => ?_) (fun (c32_0_122 : ¬ (g_isW B n 32 (g_sk B n (g_len 33 + (g_sk B n (g_len 34 + (g_sk B n (g_len 32 + q)))))))) (c32_1_122 : ¬ (g_isW B n 33 (g_sk B n (g_len 33 + (g_sk B n (g_len 34 + (g_sk B n (g_len 32 + q)))))))) (c32_2_122 : g_isW B n 34 (g_sk B n (g_len 33 + (g_sk B n (g_len 34 + (g_sk B n (g_len 32 + q))))))) => ?_) (fun (c32_0_122 : ¬ (g_isW B n 32 (g_sk B n (g_len 33 + (g_sk B n (g_len 34 + (g_sk B n (g_len 32 + q)))))))) (c32_1_122 : ¬ (g_isW B n 33 (g_sk B n (g_len 33 + (g_sk B n (g_len 34 + (g_sk B n (g_len 32 + q)))))))) (c32_2_122 : ¬ (g_isW B n 34 (g_sk B n (g_len 33 + (g_sk B n (g_len 34 + (g_sk B n (g_len 32 + q)))))))) => ?_)
                                          · show qX G F Q 0 0 35 [(4, qI ((g_sk B n (g_len 33 + (g_sk B n (g_len 34 + (g_sk B n (g_len 32 + q))))) : Nat) : Int)), (3, qI (q_b (97 ≤ (g_bt B n (g_sk B n (g_len 33 + (g_sk B n (g_len 34 + (g_sk B n (g_len 32 + q))))))) ∧ (g_bt B n (g_sk B n (g_len 33 + (g_sk B n (g_len 34 + (g_sk B n (g_len 32 + q))))))) ≤ 122))), (1, qI 3), (2, qI 7), (5, qI 1), (0, .ref m)] [qI 0] sz T (q_ps I m (g_mk (g_len 32 + (g_sk B n (g_len 33 + (g_sk B n (g_len 34 + (g_sk B n (g_len 32 + q))))))) s.fl s.fa s.cd s.op s.on s.hp)) (q_row L (m + 4) (g_up (g_up (g_up t 9 0) 10 2) 11 1)) P
                                            refine q_istore hF (ls' := [(5, qI 0), (4, qI ((g_sk B n (g_len 33 + (g_sk B n (g_len 34 + (g_sk B n (g_len 32 + q))))) : Nat) : Int)), (3, qI (q_b (97 ≤ (g_bt B n (g_sk B n (g_len 33 + (g_sk B n (g_len 34 + (g_sk B n (g_len 32 + q))))))) ∧ (g_bt B n (g_sk B n (g_len 33 + (g_sk B n (g_len 34 + (g_sk B n (g_len 32 + q))))))) ≤ 122))), (1, qI 3), (2, qI 7), (0, .ref m)]) (by decide) rfl dX8_readsOrder_35 ?_
                                            have hwl123 := g_words_ok 32 (by decide)
                                            have hwn123 := g_isW_n (g_words_ok 32 (by decide)) (fun k hk => by have := g_ch_r (i := 32) (by decide) hk; omega) c32_0_122
                                            have hsr123 := g_sk_r (B := B) (n := n) (k := g_len 32 + (g_sk B n (g_len 33 + (g_sk B n (g_len 34 + (g_sk B n (g_len 32 + q))))))) (by omega)
                                            refine q_aload_n hF 5 rfl rfl dX8_readsOrder_37 ?_
                                            refine q_callV (kc := 0) (ks := 0) (mc' := 0) (ms' := 0) (h' := 0) (st := []) hF vl_RX8_95 rfl [] rfl rfl hS.t0 (by omega) (Nat.le_of_ble_eq_true rfl) dX8_readsOrder_38 ?_
                                            refine mX8_fineA hS hfl ?_
                                            refine q_ifeq hF (by decide) dX8_readsOrder_41 (fun c41v125 => ?_) (fun c41v125 => ?_)
                                            · exact absurd c41v125 (by decide)
                                            · refine q_iload_n hF 4 rfl rfl dX8_readsOrder_44 ?_
                                              refine q_iload hF 0 rfl dX8_readsOrder_45 ?_
                                              refine q_ishr hF (c0 := 7) (by decide) dX8_readsOrder_47 ?_
                                              refine q_iconst hF dX8_readsOrder_48 ?_
                                              refine q_iand hF (c0 := 1) (by decide) dX8_readsOrder_49 ?_
                                              refine q_iconst hF dX8_readsOrder_50 ?_
                                              refine q_icmpne hF (by decide) (by decide) dX8_readsOrder_51 (fun c51v126 => ?_) (fun c51v126 => ?_)
                                              · exact absurd c51v126 (by decide)
                                              · refine q_aload_n hF 5 rfl rfl dX8_readsOrder_54 ?_
                                                refine q_iconst hF dX8_readsOrder_55 ?_
                                                refine q_iload hF 1 rfl dX8_readsOrder_56 ?_
                                                refine q_callV (kc := 0) (ks := 0) (mc' := 0) (ms' := 0) (h' := 0) (st := []) hF vl_RX8_106 rfl [qI 1, qI ((g_sk B n (g_len 33 + (g_sk B n (g_len 34 + (g_sk B n (g_len 32 + q))))) : Nat) : Int)] rfl rfl hS.t0 (by omega) (Nat.le_of_ble_eq_true rfl) dX8_readsOrder_58 ?_
                                                refine mX8_wrongA hS hSA hfl ?_
                                                show qX G F Q 0 0 61 [(5, qI 0), (4, qI ((g_sk B n (g_len 33 + (g_sk B n (g_len 34 + (g_sk B n (g_len 32 + q))))) : Nat) : Int)), (3, qI (q_b (97 ≤ (g_bt B n (g_sk B n (g_len 33 + (g_sk B n (g_len 34 + (g_sk B n (g_len 32 + q))))))) ∧ (g_bt B n (g_sk B n (g_len 33 + (g_sk B n (g_len 34 + (g_sk B n (g_len 32 + q))))))) ≤ 122))), (1, qI 3), (2, qI 7), (0, .ref m)] [] sz T (q_ps I m (g_mk (g_len 32 + (g_sk B n (g_len 33 + (g_sk B n (g_len 34 + (g_sk B n (g_len 32 + q))))))) 1 ((g_sk B n (g_len 33 + (g_sk B n (g_len 34 + (g_sk B n (g_len 32 + q))))) : Nat) : Int) s.cd s.op s.on s.hp)) (q_row L (m + 4) (g_up (g_up (g_up t 9 0) 10 2) 11 1)) P
                                                refine q_aload_n hF 5 rfl rfl dX8_readsOrder_61 ?_
                                                refine q_callV (kc := 0) (ks := 0) (mc' := 0) (ms' := 0) (h' := 0) (st := []) hF vl_RX8_95 rfl [] rfl rfl hS.t0 (by omega) (Nat.le_of_ble_eq_true rfl) dX8_readsOrder_62 ?_
                                                refine mX8_fine0 hS (show (1 : Int) ≠ 0 by decide) (show -2147483648 ≤ 1 ∧ 1 < 2147483648 by first | decide | omega | assumption) ?_
                                                refine q_ifne hF (by decide) dX8_readsOrder_65 (fun c65v129 => ?_) (fun c65v129 => ?_)
                                                · exact absurd c65v129 (by decide)
                                                · refine q_return hF rfl dX8_readsOrder_68 ?_
                                                  show Q (.inl none) sz T (q_ps I m (g_mk (g_len 32 + (g_sk B n (g_len 33 + (g_sk B n (g_len 34 + (g_sk B n (g_len 32 + q))))))) 1 ((g_sk B n (g_len 33 + (g_sk B n (g_len 34 + (g_sk B n (g_len 32 + q))))) : Nat) : Int) s.cd s.op s.on s.hp)) (q_row L (m + 4) (g_up (g_up (g_up t 9 0) 10 2) 11 1)) P
                                                  exact k1 1 (g_sk B n (g_len 33 + (g_sk B n (g_len 34 + (g_sk B n (g_len 32 + q)))))) _ _ (by rw [← hx2, g_rdOrder, g_rdO, if_pos c32_0_3, g_rdO1, if_neg (by decide), if_pos c7v9, g_rdO, if_neg c32_0_13, if_neg c32_1_13, if_pos c32_2_13, g_rdO1, if_neg (by decide), if_pos c7v98, g_rdO, if_neg c32_0_102, if_pos c32_1_102, g_rdO1, if_neg (by decide), if_pos c7v118, g_rdO, if_pos c32_0_122, g_rdO1, if_pos (by decide)]) (by decide) rfl rfl (show g_len 32 + (g_sk B n (g_len 33 + (g_sk B n (g_len 34 + (g_sk B n (g_len 32 + q)))))) ≤ n by omega)
                                          · show qX G F Q 0 0 35 [(4, qI ((g_sk B n (g_len 33 + (g_sk B n (g_len 34 + (g_sk B n (g_len 32 + q))))) : Nat) : Int)), (3, qI (q_b (97 ≤ (g_bt B n (g_sk B n (g_len 33 + (g_sk B n (g_len 34 + (g_sk B n (g_len 32 + q))))))) ∧ (g_bt B n (g_sk B n (g_len 33 + (g_sk B n (g_len 34 + (g_sk B n (g_len 32 + q))))))) ≤ 122))), (1, qI 3), (2, qI 7), (5, qI 1), (0, .ref m)] [qI 1] sz T (q_ps I m (g_mk (g_len 33 + (g_sk B n (g_len 33 + (g_sk B n (g_len 34 + (g_sk B n (g_len 32 + q))))))) s.fl s.fa s.cd s.op s.on s.hp)) (q_row L (m + 4) (g_up (g_up (g_up t 9 0) 10 2) 11 1)) P
                                            refine q_istore hF (ls' := [(5, qI 1), (4, qI ((g_sk B n (g_len 33 + (g_sk B n (g_len 34 + (g_sk B n (g_len 32 + q))))) : Nat) : Int)), (3, qI (q_b (97 ≤ (g_bt B n (g_sk B n (g_len 33 + (g_sk B n (g_len 34 + (g_sk B n (g_len 32 + q))))))) ∧ (g_bt B n (g_sk B n (g_len 33 + (g_sk B n (g_len 34 + (g_sk B n (g_len 32 + q))))))) ≤ 122))), (1, qI 3), (2, qI 7), (0, .ref m)]) (by decide) rfl dX8_readsOrder_35 ?_
                                            have hwl130 := g_words_ok 33 (by decide)
                                            have hwn130 := g_isW_n (g_words_ok 33 (by decide)) (fun k hk => by have := g_ch_r (i := 33) (by decide) hk; omega) c32_1_122
                                            have hsr130 := g_sk_r (B := B) (n := n) (k := g_len 33 + (g_sk B n (g_len 33 + (g_sk B n (g_len 34 + (g_sk B n (g_len 32 + q))))))) (by omega)
                                            refine q_aload_n hF 5 rfl rfl dX8_readsOrder_37 ?_
                                            refine q_callV (kc := 0) (ks := 0) (mc' := 0) (ms' := 0) (h' := 0) (st := []) hF vl_RX8_95 rfl [] rfl rfl hS.t0 (by omega) (Nat.le_of_ble_eq_true rfl) dX8_readsOrder_38 ?_
                                            refine mX8_fineA hS hfl ?_
                                            refine q_ifeq hF (by decide) dX8_readsOrder_41 (fun c41v132 => ?_) (fun c41v132 => ?_)
                                            · exact absurd c41v132 (by decide)
                                            · refine q_iload_n hF 4 rfl rfl dX8_readsOrder_44 ?_
                                              refine q_iload hF 0 rfl dX8_readsOrder_45 ?_
                                              refine q_ishr hF (c0 := 3) (by decide) dX8_readsOrder_47 ?_
                                              refine q_iconst hF dX8_readsOrder_48 ?_
                                              refine q_iand hF (c0 := 1) (by decide) dX8_readsOrder_49 ?_
                                              refine q_iconst hF dX8_readsOrder_50 ?_
                                              refine q_icmpne hF (by decide) (by decide) dX8_readsOrder_51 (fun c51v133 => ?_) (fun c51v133 => ?_)
                                              · exact absurd c51v133 (by decide)
                                              · refine q_aload_n hF 5 rfl rfl dX8_readsOrder_54 ?_
                                                refine q_iconst hF dX8_readsOrder_55 ?_
                                                refine q_iload hF 1 rfl dX8_readsOrder_56 ?_
                                                refine q_callV (kc := 0) (ks := 0) (mc' := 0) (ms' := 0) (h' := 0) (st := []) hF vl_RX8_106 rfl [qI 1, qI ((g_sk B n (g_len 33 + (g_sk B n (g_len 34 + (g_sk B n (g_len 32 + q))))) : Nat) : Int)] rfl rfl hS.t0 (by omega) (Nat.le_of_ble_eq_true rfl) dX8_readsOrder_58 ?_
                                                refine mX8_wrongA hS hSA hfl ?_
                                                show qX G F Q 0 0 61 [(5, qI 1), (4, qI ((g_sk B n (g_len 33 + (g_sk B n (g_len 34 + (g_sk B n (g_len 32 + q))))) : Nat) : Int)), (3, qI (q_b (97 ≤ (g_bt B n (g_sk B n (g_len 33 + (g_sk B n (g_len 34 + (g_sk B n (g_len 32 + q))))))) ∧ (g_bt B n (g_sk B n (g_len 33 + (g_sk B n (g_len 34 + (g_sk B n (g_len 32 + q))))))) ≤ 122))), (1, qI 3), (2, qI 7), (0, .ref m)] [] sz T (q_ps I m (g_mk (g_len 33 + (g_sk B n (g_len 33 + (g_sk B n (g_len 34 + (g_sk B n (g_len 32 + q))))))) 1 ((g_sk B n (g_len 33 + (g_sk B n (g_len 34 + (g_sk B n (g_len 32 + q))))) : Nat) : Int) s.cd s.op s.on s.hp)) (q_row L (m + 4) (g_up (g_up (g_up t 9 0) 10 2) 11 1)) P
                                                refine q_aload_n hF 5 rfl rfl dX8_readsOrder_61 ?_
                                                refine q_callV (kc := 0) (ks := 0) (mc' := 0) (ms' := 0) (h' := 0) (st := []) hF vl_RX8_95 rfl [] rfl rfl hS.t0 (by omega) (Nat.le_of_ble_eq_true rfl) dX8_readsOrder_62 ?_
                                                refine mX8_fine0 hS (show (1 : Int) ≠ 0 by decide) (show -2147483648 ≤ 1 ∧ 1 < 2147483648 by first | decide | omega | assumption) ?_
                                                refine q_ifne hF (by decide) dX8_readsOrder_65 (fun c65v136 => ?_) (fun c65v136 => ?_)
                                                · exact absurd c65v136 (by decide)
                                                · refine q_return hF rfl dX8_readsOrder_68 ?_
                                                  show Q (.inl none) sz T (q_ps I m (g_mk (g_len 33 + (g_sk B n (g_len 33 + (g_sk B n (g_len 34 + (g_sk B n (g_len 32 + q))))))) 1 ((g_sk B n (g_len 33 + (g_sk B n (g_len 34 + (g_sk B n (g_len 32 + q))))) : Nat) : Int) s.cd s.op s.on s.hp)) (q_row L (m + 4) (g_up (g_up (g_up t 9 0) 10 2) 11 1)) P
                                                  exact k1 1 (g_sk B n (g_len 33 + (g_sk B n (g_len 34 + (g_sk B n (g_len 32 + q)))))) _ _ (by rw [← hx2, g_rdOrder, g_rdO, if_pos c32_0_3, g_rdO1, if_neg (by decide), if_pos c7v9, g_rdO, if_neg c32_0_13, if_neg c32_1_13, if_pos c32_2_13, g_rdO1, if_neg (by decide), if_pos c7v98, g_rdO, if_neg c32_0_102, if_pos c32_1_102, g_rdO1, if_neg (by decide), if_pos c7v118, g_rdO, if_neg c32_0_122, if_pos c32_1_122, g_rdO1, if_pos (by decide)]) (by decide) rfl rfl (show g_len 33 + (g_sk B n (g_len 33 + (g_sk B n (g_len 34 + (g_sk B n (g_len 32 + q)))))) ≤ n by omega)
                                          · show qX G F Q 0 0 35 [(4, qI ((g_sk B n (g_len 33 + (g_sk B n (g_len 34 + (g_sk B n (g_len 32 + q))))) : Nat) : Int)), (3, qI (q_b (97 ≤ (g_bt B n (g_sk B n (g_len 33 + (g_sk B n (g_len 34 + (g_sk B n (g_len 32 + q))))))) ∧ (g_bt B n (g_sk B n (g_len 33 + (g_sk B n (g_len 34 + (g_sk B n (g_len 32 + q))))))) ≤ 122))), (1, qI 3), (2, qI 7), (5, qI 1), (0, .ref m)] [qI 2] sz T (q_ps I m (g_mk (g_len 34 + (g_sk B n (g_len 33 + (g_sk B n (g_len 34 + (g_sk B n (g_len 32 + q))))))) s.fl s.fa s.cd s.op s.on s.hp)) (q_row L (m + 4) (g_up (g_up (g_up t 9 0) 10 2) 11 1)) P
                                            refine q_istore hF (ls' := [(5, qI 2), (4, qI ((g_sk B n (g_len 33 + (g_sk B n (g_len 34 + (g_sk B n (g_len 32 + q))))) : Nat) : Int)), (3, qI (q_b (97 ≤ (g_bt B n (g_sk B n (g_len 33 + (g_sk B n (g_len 34 + (g_sk B n (g_len 32 + q))))))) ∧ (g_bt B n (g_sk B n (g_len 33 + (g_sk B n (g_len 34 + (g_sk B n (g_len 32 + q))))))) ≤ 122))), (1, qI 3), (2, qI 7), (0, .ref m)]) (by decide) rfl dX8_readsOrder_35 ?_
                                            have hwl137 := g_words_ok 34 (by decide)
                                            have hwn137 := g_isW_n (g_words_ok 34 (by decide)) (fun k hk => by have := g_ch_r (i := 34) (by decide) hk; omega) c32_2_122
                                            have hsr137 := g_sk_r (B := B) (n := n) (k := g_len 34 + (g_sk B n (g_len 33 + (g_sk B n (g_len 34 + (g_sk B n (g_len 32 + q))))))) (by omega)
                                            refine q_aload_n hF 5 rfl rfl dX8_readsOrder_37 ?_
                                            refine q_callV (kc := 0) (ks := 0) (mc' := 0) (ms' := 0) (h' := 0) (st := []) hF vl_RX8_95 rfl [] rfl rfl hS.t0 (by omega) (Nat.le_of_ble_eq_true rfl) dX8_readsOrder_38 ?_
                                            refine mX8_fineA hS hfl ?_
                                            refine q_ifeq hF (by decide) dX8_readsOrder_41 (fun c41v139 => ?_) (fun c41v139 => ?_)
                                            · exact absurd c41v139 (by decide)
                                            · refine q_iload_n hF 4 rfl rfl dX8_readsOrder_44 ?_
                                              refine q_iload hF 0 rfl dX8_readsOrder_45 ?_
                                              refine q_ishr hF (c0 := 1) (by decide) dX8_readsOrder_47 ?_
                                              refine q_iconst hF dX8_readsOrder_48 ?_
                                              refine q_iand hF (c0 := 1) (by decide) dX8_readsOrder_49 ?_
                                              refine q_iconst hF dX8_readsOrder_50 ?_
                                              refine q_icmpne hF (by decide) (by decide) dX8_readsOrder_51 (fun c51v140 => ?_) (fun c51v140 => ?_)
                                              · exact absurd c51v140 (by decide)
                                              · refine q_aload_n hF 5 rfl rfl dX8_readsOrder_54 ?_
                                                refine q_iconst hF dX8_readsOrder_55 ?_
                                                refine q_iload hF 1 rfl dX8_readsOrder_56 ?_
                                                refine q_callV (kc := 0) (ks := 0) (mc' := 0) (ms' := 0) (h' := 0) (st := []) hF vl_RX8_106 rfl [qI 1, qI ((g_sk B n (g_len 33 + (g_sk B n (g_len 34 + (g_sk B n (g_len 32 + q))))) : Nat) : Int)] rfl rfl hS.t0 (by omega) (Nat.le_of_ble_eq_true rfl) dX8_readsOrder_58 ?_
                                                refine mX8_wrongA hS hSA hfl ?_
                                                show qX G F Q 0 0 61 [(5, qI 2), (4, qI ((g_sk B n (g_len 33 + (g_sk B n (g_len 34 + (g_sk B n (g_len 32 + q))))) : Nat) : Int)), (3, qI (q_b (97 ≤ (g_bt B n (g_sk B n (g_len 33 + (g_sk B n (g_len 34 + (g_sk B n (g_len 32 + q))))))) ∧ (g_bt B n (g_sk B n (g_len 33 + (g_sk B n (g_len 34 + (g_sk B n (g_len 32 + q))))))) ≤ 122))), (1, qI 3), (2, qI 7), (0, .ref m)] [] sz T (q_ps I m (g_mk (g_len 34 + (g_sk B n (g_len 33 + (g_sk B n (g_len 34 + (g_sk B n (g_len 32 + q))))))) 1 ((g_sk B n (g_len 33 + (g_sk B n (g_len 34 + (g_sk B n (g_len 32 + q))))) : Nat) : Int) s.cd s.op s.on s.hp)) (q_row L (m + 4) (g_up (g_up (g_up t 9 0) 10 2) 11 1)) P
                                                refine q_aload_n hF 5 rfl rfl dX8_readsOrder_61 ?_
                                                refine q_callV (kc := 0) (ks := 0) (mc' := 0) (ms' := 0) (h' := 0) (st := []) hF vl_RX8_95 rfl [] rfl rfl hS.t0 (by omega) (Nat.le_of_ble_eq_true rfl) dX8_readsOrder_62 ?_
                                                refine mX8_fine0 hS (show (1 : Int) ≠ 0 by decide) (show -2147483648 ≤ 1 ∧ 1 < 2147483648 by first | decide | omega | assumption) ?_
                                                refine q_ifne hF (by decide) dX8_readsOrder_65 (fun c65v143 => ?_) (fun c65v143 => ?_)
                                                · exact absurd c65v143 (by decide)
                                                · refine q_return hF rfl dX8_readsOrder_68 ?_
                                                  show Q (.inl none) sz T (q_ps I m (g_mk (g_len 34 + (g_sk B n (g_len 33 + (g_sk B n (g_len 34 + (g_sk B n (g_len 32 + q))))))) 1 ((g_sk B n (g_len 33 + (g_sk B n (g_len 34 + (g_sk B n (g_len 32 + q))))) : Nat) : Int) s.cd s.op s.on s.hp)) (q_row L (m + 4) (g_up (g_up (g_up t 9 0) 10 2) 11 1)) P
                                                  exact k1 1 (g_sk B n (g_len 33 + (g_sk B n (g_len 34 + (g_sk B n (g_len 32 + q)))))) _ _ (by rw [← hx2, g_rdOrder, g_rdO, if_pos c32_0_3, g_rdO1, if_neg (by decide), if_pos c7v9, g_rdO, if_neg c32_0_13, if_neg c32_1_13, if_pos c32_2_13, g_rdO1, if_neg (by decide), if_pos c7v98, g_rdO, if_neg c32_0_102, if_pos c32_1_102, g_rdO1, if_neg (by decide), if_pos c7v118, g_rdO, if_neg c32_0_122, if_neg c32_1_122, if_pos c32_2_122, g_rdO1, if_pos (by decide)]) (by decide) rfl rfl (show g_len 34 + (g_sk B n (g_len 33 + (g_sk B n (g_len 34 + (g_sk B n (g_len 32 + q)))))) ≤ n by omega)
                                          · show qX G F Q 0 0 35 [(4, qI ((g_sk B n (g_len 33 + (g_sk B n (g_len 34 + (g_sk B n (g_len 32 + q))))) : Nat) : Int)), (3, qI (q_b (97 ≤ (g_bt B n (g_sk B n (g_len 33 + (g_sk B n (g_len 34 + (g_sk B n (g_len 32 + q))))))) ∧ (g_bt B n (g_sk B n (g_len 33 + (g_sk B n (g_len 34 + (g_sk B n (g_len 32 + q))))))) ≤ 122))), (1, qI 3), (2, qI 7), (5, qI 1), (0, .ref m)] [qI (-1)] sz T (q_ps I m (g_mk (g_sk B n (g_len 33 + (g_sk B n (g_len 34 + (g_sk B n (g_len 32 + q)))))) 1 ((g_sk B n (g_len 33 + (g_sk B n (g_len 34 + (g_sk B n (g_len 32 + q))))) : Nat) : Int) s.cd s.op s.on s.hp)) (q_row L (m + 4) (g_up (g_up (g_up t 9 0) 10 2) 11 1)) P
                                            refine q_istore hF (ls' := [(5, qI (-1)), (4, qI ((g_sk B n (g_len 33 + (g_sk B n (g_len 34 + (g_sk B n (g_len 32 + q))))) : Nat) : Int)), (3, qI (q_b (97 ≤ (g_bt B n (g_sk B n (g_len 33 + (g_sk B n (g_len 34 + (g_sk B n (g_len 32 + q))))))) ∧ (g_bt B n (g_sk B n (g_len 33 + (g_sk B n (g_len 34 + (g_sk B n (g_len 32 + q))))))) ≤ 122))), (1, qI 3), (2, qI 7), (0, .ref m)]) (by decide) rfl dX8_readsOrder_35 ?_
                                            skip
                                            refine q_aload_n hF 5 rfl rfl dX8_readsOrder_37 ?_
                                            refine q_callV (kc := 0) (ks := 0) (mc' := 0) (ms' := 0) (h' := 0) (st := []) hF vl_RX8_95 rfl [] rfl rfl hS.t0 (by omega) (Nat.le_of_ble_eq_true rfl) dX8_readsOrder_38 ?_
                                            refine mX8_fine0 hS (show (1 : Int) ≠ 0 by decide) (show -2147483648 ≤ 1 ∧ 1 < 2147483648 by first | decide | omega | assumption) ?_
                                            refine q_ifeq hF (by decide) dX8_readsOrder_41 (fun c41v145 => ?_) (fun c41v145 => ?_)
                                            · refine q_aload_n hF 5 rfl rfl dX8_readsOrder_61 ?_
                                              refine q_callV (kc := 0) (ks := 0) (mc' := 0) (ms' := 0) (h' := 0) (st := []) hF vl_RX8_95 rfl [] rfl rfl hS.t0 (by omega) (Nat.le_of_ble_eq_true rfl) dX8_readsOrder_62 ?_
                                              refine mX8_fine0 hS (show (1 : Int) ≠ 0 by decide) (show -2147483648 ≤ 1 ∧ 1 < 2147483648 by first | decide | omega | assumption) ?_
                                              refine q_ifne hF (by decide) dX8_readsOrder_65 (fun c65v147 => ?_) (fun c65v147 => ?_)
                                              · exact absurd c65v147 (by decide)
                                              · refine q_return hF rfl dX8_readsOrder_68 ?_
                                                show Q (.inl none) sz T (q_ps I m (g_mk (g_sk B n (g_len 33 + (g_sk B n (g_len 34 + (g_sk B n (g_len 32 + q)))))) 1 ((g_sk B n (g_len 33 + (g_sk B n (g_len 34 + (g_sk B n (g_len 32 + q))))) : Nat) : Int) s.cd s.op s.on s.hp)) (q_row L (m + 4) (g_up (g_up (g_up t 9 0) 10 2) 11 1)) P
                                                exact k1 1 (g_sk B n (g_len 33 + (g_sk B n (g_len 34 + (g_sk B n (g_len 32 + q)))))) _ _ (by rw [← hx2, g_rdOrder, g_rdO, if_pos c32_0_3, g_rdO1, if_neg (by decide), if_pos c7v9, g_rdO, if_neg c32_0_13, if_neg c32_1_13, if_pos c32_2_13, g_rdO1, if_neg (by decide), if_pos c7v98, g_rdO, if_neg c32_0_102, if_pos c32_1_102, g_rdO1, if_neg (by decide), if_pos c7v118, g_rdO, if_neg c32_0_122, if_neg c32_1_122, if_neg c32_2_122]) (by decide) rfl rfl (show g_sk B n (g_len 33 + (g_sk B n (g_len 34 + (g_sk B n (g_len 32 + q))))) ≤ n by omega)
                                            · exact absurd c41v145 (by decide)
                                    · exact absurd c65v115 (by decide)
                                  · exact absurd c51v113 (by decide)
                              · show qX G F Q 0 0 35 [(4, qI ((g_sk B n (g_len 34 + (g_sk B n (g_len 32 + q))) : Nat) : Int)), (3, qI (q_b (97 ≤ (g_bt B n (g_sk B n (g_len 34 + (g_sk B n (g_len 32 + q))))) ∧ (g_bt B n (g_sk B n (g_len 34 + (g_sk B n (g_len 32 + q))))) ≤ 122))), (1, qI 2), (2, qI 5), (5, qI 2), (0, .ref m)] [qI 2] sz T (q_ps I m (g_mk (g_len 34 + (g_sk B n (g_len 34 + (g_sk B n (g_len 32 + q))))) s.fl s.fa s.cd s.op s.on s.hp)) (q_row L (m + 4) (g_up (g_up t 9 0) 10 2)) P
                                refine q_istore hF (ls' := [(5, qI 2), (4, qI ((g_sk B n (g_len 34 + (g_sk B n (g_len 32 + q))) : Nat) : Int)), (3, qI (q_b (97 ≤ (g_bt B n (g_sk B n (g_len 34 + (g_sk B n (g_len 32 + q))))) ∧ (g_bt B n (g_sk B n (g_len 34 + (g_sk B n (g_len 32 + q))))) ≤ 122))), (1, qI 2), (2, qI 5), (0, .ref m)]) (by decide) rfl dX8_readsOrder_35 ?_
                                have hwl148 := g_words_ok 34 (by decide)
                                have hwn148 := g_isW_n (g_words_ok 34 (by decide)) (fun k hk => by have := g_ch_r (i := 34) (by decide) hk; omega) c32_2_102
                                have hsr148 := g_sk_r (B := B) (n := n) (k := g_len 34 + (g_sk B n (g_len 34 + (g_sk B n (g_len 32 + q))))) (by omega)
                                refine q_aload_n hF 5 rfl rfl dX8_readsOrder_37 ?_
                                refine q_callV (kc := 0) (ks := 0) (mc' := 0) (ms' := 0) (h' := 0) (st := []) hF vl_RX8_95 rfl [] rfl rfl hS.t0 (by omega) (Nat.le_of_ble_eq_true rfl) dX8_readsOrder_38 ?_
                                refine mX8_fineA hS hfl ?_
                                refine q_ifeq hF (by decide) dX8_readsOrder_41 (fun c41v150 => ?_) (fun c41v150 => ?_)
                                · exact absurd c41v150 (by decide)
                                · refine q_iload_n hF 4 rfl rfl dX8_readsOrder_44 ?_
                                  refine q_iload hF 0 rfl dX8_readsOrder_45 ?_
                                  refine q_ishr hF (c0 := 1) (by decide) dX8_readsOrder_47 ?_
                                  refine q_iconst hF dX8_readsOrder_48 ?_
                                  refine q_iand hF (c0 := 1) (by decide) dX8_readsOrder_49 ?_
                                  refine q_iconst hF dX8_readsOrder_50 ?_
                                  refine q_icmpne hF (by decide) (by decide) dX8_readsOrder_51 (fun c51v151 => ?_) (fun c51v151 => ?_)
                                  · exact absurd c51v151 (by decide)
                                  · refine q_aload_n hF 5 rfl rfl dX8_readsOrder_54 ?_
                                    refine q_iconst hF dX8_readsOrder_55 ?_
                                    refine q_iload hF 1 rfl dX8_readsOrder_56 ?_
                                    refine q_callV (kc := 0) (ks := 0) (mc' := 0) (ms' := 0) (h' := 0) (st := []) hF vl_RX8_106 rfl [qI 1, qI ((g_sk B n (g_len 34 + (g_sk B n (g_len 32 + q))) : Nat) : Int)] rfl rfl hS.t0 (by omega) (Nat.le_of_ble_eq_true rfl) dX8_readsOrder_58 ?_
                                    refine mX8_wrongA hS hSA hfl ?_
                                    show qX G F Q 0 0 61 [(5, qI 2), (4, qI ((g_sk B n (g_len 34 + (g_sk B n (g_len 32 + q))) : Nat) : Int)), (3, qI (q_b (97 ≤ (g_bt B n (g_sk B n (g_len 34 + (g_sk B n (g_len 32 + q))))) ∧ (g_bt B n (g_sk B n (g_len 34 + (g_sk B n (g_len 32 + q))))) ≤ 122))), (1, qI 2), (2, qI 5), (0, .ref m)] [] sz T (q_ps I m (g_mk (g_len 34 + (g_sk B n (g_len 34 + (g_sk B n (g_len 32 + q))))) 1 ((g_sk B n (g_len 34 + (g_sk B n (g_len 32 + q))) : Nat) : Int) s.cd s.op s.on s.hp)) (q_row L (m + 4) (g_up (g_up t 9 0) 10 2)) P
                                    refine q_aload_n hF 5 rfl rfl dX8_readsOrder_61 ?_
                                    refine q_callV (kc := 0) (ks := 0) (mc' := 0) (ms' := 0) (h' := 0) (st := []) hF vl_RX8_95 rfl [] rfl rfl hS.t0 (by omega) (Nat.le_of_ble_eq_true rfl) dX8_readsOrder_62 ?_
                                    refine mX8_fine0 hS (show (1 : Int) ≠ 0 by decide) (show -2147483648 ≤ 1 ∧ 1 < 2147483648 by first | decide | omega | assumption) ?_
                                    refine q_ifne hF (by decide) dX8_readsOrder_65 (fun c65v154 => ?_) (fun c65v154 => ?_)
                                    · exact absurd c65v154 (by decide)
                                    · refine q_return hF rfl dX8_readsOrder_68 ?_
                                      show Q (.inl none) sz T (q_ps I m (g_mk (g_len 34 + (g_sk B n (g_len 34 + (g_sk B n (g_len 32 + q))))) 1 ((g_sk B n (g_len 34 + (g_sk B n (g_len 32 + q))) : Nat) : Int) s.cd s.op s.on s.hp)) (q_row L (m + 4) (g_up (g_up t 9 0) 10 2)) P
                                      exact k1 1 (g_sk B n (g_len 34 + (g_sk B n (g_len 32 + q)))) _ _ (by rw [← hx2, g_rdOrder, g_rdO, if_pos c32_0_3, g_rdO1, if_neg (by decide), if_pos c7v9, g_rdO, if_neg c32_0_13, if_neg c32_1_13, if_pos c32_2_13, g_rdO1, if_neg (by decide), if_pos c7v98, g_rdO, if_neg c32_0_102, if_neg c32_1_102, if_pos c32_2_102, g_rdO1, if_pos (by decide)]) (by decide) rfl rfl (show g_len 34 + (g_sk B n (g_len 34 + (g_sk B n (g_len 32 + q)))) ≤ n by omega)
                              · show qX G F Q 0 0 35 [(4, qI ((g_sk B n (g_len 34 + (g_sk B n (g_len 32 + q))) : Nat) : Int)), (3, qI (q_b (97 ≤ (g_bt B n (g_sk B n (g_len 34 + (g_sk B n (g_len 32 + q))))) ∧ (g_bt B n (g_sk B n (g_len 34 + (g_sk B n (g_len 32 + q))))) ≤ 122))), (1, qI 2), (2, qI 5), (5, qI 2), (0, .ref m)] [qI (-1)] sz T (q_ps I m (g_mk (g_sk B n (g_len 34 + (g_sk B n (g_len 32 + q)))) 1 ((g_sk B n (g_len 34 + (g_sk B n (g_len 32 + q))) : Nat) : Int) s.cd s.op s.on s.hp)) (q_row L (m + 4) (g_up (g_up t 9 0) 10 2)) P
                                refine q_istore hF (ls' := [(5, qI (-1)), (4, qI ((g_sk B n (g_len 34 + (g_sk B n (g_len 32 + q))) : Nat) : Int)), (3, qI (q_b (97 ≤ (g_bt B n (g_sk B n (g_len 34 + (g_sk B n (g_len 32 + q))))) ∧ (g_bt B n (g_sk B n (g_len 34 + (g_sk B n (g_len 32 + q))))) ≤ 122))), (1, qI 2), (2, qI 5), (0, .ref m)]) (by decide) rfl dX8_readsOrder_35 ?_
                                skip
                                refine q_aload_n hF 5 rfl rfl dX8_readsOrder_37 ?_
                                refine q_callV (kc := 0) (ks := 0) (mc' := 0) (ms' := 0) (h' := 0) (st := []) hF vl_RX8_95 rfl [] rfl rfl hS.t0 (by omega) (Nat.le_of_ble_eq_true rfl) dX8_readsOrder_38 ?_
                                refine mX8_fine0 hS (show (1 : Int) ≠ 0 by decide) (show -2147483648 ≤ 1 ∧ 1 < 2147483648 by first | decide | omega | assumption) ?_
                                refine q_ifeq hF (by decide) dX8_readsOrder_41 (fun c41v156 => ?_) (fun c41v156 => ?_)
                                · refine q_aload_n hF 5 rfl rfl dX8_readsOrder_61 ?_
                                  refine q_callV (kc := 0) (ks := 0) (mc' := 0) (ms' := 0) (h' := 0) (st := []) hF vl_RX8_95 rfl [] rfl rfl hS.t0 (by omega) (Nat.le_of_ble_eq_true rfl) dX8_readsOrder_62 ?_
                                  refine mX8_fine0 hS (show (1 : Int) ≠ 0 by decide) (show -2147483648 ≤ 1 ∧ 1 < 2147483648 by first | decide | omega | assumption) ?_
                                  refine q_ifne hF (by decide) dX8_readsOrder_65 (fun c65v158 => ?_) (fun c65v158 => ?_)
                                  · exact absurd c65v158 (by decide)
                                  · refine q_return hF rfl dX8_readsOrder_68 ?_
                                    show Q (.inl none) sz T (q_ps I m (g_mk (g_sk B n (g_len 34 + (g_sk B n (g_len 32 + q)))) 1 ((g_sk B n (g_len 34 + (g_sk B n (g_len 32 + q))) : Nat) : Int) s.cd s.op s.on s.hp)) (q_row L (m + 4) (g_up (g_up t 9 0) 10 2)) P
                                    exact k1 1 (g_sk B n (g_len 34 + (g_sk B n (g_len 32 + q)))) _ _ (by rw [← hx2, g_rdOrder, g_rdO, if_pos c32_0_3, g_rdO1, if_neg (by decide), if_pos c7v9, g_rdO, if_neg c32_0_13, if_neg c32_1_13, if_pos c32_2_13, g_rdO1, if_neg (by decide), if_pos c7v98, g_rdO, if_neg c32_0_102, if_neg c32_1_102, if_neg c32_2_102]) (by decide) rfl rfl (show g_sk B n (g_len 34 + (g_sk B n (g_len 32 + q))) ≤ n by omega)
                                · exact absurd c41v156 (by decide)
                        · exact absurd c65v95 (by decide)
                      · exact absurd c51v93 (by decide)
                  · show qX G F Q 0 0 35 [(4, qI ((g_sk B n (g_len 32 + q) : Nat) : Int)), (3, qI (q_b (97 ≤ (g_bt B n (g_sk B n (g_len 32 + q))) ∧ (g_bt B n (g_sk B n (g_len 32 + q))) ≤ 122))), (1, qI 1), (2, qI 1), (5, qI 0), (0, .ref m)] [qI (-1)] sz T (q_ps I m (g_mk (g_sk B n (g_len 32 + q)) 1 ((g_sk B n (g_len 32 + q) : Nat) : Int) s.cd s.op s.on s.hp)) (q_row L (m + 4) (g_up t 9 0)) P
                    refine q_istore hF (ls' := [(5, qI (-1)), (4, qI ((g_sk B n (g_len 32 + q) : Nat) : Int)), (3, qI (q_b (97 ≤ (g_bt B n (g_sk B n (g_len 32 + q))) ∧ (g_bt B n (g_sk B n (g_len 32 + q))) ≤ 122))), (1, qI 1), (2, qI 1), (0, .ref m)]) (by decide) rfl dX8_readsOrder_35 ?_
                    skip
                    refine q_aload_n hF 5 rfl rfl dX8_readsOrder_37 ?_
                    refine q_callV (kc := 0) (ks := 0) (mc' := 0) (ms' := 0) (h' := 0) (st := []) hF vl_RX8_95 rfl [] rfl rfl hS.t0 (by omega) (Nat.le_of_ble_eq_true rfl) dX8_readsOrder_38 ?_
                    refine mX8_fine0 hS (show (1 : Int) ≠ 0 by decide) (show -2147483648 ≤ 1 ∧ 1 < 2147483648 by first | decide | omega | assumption) ?_
                    refine q_ifeq hF (by decide) dX8_readsOrder_41 (fun c41v160 => ?_) (fun c41v160 => ?_)
                    · refine q_aload_n hF 5 rfl rfl dX8_readsOrder_61 ?_
                      refine q_callV (kc := 0) (ks := 0) (mc' := 0) (ms' := 0) (h' := 0) (st := []) hF vl_RX8_95 rfl [] rfl rfl hS.t0 (by omega) (Nat.le_of_ble_eq_true rfl) dX8_readsOrder_62 ?_
                      refine mX8_fine0 hS (show (1 : Int) ≠ 0 by decide) (show -2147483648 ≤ 1 ∧ 1 < 2147483648 by first | decide | omega | assumption) ?_
                      refine q_ifne hF (by decide) dX8_readsOrder_65 (fun c65v162 => ?_) (fun c65v162 => ?_)
                      · exact absurd c65v162 (by decide)
                      · refine q_return hF rfl dX8_readsOrder_68 ?_
                        show Q (.inl none) sz T (q_ps I m (g_mk (g_sk B n (g_len 32 + q)) 1 ((g_sk B n (g_len 32 + q) : Nat) : Int) s.cd s.op s.on s.hp)) (q_row L (m + 4) (g_up t 9 0)) P
                        exact k1 1 (g_sk B n (g_len 32 + q)) _ _ (by rw [← hx2, g_rdOrder, g_rdO, if_pos c32_0_3, g_rdO1, if_neg (by decide), if_pos c7v9, g_rdO, if_neg c32_0_13, if_neg c32_1_13, if_neg c32_2_13]) (by decide) rfl rfl (show g_sk B n (g_len 32 + q) ≤ n by omega)
                    · exact absurd c41v160 (by decide)
            · exact absurd c65 (by decide)
          · exact absurd c51 (by decide)
      · show qX G F Q 0 0 35 [(4, qI (q : Int)), (3, qI 1), (2, qI 0), (1, qI 0), (0, .ref m)] [qI 1] sz T (q_ps I m (g_mk (g_len 33 + q) s.fl s.fa s.cd s.op s.on s.hp)) (q_row L (m + 4) t) P
        refine q_istore hF (ls' := [(5, qI 1), (4, qI (q : Int)), (3, qI 1), (2, qI 0), (1, qI 0), (0, .ref m)]) (by decide) rfl dX8_readsOrder_35 ?_
        have hwl163 := g_words_ok 33 (by decide)
        have hwn163 := g_isW_n (g_words_ok 33 (by decide)) (fun k hk => by have := g_ch_r (i := 33) (by decide) hk; omega) c32_1_3
        have hsr163 := g_sk_r (B := B) (n := n) (k := g_len 33 + q) (by omega)
        refine q_aload_n hF 5 rfl rfl dX8_readsOrder_37 ?_
        refine q_callV (kc := 0) (ks := 0) (mc' := 0) (ms' := 0) (h' := 0) (st := []) hF vl_RX8_95 rfl [] rfl rfl hS.t0 (by omega) (Nat.le_of_ble_eq_true rfl) dX8_readsOrder_38 ?_
        refine mX8_fineA hS hfl ?_
        refine q_ifeq hF (by decide) dX8_readsOrder_41 (fun c41 => ?_) (fun c41 => ?_)
        · exact absurd c41 (by decide)
        · refine q_iload_n hF 3 rfl rfl dX8_readsOrder_44 ?_
          refine q_iload hF 0 rfl dX8_readsOrder_45 ?_
          refine q_ishr hF (c0 := 0) (by decide) dX8_readsOrder_47 ?_
          refine q_iconst hF dX8_readsOrder_48 ?_
          refine q_iand hF (c0 := 0) (by decide) dX8_readsOrder_49 ?_
          refine q_iconst hF dX8_readsOrder_50 ?_
          refine q_icmpne hF (by decide) (by decide) dX8_readsOrder_51 (fun c51 => ?_) (fun c51 => ?_)
          · refine q_aload_n hF 5 rfl rfl dX8_readsOrder_61 ?_
            refine q_callV (kc := 0) (ks := 0) (mc' := 0) (ms' := 0) (h' := 0) (st := []) hF vl_RX8_95 rfl [] rfl rfl hS.t0 (by omega) (Nat.le_of_ble_eq_true rfl) dX8_readsOrder_62 ?_
            refine mX8_fineA hS hfl ?_
            refine q_ifne hF (by decide) dX8_readsOrder_65 (fun c65 => ?_) (fun c65 => ?_)
            · refine q_iload_n hF 3 rfl rfl dX8_readsOrder_69 ?_
              refine q_iconst hF dX8_readsOrder_70 ?_
              refine q_iload hF 0 rfl dX8_readsOrder_71 ?_
              refine q_ishl hF (c0 := 2) (by decide) dX8_readsOrder_73 ?_
              refine q_ior hF (c0 := 2) (by decide) dX8_readsOrder_74 ?_
              refine q_istore_n hF (ls' := [(2, qI 2), (5, qI 1), (4, qI (q : Int)), (3, qI 1), (1, qI 0), (0, .ref m)]) rfl (by decide) rfl dX8_readsOrder_75 ?_
              refine q_aload_n hF 5 rfl rfl dX8_readsOrder_76 ?_
              refine q_getA hF fl_RX8_24 rfl hS.t0 hS.p10 dX8_readsOrder_77 ?_
              refine q_bipush hF (n := 9) rfl dX8_readsOrder_80 ?_
              refine q_iload_n hF 4 rfl rfl dX8_readsOrder_82 ?_
              refine q_iadd hF dX8_readsOrder_83 ?_
              refine q_iload hF 1 rfl dX8_readsOrder_84 ?_
              refine q_i2l hF (by decide) dX8_readsOrder_86 ?_
              refine q_lastorev hF (n := 1243) 9 hS.t4 (q_Ale hSA (by omega)) (by omega) (by omega) (by decide) dX8_readsOrder_87 ?_
              rw [q_row_u]
              refine q_iinc hF (z' := 1) (ls' := [(1, qI 1), (2, qI 2), (5, qI 1), (4, qI (q : Int)), (3, qI 1), (0, .ref m)]) 4 rfl (by first | rfl | omega) (by decide) rfl dX8_readsOrder_88 ?_
              refine q_aload_n hF 5 rfl rfl dX8_readsOrder_91 ?_
              refine q_callV (kc := 0) (ks := 0) (mc' := 0) (ms' := 0) (h' := 1) (st := []) hF vl_RX8_78 rfl [] rfl rfl hS.t0 (by omega) (Nat.le_of_ble_eq_true rfl) dX8_readsOrder_92 ?_
              refine mX8_herePQ (B := B) (n := n) hS hSA hB (show (g_len 33 + q) ≤ n by omega) rfl ?_
              show qX G F Q 0 0 95 [(1, qI 1), (2, qI 2), (5, qI 1), (4, qI (q : Int)), (3, qI 1), (0, .ref m)] [qI (g_bt B n (g_sk B n (g_len 33 + q)))] sz T (q_ps I m (g_mk (g_sk B n (g_len 33 + q)) s.fl s.fa s.cd s.op s.on s.hp)) (q_row L (m + 4) (g_up t 9 1)) P
              refine q_callS (kc := 0) (ks := 0) (mc' := 0) (ms' := 0) (h' := 0) (st := []) hF sl_RX8_91 rfl [qI (g_bt B n (g_sk B n (g_len 33 + q)))] rfl rfl (by omega) (Nat.le_of_ble_eq_true rfl) dX8_readsOrder_95 ?_
              refine mX8_isSmall (g_bt_32 hB _) ?_
              refine q_istore_n hF (ls' := [(3, qI (q_b (97 ≤ (g_bt B n (g_sk B n (g_len 33 + q))) ∧ (g_bt B n (g_sk B n (g_len 33 + q))) ≤ 122))), (1, qI 1), (2, qI 2), (5, qI 1), (4, qI (q : Int)), (0, .ref m)]) rfl (by decide) rfl dX8_readsOrder_98 ?_
              refine q_goto hF dX8_readsOrder_99 ?_
              refine q_iload_n hF 0 rfl rfl dX8_readsOrder_6 ?_
              refine q_ifeq_b hF dX8_readsOrder_7 (fun c7v168 => ?_) (fun c7v168 => ?_)
              · refine q_aload_n hF 5 rfl rfl dX8_readsOrder_102 ?_
                refine q_getA hF fl_RX8_24 rfl hS.t0 hS.p10 dX8_readsOrder_103 ?_
                refine q_bipush hF (n := 8) rfl dX8_readsOrder_106 ?_
                refine q_iload_n hF 1 rfl rfl dX8_readsOrder_108 ?_
                refine q_i2l hF (by decide) dX8_readsOrder_109 ?_
                refine q_lastorev hF (n := 1243) 8 hS.t4 (q_Ale hSA (by omega)) rfl (by decide) (by decide) dX8_readsOrder_110 ?_
                rw [q_row_u]
                refine q_return hF rfl dX8_readsOrder_111 ?_
                exact k0 _ _ (by rw [← hx2, g_rdOrder, g_rdO, if_neg c32_0_3, if_pos c32_1_3, g_rdO1, if_neg (by decide), if_neg c7v168]; try rfl)
              · refine q_aload_n hF 5 rfl rfl dX8_readsOrder_10 ?_
                refine q_callV (kc := 0) (ks := 0) (mc' := 0) (ms' := 0) (h' := 0) (st := []) hF vl_RX8_95 rfl [] rfl rfl hS.t0 (by omega) (Nat.le_of_ble_eq_true rfl) dX8_readsOrder_11 ?_
                refine mX8_fineA hS hfl ?_
                refine q_ifeq hF (by decide) dX8_readsOrder_14 (fun c14v170 => ?_) (fun c14v170 => ?_)
                · exact absurd c14v170 (by decide)
                · skip
                  refine q_aload_n hF 5 rfl rfl dX8_readsOrder_17 ?_
                  refine q_callV (kc := 0) (ks := 0) (mc' := 0) (ms' := 0) (h' := 1) (st := []) hF vl_RX8_78 rfl [] rfl rfl hS.t0 (by omega) (Nat.le_of_ble_eq_true rfl) dX8_readsOrder_18 ?_
                  refine mX8_herePQ (B := B) (n := n) hS hSA hB (show (g_sk B n (g_len 33 + q)) ≤ n by omega) (g_sk_sk (by omega)) ?_
                  show qX G F Q 0 0 21 [(3, qI (q_b (97 ≤ (g_bt B n (g_sk B n (g_len 33 + q))) ∧ (g_bt B n (g_sk B n (g_len 33 + q))) ≤ 122))), (1, qI 1), (2, qI 2), (5, qI 1), (4, qI (q : Int)), (0, .ref m)] [qI (g_bt B n (g_sk B n (g_len 33 + q)))] sz T (q_ps I m (g_mk (g_sk B n (g_len 33 + q)) s.fl s.fa s.cd s.op s.on s.hp)) (q_row L (m + 4) (g_up t 9 1)) P
                  refine q_pop hF rfl dX8_readsOrder_21 ?_
                  refine q_aload_n hF 5 rfl rfl dX8_readsOrder_22 ?_
                  refine q_getIv hF (z := ((g_sk B n (g_len 33 + q) : Nat) : Int)) fl_RX8_65 hS.t0 q_ps_4 dX8_readsOrder_23 ?_
                  refine q_istore hF (ls' := [(4, qI ((g_sk B n (g_len 33 + q) : Nat) : Int)), (3, qI (q_b (97 ≤ (g_bt B n (g_sk B n (g_len 33 + q))) ∧ (g_bt B n (g_sk B n (g_len 33 + q))) ≤ 122))), (1, qI 1), (2, qI 2), (5, qI 1), (0, .ref m)]) (by decide) rfl dX8_readsOrder_26 ?_
                  refine q_aload_n hF 5 rfl rfl dX8_readsOrder_28 ?_
                  refine q_iconst hF dX8_readsOrder_29 ?_
                  refine q_bipush hF (n := 7) rfl dX8_readsOrder_30 ?_
                  refine q_callV (kc := 0) (ks := 0) (mc' := 0) (ms' := 0) (h' := 6) (st := []) hF vl_RX8_220 rfl [qI 5, qI 7] rfl rfl hS.t0 (by omega) (Nat.le_of_ble_eq_true rfl) dX8_readsOrder_32 ?_
                  refine mX8_one5 hS hSA hB (show (g_sk B n (g_len 33 + q)) ≤ n by omega) hfl (g_sk_sk (by omega)) (fun (c32_0_172 : g_isW B n 32 (g_sk B n (g_len 33 + q))) => ?_) (fun (c32_0_172 : ¬ (g_isW B n 32 (g_sk B n (g_len 33 + q)))) (c32_1_172 : g_isW B n 33 (g_sk B n (g_len 33 + q))) => ?_) (fun (c32_0_172 : ¬ (g_isW B n 32 (g_sk B n (g_len 33 + q)))) (c32_1_172 : ¬ (g_isW B n 33 (g_sk B n (g_len 33 + q)))) (c32_2_172 : g_isW B n 34 (g_sk B n (g_len 33 + q))) => ?_) (fun (c32_0_172 : ¬ (g_isW B n 32 (g_sk B n (g_len 33 + q)))) (c32_1_172 : ¬ (g_isW B n 33 (g_sk B n (g_len 33 + q)))) (c32_2_172 : ¬ (g_isW B n 34 (g_sk B n (g_len 33 + q)))) => ?_)
                  · show qX G F Q 0 0 35 [(4, qI ((g_sk B n (g_len 33 + q) : Nat) : Int)), (3, qI (q_b (97 ≤ (g_bt B n (g_sk B n (g_len 33 + q))) ∧ (g_bt B n (g_sk B n (g_len 33 + q))) ≤ 122))), (1, qI 1), (2, qI 2), (5, qI 1), (0, .ref m)] [qI 0] sz T (q_ps I m (g_mk (g_len 32 + (g_sk B n (g_len 33 + q))) s.fl s.fa s.cd s.op s.on s.hp)) (q_row L (m + 4) (g_up t 9 1)) P
                    refine q_istore hF (ls' := [(5, qI 0), (4, qI ((g_sk B n (g_len 33 + q) : Nat) : Int)), (3, qI (q_b (97 ≤ (g_bt B n (g_sk B n (g_len 33 + q))) ∧ (g_bt B n (g_sk B n (g_len 33 + q))) ≤ 122))), (1, qI 1), (2, qI 2), (0, .ref m)]) (by decide) rfl dX8_readsOrder_35 ?_
                    have hwl173 := g_words_ok 32 (by decide)
                    have hwn173 := g_isW_n (g_words_ok 32 (by decide)) (fun k hk => by have := g_ch_r (i := 32) (by decide) hk; omega) c32_0_172
                    have hsr173 := g_sk_r (B := B) (n := n) (k := g_len 32 + (g_sk B n (g_len 33 + q))) (by omega)
                    refine q_aload_n hF 5 rfl rfl dX8_readsOrder_37 ?_
                    refine q_callV (kc := 0) (ks := 0) (mc' := 0) (ms' := 0) (h' := 0) (st := []) hF vl_RX8_95 rfl [] rfl rfl hS.t0 (by omega) (Nat.le_of_ble_eq_true rfl) dX8_readsOrder_38 ?_
                    refine mX8_fineA hS hfl ?_
                    refine q_ifeq hF (by decide) dX8_readsOrder_41 (fun c41v175 => ?_) (fun c41v175 => ?_)
                    · exact absurd c41v175 (by decide)
                    · refine q_iload_n hF 4 rfl rfl dX8_readsOrder_44 ?_
                      refine q_iload hF 0 rfl dX8_readsOrder_45 ?_
                      refine q_ishr hF (c0 := 2) (by decide) dX8_readsOrder_47 ?_
                      refine q_iconst hF dX8_readsOrder_48 ?_
                      refine q_iand hF (c0 := 0) (by decide) dX8_readsOrder_49 ?_
                      refine q_iconst hF dX8_readsOrder_50 ?_
                      refine q_icmpne hF (by decide) (by decide) dX8_readsOrder_51 (fun c51v176 => ?_) (fun c51v176 => ?_)
                      · refine q_aload_n hF 5 rfl rfl dX8_readsOrder_61 ?_
                        refine q_callV (kc := 0) (ks := 0) (mc' := 0) (ms' := 0) (h' := 0) (st := []) hF vl_RX8_95 rfl [] rfl rfl hS.t0 (by omega) (Nat.le_of_ble_eq_true rfl) dX8_readsOrder_62 ?_
                        refine mX8_fineA hS hfl ?_
                        refine q_ifne hF (by decide) dX8_readsOrder_65 (fun c65v178 => ?_) (fun c65v178 => ?_)
                        · refine q_iload_n hF 4 rfl rfl dX8_readsOrder_69 ?_
                          refine q_iconst hF dX8_readsOrder_70 ?_
                          refine q_iload hF 0 rfl dX8_readsOrder_71 ?_
                          refine q_ishl hF (c0 := 1) (by decide) dX8_readsOrder_73 ?_
                          refine q_ior hF (c0 := 3) (by decide) dX8_readsOrder_74 ?_
                          refine q_istore_n hF (ls' := [(2, qI 3), (5, qI 0), (4, qI ((g_sk B n (g_len 33 + q) : Nat) : Int)), (3, qI (q_b (97 ≤ (g_bt B n (g_sk B n (g_len 33 + q))) ∧ (g_bt B n (g_sk B n (g_len 33 + q))) ≤ 122))), (1, qI 1), (0, .ref m)]) rfl (by decide) rfl dX8_readsOrder_75 ?_
                          refine q_aload_n hF 5 rfl rfl dX8_readsOrder_76 ?_
                          refine q_getA hF fl_RX8_24 rfl hS.t0 hS.p10 dX8_readsOrder_77 ?_
                          refine q_bipush hF (n := 9) rfl dX8_readsOrder_80 ?_
                          refine q_iload_n hF 4 rfl rfl dX8_readsOrder_82 ?_
                          refine q_iadd hF dX8_readsOrder_83 ?_
                          refine q_iload hF 1 rfl dX8_readsOrder_84 ?_
                          refine q_i2l hF (by decide) dX8_readsOrder_86 ?_
                          refine q_lastorev hF (n := 1243) 10 hS.t4 (q_Ale hSA (by omega)) (by omega) (by omega) (by decide) dX8_readsOrder_87 ?_
                          rw [q_row_u]
                          refine q_iinc hF (z' := 2) (ls' := [(1, qI 2), (2, qI 3), (5, qI 0), (4, qI ((g_sk B n (g_len 33 + q) : Nat) : Int)), (3, qI (q_b (97 ≤ (g_bt B n (g_sk B n (g_len 33 + q))) ∧ (g_bt B n (g_sk B n (g_len 33 + q))) ≤ 122))), (0, .ref m)]) 4 rfl (by first | rfl | omega) (by decide) rfl dX8_readsOrder_88 ?_
                          refine q_aload_n hF 5 rfl rfl dX8_readsOrder_91 ?_
                          refine q_callV (kc := 0) (ks := 0) (mc' := 0) (ms' := 0) (h' := 1) (st := []) hF vl_RX8_78 rfl [] rfl rfl hS.t0 (by omega) (Nat.le_of_ble_eq_true rfl) dX8_readsOrder_92 ?_
                          refine mX8_herePQ (B := B) (n := n) hS hSA hB (show (g_len 32 + (g_sk B n (g_len 33 + q))) ≤ n by omega) rfl ?_
                          show qX G F Q 0 0 95 [(1, qI 2), (2, qI 3), (5, qI 0), (4, qI ((g_sk B n (g_len 33 + q) : Nat) : Int)), (3, qI (q_b (97 ≤ (g_bt B n (g_sk B n (g_len 33 + q))) ∧ (g_bt B n (g_sk B n (g_len 33 + q))) ≤ 122))), (0, .ref m)] [qI (g_bt B n (g_sk B n (g_len 32 + (g_sk B n (g_len 33 + q)))))] sz T (q_ps I m (g_mk (g_sk B n (g_len 32 + (g_sk B n (g_len 33 + q)))) s.fl s.fa s.cd s.op s.on s.hp)) (q_row L (m + 4) (g_up (g_up t 9 1) 10 0)) P
                          refine q_callS (kc := 0) (ks := 0) (mc' := 0) (ms' := 0) (h' := 0) (st := []) hF sl_RX8_91 rfl [qI (g_bt B n (g_sk B n (g_len 32 + (g_sk B n (g_len 33 + q)))))] rfl rfl (by omega) (Nat.le_of_ble_eq_true rfl) dX8_readsOrder_95 ?_
                          refine mX8_isSmall (g_bt_32 hB _) ?_
                          refine q_istore_n hF (ls' := [(3, qI (q_b (97 ≤ (g_bt B n (g_sk B n (g_len 32 + (g_sk B n (g_len 33 + q))))) ∧ (g_bt B n (g_sk B n (g_len 32 + (g_sk B n (g_len 33 + q))))) ≤ 122))), (1, qI 2), (2, qI 3), (5, qI 0), (4, qI ((g_sk B n (g_len 33 + q) : Nat) : Int)), (0, .ref m)]) rfl (by decide) rfl dX8_readsOrder_98 ?_
                          refine q_goto hF dX8_readsOrder_99 ?_
                          refine q_iload_n hF 0 rfl rfl dX8_readsOrder_6 ?_
                          refine q_ifeq_b hF dX8_readsOrder_7 (fun c7v181 => ?_) (fun c7v181 => ?_)
                          · refine q_aload_n hF 5 rfl rfl dX8_readsOrder_102 ?_
                            refine q_getA hF fl_RX8_24 rfl hS.t0 hS.p10 dX8_readsOrder_103 ?_
                            refine q_bipush hF (n := 8) rfl dX8_readsOrder_106 ?_
                            refine q_iload_n hF 1 rfl rfl dX8_readsOrder_108 ?_
                            refine q_i2l hF (by decide) dX8_readsOrder_109 ?_
                            refine q_lastorev hF (n := 1243) 8 hS.t4 (q_Ale hSA (by omega)) rfl (by decide) (by decide) dX8_readsOrder_110 ?_
                            rw [q_row_u]
                            refine q_return hF rfl dX8_readsOrder_111 ?_
                            exact k0 _ _ (by rw [← hx2, g_rdOrder, g_rdO, if_neg c32_0_3, if_pos c32_1_3, g_rdO1, if_neg (by decide), if_pos c7v168, g_rdO, if_pos c32_0_172, g_rdO1, if_neg (by decide), if_neg c7v181]; try rfl)
                          · refine q_aload_n hF 5 rfl rfl dX8_readsOrder_10 ?_
                            refine q_callV (kc := 0) (ks := 0) (mc' := 0) (ms' := 0) (h' := 0) (st := []) hF vl_RX8_95 rfl [] rfl rfl hS.t0 (by omega) (Nat.le_of_ble_eq_true rfl) dX8_readsOrder_11 ?_
                            refine mX8_fineA hS hfl ?_
                            refine q_ifeq hF (by decide) dX8_readsOrder_14 (fun c14v183 => ?_) (fun c14v183 => ?_)
                            · exact absurd c14v183 (by decide)
                            · skip
                              refine q_aload_n hF 5 rfl rfl dX8_readsOrder_17 ?_
                              refine q_callV (kc := 0) (ks := 0) (mc' := 0) (ms' := 0) (h' := 1) (st := []) hF vl_RX8_78 rfl [] rfl rfl hS.t0 (by omega) (Nat.le_of_ble_eq_true rfl) dX8_readsOrder_18 ?_
                              refine mX8_herePQ (B := B) (n := n) hS hSA hB (show (g_sk B n (g_len 32 + (g_sk B n (g_len 33 + q)))) ≤ n by omega) (g_sk_sk (by omega)) ?_
                              show qX G F Q 0 0 21 [(3, qI (q_b (97 ≤ (g_bt B n (g_sk B n (g_len 32 + (g_sk B n (g_len 33 + q))))) ∧ (g_bt B n (g_sk B n (g_len 32 + (g_sk B n (g_len 33 + q))))) ≤ 122))), (1, qI 2), (2, qI 3), (5, qI 0), (4, qI ((g_sk B n (g_len 33 + q) : Nat) : Int)), (0, .ref m)] [qI (g_bt B n (g_sk B n (g_len 32 + (g_sk B n (g_len 33 + q)))))] sz T (q_ps I m (g_mk (g_sk B n (g_len 32 + (g_sk B n (g_len 33 + q)))) s.fl s.fa s.cd s.op s.on s.hp)) (q_row L (m + 4) (g_up (g_up t 9 1) 10 0)) P
                              refine q_pop hF rfl dX8_readsOrder_21 ?_
                              refine q_aload_n hF 5 rfl rfl dX8_readsOrder_22 ?_
                              refine q_getIv hF (z := ((g_sk B n (g_len 32 + (g_sk B n (g_len 33 + q))) : Nat) : Int)) fl_RX8_65 hS.t0 q_ps_4 dX8_readsOrder_23 ?_
                              refine q_istore hF (ls' := [(4, qI ((g_sk B n (g_len 32 + (g_sk B n (g_len 33 + q))) : Nat) : Int)), (3, qI (q_b (97 ≤ (g_bt B n (g_sk B n (g_len 32 + (g_sk B n (g_len 33 + q))))) ∧ (g_bt B n (g_sk B n (g_len 32 + (g_sk B n (g_len 33 + q))))) ≤ 122))), (1, qI 2), (2, qI 3), (5, qI 0), (0, .ref m)]) (by decide) rfl dX8_readsOrder_26 ?_
                              refine q_aload_n hF 5 rfl rfl dX8_readsOrder_28 ?_
                              refine q_iconst hF dX8_readsOrder_29 ?_
                              refine q_bipush hF (n := 7) rfl dX8_readsOrder_30 ?_
                              refine q_callV (kc := 0) (ks := 0) (mc' := 0) (ms' := 0) (h' := 6) (st := []) hF vl_RX8_220 rfl [qI 5, qI 7] rfl rfl hS.t0 (by omega) (Nat.le_of_ble_eq_true rfl) dX8_readsOrder_32 ?_
                              refine mX8_one5 hS hSA hB (show (g_sk B n (g_len 32 + (g_sk B n (g_len 33 + q)))) ≤ n by omega) hfl (g_sk_sk (by omega)) (fun (c32_0_185 : g_isW B n 32 (g_sk B n (g_len 32 + (g_sk B n (g_len 33 + q))))) => ?_) (fun (c32_0_185 : ¬ (g_isW B n 32 (g_sk B n (g_len 32 + (g_sk B n (g_len 33 + q)))))) (c32_1_185 : g_isW B n 33 (g_sk B n (g_len 32 + (g_sk B n (g_len 33 + q))))) => ?_) (fun (c32_0_185 : ¬ (g_isW B n 32 (g_sk B n (g_len 32 + (g_sk B n (g_len 33 + q)))))) (c32_1_185 : ¬ (g_isW B n 33 (g_sk B n (g_len 32 + (g_sk B n (g_len 33 + q)))))) (c32_2_185 : g_isW B n 34 (g_sk B n (g_len 32 + (g_sk B n (g_len 33 + q))))) => ?_) (fun (c32_0_185 : ¬ (g_isW B n 32 (g_sk B n (g_len 32 + (g_sk B n (g_len 33 + q)))))) (c32_1_185 : ¬ (g_isW B n 33 (g_sk B n (g_len 32 + (g_sk B n (g_len 33 + q)))))) (c32_2_185 : ¬ (g_isW B n 34 (g_sk B n (g_len 32 + (g_sk B n (g_len 33 + q)))))) => ?_)
                              · show qX G F Q 0 0 35 [(4, qI ((g_sk B n (g_len 32 + (g_sk B n (g_len 33 + q))) : Nat) : Int)), (3, qI (q_b (97 ≤ (g_bt B n (g_sk B n (g_len 32 + (g_sk B n (g_len 33 + q))))) ∧ (g_bt B n (g_sk B n (g_len 32 + (g_sk B n (g_len 33 + q))))) ≤ 122))), (1, qI 2), (2, qI 3), (5, qI 0), (0, .ref m)] [qI 0] sz T (q_ps I m (g_mk (g_len 32 + (g_sk B n (g_len 32 + (g_sk B n (g_len 33 + q))))) s.fl s.fa s.cd s.op s.on s.hp)) (q_row L (m + 4) (g_up (g_up t 9 1) 10 0)) P
                                refine q_istore hF (ls' := [(5, qI 0), (4, qI ((g_sk B n (g_len 32 + (g_sk B n (g_len 33 + q))) : Nat) : Int)), (3, qI (q_b (97 ≤ (g_bt B n (g_sk B n (g_len 32 + (g_sk B n (g_len 33 + q))))) ∧ (g_bt B n (g_sk B n (g_len 32 + (g_sk B n (g_len 33 + q))))) ≤ 122))), (1, qI 2), (2, qI 3), (0, .ref m)]) (by decide) rfl dX8_readsOrder_35 ?_
                                have hwl186 := g_words_ok 32 (by decide)
                                have hwn186 := g_isW_n (g_words_ok 32 (by decide)) (fun k hk => by have := g_ch_r (i := 32) (by decide) hk; omega) c32_0_185
                                have hsr186 := g_sk_r (B := B) (n := n) (k := g_len 32 + (g_sk B n (g_len 32 + (g_sk B n (g_len 33 + q))))) (by omega)
                                refine q_aload_n hF 5 rfl rfl dX8_readsOrder_37 ?_
                                refine q_callV (kc := 0) (ks := 0) (mc' := 0) (ms' := 0) (h' := 0) (st := []) hF vl_RX8_95 rfl [] rfl rfl hS.t0 (by omega) (Nat.le_of_ble_eq_true rfl) dX8_readsOrder_38 ?_
                                refine mX8_fineA hS hfl ?_
                                refine q_ifeq hF (by decide) dX8_readsOrder_41 (fun c41v188 => ?_) (fun c41v188 => ?_)
                                · exact absurd c41v188 (by decide)
                                · refine q_iload_n hF 4 rfl rfl dX8_readsOrder_44 ?_
                                  refine q_iload hF 0 rfl dX8_readsOrder_45 ?_
                                  refine q_ishr hF (c0 := 3) (by decide) dX8_readsOrder_47 ?_
                                  refine q_iconst hF dX8_readsOrder_48 ?_
                                  refine q_iand hF (c0 := 1) (by decide) dX8_readsOrder_49 ?_
                                  refine q_iconst hF dX8_readsOrder_50 ?_
                                  refine q_icmpne hF (by decide) (by decide) dX8_readsOrder_51 (fun c51v189 => ?_) (fun c51v189 => ?_)
                                  · exact absurd c51v189 (by decide)
                                  · refine q_aload_n hF 5 rfl rfl dX8_readsOrder_54 ?_
                                    refine q_iconst hF dX8_readsOrder_55 ?_
                                    refine q_iload hF 1 rfl dX8_readsOrder_56 ?_
                                    refine q_callV (kc := 0) (ks := 0) (mc' := 0) (ms' := 0) (h' := 0) (st := []) hF vl_RX8_106 rfl [qI 1, qI ((g_sk B n (g_len 32 + (g_sk B n (g_len 33 + q))) : Nat) : Int)] rfl rfl hS.t0 (by omega) (Nat.le_of_ble_eq_true rfl) dX8_readsOrder_58 ?_
                                    refine mX8_wrongA hS hSA hfl ?_
                                    show qX G F Q 0 0 61 [(5, qI 0), (4, qI ((g_sk B n (g_len 32 + (g_sk B n (g_len 33 + q))) : Nat) : Int)), (3, qI (q_b (97 ≤ (g_bt B n (g_sk B n (g_len 32 + (g_sk B n (g_len 33 + q))))) ∧ (g_bt B n (g_sk B n (g_len 32 + (g_sk B n (g_len 33 + q))))) ≤ 122))), (1, qI 2), (2, qI 3), (0, .ref m)] [] sz T (q_ps I m (g_mk (g_len 32 + (g_sk B n (g_len 32 + (g_sk B n (g_len 33 + q))))) 1 ((g_sk B n (g_len 32 + (g_sk B n (g_len 33 + q))) : Nat) : Int) s.cd s.op s.on s.hp)) (q_row L (m + 4) (g_up (g_up t 9 1) 10 0)) P
                                    refine q_aload_n hF 5 rfl rfl dX8_readsOrder_61 ?_
                                    refine q_callV (kc := 0) (ks := 0) (mc' := 0) (ms' := 0) (h' := 0) (st := []) hF vl_RX8_95 rfl [] rfl rfl hS.t0 (by omega) (Nat.le_of_ble_eq_true rfl) dX8_readsOrder_62 ?_
                                    refine mX8_fine0 hS (show (1 : Int) ≠ 0 by decide) (show -2147483648 ≤ 1 ∧ 1 < 2147483648 by first | decide | omega | assumption) ?_
                                    refine q_ifne hF (by decide) dX8_readsOrder_65 (fun c65v192 => ?_) (fun c65v192 => ?_)
                                    · exact absurd c65v192 (by decide)
                                    · refine q_return hF rfl dX8_readsOrder_68 ?_
                                      show Q (.inl none) sz T (q_ps I m (g_mk (g_len 32 + (g_sk B n (g_len 32 + (g_sk B n (g_len 33 + q))))) 1 ((g_sk B n (g_len 32 + (g_sk B n (g_len 33 + q))) : Nat) : Int) s.cd s.op s.on s.hp)) (q_row L (m + 4) (g_up (g_up t 9 1) 10 0)) P
                                      exact k1 1 (g_sk B n (g_len 32 + (g_sk B n (g_len 33 + q)))) _ _ (by rw [← hx2, g_rdOrder, g_rdO, if_neg c32_0_3, if_pos c32_1_3, g_rdO1, if_neg (by decide), if_pos c7v168, g_rdO, if_pos c32_0_172, g_rdO1, if_neg (by decide), if_pos c7v181, g_rdO, if_pos c32_0_185, g_rdO1, if_pos (by decide)]) (by decide) rfl rfl (show g_len 32 + (g_sk B n (g_len 32 + (g_sk B n (g_len 33 + q)))) ≤ n by omega)
                              · show qX G F Q 0 0 35 [(4, qI ((g_sk B n (g_len 32 + (g_sk B n (g_len 33 + q))) : Nat) : Int)), (3, qI (q_b (97 ≤ (g_bt B n (g_sk B n (g_len 32 + (g_sk B n (g_len 33 + q))))) ∧ (g_bt B n (g_sk B n (g_len 32 + (g_sk B n (g_len 33 + q))))) ≤ 122))), (1, qI 2), (2, qI 3), (5, qI 0), (0, .ref m)] [qI 1] sz T (q_ps I m (g_mk (g_len 33 + (g_sk B n (g_len 32 + (g_sk B n (g_len 33 + q))))) s.fl s.fa s.cd s.op s.on s.hp)) (q_row L (m + 4) (g_up (g_up t 9 1) 10 0)) P
                                refine q_istore hF (ls' := [(5, qI 1), (4, qI ((g_sk B n (g_len 32 + (g_sk B n (g_len 33 + q))) : Nat) : Int)), (3, qI (q_b (97 ≤ (g_bt B n (g_sk B n (g_len 32 + (g_sk B n (g_len 33 + q))))) ∧ (g_bt B n (g_sk B n (g_len 32 + (g_sk B n (g_len 33 + q))))) ≤ 122))), (1, qI 2), (2, qI 3), (0, .ref m)]) (by decide) rfl dX8_readsOrder_35 ?_
                                have hwl193 := g_words_ok 33 (by decide)
                                have hwn193 := g_isW_n (g_words_ok 33 (by decide)) (fun k hk => by have := g_ch_r (i := 33) (by decide) hk; omega) c32_1_185
                                have hsr193 := g_sk_r (B := B) (n := n) (k := g_len 33 + (g_sk B n (g_len 32 + (g_sk B n (g_len 33 + q))))) (by omega)
                                refine q_aload_n hF 5 rfl rfl dX8_readsOrder_37 ?_
                                refine q_callV (kc := 0) (ks := 0) (mc' := 0) (ms' := 0) (h' := 0) (st := []) hF vl_RX8_95 rfl [] rfl rfl hS.t0 (by omega) (Nat.le_of_ble_eq_true rfl) dX8_readsOrder_38 ?_
                                refine mX8_fineA hS hfl ?_
                                refine q_ifeq hF (by decide) dX8_readsOrder_41 (fun c41v195 => ?_) (fun c41v195 => ?_)
                                · exact absurd c41v195 (by decide)
                                · refine q_iload_n hF 4 rfl rfl dX8_readsOrder_44 ?_
                                  refine q_iload hF 0 rfl dX8_readsOrder_45 ?_
                                  refine q_ishr hF (c0 := 1) (by decide) dX8_readsOrder_47 ?_
                                  refine q_iconst hF dX8_readsOrder_48 ?_
                                  refine q_iand hF (c0 := 1) (by decide) dX8_readsOrder_49 ?_
                                  refine q_iconst hF dX8_readsOrder_50 ?_
                                  refine q_icmpne hF (by decide) (by decide) dX8_readsOrder_51 (fun c51v196 => ?_) (fun c51v196 => ?_)
                                  · exact absurd c51v196 (by decide)
                                  · refine q_aload_n hF 5 rfl rfl dX8_readsOrder_54 ?_
                                    refine q_iconst hF dX8_readsOrder_55 ?_
                                    refine q_iload hF 1 rfl dX8_readsOrder_56 ?_
                                    refine q_callV (kc := 0) (ks := 0) (mc' := 0) (ms' := 0) (h' := 0) (st := []) hF vl_RX8_106 rfl [qI 1, qI ((g_sk B n (g_len 32 + (g_sk B n (g_len 33 + q))) : Nat) : Int)] rfl rfl hS.t0 (by omega) (Nat.le_of_ble_eq_true rfl) dX8_readsOrder_58 ?_
                                    refine mX8_wrongA hS hSA hfl ?_
                                    show qX G F Q 0 0 61 [(5, qI 1), (4, qI ((g_sk B n (g_len 32 + (g_sk B n (g_len 33 + q))) : Nat) : Int)), (3, qI (q_b (97 ≤ (g_bt B n (g_sk B n (g_len 32 + (g_sk B n (g_len 33 + q))))) ∧ (g_bt B n (g_sk B n (g_len 32 + (g_sk B n (g_len 33 + q))))) ≤ 122))), (1, qI 2), (2, qI 3), (0, .ref m)] [] sz T (q_ps I m (g_mk (g_len 33 + (g_sk B n (g_len 32 + (g_sk B n (g_len 33 + q))))) 1 ((g_sk B n (g_len 32 + (g_sk B n (g_len 33 + q))) : Nat) : Int) s.cd s.op s.on s.hp)) (q_row L (m + 4) (g_up (g_up t 9 1) 10 0)) P
                                    refine q_aload_n hF 5 rfl rfl dX8_readsOrder_61 ?_
                                    refine q_callV (kc := 0) (ks := 0) (mc' := 0) (ms' := 0) (h' := 0) (st := []) hF vl_RX8_95 rfl [] rfl rfl hS.t0 (by omega) (Nat.le_of_ble_eq_true rfl) dX8_readsOrder_62 ?_
                                    refine mX8_fine0 hS (show (1 : Int) ≠ 0 by decide) (show -2147483648 ≤ 1 ∧ 1 < 2147483648 by first | decide | omega | assumption) ?_
                                    refine q_ifne hF (by decide) dX8_readsOrder_65 (fun c65v199 => ?_) (fun c65v199 => ?_)
                                    · exact absurd c65v199 (by decide)
                                    · refine q_return hF rfl dX8_readsOrder_68 ?_
                                      show Q (.inl none) sz T (q_ps I m (g_mk (g_len 33 + (g_sk B n (g_len 32 + (g_sk B n (g_len 33 + q))))) 1 ((g_sk B n (g_len 32 + (g_sk B n (g_len 33 + q))) : Nat) : Int) s.cd s.op s.on s.hp)) (q_row L (m + 4) (g_up (g_up t 9 1) 10 0)) P
                                      exact k1 1 (g_sk B n (g_len 32 + (g_sk B n (g_len 33 + q)))) _ _ (by rw [← hx2, g_rdOrder, g_rdO, if_neg c32_0_3, if_pos c32_1_3, g_rdO1, if_neg (by decide), if_pos c7v168, g_rdO, if_pos c32_0_172, g_rdO1, if_neg (by decide), if_pos c7v181, g_rdO, if_neg c32_0_185, if_pos c32_1_185, g_rdO1, if_pos (by decide)]) (by decide) rfl rfl (show g_len 33 + (g_sk B n (g_len 32 + (g_sk B n (g_len 33 + q)))) ≤ n by omega)
                              · show qX G F Q 0 0 35 [(4, qI ((g_sk B n (g_len 32 + (g_sk B n (g_len 33 + q))) : Nat) : Int)), (3, qI (q_b (97 ≤ (g_bt B n (g_sk B n (g_len 32 + (g_sk B n (g_len 33 + q))))) ∧ (g_bt B n (g_sk B n (g_len 32 + (g_sk B n (g_len 33 + q))))) ≤ 122))), (1, qI 2), (2, qI 3), (5, qI 0), (0, .ref m)] [qI 2] sz T (q_ps I m (g_mk (g_len 34 + (g_sk B n (g_len 32 + (g_sk B n (g_len 33 + q))))) s.fl s.fa s.cd s.op s.on s.hp)) (q_row L (m + 4) (g_up (g_up t 9 1) 10 0)) P
                                refine q_istore hF (ls' := [(5, qI 2), (4, qI ((g_sk B n (g_len 32 + (g_sk B n (g_len 33 + q))) : Nat) : Int)), (3, qI (q_b (97 ≤ (g_bt B n (g_sk B n (g_len 32 + (g_sk B n (g_len 33 + q))))) ∧ (g_bt B n (g_sk B n (g_len 32 + (g_sk B n (g_len 33 + q))))) ≤ 122))), (1, qI 2), (2, qI 3), (0, .ref m)]) (by decide) rfl dX8_readsOrder_35 ?_
                                have hwl200 := g_words_ok 34 (by decide)
                                have hwn200 := g_isW_n (g_words_ok 34 (by decide)) (fun k hk => by have := g_ch_r (i := 34) (by decide) hk; omega) c32_2_185
                                have hsr200 := g_sk_r (B := B) (n := n) (k := g_len 34 + (g_sk B n (g_len 32 + (g_sk B n (g_len 33 + q))))) (by omega)
                                refine q_aload_n hF 5 rfl rfl dX8_readsOrder_37 ?_
                                refine q_callV (kc := 0) (ks := 0) (mc' := 0) (ms' := 0) (h' := 0) (st := []) hF vl_RX8_95 rfl [] rfl rfl hS.t0 (by omega) (Nat.le_of_ble_eq_true rfl) dX8_readsOrder_38 ?_
                                refine mX8_fineA hS hfl ?_
                                refine q_ifeq hF (by decide) dX8_readsOrder_41 (fun c41v202 => ?_) (fun c41v202 => ?_)
                                · exact absurd c41v202 (by decide)
                                · refine q_iload_n hF 4 rfl rfl dX8_readsOrder_44 ?_
                                  refine q_iload hF 0 rfl dX8_readsOrder_45 ?_
                                  refine q_ishr hF (c0 := 0) (by decide) dX8_readsOrder_47 ?_
                                  refine q_iconst hF dX8_readsOrder_48 ?_
                                  refine q_iand hF (c0 := 0) (by decide) dX8_readsOrder_49 ?_
                                  refine q_iconst hF dX8_readsOrder_50 ?_
                                  refine q_icmpne hF (by decide) (by decide) dX8_readsOrder_51 (fun c51v203 => ?_) (fun c51v203 => ?_)
                                  · refine q_aload_n hF 5 rfl rfl dX8_readsOrder_61 ?_
                                    refine q_callV (kc := 0) (ks := 0) (mc' := 0) (ms' := 0) (h' := 0) (st := []) hF vl_RX8_95 rfl [] rfl rfl hS.t0 (by omega) (Nat.le_of_ble_eq_true rfl) dX8_readsOrder_62 ?_
                                    refine mX8_fineA hS hfl ?_
                                    refine q_ifne hF (by decide) dX8_readsOrder_65 (fun c65v205 => ?_) (fun c65v205 => ?_)
                                    · refine q_iload_n hF 4 rfl rfl dX8_readsOrder_69 ?_
                                      refine q_iconst hF dX8_readsOrder_70 ?_
                                      refine q_iload hF 0 rfl dX8_readsOrder_71 ?_
                                      refine q_ishl hF (c0 := 4) (by decide) dX8_readsOrder_73 ?_
                                      refine q_ior hF (c0 := 7) (by decide) dX8_readsOrder_74 ?_
                                      refine q_istore_n hF (ls' := [(2, qI 7), (5, qI 2), (4, qI ((g_sk B n (g_len 32 + (g_sk B n (g_len 33 + q))) : Nat) : Int)), (3, qI (q_b (97 ≤ (g_bt B n (g_sk B n (g_len 32 + (g_sk B n (g_len 33 + q))))) ∧ (g_bt B n (g_sk B n (g_len 32 + (g_sk B n (g_len 33 + q))))) ≤ 122))), (1, qI 2), (0, .ref m)]) rfl (by decide) rfl dX8_readsOrder_75 ?_
                                      refine q_aload_n hF 5 rfl rfl dX8_readsOrder_76 ?_
                                      refine q_getA hF fl_RX8_24 rfl hS.t0 hS.p10 dX8_readsOrder_77 ?_
                                      refine q_bipush hF (n := 9) rfl dX8_readsOrder_80 ?_
                                      refine q_iload_n hF 4 rfl rfl dX8_readsOrder_82 ?_
                                      refine q_iadd hF dX8_readsOrder_83 ?_
                                      refine q_iload hF 1 rfl dX8_readsOrder_84 ?_
                                      refine q_i2l hF (by decide) dX8_readsOrder_86 ?_
                                      refine q_lastorev hF (n := 1243) 11 hS.t4 (q_Ale hSA (by omega)) (by omega) (by omega) (by decide) dX8_readsOrder_87 ?_
                                      rw [q_row_u]
                                      refine q_iinc hF (z' := 3) (ls' := [(1, qI 3), (2, qI 7), (5, qI 2), (4, qI ((g_sk B n (g_len 32 + (g_sk B n (g_len 33 + q))) : Nat) : Int)), (3, qI (q_b (97 ≤ (g_bt B n (g_sk B n (g_len 32 + (g_sk B n (g_len 33 + q))))) ∧ (g_bt B n (g_sk B n (g_len 32 + (g_sk B n (g_len 33 + q))))) ≤ 122))), (0, .ref m)]) 4 rfl (by first | rfl | omega) (by decide) rfl dX8_readsOrder_88 ?_
                                      refine q_aload_n hF 5 rfl rfl dX8_readsOrder_91 ?_
                                      refine q_callV (kc := 0) (ks := 0) (mc' := 0) (ms' := 0) (h' := 1) (st := []) hF vl_RX8_78 rfl [] rfl rfl hS.t0 (by omega) (Nat.le_of_ble_eq_true rfl) dX8_readsOrder_92 ?_
                                      refine mX8_herePQ (B := B) (n := n) hS hSA hB (show (g_len 34 + (g_sk B n (g_len 32 + (g_sk B n (g_len 33 + q))))) ≤ n by omega) rfl ?_
                                      show qX G F Q 0 0 95 [(1, qI 3), (2, qI 7), (5, qI 2), (4, qI ((g_sk B n (g_len 32 + (g_sk B n (g_len 33 + q))) : Nat) : Int)), (3, qI (q_b (97 ≤ (g_bt B n (g_sk B n (g_len 32 + (g_sk B n (g_len 33 + q))))) ∧ (g_bt B n (g_sk B n (g_len 32 + (g_sk B n (g_len 33 + q))))) ≤ 122))), (0, .ref m)] [qI (g_bt B n (g_sk B n (g_len 34 + (g_sk B n (g_len 32 + (g_sk B n (g_len 33 + q)))))))] sz T (q_ps I m (g_mk (g_sk B n (g_len 34 + (g_sk B n (g_len 32 + (g_sk B n (g_len 33 + q)))))) s.fl s.fa s.cd s.op s.on s.hp)) (q_row L (m + 4) (g_up (g_up (g_up t 9 1) 10 0) 11 2)) P
                                      refine q_callS (kc := 0) (ks := 0) (mc' := 0) (ms' := 0) (h' := 0) (st := []) hF sl_RX8_91 rfl [qI (g_bt B n (g_sk B n (g_len 34 + (g_sk B n (g_len 32 + (g_sk B n (g_len 33 + q)))))))] rfl rfl (by omega) (Nat.le_of_ble_eq_true rfl) dX8_readsOrder_95 ?_
                                      refine mX8_isSmall (g_bt_32 hB _) ?_
                                      refine q_istore_n hF (ls' := [(3, qI (q_b (97 ≤ (g_bt B n (g_sk B n (g_len 34 + (g_sk B n (g_len 32 + (g_sk B n (g_len 33 + q))))))) ∧ (g_bt B n (g_sk B n (g_len 34 + (g_sk B n (g_len 32 + (g_sk B n (g_len 33 + q))))))) ≤ 122))), (1, qI 3), (2, qI 7), (5, qI 2), (4, qI ((g_sk B n (g_len 32 + (g_sk B n (g_len 33 + q))) : Nat) : Int)), (0, .ref m)]) rfl (by decide) rfl dX8_readsOrder_98 ?_
                                      refine q_goto hF dX8_readsOrder_99 ?_
                                      refine q_iload_n hF 0 rfl rfl dX8_readsOrder_6 ?_
                                      refine q_ifeq_b hF dX8_readsOrder_7 (fun c7v208 => ?_) (fun c7v208 => ?_)
                                      · refine q_aload_n hF 5 rfl rfl dX8_readsOrder_102 ?_
                                        refine q_getA hF fl_RX8_24 rfl hS.t0 hS.p10 dX8_readsOrder_103 ?_
                                        refine q_bipush hF (n := 8) rfl dX8_readsOrder_106 ?_
                                        refine q_iload_n hF 1 rfl rfl dX8_readsOrder_108 ?_
                                        refine q_i2l hF (by decide) dX8_readsOrder_109 ?_
                                        refine q_lastorev hF (n := 1243) 8 hS.t4 (q_Ale hSA (by omega)) rfl (by decide) (by decide) dX8_readsOrder_110 ?_
                                        rw [q_row_u]
                                        refine q_return hF rfl dX8_readsOrder_111 ?_
                                        exact k0 _ _ (by rw [← hx2, g_rdOrder, g_rdO, if_neg c32_0_3, if_pos c32_1_3, g_rdO1, if_neg (by decide), if_pos c7v168, g_rdO, if_pos c32_0_172, g_rdO1, if_neg (by decide), if_pos c7v181, g_rdO, if_neg c32_0_185, if_neg c32_1_185, if_pos c32_2_185, g_rdO1, if_neg (by decide), if_neg c7v208]; try rfl)
                                      · refine q_aload_n hF 5 rfl rfl dX8_readsOrder_10 ?_
                                        refine q_callV (kc := 0) (ks := 0) (mc' := 0) (ms' := 0) (h' := 0) (st := []) hF vl_RX8_95 rfl [] rfl rfl hS.t0 (by omega) (Nat.le_of_ble_eq_true rfl) dX8_readsOrder_11 ?_
                                        refine mX8_fineA hS hfl ?_
                                        refine q_ifeq hF (by decide) dX8_readsOrder_14 (fun c14v210 => ?_) (fun c14v210 => ?_)
                                        · exact absurd c14v210 (by decide)
                                        · skip
                                          refine q_aload_n hF 5 rfl rfl dX8_readsOrder_17 ?_
                                          refine q_callV (kc := 0) (ks := 0) (mc' := 0) (ms' := 0) (h' := 1) (st := []) hF vl_RX8_78 rfl [] rfl rfl hS.t0 (by omega) (Nat.le_of_ble_eq_true rfl) dX8_readsOrder_18 ?_
                                          refine mX8_herePQ (B := B) (n := n) hS hSA hB (show (g_sk B n (g_len 34 + (g_sk B n (g_len 32 + (g_sk B n (g_len 33 + q)))))) ≤ n by omega) (g_sk_sk (by omega)) ?_
                                          show qX G F Q 0 0 21 [(3, qI (q_b (97 ≤ (g_bt B n (g_sk B n (g_len 34 + (g_sk B n (g_len 32 + (g_sk B n (g_len 33 + q))))))) ∧ (g_bt B n (g_sk B n (g_len 34 + (g_sk B n (g_len 32 + (g_sk B n (g_len 33 + q))))))) ≤ 122))), (1, qI 3), (2, qI 7), (5, qI 2), (4, qI ((g_sk B n (g_len 32 + (g_sk B n (g_len 33 + q))) : Nat) : Int)), (0, .ref m)] [qI (g_bt B n (g_sk B n (g_len 34 + (g_sk B n (g_len 32 + (g_sk B n (g_len 33 + q)))))))] sz T (q_ps I m (g_mk (g_sk B n (g_len 34 + (g_sk B n (g_len 32 + (g_sk B n (g_len 33 + q)))))) s.fl s.fa s.cd s.op s.on s.hp)) (q_row L (m + 4) (g_up (g_up (g_up t 9 1) 10 0) 11 2)) P
                                          refine q_pop hF rfl dX8_readsOrder_21 ?_
                                          refine q_aload_n hF 5 rfl rfl dX8_readsOrder_22 ?_
                                          refine q_getIv hF (z := ((g_sk B n (g_len 34 + (g_sk B n (g_len 32 + (g_sk B n (g_len 33 + q))))) : Nat) : Int)) fl_RX8_65 hS.t0 q_ps_4 dX8_readsOrder_23 ?_
                                          refine q_istore hF (ls' := [(4, qI ((g_sk B n (g_len 34 + (g_sk B n (g_len 32 + (g_sk B n (g_len 33 + q))))) : Nat) : Int)), (3, qI (q_b (97 ≤ (g_bt B n (g_sk B n (g_len 34 + (g_sk B n (g_len 32 + (g_sk B n (g_len 33 + q))))))) ∧ (g_bt B n (g_sk B n (g_len 34 + (g_sk B n (g_len 32 + (g_sk B n (g_len 33 + q))))))) ≤ 122))), (1, qI 3), (2, qI 7), (5, qI 2), (0, .ref m)]) (by decide) rfl dX8_readsOrder_26 ?_
                                          refine q_aload_n hF 5 rfl rfl dX8_readsOrder_28 ?_
                                          refine q_iconst hF dX8_readsOrder_29 ?_
                                          refine q_bipush hF (n := 7) rfl dX8_readsOrder_30 ?_
                                          refine q_callV (kc := 0) (ks := 0) (mc' := 0) (ms' := 0) (h' := 6) (st := []) hF vl_RX8_220 rfl [qI 5, qI 7] rfl rfl hS.t0 (by omega) (Nat.le_of_ble_eq_true rfl) dX8_readsOrder_32 ?_
                                          refine mX8_one5 hS hSA hB (show (g_sk B n (g_len 34 + (g_sk B n (g_len 32 + (g_sk B n (g_len 33 + q)))))) ≤ n by omega) hfl (g_sk_sk (by omega)) (fun (c32_0_212 : g_isW B n 32 (g_sk B n (g_len 34 + (g_sk B n (g_len 32 + (g_sk B n (g_len 33 + q))))))) => ?_) (fun (c32_0_212 : ¬ (g_isW B n 32 (g_sk B n (g_len 34 + (g_sk B n (g_len 32 + (g_sk B n (g_len 33 + q)))))))) (c32_1_212 : g_isW B n 33 (g_sk B n (g_len 34 + (g_sk B n (g_len 32 + (g_sk B n (g_len 33 + q))))))) => ?_) (fun (c32_0_212 : ¬ (g_isW B n 32 (g_sk B n (g_len 34 + (g_sk B n (g_len 32 + (g_sk B n (g_len 33 + q)))))))) (c32_1_212 : ¬ (g_isW B n 33 (g_sk B n (g_len 34 + (g_sk B n (g_len 32 + (g_sk B n (g_len 33 + q)))))))) (c32_2_212 : g_isW B n 34 (g_sk B n (g_len 34 + (g_sk B n (g_len 32 + (g_sk B n (g_len 33 + q))))))) => ?_) (fun (c32_0_212 : ¬ (g_isW B n 32 (g_sk B n (g_len 34 + (g_sk B n (g_len 32 + (g_sk B n (g_len 33 + q)))))))) (c32_1_212 : ¬ (g_isW B n 33 (g_sk B n (g_len 34 + (g_sk B n (g_len 32 + (g_sk B n (g_len 33 + q)))))))) (c32_2_212 : ¬ (g_isW B n 34 (g_sk B n (g_len 34 + (g_sk B n (g_len 32 + (g_sk B n (g_len 33 + q)))))))) => ?_)
                                          · show qX G F Q 0 0 35 [(4, qI ((g_sk B n (g_len 34 + (g_sk B n (g_len 32 + (g_sk B n (g_len 33 + q))))) : Nat) : Int)), (3, qI (q_b (97 ≤ (g_bt B n (g_sk B n (g_len 34 + (g_sk B n (g_len 32 + (g_sk B n (g_len 33 + q))))))) ∧ (g_bt B n (g_sk B n (g_len 34 + (g_sk B n (g_len 32 + (g_sk B n (g_len 33 + q))))))) ≤ 122))), (1, qI 3), (2, qI 7), (5, qI 2), (0, .ref m)] [qI 0] sz T (q_ps I m (g_mk (g_len 32 + (g_sk B n (g_len 34 + (g_sk B n (g_len 32 + (g_sk B n (g_len 33 + q))))))) s.fl s.fa s.cd s.op s.on s.hp)) (q_row L (m + 4) (g_up (g_up (g_up t 9 1) 10 0) 11 2)) P
                                            refine q_istore hF (ls' := [(5, qI 0), (4, qI ((g_sk B n (g_len 34 + (g_sk B n (g_len 32 + (g_sk B n (g_len 33 + q))))) : Nat) : Int)), (3, qI (q_b (97 ≤ (g_bt B n (g_sk B n (g_len 34 + (g_sk B n (g_len 32 + (g_sk B n (g_len 33 + q))))))) ∧ (g_bt B n (g_sk B n (g_len 34 + (g_sk B n (g_len 32 + (g_sk B n (g_len 33 + q))))))) ≤ 122))), (1, qI 3), (2, qI 7), (0, .ref m)]) (by decide) rfl dX8_readsOrder_35 ?_
                                            have hwl213 := g_words_ok 32 (by decide)
                                            have hwn213 := g_isW_n (g_words_ok 32 (by decide)) (fun k hk => by have := g_ch_r (i := 32) (by decide) hk; omega) c32_0_212
                                            have hsr213 := g_sk_r (B := B) (n := n) (k := g_len 32 + (g_sk B n (g_len 34 + (g_sk B n (g_len 32 + (g_sk B n (g_len 33 + q))))))) (by omega)
                                            refine q_aload_n hF 5 rfl rfl dX8_readsOrder_37 ?_
                                            refine q_callV (kc := 0) (ks := 0) (mc' := 0) (ms' := 0) (h' := 0) (st := []) hF vl_RX8_95 rfl [] rfl rfl hS.t0 (by omega) (Nat.le_of_ble_eq_true rfl) dX8_readsOrder_38 ?_
                                            refine mX8_fineA hS hfl ?_
                                            refine q_ifeq hF (by decide) dX8_readsOrder_41 (fun c41v215 => ?_) (fun c41v215 => ?_)
                                            · exact absurd c41v215 (by decide)
                                            · refine q_iload_n hF 4 rfl rfl dX8_readsOrder_44 ?_
                                              refine q_iload hF 0 rfl dX8_readsOrder_45 ?_
                                              refine q_ishr hF (c0 := 7) (by decide) dX8_readsOrder_47 ?_
                                              refine q_iconst hF dX8_readsOrder_48 ?_
                                              refine q_iand hF (c0 := 1) (by decide) dX8_readsOrder_49 ?_
                                              refine q_iconst hF dX8_readsOrder_50 ?_
                                              refine q_icmpne hF (by decide) (by decide) dX8_readsOrder_51 (fun c51v216 => ?_) (fun c51v216 => ?_)
                                              · exact absurd c51v216 (by decide)
                                              · refine q_aload_n hF 5 rfl rfl dX8_readsOrder_54 ?_
                                                refine q_iconst hF dX8_readsOrder_55 ?_
                                                refine q_iload hF 1 rfl dX8_readsOrder_56 ?_
                                                refine q_callV (kc := 0) (ks := 0) (mc' := 0) (ms' := 0) (h' := 0) (st := []) hF vl_RX8_106 rfl [qI 1, qI ((g_sk B n (g_len 34 + (g_sk B n (g_len 32 + (g_sk B n (g_len 33 + q))))) : Nat) : Int)] rfl rfl hS.t0 (by omega) (Nat.le_of_ble_eq_true rfl) dX8_readsOrder_58 ?_
                                                refine mX8_wrongA hS hSA hfl ?_
                                                show qX G F Q 0 0 61 [(5, qI 0), (4, qI ((g_sk B n (g_len 34 + (g_sk B n (g_len 32 + (g_sk B n (g_len 33 + q))))) : Nat) : Int)), (3, qI (q_b (97 ≤ (g_bt B n (g_sk B n (g_len 34 + (g_sk B n (g_len 32 + (g_sk B n (g_len 33 + q))))))) ∧ (g_bt B n (g_sk B n (g_len 34 + (g_sk B n (g_len 32 + (g_sk B n (g_len 33 + q))))))) ≤ 122))), (1, qI 3), (2, qI 7), (0, .ref m)] [] sz T (q_ps I m (g_mk (g_len 32 + (g_sk B n (g_len 34 + (g_sk B n (g_len 32 + (g_sk B n (g_len 33 + q))))))) 1 ((g_sk B n (g_len 34 + (g_sk B n (g_len 32 + (g_sk B n (g_len 33 + q))))) : Nat) : Int) s.cd s.op s.on s.hp)) (q_row L (m + 4) (g_up (g_up (g_up t 9 1) 10 0) 11 2)) P
                                                refine q_aload_n hF 5 rfl rfl dX8_readsOrder_61 ?_
                                                refine q_callV (kc := 0) (ks := 0) (mc' := 0) (ms' := 0) (h' := 0) (st := []) hF vl_RX8_95 rfl [] rfl rfl hS.t0 (by omega) (Nat.le_of_ble_eq_true rfl) dX8_readsOrder_62 ?_
                                                refine mX8_fine0 hS (show (1 : Int) ≠ 0 by decide) (show -2147483648 ≤ 1 ∧ 1 < 2147483648 by first | decide | omega | assumption) ?_
                                                refine q_ifne hF (by decide) dX8_readsOrder_65 (fun c65v219 => ?_) (fun c65v219 => ?_)
                                                · exact absurd c65v219 (by decide)
                                                · refine q_return hF rfl dX8_readsOrder_68 ?_
                                                  show Q (.inl none) sz T (q_ps I m (g_mk (g_len 32 + (g_sk B n (g_len 34 + (g_sk B n (g_len 32 + (g_sk B n (g_len 33 + q))))))) 1 ((g_sk B n (g_len 34 + (g_sk B n (g_len 32 + (g_sk B n (g_len 33 + q))))) : Nat) : Int) s.cd s.op s.on s.hp)) (q_row L (m + 4) (g_up (g_up (g_up t 9 1) 10 0) 11 2)) P
                                                  exact k1 1 (g_sk B n (g_len 34 + (g_sk B n (g_len 32 + (g_sk B n (g_len 33 + q)))))) _ _ (by rw [← hx2, g_rdOrder, g_rdO, if_neg c32_0_3, if_pos c32_1_3, g_rdO1, if_neg (by decide), if_pos c7v168, g_rdO, if_pos c32_0_172, g_rdO1, if_neg (by decide), if_pos c7v181, g_rdO, if_neg c32_0_185, if_neg c32_1_185, if_pos c32_2_185, g_rdO1, if_neg (by decide), if_pos c7v208, g_rdO, if_pos c32_0_212, g_rdO1, if_pos (by decide)]) (by decide) rfl rfl (show g_len 32 + (g_sk B n (g_len 34 + (g_sk B n (g_len 32 + (g_sk B n (g_len 33 + q)))))) ≤ n by omega)
                                          · show qX G F Q 0 0 35 [(4, qI ((g_sk B n (g_len 34 + (g_sk B n (g_len 32 + (g_sk B n (g_len 33 + q))))) : Nat) : Int)), (3, qI (q_b (97 ≤ (g_bt B n (g_sk B n (g_len 34 + (g_sk B n (g_len 32 + (g_sk B n (g_len 33 + q))))))) ∧ (g_bt B n (g_sk B n (g_len 34 + (g_sk B n (g_len 32 + (g_sk B n (g_len 33 + q))))))) ≤ 122))), (1, qI 3), (2, qI 7), (5, qI 2), (0, .ref m)] [qI 1] sz T (q_ps I m (g_mk (g_len 33 + (g_sk B n (g_len 34 + (g_sk B n (g_len 32 + (g_sk B n (g_len 33 + q))))))) s.fl s.fa s.cd s.op s.on s.hp)) (q_row L (m + 4) (g_up (g_up (g_up t 9 1) 10 0) 11 2)) P
                                            refine q_istore hF (ls' := [(5, qI 1), (4, qI ((g_sk B n (g_len 34 + (g_sk B n (g_len 32 + (g_sk B n (g_len 33 + q))))) : Nat) : Int)), (3, qI (q_b (97 ≤ (g_bt B n (g_sk B n (g_len 34 + (g_sk B n (g_len 32 + (g_sk B n (g_len 33 + q))))))) ∧ (g_bt B n (g_sk B n (g_len 34 + (g_sk B n (g_len 32 + (g_sk B n (g_len 33 + q))))))) ≤ 122))), (1, qI 3), (2, qI 7), (0, .ref m)]) (by decide) rfl dX8_readsOrder_35 ?_
                                            have hwl220 := g_words_ok 33 (by decide)
                                            have hwn220 := g_isW_n (g_words_ok 33 (by decide)) (fun k hk => by have := g_ch_r (i := 33) (by decide) hk; omega) c32_1_212
                                            have hsr220 := g_sk_r (B := B) (n := n) (k := g_len 33 + (g_sk B n (g_len 34 + (g_sk B n (g_len 32 + (g_sk B n (g_len 33 + q))))))) (by omega)
                                            refine q_aload_n hF 5 rfl rfl dX8_readsOrder_37 ?_
                                            refine q_callV (kc := 0) (ks := 0) (mc' := 0) (ms' := 0) (h' := 0) (st := []) hF vl_RX8_95 rfl [] rfl rfl hS.t0 (by omega) (Nat.le_of_ble_eq_true rfl) dX8_readsOrder_38 ?_
                                            refine mX8_fineA hS hfl ?_
                                            refine q_ifeq hF (by decide) dX8_readsOrder_41 (fun c41v222 => ?_) (fun c41v222 => ?_)
                                            · exact absurd c41v222 (by decide)
                                            · refine q_iload_n hF 4 rfl rfl dX8_readsOrder_44 ?_
                                              refine q_iload hF 0 rfl dX8_readsOrder_45 ?_
                                              refine q_ishr hF (c0 := 3) (by decide) dX8_readsOrder_47 ?_
                                              refine q_iconst hF dX8_readsOrder_48 ?_
                                              refine q_iand hF (c0 := 1) (by decide) dX8_readsOrder_49 ?_
                                              refine q_iconst hF dX8_readsOrder_50 ?_
                                              refine q_icmpne hF (by decide) (by decide) dX8_readsOrder_51 (fun c51v223 => ?_) (fun c51v223 => ?_)
                                              · exact absurd c51v223 (by decide)
                                              · refine q_aload_n hF 5 rfl rfl dX8_readsOrder_54 ?_
                                                refine q_iconst hF dX8_readsOrder_55 ?_
                                                refine q_iload hF 1 rfl dX8_readsOrder_56 ?_
                                                refine q_callV (kc := 0) (ks := 0) (mc' := 0) (ms' := 0) (h' := 0) (st := []) hF vl_RX8_106 rfl [qI 1, qI ((g_sk B n (g_len 34 + (g_sk B n (g_len 32 + (g_sk B n (g_len 33 + q))))) : Nat) : Int)] rfl rfl hS.t0 (by omega) (Nat.le_of_ble_eq_true rfl) dX8_readsOrder_58 ?_
                                                refine mX8_wrongA hS hSA hfl ?_
                                                show qX G F Q 0 0 61 [(5, qI 1), (4, qI ((g_sk B n (g_len 34 + (g_sk B n (g_len 32 + (g_sk B n (g_len 33 + q))))) : Nat) : Int)), (3, qI (q_b (97 ≤ (g_bt B n (g_sk B n (g_len 34 + (g_sk B n (g_len 32 + (g_sk B n (g_len 33 + q))))))) ∧ (g_bt B n (g_sk B n (g_len 34 + (g_sk B n (g_len 32 + (g_sk B n (g_len 33 + q))))))) ≤ 122))), (1, qI 3), (2, qI 7), (0, .ref m)] [] sz T (q_ps I m (g_mk (g_len 33 + (g_sk B n (g_len 34 + (g_sk B n (g_len 32 + (g_sk B n (g_len 33 + q))))))) 1 ((g_sk B n (g_len 34 + (g_sk B n (g_len 32 + (g_sk B n (g_len 33 + q))))) : Nat) : Int) s.cd s.op s.on s.hp)) (q_row L (m + 4) (g_up (g_up (g_up t 9 1) 10 0) 11 2)) P
                                                refine q_aload_n hF 5 rfl rfl dX8_readsOrder_61 ?_
                                                refine q_callV (kc := 0) (ks := 0) (mc' := 0) (ms' := 0) (h' := 0) (st := []) hF vl_RX8_95 rfl [] rfl rfl hS.t0 (by omega) (Nat.le_of_ble_eq_true rfl) dX8_readsOrder_62 ?_
                                                refine mX8_fine0 hS (show (1 : Int) ≠ 0 by decide) (show -2147483648 ≤ 1 ∧ 1 < 2147483648 by first | decide | omega | assumption) ?_
                                                refine q_ifne hF (by decide) dX8_readsOrder_65 (fun c65v226 => ?_) (fun c65v226 => ?_)
                                                · exact absurd c65v226 (by decide)
                                                · refine q_return hF rfl dX8_readsOrder_68 ?_
                                                  show Q (.inl none) sz T (q_ps I m (g_mk (g_len 33 + (g_sk B n (g_len 34 + (g_sk B n (g_len 32 + (g_sk B n (g_len 33 + q))))))) 1 ((g_sk B n (g_len 34 + (g_sk B n (g_len 32 + (g_sk B n (g_len 33 + q))))) : Nat) : Int) s.cd s.op s.on s.hp)) (q_row L (m + 4) (g_up (g_up (g_up t 9 1) 10 0) 11 2)) P
                                                  exact k1 1 (g_sk B n (g_len 34 + (g_sk B n (g_len 32 + (g_sk B n (g_len 33 + q)))))) _ _ (by rw [← hx2, g_rdOrder, g_rdO, if_neg c32_0_3, if_pos c32_1_3, g_rdO1, if_neg (by decide), if_pos c7v168, g_rdO, if_pos c32_0_172, g_rdO1, if_neg (by decide), if_pos c7v181, g_rdO, if_neg c32_0_185, if_neg c32_1_185, if_pos c32_2_185, g_rdO1, if_neg (by decide), if_pos c7v208, g_rdO, if_neg c32_0_212, if_pos c32_1_212, g_rdO1, if_pos (by decide)]) (by decide) rfl rfl (show g_len 33 + (g_sk B n (g_len 34 + (g_sk B n (g_len 32 + (g_sk B n (g_len 33 + q)))))) ≤ n by omega)
                                          · show qX G F Q 0 0 35 [(4, qI ((g_sk B n (g_len 34 + (g_sk B n (g_len 32 + (g_sk B n (g_len 33 + q))))) : Nat) : Int)), (3, qI (q_b (97 ≤ (g_bt B n (g_sk B n (g_len 34 + (g_sk B n (g_len 32 + (g_sk B n (g_len 33 + q))))))) ∧ (g_bt B n (g_sk B n (g_len 34 + (g_sk B n (g_len 32 + (g_sk B n (g_len 33 + q))))))) ≤ 122))), (1, qI 3), (2, qI 7), (5, qI 2), (0, .ref m)] [qI 2] sz T (q_ps I m (g_mk (g_len 34 + (g_sk B n (g_len 34 + (g_sk B n (g_len 32 + (g_sk B n (g_len 33 + q))))))) s.fl s.fa s.cd s.op s.on s.hp)) (q_row L (m + 4) (g_up (g_up (g_up t 9 1) 10 0) 11 2)) P
                                            refine q_istore hF (ls' := [(5, qI 2), (4, qI ((g_sk B n (g_len 34 + (g_sk B n (g_len 32 + (g_sk B n (g_len 33 + q))))) : Nat) : Int)), (3, qI (q_b (97 ≤ (g_bt B n (g_sk B n (g_len 34 + (g_sk B n (g_len 32 + (g_sk B n (g_len 33 + q))))))) ∧ (g_bt B n (g_sk B n (g_len 34 + (g_sk B n (g_len 32 + (g_sk B n (g_len 33 + q))))))) ≤ 122))), (1, qI 3), (2, qI 7), (0, .ref m)]) (by decide) rfl dX8_readsOrder_35 ?_
                                            have hwl227 := g_words_ok 34 (by decide)
                                            have hwn227 := g_isW_n (g_words_ok 34 (by decide)) (fun k hk => by have := g_ch_r (i := 34) (by decide) hk; omega) c32_2_212
                                            have hsr227 := g_sk_r (B := B) (n := n) (k := g_len 34 + (g_sk B n (g_len 34 + (g_sk B n (g_len 32 + (g_sk B n (g_len 33 + q))))))) (by omega)
                                            refine q_aload_n hF 5 rfl rfl dX8_readsOrder_37 ?_
                                            refine q_callV (kc := 0) (ks := 0) (mc' := 0) (ms' := 0) (h' := 0) (st := []) hF vl_RX8_95 rfl [] rfl rfl hS.t0 (by omega) (Nat.le_of_ble_eq_true rfl) dX8_readsOrder_38 ?_
                                            refine mX8_fineA hS hfl ?_
                                            refine q_ifeq hF (by decide) dX8_readsOrder_41 (fun c41v229 => ?_) (fun c41v229 => ?_)
                                            · exact absurd c41v229 (by decide)
                                            · refine q_iload_n hF 4 rfl rfl dX8_readsOrder_44 ?_
                                              refine q_iload hF 0 rfl dX8_readsOrder_45 ?_
                                              refine q_ishr hF (c0 := 1) (by decide) dX8_readsOrder_47 ?_
                                              refine q_iconst hF dX8_readsOrder_48 ?_
                                              refine q_iand hF (c0 := 1) (by decide) dX8_readsOrder_49 ?_
                                              refine q_iconst hF dX8_readsOrder_50 ?_
                                              refine q_icmpne hF (by decide) (by decide) dX8_readsOrder_51 (fun c51v230 => ?_) (fun c51v230 => ?_)
                                              · exact absurd c51v230 (by decide)
                                              · refine q_aload_n hF 5 rfl rfl dX8_readsOrder_54 ?_
                                                refine q_iconst hF dX8_readsOrder_55 ?_
                                                refine q_iload hF 1 rfl dX8_readsOrder_56 ?_
                                                refine q_callV (kc := 0) (ks := 0) (mc' := 0) (ms' := 0) (h' := 0) (st := []) hF vl_RX8_106 rfl [qI 1, qI ((g_sk B n (g_len 34 + (g_sk B n (g_len 32 + (g_sk B n (g_len 33 + q))))) : Nat) : Int)] rfl rfl hS.t0 (by omega) (Nat.le_of_ble_eq_true rfl) dX8_readsOrder_58 ?_
                                                refine mX8_wrongA hS hSA hfl ?_
                                                show qX G F Q 0 0 61 [(5, qI 2), (4, qI ((g_sk B n (g_len 34 + (g_sk B n (g_len 32 + (g_sk B n (g_len 33 + q))))) : Nat) : Int)), (3, qI (q_b (97 ≤ (g_bt B n (g_sk B n (g_len 34 + (g_sk B n (g_len 32 + (g_sk B n (g_len 33 + q))))))) ∧ (g_bt B n (g_sk B n (g_len 34 + (g_sk B n (g_len 32 + (g_sk B n (g_len 33 + q))))))) ≤ 122))), (1, qI 3), (2, qI 7), (0, .ref m)] [] sz T (q_ps I m (g_mk (g_len 34 + (g_sk B n (g_len 34 + (g_sk B n (g_len 32 + (g_sk B n (g_len 33 + q))))))) 1 ((g_sk B n (g_len 34 + (g_sk B n (g_len 32 + (g_sk B n (g_len 33 + q))))) : Nat) : Int) s.cd s.op s.on s.hp)) (q_row L (m + 4) (g_up (g_up (g_up t 9 1) 10 0) 11 2)) P
                                                refine q_aload_n hF 5 rfl rfl dX8_readsOrder_61 ?_
                                                refine q_callV (kc := 0) (ks := 0) (mc' := 0) (ms' := 0) (h' := 0) (st := []) hF vl_RX8_95 rfl [] rfl rfl hS.t0 (by omega) (Nat.le_of_ble_eq_true rfl) dX8_readsOrder_62 ?_
                                                refine mX8_fine0 hS (show (1 : Int) ≠ 0 by decide) (show -2147483648 ≤ 1 ∧ 1 < 2147483648 by first | decide | omega | assumption) ?_
                                                refine q_ifne hF (by decide) dX8_readsOrder_65 (fun c65v233 => ?_) (fun c65v233 => ?_)
                                                · exact absurd c65v233 (by decide)
                                                · refine q_return hF rfl dX8_readsOrder_68 ?_
                                                  show Q (.inl none) sz T (q_ps I m (g_mk (g_len 34 + (g_sk B n (g_len 34 + (g_sk B n (g_len 32 + (g_sk B n (g_len 33 + q))))))) 1 ((g_sk B n (g_len 34 + (g_sk B n (g_len 32 + (g_sk B n (g_len 33 + q))))) : Nat) : Int) s.cd s.op s.on s.hp)) (q_row L (m + 4) (g_up (g_up (g_up t 9 1) 10 0) 11 2)) P
                                                  exact k1 1 (g_sk B n (g_len 34 + (g_sk B n (g_len 32 + (g_sk B n (g_len 33 + q)))))) _ _ (by rw [← hx2, g_rdOrder, g_rdO, if_neg c32_0_3, if_pos c32_1_3, g_rdO1, if_neg (by decide), if_pos c7v168, g_rdO, if_pos c32_0_172, g_rdO1, if_neg (by decide), if_pos c7v181, g_rdO, if_neg c32_0_185, if_neg c32_1_185, if_pos c32_2_185, g_rdO1, if_neg (by decide), if_pos c7v208, g_rdO, if_neg c32_0_212, if_neg c32_1_212, if_pos c32_2_212, g_rdO1, if_pos (by decide)]) (by decide) rfl rfl (show g_len 34 + (g_sk B n (g_len 34 + (g_sk B n (g_len 32 + (g_sk B n (g_len 33 + q)))))) ≤ n by omega)
                                          · show qX G F Q 0 0 35 [(4, qI ((g_sk B n (g_len 34 + (g_sk B n (g_len 32 + (g_sk B n (g_len 33 + q))))) : Nat) : Int)), (3, qI (q_b (97 ≤ (g_bt B n (g_sk B n (g_len 34 + (g_sk B n (g_len 32 + (g_sk B n (g_len 33 + q))))))) ∧ (g_bt B n (g_sk B n (g_len 34 + (g_sk B n (g_len 32 + (g_sk B n (g_len 33 + q))))))) ≤ 122))), (1, qI 3), (2, qI 7), (5, qI 2), (0, .ref m)] [qI (-1)] sz T (q_ps I m (g_mk (g_sk B n (g_len 34 + (g_sk B n (g_len 32 + (g_sk B n (g_len 33 + q)))))) 1 ((g_sk B n (g_len 34 + (g_sk B n (g_len 32 + (g_sk B n (g_len 33 + q))))) : Nat) : Int) s.cd s.op s.on s.hp)) (q_row L (m + 4) (g_up (g_up (g_up t 9 1) 10 0) 11 2)) P
                                            refine q_istore hF (ls' := [(5, qI (-1)), (4, qI ((g_sk B n (g_len 34 + (g_sk B n (g_len 32 + (g_sk B n (g_len 33 + q))))) : Nat) : Int)), (3, qI (q_b (97 ≤ (g_bt B n (g_sk B n (g_len 34 + (g_sk B n (g_len 32 + (g_sk B n (g_len 33 + q))))))) ∧ (g_bt B n (g_sk B n (g_len 34 + (g_sk B n (g_len 32 + (g_sk B n (g_len 33 + q))))))) ≤ 122))), (1, qI 3), (2, qI 7), (0, .ref m)]) (by decide) rfl dX8_readsOrder_35 ?_
                                            skip
                                            refine q_aload_n hF 5 rfl rfl dX8_readsOrder_37 ?_
                                            refine q_callV (kc := 0) (ks := 0) (mc' := 0) (ms' := 0) (h' := 0) (st := []) hF vl_RX8_95 rfl [] rfl rfl hS.t0 (by omega) (Nat.le_of_ble_eq_true rfl) dX8_readsOrder_38 ?_
                                            refine mX8_fine0 hS (show (1 : Int) ≠ 0 by decide) (show -2147483648 ≤ 1 ∧ 1 < 2147483648 by first | decide | omega | assumption) ?_
                                            refine q_ifeq hF (by decide) dX8_readsOrder_41 (fun c41v235 => ?_) (fun c41v235 => ?_)
                                            · refine q_aload_n hF 5 rfl rfl dX8_readsOrder_61 ?_
                                              refine q_callV (kc := 0) (ks := 0) (mc' := 0) (ms' := 0) (h' := 0) (st := []) hF vl_RX8_95 rfl [] rfl rfl hS.t0 (by omega) (Nat.le_of_ble_eq_true rfl) dX8_readsOrder_62 ?_
                                              refine mX8_fine0 hS (show (1 : Int) ≠ 0 by decide) (show -2147483648 ≤ 1 ∧ 1 < 2147483648 by first | decide | omega | assumption) ?_
                                              refine q_ifne hF (by decide) dX8_readsOrder_65 (fun c65v237 => ?_) (fun c65v237 => ?_)
                                              · exact absurd c65v237 (by decide)
                                              · refine q_return hF rfl dX8_readsOrder_68 ?_
                                                show Q (.inl none) sz T (q_ps I m (g_mk (g_sk B n (g_len 34 + (g_sk B n (g_len 32 + (g_sk B n (g_len 33 + q)))))) 1 ((g_sk B n (g_len 34 + (g_sk B n (g_len 32 + (g_sk B n (g_len 33 + q))))) : Nat) : Int) s.cd s.op s.on s.hp)) (q_row L (m + 4) (g_up (g_up (g_up t 9 1) 10 0) 11 2)) P
                                                exact k1 1 (g_sk B n (g_len 34 + (g_sk B n (g_len 32 + (g_sk B n (g_len 33 + q)))))) _ _ (by rw [← hx2, g_rdOrder, g_rdO, if_neg c32_0_3, if_pos c32_1_3, g_rdO1, if_neg (by decide), if_pos c7v168, g_rdO, if_pos c32_0_172, g_rdO1, if_neg (by decide), if_pos c7v181, g_rdO, if_neg c32_0_185, if_neg c32_1_185, if_pos c32_2_185, g_rdO1, if_neg (by decide), if_pos c7v208, g_rdO, if_neg c32_0_212, if_neg c32_1_212, if_neg c32_2_212]) (by decide) rfl rfl (show g_sk B n (g_len 34 + (g_sk B n (g_len 32 + (g_sk B n (g_len 33 + q))))) ≤ n by omega)
                                            · exact absurd c41v235 (by decide)
                                    · exact absurd c65v205 (by decide)
                                  · exact absurd c51v203 (by decide)
                              · show qX G F Q 0 0 35 [(4, qI ((g_sk B n (g_len 32 + (g_sk B n (g_len 33 + q))) : Nat) : Int)), (3, qI (q_b (97 ≤ (g_bt B n (g_sk B n (g_len 32 + (g_sk B n (g_len 33 + q))))) ∧ (g_bt B n (g_sk B n (g_len 32 + (g_sk B n (g_len 33 + q))))) ≤ 122))), (1, qI 2), (2, qI 3), (5, qI 0), (0, .ref m)] [qI (-1)] sz T (q_ps I m (g_mk (g_sk B n (g_len 32 + (g_sk B n (g_len 33 + q)))) 1 ((g_sk B n (g_len 32 + (g_sk B n (g_len 33 + q))) : Nat) : Int) s.cd s.op s.on s.hp)) (q_row L (m + 4) (g_up (g_up t 9 1) 10 0)) P
                                refine q_istore hF (ls' := [(5, qI (-1)), (4, qI ((g_sk B n (g_len 32 + (g_sk B n (g_len 33 + q))) : Nat) : Int)), (3, qI (q_b (97 ≤ (g_bt B n (g_sk B n (g_len 32 + (g_sk B n (g_len 33 + q))))) ∧ (g_bt B n (g_sk B n (g_len 32 + (g_sk B n (g_len 33 + q))))) ≤ 122))), (1, qI 2), (2, qI 3), (0, .ref m)]) (by decide) rfl dX8_readsOrder_35 ?_
                                skip
                                refine q_aload_n hF 5 rfl rfl dX8_readsOrder_37 ?_
                                refine q_callV (kc := 0) (ks := 0) (mc' := 0) (ms' := 0) (h' := 0) (st := []) hF vl_RX8_95 rfl [] rfl rfl hS.t0 (by omega) (Nat.le_of_ble_eq_true rfl) dX8_readsOrder_38 ?_
                                refine mX8_fine0 hS (show (1 : Int) ≠ 0 by decide) (show -2147483648 ≤ 1 ∧ 1 < 2147483648 by first | decide | omega | assumption) ?_
                                refine q_ifeq hF (by decide) dX8_readsOrder_41 (fun c41v239 => ?_) (fun c41v239 => ?_)
                                · refine q_aload_n hF 5 rfl rfl dX8_readsOrder_61 ?_
                                  refine q_callV (kc := 0) (ks := 0) (mc' := 0) (ms' := 0) (h' := 0) (st := []) hF vl_RX8_95 rfl [] rfl rfl hS.t0 (by omega) (Nat.le_of_ble_eq_true rfl) dX8_readsOrder_62 ?_
                                  refine mX8_fine0 hS (show (1 : Int) ≠ 0 by decide) (show -2147483648 ≤ 1 ∧ 1 < 2147483648 by first | decide | omega | assumption) ?_
                                  refine q_ifne hF (by decide) dX8_readsOrder_65 (fun c65v241 => ?_) (fun c65v241 => ?_)
                                  · exact absurd c65v241 (by decide)
                                  · refine q_return hF rfl dX8_readsOrder_68 ?_
                                    show Q (.inl none) sz T (q_ps I m (g_mk (g_sk B n (g_len 32 + (g_sk B n (g_len 33 + q)))) 1 ((g_sk B n (g_len 32 + (g_sk B n (g_len 33 + q))) : Nat) : Int) s.cd s.op s.on s.hp)) (q_row L (m + 4) (g_up (g_up t 9 1) 10 0)) P
                                    exact k1 1 (g_sk B n (g_len 32 + (g_sk B n (g_len 33 + q)))) _ _ (by rw [← hx2, g_rdOrder, g_rdO, if_neg c32_0_3, if_pos c32_1_3, g_rdO1, if_neg (by decide), if_pos c7v168, g_rdO, if_pos c32_0_172, g_rdO1, if_neg (by decide), if_pos c7v181, g_rdO, if_neg c32_0_185, if_neg c32_1_185, if_neg c32_2_185]) (by decide) rfl rfl (show g_sk B n (g_len 32 + (g_sk B n (g_len 33 + q))) ≤ n by omega)
                                · exact absurd c41v239 (by decide)
                        · exact absurd c65v178 (by decide)
                      · exact absurd c51v176 (by decide)
                  · show qX G F Q 0 0 35 [(4, qI ((g_sk B n (g_len 33 + q) : Nat) : Int)), (3, qI (q_b (97 ≤ (g_bt B n (g_sk B n (g_len 33 + q))) ∧ (g_bt B n (g_sk B n (g_len 33 + q))) ≤ 122))), (1, qI 1), (2, qI 2), (5, qI 1), (0, .ref m)] [qI 1] sz T (q_ps I m (g_mk (g_len 33 + (g_sk B n (g_len 33 + q))) s.fl s.fa s.cd s.op s.on s.hp)) (q_row L (m + 4) (g_up t 9 1)) P
                    refine q_istore hF (ls' := [(5, qI 1), (4, qI ((g_sk B n (g_len 33 + q) : Nat) : Int)), (3, qI (q_b (97 ≤ (g_bt B n (g_sk B n (g_len 33 + q))) ∧ (g_bt B n (g_sk B n (g_len 33 + q))) ≤ 122))), (1, qI 1), (2, qI 2), (0, .ref m)]) (by decide) rfl dX8_readsOrder_35 ?_
                    have hwl242 := g_words_ok 33 (by decide)
                    have hwn242 := g_isW_n (g_words_ok 33 (by decide)) (fun k hk => by have := g_ch_r (i := 33) (by decide) hk; omega) c32_1_172
                    have hsr242 := g_sk_r (B := B) (n := n) (k := g_len 33 + (g_sk B n (g_len 33 + q))) (by omega)
                    refine q_aload_n hF 5 rfl rfl dX8_readsOrder_37 ?_
                    refine q_callV (kc := 0) (ks := 0) (mc' := 0) (ms' := 0) (h' := 0) (st := []) hF vl_RX8_95 rfl [] rfl rfl hS.t0 (by omega) (Nat.le_of_ble_eq_true rfl) dX8_readsOrder_38 ?_
                    refine mX8_fineA hS hfl ?_
                    refine q_ifeq hF (by decide) dX8_readsOrder_41 (fun c41v244 => ?_) (fun c41v244 => ?_)
                    · exact absurd c41v244 (by decide)
                    · refine q_iload_n hF 4 rfl rfl dX8_readsOrder_44 ?_
                      refine q_iload hF 0 rfl dX8_readsOrder_45 ?_
                      refine q_ishr hF (c0 := 1) (by decide) dX8_readsOrder_47 ?_
                      refine q_iconst hF dX8_readsOrder_48 ?_
                      refine q_iand hF (c0 := 1) (by decide) dX8_readsOrder_49 ?_
                      refine q_iconst hF dX8_readsOrder_50 ?_
                      refine q_icmpne hF (by decide) (by decide) dX8_readsOrder_51 (fun c51v245 => ?_) (fun c51v245 => ?_)
                      · exact absurd c51v245 (by decide)
                      · refine q_aload_n hF 5 rfl rfl dX8_readsOrder_54 ?_
                        refine q_iconst hF dX8_readsOrder_55 ?_
                        refine q_iload hF 1 rfl dX8_readsOrder_56 ?_
                        refine q_callV (kc := 0) (ks := 0) (mc' := 0) (ms' := 0) (h' := 0) (st := []) hF vl_RX8_106 rfl [qI 1, qI ((g_sk B n (g_len 33 + q) : Nat) : Int)] rfl rfl hS.t0 (by omega) (Nat.le_of_ble_eq_true rfl) dX8_readsOrder_58 ?_
                        refine mX8_wrongA hS hSA hfl ?_
                        show qX G F Q 0 0 61 [(5, qI 1), (4, qI ((g_sk B n (g_len 33 + q) : Nat) : Int)), (3, qI (q_b (97 ≤ (g_bt B n (g_sk B n (g_len 33 + q))) ∧ (g_bt B n (g_sk B n (g_len 33 + q))) ≤ 122))), (1, qI 1), (2, qI 2), (0, .ref m)] [] sz T (q_ps I m (g_mk (g_len 33 + (g_sk B n (g_len 33 + q))) 1 ((g_sk B n (g_len 33 + q) : Nat) : Int) s.cd s.op s.on s.hp)) (q_row L (m + 4) (g_up t 9 1)) P
                        refine q_aload_n hF 5 rfl rfl dX8_readsOrder_61 ?_
                        refine q_callV (kc := 0) (ks := 0) (mc' := 0) (ms' := 0) (h' := 0) (st := []) hF vl_RX8_95 rfl [] rfl rfl hS.t0 (by omega) (Nat.le_of_ble_eq_true rfl) dX8_readsOrder_62 ?_
                        refine mX8_fine0 hS (show (1 : Int) ≠ 0 by decide) (show -2147483648 ≤ 1 ∧ 1 < 2147483648 by first | decide | omega | assumption) ?_
                        refine q_ifne hF (by decide) dX8_readsOrder_65 (fun c65v248 => ?_) (fun c65v248 => ?_)
                        · exact absurd c65v248 (by decide)
                        · refine q_return hF rfl dX8_readsOrder_68 ?_
                          show Q (.inl none) sz T (q_ps I m (g_mk (g_len 33 + (g_sk B n (g_len 33 + q))) 1 ((g_sk B n (g_len 33 + q) : Nat) : Int) s.cd s.op s.on s.hp)) (q_row L (m + 4) (g_up t 9 1)) P
                          exact k1 1 (g_sk B n (g_len 33 + q)) _ _ (by rw [← hx2, g_rdOrder, g_rdO, if_neg c32_0_3, if_pos c32_1_3, g_rdO1, if_neg (by decide), if_pos c7v168, g_rdO, if_neg c32_0_172, if_pos c32_1_172, g_rdO1, if_pos (by decide)]) (by decide) rfl rfl (show g_len 33 + (g_sk B n (g_len 33 + q)) ≤ n by omega)
                  · show qX G F Q 0 0 35 [(4, qI ((g_sk B n (g_len 33 + q) : Nat) : Int)), (3, qI (q_b (97 ≤ (g_bt B n (g_sk B n (g_len 33 + q))) ∧ (g_bt B n (g_sk B n (g_len 33 + q))) ≤ 122))), (1, qI 1), (2, qI 2), (5, qI 1), (0, .ref m)] [qI 2] sz T (q_ps I m (g_mk (g_len 34 + (g_sk B n (g_len 33 + q))) s.fl s.fa s.cd s.op s.on s.hp)) (q_row L (m + 4) (g_up t 9 1)) P
                    refine q_istore hF (ls' := [(5, qI 2), (4, qI ((g_sk B n (g_len 33 + q) : Nat) : Int)), (3, qI (q_b (97 ≤ (g_bt B n (g_sk B n (g_len 33 + q))) ∧ (g_bt B n (g_sk B n (g_len 33 + q))) ≤ 122))), (1, qI 1), (2, qI 2), (0, .ref m)]) (by decide) rfl dX8_readsOrder_35 ?_
                    have hwl249 := g_words_ok 34 (by decide)
                    have hwn249 := g_isW_n (g_words_ok 34 (by decide)) (fun k hk => by have := g_ch_r (i := 34) (by decide) hk; omega) c32_2_172
                    have hsr249 := g_sk_r (B := B) (n := n) (k := g_len 34 + (g_sk B n (g_len 33 + q))) (by omega)
                    refine q_aload_n hF 5 rfl rfl dX8_readsOrder_37 ?_
                    refine q_callV (kc := 0) (ks := 0) (mc' := 0) (ms' := 0) (h' := 0) (st := []) hF vl_RX8_95 rfl [] rfl rfl hS.t0 (by omega) (Nat.le_of_ble_eq_true rfl) dX8_readsOrder_38 ?_
                    refine mX8_fineA hS hfl ?_
                    refine q_ifeq hF (by decide) dX8_readsOrder_41 (fun c41v251 => ?_) (fun c41v251 => ?_)
                    · exact absurd c41v251 (by decide)
                    · refine q_iload_n hF 4 rfl rfl dX8_readsOrder_44 ?_
                      refine q_iload hF 0 rfl dX8_readsOrder_45 ?_
                      refine q_ishr hF (c0 := 0) (by decide) dX8_readsOrder_47 ?_
                      refine q_iconst hF dX8_readsOrder_48 ?_
                      refine q_iand hF (c0 := 0) (by decide) dX8_readsOrder_49 ?_
                      refine q_iconst hF dX8_readsOrder_50 ?_
                      refine q_icmpne hF (by decide) (by decide) dX8_readsOrder_51 (fun c51v252 => ?_) (fun c51v252 => ?_)
                      · refine q_aload_n hF 5 rfl rfl dX8_readsOrder_61 ?_
                        refine q_callV (kc := 0) (ks := 0) (mc' := 0) (ms' := 0) (h' := 0) (st := []) hF vl_RX8_95 rfl [] rfl rfl hS.t0 (by omega) (Nat.le_of_ble_eq_true rfl) dX8_readsOrder_62 ?_
                        refine mX8_fineA hS hfl ?_
                        refine q_ifne hF (by decide) dX8_readsOrder_65 (fun c65v254 => ?_) (fun c65v254 => ?_)
                        · refine q_iload_n hF 4 rfl rfl dX8_readsOrder_69 ?_
                          refine q_iconst hF dX8_readsOrder_70 ?_
                          refine q_iload hF 0 rfl dX8_readsOrder_71 ?_
                          refine q_ishl hF (c0 := 4) (by decide) dX8_readsOrder_73 ?_
                          refine q_ior hF (c0 := 6) (by decide) dX8_readsOrder_74 ?_
                          refine q_istore_n hF (ls' := [(2, qI 6), (5, qI 2), (4, qI ((g_sk B n (g_len 33 + q) : Nat) : Int)), (3, qI (q_b (97 ≤ (g_bt B n (g_sk B n (g_len 33 + q))) ∧ (g_bt B n (g_sk B n (g_len 33 + q))) ≤ 122))), (1, qI 1), (0, .ref m)]) rfl (by decide) rfl dX8_readsOrder_75 ?_
                          refine q_aload_n hF 5 rfl rfl dX8_readsOrder_76 ?_
                          refine q_getA hF fl_RX8_24 rfl hS.t0 hS.p10 dX8_readsOrder_77 ?_
                          refine q_bipush hF (n := 9) rfl dX8_readsOrder_80 ?_
                          refine q_iload_n hF 4 rfl rfl dX8_readsOrder_82 ?_
                          refine q_iadd hF dX8_readsOrder_83 ?_
                          refine q_iload hF 1 rfl dX8_readsOrder_84 ?_
                          refine q_i2l hF (by decide) dX8_readsOrder_86 ?_
                          refine q_lastorev hF (n := 1243) 10 hS.t4 (q_Ale hSA (by omega)) (by omega) (by omega) (by decide) dX8_readsOrder_87 ?_
                          rw [q_row_u]
                          refine q_iinc hF (z' := 2) (ls' := [(1, qI 2), (2, qI 6), (5, qI 2), (4, qI ((g_sk B n (g_len 33 + q) : Nat) : Int)), (3, qI (q_b (97 ≤ (g_bt B n (g_sk B n (g_len 33 + q))) ∧ (g_bt B n (g_sk B n (g_len 33 + q))) ≤ 122))), (0, .ref m)]) 4 rfl (by first | rfl | omega) (by decide) rfl dX8_readsOrder_88 ?_
                          refine q_aload_n hF 5 rfl rfl dX8_readsOrder_91 ?_
                          refine q_callV (kc := 0) (ks := 0) (mc' := 0) (ms' := 0) (h' := 1) (st := []) hF vl_RX8_78 rfl [] rfl rfl hS.t0 (by omega) (Nat.le_of_ble_eq_true rfl) dX8_readsOrder_92 ?_
                          refine mX8_herePQ (B := B) (n := n) hS hSA hB (show (g_len 34 + (g_sk B n (g_len 33 + q))) ≤ n by omega) rfl ?_
                          show qX G F Q 0 0 95 [(1, qI 2), (2, qI 6), (5, qI 2), (4, qI ((g_sk B n (g_len 33 + q) : Nat) : Int)), (3, qI (q_b (97 ≤ (g_bt B n (g_sk B n (g_len 33 + q))) ∧ (g_bt B n (g_sk B n (g_len 33 + q))) ≤ 122))), (0, .ref m)] [qI (g_bt B n (g_sk B n (g_len 34 + (g_sk B n (g_len 33 + q)))))] sz T (q_ps I m (g_mk (g_sk B n (g_len 34 + (g_sk B n (g_len 33 + q)))) s.fl s.fa s.cd s.op s.on s.hp)) (q_row L (m + 4) (g_up (g_up t 9 1) 10 2)) P
                          refine q_callS (kc := 0) (ks := 0) (mc' := 0) (ms' := 0) (h' := 0) (st := []) hF sl_RX8_91 rfl [qI (g_bt B n (g_sk B n (g_len 34 + (g_sk B n (g_len 33 + q)))))] rfl rfl (by omega) (Nat.le_of_ble_eq_true rfl) dX8_readsOrder_95 ?_
                          refine mX8_isSmall (g_bt_32 hB _) ?_
                          refine q_istore_n hF (ls' := [(3, qI (q_b (97 ≤ (g_bt B n (g_sk B n (g_len 34 + (g_sk B n (g_len 33 + q))))) ∧ (g_bt B n (g_sk B n (g_len 34 + (g_sk B n (g_len 33 + q))))) ≤ 122))), (1, qI 2), (2, qI 6), (5, qI 2), (4, qI ((g_sk B n (g_len 33 + q) : Nat) : Int)), (0, .ref m)]) rfl (by decide) rfl dX8_readsOrder_98 ?_
                          refine q_goto hF dX8_readsOrder_99 ?_
                          refine q_iload_n hF 0 rfl rfl dX8_readsOrder_6 ?_
                          refine q_ifeq_b hF dX8_readsOrder_7 (fun c7v257 => ?_) (fun c7v257 => ?_)
                          · refine q_aload_n hF 5 rfl rfl dX8_readsOrder_102 ?_
                            refine q_getA hF fl_RX8_24 rfl hS.t0 hS.p10 dX8_readsOrder_103 ?_
                            refine q_bipush hF (n := 8) rfl dX8_readsOrder_106 ?_
                            refine q_iload_n hF 1 rfl rfl dX8_readsOrder_108 ?_
                            refine q_i2l hF (by decide) dX8_readsOrder_109 ?_
                            refine q_lastorev hF (n := 1243) 8 hS.t4 (q_Ale hSA (by omega)) rfl (by decide) (by decide) dX8_readsOrder_110 ?_
                            rw [q_row_u]
                            refine q_return hF rfl dX8_readsOrder_111 ?_
                            exact k0 _ _ (by rw [← hx2, g_rdOrder, g_rdO, if_neg c32_0_3, if_pos c32_1_3, g_rdO1, if_neg (by decide), if_pos c7v168, g_rdO, if_neg c32_0_172, if_neg c32_1_172, if_pos c32_2_172, g_rdO1, if_neg (by decide), if_neg c7v257]; try rfl)
                          · refine q_aload_n hF 5 rfl rfl dX8_readsOrder_10 ?_
                            refine q_callV (kc := 0) (ks := 0) (mc' := 0) (ms' := 0) (h' := 0) (st := []) hF vl_RX8_95 rfl [] rfl rfl hS.t0 (by omega) (Nat.le_of_ble_eq_true rfl) dX8_readsOrder_11 ?_
                            refine mX8_fineA hS hfl ?_
                            refine q_ifeq hF (by decide) dX8_readsOrder_14 (fun c14v259 => ?_) (fun c14v259 => ?_)
                            · exact absurd c14v259 (by decide)
                            · skip
                              refine q_aload_n hF 5 rfl rfl dX8_readsOrder_17 ?_
                              refine q_callV (kc := 0) (ks := 0) (mc' := 0) (ms' := 0) (h' := 1) (st := []) hF vl_RX8_78 rfl [] rfl rfl hS.t0 (by omega) (Nat.le_of_ble_eq_true rfl) dX8_readsOrder_18 ?_
                              refine mX8_herePQ (B := B) (n := n) hS hSA hB (show (g_sk B n (g_len 34 + (g_sk B n (g_len 33 + q)))) ≤ n by omega) (g_sk_sk (by omega)) ?_
                              show qX G F Q 0 0 21 [(3, qI (q_b (97 ≤ (g_bt B n (g_sk B n (g_len 34 + (g_sk B n (g_len 33 + q))))) ∧ (g_bt B n (g_sk B n (g_len 34 + (g_sk B n (g_len 33 + q))))) ≤ 122))), (1, qI 2), (2, qI 6), (5, qI 2), (4, qI ((g_sk B n (g_len 33 + q) : Nat) : Int)), (0, .ref m)] [qI (g_bt B n (g_sk B n (g_len 34 + (g_sk B n (g_len 33 + q)))))] sz T (q_ps I m (g_mk (g_sk B n (g_len 34 + (g_sk B n (g_len 33 + q)))) s.fl s.fa s.cd s.op s.on s.hp)) (q_row L (m + 4) (g_up (g_up t 9 1) 10 2)) P
                              refine q_pop hF rfl dX8_readsOrder_21 ?_
                              refine q_aload_n hF 5 rfl rfl dX8_readsOrder_22 ?_
                              refine q_getIv hF (z := ((g_sk B n (g_len 34 + (g_sk B n (g_len 33 + q))) : Nat) : Int)) fl_RX8_65 hS.t0 q_ps_4 dX8_readsOrder_23 ?_
                              refine q_istore hF (ls' := [(4, qI ((g_sk B n (g_len 34 + (g_sk B n (g_len 33 + q))) : Nat) : Int)), (3, qI (q_b (97 ≤ (g_bt B n (g_sk B n (g_len 34 + (g_sk B n (g_len 33 + q))))) ∧ (g_bt B n (g_sk B n (g_len 34 + (g_sk B n (g_len 33 + q))))) ≤ 122))), (1, qI 2), (2, qI 6), (5, qI 2), (0, .ref m)]) (by decide) rfl dX8_readsOrder_26 ?_
                              refine q_aload_n hF 5 rfl rfl dX8_readsOrder_28 ?_
                              refine q_iconst hF dX8_readsOrder_29 ?_
                              refine q_bipush hF (n := 7) rfl dX8_readsOrder_30 ?_
                              refine q_callV (kc := 0) (ks := 0) (mc' := 0) (ms' := 0) (h' := 6) (st := []) hF vl_RX8_220 rfl [qI 5, qI 7] rfl rfl hS.t0 (by omega) (Nat.le_of_ble_eq_true rfl) dX8_readsOrder_32 ?_
                              refine mX8_one5 hS hSA hB (show (g_sk B n (g_len 34 + (g_sk B n (g_len 33 + q)))) ≤ n by omega) hfl (g_sk_sk (by omega)) (fun (c32_0_261 : g_isW B n 32 (g_sk B n (g_len 34 + (g_sk B n (g_len 33 + q))))) => ?_) (fun (c32_0_261 : ¬ (g_isW B n 32 (g_sk B n (g_len 34 + (g_sk B n (g_len 33 + q)))))) (c32_1_261 : g_isW B n 33 (g_sk B n (g_len 34 + (g_sk B n (g_len 33 + q))))) => ?_) (fun (c32_0_261 : ¬ (g_isW B n 32 (g_sk B n (g_len 34 + (g_sk B n (g_len 33 + q)))))) (c32_1_261 : ¬ (g_isW B n 33 (g_sk B n (g_len 34 + (g_sk B n (g_len 33 + q)))))) (c32_2_261 : g_isW B n 34 (g_sk B n (g_len 34 + (g_sk B n (g_len 33 + q))))) => ?_) (fun (c32_0_261 : ¬ (g_isW B n 32 (g_sk B n (g_len 34 + (g_sk B n (g_len 33 + q)))))) (c32_1_261 : ¬ (g_isW B n 33 (g_sk B n (g_len 34 + (g_sk B n (g_len 33 + q)))))) (c32_2_261 : ¬ (g_isW B n 34 (g_sk B n (g_len 34 + (g_sk B n (g_len 33 + q)))))) => ?_)
                              · show qX G F Q 0 0 35 [(4, qI ((g_sk B n (g_len 34 + (g_sk B n (g_len 33 + q))) : Nat) : Int)), (3, qI (q_b (97 ≤ (g_bt B n (g_sk B n (g_len 34 + (g_sk B n (g_len 33 + q))))) ∧ (g_bt B n (g_sk B n (g_len 34 + (g_sk B n (g_len 33 + q))))) ≤ 122))), (1, qI 2), (2, qI 6), (5, qI 2), (0, .ref m)] [qI 0] sz T (q_ps I m (g_mk (g_len 32 + (g_sk B n (g_len 34 + (g_sk B n (g_len 33 + q))))) s.fl s.fa s.cd s.op s.on s.hp)) (q_row L (m + 4) (g_up (g_up t 9 1) 10 2)) P
                                refine q_istore hF (ls' := [(5, qI 0), (4, qI ((g_sk B n (g_len 34 + (g_sk B n (g_len 33 + q))) : Nat) : Int)), (3, qI (q_b (97 ≤ (g_bt B n (g_sk B n (g_len 34 + (g_sk B n (g_len 33 + q))))) ∧ (g_bt B n (g_sk B n (g_len 34 + (g_sk B n (g_len 33 + q))))) ≤ 122))), (1, qI 2), (2, qI 6), (0, .ref m)]) (by decide) rfl dX8_readsOrder_35 ?_
                                have hwl262 := g_words_ok 32 (by decide)
                                have hwn262 := g_isW_n (g_words_ok 32 (by decide)) (fun k hk => by have := g_ch_r (i := 32) (by decide) hk; omega) c32_0_261
                                have hsr262 := g_sk_r (B := B) (n := n) (k := g_len 32 + (g_sk B n (g_len 34 + (g_sk B n (g_len 33 + q))))) (by omega)
                                refine q_aload_n hF 5 rfl rfl dX8_readsOrder_37 ?_
                                refine q_callV (kc := 0) (ks := 0) (mc' := 0) (ms' := 0) (h' := 0) (st := []) hF vl_RX8_95 rfl [] rfl rfl hS.t0 (by omega) (Nat.le_of_ble_eq_true rfl) dX8_readsOrder_38 ?_
                                refine mX8_fineA hS hfl ?_
                                refine q_ifeq hF (by decide) dX8_readsOrder_41 (fun c41v264 => ?_) (fun c41v264 => ?_)
                                · exact absurd c41v264 (by decide)
                                · refine q_iload_n hF 4 rfl rfl dX8_readsOrder_44 ?_
                                  refine q_iload hF 0 rfl dX8_readsOrder_45 ?_
                                  refine q_ishr hF (c0 := 6) (by decide) dX8_readsOrder_47 ?_
                                  refine q_iconst hF dX8_readsOrder_48 ?_
                                  refine q_iand hF (c0 := 0) (by decide) dX8_readsOrder_49 ?_
                                  refine q_iconst hF dX8_readsOrder_50 ?_
                                  refine q_icmpne hF (by decide) (by decide) dX8_readsOrder_51 (fun c51v265 => ?_) (fun c51v265 => ?_)
                                  · refine q_aload_n hF 5 rfl rfl dX8_readsOrder_61 ?_
                                    refine q_callV (kc := 0) (ks := 0) (mc' := 0) (ms' := 0) (h' := 0) (st := []) hF vl_RX8_95 rfl [] rfl rfl hS.t0 (by omega) (Nat.le_of_ble_eq_true rfl) dX8_readsOrder_62 ?_
                                    refine mX8_fineA hS hfl ?_
                                    refine q_ifne hF (by decide) dX8_readsOrder_65 (fun c65v267 => ?_) (fun c65v267 => ?_)
                                    · refine q_iload_n hF 4 rfl rfl dX8_readsOrder_69 ?_
                                      refine q_iconst hF dX8_readsOrder_70 ?_
                                      refine q_iload hF 0 rfl dX8_readsOrder_71 ?_
                                      refine q_ishl hF (c0 := 1) (by decide) dX8_readsOrder_73 ?_
                                      refine q_ior hF (c0 := 7) (by decide) dX8_readsOrder_74 ?_
                                      refine q_istore_n hF (ls' := [(2, qI 7), (5, qI 0), (4, qI ((g_sk B n (g_len 34 + (g_sk B n (g_len 33 + q))) : Nat) : Int)), (3, qI (q_b (97 ≤ (g_bt B n (g_sk B n (g_len 34 + (g_sk B n (g_len 33 + q))))) ∧ (g_bt B n (g_sk B n (g_len 34 + (g_sk B n (g_len 33 + q))))) ≤ 122))), (1, qI 2), (0, .ref m)]) rfl (by decide) rfl dX8_readsOrder_75 ?_
                                      refine q_aload_n hF 5 rfl rfl dX8_readsOrder_76 ?_
                                      refine q_getA hF fl_RX8_24 rfl hS.t0 hS.p10 dX8_readsOrder_77 ?_
                                      refine q_bipush hF (n := 9) rfl dX8_readsOrder_80 ?_
                                      refine q_iload_n hF 4 rfl rfl dX8_readsOrder_82 ?_
                                      refine q_iadd hF dX8_readsOrder_83 ?_
                                      refine q_iload hF 1 rfl dX8_readsOrder_84 ?_
                                      refine q_i2l hF (by decide) dX8_readsOrder_86 ?_
                                      refine q_lastorev hF (n := 1243) 11 hS.t4 (q_Ale hSA (by omega)) (by omega) (by omega) (by decide) dX8_readsOrder_87 ?_
                                      rw [q_row_u]
                                      refine q_iinc hF (z' := 3) (ls' := [(1, qI 3), (2, qI 7), (5, qI 0), (4, qI ((g_sk B n (g_len 34 + (g_sk B n (g_len 33 + q))) : Nat) : Int)), (3, qI (q_b (97 ≤ (g_bt B n (g_sk B n (g_len 34 + (g_sk B n (g_len 33 + q))))) ∧ (g_bt B n (g_sk B n (g_len 34 + (g_sk B n (g_len 33 + q))))) ≤ 122))), (0, .ref m)]) 4 rfl (by first | rfl | omega) (by decide) rfl dX8_readsOrder_88 ?_
                                      refine q_aload_n hF 5 rfl rfl dX8_readsOrder_91 ?_
                                      refine q_callV (kc := 0) (ks := 0) (mc' := 0) (ms' := 0) (h' := 1) (st := []) hF vl_RX8_78 rfl [] rfl rfl hS.t0 (by omega) (Nat.le_of_ble_eq_true rfl) dX8_readsOrder_92 ?_
                                      refine mX8_herePQ (B := B) (n := n) hS hSA hB (show (g_len 32 + (g_sk B n (g_len 34 + (g_sk B n (g_len 33 + q))))) ≤ n by omega) rfl ?_
                                      show qX G F Q 0 0 95 [(1, qI 3), (2, qI 7), (5, qI 0), (4, qI ((g_sk B n (g_len 34 + (g_sk B n (g_len 33 + q))) : Nat) : Int)), (3, qI (q_b (97 ≤ (g_bt B n (g_sk B n (g_len 34 + (g_sk B n (g_len 33 + q))))) ∧ (g_bt B n (g_sk B n (g_len 34 + (g_sk B n (g_len 33 + q))))) ≤ 122))), (0, .ref m)] [qI (g_bt B n (g_sk B n (g_len 32 + (g_sk B n (g_len 34 + (g_sk B n (g_len 33 + q)))))))] sz T (q_ps I m (g_mk (g_sk B n (g_len 32 + (g_sk B n (g_len 34 + (g_sk B n (g_len 33 + q)))))) s.fl s.fa s.cd s.op s.on s.hp)) (q_row L (m + 4) (g_up (g_up (g_up t 9 1) 10 2) 11 0)) P
                                      refine q_callS (kc := 0) (ks := 0) (mc' := 0) (ms' := 0) (h' := 0) (st := []) hF sl_RX8_91 rfl [qI (g_bt B n (g_sk B n (g_len 32 + (g_sk B n (g_len 34 + (g_sk B n (g_len 33 + q)))))))] rfl rfl (by omega) (Nat.le_of_ble_eq_true rfl) dX8_readsOrder_95 ?_
                                      refine mX8_isSmall (g_bt_32 hB _) ?_
                                      refine q_istore_n hF (ls' := [(3, qI (q_b (97 ≤ (g_bt B n (g_sk B n (g_len 32 + (g_sk B n (g_len 34 + (g_sk B n (g_len 33 + q))))))) ∧ (g_bt B n (g_sk B n (g_len 32 + (g_sk B n (g_len 34 + (g_sk B n (g_len 33 + q))))))) ≤ 122))), (1, qI 3), (2, qI 7), (5, qI 0), (4, qI ((g_sk B n (g_len 34 + (g_sk B n (g_len 33 + q))) : Nat) : Int)), (0, .ref m)]) rfl (by decide) rfl dX8_readsOrder_98 ?_
                                      refine q_goto hF dX8_readsOrder_99 ?_
                                      refine q_iload_n hF 0 rfl rfl dX8_readsOrder_6 ?_
                                      refine q_ifeq_b hF dX8_readsOrder_7 (fun c7v270 => ?_) (fun c7v270 => ?_)
                                      · refine q_aload_n hF 5 rfl rfl dX8_readsOrder_102 ?_
                                        refine q_getA hF fl_RX8_24 rfl hS.t0 hS.p10 dX8_readsOrder_103 ?_
                                        refine q_bipush hF (n := 8) rfl dX8_readsOrder_106 ?_
                                        refine q_iload_n hF 1 rfl rfl dX8_readsOrder_108 ?_
                                        refine q_i2l hF (by decide) dX8_readsOrder_109 ?_
                                        refine q_lastorev hF (n := 1243) 8 hS.t4 (q_Ale hSA (by omega)) rfl (by decide) (by decide) dX8_readsOrder_110 ?_
                                        rw [q_row_u]
                                        refine q_return hF rfl dX8_readsOrder_111 ?_
                                        exact k0 _ _ (by rw [← hx2, g_rdOrder, g_rdO, if_neg c32_0_3, if_pos c32_1_3, g_rdO1, if_neg (by decide), if_pos c7v168, g_rdO, if_neg c32_0_172, if_neg c32_1_172, if_pos c32_2_172, g_rdO1, if_neg (by decide), if_pos c7v257, g_rdO, if_pos c32_0_261, g_rdO1, if_neg (by decide), if_neg c7v270]; try rfl)
                                      · refine q_aload_n hF 5 rfl rfl dX8_readsOrder_10 ?_
                                        refine q_callV (kc := 0) (ks := 0) (mc' := 0) (ms' := 0) (h' := 0) (st := []) hF vl_RX8_95 rfl [] rfl rfl hS.t0 (by omega) (Nat.le_of_ble_eq_true rfl) dX8_readsOrder_11 ?_
                                        refine mX8_fineA hS hfl ?_
                                        refine q_ifeq hF (by decide) dX8_readsOrder_14 (fun c14v272 => ?_) (fun c14v272 => ?_)
                                        · exact absurd c14v272 (by decide)
                                        · skip
                                          refine q_aload_n hF 5 rfl rfl dX8_readsOrder_17 ?_
                                          refine q_callV (kc := 0) (ks := 0) (mc' := 0) (ms' := 0) (h' := 1) (st := []) hF vl_RX8_78 rfl [] rfl rfl hS.t0 (by omega) (Nat.le_of_ble_eq_true rfl) dX8_readsOrder_18 ?_
                                          refine mX8_herePQ (B := B) (n := n) hS hSA hB (show (g_sk B n (g_len 32 + (g_sk B n (g_len 34 + (g_sk B n (g_len 33 + q)))))) ≤ n by omega) (g_sk_sk (by omega)) ?_
                                          show qX G F Q 0 0 21 [(3, qI (q_b (97 ≤ (g_bt B n (g_sk B n (g_len 32 + (g_sk B n (g_len 34 + (g_sk B n (g_len 33 + q))))))) ∧ (g_bt B n (g_sk B n (g_len 32 + (g_sk B n (g_len 34 + (g_sk B n (g_len 33 + q))))))) ≤ 122))), (1, qI 3), (2, qI 7), (5, qI 0), (4, qI ((g_sk B n (g_len 34 + (g_sk B n (g_len 33 + q))) : Nat) : Int)), (0, .ref m)] [qI (g_bt B n (g_sk B n (g_len 32 + (g_sk B n (g_len 34 + (g_sk B n (g_len 33 + q)))))))] sz T (q_ps I m (g_mk (g_sk B n (g_len 32 + (g_sk B n (g_len 34 + (g_sk B n (g_len 33 + q)))))) s.fl s.fa s.cd s.op s.on s.hp)) (q_row L (m + 4) (g_up (g_up (g_up t 9 1) 10 2) 11 0)) P
                                          refine q_pop hF rfl dX8_readsOrder_21 ?_
                                          refine q_aload_n hF 5 rfl rfl dX8_readsOrder_22 ?_
                                          refine q_getIv hF (z := ((g_sk B n (g_len 32 + (g_sk B n (g_len 34 + (g_sk B n (g_len 33 + q))))) : Nat) : Int)) fl_RX8_65 hS.t0 q_ps_4 dX8_readsOrder_23 ?_
                                          refine q_istore hF (ls' := [(4, qI ((g_sk B n (g_len 32 + (g_sk B n (g_len 34 + (g_sk B n (g_len 33 + q))))) : Nat) : Int)), (3, qI (q_b (97 ≤ (g_bt B n (g_sk B n (g_len 32 + (g_sk B n (g_len 34 + (g_sk B n (g_len 33 + q))))))) ∧ (g_bt B n (g_sk B n (g_len 32 + (g_sk B n (g_len 34 + (g_sk B n (g_len 33 + q))))))) ≤ 122))), (1, qI 3), (2, qI 7), (5, qI 0), (0, .ref m)]) (by decide) rfl dX8_readsOrder_26 ?_
                                          refine q_aload_n hF 5 rfl rfl dX8_readsOrder_28 ?_
                                          refine q_iconst hF dX8_readsOrder_29 ?_
                                          refine q_bipush hF (n := 7) rfl dX8_readsOrder_30 ?_
                                          refine q_callV (kc := 0) (ks := 0) (mc' := 0) (ms' := 0) (h' := 6) (st := []) hF vl_RX8_220 rfl [qI 5, qI 7] rfl rfl hS.t0 (by omega) (Nat.le_of_ble_eq_true rfl) dX8_readsOrder_32 ?_
                                          refine mX8_one5 hS hSA hB (show (g_sk B n (g_len 32 + (g_sk B n (g_len 34 + (g_sk B n (g_len 33 + q)))))) ≤ n by omega) hfl (g_sk_sk (by omega)) (fun (c32_0_274 : g_isW B n 32 (g_sk B n (g_len 32 + (g_sk B n (g_len 34 + (g_sk B n (g_len 33 + q))))))) => ?_) (fun (c32_0_274 : ¬ (g_isW B n 32 (g_sk B n (g_len 32 + (g_sk B n (g_len 34 + (g_sk B n (g_len 33 + q)))))))) (c32_1_274 : g_isW B n 33 (g_sk B n (g_len 32 + (g_sk B n (g_len 34 + (g_sk B n (g_len 33 + q))))))) => ?_) (fun (c32_0_274 : ¬ (g_isW B n 32 (g_sk B n (g_len 32 + (g_sk B n (g_len 34 + (g_sk B n (g_len 33 + q)))))))) (c32_1_274 : ¬ (g_isW B n 33 (g_sk B n (g_len 32 + (g_sk B n (g_len 34 + (g_sk B n (g_len 33 + q)))))))) (c32_2_274 : g_isW B n 34 (g_sk B n (g_len 32 + (g_sk B n (g_len 34 + (g_sk B n (g_len 33 + q))))))) => ?_) (fun (c32_0_274 : ¬ (g_isW B n 32 (g_sk B n (g_len 32 + (g_sk B n (g_len 34 + (g_sk B n (g_len 33 + q)))))))) (c32_1_274 : ¬ (g_isW B n 33 (g_sk B n (g_len 32 + (g_sk B n (g_len 34 + (g_sk B n (g_len 33 + q)))))))) (c32_2_274 : ¬ (g_isW B n 34 (g_sk B n (g_len 32 + (g_sk B n (g_len 34 + (g_sk B n (g_len 33 + q)))))))) => ?_)
                                          · show qX G F Q 0 0 35 [(4, qI ((g_sk B n (g_len 32 + (g_sk B n (g_len 34 + (g_sk B n (g_len 33 + q))))) : Nat) : Int)), (3, qI (q_b (97 ≤ (g_bt B n (g_sk B n (g_len 32 + (g_sk B n (g_len 34 + (g_sk B n (g_len 33 + q))))))) ∧ (g_bt B n (g_sk B n (g_len 32 + (g_sk B n (g_len 34 + (g_sk B n (g_len 33 + q))))))) ≤ 122))), (1, qI 3), (2, qI 7), (5, qI 0), (0, .ref m)] [qI 0] sz T (q_ps I m (g_mk (g_len 32 + (g_sk B n (g_len 32 + (g_sk B n (g_len 34 + (g_sk B n (g_len 33 + q))))))) s.fl s.fa s.cd s.op s.on s.hp)) (q_row L (m + 4) (g_up (g_up (g_up t 9 1) 10 2) 11 0)) P
                                            refine q_istore hF (ls' := [(5, qI 0), (4, qI ((g_sk B n (g_len 32 + (g_sk B n (g_len 34 + (g_sk B n (g_len 33 + q))))) : Nat) : Int)), (3, qI (q_b (97 ≤ (g_bt B n (g_sk B n (g_len 32 + (g_sk B n (g_len 34 + (g_sk B n (g_len 33 + q))))))) ∧ (g_bt B n (g_sk B n (g_len 32 + (g_sk B n (g_len 34 + (g_sk B n (g_len 33 + q))))))) ≤ 122))), (1, qI 3), (2, qI 7), (0, .ref m)]) (by decide) rfl dX8_readsOrder_35 ?_
                                            have hwl275 := g_words_ok 32 (by decide)
                                            have hwn275 := g_isW_n (g_words_ok 32 (by decide)) (fun k hk => by have := g_ch_r (i := 32) (by decide) hk; omega) c32_0_274
                                            have hsr275 := g_sk_r (B := B) (n := n) (k := g_len 32 + (g_sk B n (g_len 32 + (g_sk B n (g_len 34 + (g_sk B n (g_len 33 + q))))))) (by omega)
                                            refine q_aload_n hF 5 rfl rfl dX8_readsOrder_37 ?_
                                            refine q_callV (kc := 0) (ks := 0) (mc' := 0) (ms' := 0) (h' := 0) (st := []) hF vl_RX8_95 rfl [] rfl rfl hS.t0 (by omega) (Nat.le_of_ble_eq_true rfl) dX8_readsOrder_38 ?_
                                            refine mX8_fineA hS hfl ?_
                                            refine q_ifeq hF (by decide) dX8_readsOrder_41 (fun c41v277 => ?_) (fun c41v277 => ?_)
                                            · exact absurd c41v277 (by decide)
                                            · refine q_iload_n hF 4 rfl rfl dX8_readsOrder_44 ?_
                                              refine q_iload hF 0 rfl dX8_readsOrder_45 ?_
                                              refine q_ishr hF (c0 := 7) (by decide) dX8_readsOrder_47 ?_
                                              refine q_iconst hF dX8_readsOrder_48 ?_
                                              refine q_iand hF (c0 := 1) (by decide) dX8_readsOrder_49 ?_
                                              refine q_iconst hF dX8_readsOrder_50 ?_
                                              refine q_icmpne hF (by decide) (by decide) dX8_readsOrder_51 (fun c51v278 => ?_) (fun c51v278 => ?_)
                                              · exact absurd c51v278 (by decide)
                                              · refine q_aload_n hF 5 rfl rfl dX8_readsOrder_54 ?_
                                                refine q_iconst hF dX8_readsOrder_55 ?_
                                                refine q_iload hF 1 rfl dX8_readsOrder_56 ?_
                                                refine q_callV (kc := 0) (ks := 0) (mc' := 0) (ms' := 0) (h' := 0) (st := []) hF vl_RX8_106 rfl [qI 1, qI ((g_sk B n (g_len 32 + (g_sk B n (g_len 34 + (g_sk B n (g_len 33 + q))))) : Nat) : Int)] rfl rfl hS.t0 (by omega) (Nat.le_of_ble_eq_true rfl) dX8_readsOrder_58 ?_
                                                refine mX8_wrongA hS hSA hfl ?_
                                                show qX G F Q 0 0 61 [(5, qI 0), (4, qI ((g_sk B n (g_len 32 + (g_sk B n (g_len 34 + (g_sk B n (g_len 33 + q))))) : Nat) : Int)), (3, qI (q_b (97 ≤ (g_bt B n (g_sk B n (g_len 32 + (g_sk B n (g_len 34 + (g_sk B n (g_len 33 + q))))))) ∧ (g_bt B n (g_sk B n (g_len 32 + (g_sk B n (g_len 34 + (g_sk B n (g_len 33 + q))))))) ≤ 122))), (1, qI 3), (2, qI 7), (0, .ref m)] [] sz T (q_ps I m (g_mk (g_len 32 + (g_sk B n (g_len 32 + (g_sk B n (g_len 34 + (g_sk B n (g_len 33 + q))))))) 1 ((g_sk B n (g_len 32 + (g_sk B n (g_len 34 + (g_sk B n (g_len 33 + q))))) : Nat) : Int) s.cd s.op s.on s.hp)) (q_row L (m + 4) (g_up (g_up (g_up t 9 1) 10 2) 11 0)) P
                                                refine q_aload_n hF 5 rfl rfl dX8_readsOrder_61 ?_
                                                refine q_callV (kc := 0) (ks := 0) (mc' := 0) (ms' := 0) (h' := 0) (st := []) hF vl_RX8_95 rfl [] rfl rfl hS.t0 (by omega) (Nat.le_of_ble_eq_true rfl) dX8_readsOrder_62 ?_
                                                refine mX8_fine0 hS (show (1 : Int) ≠ 0 by decide) (show -2147483648 ≤ 1 ∧ 1 < 2147483648 by first | decide | omega | assumption) ?_
                                                refine q_ifne hF (by decide) dX8_readsOrder_65 (fun c65v281 => ?_) (fun c65v281 => ?_)
                                                · exact absurd c65v281 (by decide)
                                                · refine q_return hF rfl dX8_readsOrder_68 ?_
                                                  show Q (.inl none) sz T (q_ps I m (g_mk (g_len 32 + (g_sk B n (g_len 32 + (g_sk B n (g_len 34 + (g_sk B n (g_len 33 + q))))))) 1 ((g_sk B n (g_len 32 + (g_sk B n (g_len 34 + (g_sk B n (g_len 33 + q))))) : Nat) : Int) s.cd s.op s.on s.hp)) (q_row L (m + 4) (g_up (g_up (g_up t 9 1) 10 2) 11 0)) P
                                                  exact k1 1 (g_sk B n (g_len 32 + (g_sk B n (g_len 34 + (g_sk B n (g_len 33 + q)))))) _ _ (by rw [← hx2, g_rdOrder, g_rdO, if_neg c32_0_3, if_pos c32_1_3, g_rdO1, if_neg (by decide), if_pos c7v168, g_rdO, if_neg c32_0_172, if_neg c32_1_172, if_pos c32_2_172, g_rdO1, if_neg (by decide), if_pos c7v257, g_rdO, if_pos c32_0_261, g_rdO1, if_neg (by decide), if_pos c7v270, g_rdO, if_pos c32_0_274, g_rdO1, if_pos (by decide)]) (by decide) rfl rfl (show g_len 32 + (g_sk B n (g_len 32 + (g_sk B n (g_len 34 + (g_sk B n (g_len 33 + q)))))) ≤ n by omega)
                                          · show qX G F Q 0 0 35 [(4, qI ((g_sk B n (g_len 32 + (g_sk B n (g_len 34 + (g_sk B n (g_len 33 + q))))) : Nat) : Int)), (3, qI (q_b (97 ≤ (g_bt B n (g_sk B n (g_len 32 + (g_sk B n (g_len 34 + (g_sk B n (g_len 33 + q))))))) ∧ (g_bt B n (g_sk B n (g_len 32 + (g_sk B n (g_len 34 + (g_sk B n (g_len 33 + q))))))) ≤ 122))), (1, qI 3), (2, qI 7), (5, qI 0), (0, .ref m)] [qI 1] sz T (q_ps I m (g_mk (g_len 33 + (g_sk B n (g_len 32 + (g_sk B n (g_len 34 + (g_sk B n (g_len 33 + q))))))) s.fl s.fa s.cd s.op s.on s.hp)) (q_row L (m + 4) (g_up (g_up (g_up t 9 1) 10 2) 11 0)) P
                                            refine q_istore hF (ls' := [(5, qI 1), (4, qI ((g_sk B n (g_len 32 + (g_sk B n (g_len 34 + (g_sk B n (g_len 33 + q))))) : Nat) : Int)), (3, qI (q_b (97 ≤ (g_bt B n (g_sk B n (g_len 32 + (g_sk B n (g_len 34 + (g_sk B n (g_len 33 + q))))))) ∧ (g_bt B n (g_sk B n (g_len 32 + (g_sk B n (g_len 34 + (g_sk B n (g_len 33 + q))))))) ≤ 122))), (1, qI 3), (2, qI 7), (0, .ref m)]) (by decide) rfl dX8_readsOrder_35 ?_
                                            have hwl282 := g_words_ok 33 (by decide)
                                            have hwn282 := g_isW_n (g_words_ok 33 (by decide)) (fun k hk => by have := g_ch_r (i := 33) (by decide) hk; omega) c32_1_274
                                            have hsr282 := g_sk_r (B := B) (n := n) (k := g_len 33 + (g_sk B n (g_len 32 + (g_sk B n (g_len 34 + (g_sk B n (g_len 33 + q))))))) (by omega)
                                            refine q_aload_n hF 5 rfl rfl dX8_readsOrder_37 ?_
                                            refine q_callV (kc := 0) (ks := 0) (mc' := 0) (ms' := 0) (h' := 0) (st := []) hF vl_RX8_95 rfl [] rfl rfl hS.t0 (by omega) (Nat.le_of_ble_eq_true rfl) dX8_readsOrder_38 ?_
                                            refine mX8_fineA hS hfl ?_
                                            refine q_ifeq hF (by decide) dX8_readsOrder_41 (fun c41v284 => ?_) (fun c41v284 => ?_)
                                            · exact absurd c41v284 (by decide)
                                            · refine q_iload_n hF 4 rfl rfl dX8_readsOrder_44 ?_
                                              refine q_iload hF 0 rfl dX8_readsOrder_45 ?_
                                              refine q_ishr hF (c0 := 3) (by decide) dX8_readsOrder_47 ?_
                                              refine q_iconst hF dX8_readsOrder_48 ?_
                                              refine q_iand hF (c0 := 1) (by decide) dX8_readsOrder_49 ?_
                                              refine q_iconst hF dX8_readsOrder_50 ?_
                                              refine q_icmpne hF (by decide) (by decide) dX8_readsOrder_51 (fun c51v285 => ?_) (fun c51v285 => ?_)
                                              · exact absurd c51v285 (by decide)
                                              · refine q_aload_n hF 5 rfl rfl dX8_readsOrder_54 ?_
                                                refine q_iconst hF dX8_readsOrder_55 ?_
                                                refine q_iload hF 1 rfl dX8_readsOrder_56 ?_
                                                refine q_callV (kc := 0) (ks := 0) (mc' := 0) (ms' := 0) (h' := 0) (st := []) hF vl_RX8_106 rfl [qI 1, qI ((g_sk B n (g_len 32 + (g_sk B n (g_len 34 + (g_sk B n (g_len 33 + q))))) : Nat) : Int)] rfl rfl hS.t0 (by omega) (Nat.le_of_ble_eq_true rfl) dX8_readsOrder_58 ?_
                                                refine mX8_wrongA hS hSA hfl ?_
                                                show qX G F Q 0 0 61 [(5, qI 1), (4, qI ((g_sk B n (g_len 32 + (g_sk B n (g_len 34 + (g_sk B n (g_len 33 + q))))) : Nat) : Int)), (3, qI (q_b (97 ≤ (g_bt B n (g_sk B n (g_len 32 + (g_sk B n (g_len 34 + (g_sk B n (g_len 33 + q))))))) ∧ (g_bt B n (g_sk B n (g_len 32 + (g_sk B n (g_len 34 + (g_sk B n (g_len 33 + q))))))) ≤ 122))), (1, qI 3), (2, qI 7), (0, .ref m)] [] sz T (q_ps I m (g_mk (g_len 33 + (g_sk B n (g_len 32 + (g_sk B n (g_len 34 + (g_sk B n (g_len 33 + q))))))) 1 ((g_sk B n (g_len 32 + (g_sk B n (g_len 34 + (g_sk B n (g_len 33 + q))))) : Nat) : Int) s.cd s.op s.on s.hp)) (q_row L (m + 4) (g_up (g_up (g_up t 9 1) 10 2) 11 0)) P
                                                refine q_aload_n hF 5 rfl rfl dX8_readsOrder_61 ?_
                                                refine q_callV (kc := 0) (ks := 0) (mc' := 0) (ms' := 0) (h' := 0) (st := []) hF vl_RX8_95 rfl [] rfl rfl hS.t0 (by omega) (Nat.le_of_ble_eq_true rfl) dX8_readsOrder_62 ?_
                                                refine mX8_fine0 hS (show (1 : Int) ≠ 0 by decide) (show -2147483648 ≤ 1 ∧ 1 < 2147483648 by first | decide | omega | assumption) ?_
                                                refine q_ifne hF (by decide) dX8_readsOrder_65 (fun c65v288 => ?_) (fun c65v288 => ?_)
                                                · exact absurd c65v288 (by decide)
                                                · refine q_return hF rfl dX8_readsOrder_68 ?_
                                                  show Q (.inl none) sz T (q_ps I m (g_mk (g_len 33 + (g_sk B n (g_len 32 + (g_sk B n (g_len 34 + (g_sk B n (g_len 33 + q))))))) 1 ((g_sk B n (g_len 32 + (g_sk B n (g_len 34 + (g_sk B n (g_len 33 + q))))) : Nat) : Int) s.cd s.op s.on s.hp)) (q_row L (m + 4) (g_up (g_up (g_up t 9 1) 10 2) 11 0)) P
                                                  exact k1 1 (g_sk B n (g_len 32 + (g_sk B n (g_len 34 + (g_sk B n (g_len 33 + q)))))) _ _ (by rw [← hx2, g_rdOrder, g_rdO, if_neg c32_0_3, if_pos c32_1_3, g_rdO1, if_neg (by decide), if_pos c7v168, g_rdO, if_neg c32_0_172, if_neg c32_1_172, if_pos c32_2_172, g_rdO1, if_neg (by decide), if_pos c7v257, g_rdO, if_pos c32_0_261, g_rdO1, if_neg (by decide), if_pos c7v270, g_rdO, if_neg c32_0_274, if_pos c32_1_274, g_rdO1, if_pos (by decide)]) (by decide) rfl rfl (show g_len 33 + (g_sk B n (g_len 32 + (g_sk B n (g_len 34 + (g_sk B n (g_len 33 + q)))))) ≤ n by omega)
                                          · show qX G F Q 0 0 35 [(4, qI ((g_sk B n (g_len 32 + (g_sk B n (g_len 34 + (g_sk B n (g_len 33 + q))))) : Nat) : Int)), (3, qI (q_b (97 ≤ (g_bt B n (g_sk B n (g_len 32 + (g_sk B n (g_len 34 + (g_sk B n (g_len 33 + q))))))) ∧ (g_bt B n (g_sk B n (g_len 32 + (g_sk B n (g_len 34 + (g_sk B n (g_len 33 + q))))))) ≤ 122))), (1, qI 3), (2, qI 7), (5, qI 0), (0, .ref m)] [qI 2] sz T (q_ps I m (g_mk (g_len 34 + (g_sk B n (g_len 32 + (g_sk B n (g_len 34 + (g_sk B n (g_len 33 + q))))))) s.fl s.fa s.cd s.op s.on s.hp)) (q_row L (m + 4) (g_up (g_up (g_up t 9 1) 10 2) 11 0)) P
                                            refine q_istore hF (ls' := [(5, qI 2), (4, qI ((g_sk B n (g_len 32 + (g_sk B n (g_len 34 + (g_sk B n (g_len 33 + q))))) : Nat) : Int)), (3, qI (q_b (97 ≤ (g_bt B n (g_sk B n (g_len 32 + (g_sk B n (g_len 34 + (g_sk B n (g_len 33 + q))))))) ∧ (g_bt B n (g_sk B n (g_len 32 + (g_sk B n (g_len 34 + (g_sk B n (g_len 33 + q))))))) ≤ 122))), (1, qI 3), (2, qI 7), (0, .ref m)]) (by decide) rfl dX8_readsOrder_35 ?_
                                            have hwl289 := g_words_ok 34 (by decide)
                                            have hwn289 := g_isW_n (g_words_ok 34 (by decide)) (fun k hk => by have := g_ch_r (i := 34) (by decide) hk; omega) c32_2_274
                                            have hsr289 := g_sk_r (B := B) (n := n) (k := g_len 34 + (g_sk B n (g_len 32 + (g_sk B n (g_len 34 + (g_sk B n (g_len 33 + q))))))) (by omega)
                                            refine q_aload_n hF 5 rfl rfl dX8_readsOrder_37 ?_
                                            refine q_callV (kc := 0) (ks := 0) (mc' := 0) (ms' := 0) (h' := 0) (st := []) hF vl_RX8_95 rfl [] rfl rfl hS.t0 (by omega) (Nat.le_of_ble_eq_true rfl) dX8_readsOrder_38 ?_
                                            refine mX8_fineA hS hfl ?_
                                            refine q_ifeq hF (by decide) dX8_readsOrder_41 (fun c41v291 => ?_) (fun c41v291 => ?_)
                                            · exact absurd c41v291 (by decide)
                                            · refine q_iload_n hF 4 rfl rfl dX8_readsOrder_44 ?_
                                              refine q_iload hF 0 rfl dX8_readsOrder_45 ?_
                                              refine q_ishr hF (c0 := 1) (by decide) dX8_readsOrder_47 ?_
                                              refine q_iconst hF dX8_readsOrder_48 ?_
                                              refine q_iand hF (c0 := 1) (by decide) dX8_readsOrder_49 ?_
                                              refine q_iconst hF dX8_readsOrder_50 ?_
                                              refine q_icmpne hF (by decide) (by decide) dX8_readsOrder_51 (fun c51v292 => ?_) (fun c51v292 => ?_)
                                              · exact absurd c51v292 (by decide)
                                              · refine q_aload_n hF 5 rfl rfl dX8_readsOrder_54 ?_
                                                refine q_iconst hF dX8_readsOrder_55 ?_
                                                refine q_iload hF 1 rfl dX8_readsOrder_56 ?_
                                                refine q_callV (kc := 0) (ks := 0) (mc' := 0) (ms' := 0) (h' := 0) (st := []) hF vl_RX8_106 rfl [qI 1, qI ((g_sk B n (g_len 32 + (g_sk B n (g_len 34 + (g_sk B n (g_len 33 + q))))) : Nat) : Int)] rfl rfl hS.t0 (by omega) (Nat.le_of_ble_eq_true rfl) dX8_readsOrder_58 ?_
                                                refine mX8_wrongA hS hSA hfl ?_
                                                show qX G F Q 0 0 61 [(5, qI 2), (4, qI ((g_sk B n (g_len 32 + (g_sk B n (g_len 34 + (g_sk B n (g_len 33 + q))))) : Nat) : Int)), (3, qI (q_b (97 ≤ (g_bt B n (g_sk B n (g_len 32 + (g_sk B n (g_len 34 + (g_sk B n (g_len 33 + q))))))) ∧ (g_bt B n (g_sk B n (g_len 32 + (g_sk B n (g_len 34 + (g_sk B n (g_len 33 + q))))))) ≤ 122))), (1, qI 3), (2, qI 7), (0, .ref m)] [] sz T (q_ps I m (g_mk (g_len 34 + (g_sk B n (g_len 32 + (g_sk B n (g_len 34 + (g_sk B n (g_len 33 + q))))))) 1 ((g_sk B n (g_len 32 + (g_sk B n (g_len 34 + (g_sk B n (g_len 33 + q))))) : Nat) : Int) s.cd s.op s.on s.hp)) (q_row L (m + 4) (g_up (g_up (g_up t 9 1) 10 2) 11 0)) P
                                                refine q_aload_n hF 5 rfl rfl dX8_readsOrder_61 ?_
                                                refine q_callV (kc := 0) (ks := 0) (mc' := 0) (ms' := 0) (h' := 0) (st := []) hF vl_RX8_95 rfl [] rfl rfl hS.t0 (by omega) (Nat.le_of_ble_eq_true rfl) dX8_readsOrder_62 ?_
                                                refine mX8_fine0 hS (show (1 : Int) ≠ 0 by decide) (show -2147483648 ≤ 1 ∧ 1 < 2147483648 by first | decide | omega | assumption) ?_
                                                refine q_ifne hF (by decide) dX8_readsOrder_65 (fun c65v295 => ?_) (fun c65v295 => ?_)
                                                · exact absurd c65v295 (by decide)
                                                · refine q_return hF rfl dX8_readsOrder_68 ?_
                                                  show Q (.inl none) sz T (q_ps I m (g_mk (g_len 34 + (g_sk B n (g_len 32 + (g_sk B n (g_len 34 + (g_sk B n (g_len 33 + q))))))) 1 ((g_sk B n (g_len 32 + (g_sk B n (g_len 34 + (g_sk B n (g_len 33 + q))))) : Nat) : Int) s.cd s.op s.on s.hp)) (q_row L (m + 4) (g_up (g_up (g_up t 9 1) 10 2) 11 0)) P
                                                  exact k1 1 (g_sk B n (g_len 32 + (g_sk B n (g_len 34 + (g_sk B n (g_len 33 + q)))))) _ _ (by rw [← hx2, g_rdOrder, g_rdO, if_neg c32_0_3, if_pos c32_1_3, g_rdO1, if_neg (by decide), if_pos c7v168, g_rdO, if_neg c32_0_172, if_neg c32_1_172, if_pos c32_2_172, g_rdO1, if_neg (by decide), if_pos c7v257, g_rdO, if_pos c32_0_261, g_rdO1, if_neg (by decide), if_pos c7v270, g_rdO, if_neg c32_0_274, if_neg c32_1_274, if_pos c32_2_274, g_rdO1, if_pos (by decide)]) (by decide) rfl rfl (show g_len 34 + (g_sk B n (g_len 32 + (g_sk B n (g_len 34 + (g_sk B n (g_len 33 + q)))))) ≤ n by omega)
                                          · show qX G F Q 0 0 35 [(4, qI ((g_sk B n (g_len 32 + (g_sk B n (g_len 34 + (g_sk B n (g_len 33 + q))))) : Nat) : Int)), (3, qI (q_b (97 ≤ (g_bt B n (g_sk B n (g_len 32 + (g_sk B n (g_len 34 + (g_sk B n (g_len 33 + q))))))) ∧ (g_bt B n (g_sk B n (g_len 32 + (g_sk B n (g_len 34 + (g_sk B n (g_len 33 + q))))))) ≤ 122))), (1, qI 3), (2, qI 7), (5, qI 0), (0, .ref m)] [qI (-1)] sz T (q_ps I m (g_mk (g_sk B n (g_len 32 + (g_sk B n (g_len 34 + (g_sk B n (g_len 33 + q)))))) 1 ((g_sk B n (g_len 32 + (g_sk B n (g_len 34 + (g_sk B n (g_len 33 + q))))) : Nat) : Int) s.cd s.op s.on s.hp)) (q_row L (m + 4) (g_up (g_up (g_up t 9 1) 10 2) 11 0)) P
                                            refine q_istore hF (ls' := [(5, qI (-1)), (4, qI ((g_sk B n (g_len 32 + (g_sk B n (g_len 34 + (g_sk B n (g_len 33 + q))))) : Nat) : Int)), (3, qI (q_b (97 ≤ (g_bt B n (g_sk B n (g_len 32 + (g_sk B n (g_len 34 + (g_sk B n (g_len 33 + q))))))) ∧ (g_bt B n (g_sk B n (g_len 32 + (g_sk B n (g_len 34 + (g_sk B n (g_len 33 + q))))))) ≤ 122))), (1, qI 3), (2, qI 7), (0, .ref m)]) (by decide) rfl dX8_readsOrder_35 ?_
                                            skip
                                            refine q_aload_n hF 5 rfl rfl dX8_readsOrder_37 ?_
                                            refine q_callV (kc := 0) (ks := 0) (mc' := 0) (ms' := 0) (h' := 0) (st := []) hF vl_RX8_95 rfl [] rfl rfl hS.t0 (by omega) (Nat.le_of_ble_eq_true rfl) dX8_readsOrder_38 ?_
                                            refine mX8_fine0 hS (show (1 : Int) ≠ 0 by decide) (show -2147483648 ≤ 1 ∧ 1 < 2147483648 by first | decide | omega | assumption) ?_
                                            refine q_ifeq hF (by decide) dX8_readsOrder_41 (fun c41v297 => ?_) (fun c41v297 => ?_)
                                            · refine q_aload_n hF 5 rfl rfl dX8_readsOrder_61 ?_
                                              refine q_callV (kc := 0) (ks := 0) (mc' := 0) (ms' := 0) (h' := 0) (st := []) hF vl_RX8_95 rfl [] rfl rfl hS.t0 (by omega) (Nat.le_of_ble_eq_true rfl) dX8_readsOrder_62 ?_
                                              refine mX8_fine0 hS (show (1 : Int) ≠ 0 by decide) (show -2147483648 ≤ 1 ∧ 1 < 2147483648 by first | decide | omega | assumption) ?_
                                              refine q_ifne hF (by decide) dX8_readsOrder_65 (fun c65v299 => ?_) (fun c65v299 => ?_)
                                              · exact absurd c65v299 (by decide)
                                              · refine q_return hF rfl dX8_readsOrder_68 ?_
                                                show Q (.inl none) sz T (q_ps I m (g_mk (g_sk B n (g_len 32 + (g_sk B n (g_len 34 + (g_sk B n (g_len 33 + q)))))) 1 ((g_sk B n (g_len 32 + (g_sk B n (g_len 34 + (g_sk B n (g_len 33 + q))))) : Nat) : Int) s.cd s.op s.on s.hp)) (q_row L (m + 4) (g_up (g_up (g_up t 9 1) 10 2) 11 0)) P
                                                exact k1 1 (g_sk B n (g_len 32 + (g_sk B n (g_len 34 + (g_sk B n (g_len 33 + q)))))) _ _ (by rw [← hx2, g_rdOrder, g_rdO, if_neg c32_0_3, if_pos c32_1_3, g_rdO1, if_neg (by decide), if_pos c7v168, g_rdO, if_neg c32_0_172, if_neg c32_1_172, if_pos c32_2_172, g_rdO1, if_neg (by decide), if_pos c7v257, g_rdO, if_pos c32_0_261, g_rdO1, if_neg (by decide), if_pos c7v270, g_rdO, if_neg c32_0_274, if_neg c32_1_274, if_neg c32_2_274]) (by decide) rfl rfl (show g_sk B n (g_len 32 + (g_sk B n (g_len 34 + (g_sk B n (g_len 33 + q))))) ≤ n by omega)
                                            · exact absurd c41v297 (by decide)
                                    · exact absurd c65v267 (by decide)
                                  · exact absurd c51v265 (by decide)
                              · show qX G F Q 0 0 35 [(4, qI ((g_sk B n (g_len 34 + (g_sk B n (g_len 33 + q))) : Nat) : Int)), (3, qI (q_b (97 ≤ (g_bt B n (g_sk B n (g_len 34 + (g_sk B n (g_len 33 + q))))) ∧ (g_bt B n (g_sk B n (g_len 34 + (g_sk B n (g_len 33 + q))))) ≤ 122))), (1, qI 2), (2, qI 6), (5, qI 2), (0, .ref m)] [qI 1] sz T (q_ps I m (g_mk (g_len 33 + (g_sk B n (g_len 34 + (g_sk B n (g_len 33 + q))))) s.fl s.fa s.cd s.op s.on s.hp)) (q_row L (m + 4) (g_up (g_up t 9 1) 10 2)) P
                                refine q_istore hF (ls' := [(5, qI 1), (4, qI ((g_sk B n (g_len 34 + (g_sk B n (g_len 33 + q))) : Nat) : Int)), (3, qI (q_b (97 ≤ (g_bt B n (g_sk B n (g_len 34 + (g_sk B n (g_len 33 + q))))) ∧ (g_bt B n (g_sk B n (g_len 34 + (g_sk B n (g_len 33 + q))))) ≤ 122))), (1, qI 2), (2, qI 6), (0, .ref m)]) (by decide) rfl dX8_readsOrder_35 ?_
                                have hwl300 := g_words_ok 33 (by decide)
                                have hwn300 := g_isW_n (g_words_ok 33 (by decide)) (fun k hk => by have := g_ch_r (i := 33) (by decide) hk; omega) c32_1_261
                                have hsr300 := g_sk_r (B := B) (n := n) (k := g_len 33 + (g_sk B n (g_len 34 + (g_sk B n (g_len 33 + q))))) (by omega)
                                refine q_aload_n hF 5 rfl rfl dX8_readsOrder_37 ?_
                                refine q_callV (kc := 0) (ks := 0) (mc' := 0) (ms' := 0) (h' := 0) (st := []) hF vl_RX8_95 rfl [] rfl rfl hS.t0 (by omega) (Nat.le_of_ble_eq_true rfl) dX8_readsOrder_38 ?_
                                refine mX8_fineA hS hfl ?_
                                refine q_ifeq hF (by decide) dX8_readsOrder_41 (fun c41v302 => ?_) (fun c41v302 => ?_)
                                · exact absurd c41v302 (by decide)
                                · refine q_iload_n hF 4 rfl rfl dX8_readsOrder_44 ?_
                                  refine q_iload hF 0 rfl dX8_readsOrder_45 ?_
                                  refine q_ishr hF (c0 := 3) (by decide) dX8_readsOrder_47 ?_
                                  refine q_iconst hF dX8_readsOrder_48 ?_
                                  refine q_iand hF (c0 := 1) (by decide) dX8_readsOrder_49 ?_
                                  refine q_iconst hF dX8_readsOrder_50 ?_
                                  refine q_icmpne hF (by decide) (by decide) dX8_readsOrder_51 (fun c51v303 => ?_) (fun c51v303 => ?_)
                                  · exact absurd c51v303 (by decide)
                                  · refine q_aload_n hF 5 rfl rfl dX8_readsOrder_54 ?_
                                    refine q_iconst hF dX8_readsOrder_55 ?_
                                    refine q_iload hF 1 rfl dX8_readsOrder_56 ?_
                                    refine q_callV (kc := 0) (ks := 0) (mc' := 0) (ms' := 0) (h' := 0) (st := []) hF vl_RX8_106 rfl [qI 1, qI ((g_sk B n (g_len 34 + (g_sk B n (g_len 33 + q))) : Nat) : Int)] rfl rfl hS.t0 (by omega) (Nat.le_of_ble_eq_true rfl) dX8_readsOrder_58 ?_
                                    refine mX8_wrongA hS hSA hfl ?_
                                    show qX G F Q 0 0 61 [(5, qI 1), (4, qI ((g_sk B n (g_len 34 + (g_sk B n (g_len 33 + q))) : Nat) : Int)), (3, qI (q_b (97 ≤ (g_bt B n (g_sk B n (g_len 34 + (g_sk B n (g_len 33 + q))))) ∧ (g_bt B n (g_sk B n (g_len 34 + (g_sk B n (g_len 33 + q))))) ≤ 122))), (1, qI 2), (2, qI 6), (0, .ref m)] [] sz T (q_ps I m (g_mk (g_len 33 + (g_sk B n (g_len 34 + (g_sk B n (g_len 33 + q))))) 1 ((g_sk B n (g_len 34 + (g_sk B n (g_len 33 + q))) : Nat) : Int) s.cd s.op s.on s.hp)) (q_row L (m + 4) (g_up (g_up t 9 1) 10 2)) P
                                    refine q_aload_n hF 5 rfl rfl dX8_readsOrder_61 ?_
                                    refine q_callV (kc := 0) (ks := 0) (mc' := 0) (ms' := 0) (h' := 0) (st := []) hF vl_RX8_95 rfl [] rfl rfl hS.t0 (by omega) (Nat.le_of_ble_eq_true rfl) dX8_readsOrder_62 ?_
                                    refine mX8_fine0 hS (show (1 : Int) ≠ 0 by decide) (show -2147483648 ≤ 1 ∧ 1 < 2147483648 by first | decide | omega | assumption) ?_
                                    refine q_ifne hF (by decide) dX8_readsOrder_65 (fun c65v306 => ?_) (fun c65v306 => ?_)
                                    · exact absurd c65v306 (by decide)
                                    · refine q_return hF rfl dX8_readsOrder_68 ?_
                                      show Q (.inl none) sz T (q_ps I m (g_mk (g_len 33 + (g_sk B n (g_len 34 + (g_sk B n (g_len 33 + q))))) 1 ((g_sk B n (g_len 34 + (g_sk B n (g_len 33 + q))) : Nat) : Int) s.cd s.op s.on s.hp)) (q_row L (m + 4) (g_up (g_up t 9 1) 10 2)) P
                                      exact k1 1 (g_sk B n (g_len 34 + (g_sk B n (g_len 33 + q)))) _ _ (by rw [← hx2, g_rdOrder, g_rdO, if_neg c32_0_3, if_pos c32_1_3, g_rdO1, if_neg (by decide), if_pos c7v168, g_rdO, if_neg c32_0_172, if_neg c32_1_172, if_pos c32_2_172, g_rdO1, if_neg (by decide), if_pos c7v257, g_rdO, if_neg c32_0_261, if_pos c32_1_261, g_rdO1, if_pos (by decide)]) (by decide) rfl rfl (show g_len 33 + (g_sk B n (g_len 34 + (g_sk B n (g_len 33 + q)))) ≤ n by omega)
                              · show qX G F Q 0 0 35 [(4, qI ((g_sk B n (g_len 34 + (g_sk B n (g_len 33 + q))) : Nat) : Int)), (3, qI (q_b (97 ≤ (g_bt B n (g_sk B n (g_len 34 + (g_sk B n (g_len 33 + q))))) ∧ (g_bt B n (g_sk B n (g_len 34 + (g_sk B n (g_len 33 + q))))) ≤ 122))), (1, qI 2), (2, qI 6), (5, qI 2), (0, .ref m)] [qI 2] sz T (q_ps I m (g_mk (g_len 34 + (g_sk B n (g_len 34 + (g_sk B n (g_len 33 + q))))) s.fl s.fa s.cd s.op s.on s.hp)) (q_row L (m + 4) (g_up (g_up t 9 1) 10 2)) P
                                refine q_istore hF (ls' := [(5, qI 2), (4, qI ((g_sk B n (g_len 34 + (g_sk B n (g_len 33 + q))) : Nat) : Int)), (3, qI (q_b (97 ≤ (g_bt B n (g_sk B n (g_len 34 + (g_sk B n (g_len 33 + q))))) ∧ (g_bt B n (g_sk B n (g_len 34 + (g_sk B n (g_len 33 + q))))) ≤ 122))), (1, qI 2), (2, qI 6), (0, .ref m)]) (by decide) rfl dX8_readsOrder_35 ?_
                                have hwl307 := g_words_ok 34 (by decide)
                                have hwn307 := g_isW_n (g_words_ok 34 (by decide)) (fun k hk => by have := g_ch_r (i := 34) (by decide) hk; omega) c32_2_261
                                have hsr307 := g_sk_r (B := B) (n := n) (k := g_len 34 + (g_sk B n (g_len 34 + (g_sk B n (g_len 33 + q))))) (by omega)
                                refine q_aload_n hF 5 rfl rfl dX8_readsOrder_37 ?_
                                refine q_callV (kc := 0) (ks := 0) (mc' := 0) (ms' := 0) (h' := 0) (st := []) hF vl_RX8_95 rfl [] rfl rfl hS.t0 (by omega) (Nat.le_of_ble_eq_true rfl) dX8_readsOrder_38 ?_
                                refine mX8_fineA hS hfl ?_
                                refine q_ifeq hF (by decide) dX8_readsOrder_41 (fun c41v309 => ?_) (fun c41v309 => ?_)
                                · exact absurd c41v309 (by decide)
                                · refine q_iload_n hF 4 rfl rfl dX8_readsOrder_44 ?_
                                  refine q_iload hF 0 rfl dX8_readsOrder_45 ?_
                                  refine q_ishr hF (c0 := 1) (by decide) dX8_readsOrder_47 ?_
                                  refine q_iconst hF dX8_readsOrder_48 ?_
                                  refine q_iand hF (c0 := 1) (by decide) dX8_readsOrder_49 ?_
                                  refine q_iconst hF dX8_readsOrder_50 ?_
                                  refine q_icmpne hF (by decide) (by decide) dX8_readsOrder_51 (fun c51v310 => ?_) (fun c51v310 => ?_)
                                  · exact absurd c51v310 (by decide)
                                  · refine q_aload_n hF 5 rfl rfl dX8_readsOrder_54 ?_
                                    refine q_iconst hF dX8_readsOrder_55 ?_
                                    refine q_iload hF 1 rfl dX8_readsOrder_56 ?_
                                    refine q_callV (kc := 0) (ks := 0) (mc' := 0) (ms' := 0) (h' := 0) (st := []) hF vl_RX8_106 rfl [qI 1, qI ((g_sk B n (g_len 34 + (g_sk B n (g_len 33 + q))) : Nat) : Int)] rfl rfl hS.t0 (by omega) (Nat.le_of_ble_eq_true rfl) dX8_readsOrder_58 ?_
                                    refine mX8_wrongA hS hSA hfl ?_
                                    show qX G F Q 0 0 61 [(5, qI 2), (4, qI ((g_sk B n (g_len 34 + (g_sk B n (g_len 33 + q))) : Nat) : Int)), (3, qI (q_b (97 ≤ (g_bt B n (g_sk B n (g_len 34 + (g_sk B n (g_len 33 + q))))) ∧ (g_bt B n (g_sk B n (g_len 34 + (g_sk B n (g_len 33 + q))))) ≤ 122))), (1, qI 2), (2, qI 6), (0, .ref m)] [] sz T (q_ps I m (g_mk (g_len 34 + (g_sk B n (g_len 34 + (g_sk B n (g_len 33 + q))))) 1 ((g_sk B n (g_len 34 + (g_sk B n (g_len 33 + q))) : Nat) : Int) s.cd s.op s.on s.hp)) (q_row L (m + 4) (g_up (g_up t 9 1) 10 2)) P
                                    refine q_aload_n hF 5 rfl rfl dX8_readsOrder_61 ?_
                                    refine q_callV (kc := 0) (ks := 0) (mc' := 0) (ms' := 0) (h' := 0) (st := []) hF vl_RX8_95 rfl [] rfl rfl hS.t0 (by omega) (Nat.le_of_ble_eq_true rfl) dX8_readsOrder_62 ?_
                                    refine mX8_fine0 hS (show (1 : Int) ≠ 0 by decide) (show -2147483648 ≤ 1 ∧ 1 < 2147483648 by first | decide | omega | assumption) ?_
                                    refine q_ifne hF (by decide) dX8_readsOrder_65 (fun c65v313 => ?_) (fun c65v313 => ?_)
                                    · exact absurd c65v313 (by decide)
                                    · refine q_return hF rfl dX8_readsOrder_68 ?_
                                      show Q (.inl none) sz T (q_ps I m (g_mk (g_len 34 + (g_sk B n (g_len 34 + (g_sk B n (g_len 33 + q))))) 1 ((g_sk B n (g_len 34 + (g_sk B n (g_len 33 + q))) : Nat) : Int) s.cd s.op s.on s.hp)) (q_row L (m + 4) (g_up (g_up t 9 1) 10 2)) P
                                      exact k1 1 (g_sk B n (g_len 34 + (g_sk B n (g_len 33 + q)))) _ _ (by rw [← hx2, g_rdOrder, g_rdO, if_neg c32_0_3, if_pos c32_1_3, g_rdO1, if_neg (by decide), if_pos c7v168, g_rdO, if_neg c32_0_172, if_neg c32_1_172, if_pos c32_2_172, g_rdO1, if_neg (by decide), if_pos c7v257, g_rdO, if_neg c32_0_261, if_neg c32_1_261, if_pos c32_2_261, g_rdO1, if_pos (by decide)]) (by decide) rfl rfl (show g_len 34 + (g_sk B n (g_len 34 + (g_sk B n (g_len 33 + q)))) ≤ n by omega)
                              · show qX G F Q 0 0 35 [(4, qI ((g_sk B n (g_len 34 + (g_sk B n (g_len 33 + q))) : Nat) : Int)), (3, qI (q_b (97 ≤ (g_bt B n (g_sk B n (g_len 34 + (g_sk B n (g_len 33 + q))))) ∧ (g_bt B n (g_sk B n (g_len 34 + (g_sk B n (g_len 33 + q))))) ≤ 122))), (1, qI 2), (2, qI 6), (5, qI 2), (0, .ref m)] [qI (-1)] sz T (q_ps I m (g_mk (g_sk B n (g_len 34 + (g_sk B n (g_len 33 + q)))) 1 ((g_sk B n (g_len 34 + (g_sk B n (g_len 33 + q))) : Nat) : Int) s.cd s.op s.on s.hp)) (q_row L (m + 4) (g_up (g_up t 9 1) 10 2)) P
                                refine q_istore hF (ls' := [(5, qI (-1)), (4, qI ((g_sk B n (g_len 34 + (g_sk B n (g_len 33 + q))) : Nat) : Int)), (3, qI (q_b (97 ≤ (g_bt B n (g_sk B n (g_len 34 + (g_sk B n (g_len 33 + q))))) ∧ (g_bt B n (g_sk B n (g_len 34 + (g_sk B n (g_len 33 + q))))) ≤ 122))), (1, qI 2), (2, qI 6), (0, .ref m)]) (by decide) rfl dX8_readsOrder_35 ?_
                                skip
                                refine q_aload_n hF 5 rfl rfl dX8_readsOrder_37 ?_
                                refine q_callV (kc := 0) (ks := 0) (mc' := 0) (ms' := 0) (h' := 0) (st := []) hF vl_RX8_95 rfl [] rfl rfl hS.t0 (by omega) (Nat.le_of_ble_eq_true rfl) dX8_readsOrder_38 ?_
                                refine mX8_fine0 hS (show (1 : Int) ≠ 0 by decide) (show -2147483648 ≤ 1 ∧ 1 < 2147483648 by first | decide | omega | assumption) ?_
                                refine q_ifeq hF (by decide) dX8_readsOrder_41 (fun c41v315 => ?_) (fun c41v315 => ?_)
                                · refine q_aload_n hF 5 rfl rfl dX8_readsOrder_61 ?_
                                  refine q_callV (kc := 0) (ks := 0) (mc' := 0) (ms' := 0) (h' := 0) (st := []) hF vl_RX8_95 rfl [] rfl rfl hS.t0 (by omega) (Nat.le_of_ble_eq_true rfl) dX8_readsOrder_62 ?_
                                  refine mX8_fine0 hS (show (1 : Int) ≠ 0 by decide) (show -2147483648 ≤ 1 ∧ 1 < 2147483648 by first | decide | omega | assumption) ?_
                                  refine q_ifne hF (by decide) dX8_readsOrder_65 (fun c65v317 => ?_) (fun c65v317 => ?_)
                                  · exact absurd c65v317 (by decide)
                                  · refine q_return hF rfl dX8_readsOrder_68 ?_
                                    show Q (.inl none) sz T (q_ps I m (g_mk (g_sk B n (g_len 34 + (g_sk B n (g_len 33 + q)))) 1 ((g_sk B n (g_len 34 + (g_sk B n (g_len 33 + q))) : Nat) : Int) s.cd s.op s.on s.hp)) (q_row L (m + 4) (g_up (g_up t 9 1) 10 2)) P
                                    exact k1 1 (g_sk B n (g_len 34 + (g_sk B n (g_len 33 + q)))) _ _ (by rw [← hx2, g_rdOrder, g_rdO, if_neg c32_0_3, if_pos c32_1_3, g_rdO1, if_neg (by decide), if_pos c7v168, g_rdO, if_neg c32_0_172, if_neg c32_1_172, if_pos c32_2_172, g_rdO1, if_neg (by decide), if_pos c7v257, g_rdO, if_neg c32_0_261, if_neg c32_1_261, if_neg c32_2_261]) (by decide) rfl rfl (show g_sk B n (g_len 34 + (g_sk B n (g_len 33 + q))) ≤ n by omega)
                                · exact absurd c41v315 (by decide)
                        · exact absurd c65v254 (by decide)
                      · exact absurd c51v252 (by decide)
                  · show qX G F Q 0 0 35 [(4, qI ((g_sk B n (g_len 33 + q) : Nat) : Int)), (3, qI (q_b (97 ≤ (g_bt B n (g_sk B n (g_len 33 + q))) ∧ (g_bt B n (g_sk B n (g_len 33 + q))) ≤ 122))), (1, qI 1), (2, qI 2), (5, qI 1), (0, .ref m)] [qI (-1)] sz T (q_ps I m (g_mk (g_sk B n (g_len 33 + q)) 1 ((g_sk B n (g_len 33 + q) : Nat) : Int) s.cd s.op s.on s.hp)) (q_row L (m + 4) (g_up t 9 1)) P
                    refine q_istore hF (ls' := [(5, qI (-1)), (4, qI ((g_sk B n (g_len 33 + q) : Nat) : Int)), (3, qI (q_b (97 ≤ (g_bt B n (g_sk B n (g_len 33 + q))) ∧ (g_bt B n (g_sk B n (g_len 33 + q))) ≤ 122))), (1, qI 1), (2, qI 2), (0, .ref m)]) (by decide) rfl dX8_readsOrder_35 ?_
                    skip
                    refine q_aload_n hF 5 rfl rfl dX8_readsOrder_37 ?_
                    refine q_callV (kc := 0) (ks := 0) (mc' := 0) (ms' := 0) (h' := 0) (st := []) hF vl_RX8_95 rfl [] rfl rfl hS.t0 (by omega) (Nat.le_of_ble_eq_true rfl) dX8_readsOrder_38 ?_
                    refine mX8_fine0 hS (show (1 : Int) ≠ 0 by decide) (show -2147483648 ≤ 1 ∧ 1 < 2147483648 by first | decide | omega | assumption) ?_
                    refine q_ifeq hF (by decide) dX8_readsOrder_41 (fun c41v319 => ?_) (fun c41v319 => ?_)
                    · refine q_aload_n hF 5 rfl rfl dX8_readsOrder_61 ?_
                      refine q_callV (kc := 0) (ks := 0) (mc' := 0) (ms' := 0) (h' := 0) (st := []) hF vl_RX8_95 rfl [] rfl rfl hS.t0 (by omega) (Nat.le_of_ble_eq_true rfl) dX8_readsOrder_62 ?_
                      refine mX8_fine0 hS (show (1 : Int) ≠ 0 by decide) (show -2147483648 ≤ 1 ∧ 1 < 2147483648 by first | decide | omega | assumption) ?_
                      refine q_ifne hF (by decide) dX8_readsOrder_65 (fun c65v321 => ?_) (fun c65v321 => ?_)
                      · exact absurd c65v321 (by decide)
                      · refine q_return hF rfl dX8_readsOrder_68 ?_
                        show Q (.inl none) sz T (q_ps I m (g_mk (g_sk B n (g_len 33 + q)) 1 ((g_sk B n (g_len 33 + q) : Nat) : Int) s.cd s.op s.on s.hp)) (q_row L (m + 4) (g_up t 9 1)) P
                        exact k1 1 (g_sk B n (g_len 33 + q)) _ _ (by rw [← hx2, g_rdOrder, g_rdO, if_neg c32_0_3, if_pos c32_1_3, g_rdO1, if_neg (by decide), if_pos c7v168, g_rdO, if_neg c32_0_172, if_neg c32_1_172, if_neg c32_2_172]) (by decide) rfl rfl (show g_sk B n (g_len 33 + q) ≤ n by omega)
                    · exact absurd c41v319 (by decide)
            · exact absurd c65 (by decide)
          · exact absurd c51 (by decide)
      · show qX G F Q 0 0 35 [(4, qI (q : Int)), (3, qI 1), (2, qI 0), (1, qI 0), (0, .ref m)] [qI 2] sz T (q_ps I m (g_mk (g_len 34 + q) s.fl s.fa s.cd s.op s.on s.hp)) (q_row L (m + 4) t) P
        refine q_istore hF (ls' := [(5, qI 2), (4, qI (q : Int)), (3, qI 1), (2, qI 0), (1, qI 0), (0, .ref m)]) (by decide) rfl dX8_readsOrder_35 ?_
        have hwl322 := g_words_ok 34 (by decide)
        have hwn322 := g_isW_n (g_words_ok 34 (by decide)) (fun k hk => by have := g_ch_r (i := 34) (by decide) hk; omega) c32_2_3
        have hsr322 := g_sk_r (B := B) (n := n) (k := g_len 34 + q) (by omega)
        refine q_aload_n hF 5 rfl rfl dX8_readsOrder_37 ?_
        refine q_callV (kc := 0) (ks := 0) (mc' := 0) (ms' := 0) (h' := 0) (st := []) hF vl_RX8_95 rfl [] rfl rfl hS.t0 (by omega) (Nat.le_of_ble_eq_true rfl) dX8_readsOrder_38 ?_
        refine mX8_fineA hS hfl ?_
        refine q_ifeq hF (by decide) dX8_readsOrder_41 (fun c41 => ?_) (fun c41 => ?_)
        · exact absurd c41 (by decide)
        · refine q_iload_n hF 3 rfl rfl dX8_readsOrder_44 ?_
          refine q_iload hF 0 rfl dX8_readsOrder_45 ?_
          refine q_ishr hF (c0 := 0) (by decide) dX8_readsOrder_47 ?_
          refine q_iconst hF dX8_readsOrder_48 ?_
          refine q_iand hF (c0 := 0) (by decide) dX8_readsOrder_49 ?_
          refine q_iconst hF dX8_readsOrder_50 ?_
          refine q_icmpne hF (by decide) (by decide) dX8_readsOrder_51 (fun c51 => ?_) (fun c51 => ?_)
          · refine q_aload_n hF 5 rfl rfl dX8_readsOrder_61 ?_
            refine q_callV (kc := 0) (ks := 0) (mc' := 0) (ms' := 0) (h' := 0) (st := []) hF vl_RX8_95 rfl [] rfl rfl hS.t0 (by omega) (Nat.le_of_ble_eq_true rfl) dX8_readsOrder_62 ?_
            refine mX8_fineA hS hfl ?_
            refine q_ifne hF (by decide) dX8_readsOrder_65 (fun c65 => ?_) (fun c65 => ?_)
            · refine q_iload_n hF 3 rfl rfl dX8_readsOrder_69 ?_
              refine q_iconst hF dX8_readsOrder_70 ?_
              refine q_iload hF 0 rfl dX8_readsOrder_71 ?_
              refine q_ishl hF (c0 := 4) (by decide) dX8_readsOrder_73 ?_
              refine q_ior hF (c0 := 4) (by decide) dX8_readsOrder_74 ?_
              refine q_istore_n hF (ls' := [(2, qI 4), (5, qI 2), (4, qI (q : Int)), (3, qI 1), (1, qI 0), (0, .ref m)]) rfl (by decide) rfl dX8_readsOrder_75 ?_
              refine q_aload_n hF 5 rfl rfl dX8_readsOrder_76 ?_
              refine q_getA hF fl_RX8_24 rfl hS.t0 hS.p10 dX8_readsOrder_77 ?_
              refine q_bipush hF (n := 9) rfl dX8_readsOrder_80 ?_
              refine q_iload_n hF 4 rfl rfl dX8_readsOrder_82 ?_
              refine q_iadd hF dX8_readsOrder_83 ?_
              refine q_iload hF 1 rfl dX8_readsOrder_84 ?_
              refine q_i2l hF (by decide) dX8_readsOrder_86 ?_
              refine q_lastorev hF (n := 1243) 9 hS.t4 (q_Ale hSA (by omega)) (by omega) (by omega) (by decide) dX8_readsOrder_87 ?_
              rw [q_row_u]
              refine q_iinc hF (z' := 1) (ls' := [(1, qI 1), (2, qI 4), (5, qI 2), (4, qI (q : Int)), (3, qI 1), (0, .ref m)]) 4 rfl (by first | rfl | omega) (by decide) rfl dX8_readsOrder_88 ?_
              refine q_aload_n hF 5 rfl rfl dX8_readsOrder_91 ?_
              refine q_callV (kc := 0) (ks := 0) (mc' := 0) (ms' := 0) (h' := 1) (st := []) hF vl_RX8_78 rfl [] rfl rfl hS.t0 (by omega) (Nat.le_of_ble_eq_true rfl) dX8_readsOrder_92 ?_
              refine mX8_herePQ (B := B) (n := n) hS hSA hB (show (g_len 34 + q) ≤ n by omega) rfl ?_
              show qX G F Q 0 0 95 [(1, qI 1), (2, qI 4), (5, qI 2), (4, qI (q : Int)), (3, qI 1), (0, .ref m)] [qI (g_bt B n (g_sk B n (g_len 34 + q)))] sz T (q_ps I m (g_mk (g_sk B n (g_len 34 + q)) s.fl s.fa s.cd s.op s.on s.hp)) (q_row L (m + 4) (g_up t 9 2)) P
              refine q_callS (kc := 0) (ks := 0) (mc' := 0) (ms' := 0) (h' := 0) (st := []) hF sl_RX8_91 rfl [qI (g_bt B n (g_sk B n (g_len 34 + q)))] rfl rfl (by omega) (Nat.le_of_ble_eq_true rfl) dX8_readsOrder_95 ?_
              refine mX8_isSmall (g_bt_32 hB _) ?_
              refine q_istore_n hF (ls' := [(3, qI (q_b (97 ≤ (g_bt B n (g_sk B n (g_len 34 + q))) ∧ (g_bt B n (g_sk B n (g_len 34 + q))) ≤ 122))), (1, qI 1), (2, qI 4), (5, qI 2), (4, qI (q : Int)), (0, .ref m)]) rfl (by decide) rfl dX8_readsOrder_98 ?_
              refine q_goto hF dX8_readsOrder_99 ?_
              refine q_iload_n hF 0 rfl rfl dX8_readsOrder_6 ?_
              refine q_ifeq_b hF dX8_readsOrder_7 (fun c7v327 => ?_) (fun c7v327 => ?_)
              · refine q_aload_n hF 5 rfl rfl dX8_readsOrder_102 ?_
                refine q_getA hF fl_RX8_24 rfl hS.t0 hS.p10 dX8_readsOrder_103 ?_
                refine q_bipush hF (n := 8) rfl dX8_readsOrder_106 ?_
                refine q_iload_n hF 1 rfl rfl dX8_readsOrder_108 ?_
                refine q_i2l hF (by decide) dX8_readsOrder_109 ?_
                refine q_lastorev hF (n := 1243) 8 hS.t4 (q_Ale hSA (by omega)) rfl (by decide) (by decide) dX8_readsOrder_110 ?_
                rw [q_row_u]
                refine q_return hF rfl dX8_readsOrder_111 ?_
                exact k0 _ _ (by rw [← hx2, g_rdOrder, g_rdO, if_neg c32_0_3, if_neg c32_1_3, if_pos c32_2_3, g_rdO1, if_neg (by decide), if_neg c7v327]; try rfl)
              · refine q_aload_n hF 5 rfl rfl dX8_readsOrder_10 ?_
                refine q_callV (kc := 0) (ks := 0) (mc' := 0) (ms' := 0) (h' := 0) (st := []) hF vl_RX8_95 rfl [] rfl rfl hS.t0 (by omega) (Nat.le_of_ble_eq_true rfl) dX8_readsOrder_11 ?_
                refine mX8_fineA hS hfl ?_
                refine q_ifeq hF (by decide) dX8_readsOrder_14 (fun c14v329 => ?_) (fun c14v329 => ?_)
                · exact absurd c14v329 (by decide)
                · skip
                  refine q_aload_n hF 5 rfl rfl dX8_readsOrder_17 ?_
                  refine q_callV (kc := 0) (ks := 0) (mc' := 0) (ms' := 0) (h' := 1) (st := []) hF vl_RX8_78 rfl [] rfl rfl hS.t0 (by omega) (Nat.le_of_ble_eq_true rfl) dX8_readsOrder_18 ?_
                  refine mX8_herePQ (B := B) (n := n) hS hSA hB (show (g_sk B n (g_len 34 + q)) ≤ n by omega) (g_sk_sk (by omega)) ?_
                  show qX G F Q 0 0 21 [(3, qI (q_b (97 ≤ (g_bt B n (g_sk B n (g_len 34 + q))) ∧ (g_bt B n (g_sk B n (g_len 34 + q))) ≤ 122))), (1, qI 1), (2, qI 4), (5, qI 2), (4, qI (q : Int)), (0, .ref m)] [qI (g_bt B n (g_sk B n (g_len 34 + q)))] sz T (q_ps I m (g_mk (g_sk B n (g_len 34 + q)) s.fl s.fa s.cd s.op s.on s.hp)) (q_row L (m + 4) (g_up t 9 2)) P
                  refine q_pop hF rfl dX8_readsOrder_21 ?_
                  refine q_aload_n hF 5 rfl rfl dX8_readsOrder_22 ?_
                  refine q_getIv hF (z := ((g_sk B n (g_len 34 + q) : Nat) : Int)) fl_RX8_65 hS.t0 q_ps_4 dX8_readsOrder_23 ?_
                  refine q_istore hF (ls' := [(4, qI ((g_sk B n (g_len 34 + q) : Nat) : Int)), (3, qI (q_b (97 ≤ (g_bt B n (g_sk B n (g_len 34 + q))) ∧ (g_bt B n (g_sk B n (g_len 34 + q))) ≤ 122))), (1, qI 1), (2, qI 4), (5, qI 2), (0, .ref m)]) (by decide) rfl dX8_readsOrder_26 ?_
                  refine q_aload_n hF 5 rfl rfl dX8_readsOrder_28 ?_
                  refine q_iconst hF dX8_readsOrder_29 ?_
                  refine q_bipush hF (n := 7) rfl dX8_readsOrder_30 ?_
                  refine q_callV (kc := 0) (ks := 0) (mc' := 0) (ms' := 0) (h' := 6) (st := []) hF vl_RX8_220 rfl [qI 5, qI 7] rfl rfl hS.t0 (by omega) (Nat.le_of_ble_eq_true rfl) dX8_readsOrder_32 ?_
                  refine mX8_one5 hS hSA hB (show (g_sk B n (g_len 34 + q)) ≤ n by omega) hfl (g_sk_sk (by omega)) (fun (c32_0_331 : g_isW B n 32 (g_sk B n (g_len 34 + q))) => ?_) (fun (c32_0_331 : ¬ (g_isW B n 32 (g_sk B n (g_len 34 + q)))) (c32_1_331 : g_isW B n 33 (g_sk B n (g_len 34 + q))) => ?_) (fun (c32_0_331 : ¬ (g_isW B n 32 (g_sk B n (g_len 34 + q)))) (c32_1_331 : ¬ (g_isW B n 33 (g_sk B n (g_len 34 + q)))) (c32_2_331 : g_isW B n 34 (g_sk B n (g_len 34 + q))) => ?_) (fun (c32_0_331 : ¬ (g_isW B n 32 (g_sk B n (g_len 34 + q)))) (c32_1_331 : ¬ (g_isW B n 33 (g_sk B n (g_len 34 + q)))) (c32_2_331 : ¬ (g_isW B n 34 (g_sk B n (g_len 34 + q)))) => ?_)
                  · show qX G F Q 0 0 35 [(4, qI ((g_sk B n (g_len 34 + q) : Nat) : Int)), (3, qI (q_b (97 ≤ (g_bt B n (g_sk B n (g_len 34 + q))) ∧ (g_bt B n (g_sk B n (g_len 34 + q))) ≤ 122))), (1, qI 1), (2, qI 4), (5, qI 2), (0, .ref m)] [qI 0] sz T (q_ps I m (g_mk (g_len 32 + (g_sk B n (g_len 34 + q))) s.fl s.fa s.cd s.op s.on s.hp)) (q_row L (m + 4) (g_up t 9 2)) P
                    refine q_istore hF (ls' := [(5, qI 0), (4, qI ((g_sk B n (g_len 34 + q) : Nat) : Int)), (3, qI (q_b (97 ≤ (g_bt B n (g_sk B n (g_len 34 + q))) ∧ (g_bt B n (g_sk B n (g_len 34 + q))) ≤ 122))), (1, qI 1), (2, qI 4), (0, .ref m)]) (by decide) rfl dX8_readsOrder_35 ?_
                    have hwl332 := g_words_ok 32 (by decide)
                    have hwn332 := g_isW_n (g_words_ok 32 (by decide)) (fun k hk => by have := g_ch_r (i := 32) (by decide) hk; omega) c32_0_331
                    have hsr332 := g_sk_r (B := B) (n := n) (k := g_len 32 + (g_sk B n (g_len 34 + q))) (by omega)
                    refine q_aload_n hF 5 rfl rfl dX8_readsOrder_37 ?_
                    refine q_callV (kc := 0) (ks := 0) (mc' := 0) (ms' := 0) (h' := 0) (st := []) hF vl_RX8_95 rfl [] rfl rfl hS.t0 (by omega) (Nat.le_of_ble_eq_true rfl) dX8_readsOrder_38 ?_
                    refine mX8_fineA hS hfl ?_
                    refine q_ifeq hF (by decide) dX8_readsOrder_41 (fun c41v334 => ?_) (fun c41v334 => ?_)
                    · exact absurd c41v334 (by decide)
                    · refine q_iload_n hF 4 rfl rfl dX8_readsOrder_44 ?_
                      refine q_iload hF 0 rfl dX8_readsOrder_45 ?_
                      refine q_ishr hF (c0 := 4) (by decide) dX8_readsOrder_47 ?_
                      refine q_iconst hF dX8_readsOrder_48 ?_
                      refine q_iand hF (c0 := 0) (by decide) dX8_readsOrder_49 ?_
                      refine q_iconst hF dX8_readsOrder_50 ?_
                      refine q_icmpne hF (by decide) (by decide) dX8_readsOrder_51 (fun c51v335 => ?_) (fun c51v335 => ?_)
                      · refine q_aload_n hF 5 rfl rfl dX8_readsOrder_61 ?_
                        refine q_callV (kc := 0) (ks := 0) (mc' := 0) (ms' := 0) (h' := 0) (st := []) hF vl_RX8_95 rfl [] rfl rfl hS.t0 (by omega) (Nat.le_of_ble_eq_true rfl) dX8_readsOrder_62 ?_
                        refine mX8_fineA hS hfl ?_
                        refine q_ifne hF (by decide) dX8_readsOrder_65 (fun c65v337 => ?_) (fun c65v337 => ?_)
                        · refine q_iload_n hF 4 rfl rfl dX8_readsOrder_69 ?_
                          refine q_iconst hF dX8_readsOrder_70 ?_
                          refine q_iload hF 0 rfl dX8_readsOrder_71 ?_
                          refine q_ishl hF (c0 := 1) (by decide) dX8_readsOrder_73 ?_
                          refine q_ior hF (c0 := 5) (by decide) dX8_readsOrder_74 ?_
                          refine q_istore_n hF (ls' := [(2, qI 5), (5, qI 0), (4, qI ((g_sk B n (g_len 34 + q) : Nat) : Int)), (3, qI (q_b (97 ≤ (g_bt B n (g_sk B n (g_len 34 + q))) ∧ (g_bt B n (g_sk B n (g_len 34 + q))) ≤ 122))), (1, qI 1), (0, .ref m)]) rfl (by decide) rfl dX8_readsOrder_75 ?_
                          refine q_aload_n hF 5 rfl rfl dX8_readsOrder_76 ?_
                          refine q_getA hF fl_RX8_24 rfl hS.t0 hS.p10 dX8_readsOrder_77 ?_
                          refine q_bipush hF (n := 9) rfl dX8_readsOrder_80 ?_
                          refine q_iload_n hF 4 rfl rfl dX8_readsOrder_82 ?_
                          refine q_iadd hF dX8_readsOrder_83 ?_
                          refine q_iload hF 1 rfl dX8_readsOrder_84 ?_
                          refine q_i2l hF (by decide) dX8_readsOrder_86 ?_
                          refine q_lastorev hF (n := 1243) 10 hS.t4 (q_Ale hSA (by omega)) (by omega) (by omega) (by decide) dX8_readsOrder_87 ?_
                          rw [q_row_u]
                          refine q_iinc hF (z' := 2) (ls' := [(1, qI 2), (2, qI 5), (5, qI 0), (4, qI ((g_sk B n (g_len 34 + q) : Nat) : Int)), (3, qI (q_b (97 ≤ (g_bt B n (g_sk B n (g_len 34 + q))) ∧ (g_bt B n (g_sk B n (g_len 34 + q))) ≤ 122))), (0, .ref m)]) 4 rfl (by first | rfl | omega) (by decide) rfl dX8_readsOrder_88 ?_
                          refine q_aload_n hF 5 rfl rfl dX8_readsOrder_91 ?_
                          refine q_callV (kc := 0) (ks := 0) (mc' := 0) (ms' := 0) (h' := 1) (st := []) hF vl_RX8_78 rfl [] rfl rfl hS.t0 (by omega) (Nat.le_of_ble_eq_true rfl) dX8_readsOrder_92 ?_
                          refine mX8_herePQ (B := B) (n := n) hS hSA hB (show (g_len 32 + (g_sk B n (g_len 34 + q))) ≤ n by omega) rfl ?_
                          show qX G F Q 0 0 95 [(1, qI 2), (2, qI 5), (5, qI 0), (4, qI ((g_sk B n (g_len 34 + q) : Nat) : Int)), (3, qI (q_b (97 ≤ (g_bt B n (g_sk B n (g_len 34 + q))) ∧ (g_bt B n (g_sk B n (g_len 34 + q))) ≤ 122))), (0, .ref m)] [qI (g_bt B n (g_sk B n (g_len 32 + (g_sk B n (g_len 34 + q)))))] sz T (q_ps I m (g_mk (g_sk B n (g_len 32 + (g_sk B n (g_len 34 + q)))) s.fl s.fa s.cd s.op s.on s.hp)) (q_row L (m + 4) (g_up (g_up t 9 2) 10 0)) P
                          refine q_callS (kc := 0) (ks := 0) (mc' := 0) (ms' := 0) (h' := 0) (st := []) hF sl_RX8_91 rfl [qI (g_bt B n (g_sk B n (g_len 32 + (g_sk B n (g_len 34 + q)))))] rfl rfl (by omega) (Nat.le_of_ble_eq_true rfl) dX8_readsOrder_95 ?_
                          refine mX8_isSmall (g_bt_32 hB _) ?_
                          refine q_istore_n hF (ls' := [(3, qI (q_b (97 ≤ (g_bt B n (g_sk B n (g_len 32 + (g_sk B n (g_len 34 + q))))) ∧ (g_bt B n (g_sk B n (g_len 32 + (g_sk B n (g_len 34 + q))))) ≤ 122))), (1, qI 2), (2, qI 5), (5, qI 0), (4, qI ((g_sk B n (g_len 34 + q) : Nat) : Int)), (0, .ref m)]) rfl (by decide) rfl dX8_readsOrder_98 ?_
                          refine q_goto hF dX8_readsOrder_99 ?_
                          refine q_iload_n hF 0 rfl rfl dX8_readsOrder_6 ?_
                          refine q_ifeq_b hF dX8_readsOrder_7 (fun c7v340 => ?_) (fun c7v340 => ?_)
                          · refine q_aload_n hF 5 rfl rfl dX8_readsOrder_102 ?_
                            refine q_getA hF fl_RX8_24 rfl hS.t0 hS.p10 dX8_readsOrder_103 ?_
                            refine q_bipush hF (n := 8) rfl dX8_readsOrder_106 ?_
                            refine q_iload_n hF 1 rfl rfl dX8_readsOrder_108 ?_
                            refine q_i2l hF (by decide) dX8_readsOrder_109 ?_
                            refine q_lastorev hF (n := 1243) 8 hS.t4 (q_Ale hSA (by omega)) rfl (by decide) (by decide) dX8_readsOrder_110 ?_
                            rw [q_row_u]
                            refine q_return hF rfl dX8_readsOrder_111 ?_
                            exact k0 _ _ (by rw [← hx2, g_rdOrder, g_rdO, if_neg c32_0_3, if_neg c32_1_3, if_pos c32_2_3, g_rdO1, if_neg (by decide), if_pos c7v327, g_rdO, if_pos c32_0_331, g_rdO1, if_neg (by decide), if_neg c7v340]; try rfl)
                          · refine q_aload_n hF 5 rfl rfl dX8_readsOrder_10 ?_
                            refine q_callV (kc := 0) (ks := 0) (mc' := 0) (ms' := 0) (h' := 0) (st := []) hF vl_RX8_95 rfl [] rfl rfl hS.t0 (by omega) (Nat.le_of_ble_eq_true rfl) dX8_readsOrder_11 ?_
                            refine mX8_fineA hS hfl ?_
                            refine q_ifeq hF (by decide) dX8_readsOrder_14 (fun c14v342 => ?_) (fun c14v342 => ?_)
                            · exact absurd c14v342 (by decide)
                            · skip
                              refine q_aload_n hF 5 rfl rfl dX8_readsOrder_17 ?_
                              refine q_callV (kc := 0) (ks := 0) (mc' := 0) (ms' := 0) (h' := 1) (st := []) hF vl_RX8_78 rfl [] rfl rfl hS.t0 (by omega) (Nat.le_of_ble_eq_true rfl) dX8_readsOrder_18 ?_
                              refine mX8_herePQ (B := B) (n := n) hS hSA hB (show (g_sk B n (g_len 32 + (g_sk B n (g_len 34 + q)))) ≤ n by omega) (g_sk_sk (by omega)) ?_
                              show qX G F Q 0 0 21 [(3, qI (q_b (97 ≤ (g_bt B n (g_sk B n (g_len 32 + (g_sk B n (g_len 34 + q))))) ∧ (g_bt B n (g_sk B n (g_len 32 + (g_sk B n (g_len 34 + q))))) ≤ 122))), (1, qI 2), (2, qI 5), (5, qI 0), (4, qI ((g_sk B n (g_len 34 + q) : Nat) : Int)), (0, .ref m)] [qI (g_bt B n (g_sk B n (g_len 32 + (g_sk B n (g_len 34 + q)))))] sz T (q_ps I m (g_mk (g_sk B n (g_len 32 + (g_sk B n (g_len 34 + q)))) s.fl s.fa s.cd s.op s.on s.hp)) (q_row L (m + 4) (g_up (g_up t 9 2) 10 0)) P
                              refine q_pop hF rfl dX8_readsOrder_21 ?_
                              refine q_aload_n hF 5 rfl rfl dX8_readsOrder_22 ?_
                              refine q_getIv hF (z := ((g_sk B n (g_len 32 + (g_sk B n (g_len 34 + q))) : Nat) : Int)) fl_RX8_65 hS.t0 q_ps_4 dX8_readsOrder_23 ?_
                              refine q_istore hF (ls' := [(4, qI ((g_sk B n (g_len 32 + (g_sk B n (g_len 34 + q))) : Nat) : Int)), (3, qI (q_b (97 ≤ (g_bt B n (g_sk B n (g_len 32 + (g_sk B n (g_len 34 + q))))) ∧ (g_bt B n (g_sk B n (g_len 32 + (g_sk B n (g_len 34 + q))))) ≤ 122))), (1, qI 2), (2, qI 5), (5, qI 0), (0, .ref m)]) (by decide) rfl dX8_readsOrder_26 ?_
                              refine q_aload_n hF 5 rfl rfl dX8_readsOrder_28 ?_
                              refine q_iconst hF dX8_readsOrder_29 ?_
                              refine q_bipush hF (n := 7) rfl dX8_readsOrder_30 ?_
                              refine q_callV (kc := 0) (ks := 0) (mc' := 0) (ms' := 0) (h' := 6) (st := []) hF vl_RX8_220 rfl [qI 5, qI 7] rfl rfl hS.t0 (by omega) (Nat.le_of_ble_eq_true rfl) dX8_readsOrder_32 ?_
                              refine mX8_one5 hS hSA hB (show (g_sk B n (g_len 32 + (g_sk B n (g_len 34 + q)))) ≤ n by omega) hfl (g_sk_sk (by omega)) (fun (c32_0_344 : g_isW B n 32 (g_sk B n (g_len 32 + (g_sk B n (g_len 34 + q))))) => ?_) (fun (c32_0_344 : ¬ (g_isW B n 32 (g_sk B n (g_len 32 + (g_sk B n (g_len 34 + q)))))) (c32_1_344 : g_isW B n 33 (g_sk B n (g_len 32 + (g_sk B n (g_len 34 + q))))) => ?_) (fun (c32_0_344 : ¬ (g_isW B n 32 (g_sk B n (g_len 32 + (g_sk B n (g_len 34 + q)))))) (c32_1_344 : ¬ (g_isW B n 33 (g_sk B n (g_len 32 + (g_sk B n (g_len 34 + q)))))) (c32_2_344 : g_isW B n 34 (g_sk B n (g_len 32 + (g_sk B n (g_len 34 + q))))) => ?_) (fun (c32_0_344 : ¬ (g_isW B n 32 (g_sk B n (g_len 32 + (g_sk B n (g_len 34 + q)))))) (c32_1_344 : ¬ (g_isW B n 33 (g_sk B n (g_len 32 + (g_sk B n (g_len 34 + q)))))) (c32_2_344 : ¬ (g_isW B n 34 (g_sk B n (g_len 32 + (g_sk B n (g_len 34 + q)))))) => ?_)
                              · show qX G F Q 0 0 35 [(4, qI ((g_sk B n (g_len 32 + (g_sk B n (g_len 34 + q))) : Nat) : Int)), (3, qI (q_b (97 ≤ (g_bt B n (g_sk B n (g_len 32 + (g_sk B n (g_len 34 + q))))) ∧ (g_bt B n (g_sk B n (g_len 32 + (g_sk B n (g_len 34 + q))))) ≤ 122))), (1, qI 2), (2, qI 5), (5, qI 0), (0, .ref m)] [qI 0] sz T (q_ps I m (g_mk (g_len 32 + (g_sk B n (g_len 32 + (g_sk B n (g_len 34 + q))))) s.fl s.fa s.cd s.op s.on s.hp)) (q_row L (m + 4) (g_up (g_up t 9 2) 10 0)) P
                                refine q_istore hF (ls' := [(5, qI 0), (4, qI ((g_sk B n (g_len 32 + (g_sk B n (g_len 34 + q))) : Nat) : Int)), (3, qI (q_b (97 ≤ (g_bt B n (g_sk B n (g_len 32 + (g_sk B n (g_len 34 + q))))) ∧ (g_bt B n (g_sk B n (g_len 32 + (g_sk B n (g_len 34 + q))))) ≤ 122))), (1, qI 2), (2, qI 5), (0, .ref m)]) (by decide) rfl dX8_readsOrder_35 ?_
                                have hwl345 := g_words_ok 32 (by decide)
                                have hwn345 := g_isW_n (g_words_ok 32 (by decide)) (fun k hk => by have := g_ch_r (i := 32) (by decide) hk; omega) c32_0_344
                                have hsr345 := g_sk_r (B := B) (n := n) (k := g_len 32 + (g_sk B n (g_len 32 + (g_sk B n (g_len 34 + q))))) (by omega)
                                refine q_aload_n hF 5 rfl rfl dX8_readsOrder_37 ?_
                                refine q_callV (kc := 0) (ks := 0) (mc' := 0) (ms' := 0) (h' := 0) (st := []) hF vl_RX8_95 rfl [] rfl rfl hS.t0 (by omega) (Nat.le_of_ble_eq_true rfl) dX8_readsOrder_38 ?_
                                refine mX8_fineA hS hfl ?_
                                refine q_ifeq hF (by decide) dX8_readsOrder_41 (fun c41v347 => ?_) (fun c41v347 => ?_)
                                · exact absurd c41v347 (by decide)
                                · refine q_iload_n hF 4 rfl rfl dX8_readsOrder_44 ?_
                                  refine q_iload hF 0 rfl dX8_readsOrder_45 ?_
                                  refine q_ishr hF (c0 := 5) (by decide) dX8_readsOrder_47 ?_
                                  refine q_iconst hF dX8_readsOrder_48 ?_
                                  refine q_iand hF (c0 := 1) (by decide) dX8_readsOrder_49 ?_
                                  refine q_iconst hF dX8_readsOrder_50 ?_
                                  refine q_icmpne hF (by decide) (by decide) dX8_readsOrder_51 (fun c51v348 => ?_) (fun c51v348 => ?_)
                                  · exact absurd c51v348 (by decide)
                                  · refine q_aload_n hF 5 rfl rfl dX8_readsOrder_54 ?_
                                    refine q_iconst hF dX8_readsOrder_55 ?_
                                    refine q_iload hF 1 rfl dX8_readsOrder_56 ?_
                                    refine q_callV (kc := 0) (ks := 0) (mc' := 0) (ms' := 0) (h' := 0) (st := []) hF vl_RX8_106 rfl [qI 1, qI ((g_sk B n (g_len 32 + (g_sk B n (g_len 34 + q))) : Nat) : Int)] rfl rfl hS.t0 (by omega) (Nat.le_of_ble_eq_true rfl) dX8_readsOrder_58 ?_
                                    refine mX8_wrongA hS hSA hfl ?_
                                    show qX G F Q 0 0 61 [(5, qI 0), (4, qI ((g_sk B n (g_len 32 + (g_sk B n (g_len 34 + q))) : Nat) : Int)), (3, qI (q_b (97 ≤ (g_bt B n (g_sk B n (g_len 32 + (g_sk B n (g_len 34 + q))))) ∧ (g_bt B n (g_sk B n (g_len 32 + (g_sk B n (g_len 34 + q))))) ≤ 122))), (1, qI 2), (2, qI 5), (0, .ref m)] [] sz T (q_ps I m (g_mk (g_len 32 + (g_sk B n (g_len 32 + (g_sk B n (g_len 34 + q))))) 1 ((g_sk B n (g_len 32 + (g_sk B n (g_len 34 + q))) : Nat) : Int) s.cd s.op s.on s.hp)) (q_row L (m + 4) (g_up (g_up t 9 2) 10 0)) P
                                    refine q_aload_n hF 5 rfl rfl dX8_readsOrder_61 ?_
                                    refine q_callV (kc := 0) (ks := 0) (mc' := 0) (ms' := 0) (h' := 0) (st := []) hF vl_RX8_95 rfl [] rfl rfl hS.t0 (by omega) (Nat.le_of_ble_eq_true rfl) dX8_readsOrder_62 ?_
                                    refine mX8_fine0 hS (show (1 : Int) ≠ 0 by decide) (show -2147483648 ≤ 1 ∧ 1 < 2147483648 by first | decide | omega | assumption) ?_
                                    refine q_ifne hF (by decide) dX8_readsOrder_65 (fun c65v351 => ?_) (fun c65v351 => ?_)
                                    · exact absurd c65v351 (by decide)
                                    · refine q_return hF rfl dX8_readsOrder_68 ?_
                                      show Q (.inl none) sz T (q_ps I m (g_mk (g_len 32 + (g_sk B n (g_len 32 + (g_sk B n (g_len 34 + q))))) 1 ((g_sk B n (g_len 32 + (g_sk B n (g_len 34 + q))) : Nat) : Int) s.cd s.op s.on s.hp)) (q_row L (m + 4) (g_up (g_up t 9 2) 10 0)) P
                                      exact k1 1 (g_sk B n (g_len 32 + (g_sk B n (g_len 34 + q)))) _ _ (by rw [← hx2, g_rdOrder, g_rdO, if_neg c32_0_3, if_neg c32_1_3, if_pos c32_2_3, g_rdO1, if_neg (by decide), if_pos c7v327, g_rdO, if_pos c32_0_331, g_rdO1, if_neg (by decide), if_pos c7v340, g_rdO, if_pos c32_0_344, g_rdO1, if_pos (by decide)]) (by decide) rfl rfl (show g_len 32 + (g_sk B n (g_len 32 + (g_sk B n (g_len 34 + q)))) ≤ n by omega)
                              · show qX G F Q 0 0 35 [(4, qI ((g_sk B n (g_len 32 + (g_sk B n (g_len 34 + q))) : Nat) : Int)), (3, qI (q_b (97 ≤ (g_bt B n (g_sk B n (g_len 32 + (g_sk B n (g_len 34 + q))))) ∧ (g_bt B n (g_sk B n (g_len 32 + (g_sk B n (g_len 34 + q))))) ≤ 122))), (1, qI 2), (2, qI 5), (5, qI 0), (0, .ref m)] [qI 1] sz T (q_ps I m (g_mk (g_len 33 + (g_sk B n (g_len 32 + (g_sk B n (g_len 34 + q))))) s.fl s.fa s.cd s.op s.on s.hp)) (q_row L (m + 4) (g_up (g_up t 9 2) 10 0)) P
                                refine q_istore hF (ls' := [(5, qI 1), (4, qI ((g_sk B n (g_len 32 + (g_sk B n (g_len 34 + q))) : Nat) : Int)), (3, qI (q_b (97 ≤ (g_bt B n (g_sk B n (g_len 32 + (g_sk B n (g_len 34 + q))))) ∧ (g_bt B n (g_sk B n (g_len 32 + (g_sk B n (g_len 34 + q))))) ≤ 122))), (1, qI 2), (2, qI 5), (0, .ref m)]) (by decide) rfl dX8_readsOrder_35 ?_
                                have hwl352 := g_words_ok 33 (by decide)
                                have hwn352 := g_isW_n (g_words_ok 33 (by decide)) (fun k hk => by have := g_ch_r (i := 33) (by decide) hk; omega) c32_1_344
                                have hsr352 := g_sk_r (B := B) (n := n) (k := g_len 33 + (g_sk B n (g_len 32 + (g_sk B n (g_len 34 + q))))) (by omega)
                                refine q_aload_n hF 5 rfl rfl dX8_readsOrder_37 ?_
                                refine q_callV (kc := 0) (ks := 0) (mc' := 0) (ms' := 0) (h' := 0) (st := []) hF vl_RX8_95 rfl [] rfl rfl hS.t0 (by omega) (Nat.le_of_ble_eq_true rfl) dX8_readsOrder_38 ?_
                                refine mX8_fineA hS hfl ?_
                                refine q_ifeq hF (by decide) dX8_readsOrder_41 (fun c41v354 => ?_) (fun c41v354 => ?_)
                                · exact absurd c41v354 (by decide)
                                · refine q_iload_n hF 4 rfl rfl dX8_readsOrder_44 ?_
                                  refine q_iload hF 0 rfl dX8_readsOrder_45 ?_
                                  refine q_ishr hF (c0 := 2) (by decide) dX8_readsOrder_47 ?_
                                  refine q_iconst hF dX8_readsOrder_48 ?_
                                  refine q_iand hF (c0 := 0) (by decide) dX8_readsOrder_49 ?_
                                  refine q_iconst hF dX8_readsOrder_50 ?_
                                  refine q_icmpne hF (by decide) (by decide) dX8_readsOrder_51 (fun c51v355 => ?_) (fun c51v355 => ?_)
                                  · refine q_aload_n hF 5 rfl rfl dX8_readsOrder_61 ?_
                                    refine q_callV (kc := 0) (ks := 0) (mc' := 0) (ms' := 0) (h' := 0) (st := []) hF vl_RX8_95 rfl [] rfl rfl hS.t0 (by omega) (Nat.le_of_ble_eq_true rfl) dX8_readsOrder_62 ?_
                                    refine mX8_fineA hS hfl ?_
                                    refine q_ifne hF (by decide) dX8_readsOrder_65 (fun c65v357 => ?_) (fun c65v357 => ?_)
                                    · refine q_iload_n hF 4 rfl rfl dX8_readsOrder_69 ?_
                                      refine q_iconst hF dX8_readsOrder_70 ?_
                                      refine q_iload hF 0 rfl dX8_readsOrder_71 ?_
                                      refine q_ishl hF (c0 := 2) (by decide) dX8_readsOrder_73 ?_
                                      refine q_ior hF (c0 := 7) (by decide) dX8_readsOrder_74 ?_
                                      refine q_istore_n hF (ls' := [(2, qI 7), (5, qI 1), (4, qI ((g_sk B n (g_len 32 + (g_sk B n (g_len 34 + q))) : Nat) : Int)), (3, qI (q_b (97 ≤ (g_bt B n (g_sk B n (g_len 32 + (g_sk B n (g_len 34 + q))))) ∧ (g_bt B n (g_sk B n (g_len 32 + (g_sk B n (g_len 34 + q))))) ≤ 122))), (1, qI 2), (0, .ref m)]) rfl (by decide) rfl dX8_readsOrder_75 ?_
                                      refine q_aload_n hF 5 rfl rfl dX8_readsOrder_76 ?_
                                      refine q_getA hF fl_RX8_24 rfl hS.t0 hS.p10 dX8_readsOrder_77 ?_
                                      refine q_bipush hF (n := 9) rfl dX8_readsOrder_80 ?_
                                      refine q_iload_n hF 4 rfl rfl dX8_readsOrder_82 ?_
                                      refine q_iadd hF dX8_readsOrder_83 ?_
                                      refine q_iload hF 1 rfl dX8_readsOrder_84 ?_
                                      refine q_i2l hF (by decide) dX8_readsOrder_86 ?_
                                      refine q_lastorev hF (n := 1243) 11 hS.t4 (q_Ale hSA (by omega)) (by omega) (by omega) (by decide) dX8_readsOrder_87 ?_
                                      rw [q_row_u]
                                      refine q_iinc hF (z' := 3) (ls' := [(1, qI 3), (2, qI 7), (5, qI 1), (4, qI ((g_sk B n (g_len 32 + (g_sk B n (g_len 34 + q))) : Nat) : Int)), (3, qI (q_b (97 ≤ (g_bt B n (g_sk B n (g_len 32 + (g_sk B n (g_len 34 + q))))) ∧ (g_bt B n (g_sk B n (g_len 32 + (g_sk B n (g_len 34 + q))))) ≤ 122))), (0, .ref m)]) 4 rfl (by first | rfl | omega) (by decide) rfl dX8_readsOrder_88 ?_
                                      refine q_aload_n hF 5 rfl rfl dX8_readsOrder_91 ?_
                                      refine q_callV (kc := 0) (ks := 0) (mc' := 0) (ms' := 0) (h' := 1) (st := []) hF vl_RX8_78 rfl [] rfl rfl hS.t0 (by omega) (Nat.le_of_ble_eq_true rfl) dX8_readsOrder_92 ?_
                                      refine mX8_herePQ (B := B) (n := n) hS hSA hB (show (g_len 33 + (g_sk B n (g_len 32 + (g_sk B n (g_len 34 + q))))) ≤ n by omega) rfl ?_
                                      show qX G F Q 0 0 95 [(1, qI 3), (2, qI 7), (5, qI 1), (4, qI ((g_sk B n (g_len 32 + (g_sk B n (g_len 34 + q))) : Nat) : Int)), (3, qI (q_b (97 ≤ (g_bt B n (g_sk B n (g_len 32 + (g_sk B n (g_len 34 + q))))) ∧ (g_bt B n (g_sk B n (g_len 32 + (g_sk B n (g_len 34 + q))))) ≤ 122))), (0, .ref m)] [qI (g_bt B n (g_sk B n (g_len 33 + (g_sk B n (g_len 32 + (g_sk B n (g_len 34 + q)))))))] sz T (q_ps I m (g_mk (g_sk B n (g_len 33 + (g_sk B n (g_len 32 + (g_sk B n (g_len 34 + q)))))) s.fl s.fa s.cd s.op s.on s.hp)) (q_row L (m + 4) (g_up (g_up (g_up t 9 2) 10 0) 11 1)) P
                                      refine q_callS (kc := 0) (ks := 0) (mc' := 0) (ms' := 0) (h' := 0) (st := []) hF sl_RX8_91 rfl [qI (g_bt B n (g_sk B n (g_len 33 + (g_sk B n (g_len 32 + (g_sk B n (g_len 34 + q)))))))] rfl rfl (by omega) (Nat.le_of_ble_eq_true rfl) dX8_readsOrder_95 ?_
                                      refine mX8_isSmall (g_bt_32 hB _) ?_
                                      refine q_istore_n hF (ls' := [(3, qI (q_b (97 ≤ (g_bt B n (g_sk B n (g_len 33 + (g_sk B n (g_len 32 + (g_sk B n (g_len 34 + q))))))) ∧ (g_bt B n (g_sk B n (g_len 33 + (g_sk B n (g_len 32 + (g_sk B n (g_len 34 + q))))))) ≤ 122))), (1, qI 3), (2, qI 7), (5, qI 1), (4, qI ((g_sk B n (g_len 32 + (g_sk B n (g_len 34 + q))) : Nat) : Int)), (0, .ref m)]) rfl (by decide) rfl dX8_readsOrder_98 ?_
                                      refine q_goto hF dX8_readsOrder_99 ?_
                                      refine q_iload_n hF 0 rfl rfl dX8_readsOrder_6 ?_
                                      refine q_ifeq_b hF dX8_readsOrder_7 (fun c7v360 => ?_) (fun c7v360 => ?_)
                                      · refine q_aload_n hF 5 rfl rfl dX8_readsOrder_102 ?_
                                        refine q_getA hF fl_RX8_24 rfl hS.t0 hS.p10 dX8_readsOrder_103 ?_
                                        refine q_bipush hF (n := 8) rfl dX8_readsOrder_106 ?_
                                        refine q_iload_n hF 1 rfl rfl dX8_readsOrder_108 ?_
                                        refine q_i2l hF (by decide) dX8_readsOrder_109 ?_
                                        refine q_lastorev hF (n := 1243) 8 hS.t4 (q_Ale hSA (by omega)) rfl (by decide) (by decide) dX8_readsOrder_110 ?_
                                        rw [q_row_u]
                                        refine q_return hF rfl dX8_readsOrder_111 ?_
                                        exact k0 _ _ (by rw [← hx2, g_rdOrder, g_rdO, if_neg c32_0_3, if_neg c32_1_3, if_pos c32_2_3, g_rdO1, if_neg (by decide), if_pos c7v327, g_rdO, if_pos c32_0_331, g_rdO1, if_neg (by decide), if_pos c7v340, g_rdO, if_neg c32_0_344, if_pos c32_1_344, g_rdO1, if_neg (by decide), if_neg c7v360]; try rfl)
                                      · refine q_aload_n hF 5 rfl rfl dX8_readsOrder_10 ?_
                                        refine q_callV (kc := 0) (ks := 0) (mc' := 0) (ms' := 0) (h' := 0) (st := []) hF vl_RX8_95 rfl [] rfl rfl hS.t0 (by omega) (Nat.le_of_ble_eq_true rfl) dX8_readsOrder_11 ?_
                                        refine mX8_fineA hS hfl ?_
                                        refine q_ifeq hF (by decide) dX8_readsOrder_14 (fun c14v362 => ?_) (fun c14v362 => ?_)
                                        · exact absurd c14v362 (by decide)
                                        · skip
                                          refine q_aload_n hF 5 rfl rfl dX8_readsOrder_17 ?_
                                          refine q_callV (kc := 0) (ks := 0) (mc' := 0) (ms' := 0) (h' := 1) (st := []) hF vl_RX8_78 rfl [] rfl rfl hS.t0 (by omega) (Nat.le_of_ble_eq_true rfl) dX8_readsOrder_18 ?_
                                          refine mX8_herePQ (B := B) (n := n) hS hSA hB (show (g_sk B n (g_len 33 + (g_sk B n (g_len 32 + (g_sk B n (g_len 34 + q)))))) ≤ n by omega) (g_sk_sk (by omega)) ?_
                                          show qX G F Q 0 0 21 [(3, qI (q_b (97 ≤ (g_bt B n (g_sk B n (g_len 33 + (g_sk B n (g_len 32 + (g_sk B n (g_len 34 + q))))))) ∧ (g_bt B n (g_sk B n (g_len 33 + (g_sk B n (g_len 32 + (g_sk B n (g_len 34 + q))))))) ≤ 122))), (1, qI 3), (2, qI 7), (5, qI 1), (4, qI ((g_sk B n (g_len 32 + (g_sk B n (g_len 34 + q))) : Nat) : Int)), (0, .ref m)] [qI (g_bt B n (g_sk B n (g_len 33 + (g_sk B n (g_len 32 + (g_sk B n (g_len 34 + q)))))))] sz T (q_ps I m (g_mk (g_sk B n (g_len 33 + (g_sk B n (g_len 32 + (g_sk B n (g_len 34 + q)))))) s.fl s.fa s.cd s.op s.on s.hp)) (q_row L (m + 4) (g_up (g_up (g_up t 9 2) 10 0) 11 1)) P
                                          refine q_pop hF rfl dX8_readsOrder_21 ?_
                                          refine q_aload_n hF 5 rfl rfl dX8_readsOrder_22 ?_
                                          refine q_getIv hF (z := ((g_sk B n (g_len 33 + (g_sk B n (g_len 32 + (g_sk B n (g_len 34 + q))))) : Nat) : Int)) fl_RX8_65 hS.t0 q_ps_4 dX8_readsOrder_23 ?_
                                          refine q_istore hF (ls' := [(4, qI ((g_sk B n (g_len 33 + (g_sk B n (g_len 32 + (g_sk B n (g_len 34 + q))))) : Nat) : Int)), (3, qI (q_b (97 ≤ (g_bt B n (g_sk B n (g_len 33 + (g_sk B n (g_len 32 + (g_sk B n (g_len 34 + q))))))) ∧ (g_bt B n (g_sk B n (g_len 33 + (g_sk B n (g_len 32 + (g_sk B n (g_len 34 + q))))))) ≤ 122))), (1, qI 3), (2, qI 7), (5, qI 1), (0, .ref m)]) (by decide) rfl dX8_readsOrder_26 ?_
                                          refine q_aload_n hF 5 rfl rfl dX8_readsOrder_28 ?_
                                          refine q_iconst hF dX8_readsOrder_29 ?_
                                          refine q_bipush hF (n := 7) rfl dX8_readsOrder_30 ?_
                                          refine q_callV (kc := 0) (ks := 0) (mc' := 0) (ms' := 0) (h' := 6) (st := []) hF vl_RX8_220 rfl [qI 5, qI 7] rfl rfl hS.t0 (by omega) (Nat.le_of_ble_eq_true rfl) dX8_readsOrder_32 ?_
                                          refine mX8_one5 hS hSA hB (show (g_sk B n (g_len 33 + (g_sk B n (g_len 32 + (g_sk B n (g_len 34 + q)))))) ≤ n by omega) hfl (g_sk_sk (by omega)) (fun (c32_0_364 : g_isW B n 32 (g_sk B n (g_len 33 + (g_sk B n (g_len 32 + (g_sk B n (g_len 34 + q))))))) => ?_) (fun (c32_0_364 : ¬ (g_isW B n 32 (g_sk B n (g_len 33 + (g_sk B n (g_len 32 + (g_sk B n (g_len 34 + q)))))))) (c32_1_364 : g_isW B n 33 (g_sk B n (g_len 33 + (g_sk B n (g_len 32 + (g_sk B n (g_len 34 + q))))))) => ?_) (fun (c32_0_364 : ¬ (g_isW B n 32 (g_sk B n (g_len 33 + (g_sk B n (g_len 32 + (g_sk B n (g_len 34 + q)))))))) (c32_1_364 : ¬ (g_isW B n 33 (g_sk B n (g_len 33 + (g_sk B n (g_len 32 + (g_sk B n (g_len 34 + q)))))))) (c32_2_364 : g_isW B n 34 (g_sk B n (g_len 33 + (g_sk B n (g_len 32 + (g_sk B n (g_len 34 + q))))))) => ?_) (fun (c32_0_364 : ¬ (g_isW B n 32 (g_sk B n (g_len 33 + (g_sk B n (g_len 32 + (g_sk B n (g_len 34 + q)))))))) (c32_1_364 : ¬ (g_isW B n 33 (g_sk B n (g_len 33 + (g_sk B n (g_len 32 + (g_sk B n (g_len 34 + q)))))))) (c32_2_364 : ¬ (g_isW B n 34 (g_sk B n (g_len 33 + (g_sk B n (g_len 32 + (g_sk B n (g_len 34 + q)))))))) => ?_)
                                          · show qX G F Q 0 0 35 [(4, qI ((g_sk B n (g_len 33 + (g_sk B n (g_len 32 + (g_sk B n (g_len 34 + q))))) : Nat) : Int)), (3, qI (q_b (97 ≤ (g_bt B n (g_sk B n (g_len 33 + (g_sk B n (g_len 32 + (g_sk B n (g_len 34 + q))))))) ∧ (g_bt B n (g_sk B n (g_len 33 + (g_sk B n (g_len 32 + (g_sk B n (g_len 34 + q))))))) ≤ 122))), (1, qI 3), (2, qI 7), (5, qI 1), (0, .ref m)] [qI 0] sz T (q_ps I m (g_mk (g_len 32 + (g_sk B n (g_len 33 + (g_sk B n (g_len 32 + (g_sk B n (g_len 34 + q))))))) s.fl s.fa s.cd s.op s.on s.hp)) (q_row L (m + 4) (g_up (g_up (g_up t 9 2) 10 0) 11 1)) P
                                            refine q_istore hF (ls' := [(5, qI 0), (4, qI ((g_sk B n (g_len 33 + (g_sk B n (g_len 32 + (g_sk B n (g_len 34 + q))))) : Nat) : Int)), (3, qI (q_b (97 ≤ (g_bt B n (g_sk B n (g_len 33 + (g_sk B n (g_len 32 + (g_sk B n (g_len 34 + q))))))) ∧ (g_bt B n (g_sk B n (g_len 33 + (g_sk B n (g_len 32 + (g_sk B n (g_len 34 + q))))))) ≤ 122))), (1, qI 3), (2, qI 7), (0, .ref m)]) (by decide) rfl dX8_readsOrder_35 ?_
                                            have hwl365 := g_words_ok 32 (by decide)
                                            have hwn365 := g_isW_n (g_words_ok 32 (by decide)) (fun k hk => by have := g_ch_r (i := 32) (by decide) hk; omega) c32_0_364
                                            have hsr365 := g_sk_r (B := B) (n := n) (k := g_len 32 + (g_sk B n (g_len 33 + (g_sk B n (g_len 32 + (g_sk B n (g_len 34 + q))))))) (by omega)
                                            refine q_aload_n hF 5 rfl rfl dX8_readsOrder_37 ?_
                                            refine q_callV (kc := 0) (ks := 0) (mc' := 0) (ms' := 0) (h' := 0) (st := []) hF vl_RX8_95 rfl [] rfl rfl hS.t0 (by omega) (Nat.le_of_ble_eq_true rfl) dX8_readsOrder_38 ?_
                                            refine mX8_fineA hS hfl ?_
                                            refine q_ifeq hF (by decide) dX8_readsOrder_41 (fun c41v367 => ?_) (fun c41v367 => ?_)
                                            · exact absurd c41v367 (by decide)
                                            · refine q_iload_n hF 4 rfl rfl dX8_readsOrder_44 ?_
                                              refine q_iload hF 0 rfl dX8_readsOrder_45 ?_
                                              refine q_ishr hF (c0 := 7) (by decide) dX8_readsOrder_47 ?_
                                              refine q_iconst hF dX8_readsOrder_48 ?_
                                              refine q_iand hF (c0 := 1) (by decide) dX8_readsOrder_49 ?_
                                              refine q_iconst hF dX8_readsOrder_50 ?_
                                              refine q_icmpne hF (by decide) (by decide) dX8_readsOrder_51 (fun c51v368 => ?_) (fun c51v368 => ?_)
                                              · exact absurd c51v368 (by decide)
                                              · refine q_aload_n hF 5 rfl rfl dX8_readsOrder_54 ?_
                                                refine q_iconst hF dX8_readsOrder_55 ?_
                                                refine q_iload hF 1 rfl dX8_readsOrder_56 ?_
                                                refine q_callV (kc := 0) (ks := 0) (mc' := 0) (ms' := 0) (h' := 0) (st := []) hF vl_RX8_106 rfl [qI 1, qI ((g_sk B n (g_len 33 + (g_sk B n (g_len 32 + (g_sk B n (g_len 34 + q))))) : Nat) : Int)] rfl rfl hS.t0 (by omega) (Nat.le_of_ble_eq_true rfl) dX8_readsOrder_58 ?_
                                                refine mX8_wrongA hS hSA hfl ?_
                                                show qX G F Q 0 0 61 [(5, qI 0), (4, qI ((g_sk B n (g_len 33 + (g_sk B n (g_len 32 + (g_sk B n (g_len 34 + q))))) : Nat) : Int)), (3, qI (q_b (97 ≤ (g_bt B n (g_sk B n (g_len 33 + (g_sk B n (g_len 32 + (g_sk B n (g_len 34 + q))))))) ∧ (g_bt B n (g_sk B n (g_len 33 + (g_sk B n (g_len 32 + (g_sk B n (g_len 34 + q))))))) ≤ 122))), (1, qI 3), (2, qI 7), (0, .ref m)] [] sz T (q_ps I m (g_mk (g_len 32 + (g_sk B n (g_len 33 + (g_sk B n (g_len 32 + (g_sk B n (g_len 34 + q))))))) 1 ((g_sk B n (g_len 33 + (g_sk B n (g_len 32 + (g_sk B n (g_len 34 + q))))) : Nat) : Int) s.cd s.op s.on s.hp)) (q_row L (m + 4) (g_up (g_up (g_up t 9 2) 10 0) 11 1)) P
                                                refine q_aload_n hF 5 rfl rfl dX8_readsOrder_61 ?_
                                                refine q_callV (kc := 0) (ks := 0) (mc' := 0) (ms' := 0) (h' := 0) (st := []) hF vl_RX8_95 rfl [] rfl rfl hS.t0 (by omega) (Nat.le_of_ble_eq_true rfl) dX8_readsOrder_62 ?_
                                                refine mX8_fine0 hS (show (1 : Int) ≠ 0 by decide) (show -2147483648 ≤ 1 ∧ 1 < 2147483648 by first | decide | omega | assumption) ?_
                                                refine q_ifne hF (by decide) dX8_readsOrder_65 (fun c65v371 => ?_) (fun c65v371 => ?_)
                                                · exact absurd c65v371 (by decide)
                                                · refine q_return hF rfl dX8_readsOrder_68 ?_
                                                  show Q (.inl none) sz T (q_ps I m (g_mk (g_len 32 + (g_sk B n (g_len 33 + (g_sk B n (g_len 32 + (g_sk B n (g_len 34 + q))))))) 1 ((g_sk B n (g_len 33 + (g_sk B n (g_len 32 + (g_sk B n (g_len 34 + q))))) : Nat) : Int) s.cd s.op s.on s.hp)) (q_row L (m + 4) (g_up (g_up (g_up t 9 2) 10 0) 11 1)) P
                                                  exact k1 1 (g_sk B n (g_len 33 + (g_sk B n (g_len 32 + (g_sk B n (g_len 34 + q)))))) _ _ (by rw [← hx2, g_rdOrder, g_rdO, if_neg c32_0_3, if_neg c32_1_3, if_pos c32_2_3, g_rdO1, if_neg (by decide), if_pos c7v327, g_rdO, if_pos c32_0_331, g_rdO1, if_neg (by decide), if_pos c7v340, g_rdO, if_neg c32_0_344, if_pos c32_1_344, g_rdO1, if_neg (by decide), if_pos c7v360, g_rdO, if_pos c32_0_364, g_rdO1, if_pos (by decide)]) (by decide) rfl rfl (show g_len 32 + (g_sk B n (g_len 33 + (g_sk B n (g_len 32 + (g_sk B n (g_len 34 + q)))))) ≤ n by omega)
                                          · show qX G F Q 0 0 35 [(4, qI ((g_sk B n (g_len 33 + (g_sk B n (g_len 32 + (g_sk B n (g_len 34 + q))))) : Nat) : Int)), (3, qI (q_b (97 ≤ (g_bt B n (g_sk B n (g_len 33 + (g_sk B n (g_len 32 + (g_sk B n (g_len 34 + q))))))) ∧ (g_bt B n (g_sk B n (g_len 33 + (g_sk B n (g_len 32 + (g_sk B n (g_len 34 + q))))))) ≤ 122))), (1, qI 3), (2, qI 7), (5, qI 1), (0, .ref m)] [qI 1] sz T (q_ps I m (g_mk (g_len 33 + (g_sk B n (g_len 33 + (g_sk B n (g_len 32 + (g_sk B n (g_len 34 + q))))))) s.fl s.fa s.cd s.op s.on s.hp)) (q_row L (m + 4) (g_up (g_up (g_up t 9 2) 10 0) 11 1)) P
                                            refine q_istore hF (ls' := [(5, qI 1), (4, qI ((g_sk B n (g_len 33 + (g_sk B n (g_len 32 + (g_sk B n (g_len 34 + q))))) : Nat) : Int)), (3, qI (q_b (97 ≤ (g_bt B n (g_sk B n (g_len 33 + (g_sk B n (g_len 32 + (g_sk B n (g_len 34 + q))))))) ∧ (g_bt B n (g_sk B n (g_len 33 + (g_sk B n (g_len 32 + (g_sk B n (g_len 34 + q))))))) ≤ 122))), (1, qI 3), (2, qI 7), (0, .ref m)]) (by decide) rfl dX8_readsOrder_35 ?_
                                            have hwl372 := g_words_ok 33 (by decide)
                                            have hwn372 := g_isW_n (g_words_ok 33 (by decide)) (fun k hk => by have := g_ch_r (i := 33) (by decide) hk; omega) c32_1_364
                                            have hsr372 := g_sk_r (B := B) (n := n) (k := g_len 33 + (g_sk B n (g_len 33 + (g_sk B n (g_len 32 + (g_sk B n (g_len 34 + q))))))) (by omega)
                                            refine q_aload_n hF 5 rfl rfl dX8_readsOrder_37 ?_
                                            refine q_callV (kc := 0) (ks := 0) (mc' := 0) (ms' := 0) (h' := 0) (st := []) hF vl_RX8_95 rfl [] rfl rfl hS.t0 (by omega) (Nat.le_of_ble_eq_true rfl) dX8_readsOrder_38 ?_
                                            refine mX8_fineA hS hfl ?_
                                            refine q_ifeq hF (by decide) dX8_readsOrder_41 (fun c41v374 => ?_) (fun c41v374 => ?_)
                                            · exact absurd c41v374 (by decide)
                                            · refine q_iload_n hF 4 rfl rfl dX8_readsOrder_44 ?_
                                              refine q_iload hF 0 rfl dX8_readsOrder_45 ?_
                                              refine q_ishr hF (c0 := 3) (by decide) dX8_readsOrder_47 ?_
                                              refine q_iconst hF dX8_readsOrder_48 ?_
                                              refine q_iand hF (c0 := 1) (by decide) dX8_readsOrder_49 ?_
                                              refine q_iconst hF dX8_readsOrder_50 ?_
                                              refine q_icmpne hF (by decide) (by decide) dX8_readsOrder_51 (fun c51v375 => ?_) (fun c51v375 => ?_)
                                              · exact absurd c51v375 (by decide)
                                              · refine q_aload_n hF 5 rfl rfl dX8_readsOrder_54 ?_
                                                refine q_iconst hF dX8_readsOrder_55 ?_
                                                refine q_iload hF 1 rfl dX8_readsOrder_56 ?_
                                                refine q_callV (kc := 0) (ks := 0) (mc' := 0) (ms' := 0) (h' := 0) (st := []) hF vl_RX8_106 rfl [qI 1, qI ((g_sk B n (g_len 33 + (g_sk B n (g_len 32 + (g_sk B n (g_len 34 + q))))) : Nat) : Int)] rfl rfl hS.t0 (by omega) (Nat.le_of_ble_eq_true rfl) dX8_readsOrder_58 ?_
                                                refine mX8_wrongA hS hSA hfl ?_
                                                show qX G F Q 0 0 61 [(5, qI 1), (4, qI ((g_sk B n (g_len 33 + (g_sk B n (g_len 32 + (g_sk B n (g_len 34 + q))))) : Nat) : Int)), (3, qI (q_b (97 ≤ (g_bt B n (g_sk B n (g_len 33 + (g_sk B n (g_len 32 + (g_sk B n (g_len 34 + q))))))) ∧ (g_bt B n (g_sk B n (g_len 33 + (g_sk B n (g_len 32 + (g_sk B n (g_len 34 + q))))))) ≤ 122))), (1, qI 3), (2, qI 7), (0, .ref m)] [] sz T (q_ps I m (g_mk (g_len 33 + (g_sk B n (g_len 33 + (g_sk B n (g_len 32 + (g_sk B n (g_len 34 + q))))))) 1 ((g_sk B n (g_len 33 + (g_sk B n (g_len 32 + (g_sk B n (g_len 34 + q))))) : Nat) : Int) s.cd s.op s.on s.hp)) (q_row L (m + 4) (g_up (g_up (g_up t 9 2) 10 0) 11 1)) P
                                                refine q_aload_n hF 5 rfl rfl dX8_readsOrder_61 ?_
                                                refine q_callV (kc := 0) (ks := 0) (mc' := 0) (ms' := 0) (h' := 0) (st := []) hF vl_RX8_95 rfl [] rfl rfl hS.t0 (by omega) (Nat.le_of_ble_eq_true rfl) dX8_readsOrder_62 ?_
                                                refine mX8_fine0 hS (show (1 : Int) ≠ 0 by decide) (show -2147483648 ≤ 1 ∧ 1 < 2147483648 by first | decide | omega | assumption) ?_
                                                refine q_ifne hF (by decide) dX8_readsOrder_65 (fun c65v378 => ?_) (fun c65v378 => ?_)
                                                · exact absurd c65v378 (by decide)
                                                · refine q_return hF rfl dX8_readsOrder_68 ?_
                                                  show Q (.inl none) sz T (q_ps I m (g_mk (g_len 33 + (g_sk B n (g_len 33 + (g_sk B n (g_len 32 + (g_sk B n (g_len 34 + q))))))) 1 ((g_sk B n (g_len 33 + (g_sk B n (g_len 32 + (g_sk B n (g_len 34 + q))))) : Nat) : Int) s.cd s.op s.on s.hp)) (q_row L (m + 4) (g_up (g_up (g_up t 9 2) 10 0) 11 1)) P
                                                  exact k1 1 (g_sk B n (g_len 33 + (g_sk B n (g_len 32 + (g_sk B n (g_len 34 + q)))))) _ _ (by rw [← hx2, g_rdOrder, g_rdO, if_neg c32_0_3, if_neg c32_1_3, if_pos c32_2_3, g_rdO1, if_neg (by decide), if_pos c7v327, g_rdO, if_pos c32_0_331, g_rdO1, if_neg (by decide), if_pos c7v340, g_rdO, if_neg c32_0_344, if_pos c32_1_344, g_rdO1, if_neg (by decide), if_pos c7v360, g_rdO, if_neg c32_0_364, if_pos c32_1_364, g_rdO1, if_pos (by decide)]) (by decide) rfl rfl (show g_len 33 + (g_sk B n (g_len 33 + (g_sk B n (g_len 32 + (g_sk B n (g_len 34 + q)))))) ≤ n by omega)
                                          · show qX G F Q 0 0 35 [(4, qI ((g_sk B n (g_len 33 + (g_sk B n (g_len 32 + (g_sk B n (g_len 34 + q))))) : Nat) : Int)), (3, qI (q_b (97 ≤ (g_bt B n (g_sk B n (g_len 33 + (g_sk B n (g_len 32 + (g_sk B n (g_len 34 + q))))))) ∧ (g_bt B n (g_sk B n (g_len 33 + (g_sk B n (g_len 32 + (g_sk B n (g_len 34 + q))))))) ≤ 122))), (1, qI 3), (2, qI 7), (5, qI 1), (0, .ref m)] [qI 2] sz T (q_ps I m (g_mk (g_len 34 + (g_sk B n (g_len 33 + (g_sk B n (g_len 32 + (g_sk B n (g_len 34 + q))))))) s.fl s.fa s.cd s.op s.on s.hp)) (q_row L (m + 4) (g_up (g_up (g_up t 9 2) 10 0) 11 1)) P
                                            refine q_istore hF (ls' := [(5, qI 2), (4, qI ((g_sk B n (g_len 33 + (g_sk B n (g_len 32 + (g_sk B n (g_len 34 + q))))) : Nat) : Int)), (3, qI (q_b (97 ≤ (g_bt B n (g_sk B n (g_len 33 + (g_sk B n (g_len 32 + (g_sk B n (g_len 34 + q))))))) ∧ (g_bt B n (g_sk B n (g_len 33 + (g_sk B n (g_len 32 + (g_sk B n (g_len 34 + q))))))) ≤ 122))), (1, qI 3), (2, qI 7), (0, .ref m)]) (by decide) rfl dX8_readsOrder_35 ?_
                                            have hwl379 := g_words_ok 34 (by decide)
                                            have hwn379 := g_isW_n (g_words_ok 34 (by decide)) (fun k hk => by have := g_ch_r (i := 34) (by decide) hk; omega) c32_2_364
                                            have hsr379 := g_sk_r (B := B) (n := n) (k := g_len 34 + (g_sk B n (g_len 33 + (g_sk B n (g_len 32 + (g_sk B n (g_len 34 + q))))))) (by omega)
                                            refine q_aload_n hF 5 rfl rfl dX8_readsOrder_37 ?_
                                            refine q_callV (kc := 0) (ks := 0) (mc' := 0) (ms' := 0) (h' := 0) (st := []) hF vl_RX8_95 rfl [] rfl rfl hS.t0 (by omega) (Nat.le_of_ble_eq_true rfl) dX8_readsOrder_38 ?_
                                            refine mX8_fineA hS hfl ?_
                                            refine q_ifeq hF (by decide) dX8_readsOrder_41 (fun c41v381 => ?_) (fun c41v381 => ?_)
                                            · exact absurd c41v381 (by decide)
                                            · refine q_iload_n hF 4 rfl rfl dX8_readsOrder_44 ?_
                                              refine q_iload hF 0 rfl dX8_readsOrder_45 ?_
                                              refine q_ishr hF (c0 := 1) (by decide) dX8_readsOrder_47 ?_
                                              refine q_iconst hF dX8_readsOrder_48 ?_
                                              refine q_iand hF (c0 := 1) (by decide) dX8_readsOrder_49 ?_
                                              refine q_iconst hF dX8_readsOrder_50 ?_
                                              refine q_icmpne hF (by decide) (by decide) dX8_readsOrder_51 (fun c51v382 => ?_) (fun c51v382 => ?_)
                                              · exact absurd c51v382 (by decide)
                                              · refine q_aload_n hF 5 rfl rfl dX8_readsOrder_54 ?_
                                                refine q_iconst hF dX8_readsOrder_55 ?_
                                                refine q_iload hF 1 rfl dX8_readsOrder_56 ?_
                                                refine q_callV (kc := 0) (ks := 0) (mc' := 0) (ms' := 0) (h' := 0) (st := []) hF vl_RX8_106 rfl [qI 1, qI ((g_sk B n (g_len 33 + (g_sk B n (g_len 32 + (g_sk B n (g_len 34 + q))))) : Nat) : Int)] rfl rfl hS.t0 (by omega) (Nat.le_of_ble_eq_true rfl) dX8_readsOrder_58 ?_
                                                refine mX8_wrongA hS hSA hfl ?_
                                                show qX G F Q 0 0 61 [(5, qI 2), (4, qI ((g_sk B n (g_len 33 + (g_sk B n (g_len 32 + (g_sk B n (g_len 34 + q))))) : Nat) : Int)), (3, qI (q_b (97 ≤ (g_bt B n (g_sk B n (g_len 33 + (g_sk B n (g_len 32 + (g_sk B n (g_len 34 + q))))))) ∧ (g_bt B n (g_sk B n (g_len 33 + (g_sk B n (g_len 32 + (g_sk B n (g_len 34 + q))))))) ≤ 122))), (1, qI 3), (2, qI 7), (0, .ref m)] [] sz T (q_ps I m (g_mk (g_len 34 + (g_sk B n (g_len 33 + (g_sk B n (g_len 32 + (g_sk B n (g_len 34 + q))))))) 1 ((g_sk B n (g_len 33 + (g_sk B n (g_len 32 + (g_sk B n (g_len 34 + q))))) : Nat) : Int) s.cd s.op s.on s.hp)) (q_row L (m + 4) (g_up (g_up (g_up t 9 2) 10 0) 11 1)) P
                                                refine q_aload_n hF 5 rfl rfl dX8_readsOrder_61 ?_
                                                refine q_callV (kc := 0) (ks := 0) (mc' := 0) (ms' := 0) (h' := 0) (st := []) hF vl_RX8_95 rfl [] rfl rfl hS.t0 (by omega) (Nat.le_of_ble_eq_true rfl) dX8_readsOrder_62 ?_
                                                refine mX8_fine0 hS (show (1 : Int) ≠ 0 by decide) (show -2147483648 ≤ 1 ∧ 1 < 2147483648 by first | decide | omega | assumption) ?_
                                                refine q_ifne hF (by decide) dX8_readsOrder_65 (fun c65v385 => ?_) (fun c65v385 => ?_)
                                                · exact absurd c65v385 (by decide)
                                                · refine q_return hF rfl dX8_readsOrder_68 ?_
                                                  show Q (.inl none) sz T (q_ps I m (g_mk (g_len 34 + (g_sk B n (g_len 33 + (g_sk B n (g_len 32 + (g_sk B n (g_len 34 + q))))))) 1 ((g_sk B n (g_len 33 + (g_sk B n (g_len 32 + (g_sk B n (g_len 34 + q))))) : Nat) : Int) s.cd s.op s.on s.hp)) (q_row L (m + 4) (g_up (g_up (g_up t 9 2) 10 0) 11 1)) P
                                                  exact k1 1 (g_sk B n (g_len 33 + (g_sk B n (g_len 32 + (g_sk B n (g_len 34 + q)))))) _ _ (by rw [← hx2, g_rdOrder, g_rdO, if_neg c32_0_3, if_neg c32_1_3, if_pos c32_2_3, g_rdO1, if_neg (by decide), if_pos c7v327, g_rdO, if_pos c32_0_331, g_rdO1, if_neg (by decide), if_pos c7v340, g_rdO, if_neg c32_0_344, if_pos c32_1_344, g_rdO1, if_neg (by decide), if_pos c7v360, g_rdO, if_neg c32_0_364, if_neg c32_1_364, if_pos c32_2_364, g_rdO1, if_pos (by decide)]) (by decide) rfl rfl (show g_len 34 + (g_sk B n (g_len 33 + (g_sk B n (g_len 32 + (g_sk B n (g_len 34 + q)))))) ≤ n by omega)
                                          · show qX G F Q 0 0 35 [(4, qI ((g_sk B n (g_len 33 + (g_sk B n (g_len 32 + (g_sk B n (g_len 34 + q))))) : Nat) : Int)), (3, qI (q_b (97 ≤ (g_bt B n (g_sk B n (g_len 33 + (g_sk B n (g_len 32 + (g_sk B n (g_len 34 + q))))))) ∧ (g_bt B n (g_sk B n (g_len 33 + (g_sk B n (g_len 32 + (g_sk B n (g_len 34 + q))))))) ≤ 122))), (1, qI 3), (2, qI 7), (5, qI 1), (0, .ref m)] [qI (-1)] sz T (q_ps I m (g_mk (g_sk B n (g_len 33 + (g_sk B n (g_len 32 + (g_sk B n (g_len 34 + q)))))) 1 ((g_sk B n (g_len 33 + (g_sk B n (g_len 32 + (g_sk B n (g_len 34 + q))))) : Nat) : Int) s.cd s.op s.on s.hp)) (q_row L (m + 4) (g_up (g_up (g_up t 9 2) 10 0) 11 1)) P
                                            refine q_istore hF (ls' := [(5, qI (-1)), (4, qI ((g_sk B n (g_len 33 + (g_sk B n (g_len 32 + (g_sk B n (g_len 34 + q))))) : Nat) : Int)), (3, qI (q_b (97 ≤ (g_bt B n (g_sk B n (g_len 33 + (g_sk B n (g_len 32 + (g_sk B n (g_len 34 + q))))))) ∧ (g_bt B n (g_sk B n (g_len 33 + (g_sk B n (g_len 32 + (g_sk B n (g_len 34 + q))))))) ≤ 122))), (1, qI 3), (2, qI 7), (0, .ref m)]) (by decide) rfl dX8_readsOrder_35 ?_
                                            skip
                                            refine q_aload_n hF 5 rfl rfl dX8_readsOrder_37 ?_
                                            refine q_callV (kc := 0) (ks := 0) (mc' := 0) (ms' := 0) (h' := 0) (st := []) hF vl_RX8_95 rfl [] rfl rfl hS.t0 (by omega) (Nat.le_of_ble_eq_true rfl) dX8_readsOrder_38 ?_
                                            refine mX8_fine0 hS (show (1 : Int) ≠ 0 by decide) (show -2147483648 ≤ 1 ∧ 1 < 2147483648 by first | decide | omega | assumption) ?_
                                            refine q_ifeq hF (by decide) dX8_readsOrder_41 (fun c41v387 => ?_) (fun c41v387 => ?_)
                                            · refine q_aload_n hF 5 rfl rfl dX8_readsOrder_61 ?_
                                              refine q_callV (kc := 0) (ks := 0) (mc' := 0) (ms' := 0) (h' := 0) (st := []) hF vl_RX8_95 rfl [] rfl rfl hS.t0 (by omega) (Nat.le_of_ble_eq_true rfl) dX8_readsOrder_62 ?_
                                              refine mX8_fine0 hS (show (1 : Int) ≠ 0 by decide) (show -2147483648 ≤ 1 ∧ 1 < 2147483648 by first | decide | omega | assumption) ?_
                                              refine q_ifne hF (by decide) dX8_readsOrder_65 (fun c65v389 => ?_) (fun c65v389 => ?_)
                                              · exact absurd c65v389 (by decide)
                                              · refine q_return hF rfl dX8_readsOrder_68 ?_
                                                show Q (.inl none) sz T (q_ps I m (g_mk (g_sk B n (g_len 33 + (g_sk B n (g_len 32 + (g_sk B n (g_len 34 + q)))))) 1 ((g_sk B n (g_len 33 + (g_sk B n (g_len 32 + (g_sk B n (g_len 34 + q))))) : Nat) : Int) s.cd s.op s.on s.hp)) (q_row L (m + 4) (g_up (g_up (g_up t 9 2) 10 0) 11 1)) P
                                                exact k1 1 (g_sk B n (g_len 33 + (g_sk B n (g_len 32 + (g_sk B n (g_len 34 + q)))))) _ _ (by rw [← hx2, g_rdOrder, g_rdO, if_neg c32_0_3, if_neg c32_1_3, if_pos c32_2_3, g_rdO1, if_neg (by decide), if_pos c7v327, g_rdO, if_pos c32_0_331, g_rdO1, if_neg (by decide), if_pos c7v340, g_rdO, if_neg c32_0_344, if_pos c32_1_344, g_rdO1, if_neg (by decide), if_pos c7v360, g_rdO, if_neg c32_0_364, if_neg c32_1_364, if_neg c32_2_364]) (by decide) rfl rfl (show g_sk B n (g_len 33 + (g_sk B n (g_len 32 + (g_sk B n (g_len 34 + q))))) ≤ n by omega)
                                            · exact absurd c41v387 (by decide)
                                    · exact absurd c65v357 (by decide)
                                  · exact absurd c51v355 (by decide)
                              · show qX G F Q 0 0 35 [(4, qI ((g_sk B n (g_len 32 + (g_sk B n (g_len 34 + q))) : Nat) : Int)), (3, qI (q_b (97 ≤ (g_bt B n (g_sk B n (g_len 32 + (g_sk B n (g_len 34 + q))))) ∧ (g_bt B n (g_sk B n (g_len 32 + (g_sk B n (g_len 34 + q))))) ≤ 122))), (1, qI 2), (2, qI 5), (5, qI 0), (0, .ref m)] [qI 2] sz T (q_ps I m (g_mk (g_len 34 + (g_sk B n (g_len 32 + (g_sk B n (g_len 34 + q))))) s.fl s.fa s.cd s.op s.on s.hp)) (q_row L (m + 4) (g_up (g_up t 9 2) 10 0)) P
                                refine q_istore hF (ls' := [(5, qI 2), (4, qI ((g_sk B n (g_len 32 + (g_sk B n (g_len 34 + q))) : Nat) : Int)), (3, qI (q_b (97 ≤ (g_bt B n (g_sk B n (g_len 32 + (g_sk B n (g_len 34 + q))))) ∧ (g_bt B n (g_sk B n (g_len 32 + (g_sk B n (g_len 34 + q))))) ≤ 122))), (1, qI 2), (2, qI 5), (0, .ref m)]) (by decide) rfl dX8_readsOrder_35 ?_
                                have hwl390 := g_words_ok 34 (by decide)
                                have hwn390 := g_isW_n (g_words_ok 34 (by decide)) (fun k hk => by have := g_ch_r (i := 34) (by decide) hk; omega) c32_2_344
                                have hsr390 := g_sk_r (B := B) (n := n) (k := g_len 34 + (g_sk B n (g_len 32 + (g_sk B n (g_len 34 + q))))) (by omega)
                                refine q_aload_n hF 5 rfl rfl dX8_readsOrder_37 ?_
                                refine q_callV (kc := 0) (ks := 0) (mc' := 0) (ms' := 0) (h' := 0) (st := []) hF vl_RX8_95 rfl [] rfl rfl hS.t0 (by omega) (Nat.le_of_ble_eq_true rfl) dX8_readsOrder_38 ?_
                                refine mX8_fineA hS hfl ?_
                                refine q_ifeq hF (by decide) dX8_readsOrder_41 (fun c41v392 => ?_) (fun c41v392 => ?_)
                                · exact absurd c41v392 (by decide)
                                · refine q_iload_n hF 4 rfl rfl dX8_readsOrder_44 ?_
                                  refine q_iload hF 0 rfl dX8_readsOrder_45 ?_
                                  refine q_ishr hF (c0 := 1) (by decide) dX8_readsOrder_47 ?_
                                  refine q_iconst hF dX8_readsOrder_48 ?_
                                  refine q_iand hF (c0 := 1) (by decide) dX8_readsOrder_49 ?_
                                  refine q_iconst hF dX8_readsOrder_50 ?_
                                  refine q_icmpne hF (by decide) (by decide) dX8_readsOrder_51 (fun c51v393 => ?_) (fun c51v393 => ?_)
                                  · exact absurd c51v393 (by decide)
                                  · refine q_aload_n hF 5 rfl rfl dX8_readsOrder_54 ?_
                                    refine q_iconst hF dX8_readsOrder_55 ?_
                                    refine q_iload hF 1 rfl dX8_readsOrder_56 ?_
                                    refine q_callV (kc := 0) (ks := 0) (mc' := 0) (ms' := 0) (h' := 0) (st := []) hF vl_RX8_106 rfl [qI 1, qI ((g_sk B n (g_len 32 + (g_sk B n (g_len 34 + q))) : Nat) : Int)] rfl rfl hS.t0 (by omega) (Nat.le_of_ble_eq_true rfl) dX8_readsOrder_58 ?_
                                    refine mX8_wrongA hS hSA hfl ?_
                                    show qX G F Q 0 0 61 [(5, qI 2), (4, qI ((g_sk B n (g_len 32 + (g_sk B n (g_len 34 + q))) : Nat) : Int)), (3, qI (q_b (97 ≤ (g_bt B n (g_sk B n (g_len 32 + (g_sk B n (g_len 34 + q))))) ∧ (g_bt B n (g_sk B n (g_len 32 + (g_sk B n (g_len 34 + q))))) ≤ 122))), (1, qI 2), (2, qI 5), (0, .ref m)] [] sz T (q_ps I m (g_mk (g_len 34 + (g_sk B n (g_len 32 + (g_sk B n (g_len 34 + q))))) 1 ((g_sk B n (g_len 32 + (g_sk B n (g_len 34 + q))) : Nat) : Int) s.cd s.op s.on s.hp)) (q_row L (m + 4) (g_up (g_up t 9 2) 10 0)) P
                                    refine q_aload_n hF 5 rfl rfl dX8_readsOrder_61 ?_
                                    refine q_callV (kc := 0) (ks := 0) (mc' := 0) (ms' := 0) (h' := 0) (st := []) hF vl_RX8_95 rfl [] rfl rfl hS.t0 (by omega) (Nat.le_of_ble_eq_true rfl) dX8_readsOrder_62 ?_
                                    refine mX8_fine0 hS (show (1 : Int) ≠ 0 by decide) (show -2147483648 ≤ 1 ∧ 1 < 2147483648 by first | decide | omega | assumption) ?_
                                    refine q_ifne hF (by decide) dX8_readsOrder_65 (fun c65v396 => ?_) (fun c65v396 => ?_)
                                    · exact absurd c65v396 (by decide)
                                    · refine q_return hF rfl dX8_readsOrder_68 ?_
                                      show Q (.inl none) sz T (q_ps I m (g_mk (g_len 34 + (g_sk B n (g_len 32 + (g_sk B n (g_len 34 + q))))) 1 ((g_sk B n (g_len 32 + (g_sk B n (g_len 34 + q))) : Nat) : Int) s.cd s.op s.on s.hp)) (q_row L (m + 4) (g_up (g_up t 9 2) 10 0)) P
                                      exact k1 1 (g_sk B n (g_len 32 + (g_sk B n (g_len 34 + q)))) _ _ (by rw [← hx2, g_rdOrder, g_rdO, if_neg c32_0_3, if_neg c32_1_3, if_pos c32_2_3, g_rdO1, if_neg (by decide), if_pos c7v327, g_rdO, if_pos c32_0_331, g_rdO1, if_neg (by decide), if_pos c7v340, g_rdO, if_neg c32_0_344, if_neg c32_1_344, if_pos c32_2_344, g_rdO1, if_pos (by decide)]) (by decide) rfl rfl (show g_len 34 + (g_sk B n (g_len 32 + (g_sk B n (g_len 34 + q)))) ≤ n by omega)
                              · show qX G F Q 0 0 35 [(4, qI ((g_sk B n (g_len 32 + (g_sk B n (g_len 34 + q))) : Nat) : Int)), (3, qI (q_b (97 ≤ (g_bt B n (g_sk B n (g_len 32 + (g_sk B n (g_len 34 + q))))) ∧ (g_bt B n (g_sk B n (g_len 32 + (g_sk B n (g_len 34 + q))))) ≤ 122))), (1, qI 2), (2, qI 5), (5, qI 0), (0, .ref m)] [qI (-1)] sz T (q_ps I m (g_mk (g_sk B n (g_len 32 + (g_sk B n (g_len 34 + q)))) 1 ((g_sk B n (g_len 32 + (g_sk B n (g_len 34 + q))) : Nat) : Int) s.cd s.op s.on s.hp)) (q_row L (m + 4) (g_up (g_up t 9 2) 10 0)) P
                                refine q_istore hF (ls' := [(5, qI (-1)), (4, qI ((g_sk B n (g_len 32 + (g_sk B n (g_len 34 + q))) : Nat) : Int)), (3, qI (q_b (97 ≤ (g_bt B n (g_sk B n (g_len 32 + (g_sk B n (g_len 34 + q))))) ∧ (g_bt B n (g_sk B n (g_len 32 + (g_sk B n (g_len 34 + q))))) ≤ 122))), (1, qI 2), (2, qI 5), (0, .ref m)]) (by decide) rfl dX8_readsOrder_35 ?_
                                skip
                                refine q_aload_n hF 5 rfl rfl dX8_readsOrder_37 ?_
                                refine q_callV (kc := 0) (ks := 0) (mc' := 0) (ms' := 0) (h' := 0) (st := []) hF vl_RX8_95 rfl [] rfl rfl hS.t0 (by omega) (Nat.le_of_ble_eq_true rfl) dX8_readsOrder_38 ?_
                                refine mX8_fine0 hS (show (1 : Int) ≠ 0 by decide) (show -2147483648 ≤ 1 ∧ 1 < 2147483648 by first | decide | omega | assumption) ?_
                                refine q_ifeq hF (by decide) dX8_readsOrder_41 (fun c41v398 => ?_) (fun c41v398 => ?_)
                                · refine q_aload_n hF 5 rfl rfl dX8_readsOrder_61 ?_
                                  refine q_callV (kc := 0) (ks := 0) (mc' := 0) (ms' := 0) (h' := 0) (st := []) hF vl_RX8_95 rfl [] rfl rfl hS.t0 (by omega) (Nat.le_of_ble_eq_true rfl) dX8_readsOrder_62 ?_
                                  refine mX8_fine0 hS (show (1 : Int) ≠ 0 by decide) (show -2147483648 ≤ 1 ∧ 1 < 2147483648 by first | decide | omega | assumption) ?_
                                  refine q_ifne hF (by decide) dX8_readsOrder_65 (fun c65v400 => ?_) (fun c65v400 => ?_)
                                  · exact absurd c65v400 (by decide)
                                  · refine q_return hF rfl dX8_readsOrder_68 ?_
                                    show Q (.inl none) sz T (q_ps I m (g_mk (g_sk B n (g_len 32 + (g_sk B n (g_len 34 + q)))) 1 ((g_sk B n (g_len 32 + (g_sk B n (g_len 34 + q))) : Nat) : Int) s.cd s.op s.on s.hp)) (q_row L (m + 4) (g_up (g_up t 9 2) 10 0)) P
                                    exact k1 1 (g_sk B n (g_len 32 + (g_sk B n (g_len 34 + q)))) _ _ (by rw [← hx2, g_rdOrder, g_rdO, if_neg c32_0_3, if_neg c32_1_3, if_pos c32_2_3, g_rdO1, if_neg (by decide), if_pos c7v327, g_rdO, if_pos c32_0_331, g_rdO1, if_neg (by decide), if_pos c7v340, g_rdO, if_neg c32_0_344, if_neg c32_1_344, if_neg c32_2_344]) (by decide) rfl rfl (show g_sk B n (g_len 32 + (g_sk B n (g_len 34 + q))) ≤ n by omega)
                                · exact absurd c41v398 (by decide)
                        · exact absurd c65v337 (by decide)
                      · exact absurd c51v335 (by decide)
                  · show qX G F Q 0 0 35 [(4, qI ((g_sk B n (g_len 34 + q) : Nat) : Int)), (3, qI (q_b (97 ≤ (g_bt B n (g_sk B n (g_len 34 + q))) ∧ (g_bt B n (g_sk B n (g_len 34 + q))) ≤ 122))), (1, qI 1), (2, qI 4), (5, qI 2), (0, .ref m)] [qI 1] sz T (q_ps I m (g_mk (g_len 33 + (g_sk B n (g_len 34 + q))) s.fl s.fa s.cd s.op s.on s.hp)) (q_row L (m + 4) (g_up t 9 2)) P
                    refine q_istore hF (ls' := [(5, qI 1), (4, qI ((g_sk B n (g_len 34 + q) : Nat) : Int)), (3, qI (q_b (97 ≤ (g_bt B n (g_sk B n (g_len 34 + q))) ∧ (g_bt B n (g_sk B n (g_len 34 + q))) ≤ 122))), (1, qI 1), (2, qI 4), (0, .ref m)]) (by decide) rfl dX8_readsOrder_35 ?_
                    have hwl401 := g_words_ok 33 (by decide)
                    have hwn401 := g_isW_n (g_words_ok 33 (by decide)) (fun k hk => by have := g_ch_r (i := 33) (by decide) hk; omega) c32_1_331
                    have hsr401 := g_sk_r (B := B) (n := n) (k := g_len 33 + (g_sk B n (g_len 34 + q))) (by omega)
                    refine q_aload_n hF 5 rfl rfl dX8_readsOrder_37 ?_
                    refine q_callV (kc := 0) (ks := 0) (mc' := 0) (ms' := 0) (h' := 0) (st := []) hF vl_RX8_95 rfl [] rfl rfl hS.t0 (by omega) (Nat.le_of_ble_eq_true rfl) dX8_readsOrder_38 ?_
                    refine mX8_fineA hS hfl ?_
                    refine q_ifeq hF (by decide) dX8_readsOrder_41 (fun c41v403 => ?_) (fun c41v403 => ?_)
                    · exact absurd c41v403 (by decide)
                    · refine q_iload_n hF 4 rfl rfl dX8_readsOrder_44 ?_
                      refine q_iload hF 0 rfl dX8_readsOrder_45 ?_
                      refine q_ishr hF (c0 := 2) (by decide) dX8_readsOrder_47 ?_
                      refine q_iconst hF dX8_readsOrder_48 ?_
                      refine q_iand hF (c0 := 0) (by decide) dX8_readsOrder_49 ?_
                      refine q_iconst hF dX8_readsOrder_50 ?_
                      refine q_icmpne hF (by decide) (by decide) dX8_readsOrder_51 (fun c51v404 => ?_) (fun c51v404 => ?_)
                      · refine q_aload_n hF 5 rfl rfl dX8_readsOrder_61 ?_
                        refine q_callV (kc := 0) (ks := 0) (mc' := 0) (ms' := 0) (h' := 0) (st := []) hF vl_RX8_95 rfl [] rfl rfl hS.t0 (by omega) (Nat.le_of_ble_eq_true rfl) dX8_readsOrder_62 ?_
                        refine mX8_fineA hS hfl ?_
                        refine q_ifne hF (by decide) dX8_readsOrder_65 (fun c65v406 => ?_) (fun c65v406 => ?_)
                        · refine q_iload_n hF 4 rfl rfl dX8_readsOrder_69 ?_
                          refine q_iconst hF dX8_readsOrder_70 ?_
                          refine q_iload hF 0 rfl dX8_readsOrder_71 ?_
                          refine q_ishl hF (c0 := 2) (by decide) dX8_readsOrder_73 ?_
                          refine q_ior hF (c0 := 6) (by decide) dX8_readsOrder_74 ?_
                          refine q_istore_n hF (ls' := [(2, qI 6), (5, qI 1), (4, qI ((g_sk B n (g_len 34 + q) : Nat) : Int)), (3, qI (q_b (97 ≤ (g_bt B n (g_sk B n (g_len 34 + q))) ∧ (g_bt B n (g_sk B n (g_len 34 + q))) ≤ 122))), (1, qI 1), (0, .ref m)]) rfl (by decide) rfl dX8_readsOrder_75 ?_
                          refine q_aload_n hF 5 rfl rfl dX8_readsOrder_76 ?_
                          refine q_getA hF fl_RX8_24 rfl hS.t0 hS.p10 dX8_readsOrder_77 ?_
                          refine q_bipush hF (n := 9) rfl dX8_readsOrder_80 ?_
                          refine q_iload_n hF 4 rfl rfl dX8_readsOrder_82 ?_
                          refine q_iadd hF dX8_readsOrder_83 ?_
                          refine q_iload hF 1 rfl dX8_readsOrder_84 ?_
                          refine q_i2l hF (by decide) dX8_readsOrder_86 ?_
                          refine q_lastorev hF (n := 1243) 10 hS.t4 (q_Ale hSA (by omega)) (by omega) (by omega) (by decide) dX8_readsOrder_87 ?_
                          rw [q_row_u]
                          refine q_iinc hF (z' := 2) (ls' := [(1, qI 2), (2, qI 6), (5, qI 1), (4, qI ((g_sk B n (g_len 34 + q) : Nat) : Int)), (3, qI (q_b (97 ≤ (g_bt B n (g_sk B n (g_len 34 + q))) ∧ (g_bt B n (g_sk B n (g_len 34 + q))) ≤ 122))), (0, .ref m)]) 4 rfl (by first | rfl | omega) (by decide) rfl dX8_readsOrder_88 ?_
                          refine q_aload_n hF 5 rfl rfl dX8_readsOrder_91 ?_
                          refine q_callV (kc := 0) (ks := 0) (mc' := 0) (ms' := 0) (h' := 1) (st := []) hF vl_RX8_78 rfl [] rfl rfl hS.t0 (by omega) (Nat.le_of_ble_eq_true rfl) dX8_readsOrder_92 ?_
                          refine mX8_herePQ (B := B) (n := n) hS hSA hB (show (g_len 33 + (g_sk B n (g_len 34 + q))) ≤ n by omega) rfl ?_
                          show qX G F Q 0 0 95 [(1, qI 2), (2, qI 6), (5, qI 1), (4, qI ((g_sk B n (g_len 34 + q) : Nat) : Int)), (3, qI (q_b (97 ≤ (g_bt B n (g_sk B n (g_len 34 + q))) ∧ (g_bt B n (g_sk B n (g_len 34 + q))) ≤ 122))), (0, .ref m)] [qI (g_bt B n (g_sk B n (g_len 33 + (g_sk B n (g_len 34 + q)))))] sz T (q_ps I m (g_mk (g_sk B n (g_len 33 + (g_sk B n (g_len 34 + q)))) s.fl s.fa s.cd s.op s.on s.hp)) (q_row L (m + 4) (g_up (g_up t 9 2) 10 1)) P
                          refine q_callS (kc := 0) (ks := 0) (mc' := 0) (ms' := 0) (h' := 0) (st := []) hF sl_RX8_91 rfl [qI (g_bt B n (g_sk B n (g_len 33 + (g_sk B n (g_len 34 + q)))))] rfl rfl (by omega) (Nat.le_of_ble_eq_true rfl) dX8_readsOrder_95 ?_
                          refine mX8_isSmall (g_bt_32 hB _) ?_
                          refine q_istore_n hF (ls' := [(3, qI (q_b (97 ≤ (g_bt B n (g_sk B n (g_len 33 + (g_sk B n (g_len 34 + q))))) ∧ (g_bt B n (g_sk B n (g_len 33 + (g_sk B n (g_len 34 + q))))) ≤ 122))), (1, qI 2), (2, qI 6), (5, qI 1), (4, qI ((g_sk B n (g_len 34 + q) : Nat) : Int)), (0, .ref m)]) rfl (by decide) rfl dX8_readsOrder_98 ?_
                          refine q_goto hF dX8_readsOrder_99 ?_
                          refine q_iload_n hF 0 rfl rfl dX8_readsOrder_6 ?_
                          refine q_ifeq_b hF dX8_readsOrder_7 (fun c7v409 => ?_) (fun c7v409 => ?_)
                          · refine q_aload_n hF 5 rfl rfl dX8_readsOrder_102 ?_
                            refine q_getA hF fl_RX8_24 rfl hS.t0 hS.p10 dX8_readsOrder_103 ?_
                            refine q_bipush hF (n := 8) rfl dX8_readsOrder_106 ?_
                            refine q_iload_n hF 1 rfl rfl dX8_readsOrder_108 ?_
                            refine q_i2l hF (by decide) dX8_readsOrder_109 ?_
                            refine q_lastorev hF (n := 1243) 8 hS.t4 (q_Ale hSA (by omega)) rfl (by decide) (by decide) dX8_readsOrder_110 ?_
                            rw [q_row_u]
                            refine q_return hF rfl dX8_readsOrder_111 ?_
                            exact k0 _ _ (by rw [← hx2, g_rdOrder, g_rdO, if_neg c32_0_3, if_neg c32_1_3, if_pos c32_2_3, g_rdO1, if_neg (by decide), if_pos c7v327, g_rdO, if_neg c32_0_331, if_pos c32_1_331, g_rdO1, if_neg (by decide), if_neg c7v409]; try rfl)
                          · refine q_aload_n hF 5 rfl rfl dX8_readsOrder_10 ?_
                            refine q_callV (kc := 0) (ks := 0) (mc' := 0) (ms' := 0) (h' := 0) (st := []) hF vl_RX8_95 rfl [] rfl rfl hS.t0 (by omega) (Nat.le_of_ble_eq_true rfl) dX8_readsOrder_11 ?_
                            refine mX8_fineA hS hfl ?_
                            refine q_ifeq hF (by decide) dX8_readsOrder_14 (fun c14v411 => ?_) (fun c14v411 => ?_)
                            · exact absurd c14v411 (by decide)
                            · skip
                              refine q_aload_n hF 5 rfl rfl dX8_readsOrder_17 ?_
                              refine q_callV (kc := 0) (ks := 0) (mc' := 0) (ms' := 0) (h' := 1) (st := []) hF vl_RX8_78 rfl [] rfl rfl hS.t0 (by omega) (Nat.le_of_ble_eq_true rfl) dX8_readsOrder_18 ?_
                              refine mX8_herePQ (B := B) (n := n) hS hSA hB (show (g_sk B n (g_len 33 + (g_sk B n (g_len 34 + q)))) ≤ n by omega) (g_sk_sk (by omega)) ?_
                              show qX G F Q 0 0 21 [(3, qI (q_b (97 ≤ (g_bt B n (g_sk B n (g_len 33 + (g_sk B n (g_len 34 + q))))) ∧ (g_bt B n (g_sk B n (g_len 33 + (g_sk B n (g_len 34 + q))))) ≤ 122))), (1, qI 2), (2, qI 6), (5, qI 1), (4, qI ((g_sk B n (g_len 34 + q) : Nat) : Int)), (0, .ref m)] [qI (g_bt B n (g_sk B n (g_len 33 + (g_sk B n (g_len 34 + q)))))] sz T (q_ps I m (g_mk (g_sk B n (g_len 33 + (g_sk B n (g_len 34 + q)))) s.fl s.fa s.cd s.op s.on s.hp)) (q_row L (m + 4) (g_up (g_up t 9 2) 10 1)) P
                              refine q_pop hF rfl dX8_readsOrder_21 ?_
                              refine q_aload_n hF 5 rfl rfl dX8_readsOrder_22 ?_
                              refine q_getIv hF (z := ((g_sk B n (g_len 33 + (g_sk B n (g_len 34 + q))) : Nat) : Int)) fl_RX8_65 hS.t0 q_ps_4 dX8_readsOrder_23 ?_
                              refine q_istore hF (ls' := [(4, qI ((g_sk B n (g_len 33 + (g_sk B n (g_len 34 + q))) : Nat) : Int)), (3, qI (q_b (97 ≤ (g_bt B n (g_sk B n (g_len 33 + (g_sk B n (g_len 34 + q))))) ∧ (g_bt B n (g_sk B n (g_len 33 + (g_sk B n (g_len 34 + q))))) ≤ 122))), (1, qI 2), (2, qI 6), (5, qI 1), (0, .ref m)]) (by decide) rfl dX8_readsOrder_26 ?_
                              refine q_aload_n hF 5 rfl rfl dX8_readsOrder_28 ?_
                              refine q_iconst hF dX8_readsOrder_29 ?_
                              refine q_bipush hF (n := 7) rfl dX8_readsOrder_30 ?_
                              refine q_callV (kc := 0) (ks := 0) (mc' := 0) (ms' := 0) (h' := 6) (st := []) hF vl_RX8_220 rfl [qI 5, qI 7] rfl rfl hS.t0 (by omega) (Nat.le_of_ble_eq_true rfl) dX8_readsOrder_32 ?_
                              refine mX8_one5 hS hSA hB (show (g_sk B n (g_len 33 + (g_sk B n (g_len 34 + q)))) ≤ n by omega) hfl (g_sk_sk (by omega)) (fun (c32_0_413 : g_isW B n 32 (g_sk B n (g_len 33 + (g_sk B n (g_len 34 + q))))) => ?_) (fun (c32_0_413 : ¬ (g_isW B n 32 (g_sk B n (g_len 33 + (g_sk B n (g_len 34 + q)))))) (c32_1_413 : g_isW B n 33 (g_sk B n (g_len 33 + (g_sk B n (g_len 34 + q))))) => ?_) (fun (c32_0_413 : ¬ (g_isW B n 32 (g_sk B n (g_len 33 + (g_sk B n (g_len 34 + q)))))) (c32_1_413 : ¬ (g_isW B n 33 (g_sk B n (g_len 33 + (g_sk B n (g_len 34 + q)))))) (c32_2_413 : g_isW B n 34 (g_sk B n (g_len 33 + (g_sk B n (g_len 34 + q))))) => ?_) (fun (c32_0_413 : ¬ (g_isW B n 32 (g_sk B n (g_len 33 + (g_sk B n (g_len 34 + q)))))) (c32_1_413 : ¬ (g_isW B n 33 (g_sk B n (g_len 33 + (g_sk B n (g_len 34 + q)))))) (c32_2_413 : ¬ (g_isW B n 34 (g_sk B n (g_len 33 + (g_sk B n (g_len 34 + q)))))) => ?_)
                              · show qX G F Q 0 0 35 [(4, qI ((g_sk B n (g_len 33 + (g_sk B n (g_len 34 + q))) : Nat) : Int)), (3, qI (q_b (97 ≤ (g_bt B n (g_sk B n (g_len 33 + (g_sk B n (g_len 34 + q))))) ∧ (g_bt B n (g_sk B n (g_len 33 + (g_sk B n (g_len 34 + q))))) ≤ 122))), (1, qI 2), (2, qI 6), (5, qI 1), (0, .ref m)] [qI 0] sz T (q_ps I m (g_mk (g_len 32 + (g_sk B n (g_len 33 + (g_sk B n (g_len 34 + q))))) s.fl s.fa s.cd s.op s.on s.hp)) (q_row L (m + 4) (g_up (g_up t 9 2) 10 1)) P
                                refine q_istore hF (ls' := [(5, qI 0), (4, qI ((g_sk B n (g_len 33 + (g_sk B n (g_len 34 + q))) : Nat) : Int)), (3, qI (q_b (97 ≤ (g_bt B n (g_sk B n (g_len 33 + (g_sk B n (g_len 34 + q))))) ∧ (g_bt B n (g_sk B n (g_len 33 + (g_sk B n (g_len 34 + q))))) ≤ 122))), (1, qI 2), (2, qI 6), (0, .ref m)]) (by decide) rfl dX8_readsOrder_35 ?_
                                have hwl414 := g_words_ok 32 (by decide)
                                have hwn414 := g_isW_n (g_words_ok 32 (by decide)) (fun k hk => by have := g_ch_r (i := 32) (by decide) hk; omega) c32_0_413
                                have hsr414 := g_sk_r (B := B) (n := n) (k := g_len 32 + (g_sk B n (g_len 33 + (g_sk B n (g_len 34 + q))))) (by omega)
                                refine q_aload_n hF 5 rfl rfl dX8_readsOrder_37 ?_
                                refine q_callV (kc := 0) (ks := 0) (mc' := 0) (ms' := 0) (h' := 0) (st := []) hF vl_RX8_95 rfl [] rfl rfl hS.t0 (by omega) (Nat.le_of_ble_eq_true rfl) dX8_readsOrder_38 ?_
                                refine mX8_fineA hS hfl ?_
                                refine q_ifeq hF (by decide) dX8_readsOrder_41 (fun c41v416 => ?_) (fun c41v416 => ?_)
                                · exact absurd c41v416 (by decide)
                                · refine q_iload_n hF 4 rfl rfl dX8_readsOrder_44 ?_
                                  refine q_iload hF 0 rfl dX8_readsOrder_45 ?_
                                  refine q_ishr hF (c0 := 6) (by decide) dX8_readsOrder_47 ?_
                                  refine q_iconst hF dX8_readsOrder_48 ?_
                                  refine q_iand hF (c0 := 0) (by decide) dX8_readsOrder_49 ?_
                                  refine q_iconst hF dX8_readsOrder_50 ?_
                                  refine q_icmpne hF (by decide) (by decide) dX8_readsOrder_51 (fun c51v417 => ?_) (fun c51v417 => ?_)
                                  · refine q_aload_n hF 5 rfl rfl dX8_readsOrder_61 ?_
                                    refine q_callV (kc := 0) (ks := 0) (mc' := 0) (ms' := 0) (h' := 0) (st := []) hF vl_RX8_95 rfl [] rfl rfl hS.t0 (by omega) (Nat.le_of_ble_eq_true rfl) dX8_readsOrder_62 ?_
                                    refine mX8_fineA hS hfl ?_
                                    refine q_ifne hF (by decide) dX8_readsOrder_65 (fun c65v419 => ?_) (fun c65v419 => ?_)
                                    · refine q_iload_n hF 4 rfl rfl dX8_readsOrder_69 ?_
                                      refine q_iconst hF dX8_readsOrder_70 ?_
                                      refine q_iload hF 0 rfl dX8_readsOrder_71 ?_
                                      refine q_ishl hF (c0 := 1) (by decide) dX8_readsOrder_73 ?_
                                      refine q_ior hF (c0 := 7) (by decide) dX8_readsOrder_74 ?_
                                      refine q_istore_n hF (ls' := [(2, qI 7), (5, qI 0), (4, qI ((g_sk B n (g_len 33 + (g_sk B n (g_len 34 + q))) : Nat) : Int)), (3, qI (q_b (97 ≤ (g_bt B n (g_sk B n (g_len 33 + (g_sk B n (g_len 34 + q))))) ∧ (g_bt B n (g_sk B n (g_len 33 + (g_sk B n (g_len 34 + q))))) ≤ 122))), (1, qI 2), (0, .ref m)]) rfl (by decide) rfl dX8_readsOrder_75 ?_
                                      refine q_aload_n hF 5 rfl rfl dX8_readsOrder_76 ?_
                                      refine q_getA hF fl_RX8_24 rfl hS.t0 hS.p10 dX8_readsOrder_77 ?_
                                      refine q_bipush hF (n := 9) rfl dX8_readsOrder_80 ?_
                                      refine q_iload_n hF 4 rfl rfl dX8_readsOrder_82 ?_
                                      refine q_iadd hF dX8_readsOrder_83 ?_
                                      refine q_iload hF 1 rfl dX8_readsOrder_84 ?_
                                      refine q_i2l hF (by decide) dX8_readsOrder_86 ?_
                                      refine q_lastorev hF (n := 1243) 11 hS.t4 (q_Ale hSA (by omega)) (by omega) (by omega) (by decide) dX8_readsOrder_87 ?_
                                      rw [q_row_u]
                                      refine q_iinc hF (z' := 3) (ls' := [(1, qI 3), (2, qI 7), (5, qI 0), (4, qI ((g_sk B n (g_len 33 + (g_sk B n (g_len 34 + q))) : Nat) : Int)), (3, qI (q_b (97 ≤ (g_bt B n (g_sk B n (g_len 33 + (g_sk B n (g_len 34 + q))))) ∧ (g_bt B n (g_sk B n (g_len 33 + (g_sk B n (g_len 34 + q))))) ≤ 122))), (0, .ref m)]) 4 rfl (by first | rfl | omega) (by decide) rfl dX8_readsOrder_88 ?_
                                      refine q_aload_n hF 5 rfl rfl dX8_readsOrder_91 ?_
                                      refine q_callV (kc := 0) (ks := 0) (mc' := 0) (ms' := 0) (h' := 1) (st := []) hF vl_RX8_78 rfl [] rfl rfl hS.t0 (by omega) (Nat.le_of_ble_eq_true rfl) dX8_readsOrder_92 ?_
                                      refine mX8_herePQ (B := B) (n := n) hS hSA hB (show (g_len 32 + (g_sk B n (g_len 33 + (g_sk B n (g_len 34 + q))))) ≤ n by omega) rfl ?_
                                      show qX G F Q 0 0 95 [(1, qI 3), (2, qI 7), (5, qI 0), (4, qI ((g_sk B n (g_len 33 + (g_sk B n (g_len 34 + q))) : Nat) : Int)), (3, qI (q_b (97 ≤ (g_bt B n (g_sk B n (g_len 33 + (g_sk B n (g_len 34 + q))))) ∧ (g_bt B n (g_sk B n (g_len 33 + (g_sk B n (g_len 34 + q))))) ≤ 122))), (0, .ref m)] [qI (g_bt B n (g_sk B n (g_len 32 + (g_sk B n (g_len 33 + (g_sk B n (g_len 34 + q)))))))] sz T (q_ps I m (g_mk (g_sk B n (g_len 32 + (g_sk B n (g_len 33 + (g_sk B n (g_len 34 + q)))))) s.fl s.fa s.cd s.op s.on s.hp)) (q_row L (m + 4) (g_up (g_up (g_up t 9 2) 10 1) 11 0)) P
                                      refine q_callS (kc := 0) (ks := 0) (mc' := 0) (ms' := 0) (h' := 0) (st := []) hF sl_RX8_91 rfl [qI (g_bt B n (g_sk B n (g_len 32 + (g_sk B n (g_len 33 + (g_sk B n (g_len 34 + q)))))))] rfl rfl (by omega) (Nat.le_of_ble_eq_true rfl) dX8_readsOrder_95 ?_
                                      refine mX8_isSmall (g_bt_32 hB _) ?_
                                      refine q_istore_n hF (ls' := [(3, qI (q_b (97 ≤ (g_bt B n (g_sk B n (g_len 32 + (g_sk B n (g_len 33 + (g_sk B n (g_len 34 + q))))))) ∧ (g_bt B n (g_sk B n (g_len 32 + (g_sk B n (g_len 33 + (g_sk B n (g_len 34 + q))))))) ≤ 122))), (1, qI 3), (2, qI 7), (5, qI 0), (4, qI ((g_sk B n (g_len 33 + (g_sk B n (g_len 34 + q))) : Nat) : Int)), (0, .ref m)]) rfl (by decide) rfl dX8_readsOrder_98 ?_
                                      refine q_goto hF dX8_readsOrder_99 ?_
                                      refine q_iload_n hF 0 rfl rfl dX8_readsOrder_6 ?_
                                      refine q_ifeq_b hF dX8_readsOrder_7 (fun c7v422 => ?_) (fun c7v422 => ?_)
                                      · refine q_aload_n hF 5 rfl rfl dX8_readsOrder_102 ?_
                                        refine q_getA hF fl_RX8_24 rfl hS.t0 hS.p10 dX8_readsOrder_103 ?_
                                        refine q_bipush hF (n := 8) rfl dX8_readsOrder_106 ?_
                                        refine q_iload_n hF 1 rfl rfl dX8_readsOrder_108 ?_
                                        refine q_i2l hF (by decide) dX8_readsOrder_109 ?_
                                        refine q_lastorev hF (n := 1243) 8 hS.t4 (q_Ale hSA (by omega)) rfl (by decide) (by decide) dX8_readsOrder_110 ?_
                                        rw [q_row_u]
                                        refine q_return hF rfl dX8_readsOrder_111 ?_
                                        exact k0 _ _ (by rw [← hx2, g_rdOrder, g_rdO, if_neg c32_0_3, if_neg c32_1_3, if_pos c32_2_3, g_rdO1, if_neg (by decide), if_pos c7v327, g_rdO, if_neg c32_0_331, if_pos c32_1_331, g_rdO1, if_neg (by decide), if_pos c7v409, g_rdO, if_pos c32_0_413, g_rdO1, if_neg (by decide), if_neg c7v422]; try rfl)
                                      · refine q_aload_n hF 5 rfl rfl dX8_readsOrder_10 ?_
                                        refine q_callV (kc := 0) (ks := 0) (mc' := 0) (ms' := 0) (h' := 0) (st := []) hF vl_RX8_95 rfl [] rfl rfl hS.t0 (by omega) (Nat.le_of_ble_eq_true rfl) dX8_readsOrder_11 ?_
                                        refine mX8_fineA hS hfl ?_
                                        refine q_ifeq hF (by decide) dX8_readsOrder_14 (fun c14v424 => ?_) (fun c14v424 => ?_)
                                        · exact absurd c14v424 (by decide)
                                        · skip
                                          refine q_aload_n hF 5 rfl rfl dX8_readsOrder_17 ?_
                                          refine q_callV (kc := 0) (ks := 0) (mc' := 0) (ms' := 0) (h' := 1) (st := []) hF vl_RX8_78 rfl [] rfl rfl hS.t0 (by omega) (Nat.le_of_ble_eq_true rfl) dX8_readsOrder_18 ?_
                                          refine mX8_herePQ (B := B) (n := n) hS hSA hB (show (g_sk B n (g_len 32 + (g_sk B n (g_len 33 + (g_sk B n (g_len 34 + q)))))) ≤ n by omega) (g_sk_sk (by omega)) ?_
                                          show qX G F Q 0 0 21 [(3, qI (q_b (97 ≤ (g_bt B n (g_sk B n (g_len 32 + (g_sk B n (g_len 33 + (g_sk B n (g_len 34 + q))))))) ∧ (g_bt B n (g_sk B n (g_len 32 + (g_sk B n (g_len 33 + (g_sk B n (g_len 34 + q))))))) ≤ 122))), (1, qI 3), (2, qI 7), (5, qI 0), (4, qI ((g_sk B n (g_len 33 + (g_sk B n (g_len 34 + q))) : Nat) : Int)), (0, .ref m)] [qI (g_bt B n (g_sk B n (g_len 32 + (g_sk B n (g_len 33 + (g_sk B n (g_len 34 + q)))))))] sz T (q_ps I m (g_mk (g_sk B n (g_len 32 + (g_sk B n (g_len 33 + (g_sk B n (g_len 34 + q)))))) s.fl s.fa s.cd s.op s.on s.hp)) (q_row L (m + 4) (g_up (g_up (g_up t 9 2) 10 1) 11 0)) P
                                          refine q_pop hF rfl dX8_readsOrder_21 ?_
                                          refine q_aload_n hF 5 rfl rfl dX8_readsOrder_22 ?_
                                          refine q_getIv hF (z := ((g_sk B n (g_len 32 + (g_sk B n (g_len 33 + (g_sk B n (g_len 34 + q))))) : Nat) : Int)) fl_RX8_65 hS.t0 q_ps_4 dX8_readsOrder_23 ?_
                                          refine q_istore hF (ls' := [(4, qI ((g_sk B n (g_len 32 + (g_sk B n (g_len 33 + (g_sk B n (g_len 34 + q))))) : Nat) : Int)), (3, qI (q_b (97 ≤ (g_bt B n (g_sk B n (g_len 32 + (g_sk B n (g_len 33 + (g_sk B n (g_len 34 + q))))))) ∧ (g_bt B n (g_sk B n (g_len 32 + (g_sk B n (g_len 33 + (g_sk B n (g_len 34 + q))))))) ≤ 122))), (1, qI 3), (2, qI 7), (5, qI 0), (0, .ref m)]) (by decide) rfl dX8_readsOrder_26 ?_
                                          refine q_aload_n hF 5 rfl rfl dX8_readsOrder_28 ?_
                                          refine q_iconst hF dX8_readsOrder_29 ?_
                                          refine q_bipush hF (n := 7) rfl dX8_readsOrder_30 ?_
                                          refine q_callV (kc := 0) (ks := 0) (mc' := 0) (ms' := 0) (h' := 6) (st := []) hF vl_RX8_220 rfl [qI 5, qI 7] rfl rfl hS.t0 (by omega) (Nat.le_of_ble_eq_true rfl) dX8_readsOrder_32 ?_
                                          refine mX8_one5 hS hSA hB (show (g_sk B n (g_len 32 + (g_sk B n (g_len 33 + (g_sk B n (g_len 34 + q)))))) ≤ n by omega) hfl (g_sk_sk (by omega)) (fun (c32_0_426 : g_isW B n 32 (g_sk B n (g_len 32 + (g_sk B n (g_len 33 + (g_sk B n (g_len 34 + q))))))) => ?_) (fun (c32_0_426 : ¬ (g_isW B n 32 (g_sk B n (g_len 32 + (g_sk B n (g_len 33 + (g_sk B n (g_len 34 + q)))))))) (c32_1_426 : g_isW B n 33 (g_sk B n (g_len 32 + (g_sk B n (g_len 33 + (g_sk B n (g_len 34 + q))))))) => ?_) (fun (c32_0_426 : ¬ (g_isW B n 32 (g_sk B n (g_len 32 + (g_sk B n (g_len 33 + (g_sk B n (g_len 34 + q)))))))) (c32_1_426 : ¬ (g_isW B n 33 (g_sk B n (g_len 32 + (g_sk B n (g_len 33 + (g_sk B n (g_len 34 + q)))))))) (c32_2_426 : g_isW B n 34 (g_sk B n (g_len 32 + (g_sk B n (g_len 33 + (g_sk B n (g_len 34 + q))))))) => ?_) (fun (c32_0_426 : ¬ (g_isW B n 32 (g_sk B n (g_len 32 + (g_sk B n (g_len 33 + (g_sk B n (g_len 34 + q)))))))) (c32_1_426 : ¬ (g_isW B n 33 (g_sk B n (g_len 32 + (g_sk B n (g_len 33 + (g_sk B n (g_len 34 + q)))))))) (c32_2_426 : ¬ (g_isW B n 34 (g_sk B n (g_len 32 + (g_sk B n (g_len 33 + (g_sk B n (g_len 34 + q)))))))) => ?_)
                                          · show qX G F Q 0 0 35 [(4, qI ((g_sk B n (g_len 32 + (g_sk B n (g_len 33 + (g_sk B n (g_len 34 + q))))) : Nat) : Int)), (3, qI (q_b (97 ≤ (g_bt B n (g_sk B n (g_len 32 + (g_sk B n (g_len 33 + (g_sk B n (g_len 34 + q))))))) ∧ (g_bt B n (g_sk B n (g_len 32 + (g_sk B n (g_len 33 + (g_sk B n (g_len 34 + q))))))) ≤ 122))), (1, qI 3), (2, qI 7), (5, qI 0), (0, .ref m)] [qI 0] sz T (q_ps I m (g_mk (g_len 32 + (g_sk B n (g_len 32 + (g_sk B n (g_len 33 + (g_sk B n (g_len 34 + q))))))) s.fl s.fa s.cd s.op s.on s.hp)) (q_row L (m + 4) (g_up (g_up (g_up t 9 2) 10 1) 11 0)) P
                                            refine q_istore hF (ls' := [(5, qI 0), (4, qI ((g_sk B n (g_len 32 + (g_sk B n (g_len 33 + (g_sk B n (g_len 34 + q))))) : Nat) : Int)), (3, qI (q_b (97 ≤ (g_bt B n (g_sk B n (g_len 32 + (g_sk B n (g_len 33 + (g_sk B n (g_len 34 + q))))))) ∧ (g_bt B n (g_sk B n (g_len 32 + (g_sk B n (g_len 33 + (g_sk B n (g_len 34 + q))))))) ≤ 122))), (1, qI 3), (2, qI 7), (0, .ref m)]) (by decide) rfl dX8_readsOrder_35 ?_
                                            have hwl427 := g_words_ok 32 (by decide)
                                            have hwn427 := g_isW_n (g_words_ok 32 (by decide)) (fun k hk => by have := g_ch_r (i := 32) (by decide) hk; omega) c32_0_426
                                            have hsr427 := g_sk_r (B := B) (n := n) (k := g_len 32 + (g_sk B n (g_len 32 + (g_sk B n (g_len 33 + (g_sk B n (g_len 34 + q))))))) (by omega)
                                            refine q_aload_n hF 5 rfl rfl dX8_readsOrder_37 ?_
                                            refine q_callV (kc := 0) (ks := 0) (mc' := 0) (ms' := 0) (h' := 0) (st := []) hF vl_RX8_95 rfl [] rfl rfl hS.t0 (by omega) (Nat.le_of_ble_eq_true rfl) dX8_readsOrder_38 ?_
                                            refine mX8_fineA hS hfl ?_
                                            refine q_ifeq hF (by decide) dX8_readsOrder_41 (fun c41v429 => ?_) (fun c41v429 => ?_)
                                            · exact absurd c41v429 (by decide)
                                            · refine q_iload_n hF 4 rfl rfl dX8_readsOrder_44 ?_
                                              refine q_iload hF 0 rfl dX8_readsOrder_45 ?_
                                              refine q_ishr hF (c0 := 7) (by decide) dX8_readsOrder_47 ?_
                                              refine q_iconst hF dX8_readsOrder_48 ?_
                                              refine q_iand hF (c0 := 1) (by decide) dX8_readsOrder_49 ?_
                                              refine q_iconst hF dX8_readsOrder_50 ?_
                                              refine q_icmpne hF (by decide) (by decide) dX8_readsOrder_51 (fun c51v430 => ?_) (fun c51v430 => ?_)
                                              · exact absurd c51v430 (by decide)
                                              · refine q_aload_n hF 5 rfl rfl dX8_readsOrder_54 ?_
                                                refine q_iconst hF dX8_readsOrder_55 ?_
                                                refine q_iload hF 1 rfl dX8_readsOrder_56 ?_
                                                refine q_callV (kc := 0) (ks := 0) (mc' := 0) (ms' := 0) (h' := 0) (st := []) hF vl_RX8_106 rfl [qI 1, qI ((g_sk B n (g_len 32 + (g_sk B n (g_len 33 + (g_sk B n (g_len 34 + q))))) : Nat) : Int)] rfl rfl hS.t0 (by omega) (Nat.le_of_ble_eq_true rfl) dX8_readsOrder_58 ?_
                                                refine mX8_wrongA hS hSA hfl ?_
                                                show qX G F Q 0 0 61 [(5, qI 0), (4, qI ((g_sk B n (g_len 32 + (g_sk B n (g_len 33 + (g_sk B n (g_len 34 + q))))) : Nat) : Int)), (3, qI (q_b (97 ≤ (g_bt B n (g_sk B n (g_len 32 + (g_sk B n (g_len 33 + (g_sk B n (g_len 34 + q))))))) ∧ (g_bt B n (g_sk B n (g_len 32 + (g_sk B n (g_len 33 + (g_sk B n (g_len 34 + q))))))) ≤ 122))), (1, qI 3), (2, qI 7), (0, .ref m)] [] sz T (q_ps I m (g_mk (g_len 32 + (g_sk B n (g_len 32 + (g_sk B n (g_len 33 + (g_sk B n (g_len 34 + q))))))) 1 ((g_sk B n (g_len 32 + (g_sk B n (g_len 33 + (g_sk B n (g_len 34 + q))))) : Nat) : Int) s.cd s.op s.on s.hp)) (q_row L (m + 4) (g_up (g_up (g_up t 9 2) 10 1) 11 0)) P
                                                refine q_aload_n hF 5 rfl rfl dX8_readsOrder_61 ?_
                                                refine q_callV (kc := 0) (ks := 0) (mc' := 0) (ms' := 0) (h' := 0) (st := []) hF vl_RX8_95 rfl [] rfl rfl hS.t0 (by omega) (Nat.le_of_ble_eq_true rfl) dX8_readsOrder_62 ?_
                                                refine mX8_fine0 hS (show (1 : Int) ≠ 0 by decide) (show -2147483648 ≤ 1 ∧ 1 < 2147483648 by first | decide | omega | assumption) ?_
                                                refine q_ifne hF (by decide) dX8_readsOrder_65 (fun c65v433 => ?_) (fun c65v433 => ?_)
                                                · exact absurd c65v433 (by decide)
                                                · refine q_return hF rfl dX8_readsOrder_68 ?_
                                                  show Q (.inl none) sz T (q_ps I m (g_mk (g_len 32 + (g_sk B n (g_len 32 + (g_sk B n (g_len 33 + (g_sk B n (g_len 34 + q))))))) 1 ((g_sk B n (g_len 32 + (g_sk B n (g_len 33 + (g_sk B n (g_len 34 + q))))) : Nat) : Int) s.cd s.op s.on s.hp)) (q_row L (m + 4) (g_up (g_up (g_up t 9 2) 10 1) 11 0)) P
                                                  exact k1 1 (g_sk B n (g_len 32 + (g_sk B n (g_len 33 + (g_sk B n (g_len 34 + q)))))) _ _ (by rw [← hx2, g_rdOrder, g_rdO, if_neg c32_0_3, if_neg c32_1_3, if_pos c32_2_3, g_rdO1, if_neg (by decide), if_pos c7v327, g_rdO, if_neg c32_0_331, if_pos c32_1_331, g_rdO1, if_neg (by decide), if_pos c7v409, g_rdO, if_pos c32_0_413, g_rdO1, if_neg (by decide), if_pos c7v422, g_rdO, if_pos c32_0_426, g_rdO1, if_pos (by decide)]) (by decide) rfl rfl (show g_len 32 + (g_sk B n (g_len 32 + (g_sk B n (g_len 33 + (g_sk B n (g_len 34 + q)))))) ≤ n by omega)
                                          · show qX G F Q 0 0 35 [(4, qI ((g_sk B n (g_len 32 + (g_sk B n (g_len 33 + (g_sk B n (g_len 34 + q))))) : Nat) : Int)), (3, qI (q_b (97 ≤ (g_bt B n (g_sk B n (g_len 32 + (g_sk B n (g_len 33 + (g_sk B n (g_len 34 + q))))))) ∧ (g_bt B n (g_sk B n (g_len 32 + (g_sk B n (g_len 33 + (g_sk B n (g_len 34 + q))))))) ≤ 122))), (1, qI 3), (2, qI 7), (5, qI 0), (0, .ref m)] [qI 1] sz T (q_ps I m (g_mk (g_len 33 + (g_sk B n (g_len 32 + (g_sk B n (g_len 33 + (g_sk B n (g_len 34 + q))))))) s.fl s.fa s.cd s.op s.on s.hp)) (q_row L (m + 4) (g_up (g_up (g_up t 9 2) 10 1) 11 0)) P
                                            refine q_istore hF (ls' := [(5, qI 1), (4, qI ((g_sk B n (g_len 32 + (g_sk B n (g_len 33 + (g_sk B n (g_len 34 + q))))) : Nat) : Int)), (3, qI (q_b (97 ≤ (g_bt B n (g_sk B n (g_len 32 + (g_sk B n (g_len 33 + (g_sk B n (g_len 34 + q))))))) ∧ (g_bt B n (g_sk B n (g_len 32 + (g_sk B n (g_len 33 + (g_sk B n (g_len 34 + q))))))) ≤ 122))), (1, qI 3), (2, qI 7), (0, .ref m)]) (by decide) rfl dX8_readsOrder_35 ?_
                                            have hwl434 := g_words_ok 33 (by decide)
                                            have hwn434 := g_isW_n (g_words_ok 33 (by decide)) (fun k hk => by have := g_ch_r (i := 33) (by decide) hk; omega) c32_1_426
                                            have hsr434 := g_sk_r (B := B) (n := n) (k := g_len 33 + (g_sk B n (g_len 32 + (g_sk B n (g_len 33 + (g_sk B n (g_len 34 + q))))))) (by omega)
                                            refine q_aload_n hF 5 rfl rfl dX8_readsOrder_37 ?_
                                            refine q_callV (kc := 0) (ks := 0) (mc' := 0) (ms' := 0) (h' := 0) (st := []) hF vl_RX8_95 rfl [] rfl rfl hS.t0 (by omega) (Nat.le_of_ble_eq_true rfl) dX8_readsOrder_38 ?_
                                            refine mX8_fineA hS hfl ?_
                                            refine q_ifeq hF (by decide) dX8_readsOrder_41 (fun c41v436 => ?_) (fun c41v436 => ?_)
                                            · exact absurd c41v436 (by decide)
                                            · refine q_iload_n hF 4 rfl rfl dX8_readsOrder_44 ?_
                                              refine q_iload hF 0 rfl dX8_readsOrder_45 ?_
                                              refine q_ishr hF (c0 := 3) (by decide) dX8_readsOrder_47 ?_
                                              refine q_iconst hF dX8_readsOrder_48 ?_
                                              refine q_iand hF (c0 := 1) (by decide) dX8_readsOrder_49 ?_
                                              refine q_iconst hF dX8_readsOrder_50 ?_
                                              refine q_icmpne hF (by decide) (by decide) dX8_readsOrder_51 (fun c51v437 => ?_) (fun c51v437 => ?_)
                                              · exact absurd c51v437 (by decide)
                                              · refine q_aload_n hF 5 rfl rfl dX8_readsOrder_54 ?_
                                                refine q_iconst hF dX8_readsOrder_55 ?_
                                                refine q_iload hF 1 rfl dX8_readsOrder_56 ?_
                                                refine q_callV (kc := 0) (ks := 0) (mc' := 0) (ms' := 0) (h' := 0) (st := []) hF vl_RX8_106 rfl [qI 1, qI ((g_sk B n (g_len 32 + (g_sk B n (g_len 33 + (g_sk B n (g_len 34 + q))))) : Nat) : Int)] rfl rfl hS.t0 (by omega) (Nat.le_of_ble_eq_true rfl) dX8_readsOrder_58 ?_
                                                refine mX8_wrongA hS hSA hfl ?_
                                                show qX G F Q 0 0 61 [(5, qI 1), (4, qI ((g_sk B n (g_len 32 + (g_sk B n (g_len 33 + (g_sk B n (g_len 34 + q))))) : Nat) : Int)), (3, qI (q_b (97 ≤ (g_bt B n (g_sk B n (g_len 32 + (g_sk B n (g_len 33 + (g_sk B n (g_len 34 + q))))))) ∧ (g_bt B n (g_sk B n (g_len 32 + (g_sk B n (g_len 33 + (g_sk B n (g_len 34 + q))))))) ≤ 122))), (1, qI 3), (2, qI 7), (0, .ref m)] [] sz T (q_ps I m (g_mk (g_len 33 + (g_sk B n (g_len 32 + (g_sk B n (g_len 33 + (g_sk B n (g_len 34 + q))))))) 1 ((g_sk B n (g_len 32 + (g_sk B n (g_len 33 + (g_sk B n (g_len 34 + q))))) : Nat) : Int) s.cd s.op s.on s.hp)) (q_row L (m + 4) (g_up (g_up (g_up t 9 2) 10 1) 11 0)) P
                                                refine q_aload_n hF 5 rfl rfl dX8_readsOrder_61 ?_
                                                refine q_callV (kc := 0) (ks := 0) (mc' := 0) (ms' := 0) (h' := 0) (st := []) hF vl_RX8_95 rfl [] rfl rfl hS.t0 (by omega) (Nat.le_of_ble_eq_true rfl) dX8_readsOrder_62 ?_
                                                refine mX8_fine0 hS (show (1 : Int) ≠ 0 by decide) (show -2147483648 ≤ 1 ∧ 1 < 2147483648 by first | decide | omega | assumption) ?_
                                                refine q_ifne hF (by decide) dX8_readsOrder_65 (fun c65v440 => ?_) (fun c65v440 => ?_)
                                                · exact absurd c65v440 (by decide)
                                                · refine q_return hF rfl dX8_readsOrder_68 ?_
                                                  show Q (.inl none) sz T (q_ps I m (g_mk (g_len 33 + (g_sk B n (g_len 32 + (g_sk B n (g_len 33 + (g_sk B n (g_len 34 + q))))))) 1 ((g_sk B n (g_len 32 + (g_sk B n (g_len 33 + (g_sk B n (g_len 34 + q))))) : Nat) : Int) s.cd s.op s.on s.hp)) (q_row L (m + 4) (g_up (g_up (g_up t 9 2) 10 1) 11 0)) P
                                                  exact k1 1 (g_sk B n (g_len 32 + (g_sk B n (g_len 33 + (g_sk B n (g_len 34 + q)))))) _ _ (by rw [← hx2, g_rdOrder, g_rdO, if_neg c32_0_3, if_neg c32_1_3, if_pos c32_2_3, g_rdO1, if_neg (by decide), if_pos c7v327, g_rdO, if_neg c32_0_331, if_pos c32_1_331, g_rdO1, if_neg (by decide), if_pos c7v409, g_rdO, if_pos c32_0_413, g_rdO1, if_neg (by decide), if_pos c7v422, g_rdO, if_neg c32_0_426, if_pos c32_1_426, g_rdO1, if_pos (by decide)]) (by decide) rfl rfl (show g_len 33 + (g_sk B n (g_len 32 + (g_sk B n (g_len 33 + (g_sk B n (g_len 34 + q)))))) ≤ n by omega)
                                          · show qX G F Q 0 0 35 [(4, qI ((g_sk B n (g_len 32 + (g_sk B n (g_len 33 + (g_sk B n (g_len 34 + q))))) : Nat) : Int)), (3, qI (q_b (97 ≤ (g_bt B n (g_sk B n (g_len 32 + (g_sk B n (g_len 33 + (g_sk B n (g_len 34 + q))))))) ∧ (g_bt B n (g_sk B n (g_len 32 + (g_sk B n (g_len 33 + (g_sk B n (g_len 34 + q))))))) ≤ 122))), (1, qI 3), (2, qI 7), (5, qI 0), (0, .ref m)] [qI 2] sz T (q_ps I m (g_mk (g_len 34 + (g_sk B n (g_len 32 + (g_sk B n (g_len 33 + (g_sk B n (g_len 34 + q))))))) s.fl s.fa s.cd s.op s.on s.hp)) (q_row L (m + 4) (g_up (g_up (g_up t 9 2) 10 1) 11 0)) P
                                            refine q_istore hF (ls' := [(5, qI 2), (4, qI ((g_sk B n (g_len 32 + (g_sk B n (g_len 33 + (g_sk B n (g_len 34 + q))))) : Nat) : Int)), (3, qI (q_b (97 ≤ (g_bt B n (g_sk B n (g_len 32 + (g_sk B n (g_len 33 + (g_sk B n (g_len 34 + q))))))) ∧ (g_bt B n (g_sk B n (g_len 32 + (g_sk B n (g_len 33 + (g_sk B n (g_len 34 + q))))))) ≤ 122))), (1, qI 3), (2, qI 7), (0, .ref m)]) (by decide) rfl dX8_readsOrder_35 ?_
                                            have hwl441 := g_words_ok 34 (by decide)
                                            have hwn441 := g_isW_n (g_words_ok 34 (by decide)) (fun k hk => by have := g_ch_r (i := 34) (by decide) hk; omega) c32_2_426
                                            have hsr441 := g_sk_r (B := B) (n := n) (k := g_len 34 + (g_sk B n (g_len 32 + (g_sk B n (g_len 33 + (g_sk B n (g_len 34 + q))))))) (by omega)
                                            refine q_aload_n hF 5 rfl rfl dX8_readsOrder_37 ?_
                                            refine q_callV (kc := 0) (ks := 0) (mc' := 0) (ms' := 0) (h' := 0) (st := []) hF vl_RX8_95 rfl [] rfl rfl hS.t0 (by omega) (Nat.le_of_ble_eq_true rfl) dX8_readsOrder_38 ?_
                                            refine mX8_fineA hS hfl ?_
                                            refine q_ifeq hF (by decide) dX8_readsOrder_41 (fun c41v443 => ?_) (fun c41v443 => ?_)
                                            · exact absurd c41v443 (by decide)
                                            · refine q_iload_n hF 4 rfl rfl dX8_readsOrder_44 ?_
                                              refine q_iload hF 0 rfl dX8_readsOrder_45 ?_
                                              refine q_ishr hF (c0 := 1) (by decide) dX8_readsOrder_47 ?_
                                              refine q_iconst hF dX8_readsOrder_48 ?_
                                              refine q_iand hF (c0 := 1) (by decide) dX8_readsOrder_49 ?_
                                              refine q_iconst hF dX8_readsOrder_50 ?_
                                              refine q_icmpne hF (by decide) (by decide) dX8_readsOrder_51 (fun c51v444 => ?_) (fun c51v444 => ?_)
                                              · exact absurd c51v444 (by decide)
                                              · refine q_aload_n hF 5 rfl rfl dX8_readsOrder_54 ?_
                                                refine q_iconst hF dX8_readsOrder_55 ?_
                                                refine q_iload hF 1 rfl dX8_readsOrder_56 ?_
                                                refine q_callV (kc := 0) (ks := 0) (mc' := 0) (ms' := 0) (h' := 0) (st := []) hF vl_RX8_106 rfl [qI 1, qI ((g_sk B n (g_len 32 + (g_sk B n (g_len 33 + (g_sk B n (g_len 34 + q))))) : Nat) : Int)] rfl rfl hS.t0 (by omega) (Nat.le_of_ble_eq_true rfl) dX8_readsOrder_58 ?_
                                                refine mX8_wrongA hS hSA hfl ?_
                                                show qX G F Q 0 0 61 [(5, qI 2), (4, qI ((g_sk B n (g_len 32 + (g_sk B n (g_len 33 + (g_sk B n (g_len 34 + q))))) : Nat) : Int)), (3, qI (q_b (97 ≤ (g_bt B n (g_sk B n (g_len 32 + (g_sk B n (g_len 33 + (g_sk B n (g_len 34 + q))))))) ∧ (g_bt B n (g_sk B n (g_len 32 + (g_sk B n (g_len 33 + (g_sk B n (g_len 34 + q))))))) ≤ 122))), (1, qI 3), (2, qI 7), (0, .ref m)] [] sz T (q_ps I m (g_mk (g_len 34 + (g_sk B n (g_len 32 + (g_sk B n (g_len 33 + (g_sk B n (g_len 34 + q))))))) 1 ((g_sk B n (g_len 32 + (g_sk B n (g_len 33 + (g_sk B n (g_len 34 + q))))) : Nat) : Int) s.cd s.op s.on s.hp)) (q_row L (m + 4) (g_up (g_up (g_up t 9 2) 10 1) 11 0)) P
                                                refine q_aload_n hF 5 rfl rfl dX8_readsOrder_61 ?_
                                                refine q_callV (kc := 0) (ks := 0) (mc' := 0) (ms' := 0) (h' := 0) (st := []) hF vl_RX8_95 rfl [] rfl rfl hS.t0 (by omega) (Nat.le_of_ble_eq_true rfl) dX8_readsOrder_62 ?_
                                                refine mX8_fine0 hS (show (1 : Int) ≠ 0 by decide) (show -2147483648 ≤ 1 ∧ 1 < 2147483648 by first | decide | omega | assumption) ?_
                                                refine q_ifne hF (by decide) dX8_readsOrder_65 (fun c65v447 => ?_) (fun c65v447 => ?_)
                                                · exact absurd c65v447 (by decide)
                                                · refine q_return hF rfl dX8_readsOrder_68 ?_
                                                  show Q (.inl none) sz T (q_ps I m (g_mk (g_len 34 + (g_sk B n (g_len 32 + (g_sk B n (g_len 33 + (g_sk B n (g_len 34 + q))))))) 1 ((g_sk B n (g_len 32 + (g_sk B n (g_len 33 + (g_sk B n (g_len 34 + q))))) : Nat) : Int) s.cd s.op s.on s.hp)) (q_row L (m + 4) (g_up (g_up (g_up t 9 2) 10 1) 11 0)) P
                                                  exact k1 1 (g_sk B n (g_len 32 + (g_sk B n (g_len 33 + (g_sk B n (g_len 34 + q)))))) _ _ (by rw [← hx2, g_rdOrder, g_rdO, if_neg c32_0_3, if_neg c32_1_3, if_pos c32_2_3, g_rdO1, if_neg (by decide), if_pos c7v327, g_rdO, if_neg c32_0_331, if_pos c32_1_331, g_rdO1, if_neg (by decide), if_pos c7v409, g_rdO, if_pos c32_0_413, g_rdO1, if_neg (by decide), if_pos c7v422, g_rdO, if_neg c32_0_426, if_neg c32_1_426, if_pos c32_2_426, g_rdO1, if_pos (by decide)]) (by decide) rfl rfl (show g_len 34 + (g_sk B n (g_len 32 + (g_sk B n (g_len 33 + (g_sk B n (g_len 34 + q)))))) ≤ n by omega)
                                          · show qX G F Q 0 0 35 [(4, qI ((g_sk B n (g_len 32 + (g_sk B n (g_len 33 + (g_sk B n (g_len 34 + q))))) : Nat) : Int)), (3, qI (q_b (97 ≤ (g_bt B n (g_sk B n (g_len 32 + (g_sk B n (g_len 33 + (g_sk B n (g_len 34 + q))))))) ∧ (g_bt B n (g_sk B n (g_len 32 + (g_sk B n (g_len 33 + (g_sk B n (g_len 34 + q))))))) ≤ 122))), (1, qI 3), (2, qI 7), (5, qI 0), (0, .ref m)] [qI (-1)] sz T (q_ps I m (g_mk (g_sk B n (g_len 32 + (g_sk B n (g_len 33 + (g_sk B n (g_len 34 + q)))))) 1 ((g_sk B n (g_len 32 + (g_sk B n (g_len 33 + (g_sk B n (g_len 34 + q))))) : Nat) : Int) s.cd s.op s.on s.hp)) (q_row L (m + 4) (g_up (g_up (g_up t 9 2) 10 1) 11 0)) P
                                            refine q_istore hF (ls' := [(5, qI (-1)), (4, qI ((g_sk B n (g_len 32 + (g_sk B n (g_len 33 + (g_sk B n (g_len 34 + q))))) : Nat) : Int)), (3, qI (q_b (97 ≤ (g_bt B n (g_sk B n (g_len 32 + (g_sk B n (g_len 33 + (g_sk B n (g_len 34 + q))))))) ∧ (g_bt B n (g_sk B n (g_len 32 + (g_sk B n (g_len 33 + (g_sk B n (g_len 34 + q))))))) ≤ 122))), (1, qI 3), (2, qI 7), (0, .ref m)]) (by decide) rfl dX8_readsOrder_35 ?_
                                            skip
                                            refine q_aload_n hF 5 rfl rfl dX8_readsOrder_37 ?_
                                            refine q_callV (kc := 0) (ks := 0) (mc' := 0) (ms' := 0) (h' := 0) (st := []) hF vl_RX8_95 rfl [] rfl rfl hS.t0 (by omega) (Nat.le_of_ble_eq_true rfl) dX8_readsOrder_38 ?_
                                            refine mX8_fine0 hS (show (1 : Int) ≠ 0 by decide) (show -2147483648 ≤ 1 ∧ 1 < 2147483648 by first | decide | omega | assumption) ?_
                                            refine q_ifeq hF (by decide) dX8_readsOrder_41 (fun c41v449 => ?_) (fun c41v449 => ?_)
                                            · refine q_aload_n hF 5 rfl rfl dX8_readsOrder_61 ?_
                                              refine q_callV (kc := 0) (ks := 0) (mc' := 0) (ms' := 0) (h' := 0) (st := []) hF vl_RX8_95 rfl [] rfl rfl hS.t0 (by omega) (Nat.le_of_ble_eq_true rfl) dX8_readsOrder_62 ?_
                                              refine mX8_fine0 hS (show (1 : Int) ≠ 0 by decide) (show -2147483648 ≤ 1 ∧ 1 < 2147483648 by first | decide | omega | assumption) ?_
                                              refine q_ifne hF (by decide) dX8_readsOrder_65 (fun c65v451 => ?_) (fun c65v451 => ?_)
                                              · exact absurd c65v451 (by decide)
                                              · refine q_return hF rfl dX8_readsOrder_68 ?_
                                                show Q (.inl none) sz T (q_ps I m (g_mk (g_sk B n (g_len 32 + (g_sk B n (g_len 33 + (g_sk B n (g_len 34 + q)))))) 1 ((g_sk B n (g_len 32 + (g_sk B n (g_len 33 + (g_sk B n (g_len 34 + q))))) : Nat) : Int) s.cd s.op s.on s.hp)) (q_row L (m + 4) (g_up (g_up (g_up t 9 2) 10 1) 11 0)) P
                                                exact k1 1 (g_sk B n (g_len 32 + (g_sk B n (g_len 33 + (g_sk B n (g_len 34 + q)))))) _ _ (by rw [← hx2, g_rdOrder, g_rdO, if_neg c32_0_3, if_neg c32_1_3, if_pos c32_2_3, g_rdO1, if_neg (by decide), if_pos c7v327, g_rdO, if_neg c32_0_331, if_pos c32_1_331, g_rdO1, if_neg (by decide), if_pos c7v409, g_rdO, if_pos c32_0_413, g_rdO1, if_neg (by decide), if_pos c7v422, g_rdO, if_neg c32_0_426, if_neg c32_1_426, if_neg c32_2_426]) (by decide) rfl rfl (show g_sk B n (g_len 32 + (g_sk B n (g_len 33 + (g_sk B n (g_len 34 + q))))) ≤ n by omega)
                                            · exact absurd c41v449 (by decide)
                                    · exact absurd c65v419 (by decide)
                                  · exact absurd c51v417 (by decide)
                              · show qX G F Q 0 0 35 [(4, qI ((g_sk B n (g_len 33 + (g_sk B n (g_len 34 + q))) : Nat) : Int)), (3, qI (q_b (97 ≤ (g_bt B n (g_sk B n (g_len 33 + (g_sk B n (g_len 34 + q))))) ∧ (g_bt B n (g_sk B n (g_len 33 + (g_sk B n (g_len 34 + q))))) ≤ 122))), (1, qI 2), (2, qI 6), (5, qI 1), (0, .ref m)] [qI 1] sz T (q_ps I m (g_mk (g_len 33 + (g_sk B n (g_len 33 + (g_sk B n (g_len 34 + q))))) s.fl s.fa s.cd s.op s.on s.hp)) (q_row L (m + 4) (g_up (g_up t 9 2) 10 1)) P
                                refine q_istore hF (ls' := [(5, qI 1), (4, qI ((g_sk B n (g_len 33 + (g_sk B n (g_len 34 + q))) : Nat) : Int)), (3, qI (q_b (97 ≤ (g_bt B n (g_sk B n (g_len 33 + (g_sk B n (g_len 34 + q))))) ∧ (g_bt B n (g_sk B n (g_len 33 + (g_sk B n (g_len 34 + q))))) ≤ 122))), (1, qI 2), (2, qI 6), (0, .ref m)]) (by decide) rfl dX8_readsOrder_35 ?_
                                have hwl452 := g_words_ok 33 (by decide)
                                have hwn452 := g_isW_n (g_words_ok 33 (by decide)) (fun k hk => by have := g_ch_r (i := 33) (by decide) hk; omega) c32_1_413
                                have hsr452 := g_sk_r (B := B) (n := n) (k := g_len 33 + (g_sk B n (g_len 33 + (g_sk B n (g_len 34 + q))))) (by omega)
                                refine q_aload_n hF 5 rfl rfl dX8_readsOrder_37 ?_
                                refine q_callV (kc := 0) (ks := 0) (mc' := 0) (ms' := 0) (h' := 0) (st := []) hF vl_RX8_95 rfl [] rfl rfl hS.t0 (by omega) (Nat.le_of_ble_eq_true rfl) dX8_readsOrder_38 ?_
                                refine mX8_fineA hS hfl ?_
                                refine q_ifeq hF (by decide) dX8_readsOrder_41 (fun c41v454 => ?_) (fun c41v454 => ?_)
                                · exact absurd c41v454 (by decide)
                                · refine q_iload_n hF 4 rfl rfl dX8_readsOrder_44 ?_
                                  refine q_iload hF 0 rfl dX8_readsOrder_45 ?_
                                  refine q_ishr hF (c0 := 3) (by decide) dX8_readsOrder_47 ?_
                                  refine q_iconst hF dX8_readsOrder_48 ?_
                                  refine q_iand hF (c0 := 1) (by decide) dX8_readsOrder_49 ?_
                                  refine q_iconst hF dX8_readsOrder_50 ?_
                                  refine q_icmpne hF (by decide) (by decide) dX8_readsOrder_51 (fun c51v455 => ?_) (fun c51v455 => ?_)
                                  · exact absurd c51v455 (by decide)
                                  · refine q_aload_n hF 5 rfl rfl dX8_readsOrder_54 ?_
                                    refine q_iconst hF dX8_readsOrder_55 ?_
                                    refine q_iload hF 1 rfl dX8_readsOrder_56 ?_
                                    refine q_callV (kc := 0) (ks := 0) (mc' := 0) (ms' := 0) (h' := 0) (st := []) hF vl_RX8_106 rfl [qI 1, qI ((g_sk B n (g_len 33 + (g_sk B n (g_len 34 + q))) : Nat) : Int)] rfl rfl hS.t0 (by omega) (Nat.le_of_ble_eq_true rfl) dX8_readsOrder_58 ?_
                                    refine mX8_wrongA hS hSA hfl ?_
                                    show qX G F Q 0 0 61 [(5, qI 1), (4, qI ((g_sk B n (g_len 33 + (g_sk B n (g_len 34 + q))) : Nat) : Int)), (3, qI (q_b (97 ≤ (g_bt B n (g_sk B n (g_len 33 + (g_sk B n (g_len 34 + q))))) ∧ (g_bt B n (g_sk B n (g_len 33 + (g_sk B n (g_len 34 + q))))) ≤ 122))), (1, qI 2), (2, qI 6), (0, .ref m)] [] sz T (q_ps I m (g_mk (g_len 33 + (g_sk B n (g_len 33 + (g_sk B n (g_len 34 + q))))) 1 ((g_sk B n (g_len 33 + (g_sk B n (g_len 34 + q))) : Nat) : Int) s.cd s.op s.on s.hp)) (q_row L (m + 4) (g_up (g_up t 9 2) 10 1)) P
                                    refine q_aload_n hF 5 rfl rfl dX8_readsOrder_61 ?_
                                    refine q_callV (kc := 0) (ks := 0) (mc' := 0) (ms' := 0) (h' := 0) (st := []) hF vl_RX8_95 rfl [] rfl rfl hS.t0 (by omega) (Nat.le_of_ble_eq_true rfl) dX8_readsOrder_62 ?_
                                    refine mX8_fine0 hS (show (1 : Int) ≠ 0 by decide) (show -2147483648 ≤ 1 ∧ 1 < 2147483648 by first | decide | omega | assumption) ?_
                                    refine q_ifne hF (by decide) dX8_readsOrder_65 (fun c65v458 => ?_) (fun c65v458 => ?_)
                                    · exact absurd c65v458 (by decide)
                                    · refine q_return hF rfl dX8_readsOrder_68 ?_
                                      show Q (.inl none) sz T (q_ps I m (g_mk (g_len 33 + (g_sk B n (g_len 33 + (g_sk B n (g_len 34 + q))))) 1 ((g_sk B n (g_len 33 + (g_sk B n (g_len 34 + q))) : Nat) : Int) s.cd s.op s.on s.hp)) (q_row L (m + 4) (g_up (g_up t 9 2) 10 1)) P
                                      exact k1 1 (g_sk B n (g_len 33 + (g_sk B n (g_len 34 + q)))) _ _ (by rw [← hx2, g_rdOrder, g_rdO, if_neg c32_0_3, if_neg c32_1_3, if_pos c32_2_3, g_rdO1, if_neg (by decide), if_pos c7v327, g_rdO, if_neg c32_0_331, if_pos c32_1_331, g_rdO1, if_neg (by decide), if_pos c7v409, g_rdO, if_neg c32_0_413, if_pos c32_1_413, g_rdO1, if_pos (by decide)]) (by decide) rfl rfl (show g_len 33 + (g_sk B n (g_len 33 + (g_sk B n (g_len 34 + q)))) ≤ n by omega)
                              · show qX G F Q 0 0 35 [(4, qI ((g_sk B n (g_len 33 + (g_sk B n (g_len 34 + q))) : Nat) : Int)), (3, qI (q_b (97 ≤ (g_bt B n (g_sk B n (g_len 33 + (g_sk B n (g_len 34 + q))))) ∧ (g_bt B n (g_sk B n (g_len 33 + (g_sk B n (g_len 34 + q))))) ≤ 122))), (1, qI 2), (2, qI 6), (5, qI 1), (0, .ref m)] [qI 2] sz T (q_ps I m (g_mk (g_len 34 + (g_sk B n (g_len 33 + (g_sk B n (g_len 34 + q))))) s.fl s.fa s.cd s.op s.on s.hp)) (q_row L (m + 4) (g_up (g_up t 9 2) 10 1)) P
                                refine q_istore hF (ls' := [(5, qI 2), (4, qI ((g_sk B n (g_len 33 + (g_sk B n (g_len 34 + q))) : Nat) : Int)), (3, qI (q_b (97 ≤ (g_bt B n (g_sk B n (g_len 33 + (g_sk B n (g_len 34 + q))))) ∧ (g_bt B n (g_sk B n (g_len 33 + (g_sk B n (g_len 34 + q))))) ≤ 122))), (1, qI 2), (2, qI 6), (0, .ref m)]) (by decide) rfl dX8_readsOrder_35 ?_
                                have hwl459 := g_words_ok 34 (by decide)
                                have hwn459 := g_isW_n (g_words_ok 34 (by decide)) (fun k hk => by have := g_ch_r (i := 34) (by decide) hk; omega) c32_2_413
                                have hsr459 := g_sk_r (B := B) (n := n) (k := g_len 34 + (g_sk B n (g_len 33 + (g_sk B n (g_len 34 + q))))) (by omega)
                                refine q_aload_n hF 5 rfl rfl dX8_readsOrder_37 ?_
                                refine q_callV (kc := 0) (ks := 0) (mc' := 0) (ms' := 0) (h' := 0) (st := []) hF vl_RX8_95 rfl [] rfl rfl hS.t0 (by omega) (Nat.le_of_ble_eq_true rfl) dX8_readsOrder_38 ?_
                                refine mX8_fineA hS hfl ?_
                                refine q_ifeq hF (by decide) dX8_readsOrder_41 (fun c41v461 => ?_) (fun c41v461 => ?_)
                                · exact absurd c41v461 (by decide)
                                · refine q_iload_n hF 4 rfl rfl dX8_readsOrder_44 ?_
                                  refine q_iload hF 0 rfl dX8_readsOrder_45 ?_
                                  refine q_ishr hF (c0 := 1) (by decide) dX8_readsOrder_47 ?_
                                  refine q_iconst hF dX8_readsOrder_48 ?_
                                  refine q_iand hF (c0 := 1) (by decide) dX8_readsOrder_49 ?_
                                  refine q_iconst hF dX8_readsOrder_50 ?_
                                  refine q_icmpne hF (by decide) (by decide) dX8_readsOrder_51 (fun c51v462 => ?_) (fun c51v462 => ?_)
                                  · exact absurd c51v462 (by decide)
                                  · refine q_aload_n hF 5 rfl rfl dX8_readsOrder_54 ?_
                                    refine q_iconst hF dX8_readsOrder_55 ?_
                                    refine q_iload hF 1 rfl dX8_readsOrder_56 ?_
                                    refine q_callV (kc := 0) (ks := 0) (mc' := 0) (ms' := 0) (h' := 0) (st := []) hF vl_RX8_106 rfl [qI 1, qI ((g_sk B n (g_len 33 + (g_sk B n (g_len 34 + q))) : Nat) : Int)] rfl rfl hS.t0 (by omega) (Nat.le_of_ble_eq_true rfl) dX8_readsOrder_58 ?_
                                    refine mX8_wrongA hS hSA hfl ?_
                                    show qX G F Q 0 0 61 [(5, qI 2), (4, qI ((g_sk B n (g_len 33 + (g_sk B n (g_len 34 + q))) : Nat) : Int)), (3, qI (q_b (97 ≤ (g_bt B n (g_sk B n (g_len 33 + (g_sk B n (g_len 34 + q))))) ∧ (g_bt B n (g_sk B n (g_len 33 + (g_sk B n (g_len 34 + q))))) ≤ 122))), (1, qI 2), (2, qI 6), (0, .ref m)] [] sz T (q_ps I m (g_mk (g_len 34 + (g_sk B n (g_len 33 + (g_sk B n (g_len 34 + q))))) 1 ((g_sk B n (g_len 33 + (g_sk B n (g_len 34 + q))) : Nat) : Int) s.cd s.op s.on s.hp)) (q_row L (m + 4) (g_up (g_up t 9 2) 10 1)) P
                                    refine q_aload_n hF 5 rfl rfl dX8_readsOrder_61 ?_
                                    refine q_callV (kc := 0) (ks := 0) (mc' := 0) (ms' := 0) (h' := 0) (st := []) hF vl_RX8_95 rfl [] rfl rfl hS.t0 (by omega) (Nat.le_of_ble_eq_true rfl) dX8_readsOrder_62 ?_
                                    refine mX8_fine0 hS (show (1 : Int) ≠ 0 by decide) (show -2147483648 ≤ 1 ∧ 1 < 2147483648 by first | decide | omega | assumption) ?_
                                    refine q_ifne hF (by decide) dX8_readsOrder_65 (fun c65v465 => ?_) (fun c65v465 => ?_)
                                    · exact absurd c65v465 (by decide)
                                    · refine q_return hF rfl dX8_readsOrder_68 ?_
                                      show Q (.inl none) sz T (q_ps I m (g_mk (g_len 34 + (g_sk B n (g_len 33 + (g_sk B n (g_len 34 + q))))) 1 ((g_sk B n (g_len 33 + (g_sk B n (g_len 34 + q))) : Nat) : Int) s.cd s.op s.on s.hp)) (q_row L (m + 4) (g_up (g_up t 9 2) 10 1)) P
                                      exact k1 1 (g_sk B n (g_len 33 + (g_sk B n (g_len 34 + q)))) _ _ (by rw [← hx2, g_rdOrder, g_rdO, if_neg c32_0_3, if_neg c32_1_3, if_pos c32_2_3, g_rdO1, if_neg (by decide), if_pos c7v327, g_rdO, if_neg c32_0_331, if_pos c32_1_331, g_rdO1, if_neg (by decide), if_pos c7v409, g_rdO, if_neg c32_0_413, if_neg c32_1_413, if_pos c32_2_413, g_rdO1, if_pos (by decide)]) (by decide) rfl rfl (show g_len 34 + (g_sk B n (g_len 33 + (g_sk B n (g_len 34 + q)))) ≤ n by omega)
                              · show qX G F Q 0 0 35 [(4, qI ((g_sk B n (g_len 33 + (g_sk B n (g_len 34 + q))) : Nat) : Int)), (3, qI (q_b (97 ≤ (g_bt B n (g_sk B n (g_len 33 + (g_sk B n (g_len 34 + q))))) ∧ (g_bt B n (g_sk B n (g_len 33 + (g_sk B n (g_len 34 + q))))) ≤ 122))), (1, qI 2), (2, qI 6), (5, qI 1), (0, .ref m)] [qI (-1)] sz T (q_ps I m (g_mk (g_sk B n (g_len 33 + (g_sk B n (g_len 34 + q)))) 1 ((g_sk B n (g_len 33 + (g_sk B n (g_len 34 + q))) : Nat) : Int) s.cd s.op s.on s.hp)) (q_row L (m + 4) (g_up (g_up t 9 2) 10 1)) P
                                refine q_istore hF (ls' := [(5, qI (-1)), (4, qI ((g_sk B n (g_len 33 + (g_sk B n (g_len 34 + q))) : Nat) : Int)), (3, qI (q_b (97 ≤ (g_bt B n (g_sk B n (g_len 33 + (g_sk B n (g_len 34 + q))))) ∧ (g_bt B n (g_sk B n (g_len 33 + (g_sk B n (g_len 34 + q))))) ≤ 122))), (1, qI 2), (2, qI 6), (0, .ref m)]) (by decide) rfl dX8_readsOrder_35 ?_
                                skip
                                refine q_aload_n hF 5 rfl rfl dX8_readsOrder_37 ?_
                                refine q_callV (kc := 0) (ks := 0) (mc' := 0) (ms' := 0) (h' := 0) (st := []) hF vl_RX8_95 rfl [] rfl rfl hS.t0 (by omega) (Nat.le_of_ble_eq_true rfl) dX8_readsOrder_38 ?_
                                refine mX8_fine0 hS (show (1 : Int) ≠ 0 by decide) (show -2147483648 ≤ 1 ∧ 1 < 2147483648 by first | decide | omega | assumption) ?_
                                refine q_ifeq hF (by decide) dX8_readsOrder_41 (fun c41v467 => ?_) (fun c41v467 => ?_)
                                · refine q_aload_n hF 5 rfl rfl dX8_readsOrder_61 ?_
                                  refine q_callV (kc := 0) (ks := 0) (mc' := 0) (ms' := 0) (h' := 0) (st := []) hF vl_RX8_95 rfl [] rfl rfl hS.t0 (by omega) (Nat.le_of_ble_eq_true rfl) dX8_readsOrder_62 ?_
                                  refine mX8_fine0 hS (show (1 : Int) ≠ 0 by decide) (show -2147483648 ≤ 1 ∧ 1 < 2147483648 by first | decide | omega | assumption) ?_
                                  refine q_ifne hF (by decide) dX8_readsOrder_65 (fun c65v469 => ?_) (fun c65v469 => ?_)
                                  · exact absurd c65v469 (by decide)
                                  · refine q_return hF rfl dX8_readsOrder_68 ?_
                                    show Q (.inl none) sz T (q_ps I m (g_mk (g_sk B n (g_len 33 + (g_sk B n (g_len 34 + q)))) 1 ((g_sk B n (g_len 33 + (g_sk B n (g_len 34 + q))) : Nat) : Int) s.cd s.op s.on s.hp)) (q_row L (m + 4) (g_up (g_up t 9 2) 10 1)) P
                                    exact k1 1 (g_sk B n (g_len 33 + (g_sk B n (g_len 34 + q)))) _ _ (by rw [← hx2, g_rdOrder, g_rdO, if_neg c32_0_3, if_neg c32_1_3, if_pos c32_2_3, g_rdO1, if_neg (by decide), if_pos c7v327, g_rdO, if_neg c32_0_331, if_pos c32_1_331, g_rdO1, if_neg (by decide), if_pos c7v409, g_rdO, if_neg c32_0_413, if_neg c32_1_413, if_neg c32_2_413]) (by decide) rfl rfl (show g_sk B n (g_len 33 + (g_sk B n (g_len 34 + q))) ≤ n by omega)
                                · exact absurd c41v467 (by decide)
                        · exact absurd c65v406 (by decide)
                      · exact absurd c51v404 (by decide)
                  · show qX G F Q 0 0 35 [(4, qI ((g_sk B n (g_len 34 + q) : Nat) : Int)), (3, qI (q_b (97 ≤ (g_bt B n (g_sk B n (g_len 34 + q))) ∧ (g_bt B n (g_sk B n (g_len 34 + q))) ≤ 122))), (1, qI 1), (2, qI 4), (5, qI 2), (0, .ref m)] [qI 2] sz T (q_ps I m (g_mk (g_len 34 + (g_sk B n (g_len 34 + q))) s.fl s.fa s.cd s.op s.on s.hp)) (q_row L (m + 4) (g_up t 9 2)) P
                    refine q_istore hF (ls' := [(5, qI 2), (4, qI ((g_sk B n (g_len 34 + q) : Nat) : Int)), (3, qI (q_b (97 ≤ (g_bt B n (g_sk B n (g_len 34 + q))) ∧ (g_bt B n (g_sk B n (g_len 34 + q))) ≤ 122))), (1, qI 1), (2, qI 4), (0, .ref m)]) (by decide) rfl dX8_readsOrder_35 ?_
                    have hwl470 := g_words_ok 34 (by decide)
                    have hwn470 := g_isW_n (g_words_ok 34 (by decide)) (fun k hk => by have := g_ch_r (i := 34) (by decide) hk; omega) c32_2_331
                    have hsr470 := g_sk_r (B := B) (n := n) (k := g_len 34 + (g_sk B n (g_len 34 + q))) (by omega)
                    refine q_aload_n hF 5 rfl rfl dX8_readsOrder_37 ?_
                    refine q_callV (kc := 0) (ks := 0) (mc' := 0) (ms' := 0) (h' := 0) (st := []) hF vl_RX8_95 rfl [] rfl rfl hS.t0 (by omega) (Nat.le_of_ble_eq_true rfl) dX8_readsOrder_38 ?_
                    refine mX8_fineA hS hfl ?_
                    refine q_ifeq hF (by decide) dX8_readsOrder_41 (fun c41v472 => ?_) (fun c41v472 => ?_)
                    · exact absurd c41v472 (by decide)
                    · refine q_iload_n hF 4 rfl rfl dX8_readsOrder_44 ?_
                      refine q_iload hF 0 rfl dX8_readsOrder_45 ?_
                      refine q_ishr hF (c0 := 1) (by decide) dX8_readsOrder_47 ?_
                      refine q_iconst hF dX8_readsOrder_48 ?_
                      refine q_iand hF (c0 := 1) (by decide) dX8_readsOrder_49 ?_
                      refine q_iconst hF dX8_readsOrder_50 ?_
                      refine q_icmpne hF (by decide) (by decide) dX8_readsOrder_51 (fun c51v473 => ?_) (fun c51v473 => ?_)
                      · exact absurd c51v473 (by decide)
                      · refine q_aload_n hF 5 rfl rfl dX8_readsOrder_54 ?_
                        refine q_iconst hF dX8_readsOrder_55 ?_
                        refine q_iload hF 1 rfl dX8_readsOrder_56 ?_
                        refine q_callV (kc := 0) (ks := 0) (mc' := 0) (ms' := 0) (h' := 0) (st := []) hF vl_RX8_106 rfl [qI 1, qI ((g_sk B n (g_len 34 + q) : Nat) : Int)] rfl rfl hS.t0 (by omega) (Nat.le_of_ble_eq_true rfl) dX8_readsOrder_58 ?_
                        refine mX8_wrongA hS hSA hfl ?_
                        show qX G F Q 0 0 61 [(5, qI 2), (4, qI ((g_sk B n (g_len 34 + q) : Nat) : Int)), (3, qI (q_b (97 ≤ (g_bt B n (g_sk B n (g_len 34 + q))) ∧ (g_bt B n (g_sk B n (g_len 34 + q))) ≤ 122))), (1, qI 1), (2, qI 4), (0, .ref m)] [] sz T (q_ps I m (g_mk (g_len 34 + (g_sk B n (g_len 34 + q))) 1 ((g_sk B n (g_len 34 + q) : Nat) : Int) s.cd s.op s.on s.hp)) (q_row L (m + 4) (g_up t 9 2)) P
                        refine q_aload_n hF 5 rfl rfl dX8_readsOrder_61 ?_
                        refine q_callV (kc := 0) (ks := 0) (mc' := 0) (ms' := 0) (h' := 0) (st := []) hF vl_RX8_95 rfl [] rfl rfl hS.t0 (by omega) (Nat.le_of_ble_eq_true rfl) dX8_readsOrder_62 ?_
                        refine mX8_fine0 hS (show (1 : Int) ≠ 0 by decide) (show -2147483648 ≤ 1 ∧ 1 < 2147483648 by first | decide | omega | assumption) ?_
                        refine q_ifne hF (by decide) dX8_readsOrder_65 (fun c65v476 => ?_) (fun c65v476 => ?_)
                        · exact absurd c65v476 (by decide)
                        · refine q_return hF rfl dX8_readsOrder_68 ?_
                          show Q (.inl none) sz T (q_ps I m (g_mk (g_len 34 + (g_sk B n (g_len 34 + q))) 1 ((g_sk B n (g_len 34 + q) : Nat) : Int) s.cd s.op s.on s.hp)) (q_row L (m + 4) (g_up t 9 2)) P
                          exact k1 1 (g_sk B n (g_len 34 + q)) _ _ (by rw [← hx2, g_rdOrder, g_rdO, if_neg c32_0_3, if_neg c32_1_3, if_pos c32_2_3, g_rdO1, if_neg (by decide), if_pos c7v327, g_rdO, if_neg c32_0_331, if_neg c32_1_331, if_pos c32_2_331, g_rdO1, if_pos (by decide)]) (by decide) rfl rfl (show g_len 34 + (g_sk B n (g_len 34 + q)) ≤ n by omega)
                  · show qX G F Q 0 0 35 [(4, qI ((g_sk B n (g_len 34 + q) : Nat) : Int)), (3, qI (q_b (97 ≤ (g_bt B n (g_sk B n (g_len 34 + q))) ∧ (g_bt B n (g_sk B n (g_len 34 + q))) ≤ 122))), (1, qI 1), (2, qI 4), (5, qI 2), (0, .ref m)] [qI (-1)] sz T (q_ps I m (g_mk (g_sk B n (g_len 34 + q)) 1 ((g_sk B n (g_len 34 + q) : Nat) : Int) s.cd s.op s.on s.hp)) (q_row L (m + 4) (g_up t 9 2)) P
                    refine q_istore hF (ls' := [(5, qI (-1)), (4, qI ((g_sk B n (g_len 34 + q) : Nat) : Int)), (3, qI (q_b (97 ≤ (g_bt B n (g_sk B n (g_len 34 + q))) ∧ (g_bt B n (g_sk B n (g_len 34 + q))) ≤ 122))), (1, qI 1), (2, qI 4), (0, .ref m)]) (by decide) rfl dX8_readsOrder_35 ?_
                    skip
                    refine q_aload_n hF 5 rfl rfl dX8_readsOrder_37 ?_
                    refine q_callV (kc := 0) (ks := 0) (mc' := 0) (ms' := 0) (h' := 0) (st := []) hF vl_RX8_95 rfl [] rfl rfl hS.t0 (by omega) (Nat.le_of_ble_eq_true rfl) dX8_readsOrder_38 ?_
                    refine mX8_fine0 hS (show (1 : Int) ≠ 0 by decide) (show -2147483648 ≤ 1 ∧ 1 < 2147483648 by first | decide | omega | assumption) ?_
                    refine q_ifeq hF (by decide) dX8_readsOrder_41 (fun c41v478 => ?_) (fun c41v478 => ?_)
                    · refine q_aload_n hF 5 rfl rfl dX8_readsOrder_61 ?_
                      refine q_callV (kc := 0) (ks := 0) (mc' := 0) (ms' := 0) (h' := 0) (st := []) hF vl_RX8_95 rfl [] rfl rfl hS.t0 (by omega) (Nat.le_of_ble_eq_true rfl) dX8_readsOrder_62 ?_
                      refine mX8_fine0 hS (show (1 : Int) ≠ 0 by decide) (show -2147483648 ≤ 1 ∧ 1 < 2147483648 by first | decide | omega | assumption) ?_
                      refine q_ifne hF (by decide) dX8_readsOrder_65 (fun c65v480 => ?_) (fun c65v480 => ?_)
                      · exact absurd c65v480 (by decide)
                      · refine q_return hF rfl dX8_readsOrder_68 ?_
                        show Q (.inl none) sz T (q_ps I m (g_mk (g_sk B n (g_len 34 + q)) 1 ((g_sk B n (g_len 34 + q) : Nat) : Int) s.cd s.op s.on s.hp)) (q_row L (m + 4) (g_up t 9 2)) P
                        exact k1 1 (g_sk B n (g_len 34 + q)) _ _ (by rw [← hx2, g_rdOrder, g_rdO, if_neg c32_0_3, if_neg c32_1_3, if_pos c32_2_3, g_rdO1, if_neg (by decide), if_pos c7v327, g_rdO, if_neg c32_0_331, if_neg c32_1_331, if_neg c32_2_331]) (by decide) rfl rfl (show g_sk B n (g_len 34 + q) ≤ n by omega)
                    · exact absurd c41v478 (by decide)
            · exact absurd c65 (by decide)
          · exact absurd c51 (by decide)
      · show qX G F Q 0 0 35 [(4, qI (q : Int)), (3, qI 1), (2, qI 0), (1, qI 0), (0, .ref m)] [qI (-1)] sz T (q_ps I m (g_mk q 1 (q : Int) s.cd s.op s.on s.hp)) (q_row L (m + 4) t) P
        refine q_istore hF (ls' := [(5, qI (-1)), (4, qI (q : Int)), (3, qI 1), (2, qI 0), (1, qI 0), (0, .ref m)]) (by decide) rfl dX8_readsOrder_35 ?_
        skip
        refine q_aload_n hF 5 rfl rfl dX8_readsOrder_37 ?_
        refine q_callV (kc := 0) (ks := 0) (mc' := 0) (ms' := 0) (h' := 0) (st := []) hF vl_RX8_95 rfl [] rfl rfl hS.t0 (by omega) (Nat.le_of_ble_eq_true rfl) dX8_readsOrder_38 ?_
        refine mX8_fine0 hS (show (1 : Int) ≠ 0 by decide) (show -2147483648 ≤ 1 ∧ 1 < 2147483648 by first | decide | omega | assumption) ?_
        refine q_ifeq hF (by decide) dX8_readsOrder_41 (fun c41 => ?_) (fun c41 => ?_)
        · refine q_aload_n hF 5 rfl rfl dX8_readsOrder_61 ?_
          refine q_callV (kc := 0) (ks := 0) (mc' := 0) (ms' := 0) (h' := 0) (st := []) hF vl_RX8_95 rfl [] rfl rfl hS.t0 (by omega) (Nat.le_of_ble_eq_true rfl) dX8_readsOrder_62 ?_
          refine mX8_fine0 hS (show (1 : Int) ≠ 0 by decide) (show -2147483648 ≤ 1 ∧ 1 < 2147483648 by first | decide | omega | assumption) ?_
          refine q_ifne hF (by decide) dX8_readsOrder_65 (fun c65 => ?_) (fun c65 => ?_)
          · exact absurd c65 (by decide)
          · refine q_return hF rfl dX8_readsOrder_68 ?_
            show Q (.inl none) sz T (q_ps I m (g_mk q 1 (q : Int) s.cd s.op s.on s.hp)) (q_row L (m + 4) t) P
            exact k1 1 q _ _ (by rw [← hx2, g_rdOrder, g_rdO, if_neg c32_0_3, if_neg c32_1_3, if_neg c32_2_3]) (by decide) rfl rfl (show q ≤ n by omega)
        · exact absurd c41 (by decide)
