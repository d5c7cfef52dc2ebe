/-! the line of a law -/
def g_bl (r : g_Re) (f : Nat → List Int → g_Rl) : g_Rl := match r with
  | .inl c => f c.1 c.2
  | .inr e => .inr e
theorem g_bl_k (p : Nat) (cs : List Int) (f : Nat → List Int → g_Rl) : g_bl (g_Re.ok p cs) f = f p cs := rfl
theorem g_bl_e (w : Int) (x : Nat) (f : Nat → List Int → g_Rl) : g_bl (g_Re.er w x) f = g_Rl.er w x := rfl
/-- behind sleep and a kind, at q -/
def g_rdS (B : Nat → Int) (n f : Nat) (s : g_PS) (t : Nat → Int) (kz : Int) (q : Nat) : g_Rl :=
  if g_nm B n q then (if g_lnd B n t q (g_nl B n q) = -1 then g_Rl.er 3 q else
    if 0 < t (89 + 2 * (5 * kz + g_lnd B n t q (g_nl B n q)) + 1).toNat then g_Rl.er 6 q else
      g_bl (g_ex B n f 3 0 (g_nl B n q + q)) fun p1 cs => g_Rl.ok (g_mk p1 s.fl s.fa (s.cd + g_el cs) 0 s.on s.hp) (g_up (g_up (g_app t (139 + s.cd) (g_encs cs)) (89 + 2 * (5 * kz + g_lnd B n t q (g_nl B n q))).toNat (s.cd : Int)) (89 + 2 * (5 * kz + g_lnd B n t q (g_nl B n q)) + 1).toNat ((s.cd + g_el cs : Nat) : Int)))
  else g_Rl.er 1 q
def g_rdSleep (B : Nat → Int) (n f : Nat) (s : g_PS) (t : Nat → Int) (q : Nat) : g_Rl :=
  if g_isW B n 27 q then g_rdS B n f s t 0 (g_sk B n (g_len 27 + q))
  else if g_isW B n 28 q then g_rdS B n f s t 1 (g_sk B n (g_len 28 + q))
  else if g_isW B n 29 q then g_rdS B n f s t 2 (g_sk B n (g_len 29 + q))
  else if g_isW B n 30 q then g_rdS B n f s t 3 (g_sk B n (g_len 30 + q))
  else if g_isW B n 31 q then g_rdS B n f s t 4 (g_sk B n (g_len 31 + q))
  else g_Rl.er 1 q
set_option maxRecDepth 100000 in
theorem mX8_readsSleepP {G : q_G} {sz : Nat} {T : q_T} {I L : q_I} {P : q_P} {Q : q_Q} {m : Nat} {q f : Nat} {r : g_Rl} {s : g_PS} {B : Nat → Int} {n : Nat} {t : Nat → Int} (hS : q_SM T P m) (hSA : q_A G m) (hB : q_BT I m B n) (hp : s.p ≤ n) (hfl : s.fl = 0) (ht : g_TR t) (ih3 : q_CE G T P m n B f 3 YX8_sum (fun o => 9 + 3 * (3 - o) + 2)) (hfu : ∀ p, p ≤ n → g_ex B n f 3 0 p ≠ .er 0 0) (hcd : 2 * s.cd ≤ 3 * s.p) (hsk : g_sk B n s.p = q) (hne2 : g_rdSleep B n f s t q = r) (k0 : ∀ s' t', r = .ok s' t' → Q (.inl none) sz T (q_ps I m s') (q_row L (m + 4) t') P) (k1 : ∀ (w : Int) (x : Nat) (s' : g_PS) (t' : Nat → Int), r = .er w x → (1 ≤ w ∧ w ≤ 7) → s'.fl = w → s'.fa = (x : Int) → s'.p ≤ n → Q (.inl none) sz T (q_ps I m s') (q_row L (m + 4) t') P) : qC G 22 0 0 YX8_readsSleep [.ref m] sz T (q_ps I m s) (q_row L (m + 4) t) P Q := by
  refine qC_of (by decide +kernel) rfl rfl (Nat.le_of_ble_eq_true rfl) (fun F hF _ _ => ?_)
  have hn6 := hB.2.1
  have hq := g_sk_r (B := B) hp
  rw [hsk] at hq
  have hqq : g_sk B n q = q := by rw [← hsk]; exact g_sk_sk hp
  have hx2 := hne2
  have ht0 := ht.2
  refine q_aload_n hF 0 rfl rfl dX8_readsSleep_0 ?_
  refine q_iconst hF dX8_readsSleep_1 ?_
  refine q_iconst hF dX8_readsSleep_2 ?_
  refine q_callV (kc := 0) (ks := 0) (mc' := 0) (ms' := 0) (h' := 6) (st := []) hF vl_RX8_220 rfl [qI 0, qI 4] rfl rfl hS.t0 (by omega) (Nat.le_of_ble_eq_true rfl) dX8_readsSleep_3 ?_
  refine mX8_one0 hS hSA hB (show s.p ≤ n by omega) hfl hsk (fun (c3_0_1 : g_isW B n 27 q) => ?_) (fun (c3_0_1 : ¬ (g_isW B n 27 q)) (c3_1_1 : g_isW B n 28 q) => ?_) (fun (c3_0_1 : ¬ (g_isW B n 27 q)) (c3_1_1 : ¬ (g_isW B n 28 q)) (c3_2_1 : g_isW B n 29 q) => ?_) (fun (c3_0_1 : ¬ (g_isW B n 27 q)) (c3_1_1 : ¬ (g_isW B n 28 q)) (c3_2_1 : ¬ (g_isW B n 29 q)) (c3_3_1 : g_isW B n 30 q) => ?_) (fun (c3_0_1 : ¬ (g_isW B n 27 q)) (c3_1_1 : ¬ (g_isW B n 28 q)) (c3_2_1 : ¬ (g_isW B n 29 q)) (c3_3_1 : ¬ (g_isW B n 30 q)) (c3_4_1 : g_isW B n 31 q) => ?_) (fun (c3_0_1 : ¬ (g_isW B n 27 q)) (c3_1_1 : ¬ (g_isW B n 28 q)) (c3_2_1 : ¬ (g_isW B n 29 q)) (c3_3_1 : ¬ (g_isW B n 30 q)) (c3_4_1 : ¬ (g_isW B n 31 q)) => ?_)
  · show qX G F Q 0 0 6 [(0, .ref m)] [qI 0] sz T (q_ps I m (g_mk (g_len 27 + q) s.fl s.fa s.cd s.op s.on s.hp)) (q_row L (m + 4) t) P
    refine q_istore_n hF (ls' := [(1, qI 0), (0, .ref m)]) rfl (by decide) rfl dX8_readsSleep_6 ?_
    have hwl := g_words_ok 27 (by decide)
    have hwn := g_isW_n (g_words_ok 27 (by decide)) (fun k hk => by have := g_ch_r (i := 27) (by decide) hk; omega) c3_0_1
    have hsr := g_sk_r (B := B) (n := n) (k := g_len 27 + q) (by omega)
    have hnl := g_nl_r (B := B) (n := n) (q := (g_sk B n (g_len 27 + q))) hsr.2
    have hlf := g_lndF_r (B := B) (n := n) (t := t) (q := (g_sk B n (g_len 27 + q))) (c := g_nl B n (g_sk B n (g_len 27 + q))) 6 0
    change -1 ≤ g_lnd B n t (g_sk B n (g_len 27 + q)) (g_nl B n (g_sk B n (g_len 27 + q))) ∧ (g_lnd B n t (g_sk B n (g_len 27 + q)) (g_nl B n (g_sk B n (g_len 27 + q))) = -1 ∨ g_lnd B n t (g_sk B n (g_len 27 + q)) (g_nl B n (g_sk B n (g_len 27 + q))) < t 0) at hlf
    refine q_aload_n hF 1 rfl rfl dX8_readsSleep_7 ?_
    refine q_callV (kc := 0) (ks := 0) (mc' := 0) (ms' := 0) (h' := 1) (st := []) hF vl_RX8_78 rfl [] rfl rfl hS.t0 (by omega) (Nat.le_of_ble_eq_true rfl) dX8_readsSleep_8 ?_
    refine mX8_herePQ (B := B) (n := n) hS hSA hB (show (g_len 27 + q) ≤ n by omega) rfl ?_
    show qX G F Q 0 0 11 [(1, qI 0), (0, .ref m)] [qI (g_bt B n (g_sk B n (g_len 27 + q)))] sz T (q_ps I m (g_mk (g_sk B n (g_len 27 + q)) s.fl s.fa s.cd s.op s.on s.hp)) (q_row L (m + 4) t) P
    refine q_pop hF rfl dX8_readsSleep_11 ?_
    refine q_aload_n hF 1 rfl rfl dX8_readsSleep_12 ?_
    refine q_getIv hF (z := ((g_sk B n (g_len 27 + q) : Nat) : Int)) fl_RX8_65 hS.t0 q_ps_4 dX8_readsSleep_13 ?_
    refine q_istore_n hF (ls' := [(2, qI ((g_sk B n (g_len 27 + q) : Nat) : Int)), (1, qI 0), (0, .ref m)]) rfl (by decide) rfl dX8_readsSleep_16 ?_
    refine q_aload_n hF 2 rfl rfl dX8_readsSleep_17 ?_
    refine q_callV (kc := 0) (ks := 0) (mc' := 0) (ms' := 0) (h' := 7) (st := []) hF vl_RX8_223 rfl [] rfl rfl hS.t0 (by omega) (Nat.le_of_ble_eq_true rfl) dX8_readsSleep_18 ?_
    refine mX8_landHereP hS hSA hB (show (g_sk B n (g_len 27 + q)) ≤ n by omega) hfl ht (g_sk_sk (by omega)) (fun (c18_0_3 : g_nm B n (g_sk B n (g_len 27 + q))) (c18_1_3 : g_lnd B n t (g_sk B n (g_len 27 + q)) (g_nl B n (g_sk B n (g_len 27 + q))) ≠ -1) => ?_) (fun (c18_0_3 : g_nm B n (g_sk B n (g_len 27 + q))) (c18_1_3 : g_lnd B n t (g_sk B n (g_len 27 + q)) (g_nl B n (g_sk B n (g_len 27 + q))) = -1) => ?_) (fun (c18_0_3 : ¬ (g_nm B n (g_sk B n (g_len 27 + q)))) => ?_)
    · show qX G F Q 0 0 21 [(2, qI ((g_sk B n (g_len 27 + q) : Nat) : Int)), (1, qI 0), (0, .ref m)] [qI (g_lnd B n t (g_sk B n (g_len 27 + q)) (g_nl B n (g_sk B n (g_len 27 + q))))] sz T (q_ps I m (g_mk (g_nl B n (g_sk B n (g_len 27 + q)) + (g_sk B n (g_len 27 + q))) s.fl s.fa s.cd s.op s.on s.hp)) (q_row L (m + 4) t) P
      refine q_istore_n hF (ls' := [(3, qI (g_lnd B n t (g_sk B n (g_len 27 + q)) (g_nl B n (g_sk B n (g_len 27 + q))))), (2, qI ((g_sk B n (g_len 27 + q) : Nat) : Int)), (1, qI 0), (0, .ref m)]) rfl (by decide) rfl dX8_readsSleep_21 ?_
      refine q_aload_n hF 3 rfl rfl dX8_readsSleep_22 ?_
      refine q_callV (kc := 0) (ks := 0) (mc' := 0) (ms' := 0) (h' := 0) (st := []) hF vl_RX8_95 rfl [] rfl rfl hS.t0 (by omega) (Nat.le_of_ble_eq_true rfl) dX8_readsSleep_23 ?_
      refine mX8_fineA hS hfl ?_
      refine q_ifeq hF (by decide) dX8_readsSleep_26 (fun c26 => ?_) (fun c26 => ?_)
      · exact absurd c26 (by decide)
      · refine q_aload_n hF 3 rfl rfl dX8_readsSleep_29 ?_
        refine q_getA hF fl_RX8_24 rfl hS.t0 hS.p10 dX8_readsSleep_30 ?_
        refine q_iload_n hF 2 rfl rfl dX8_readsSleep_33 ?_
        refine q_iload_n hF 0 rfl rfl dX8_readsSleep_34 ?_
        refine q_callS (kc := 0) (ks := 0) (mc' := 0) (ms' := 0) (h' := 0) (st := [.ref (m + 4)]) hF sl_RX8_226 rfl [qI 0, qI (g_lnd B n t (g_sk B n (g_len 27 + q)) (g_nl B n (g_sk B n (g_len 27 + q))))] rfl rfl (by omega) (Nat.le_of_ble_eq_true rfl) dX8_readsSleep_35 ?_
        refine mX8_lawAt ?_
        refine q_iconst hF dX8_readsSleep_38 ?_
        refine q_iadd hF dX8_readsSleep_39 ?_
        refine q_laloadv hF (z := t (((89 + (2 * ((5 * 0) + (g_lnd B n t (g_sk B n (g_len 27 + q)) (g_nl B n (g_sk B n (g_len 27 + q))))))) + 1).toNat)) (n := 1243) (((89 + (2 * ((5 * 0) + (g_lnd B n t (g_sk B n (g_len 27 + q)) (g_nl B n (g_sk B n (g_len 27 + q))))))) + 1).toNat) hS.t4 (by omega) (by omega) (by decide) (q_row_s _ _ _ _) dX8_readsSleep_40 ?_
        refine q_lconst hF (z := 0) rfl dX8_readsSleep_41 ?_
        refine q_cmple hF (by have := ht.1 (((89 + (2 * ((5 * 0) + (g_lnd B n t (g_sk B n (g_len 27 + q)) (g_nl B n (g_sk B n (g_len 27 + q))))))) + 1).toNat) (by omega); omega) (by decide) dX8_readsSleep_42 dX8_readsSleep_43 (fun c43 => ?_) (fun c43 => ?_)
        · refine q_aload_n hF 3 rfl rfl dX8_readsSleep_53 ?_
          refine q_callV (kc := 0) (ks := 0) (mc' := 0) (ms' := 0) (h' := 0) (st := []) hF vl_RX8_95 rfl [] rfl rfl hS.t0 (by omega) (Nat.le_of_ble_eq_true rfl) dX8_readsSleep_54 ?_
          refine mX8_fineA hS hfl ?_
          refine q_ifne hF (by decide) dX8_readsSleep_57 (fun c57 => ?_) (fun c57 => ?_)
          · refine q_aload_n hF 3 rfl rfl dX8_readsSleep_61 ?_
            refine q_getIv hF (z := (s.cd : Int)) fl_RX8_190 hS.t0 q_ps_14 dX8_readsSleep_62 ?_
            refine q_istore hF (ls' := [(4, qI (s.cd : Int)), (3, qI (g_lnd B n t (g_sk B n (g_len 27 + q)) (g_nl B n (g_sk B n (g_len 27 + q))))), (2, qI ((g_sk B n (g_len 27 + q) : Nat) : Int)), (1, qI 0), (0, .ref m)]) (by decide) rfl dX8_readsSleep_65 ?_
            refine q_aload_n hF 4 rfl rfl dX8_readsSleep_67 ?_
            refine q_iconst hF dX8_readsSleep_68 ?_
            refine q_putI hF fl_RX8_193 hS.t0 hSA dX8_readsSleep_69 ?_
            rw [q_ps_w15]
            refine q_aload_n hF 4 rfl rfl dX8_readsSleep_72 ?_
            refine q_callV (kc := 0) (ks := 0) (mc' := 0) (ms' := 0) (h' := 9 + 3 * (3 - 0) + 2) (st := []) hF vl_RX8_207 rfl [] rfl rfl hS.t0 (by omega) (Nat.le_of_ble_eq_true rfl) dX8_readsSleep_73 ?_
            refine ih3 _ _ _ _ _ _ 0 (g_ex B n f 3 0 (g_nl B n (g_sk B n (g_len 27 + q)) + (g_sk B n (g_len 27 + q)))) hB (show g_nl B n (g_sk B n (g_len 27 + q)) + (g_sk B n (g_len 27 + q)) ≤ n by omega) hfl (show 0 = ((0 : Nat) : Int) by omega) (by omega) (show 2 * s.cd + 3 ≤ 3 * (g_nl B n (g_sk B n (g_len 27 + q)) + (g_sk B n (g_len 27 + q))) by omega) rfl (hfu _ (by omega)) (fun p6 z6 e6 => ?_) (fun w6 x6 s6 t6 e6 hw6 hfl6 hfa6 hpn6 hon6 hhp6 => ?_)
            · have far6 := g_far_of hB (by decide) (show g_nl B n (g_sk B n (g_len 27 + q)) + (g_sk B n (g_len 27 + q)) ≤ n by omega) e6
              have fan6 := far6.1
              have faj6 := far6.2
              rw [if_neg (by decide)] at faj6
              refine q_aload_n hF 4 rfl rfl dX8_readsSleep_76 ?_
              refine q_callV (kc := 0) (ks := 0) (mc' := 0) (ms' := 0) (h' := 0) (st := []) hF vl_RX8_95 rfl [] rfl rfl hS.t0 (by omega) (Nat.le_of_ble_eq_true rfl) dX8_readsSleep_77 ?_
              refine mX8_fineA hS hfl ?_
              refine q_ifne hF (by decide) dX8_readsSleep_80 (fun c80 => ?_) (fun c80 => ?_)
              · refine q_aload_n hF 4 rfl rfl dX8_readsSleep_84 ?_
                refine q_getA hF fl_RX8_24 rfl hS.t0 hS.p10 dX8_readsSleep_85 ?_
                refine q_iload_n hF 3 rfl rfl dX8_readsSleep_88 ?_
                refine q_iload_n hF 1 rfl rfl dX8_readsSleep_89 ?_
                refine q_callS (kc := 0) (ks := 0) (mc' := 0) (ms' := 0) (h' := 0) (st := [.ref (m + 4)]) hF sl_RX8_226 rfl [qI 0, qI (g_lnd B n t (g_sk B n (g_len 27 + q)) (g_nl B n (g_sk B n (g_len 27 + q))))] rfl rfl (by omega) (Nat.le_of_ble_eq_true rfl) dX8_readsSleep_90 ?_
                refine mX8_lawAt ?_
                refine q_iload hF 0 rfl dX8_readsSleep_93 ?_
                refine q_i2l hF (by omega) dX8_readsSleep_95 ?_
                refine q_lastorev hF (n := 1243) ((89 + (2 * ((5 * 0) + (g_lnd B n t (g_sk B n (g_len 27 + q)) (g_nl B n (g_sk B n (g_len 27 + q))))))).toNat) hS.t4 (q_Ale hSA (by omega)) (by omega) (by omega) (by decide) dX8_readsSleep_96 ?_
                rw [q_row_u]
                refine q_aload_n hF 4 rfl rfl dX8_readsSleep_97 ?_
                refine q_getA hF fl_RX8_24 rfl hS.t0 hS.p10 dX8_readsSleep_98 ?_
                refine q_iload_n hF 3 rfl rfl dX8_readsSleep_101 ?_
                refine q_iload_n hF 1 rfl rfl dX8_readsSleep_102 ?_
                refine q_callS (kc := 0) (ks := 0) (mc' := 0) (ms' := 0) (h' := 0) (st := [.ref (m + 4)]) hF sl_RX8_226 rfl [qI 0, qI (g_lnd B n t (g_sk B n (g_len 27 + q)) (g_nl B n (g_sk B n (g_len 27 + q))))] rfl rfl (by omega) (Nat.le_of_ble_eq_true rfl) dX8_readsSleep_103 ?_
                refine mX8_lawAt ?_
                refine q_iconst hF dX8_readsSleep_106 ?_
                refine q_iadd hF dX8_readsSleep_107 ?_
                refine q_aload_n hF 4 rfl rfl dX8_readsSleep_108 ?_
                refine q_getIv hF (z := ((s.cd + g_el z6 : Nat) : Int)) fl_RX8_190 hS.t0 q_ps_14 dX8_readsSleep_109 ?_
                refine q_i2l hF (by omega) dX8_readsSleep_112 ?_
                refine q_lastorev hF (n := 1243) (((89 + (2 * ((5 * 0) + (g_lnd B n t (g_sk B n (g_len 27 + q)) (g_nl B n (g_sk B n (g_len 27 + q))))))) + 1).toNat) hS.t4 (q_Ale hSA (by omega)) (by omega) (by omega) (by decide) dX8_readsSleep_113 ?_
                rw [q_row_u]
                refine q_return hF rfl dX8_readsSleep_114 ?_
                exact k0 _ _ (by rw [← hx2, g_rdSleep, if_pos c3_0_1, g_rdS, if_pos c18_0_3, if_neg c18_1_3, if_neg (by omega), e6, g_bl_k])
              · exact absurd c80 (by decide)
            · have her6 : s6.fl ≠ 0 := by omega
              have hrf6 : -2147483648 ≤ s6.fl ∧ s6.fl < 2147483648 := by omega
              refine q_aload_n hF 4 rfl rfl dX8_readsSleep_76 ?_
              refine q_callV (kc := 0) (ks := 0) (mc' := 0) (ms' := 0) (h' := 0) (st := []) hF vl_RX8_95 rfl [] rfl rfl hS.t0 (by omega) (Nat.le_of_ble_eq_true rfl) dX8_readsSleep_77 ?_
              refine mX8_fine0 hS her6 (show -2147483648 ≤ s6.fl ∧ s6.fl < 2147483648 by first | decide | omega | assumption) ?_
              refine q_ifne hF (by decide) dX8_readsSleep_80 (fun c80 => ?_) (fun c80 => ?_)
              · exact absurd c80 (by decide)
              · refine q_return hF rfl dX8_readsSleep_83 ?_
                show Q (.inl none) sz T (q_ps I m s6) (q_row L (m + 4) t6) P
                exact k1 w6 x6 _ _ (by rw [← hx2, g_rdSleep, if_pos c3_0_1, g_rdS, if_pos c18_0_3, if_neg c18_1_3, if_neg (by omega), e6, g_bl_e]) hw6 hfl6 hfa6 hpn6
          · exact absurd c57 (by decide)
        · refine q_aload_n hF 3 rfl rfl dX8_readsSleep_46 ?_
          refine q_bipush hF (n := 6) rfl dX8_readsSleep_47 ?_
          refine q_iload_n hF 1 rfl rfl dX8_readsSleep_49 ?_
          refine q_callV (kc := 0) (ks := 0) (mc' := 0) (ms' := 0) (h' := 0) (st := []) hF vl_RX8_106 rfl [qI 6, qI ((g_sk B n (g_len 27 + q) : Nat) : Int)] rfl rfl hS.t0 (by omega) (Nat.le_of_ble_eq_true rfl) dX8_readsSleep_50 ?_
          refine mX8_wrongA hS hSA hfl ?_
          show qX G F Q 0 0 53 [(3, qI (g_lnd B n t (g_sk B n (g_len 27 + q)) (g_nl B n (g_sk B n (g_len 27 + q))))), (2, qI ((g_sk B n (g_len 27 + q) : Nat) : Int)), (1, qI 0), (0, .ref m)] [] sz T (q_ps I m (g_mk (g_nl B n (g_sk B n (g_len 27 + q)) + (g_sk B n (g_len 27 + q))) 6 ((g_sk B n (g_len 27 + q) : Nat) : Int) s.cd s.op s.on s.hp)) (q_row L (m + 4) t) P
          refine q_aload_n hF 3 rfl rfl dX8_readsSleep_53 ?_
          refine q_callV (kc := 0) (ks := 0) (mc' := 0) (ms' := 0) (h' := 0) (st := []) hF vl_RX8_95 rfl [] rfl rfl hS.t0 (by omega) (Nat.le_of_ble_eq_true rfl) dX8_readsSleep_54 ?_
          refine mX8_fine0 hS (show (6 : Int) ≠ 0 by decide) (show -2147483648 ≤ 6 ∧ 6 < 2147483648 by first | decide | omega | assumption) ?_
          refine q_ifne hF (by decide) dX8_readsSleep_57 (fun c57 => ?_) (fun c57 => ?_)
          · exact absurd c57 (by decide)
          · refine q_return hF rfl dX8_readsSleep_60 ?_
            show Q (.inl none) sz T (q_ps I m (g_mk (g_nl B n (g_sk B n (g_len 27 + q)) + (g_sk B n (g_len 27 + q))) 6 ((g_sk B n (g_len 27 + q) : Nat) : Int) s.cd s.op s.on s.hp)) (q_row L (m + 4) t) P
            exact k1 6 (g_sk B n (g_len 27 + q)) _ _ (by rw [← hx2, g_rdSleep, if_pos c3_0_1, g_rdS, if_pos c18_0_3, if_neg c18_1_3, if_pos c43]) (by decide) rfl rfl (show g_nl B n (g_sk B n (g_len 27 + q)) + (g_sk B n (g_len 27 + q)) ≤ n by omega)
    · show qX G F Q 0 0 21 [(2, qI ((g_sk B n (g_len 27 + q) : Nat) : Int)), (1, qI 0), (0, .ref m)] [qI (-1)] sz T (q_ps I m (g_mk (g_nl B n (g_sk B n (g_len 27 + q)) + (g_sk B n (g_len 27 + q))) 3 ((g_sk B n (g_len 27 + q) : Nat) : Int) s.cd s.op s.on s.hp)) (q_row L (m + 4) t) P
      refine q_istore_n hF (ls' := [(3, qI (-1)), (2, qI ((g_sk B n (g_len 27 + q) : Nat) : Int)), (1, qI 0), (0, .ref m)]) rfl (by decide) rfl dX8_readsSleep_21 ?_
      refine q_aload_n hF 3 rfl rfl dX8_readsSleep_22 ?_
      refine q_callV (kc := 0) (ks := 0) (mc' := 0) (ms' := 0) (h' := 0) (st := []) hF vl_RX8_95 rfl [] rfl rfl hS.t0 (by omega) (Nat.le_of_ble_eq_true rfl) dX8_readsSleep_23 ?_
      refine mX8_fine0 hS (show (3 : Int) ≠ 0 by decide) (show -2147483648 ≤ 3 ∧ 3 < 2147483648 by first | decide | omega | assumption) ?_
      refine q_ifeq hF (by decide) dX8_readsSleep_26 (fun c26 => ?_) (fun c26 => ?_)
      · refine q_aload_n hF 3 rfl rfl dX8_readsSleep_53 ?_
        refine q_callV (kc := 0) (ks := 0) (mc' := 0) (ms' := 0) (h' := 0) (st := []) hF vl_RX8_95 rfl [] rfl rfl hS.t0 (by omega) (Nat.le_of_ble_eq_true rfl) dX8_readsSleep_54 ?_
        refine mX8_fine0 hS (show (3 : Int) ≠ 0 by decide) (show -2147483648 ≤ 3 ∧ 3 < 2147483648 by first | decide | omega | assumption) ?_
        refine q_ifne hF (by decide) dX8_readsSleep_57 (fun c57 => ?_) (fun c57 => ?_)
        · exact absurd c57 (by decide)
        · refine q_return hF rfl dX8_readsSleep_60 ?_
          show Q (.inl none) sz T (q_ps I m (g_mk (g_nl B n (g_sk B n (g_len 27 + q)) + (g_sk B n (g_len 27 + q))) 3 ((g_sk B n (g_len 27 + q) : Nat) : Int) s.cd s.op s.on s.hp)) (q_row L (m + 4) t) P
          exact k1 3 (g_sk B n (g_len 27 + q)) _ _ (by rw [← hx2, g_rdSleep, if_pos c3_0_1, g_rdS, if_pos c18_0_3, if_pos c18_1_3]) (by decide) rfl rfl (show g_nl B n (g_sk B n (g_len 27 + q)) + (g_sk B n (g_len 27 + q)) ≤ n by omega)
      · exact absurd c26 (by decide)
    · show qX G F Q 0 0 21 [(2, qI ((g_sk B n (g_len 27 + q) : Nat) : Int)), (1, qI 0), (0, .ref m)] [qI (-1)] sz T (q_ps I m (g_mk (g_sk B n (g_len 27 + q)) 1 ((g_sk B n (g_len 27 + q) : Nat) : Int) s.cd s.op s.on s.hp)) (q_row L (m + 4) t) P
      refine q_istore_n hF (ls' := [(3, qI (-1)), (2, qI ((g_sk B n (g_len 27 + q) : Nat) : Int)), (1, qI 0), (0, .ref m)]) rfl (by decide) rfl dX8_readsSleep_21 ?_
      refine q_aload_n hF 3 rfl rfl dX8_readsSleep_22 ?_
      refine q_callV (kc := 0) (ks := 0) (mc' := 0) (ms' := 0) (h' := 0) (st := []) hF vl_RX8_95 rfl [] rfl rfl hS.t0 (by omega) (Nat.le_of_ble_eq_true rfl) dX8_readsSleep_23 ?_
      refine mX8_fine0 hS (show (1 : Int) ≠ 0 by decide) (show -2147483648 ≤ 1 ∧ 1 < 2147483648 by first | decide | omega | assumption) ?_
      refine q_ifeq hF (by decide) dX8_readsSleep_26 (fun c26 => ?_) (fun c26 => ?_)
      · refine q_aload_n hF 3 rfl rfl dX8_readsSleep_53 ?_
        refine q_callV (kc := 0) (ks := 0) (mc' := 0) (ms' := 0) (h' := 0) (st := []) hF vl_RX8_95 rfl [] rfl rfl hS.t0 (by omega) (Nat.le_of_ble_eq_true rfl) dX8_readsSleep_54 ?_
        refine mX8_fine0 hS (show (1 : Int) ≠ 0 by decide) (show -2147483648 ≤ 1 ∧ 1 < 2147483648 by first | decide | omega | assumption) ?_
        refine q_ifne hF (by decide) dX8_readsSleep_57 (fun c57 => ?_) (fun c57 => ?_)
        · exact absurd c57 (by decide)
        · refine q_return hF rfl dX8_readsSleep_60 ?_
          show Q (.inl none) sz T (q_ps I m (g_mk (g_sk B n (g_len 27 + q)) 1 ((g_sk B n (g_len 27 + q) : Nat) : Int) s.cd s.op s.on s.hp)) (q_row L (m + 4) t) P
          exact k1 1 (g_sk B n (g_len 27 + q)) _ _ (by rw [← hx2, g_rdSleep, if_pos c3_0_1, g_rdS, if_neg c18_0_3]) (by decide) rfl rfl (show g_sk B n (g_len 27 + q) ≤ n by omega)
      · exact absurd c26 (by decide)
  · show qX G F Q 0 0 6 [(0, .ref m)] [qI 1] sz T (q_ps I m (g_mk (g_len 28 + q) s.fl s.fa s.cd s.op s.on s.hp)) (q_row L (m + 4) t) P
    refine q_istore_n hF (ls' := [(1, qI 1), (0, .ref m)]) rfl (by decide) rfl dX8_readsSleep_6 ?_
    have hwl := g_words_ok 28 (by decide)
    have hwn := g_isW_n (g_words_ok 28 (by decide)) (fun k hk => by have := g_ch_r (i := 28) (by decide) hk; omega) c3_1_1
    have hsr := g_sk_r (B := B) (n := n) (k := g_len 28 + q) (by omega)
    have hnl := g_nl_r (B := B) (n := n) (q := (g_sk B n (g_len 28 + q))) hsr.2
    have hlf := g_lndF_r (B := B) (n := n) (t := t) (q := (g_sk B n (g_len 28 + q))) (c := g_nl B n (g_sk B n (g_len 28 + q))) 6 0
    change -1 ≤ g_lnd B n t (g_sk B n (g_len 28 + q)) (g_nl B n (g_sk B n (g_len 28 + q))) ∧ (g_lnd B n t (g_sk B n (g_len 28 + q)) (g_nl B n (g_sk B n (g_len 28 + q))) = -1 ∨ g_lnd B n t (g_sk B n (g_len 28 + q)) (g_nl B n (g_sk B n (g_len 28 + q))) < t 0) at hlf
    refine q_aload_n hF 1 rfl rfl dX8_readsSleep_7 ?_
    refine q_callV (kc := 0) (ks := 0) (mc' := 0) (ms' := 0) (h' := 1) (st := []) hF vl_RX8_78 rfl [] rfl rfl hS.t0 (by omega) (Nat.le_of_ble_eq_true rfl) dX8_readsSleep_8 ?_
    refine mX8_herePQ (B := B) (n := n) hS hSA hB (show (g_len 28 + q) ≤ n by omega) rfl ?_
    show qX G F Q 0 0 11 [(1, qI 1), (0, .ref m)] [qI (g_bt B n (g_sk B n (g_len 28 + q)))] sz T (q_ps I m (g_mk (g_sk B n (g_len 28 + q)) s.fl s.fa s.cd s.op s.on s.hp)) (q_row L (m + 4) t) P
    refine q_pop hF rfl dX8_readsSleep_11 ?_
    refine q_aload_n hF 1 rfl rfl dX8_readsSleep_12 ?_
    refine q_getIv hF (z := ((g_sk B n (g_len 28 + q) : Nat) : Int)) fl_RX8_65 hS.t0 q_ps_4 dX8_readsSleep_13 ?_
    refine q_istore_n hF (ls' := [(2, qI ((g_sk B n (g_len 28 + q) : Nat) : Int)), (1, qI 1), (0, .ref m)]) rfl (by decide) rfl dX8_readsSleep_16 ?_
    refine q_aload_n hF 2 rfl rfl dX8_readsSleep_17 ?_
    refine q_callV (kc := 0) (ks := 0) (mc' := 0) (ms' := 0) (h' := 7) (st := []) hF vl_RX8_223 rfl [] rfl rfl hS.t0 (by omega) (Nat.le_of_ble_eq_true rfl) dX8_readsSleep_18 ?_
    refine mX8_landHereP hS hSA hB (show (g_sk B n (g_len 28 + q)) ≤ n by omega) hfl ht (g_sk_sk (by omega)) (fun (c18_0_16 : g_nm B n (g_sk B n (g_len 28 + q))) (c18_1_16 : g_lnd B n t (g_sk B n (g_len 28 + q)) (g_nl B n (g_sk B n (g_len 28 + q))) ≠ -1) => ?_) (fun (c18_0_16 : g_nm B n (g_sk B n (g_len 28 + q))) (c18_1_16 : g_lnd B n t (g_sk B n (g_len 28 + q)) (g_nl B n (g_sk B n (g_len 28 + q))) = -1) => ?_) (fun (c18_0_16 : ¬ (g_nm B n (g_sk B n (g_len 28 + q)))) => ?_)
    · show qX G F Q 0 0 21 [(2, qI ((g_sk B n (g_len 28 + q) : Nat) : Int)), (1, qI 1), (0, .ref m)] [qI (g_lnd B n t (g_sk B n (g_len 28 + q)) (g_nl B n (g_sk B n (g_len 28 + q))))] sz T (q_ps I m (g_mk (g_nl B n (g_sk B n (g_len 28 + q)) + (g_sk B n (g_len 28 + q))) s.fl s.fa s.cd s.op s.on s.hp)) (q_row L (m + 4) t) P
      refine q_istore_n hF (ls' := [(3, qI (g_lnd B n t (g_sk B n (g_len 28 + q)) (g_nl B n (g_sk B n (g_len 28 + q))))), (2, qI ((g_sk B n (g_len 28 + q) : Nat) : Int)), (1, qI 1), (0, .ref m)]) rfl (by decide) rfl dX8_readsSleep_21 ?_
      refine q_aload_n hF 3 rfl rfl dX8_readsSleep_22 ?_
      refine q_callV (kc := 0) (ks := 0) (mc' := 0) (ms' := 0) (h' := 0) (st := []) hF vl_RX8_95 rfl [] rfl rfl hS.t0 (by omega) (Nat.le_of_ble_eq_true rfl) dX8_readsSleep_23 ?_
      refine mX8_fineA hS hfl ?_
      refine q_ifeq hF (by decide) dX8_readsSleep_26 (fun c26 => ?_) (fun c26 => ?_)
      · exact absurd c26 (by decide)
      · refine q_aload_n hF 3 rfl rfl dX8_readsSleep_29 ?_
        refine q_getA hF fl_RX8_24 rfl hS.t0 hS.p10 dX8_readsSleep_30 ?_
        refine q_iload_n hF 2 rfl rfl dX8_readsSleep_33 ?_
        refine q_iload_n hF 0 rfl rfl dX8_readsSleep_34 ?_
        refine q_callS (kc := 0) (ks := 0) (mc' := 0) (ms' := 0) (h' := 0) (st := [.ref (m + 4)]) hF sl_RX8_226 rfl [qI 1, qI (g_lnd B n t (g_sk B n (g_len 28 + q)) (g_nl B n (g_sk B n (g_len 28 + q))))] rfl rfl (by omega) (Nat.le_of_ble_eq_true rfl) dX8_readsSleep_35 ?_
        refine mX8_lawAt ?_
        refine q_iconst hF dX8_readsSleep_38 ?_
        refine q_iadd hF dX8_readsSleep_39 ?_
        refine q_laloadv hF (z := t (((89 + (2 * ((5 * 1) + (g_lnd B n t (g_sk B n (g_len 28 + q)) (g_nl B n (g_sk B n (g_len 28 + q))))))) + 1).toNat)) (n := 1243) (((89 + (2 * ((5 * 1) + (g_lnd B n t (g_sk B n (g_len 28 + q)) (g_nl B n (g_sk B n (g_len 28 + q))))))) + 1).toNat) hS.t4 (by omega) (by omega) (by decide) (q_row_s _ _ _ _) dX8_readsSleep_40 ?_
        refine q_lconst hF (z := 0) rfl dX8_readsSleep_41 ?_
        refine q_cmple hF (by have := ht.1 (((89 + (2 * ((5 * 1) + (g_lnd B n t (g_sk B n (g_len 28 + q)) (g_nl B n (g_sk B n (g_len 28 + q))))))) + 1).toNat) (by omega); omega) (by decide) dX8_readsSleep_42 dX8_readsSleep_43 (fun c43 => ?_) (fun c43 => ?_)
        · refine q_aload_n hF 3 rfl rfl dX8_readsSleep_53 ?_
          refine q_callV (kc := 0) (ks := 0) (mc' := 0) (ms' := 0) (h' := 0) (st := []) hF vl_RX8_95 rfl [] rfl rfl hS.t0 (by omega) (Nat.le_of_ble_eq_true rfl) dX8_readsSleep_54 ?_
          refine mX8_fineA hS hfl ?_
          refine q_ifne hF (by decide) dX8_readsSleep_57 (fun c57 => ?_) (fun c57 => ?_)
          · refine q_aload_n hF 3 rfl rfl dX8_readsSleep_61 ?_
            refine q_getIv hF (z := (s.cd : Int)) fl_RX8_190 hS.t0 q_ps_14 dX8_readsSleep_62 ?_
            refine q_istore hF (ls' := [(4, qI (s.cd : Int)), (3, qI (g_lnd B n t (g_sk B n (g_len 28 + q)) (g_nl B n (g_sk B n (g_len 28 + q))))), (2, qI ((g_sk B n (g_len 28 + q) : Nat) : Int)), (1, qI 1), (0, .ref m)]) (by decide) rfl dX8_readsSleep_65 ?_
            refine q_aload_n hF 4 rfl rfl dX8_readsSleep_67 ?_
            refine q_iconst hF dX8_readsSleep_68 ?_
            refine q_putI hF fl_RX8_193 hS.t0 hSA dX8_readsSleep_69 ?_
            rw [q_ps_w15]
            refine q_aload_n hF 4 rfl rfl dX8_readsSleep_72 ?_
            refine q_callV (kc := 0) (ks := 0) (mc' := 0) (ms' := 0) (h' := 9 + 3 * (3 - 0) + 2) (st := []) hF vl_RX8_207 rfl [] rfl rfl hS.t0 (by omega) (Nat.le_of_ble_eq_true rfl) dX8_readsSleep_73 ?_
            refine ih3 _ _ _ _ _ _ 0 (g_ex B n f 3 0 (g_nl B n (g_sk B n (g_len 28 + q)) + (g_sk B n (g_len 28 + q)))) hB (show g_nl B n (g_sk B n (g_len 28 + q)) + (g_sk B n (g_len 28 + q)) ≤ n by omega) hfl (show 0 = ((0 : Nat) : Int) by omega) (by omega) (show 2 * s.cd + 3 ≤ 3 * (g_nl B n (g_sk B n (g_len 28 + q)) + (g_sk B n (g_len 28 + q))) by omega) rfl (hfu _ (by omega)) (fun p19 z19 e19 => ?_) (fun w19 x19 s19 t19 e19 hw19 hfl19 hfa19 hpn19 hon19 hhp19 => ?_)
            · have far19 := g_far_of hB (by decide) (show g_nl B n (g_sk B n (g_len 28 + q)) + (g_sk B n (g_len 28 + q)) ≤ n by omega) e19
              have fan19 := far19.1
              have faj19 := far19.2
              rw [if_neg (by decide)] at faj19
              refine q_aload_n hF 4 rfl rfl dX8_readsSleep_76 ?_
              refine q_callV (kc := 0) (ks := 0) (mc' := 0) (ms' := 0) (h' := 0) (st := []) hF vl_RX8_95 rfl [] rfl rfl hS.t0 (by omega) (Nat.le_of_ble_eq_true rfl) dX8_readsSleep_77 ?_
              refine mX8_fineA hS hfl ?_
              refine q_ifne hF (by decide) dX8_readsSleep_80 (fun c80 => ?_) (fun c80 => ?_)
              · refine q_aload_n hF 4 rfl rfl dX8_readsSleep_84 ?_
                refine q_getA hF fl_RX8_24 rfl hS.t0 hS.p10 dX8_readsSleep_85 ?_
                refine q_iload_n hF 3 rfl rfl dX8_readsSleep_88 ?_
                refine q_iload_n hF 1 rfl rfl dX8_readsSleep_89 ?_
                refine q_callS (kc := 0) (ks := 0) (mc' := 0) (ms' := 0) (h' := 0) (st := [.ref (m + 4)]) hF sl_RX8_226 rfl [qI 1, qI (g_lnd B n t (g_sk B n (g_len 28 + q)) (g_nl B n (g_sk B n (g_len 28 + q))))] rfl rfl (by omega) (Nat.le_of_ble_eq_true rfl) dX8_readsSleep_90 ?_
                refine mX8_lawAt ?_
                refine q_iload hF 0 rfl dX8_readsSleep_93 ?_
                refine q_i2l hF (by omega) dX8_readsSleep_95 ?_
                refine q_lastorev hF (n := 1243) ((89 + (2 * ((5 * 1) + (g_lnd B n t (g_sk B n (g_len 28 + q)) (g_nl B n (g_sk B n (g_len 28 + q))))))).toNat) hS.t4 (q_Ale hSA (by omega)) (by omega) (by omega) (by decide) dX8_readsSleep_96 ?_
                rw [q_row_u]
                refine q_aload_n hF 4 rfl rfl dX8_readsSleep_97 ?_
                refine q_getA hF fl_RX8_24 rfl hS.t0 hS.p10 dX8_readsSleep_98 ?_
                refine q_iload_n hF 3 rfl rfl dX8_readsSleep_101 ?_
                refine q_iload_n hF 1 rfl rfl dX8_readsSleep_102 ?_
                refine q_callS (kc := 0) (ks := 0) (mc' := 0) (ms' := 0) (h' := 0) (st := [.ref (m + 4)]) hF sl_RX8_226 rfl [qI 1, qI (g_lnd B n t (g_sk B n (g_len 28 + q)) (g_nl B n (g_sk B n (g_len 28 + q))))] rfl rfl (by omega) (Nat.le_of_ble_eq_true rfl) dX8_readsSleep_103 ?_
                refine mX8_lawAt ?_
                refine q_iconst hF dX8_readsSleep_106 ?_
                refine q_iadd hF dX8_readsSleep_107 ?_
                refine q_aload_n hF 4 rfl rfl dX8_readsSleep_108 ?_
                refine q_getIv hF (z := ((s.cd + g_el z19 : Nat) : Int)) fl_RX8_190 hS.t0 q_ps_14 dX8_readsSleep_109 ?_
                refine q_i2l hF (by omega) dX8_readsSleep_112 ?_
                refine q_lastorev hF (n := 1243) (((89 + (2 * ((5 * 1) + (g_lnd B n t (g_sk B n (g_len 28 + q)) (g_nl B n (g_sk B n (g_len 28 + q))))))) + 1).toNat) hS.t4 (q_Ale hSA (by omega)) (by omega) (by omega) (by decide) dX8_readsSleep_113 ?_
                rw [q_row_u]
                refine q_return hF rfl dX8_readsSleep_114 ?_
                exact k0 _ _ (by rw [← hx2, g_rdSleep, if_neg c3_0_1, if_pos c3_1_1, g_rdS, if_pos c18_0_16, if_neg c18_1_16, if_neg (by omega), e19, g_bl_k])
              · exact absurd c80 (by decide)
            · have her19 : s19.fl ≠ 0 := by omega
              have hrf19 : -2147483648 ≤ s19.fl ∧ s19.fl < 2147483648 := by omega
              refine q_aload_n hF 4 rfl rfl dX8_readsSleep_76 ?_
              refine q_callV (kc := 0) (ks := 0) (mc' := 0) (ms' := 0) (h' := 0) (st := []) hF vl_RX8_95 rfl [] rfl rfl hS.t0 (by omega) (Nat.le_of_ble_eq_true rfl) dX8_readsSleep_77 ?_
              refine mX8_fine0 hS her19 (show -2147483648 ≤ s19.fl ∧ s19.fl < 2147483648 by first | decide | omega | assumption) ?_
              refine q_ifne hF (by decide) dX8_readsSleep_80 (fun c80 => ?_) (fun c80 => ?_)
              · exact absurd c80 (by decide)
              · refine q_return hF rfl dX8_readsSleep_83 ?_
                show Q (.inl none) sz T (q_ps I m s19) (q_row L (m + 4) t19) P
                exact k1 w19 x19 _ _ (by rw [← hx2, g_rdSleep, if_neg c3_0_1, if_pos c3_1_1, g_rdS, if_pos c18_0_16, if_neg c18_1_16, if_neg (by omega), e19, g_bl_e]) hw19 hfl19 hfa19 hpn19
          · exact absurd c57 (by decide)
        · refine q_aload_n hF 3 rfl rfl dX8_readsSleep_46 ?_
          refine q_bipush hF (n := 6) rfl dX8_readsSleep_47 ?_
          refine q_iload_n hF 1 rfl rfl dX8_readsSleep_49 ?_
          refine q_callV (kc := 0) (ks := 0) (mc' := 0) (ms' := 0) (h' := 0) (st := []) hF vl_RX8_106 rfl [qI 6, qI ((g_sk B n (g_len 28 + q) : Nat) : Int)] rfl rfl hS.t0 (by omega) (Nat.le_of_ble_eq_true rfl) dX8_readsSleep_50 ?_
          refine mX8_wrongA hS hSA hfl ?_
          show qX G F Q 0 0 53 [(3, qI (g_lnd B n t (g_sk B n (g_len 28 + q)) (g_nl B n (g_sk B n (g_len 28 + q))))), (2, qI ((g_sk B n (g_len 28 + q) : Nat) : Int)), (1, qI 1), (0, .ref m)] [] sz T (q_ps I m (g_mk (g_nl B n (g_sk B n (g_len 28 + q)) + (g_sk B n (g_len 28 + q))) 6 ((g_sk B n (g_len 28 + q) : Nat) : Int) s.cd s.op s.on s.hp)) (q_row L (m + 4) t) P
          refine q_aload_n hF 3 rfl rfl dX8_readsSleep_53 ?_
          refine q_callV (kc := 0) (ks := 0) (mc' := 0) (ms' := 0) (h' := 0) (st := []) hF vl_RX8_95 rfl [] rfl rfl hS.t0 (by omega) (Nat.le_of_ble_eq_true rfl) dX8_readsSleep_54 ?_
          refine mX8_fine0 hS (show (6 : Int) ≠ 0 by decide) (show -2147483648 ≤ 6 ∧ 6 < 2147483648 by first | decide | omega | assumption) ?_
          refine q_ifne hF (by decide) dX8_readsSleep_57 (fun c57 => ?_) (fun c57 => ?_)
          · exact absurd c57 (by decide)
          · refine q_return hF rfl dX8_readsSleep_60 ?_
            show Q (.inl none) sz T (q_ps I m (g_mk (g_nl B n (g_sk B n (g_len 28 + q)) + (g_sk B n (g_len 28 + q))) 6 ((g_sk B n (g_len 28 + q) : Nat) : Int) s.cd s.op s.on s.hp)) (q_row L (m + 4) t) P
            exact k1 6 (g_sk B n (g_len 28 + q)) _ _ (by rw [← hx2, g_rdSleep, if_neg c3_0_1, if_pos c3_1_1, g_rdS, if_pos c18_0_16, if_neg c18_1_16, if_pos c43]) (by decide) rfl rfl (show g_nl B n (g_sk B n (g_len 28 + q)) + (g_sk B n (g_len 28 + q)) ≤ n by omega)
    · show qX G F Q 0 0 21 [(2, qI ((g_sk B n (g_len 28 + q) : Nat) : Int)), (1, qI 1), (0, .ref m)] [qI (-1)] sz T (q_ps I m (g_mk (g_nl B n (g_sk B n (g_len 28 + q)) + (g_sk B n (g_len 28 + q))) 3 ((g_sk B n (g_len 28 + q) : Nat) : Int) s.cd s.op s.on s.hp)) (q_row L (m + 4) t) P
      refine q_istore_n hF (ls' := [(3, qI (-1)), (2, qI ((g_sk B n (g_len 28 + q) : Nat) : Int)), (1, qI 1), (0, .ref m)]) rfl (by decide) rfl dX8_readsSleep_21 ?_
      refine q_aload_n hF 3 rfl rfl dX8_readsSleep_22 ?_
      refine q_callV (kc := 0) (ks := 0) (mc' := 0) (ms' := 0) (h' := 0) (st := []) hF vl_RX8_95 rfl [] rfl rfl hS.t0 (by omega) (Nat.le_of_ble_eq_true rfl) dX8_readsSleep_23 ?_
      refine mX8_fine0 hS (show (3 : Int) ≠ 0 by decide) (show -2147483648 ≤ 3 ∧ 3 < 2147483648 by first | decide | omega | assumption) ?_
      refine q_ifeq hF (by decide) dX8_readsSleep_26 (fun c26 => ?_) (fun c26 => ?_)
      · refine q_aload_n hF 3 rfl rfl dX8_readsSleep_53 ?_
        refine q_callV (kc := 0) (ks := 0) (mc' := 0) (ms' := 0) (h' := 0) (st := []) hF vl_RX8_95 rfl [] rfl rfl hS.t0 (by omega) (Nat.le_of_ble_eq_true rfl) dX8_readsSleep_54 ?_
        refine mX8_fine0 hS (show (3 : Int) ≠ 0 by decide) (show -2147483648 ≤ 3 ∧ 3 < 2147483648 by first | decide | omega | assumption) ?_
        refine q_ifne hF (by decide) dX8_readsSleep_57 (fun c57 => ?_) (fun c57 => ?_)
        · exact absurd c57 (by decide)
        · refine q_return hF rfl dX8_readsSleep_60 ?_
          show Q (.inl none) sz T (q_ps I m (g_mk (g_nl B n (g_sk B n (g_len 28 + q)) + (g_sk B n (g_len 28 + q))) 3 ((g_sk B n (g_len 28 + q) : Nat) : Int) s.cd s.op s.on s.hp)) (q_row L (m + 4) t) P
          exact k1 3 (g_sk B n (g_len 28 + q)) _ _ (by rw [← hx2, g_rdSleep, if_neg c3_0_1, if_pos c3_1_1, g_rdS, if_pos c18_0_16, if_pos c18_1_16]) (by decide) rfl rfl (show g_nl B n (g_sk B n (g_len 28 + q)) + (g_sk B n (g_len 28 + q)) ≤ n by omega)
      · exact absurd c26 (by decide)
    · show qX G F Q 0 0 21 [(2, qI ((g_sk B n (g_len 28 + q) : Nat) : Int)), (1, qI 1), (0, .ref m)] [qI (-1)] sz T (q_ps I m (g_mk (g_sk B n (g_len 28 + q)) 1 ((g_sk B n (g_len 28 + q) : Nat) : Int) s.cd s.op s.on s.hp)) (q_row L (m + 4) t) P
      refine q_istore_n hF (ls' := [(3, qI (-1)), (2, qI ((g_sk B n (g_len 28 + q) : Nat) : Int)), (1, qI 1), (0, .ref m)]) rfl (by decide) rfl dX8_readsSleep_21 ?_
      refine q_aload_n hF 3 rfl rfl dX8_readsSleep_22 ?_
      refine q_callV (kc := 0) (ks := 0) (mc' := 0) (ms' := 0) (h' := 0) (st := []) hF vl_RX8_95 rfl [] rfl rfl hS.t0 (by omega) (Nat.le_of_ble_eq_true rfl) dX8_readsSleep_23 ?_
      refine mX8_fine0 hS (show (1 : Int) ≠ 0 by decide) (show -2147483648 ≤ 1 ∧ 1 < 2147483648 by first | decide | omega | assumption) ?_
      refine q_ifeq hF (by decide) dX8_readsSleep_26 (fun c26 => ?_) (fun c26 => ?_)
      · refine q_aload_n hF 3 rfl rfl dX8_readsSleep_53 ?_
        refine q_callV (kc := 0) (ks := 0) (mc' := 0) (ms' := 0) (h' := 0) (st := []) hF vl_RX8_95 rfl [] rfl rfl hS.t0 (by omega) (Nat.le_of_ble_eq_true rfl) dX8_readsSleep_54 ?_
        refine mX8_fine0 hS (show (1 : Int) ≠ 0 by decide) (show -2147483648 ≤ 1 ∧ 1 < 2147483648 by first | decide | omega | assumption) ?_
        refine q_ifne hF (by decide) dX8_readsSleep_57 (fun c57 => ?_) (fun c57 => ?_)
        · exact absurd c57 (by decide)
        · refine q_return hF rfl dX8_readsSleep_60 ?_
          show Q (.inl none) sz T (q_ps I m (g_mk (g_sk B n (g_len 28 + q)) 1 ((g_sk B n (g_len 28 + q) : Nat) : Int) s.cd s.op s.on s.hp)) (q_row L (m + 4) t) P
          exact k1 1 (g_sk B n (g_len 28 + q)) _ _ (by rw [← hx2, g_rdSleep, if_neg c3_0_1, if_pos c3_1_1, g_rdS, if_neg c18_0_16]) (by decide) rfl rfl (show g_sk B n (g_len 28 + q) ≤ n by omega)
      · exact absurd c26 (by decide)
  · show qX G F Q 0 0 6 [(0, .ref m)] [qI 2] sz T (q_ps I m (g_mk (g_len 29 + q) s.fl s.fa s.cd s.op s.on s.hp)) (q_row L (m + 4) t) P
    refine q_istore_n hF (ls' := [(1, qI 2), (0, .ref m)]) rfl (by decide) rfl dX8_readsSleep_6 ?_
    have hwl := g_words_ok 29 (by decide)
    have hwn := g_isW_n (g_words_ok 29 (by decide)) (fun k hk => by have := g_ch_r (i := 29) (by decide) hk; omega) c3_2_1
    have hsr := g_sk_r (B := B) (n := n) (k := g_len 29 + q) (by omega)
    have hnl := g_nl_r (B := B) (n := n) (q := (g_sk B n (g_len 29 + q))) hsr.2
    have hlf := g_lndF_r (B := B) (n := n) (t := t) (q := (g_sk B n (g_len 29 + q))) (c := g_nl B n (g_sk B n (g_len 29 + q))) 6 0
    change -1 ≤ g_lnd B n t (g_sk B n (g_len 29 + q)) (g_nl B n (g_sk B n (g_len 29 + q))) ∧ (g_lnd B n t (g_sk B n (g_len 29 + q)) (g_nl B n (g_sk B n (g_len 29 + q))) = -1 ∨ g_lnd B n t (g_sk B n (g_len 29 + q)) (g_nl B n (g_sk B n (g_len 29 + q))) < t 0) at hlf
    refine q_aload_n hF 1 rfl rfl dX8_readsSleep_7 ?_
    refine q_callV (kc := 0) (ks := 0) (mc' := 0) (ms' := 0) (h' := 1) (st := []) hF vl_RX8_78 rfl [] rfl rfl hS.t0 (by omega) (Nat.le_of_ble_eq_true rfl) dX8_readsSleep_8 ?_
    refine mX8_herePQ (B := B) (n := n) hS hSA hB (show (g_len 29 + q) ≤ n by omega) rfl ?_
    show qX G F Q 0 0 11 [(1, qI 2), (0, .ref m)] [qI (g_bt B n (g_sk B n (g_len 29 + q)))] sz T (q_ps I m (g_mk (g_sk B n (g_len 29 + q)) s.fl s.fa s.cd s.op s.on s.hp)) (q_row L (m + 4) t) P
    refine q_pop hF rfl dX8_readsSleep_11 ?_
    refine q_aload_n hF 1 rfl rfl dX8_readsSleep_12 ?_
    refine q_getIv hF (z := ((g_sk B n (g_len 29 + q) : Nat) : Int)) fl_RX8_65 hS.t0 q_ps_4 dX8_readsSleep_13 ?_
    refine q_istore_n hF (ls' := [(2, qI ((g_sk B n (g_len 29 + q) : Nat) : Int)), (1, qI 2), (0, .ref m)]) rfl (by decide) rfl dX8_readsSleep_16 ?_
    refine q_aload_n hF 2 rfl rfl dX8_readsSleep_17 ?_
    refine q_callV (kc := 0) (ks := 0) (mc' := 0) (ms' := 0) (h' := 7) (st := []) hF vl_RX8_223 rfl [] rfl rfl hS.t0 (by omega) (Nat.le_of_ble_eq_true rfl) dX8_readsSleep_18 ?_
    refine mX8_landHereP hS hSA hB (show (g_sk B n (g_len 29 + q)) ≤ n by omega) hfl ht (g_sk_sk (by omega)) (fun (c18_0_29 : g_nm B n (g_sk B n (g_len 29 + q))) (c18_1_29 : g_lnd B n t (g_sk B n (g_len 29 + q)) (g_nl B n (g_sk B n (g_len 29 + q))) ≠ -1) => ?_) (fun (c18_0_29 : g_nm B n (g_sk B n (g_len 29 + q))) (c18_1_29 : g_lnd B n t (g_sk B n (g_len 29 + q)) (g_nl B n (g_sk B n (g_len 29 + q))) = -1) => ?_) (fun (c18_0_29 : ¬ (g_nm B n (g_sk B n (g_len 29 + q)))) => ?_)
    · show qX G F Q 0 0 21 [(2, qI ((g_sk B n (g_len 29 + q) : Nat) : Int)), (1, qI 2), (0, .ref m)] [qI (g_lnd B n t (g_sk B n (g_len 29 + q)) (g_nl B n (g_sk B n (g_len 29 + q))))] sz T (q_ps I m (g_mk (g_nl B n (g_sk B n (g_len 29 + q)) + (g_sk B n (g_len 29 + q))) s.fl s.fa s.cd s.op s.on s.hp)) (q_row L (m + 4) t) P
      refine q_istore_n hF (ls' := [(3, qI (g_lnd B n t (g_sk B n (g_len 29 + q)) (g_nl B n (g_sk B n (g_len 29 + q))))), (2, qI ((g_sk B n (g_len 29 + q) : Nat) : Int)), (1, qI 2), (0, .ref m)]) rfl (by decide) rfl dX8_readsSleep_21 ?_
      refine q_aload_n hF 3 rfl rfl dX8_readsSleep_22 ?_
      refine q_callV (kc := 0) (ks := 0) (mc' := 0) (ms' := 0) (h' := 0) (st := []) hF vl_RX8_95 rfl [] rfl rfl hS.t0 (by omega) (Nat.le_of_ble_eq_true rfl) dX8_readsSleep_23 ?_
      refine mX8_fineA hS hfl ?_
      refine q_ifeq hF (by decide) dX8_readsSleep_26 (fun c26 => ?_) (fun c26 => ?_)
      · exact absurd c26 (by decide)
      · refine q_aload_n hF 3 rfl rfl dX8_readsSleep_29 ?_
        refine q_getA hF fl_RX8_24 rfl hS.t0 hS.p10 dX8_readsSleep_30 ?_
        refine q_iload_n hF 2 rfl rfl dX8_readsSleep_33 ?_
        refine q_iload_n hF 0 rfl rfl dX8_readsSleep_34 ?_
        refine q_callS (kc := 0) (ks := 0) (mc' := 0) (ms' := 0) (h' := 0) (st := [.ref (m + 4)]) hF sl_RX8_226 rfl [qI 2, qI (g_lnd B n t (g_sk B n (g_len 29 + q)) (g_nl B n (g_sk B n (g_len 29 + q))))] rfl rfl (by omega) (Nat.le_of_ble_eq_true rfl) dX8_readsSleep_35 ?_
        refine mX8_lawAt ?_
        refine q_iconst hF dX8_readsSleep_38 ?_
        refine q_iadd hF dX8_readsSleep_39 ?_
        refine q_laloadv hF (z := t (((89 + (2 * ((5 * 2) + (g_lnd B n t (g_sk B n (g_len 29 + q)) (g_nl B n (g_sk B n (g_len 29 + q))))))) + 1).toNat)) (n := 1243) (((89 + (2 * ((5 * 2) + (g_lnd B n t (g_sk B n (g_len 29 + q)) (g_nl B n (g_sk B n (g_len 29 + q))))))) + 1).toNat) hS.t4 (by omega) (by omega) (by decide) (q_row_s _ _ _ _) dX8_readsSleep_40 ?_
        refine q_lconst hF (z := 0) rfl dX8_readsSleep_41 ?_
        refine q_cmple hF (by have := ht.1 (((89 + (2 * ((5 * 2) + (g_lnd B n t (g_sk B n (g_len 29 + q)) (g_nl B n (g_sk B n (g_len 29 + q))))))) + 1).toNat) (by omega); omega) (by decide) dX8_readsSleep_42 dX8_readsSleep_43 (fun c43 => ?_) (fun c43 => ?_)
        · refine q_aload_n hF 3 rfl rfl dX8_readsSleep_53 ?_
          refine q_callV (kc := 0) (ks := 0) (mc' := 0) (ms' := 0) (h' := 0) (st := []) hF vl_RX8_95 rfl [] rfl rfl hS.t0 (by omega) (Nat.le_of_ble_eq_true rfl) dX8_readsSleep_54 ?_
          refine mX8_fineA hS hfl ?_
          refine q_ifne hF (by decide) dX8_readsSleep_57 (fun c57 => ?_) (fun c57 => ?_)
          · refine q_aload_n hF 3 rfl rfl dX8_readsSleep_61 ?_
            refine q_getIv hF (z := (s.cd : Int)) fl_RX8_190 hS.t0 q_ps_14 dX8_readsSleep_62 ?_
            refine q_istore hF (ls' := [(4, qI (s.cd : Int)), (3, qI (g_lnd B n t (g_sk B n (g_len 29 + q)) (g_nl B n (g_sk B n (g_len 29 + q))))), (2, qI ((g_sk B n (g_len 29 + q) : Nat) : Int)), (1, qI 2), (0, .ref m)]) (by decide) rfl dX8_readsSleep_65 ?_
            refine q_aload_n hF 4 rfl rfl dX8_readsSleep_67 ?_
            refine q_iconst hF dX8_readsSleep_68 ?_
            refine q_putI hF fl_RX8_193 hS.t0 hSA dX8_readsSleep_69 ?_
            rw [q_ps_w15]
            refine q_aload_n hF 4 rfl rfl dX8_readsSleep_72 ?_
            refine q_callV (kc := 0) (ks := 0) (mc' := 0) (ms' := 0) (h' := 9 + 3 * (3 - 0) + 2) (st := []) hF vl_RX8_207 rfl [] rfl rfl hS.t0 (by omega) (Nat.le_of_ble_eq_true rfl) dX8_readsSleep_73 ?_
            refine ih3 _ _ _ _ _ _ 0 (g_ex B n f 3 0 (g_nl B n (g_sk B n (g_len 29 + q)) + (g_sk B n (g_len 29 + q)))) hB (show g_nl B n (g_sk B n (g_len 29 + q)) + (g_sk B n (g_len 29 + q)) ≤ n by omega) hfl (show 0 = ((0 : Nat) : Int) by omega) (by omega) (show 2 * s.cd + 3 ≤ 3 * (g_nl B n (g_sk B n (g_len 29 + q)) + (g_sk B n (g_len 29 + q))) by omega) rfl (hfu _ (by omega)) (fun p32 z32 e32 => ?_) (fun w32 x32 s32 t32 e32 hw32 hfl32 hfa32 hpn32 hon32 hhp32 => ?_)
            · have far32 := g_far_of hB (by decide) (show g_nl B n (g_sk B n (g_len 29 + q)) + (g_sk B n (g_len 29 + q)) ≤ n by omega) e32
              have fan32 := far32.1
              have faj32 := far32.2
              rw [if_neg (by decide)] at faj32
              refine q_aload_n hF 4 rfl rfl dX8_readsSleep_76 ?_
              refine q_callV (kc := 0) (ks := 0) (mc' := 0) (ms' := 0) (h' := 0) (st := []) hF vl_RX8_95 rfl [] rfl rfl hS.t0 (by omega) (Nat.le_of_ble_eq_true rfl) dX8_readsSleep_77 ?_
              refine mX8_fineA hS hfl ?_
              refine q_ifne hF (by decide) dX8_readsSleep_80 (fun c80 => ?_) (fun c80 => ?_)
              · refine q_aload_n hF 4 rfl rfl dX8_readsSleep_84 ?_
                refine q_getA hF fl_RX8_24 rfl hS.t0 hS.p10 dX8_readsSleep_85 ?_
                refine q_iload_n hF 3 rfl rfl dX8_readsSleep_88 ?_
                refine q_iload_n hF 1 rfl rfl dX8_readsSleep_89 ?_
                refine q_callS (kc := 0) (ks := 0) (mc' := 0) (ms' := 0) (h' := 0) (st := [.ref (m + 4)]) hF sl_RX8_226 rfl [qI 2, qI (g_lnd B n t (g_sk B n (g_len 29 + q)) (g_nl B n (g_sk B n (g_len 29 + q))))] rfl rfl (by omega) (Nat.le_of_ble_eq_true rfl) dX8_readsSleep_90 ?_
                refine mX8_lawAt ?_
                refine q_iload hF 0 rfl dX8_readsSleep_93 ?_
                refine q_i2l hF (by omega) dX8_readsSleep_95 ?_
                refine q_lastorev hF (n := 1243) ((89 + (2 * ((5 * 2) + (g_lnd B n t (g_sk B n (g_len 29 + q)) (g_nl B n (g_sk B n (g_len 29 + q))))))).toNat) hS.t4 (q_Ale hSA (by omega)) (by omega) (by omega) (by decide) dX8_readsSleep_96 ?_
                rw [q_row_u]
                refine q_aload_n hF 4 rfl rfl dX8_readsSleep_97 ?_
                refine q_getA hF fl_RX8_24 rfl hS.t0 hS.p10 dX8_readsSleep_98 ?_
                refine q_iload_n hF 3 rfl rfl dX8_readsSleep_101 ?_
                refine q_iload_n hF 1 rfl rfl dX8_readsSleep_102 ?_
                refine q_callS (kc := 0) (ks := 0) (mc' := 0) (ms' := 0) (h' := 0) (st := [.ref (m + 4)]) hF sl_RX8_226 rfl [qI 2, qI (g_lnd B n t (g_sk B n (g_len 29 + q)) (g_nl B n (g_sk B n (g_len 29 + q))))] rfl rfl (by omega) (Nat.le_of_ble_eq_true rfl) dX8_readsSleep_103 ?_
                refine mX8_lawAt ?_
                refine q_iconst hF dX8_readsSleep_106 ?_
                refine q_iadd hF dX8_readsSleep_107 ?_
                refine q_aload_n hF 4 rfl rfl dX8_readsSleep_108 ?_
                refine q_getIv hF (z := ((s.cd + g_el z32 : Nat) : Int)) fl_RX8_190 hS.t0 q_ps_14 dX8_readsSleep_109 ?_
                refine q_i2l hF (by omega) dX8_readsSleep_112 ?_
                refine q_lastorev hF (n := 1243) (((89 + (2 * ((5 * 2) + (g_lnd B n t (g_sk B n (g_len 29 + q)) (g_nl B n (g_sk B n (g_len 29 + q))))))) + 1).toNat) hS.t4 (q_Ale hSA (by omega)) (by omega) (by omega) (by decide) dX8_readsSleep_113 ?_
                rw [q_row_u]
                refine q_return hF rfl dX8_readsSleep_114 ?_
                exact k0 _ _ (by rw [← hx2, g_rdSleep, if_neg c3_0_1, if_neg c3_1_1, if_pos c3_2_1, g_rdS, if_pos c18_0_29, if_neg c18_1_29, if_neg (by omega), e32, g_bl_k])
              · exact absurd c80 (by decide)
            · have her32 : s32.fl ≠ 0 := by omega
              have hrf32 : -2147483648 ≤ s32.fl ∧ s32.fl < 2147483648 := by omega
              refine q_aload_n hF 4 rfl rfl dX8_readsSleep_76 ?_
              refine q_callV (kc := 0) (ks := 0) (mc' := 0) (ms' := 0) (h' := 0) (st := []) hF vl_RX8_95 rfl [] rfl rfl hS.t0 (by omega) (Nat.le_of_ble_eq_true rfl) dX8_readsSleep_77 ?_
              refine mX8_fine0 hS her32 (show -2147483648 ≤ s32.fl ∧ s32.fl < 2147483648 by first | decide | omega | assumption) ?_
              refine q_ifne hF (by decide) dX8_readsSleep_80 (fun c80 => ?_) (fun c80 => ?_)
              · exact absurd c80 (by decide)
              · refine q_return hF rfl dX8_readsSleep_83 ?_
                show Q (.inl none) sz T (q_ps I m s32) (q_row L (m + 4) t32) P
                exact k1 w32 x32 _ _ (by rw [← hx2, g_rdSleep, if_neg c3_0_1, if_neg c3_1_1, if_pos c3_2_1, g_rdS, if_pos c18_0_29, if_neg c18_1_29, if_neg (by omega), e32, g_bl_e]) hw32 hfl32 hfa32 hpn32
          · exact absurd c57 (by decide)
        · refine q_aload_n hF 3 rfl rfl dX8_readsSleep_46 ?_
          refine q_bipush hF (n := 6) rfl dX8_readsSleep_47 ?_
          refine q_iload_n hF 1 rfl rfl dX8_readsSleep_49 ?_
          refine q_callV (kc := 0) (ks := 0) (mc' := 0) (ms' := 0) (h' := 0) (st := []) hF vl_RX8_106 rfl [qI 6, qI ((g_sk B n (g_len 29 + q) : Nat) : Int)] rfl rfl hS.t0 (by omega) (Nat.le_of_ble_eq_true rfl) dX8_readsSleep_50 ?_
          refine mX8_wrongA hS hSA hfl ?_
          show qX G F Q 0 0 53 [(3, qI (g_lnd B n t (g_sk B n (g_len 29 + q)) (g_nl B n (g_sk B n (g_len 29 + q))))), (2, qI ((g_sk B n (g_len 29 + q) : Nat) : Int)), (1, qI 2), (0, .ref m)] [] sz T (q_ps I m (g_mk (g_nl B n (g_sk B n (g_len 29 + q)) + (g_sk B n (g_len 29 + q))) 6 ((g_sk B n (g_len 29 + q) : Nat) : Int) s.cd s.op s.on s.hp)) (q_row L (m + 4) t) P
          refine q_aload_n hF 3 rfl rfl dX8_readsSleep_53 ?_
          refine q_callV (kc := 0) (ks := 0) (mc' := 0) (ms' := 0) (h' := 0) (st := []) hF vl_RX8_95 rfl [] rfl rfl hS.t0 (by omega) (Nat.le_of_ble_eq_true rfl) dX8_readsSleep_54 ?_
          refine mX8_fine0 hS (show (6 : Int) ≠ 0 by decide) (show -2147483648 ≤ 6 ∧ 6 < 2147483648 by first | decide | omega | assumption) ?_
          refine q_ifne hF (by decide) dX8_readsSleep_57 (fun c57 => ?_) (fun c57 => ?_)
          · exact absurd c57 (by decide)
          · refine q_return hF rfl dX8_readsSleep_60 ?_
            show Q (.inl none) sz T (q_ps I m (g_mk (g_nl B n (g_sk B n (g_len 29 + q)) + (g_sk B n (g_len 29 + q))) 6 ((g_sk B n (g_len 29 + q) : Nat) : Int) s.cd s.op s.on s.hp)) (q_row L (m + 4) t) P
            exact k1 6 (g_sk B n (g_len 29 + q)) _ _ (by rw [← hx2, g_rdSleep, if_neg c3_0_1, if_neg c3_1_1, if_pos c3_2_1, g_rdS, if_pos c18_0_29, if_neg c18_1_29, if_pos c43]) (by decide) rfl rfl (show g_nl B n (g_sk B n (g_len 29 + q)) + (g_sk B n (g_len 29 + q)) ≤ n by omega)
    · show qX G F Q 0 0 21 [(2, qI ((g_sk B n (g_len 29 + q) : Nat) : Int)), (1, qI 2), (0, .ref m)] [qI (-1)] sz T (q_ps I m (g_mk (g_nl B n (g_sk B n (g_len 29 + q)) + (g_sk B n (g_len 29 + q))) 3 ((g_sk B n (g_len 29 + q) : Nat) : Int) s.cd s.op s.on s.hp)) (q_row L (m + 4) t) P
      refine q_istore_n hF (ls' := [(3, qI (-1)), (2, qI ((g_sk B n (g_len 29 + q) : Nat) : Int)), (1, qI 2), (0, .ref m)]) rfl (by decide) rfl dX8_readsSleep_21 ?_
      refine q_aload_n hF 3 rfl rfl dX8_readsSleep_22 ?_
      refine q_callV (kc := 0) (ks := 0) (mc' := 0) (ms' := 0) (h' := 0) (st := []) hF vl_RX8_95 rfl [] rfl rfl hS.t0 (by omega) (Nat.le_of_ble_eq_true rfl) dX8_readsSleep_23 ?_
      refine mX8_fine0 hS (show (3 : Int) ≠ 0 by decide) (show -2147483648 ≤ 3 ∧ 3 < 2147483648 by first | decide | omega | assumption) ?_
      refine q_ifeq hF (by decide) dX8_readsSleep_26 (fun c26 => ?_) (fun c26 => ?_)
      · refine q_aload_n hF 3 rfl rfl dX8_readsSleep_53 ?_
        refine q_callV (kc := 0) (ks := 0) (mc' := 0) (ms' := 0) (h' := 0) (st := []) hF vl_RX8_95 rfl [] rfl rfl hS.t0 (by omega) (Nat.le_of_ble_eq_true rfl) dX8_readsSleep_54 ?_
        refine mX8_fine0 hS (show (3 : Int) ≠ 0 by decide) (show -2147483648 ≤ 3 ∧ 3 < 2147483648 by first | decide | omega | assumption) ?_
        refine q_ifne hF (by decide) dX8_readsSleep_57 (fun c57 => ?_) (fun c57 => ?_)
        · exact absurd c57 (by decide)
        · refine q_return hF rfl dX8_readsSleep_60 ?_
          show Q (.inl none) sz T (q_ps I m (g_mk (g_nl B n (g_sk B n (g_len 29 + q)) + (g_sk B n (g_len 29 + q))) 3 ((g_sk B n (g_len 29 + q) : Nat) : Int) s.cd s.op s.on s.hp)) (q_row L (m + 4) t) P
          exact k1 3 (g_sk B n (g_len 29 + q)) _ _ (by rw [← hx2, g_rdSleep, if_neg c3_0_1, if_neg c3_1_1, if_pos c3_2_1, g_rdS, if_pos c18_0_29, if_pos c18_1_29]) (by decide) rfl rfl (show g_nl B n (g_sk B n (g_len 29 + q)) + (g_sk B n (g_len 29 + q)) ≤ n by omega)
      · exact absurd c26 (by decide)
    · show qX G F Q 0 0 21 [(2, qI ((g_sk B n (g_len 29 + q) : Nat) : Int)), (1, qI 2), (0, .ref m)] [qI (-1)] sz T (q_ps I m (g_mk (g_sk B n (g_len 29 + q)) 1 ((g_sk B n (g_len 29 + q) : Nat) : Int) s.cd s.op s.on s.hp)) (q_row L (m + 4) t) P
      refine q_istore_n hF (ls' := [(3, qI (-1)), (2, qI ((g_sk B n (g_len 29 + q) : Nat) : Int)), (1, qI 2), (0, .ref m)]) rfl (by decide) rfl dX8_readsSleep_21 ?_
      refine q_aload_n hF 3 rfl rfl dX8_readsSleep_22 ?_
      refine q_callV (kc := 0) (ks := 0) (mc' := 0) (ms' := 0) (h' := 0) (st := []) hF vl_RX8_95 rfl [] rfl rfl hS.t0 (by omega) (Nat.le_of_ble_eq_true rfl) dX8_readsSleep_23 ?_
      refine mX8_fine0 hS (show (1 : Int) ≠ 0 by decide) (show -2147483648 ≤ 1 ∧ 1 < 2147483648 by first | decide | omega | assumption) ?_
      refine q_ifeq hF (by decide) dX8_readsSleep_26 (fun c26 => ?_) (fun c26 => ?_)
      · refine q_aload_n hF 3 rfl rfl dX8_readsSleep_53 ?_
        refine q_callV (kc := 0) (ks := 0) (mc' := 0) (ms' := 0) (h' := 0) (st := []) hF vl_RX8_95 rfl [] rfl rfl hS.t0 (by omega) (Nat.le_of_ble_eq_true rfl) dX8_readsSleep_54 ?_
        refine mX8_fine0 hS (show (1 : Int) ≠ 0 by decide) (show -2147483648 ≤ 1 ∧ 1 < 2147483648 by first | decide | omega | assumption) ?_
        refine q_ifne hF (by decide) dX8_readsSleep_57 (fun c57 => ?_) (fun c57 => ?_)
        · exact absurd c57 (by decide)
        · refine q_return hF rfl dX8_readsSleep_60 ?_
          show Q (.inl none) sz T (q_ps I m (g_mk (g_sk B n (g_len 29 + q)) 1 ((g_sk B n (g_len 29 + q) : Nat) : Int) s.cd s.op s.on s.hp)) (q_row L (m + 4) t) P
          exact k1 1 (g_sk B n (g_len 29 + q)) _ _ (by rw [← hx2, g_rdSleep, if_neg c3_0_1, if_neg c3_1_1, if_pos c3_2_1, g_rdS, if_neg c18_0_29]) (by decide) rfl rfl (show g_sk B n (g_len 29 + q) ≤ n by omega)
      · exact absurd c26 (by decide)
  · show qX G F Q 0 0 6 [(0, .ref m)] [qI 3] sz T (q_ps I m (g_mk (g_len 30 + q) s.fl s.fa s.cd s.op s.on s.hp)) (q_row L (m + 4) t) P
    refine q_istore_n hF (ls' := [(1, qI 3), (0, .ref m)]) rfl (by decide) rfl dX8_readsSleep_6 ?_
    have hwl := g_words_ok 30 (by decide)
    have hwn := g_isW_n (g_words_ok 30 (by decide)) (fun k hk => by have := g_ch_r (i := 30) (by decide) hk; omega) c3_3_1
    have hsr := g_sk_r (B := B) (n := n) (k := g_len 30 + q) (by omega)
    have hnl := g_nl_r (B := B) (n := n) (q := (g_sk B n (g_len 30 + q))) hsr.2
    have hlf := g_lndF_r (B := B) (n := n) (t := t) (q := (g_sk B n (g_len 30 + q))) (c := g_nl B n (g_sk B n (g_len 30 + q))) 6 0
    change -1 ≤ g_lnd B n t (g_sk B n (g_len 30 + q)) (g_nl B n (g_sk B n (g_len 30 + q))) ∧ (g_lnd B n t (g_sk B n (g_len 30 + q)) (g_nl B n (g_sk B n (g_len 30 + q))) = -1 ∨ g_lnd B n t (g_sk B n (g_len 30 + q)) (g_nl B n (g_sk B n (g_len 30 + q))) < t 0) at hlf
    refine q_aload_n hF 1 rfl rfl dX8_readsSleep_7 ?_
    refine q_callV (kc := 0) (ks := 0) (mc' := 0) (ms' := 0) (h' := 1) (st := []) hF vl_RX8_78 rfl [] rfl rfl hS.t0 (by omega) (Nat.le_of_ble_eq_true rfl) dX8_readsSleep_8 ?_
    refine mX8_herePQ (B := B) (n := n) hS hSA hB (show (g_len 30 + q) ≤ n by omega) rfl ?_
    show qX G F Q 0 0 11 [(1, qI 3), (0, .ref m)] [qI (g_bt B n (g_sk B n (g_len 30 + q)))] sz T (q_ps I m (g_mk (g_sk B n (g_len 30 + q)) s.fl s.fa s.cd s.op s.on s.hp)) (q_row L (m + 4) t) P
    refine q_pop hF rfl dX8_readsSleep_11 ?_
    refine q_aload_n hF 1 rfl rfl dX8_readsSleep_12 ?_
    refine q_getIv hF (z := ((g_sk B n (g_len 30 + q) : Nat) : Int)) fl_RX8_65 hS.t0 q_ps_4 dX8_readsSleep_13 ?_
    refine q_istore_n hF (ls' := [(2, qI ((g_sk B n (g_len 30 + q) : Nat) : Int)), (1, qI 3), (0, .ref m)]) rfl (by decide) rfl dX8_readsSleep_16 ?_
    refine q_aload_n hF 2 rfl rfl dX8_readsSleep_17 ?_
    refine q_callV (kc := 0) (ks := 0) (mc' := 0) (ms' := 0) (h' := 7) (st := []) hF vl_RX8_223 rfl [] rfl rfl hS.t0 (by omega) (Nat.le_of_ble_eq_true rfl) dX8_readsSleep_18 ?_
    refine mX8_landHereP hS hSA hB (show (g_sk B n (g_len 30 + q)) ≤ n by omega) hfl ht (g_sk_sk (by omega)) (fun (c18_0_42 : g_nm B n (g_sk B n (g_len 30 + q))) (c18_1_42 : g_lnd B n t (g_sk B n (g_len 30 + q)) (g_nl B n (g_sk B n (g_len 30 + q))) ≠ -1) => ?_) (fun (c18_0_42 : g_nm B n (g_sk B n (g_len 30 + q))) (c18_1_42 : g_lnd B n t (g_sk B n (g_len 30 + q)) (g_nl B n (g_sk B n (g_len 30 + q))) = -1) => ?_) (fun (c18_0_42 : ¬ (g_nm B n (g_sk B n (g_len 30 + q)))) => ?_)
    · show qX G F Q 0 0 21 [(2, qI ((g_sk B n (g_len 30 + q) : Nat) : Int)), (1, qI 3), (0, .ref m)] [qI (g_lnd B n t (g_sk B n (g_len 30 + q)) (g_nl B n (g_sk B n (g_len 30 + q))))] sz T (q_ps I m (g_mk (g_nl B n (g_sk B n (g_len 30 + q)) + (g_sk B n (g_len 30 + q))) s.fl s.fa s.cd s.op s.on s.hp)) (q_row L (m + 4) t) P
      refine q_istore_n hF (ls' := [(3, qI (g_lnd B n t (g_sk B n (g_len 30 + q)) (g_nl B n (g_sk B n (g_len 30 + q))))), (2, qI ((g_sk B n (g_len 30 + q) : Nat) : Int)), (1, qI 3), (0, .ref m)]) rfl (by decide) rfl dX8_readsSleep_21 ?_
      refine q_aload_n hF 3 rfl rfl dX8_readsSleep_22 ?_
      refine q_callV (kc := 0) (ks := 0) (mc' := 0) (ms' := 0) (h' := 0) (st := []) hF vl_RX8_95 rfl [] rfl rfl hS.t0 (by omega) (Nat.le_of_ble_eq_true rfl) dX8_readsSleep_23 ?_
      refine mX8_fineA hS hfl ?_
      refine q_ifeq hF (by decide) dX8_readsSleep_26 (fun c26 => ?_) (fun c26 => ?_)
      · exact absurd c26 (by decide)
      · refine q_aload_n hF 3 rfl rfl dX8_readsSleep_29 ?_
        refine q_getA hF fl_RX8_24 rfl hS.t0 hS.p10 dX8_readsSleep_30 ?_
        refine q_iload_n hF 2 rfl rfl dX8_readsSleep_33 ?_
        refine q_iload_n hF 0 rfl rfl dX8_readsSleep_34 ?_
        refine q_callS (kc := 0) (ks := 0) (mc' := 0) (ms' := 0) (h' := 0) (st := [.ref (m + 4)]) hF sl_RX8_226 rfl [qI 3, qI (g_lnd B n t (g_sk B n (g_len 30 + q)) (g_nl B n (g_sk B n (g_len 30 + q))))] rfl rfl (by omega) (Nat.le_of_ble_eq_true rfl) dX8_readsSleep_35 ?_
        refine mX8_lawAt ?_
        refine q_iconst hF dX8_readsSleep_38 ?_
        refine q_iadd hF dX8_readsSleep_39 ?_
        refine q_laloadv hF (z := t (((89 + (2 * ((5 * 3) + (g_lnd B n t (g_sk B n (g_len 30 + q)) (g_nl B n (g_sk B n (g_len 30 + q))))))) + 1).toNat)) (n := 1243) (((89 + (2 * ((5 * 3) + (g_lnd B n t (g_sk B n (g_len 30 + q)) (g_nl B n (g_sk B n (g_len 30 + q))))))) + 1).toNat) hS.t4 (by omega) (by omega) (by decide) (q_row_s _ _ _ _) dX8_readsSleep_40 ?_
        refine q_lconst hF (z := 0) rfl dX8_readsSleep_41 ?_
        refine q_cmple hF (by have := ht.1 (((89 + (2 * ((5 * 3) + (g_lnd B n t (g_sk B n (g_len 30 + q)) (g_nl B n (g_sk B n (g_len 30 + q))))))) + 1).toNat) (by omega); omega) (by decide) dX8_readsSleep_42 dX8_readsSleep_43 (fun c43 => ?_) (fun c43 => ?_)
        · refine q_aload_n hF 3 rfl rfl dX8_readsSleep_53 ?_
          refine q_callV (kc := 0) (ks := 0) (mc' := 0) (ms' := 0) (h' := 0) (st := []) hF vl_RX8_95 rfl [] rfl rfl hS.t0 (by omega) (Nat.le_of_ble_eq_true rfl) dX8_readsSleep_54 ?_
          refine mX8_fineA hS hfl ?_
          refine q_ifne hF (by decide) dX8_readsSleep_57 (fun c57 => ?_) (fun c57 => ?_)
          · refine q_aload_n hF 3 rfl rfl dX8_readsSleep_61 ?_
            refine q_getIv hF (z := (s.cd : Int)) fl_RX8_190 hS.t0 q_ps_14 dX8_readsSleep_62 ?_
            refine q_istore hF (ls' := [(4, qI (s.cd : Int)), (3, qI (g_lnd B n t (g_sk B n (g_len 30 + q)) (g_nl B n (g_sk B n (g_len 30 + q))))), (2, qI ((g_sk B n (g_len 30 + q) : Nat) : Int)), (1, qI 3), (0, .ref m)]) (by decide) rfl dX8_readsSleep_65 ?_
            refine q_aload_n hF 4 rfl rfl dX8_readsSleep_67 ?_
            refine q_iconst hF dX8_readsSleep_68 ?_
            refine q_putI hF fl_RX8_193 hS.t0 hSA dX8_readsSleep_69 ?_
            rw [q_ps_w15]
            refine q_aload_n hF 4 rfl rfl dX8_readsSleep_72 ?_
            refine q_callV (kc := 0) (ks := 0) (mc' := 0) (ms' := 0) (h' := 9 + 3 * (3 - 0) + 2) (st := []) hF vl_RX8_207 rfl [] rfl rfl hS.t0 (by omega) (Nat.le_of_ble_eq_true rfl) dX8_readsSleep_73 ?_
            refine ih3 _ _ _ _ _ _ 0 (g_ex B n f 3 0 (g_nl B n (g_sk B n (g_len 30 + q)) + (g_sk B n (g_len 30 + q)))) hB (show g_nl B n (g_sk B n (g_len 30 + q)) + (g_sk B n (g_len 30 + q)) ≤ n by omega) hfl (show 0 = ((0 : Nat) : Int) by omega) (by omega) (show 2 * s.cd + 3 ≤ 3 * (g_nl B n (g_sk B n (g_len 30 + q)) + (g_sk B n (g_len 30 + q))) by omega) rfl (hfu _ (by omega)) (fun p45 z45 e45 => ?_) (fun w45 x45 s45 t45 e45 hw45 hfl45 hfa45 hpn45 hon45 hhp45 => ?_)
            · have far45 := g_far_of hB (by decide) (show g_nl B n (g_sk B n (g_len 30 + q)) + (g_sk B n (g_len 30 + q)) ≤ n by omega) e45
              have fan45 := far45.1
              have faj45 := far45.2
              rw [if_neg (by decide)] at faj45
              refine q_aload_n hF 4 rfl rfl dX8_readsSleep_76 ?_
              refine q_callV (kc := 0) (ks := 0) (mc' := 0) (ms' := 0) (h' := 0) (st := []) hF vl_RX8_95 rfl [] rfl rfl hS.t0 (by omega) (Nat.le_of_ble_eq_true rfl) dX8_readsSleep_77 ?_
              refine mX8_fineA hS hfl ?_
              refine q_ifne hF (by decide) dX8_readsSleep_80 (fun c80 => ?_) (fun c80 => ?_)
              · refine q_aload_n hF 4 rfl rfl dX8_readsSleep_84 ?_
                refine q_getA hF fl_RX8_24 rfl hS.t0 hS.p10 dX8_readsSleep_85 ?_
                refine q_iload_n hF 3 rfl rfl dX8_readsSleep_88 ?_
                refine q_iload_n hF 1 rfl rfl dX8_readsSleep_89 ?_
                refine q_callS (kc := 0) (ks := 0) (mc' := 0) (ms' := 0) (h' := 0) (st := [.ref (m + 4)]) hF sl_RX8_226 rfl [qI 3, qI (g_lnd B n t (g_sk B n (g_len 30 + q)) (g_nl B n (g_sk B n (g_len 30 + q))))] rfl rfl (by omega) (Nat.le_of_ble_eq_true rfl) dX8_readsSleep_90 ?_
                refine mX8_lawAt ?_
                refine q_iload hF 0 rfl dX8_readsSleep_93 ?_
                refine q_i2l hF (by omega) dX8_readsSleep_95 ?_
                refine q_lastorev hF (n := 1243) ((89 + (2 * ((5 * 3) + (g_lnd B n t (g_sk B n (g_len 30 + q)) (g_nl B n (g_sk B n (g_len 30 + q))))))).toNat) hS.t4 (q_Ale hSA (by omega)) (by omega) (by omega) (by decide) dX8_readsSleep_96 ?_
                rw [q_row_u]
                refine q_aload_n hF 4 rfl rfl dX8_readsSleep_97 ?_
                refine q_getA hF fl_RX8_24 rfl hS.t0 hS.p10 dX8_readsSleep_98 ?_
                refine q_iload_n hF 3 rfl rfl dX8_readsSleep_101 ?_
                refine q_iload_n hF 1 rfl rfl dX8_readsSleep_102 ?_
                refine q_callS (kc := 0) (ks := 0) (mc' := 0) (ms' := 0) (h' := 0) (st := [.ref (m + 4)]) hF sl_RX8_226 rfl [qI 3, qI (g_lnd B n t (g_sk B n (g_len 30 + q)) (g_nl B n (g_sk B n (g_len 30 + q))))] rfl rfl (by omega) (Nat.le_of_ble_eq_true rfl) dX8_readsSleep_103 ?_
                refine mX8_lawAt ?_
                refine q_iconst hF dX8_readsSleep_106 ?_
                refine q_iadd hF dX8_readsSleep_107 ?_
                refine q_aload_n hF 4 rfl rfl dX8_readsSleep_108 ?_
                refine q_getIv hF (z := ((s.cd + g_el z45 : Nat) : Int)) fl_RX8_190 hS.t0 q_ps_14 dX8_readsSleep_109 ?_
                refine q_i2l hF (by omega) dX8_readsSleep_112 ?_
                refine q_lastorev hF (n := 1243) (((89 + (2 * ((5 * 3) + (g_lnd B n t (g_sk B n (g_len 30 + q)) (g_nl B n (g_sk B n (g_len 30 + q))))))) + 1).toNat) hS.t4 (q_Ale hSA (by omega)) (by omega) (by omega) (by decide) dX8_readsSleep_113 ?_
                rw [q_row_u]
                refine q_return hF rfl dX8_readsSleep_114 ?_
                exact k0 _ _ (by rw [← hx2, g_rdSleep, if_neg c3_0_1, if_neg c3_1_1, if_neg c3_2_1, if_pos c3_3_1, g_rdS, if_pos c18_0_42, if_neg c18_1_42, if_neg (by omega), e45, g_bl_k])
              · exact absurd c80 (by decide)
            · have her45 : s45.fl ≠ 0 := by omega
              have hrf45 : -2147483648 ≤ s45.fl ∧ s45.fl < 2147483648 := by omega
              refine q_aload_n hF 4 rfl rfl dX8_readsSleep_76 ?_
              refine q_callV (kc := 0) (ks := 0) (mc' := 0) (ms' := 0) (h' := 0) (st := []) hF vl_RX8_95 rfl [] rfl rfl hS.t0 (by omega) (Nat.le_of_ble_eq_true rfl) dX8_readsSleep_77 ?_
              refine mX8_fine0 hS her45 (show -2147483648 ≤ s45.fl ∧ s45.fl < 2147483648 by first | decide | omega | assumption) ?_
              refine q_ifne hF (by decide) dX8_readsSleep_80 (fun c80 => ?_) (fun c80 => ?_)
              · exact absurd c80 (by decide)
              · refine q_return hF rfl dX8_readsSleep_83 ?_
                show Q (.inl none) sz T (q_ps I m s45) (q_row L (m + 4) t45) P
                exact k1 w45 x45 _ _ (by rw [← hx2, g_rdSleep, if_neg c3_0_1, if_neg c3_1_1, if_neg c3_2_1, if_pos c3_3_1, g_rdS, if_pos c18_0_42, if_neg c18_1_42, if_neg (by omega), e45, g_bl_e]) hw45 hfl45 hfa45 hpn45
          · exact absurd c57 (by decide)
        · refine q_aload_n hF 3 rfl rfl dX8_readsSleep_46 ?_
          refine q_bipush hF (n := 6) rfl dX8_readsSleep_47 ?_
          refine q_iload_n hF 1 rfl rfl dX8_readsSleep_49 ?_
          refine q_callV (kc := 0) (ks := 0) (mc' := 0) (ms' := 0) (h' := 0) (st := []) hF vl_RX8_106 rfl [qI 6, qI ((g_sk B n (g_len 30 + q) : Nat) : Int)] rfl rfl hS.t0 (by omega) (Nat.le_of_ble_eq_true rfl) dX8_readsSleep_50 ?_
          refine mX8_wrongA hS hSA hfl ?_
          show qX G F Q 0 0 53 [(3, qI (g_lnd B n t (g_sk B n (g_len 30 + q)) (g_nl B n (g_sk B n (g_len 30 + q))))), (2, qI ((g_sk B n (g_len 30 + q) : Nat) : Int)), (1, qI 3), (0, .ref m)] [] sz T (q_ps I m (g_mk (g_nl B n (g_sk B n (g_len 30 + q)) + (g_sk B n (g_len 30 + q))) 6 ((g_sk B n (g_len 30 + q) : Nat) : Int) s.cd s.op s.on s.hp)) (q_row L (m + 4) t) P
          refine q_aload_n hF 3 rfl rfl dX8_readsSleep_53 ?_
          refine q_callV (kc := 0) (ks := 0) (mc' := 0) (ms' := 0) (h' := 0) (st := []) hF vl_RX8_95 rfl [] rfl rfl hS.t0 (by omega) (Nat.le_of_ble_eq_true rfl) dX8_readsSleep_54 ?_
          refine mX8_fine0 hS (show (6 : Int) ≠ 0 by decide) (show -2147483648 ≤ 6 ∧ 6 < 2147483648 by first | decide | omega | assumption) ?_
          refine q_ifne hF (by decide) dX8_readsSleep_57 (fun c57 => ?_) (fun c57 => ?_)
          · exact absurd c57 (by decide)
          · refine q_return hF rfl dX8_readsSleep_60 ?_
            show Q (.inl none) sz T (q_ps I m (g_mk (g_nl B n (g_sk B n (g_len 30 + q)) + (g_sk B n (g_len 30 + q))) 6 ((g_sk B n (g_len 30 + q) : Nat) : Int) s.cd s.op s.on s.hp)) (q_row L (m + 4) t) P
            exact k1 6 (g_sk B n (g_len 30 + q)) _ _ (by rw [← hx2, g_rdSleep, if_neg c3_0_1, if_neg c3_1_1, if_neg c3_2_1, if_pos c3_3_1, g_rdS, if_pos c18_0_42, if_neg c18_1_42, if_pos c43]) (by decide) rfl rfl (show g_nl B n (g_sk B n (g_len 30 + q)) + (g_sk B n (g_len 30 + q)) ≤ n by omega)
    · show qX G F Q 0 0 21 [(2, qI ((g_sk B n (g_len 30 + q) : Nat) : Int)), (1, qI 3), (0, .ref m)] [qI (-1)] sz T (q_ps I m (g_mk (g_nl B n (g_sk B n (g_len 30 + q)) + (g_sk B n (g_len 30 + q))) 3 ((g_sk B n (g_len 30 + q) : Nat) : Int) s.cd s.op s.on s.hp)) (q_row L (m + 4) t) P
      refine q_istore_n hF (ls' := [(3, qI (-1)), (2, qI ((g_sk B n (g_len 30 + q) : Nat) : Int)), (1, qI 3), (0, .ref m)]) rfl (by decide) rfl dX8_readsSleep_21 ?_
      refine q_aload_n hF 3 rfl rfl dX8_readsSleep_22 ?_
      refine q_callV (kc := 0) (ks := 0) (mc' := 0) (ms' := 0) (h' := 0) (st := []) hF vl_RX8_95 rfl [] rfl rfl hS.t0 (by omega) (Nat.le_of_ble_eq_true rfl) dX8_readsSleep_23 ?_
      refine mX8_fine0 hS (show (3 : Int) ≠ 0 by decide) (show -2147483648 ≤ 3 ∧ 3 < 2147483648 by first | decide | omega | assumption) ?_
      refine q_ifeq hF (by decide) dX8_readsSleep_26 (fun c26 => ?_) (fun c26 => ?_)
      · refine q_aload_n hF 3 rfl rfl dX8_readsSleep_53 ?_
        refine q_callV (kc := 0) (ks := 0) (mc' := 0) (ms' := 0) (h' := 0) (st := []) hF vl_RX8_95 rfl [] rfl rfl hS.t0 (by omega) (Nat.le_of_ble_eq_true rfl) dX8_readsSleep_54 ?_
        refine mX8_fine0 hS (show (3 : Int) ≠ 0 by decide) (show -2147483648 ≤ 3 ∧ 3 < 2147483648 by first | decide | omega | assumption) ?_
        refine q_ifne hF (by decide) dX8_readsSleep_57 (fun c57 => ?_) (fun c57 => ?_)
        · exact absurd c57 (by decide)
        · refine q_return hF rfl dX8_readsSleep_60 ?_
          show Q (.inl none) sz T (q_ps I m (g_mk (g_nl B n (g_sk B n (g_len 30 + q)) + (g_sk B n (g_len 30 + q))) 3 ((g_sk B n (g_len 30 + q) : Nat) : Int) s.cd s.op s.on s.hp)) (q_row L (m + 4) t) P
          exact k1 3 (g_sk B n (g_len 30 + q)) _ _ (by rw [← hx2, g_rdSleep, if_neg c3_0_1, if_neg c3_1_1, if_neg c3_2_1, if_pos c3_3_1, g_rdS, if_pos c18_0_42, if_pos c18_1_42]) (by decide) rfl rfl (show g_nl B n (g_sk B n (g_len 30 + q)) + (g_sk B n (g_len 30 + q)) ≤ n by omega)
      · exact absurd c26 (by decide)
    · show qX G F Q 0 0 21 [(2, qI ((g_sk B n (g_len 30 + q) : Nat) : Int)), (1, qI 3), (0, .ref m)] [qI (-1)] sz T (q_ps I m (g_mk (g_sk B n (g_len 30 + q)) 1 ((g_sk B n (g_len 30 + q) : Nat) : Int) s.cd s.op s.on s.hp)) (q_row L (m + 4) t) P
      refine q_istore_n hF (ls' := [(3, qI (-1)), (2, qI ((g_sk B n (g_len 30 + q) : Nat) : Int)), (1, qI 3), (0, .ref m)]) rfl (by decide) rfl dX8_readsSleep_21 ?_
      refine q_aload_n hF 3 rfl rfl dX8_readsSleep_22 ?_
      refine q_callV (kc := 0) (ks := 0) (mc' := 0) (ms' := 0) (h' := 0) (st := []) hF vl_RX8_95 rfl [] rfl rfl hS.t0 (by omega) (Nat.le_of_ble_eq_true rfl) dX8_readsSleep_23 ?_
      refine mX8_fine0 hS (show (1 : Int) ≠ 0 by decide) (show -2147483648 ≤ 1 ∧ 1 < 2147483648 by first | decide | omega | assumption) ?_
      refine q_ifeq hF (by decide) dX8_readsSleep_26 (fun c26 => ?_) (fun c26 => ?_)
      · refine q_aload_n hF 3 rfl rfl dX8_readsSleep_53 ?_
        refine q_callV (kc := 0) (ks := 0) (mc' := 0) (ms' := 0) (h' := 0) (st := []) hF vl_RX8_95 rfl [] rfl rfl hS.t0 (by omega) (Nat.le_of_ble_eq_true rfl) dX8_readsSleep_54 ?_
        refine mX8_fine0 hS (show (1 : Int) ≠ 0 by decide) (show -2147483648 ≤ 1 ∧ 1 < 2147483648 by first | decide | omega | assumption) ?_
        refine q_ifne hF (by decide) dX8_readsSleep_57 (fun c57 => ?_) (fun c57 => ?_)
        · exact absurd c57 (by decide)
        · refine q_return hF rfl dX8_readsSleep_60 ?_
          show Q (.inl none) sz T (q_ps I m (g_mk (g_sk B n (g_len 30 + q)) 1 ((g_sk B n (g_len 30 + q) : Nat) : Int) s.cd s.op s.on s.hp)) (q_row L (m + 4) t) P
          exact k1 1 (g_sk B n (g_len 30 + q)) _ _ (by rw [← hx2, g_rdSleep, if_neg c3_0_1, if_neg c3_1_1, if_neg c3_2_1, if_pos c3_3_1, g_rdS, if_neg c18_0_42]) (by decide) rfl rfl (show g_sk B n (g_len 30 + q) ≤ n by omega)
      · exact absurd c26 (by decide)
  · show qX G F Q 0 0 6 [(0, .ref m)] [qI 4] sz T (q_ps I m (g_mk (g_len 31 + q) s.fl s.fa s.cd s.op s.on s.hp)) (q_row L (m + 4) t) P
    refine q_istore_n hF (ls' := [(1, qI 4), (0, .ref m)]) rfl (by decide) rfl dX8_readsSleep_6 ?_
    have hwl := g_words_ok 31 (by decide)
    have hwn := g_isW_n (g_words_ok 31 (by decide)) (fun k hk => by have := g_ch_r (i := 31) (by decide) hk; omega) c3_4_1
    have hsr := g_sk_r (B := B) (n := n) (k := g_len 31 + q) (by omega)
    have hnl := g_nl_r (B := B) (n := n) (q := (g_sk B n (g_len 31 + q))) hsr.2
    have hlf := g_lndF_r (B := B) (n := n) (t := t) (q := (g_sk B n (g_len 31 + q))) (c := g_nl B n (g_sk B n (g_len 31 + q))) 6 0
    change -1 ≤ g_lnd B n t (g_sk B n (g_len 31 + q)) (g_nl B n (g_sk B n (g_len 31 + q))) ∧ (g_lnd B n t (g_sk B n (g_len 31 + q)) (g_nl B n (g_sk B n (g_len 31 + q))) = -1 ∨ g_lnd B n t (g_sk B n (g_len 31 + q)) (g_nl B n (g_sk B n (g_len 31 + q))) < t 0) at hlf
    refine q_aload_n hF 1 rfl rfl dX8_readsSleep_7 ?_
    refine q_callV (kc := 0) (ks := 0) (mc' := 0) (ms' := 0) (h' := 1) (st := []) hF vl_RX8_78 rfl [] rfl rfl hS.t0 (by omega) (Nat.le_of_ble_eq_true rfl) dX8_readsSleep_8 ?_
    refine mX8_herePQ (B := B) (n := n) hS hSA hB (show (g_len 31 + q) ≤ n by omega) rfl ?_
    show qX G F Q 0 0 11 [(1, qI 4), (0, .ref m)] [qI (g_bt B n (g_sk B n (g_len 31 + q)))] sz T (q_ps I m (g_mk (g_sk B n (g_len 31 + q)) s.fl s.fa s.cd s.op s.on s.hp)) (q_row L (m + 4) t) P
    refine q_pop hF rfl dX8_readsSleep_11 ?_
    refine q_aload_n hF 1 rfl rfl dX8_readsSleep_12 ?_
    refine q_getIv hF (z := ((g_sk B n (g_len 31 + q) : Nat) : Int)) fl_RX8_65 hS.t0 q_ps_4 dX8_readsSleep_13 ?_
    refine q_istore_n hF (ls' := [(2, qI ((g_sk B n (g_len 31 + q) : Nat) : Int)), (1, qI 4), (0, .ref m)]) rfl (by decide) rfl dX8_readsSleep_16 ?_
    refine q_aload_n hF 2 rfl rfl dX8_readsSleep_17 ?_
    refine q_callV (kc := 0) (ks := 0) (mc' := 0) (ms' := 0) (h' := 7) (st := []) hF vl_RX8_223 rfl [] rfl rfl hS.t0 (by omega) (Nat.le_of_ble_eq_true rfl) dX8_readsSleep_18 ?_
    refine mX8_landHereP hS hSA hB (show (g_sk B n (g_len 31 + q)) ≤ n by omega) hfl ht (g_sk_sk (by omega)) (fun (c18_0_55 : g_nm B n (g_sk B n (g_len 31 + q))) (c18_1_55 : g_lnd B n t (g_sk B n (g_len 31 + q)) (g_nl B n (g_sk B n (g_len 31 + q))) ≠ -1) => ?_) (fun (c18_0_55 : g_nm B n (g_sk B n (g_len 31 + q))) (c18_1_55 : g_lnd B n t (g_sk B n (g_len 31 + q)) (g_nl B n (g_sk B n (g_len 31 + q))) = -1) => ?_) (fun (c18_0_55 : ¬ (g_nm B n (g_sk B n (g_len 31 + q)))) => ?_)
    · show qX G F Q 0 0 21 [(2, qI ((g_sk B n (g_len 31 + q) : Nat) : Int)), (1, qI 4), (0, .ref m)] [qI (g_lnd B n t (g_sk B n (g_len 31 + q)) (g_nl B n (g_sk B n (g_len 31 + q))))] sz T (q_ps I m (g_mk (g_nl B n (g_sk B n (g_len 31 + q)) + (g_sk B n (g_len 31 + q))) s.fl s.fa s.cd s.op s.on s.hp)) (q_row L (m + 4) t) P
      refine q_istore_n hF (ls' := [(3, qI (g_lnd B n t (g_sk B n (g_len 31 + q)) (g_nl B n (g_sk B n (g_len 31 + q))))), (2, qI ((g_sk B n (g_len 31 + q) : Nat) : Int)), (1, qI 4), (0, .ref m)]) rfl (by decide) rfl dX8_readsSleep_21 ?_
      refine q_aload_n hF 3 rfl rfl dX8_readsSleep_22 ?_
      refine q_callV (kc := 0) (ks := 0) (mc' := 0) (ms' := 0) (h' := 0) (st := []) hF vl_RX8_95 rfl [] rfl rfl hS.t0 (by omega) (Nat.le_of_ble_eq_true rfl) dX8_readsSleep_23 ?_
      refine mX8_fineA hS hfl ?_
      refine q_ifeq hF (by decide) dX8_readsSleep_26 (fun c26 => ?_) (fun c26 => ?_)
      · exact absurd c26 (by decide)
      · refine q_aload_n hF 3 rfl rfl dX8_readsSleep_29 ?_
        refine q_getA hF fl_RX8_24 rfl hS.t0 hS.p10 dX8_readsSleep_30 ?_
        refine q_iload_n hF 2 rfl rfl dX8_readsSleep_33 ?_
        refine q_iload_n hF 0 rfl rfl dX8_readsSleep_34 ?_
        refine q_callS (kc := 0) (ks := 0) (mc' := 0) (ms' := 0) (h' := 0) (st := [.ref (m + 4)]) hF sl_RX8_226 rfl [qI 4, qI (g_lnd B n t (g_sk B n (g_len 31 + q)) (g_nl B n (g_sk B n (g_len 31 + q))))] rfl rfl (by omega) (Nat.le_of_ble_eq_true rfl) dX8_readsSleep_35 ?_
        refine mX8_lawAt ?_
        refine q_iconst hF dX8_readsSleep_38 ?_
        refine q_iadd hF dX8_readsSleep_39 ?_
        refine q_laloadv hF (z := t (((89 + (2 * ((5 * 4) + (g_lnd B n t (g_sk B n (g_len 31 + q)) (g_nl B n (g_sk B n (g_len 31 + q))))))) + 1).toNat)) (n := 1243) (((89 + (2 * ((5 * 4) + (g_lnd B n t (g_sk B n (g_len 31 + q)) (g_nl B n (g_sk B n (g_len 31 + q))))))) + 1).toNat) hS.t4 (by omega) (by omega) (by decide) (q_row_s _ _ _ _) dX8_readsSleep_40 ?_
        refine q_lconst hF (z := 0) rfl dX8_readsSleep_41 ?_
        refine q_cmple hF (by have := ht.1 (((89 + (2 * ((5 * 4) + (g_lnd B n t (g_sk B n (g_len 31 + q)) (g_nl B n (g_sk B n (g_len 31 + q))))))) + 1).toNat) (by omega); omega) (by decide) dX8_readsSleep_42 dX8_readsSleep_43 (fun c43 => ?_) (fun c43 => ?_)
        · refine q_aload_n hF 3 rfl rfl dX8_readsSleep_53 ?_
          refine q_callV (kc := 0) (ks := 0) (mc' := 0) (ms' := 0) (h' := 0) (st := []) hF vl_RX8_95 rfl [] rfl rfl hS.t0 (by omega) (Nat.le_of_ble_eq_true rfl) dX8_readsSleep_54 ?_
          refine mX8_fineA hS hfl ?_
          refine q_ifne hF (by decide) dX8_readsSleep_57 (fun c57 => ?_) (fun c57 => ?_)
          · refine q_aload_n hF 3 rfl rfl dX8_readsSleep_61 ?_
            refine q_getIv hF (z := (s.cd : Int)) fl_RX8_190 hS.t0 q_ps_14 dX8_readsSleep_62 ?_
            refine q_istore hF (ls' := [(4, qI (s.cd : Int)), (3, qI (g_lnd B n t (g_sk B n (g_len 31 + q)) (g_nl B n (g_sk B n (g_len 31 + q))))), (2, qI ((g_sk B n (g_len 31 + q) : Nat) : Int)), (1, qI 4), (0, .ref m)]) (by decide) rfl dX8_readsSleep_65 ?_
            refine q_aload_n hF 4 rfl rfl dX8_readsSleep_67 ?_
            refine q_iconst hF dX8_readsSleep_68 ?_
            refine q_putI hF fl_RX8_193 hS.t0 hSA dX8_readsSleep_69 ?_
            rw [q_ps_w15]
            refine q_aload_n hF 4 rfl rfl dX8_readsSleep_72 ?_
            refine q_callV (kc := 0) (ks := 0) (mc' := 0) (ms' := 0) (h' := 9 + 3 * (3 - 0) + 2) (st := []) hF vl_RX8_207 rfl [] rfl rfl hS.t0 (by omega) (Nat.le_of_ble_eq_true rfl) dX8_readsSleep_73 ?_
            refine ih3 _ _ _ _ _ _ 0 (g_ex B n f 3 0 (g_nl B n (g_sk B n (g_len 31 + q)) + (g_sk B n (g_len 31 + q)))) hB (show g_nl B n (g_sk B n (g_len 31 + q)) + (g_sk B n (g_len 31 + q)) ≤ n by omega) hfl (show 0 = ((0 : Nat) : Int) by omega) (by omega) (show 2 * s.cd + 3 ≤ 3 * (g_nl B n (g_sk B n (g_len 31 + q)) + (g_sk B n (g_len 31 + q))) by omega) rfl (hfu _ (by omega)) (fun p58 z58 e58 => ?_) (fun w58 x58 s58 t58 e58 hw58 hfl58 hfa58 hpn58 hon58 hhp58 => ?_)
            · have far58 := g_far_of hB (by decide) (show g_nl B n (g_sk B n (g_len 31 + q)) + (g_sk B n (g_len 31 + q)) ≤ n by omega) e58
              have fan58 := far58.1
              have faj58 := far58.2
              rw [if_neg (by decide)] at faj58
              refine q_aload_n hF 4 rfl rfl dX8_readsSleep_76 ?_
              refine q_callV (kc := 0) (ks := 0) (mc' := 0) (ms' := 0) (h' := 0) (st := []) hF vl_RX8_95 rfl [] rfl rfl hS.t0 (by omega) (Nat.le_of_ble_eq_true rfl) dX8_readsSleep_77 ?_
              refine mX8_fineA hS hfl ?_
              refine q_ifne hF (by decide) dX8_readsSleep_80 (fun c80 => ?_) (fun c80 => ?_)
              · refine q_aload_n hF 4 rfl rfl dX8_readsSleep_84 ?_
                refine q_getA hF fl_RX8_24 rfl hS.t0 hS.p10 dX8_readsSleep_85 ?_
                refine q_iload_n hF 3 rfl rfl dX8_readsSleep_88 ?_
                refine q_iload_n hF 1 rfl rfl dX8_readsSleep_89 ?_
                refine q_callS (kc := 0) (ks := 0) (mc' := 0) (ms' := 0) (h' := 0) (st := [.ref (m + 4)]) hF sl_RX8_226 rfl [qI 4, qI (g_lnd B n t (g_sk B n (g_len 31 + q)) (g_nl B n (g_sk B n (g_len 31 + q))))] rfl rfl (by omega) (Nat.le_of_ble_eq_true rfl) dX8_readsSleep_90 ?_
                refine mX8_lawAt ?_
                refine q_iload hF 0 rfl dX8_readsSleep_93 ?_
                refine q_i2l hF (by omega) dX8_readsSleep_95 ?_
                refine q_lastorev hF (n := 1243) ((89 + (2 * ((5 * 4) + (g_lnd B n t (g_sk B n (g_len 31 + q)) (g_nl B n (g_sk B n (g_len 31 + q))))))).toNat) hS.t4 (q_Ale hSA (by omega)) (by omega) (by omega) (by decide) dX8_readsSleep_96 ?_
                rw [q_row_u]
                refine q_aload_n hF 4 rfl rfl dX8_readsSleep_97 ?_
                refine q_getA hF fl_RX8_24 rfl hS.t0 hS.p10 dX8_readsSleep_98 ?_
                refine q_iload_n hF 3 rfl rfl dX8_readsSleep_101 ?_
                refine q_iload_n hF 1 rfl rfl dX8_readsSleep_102 ?_
                refine q_callS (kc := 0) (ks := 0) (mc' := 0) (ms' := 0) (h' := 0) (st := [.ref (m + 4)]) hF sl_RX8_226 rfl [qI 4, qI (g_lnd B n t (g_sk B n (g_len 31 + q)) (g_nl B n (g_sk B n (g_len 31 + q))))] rfl rfl (by omega) (Nat.le_of_ble_eq_true rfl) dX8_readsSleep_103 ?_
                refine mX8_lawAt ?_
                refine q_iconst hF dX8_readsSleep_106 ?_
                refine q_iadd hF dX8_readsSleep_107 ?_
                refine q_aload_n hF 4 rfl rfl dX8_readsSleep_108 ?_
                refine q_getIv hF (z := ((s.cd + g_el z58 : Nat) : Int)) fl_RX8_190 hS.t0 q_ps_14 dX8_readsSleep_109 ?_
                refine q_i2l hF (by omega) dX8_readsSleep_112 ?_
                refine q_lastorev hF (n := 1243) (((89 + (2 * ((5 * 4) + (g_lnd B n t (g_sk B n (g_len 31 + q)) (g_nl B n (g_sk B n (g_len 31 + q))))))) + 1).toNat) hS.t4 (q_Ale hSA (by omega)) (by omega) (by omega) (by decide) dX8_readsSleep_113 ?_
                rw [q_row_u]
                refine q_return hF rfl dX8_readsSleep_114 ?_
                exact k0 _ _ (by rw [← hx2, g_rdSleep, if_neg c3_0_1, if_neg c3_1_1, if_neg c3_2_1, if_neg c3_3_1, if_pos c3_4_1, g_rdS, if_pos c18_0_55, if_neg c18_1_55, if_neg (by omega), e58, g_bl_k])
              · exact absurd c80 (by decide)
            · have her58 : s58.fl ≠ 0 := by omega
              have hrf58 : -2147483648 ≤ s58.fl ∧ s58.fl < 2147483648 := by omega
              refine q_aload_n hF 4 rfl rfl dX8_readsSleep_76 ?_
              refine q_callV (kc := 0) (ks := 0) (mc' := 0) (ms' := 0) (h' := 0) (st := []) hF vl_RX8_95 rfl [] rfl rfl hS.t0 (by omega) (Nat.le_of_ble_eq_true rfl) dX8_readsSleep_77 ?_
              refine mX8_fine0 hS her58 (show -2147483648 ≤ s58.fl ∧ s58.fl < 2147483648 by first | decide | omega | assumption) ?_
              refine q_ifne hF (by decide) dX8_readsSleep_80 (fun c80 => ?_) (fun c80 => ?_)
              · exact absurd c80 (by decide)
              · refine q_return hF rfl dX8_readsSleep_83 ?_
                show Q (.inl none) sz T (q_ps I m s58) (q_row L (m + 4) t58) P
                exact k1 w58 x58 _ _ (by rw [← hx2, g_rdSleep, if_neg c3_0_1, if_neg c3_1_1, if_neg c3_2_1, if_neg c3_3_1, if_pos c3_4_1, g_rdS, if_pos c18_0_55, if_neg c18_1_55, if_neg (by omega), e58, g_bl_e]) hw58 hfl58 hfa58 hpn58
          · exact absurd c57 (by decide)
        · refine q_aload_n hF 3 rfl rfl dX8_readsSleep_46 ?_
          refine q_bipush hF (n := 6) rfl dX8_readsSleep_47 ?_
          refine q_iload_n hF 1 rfl rfl dX8_readsSleep_49 ?_
          refine q_callV (kc := 0) (ks := 0) (mc' := 0) (ms' := 0) (h' := 0) (st := []) hF vl_RX8_106 rfl [qI 6, qI ((g_sk B n (g_len 31 + q) : Nat) : Int)] rfl rfl hS.t0 (by omega) (Nat.le_of_ble_eq_true rfl) dX8_readsSleep_50 ?_
          refine mX8_wrongA hS hSA hfl ?_
          show qX G F Q 0 0 53 [(3, qI (g_lnd B n t (g_sk B n (g_len 31 + q)) (g_nl B n (g_sk B n (g_len 31 + q))))), (2, qI ((g_sk B n (g_len 31 + q) : Nat) : Int)), (1, qI 4), (0, .ref m)] [] sz T (q_ps I m (g_mk (g_nl B n (g_sk B n (g_len 31 + q)) + (g_sk B n (g_len 31 + q))) 6 ((g_sk B n (g_len 31 + q) : Nat) : Int) s.cd s.op s.on s.hp)) (q_row L (m + 4) t) P
          refine q_aload_n hF 3 rfl rfl dX8_readsSleep_53 ?_
          refine q_callV (kc := 0) (ks := 0) (mc' := 0) (ms' := 0) (h' := 0) (st := []) hF vl_RX8_95 rfl [] rfl rfl hS.t0 (by omega) (Nat.le_of_ble_eq_true rfl) dX8_readsSleep_54 ?_
          refine mX8_fine0 hS (show (6 : Int) ≠ 0 by decide) (show -2147483648 ≤ 6 ∧ 6 < 2147483648 by first | decide | omega | assumption) ?_
          refine q_ifne hF (by decide) dX8_readsSleep_57 (fun c57 => ?_) (fun c57 => ?_)
          · exact absurd c57 (by decide)
          · refine q_return hF rfl dX8_readsSleep_60 ?_
            show Q (.inl none) sz T (q_ps I m (g_mk (g_nl B n (g_sk B n (g_len 31 + q)) + (g_sk B n (g_len 31 + q))) 6 ((g_sk B n (g_len 31 + q) : Nat) : Int) s.cd s.op s.on s.hp)) (q_row L (m + 4) t) P
            exact k1 6 (g_sk B n (g_len 31 + q)) _ _ (by rw [← hx2, g_rdSleep, if_neg c3_0_1, if_neg c3_1_1, if_neg c3_2_1, if_neg c3_3_1, if_pos c3_4_1, g_rdS, if_pos c18_0_55, if_neg c18_1_55, if_pos c43]) (by decide) rfl rfl (show g_nl B n (g_sk B n (g_len 31 + q)) + (g_sk B n (g_len 31 + q)) ≤ n by omega)
    · show qX G F Q 0 0 21 [(2, qI ((g_sk B n (g_len 31 + q) : Nat) : Int)), (1, qI 4), (0, .ref m)] [qI (-1)] sz T (q_ps I m (g_mk (g_nl B n (g_sk B n (g_len 31 + q)) + (g_sk B n (g_len 31 + q))) 3 ((g_sk B n (g_len 31 + q) : Nat) : Int) s.cd s.op s.on s.hp)) (q_row L (m + 4) t) P
      refine q_istore_n hF (ls' := [(3, qI (-1)), (2, qI ((g_sk B n (g_len 31 + q) : Nat) : Int)), (1, qI 4), (0, .ref m)]) rfl (by decide) rfl dX8_readsSleep_21 ?_
      refine q_aload_n hF 3 rfl rfl dX8_readsSleep_22 ?_
      refine q_callV (kc := 0) (ks := 0) (mc' := 0) (ms' := 0) (h' := 0) (st := []) hF vl_RX8_95 rfl [] rfl rfl hS.t0 (by omega) (Nat.le_of_ble_eq_true rfl) dX8_readsSleep_23 ?_
      refine mX8_fine0 hS (show (3 : Int) ≠ 0 by decide) (show -2147483648 ≤ 3 ∧ 3 < 2147483648 by first | decide | omega | assumption) ?_
      refine q_ifeq hF (by decide) dX8_readsSleep_26 (fun c26 => ?_) (fun c26 => ?_)
      · refine q_aload_n hF 3 rfl rfl dX8_readsSleep_53 ?_
        refine q_callV (kc := 0) (ks := 0) (mc' := 0) (ms' := 0) (h' := 0) (st := []) hF vl_RX8_95 rfl [] rfl rfl hS.t0 (by omega) (Nat.le_of_ble_eq_true rfl) dX8_readsSleep_54 ?_
        refine mX8_fine0 hS (show (3 : Int) ≠ 0 by decide) (show -2147483648 ≤ 3 ∧ 3 < 2147483648 by first | decide | omega | assumption) ?_
        refine q_ifne hF (by decide) dX8_readsSleep_57 (fun c57 => ?_) (fun c57 => ?_)
        · exact absurd c57 (by decide)
        · refine q_return hF rfl dX8_readsSleep_60 ?_
          show Q (.inl none) sz T (q_ps I m (g_mk (g_nl B n (g_sk B n (g_len 31 + q)) + (g_sk B n (g_len 31 + q))) 3 ((g_sk B n (g_len 31 + q) : Nat) : Int) s.cd s.op s.on s.hp)) (q_row L (m + 4) t) P
          exact k1 3 (g_sk B n (g_len 31 + q)) _ _ (by rw [← hx2, g_rdSleep, if_neg c3_0_1, if_neg c3_1_1, if_neg c3_2_1, if_neg c3_3_1, if_pos c3_4_1, g_rdS, if_pos c18_0_55, if_pos c18_1_55]) (by decide) rfl rfl (show g_nl B n (g_sk B n (g_len 31 + q)) + (g_sk B n (g_len 31 + q)) ≤ n by omega)
      · exact absurd c26 (by decide)
    · show qX G F Q 0 0 21 [(2, qI ((g_sk B n (g_len 31 + q) : Nat) : Int)), (1, qI 4), (0, .ref m)] [qI (-1)] sz T (q_ps I m (g_mk (g_sk B n (g_len 31 + q)) 1 ((g_sk B n (g_len 31 + q) : Nat) : Int) s.cd s.op s.on s.hp)) (q_row L (m + 4) t) P
      refine q_istore_n hF (ls' := [(3, qI (-1)), (2, qI ((g_sk B n (g_len 31 + q) : Nat) : Int)), (1, qI 4), (0, .ref m)]) rfl (by decide) rfl dX8_readsSleep_21 ?_
      refine q_aload_n hF 3 rfl rfl dX8_readsSleep_22 ?_
      refine q_callV (kc := 0) (ks := 0) (mc' := 0) (ms' := 0) (h' := 0) (st := []) hF vl_RX8_95 rfl [] rfl rfl hS.t0 (by omega) (Nat.le_of_ble_eq_true rfl) dX8_readsSleep_23 ?_
      refine mX8_fine0 hS (show (1 : Int) ≠ 0 by decide) (show -2147483648 ≤ 1 ∧ 1 < 2147483648 by first | decide | omega | assumption) ?_
      refine q_ifeq hF (by decide) dX8_readsSleep_26 (fun c26 => ?_) (fun c26 => ?_)
      · refine q_aload_n hF 3 rfl rfl dX8_readsSleep_53 ?_
        refine q_callV (kc := 0) (ks := 0) (mc' := 0) (ms' := 0) (h' := 0) (st := []) hF vl_RX8_95 rfl [] rfl rfl hS.t0 (by omega) (Nat.le_of_ble_eq_true rfl) dX8_readsSleep_54 ?_
        refine mX8_fine0 hS (show (1 : Int) ≠ 0 by decide) (show -2147483648 ≤ 1 ∧ 1 < 2147483648 by first | decide | omega | assumption) ?_
        refine q_ifne hF (by decide) dX8_readsSleep_57 (fun c57 => ?_) (fun c57 => ?_)
        · exact absurd c57 (by decide)
        · refine q_return hF rfl dX8_readsSleep_60 ?_
          show Q (.inl none) sz T (q_ps I m (g_mk (g_sk B n (g_len 31 + q)) 1 ((g_sk B n (g_len 31 + q) : Nat) : Int) s.cd s.op s.on s.hp)) (q_row L (m + 4) t) P
          exact k1 1 (g_sk B n (g_len 31 + q)) _ _ (by rw [← hx2, g_rdSleep, if_neg c3_0_1, if_neg c3_1_1, if_neg c3_2_1, if_neg c3_3_1, if_pos c3_4_1, g_rdS, if_neg c18_0_55]) (by decide) rfl rfl (show g_sk B n (g_len 31 + q) ≤ n by omega)
      · exact absurd c26 (by decide)
  · show qX G F Q 0 0 6 [(0, .ref m)] [qI (-1)] sz T (q_ps I m (g_mk q 1 (q : Int) s.cd s.op s.on s.hp)) (q_row L (m + 4) t) P
    refine q_istore_n hF (ls' := [(1, qI (-1)), (0, .ref m)]) rfl (by decide) rfl dX8_readsSleep_6 ?_
    skip
    refine q_aload_n hF 1 rfl rfl dX8_readsSleep_7 ?_
    refine q_callV (kc := 0) (ks := 0) (mc' := 0) (ms' := 0) (h' := 1) (st := []) hF vl_RX8_78 rfl [] rfl rfl hS.t0 (by omega) (Nat.le_of_ble_eq_true rfl) dX8_readsSleep_8 ?_
    refine mX8_herePQ (B := B) (n := n) hS hSA hB (show q ≤ n by omega) hqq ?_
    show qX G F Q 0 0 11 [(1, qI (-1)), (0, .ref m)] [qI (g_bt B n q)] sz T (q_ps I m (g_mk q 1 (q : Int) s.cd s.op s.on s.hp)) (q_row L (m + 4) t) P
    refine q_pop hF rfl dX8_readsSleep_11 ?_
    refine q_aload_n hF 1 rfl rfl dX8_readsSleep_12 ?_
    refine q_getIv hF (z := (q : Int)) fl_RX8_65 hS.t0 q_ps_4 dX8_readsSleep_13 ?_
    refine q_istore_n hF (ls' := [(2, qI (q : Int)), (1, qI (-1)), (0, .ref m)]) rfl (by decide) rfl dX8_readsSleep_16 ?_
    refine q_aload_n hF 2 rfl rfl dX8_readsSleep_17 ?_
    refine q_callV (kc := 0) (ks := 0) (mc' := 0) (ms' := 0) (h' := 7) (st := []) hF vl_RX8_223 rfl [] rfl rfl hS.t0 (by omega) (Nat.le_of_ble_eq_true rfl) dX8_readsSleep_18 ?_
    refine mX8_landHere0 hS hSA (show (1 : Int) ≠ 0 by decide) (show -2147483648 ≤ 1 ∧ 1 < 2147483648 by first | decide | omega | assumption) ?_
    refine q_istore_n hF (ls' := [(3, qI (-1)), (2, qI (q : Int)), (1, qI (-1)), (0, .ref m)]) rfl (by decide) rfl dX8_readsSleep_21 ?_
    refine q_aload_n hF 3 rfl rfl dX8_readsSleep_22 ?_
    refine q_callV (kc := 0) (ks := 0) (mc' := 0) (ms' := 0) (h' := 0) (st := []) hF vl_RX8_95 rfl [] rfl rfl hS.t0 (by omega) (Nat.le_of_ble_eq_true rfl) dX8_readsSleep_23 ?_
    refine mX8_fine0 hS (show (1 : Int) ≠ 0 by decide) (show -2147483648 ≤ 1 ∧ 1 < 2147483648 by first | decide | omega | assumption) ?_
    refine q_ifeq hF (by decide) dX8_readsSleep_26 (fun c26 => ?_) (fun c26 => ?_)
    · refine q_aload_n hF 3 rfl rfl dX8_readsSleep_53 ?_
      refine q_callV (kc := 0) (ks := 0) (mc' := 0) (ms' := 0) (h' := 0) (st := []) hF vl_RX8_95 rfl [] rfl rfl hS.t0 (by omega) (Nat.le_of_ble_eq_true rfl) dX8_readsSleep_54 ?_
      refine mX8_fine0 hS (show (1 : Int) ≠ 0 by decide) (show -2147483648 ≤ 1 ∧ 1 < 2147483648 by first | decide | omega | assumption) ?_
      refine q_ifne hF (by decide) dX8_readsSleep_57 (fun c57 => ?_) (fun c57 => ?_)
      · exact absurd c57 (by decide)
      · refine q_return hF rfl dX8_readsSleep_60 ?_
        show Q (.inl none) sz T (q_ps I m (g_mk q 1 (q : Int) s.cd s.op s.on s.hp)) (q_row L (m + 4) t) P
        exact k1 1 q _ _ (by rw [← hx2, g_rdSleep, if_neg c3_0_1, if_neg c3_1_1, if_neg c3_2_1, if_neg c3_3_1, if_neg c3_4_1]) (by decide) rfl rfl (show q ≤ n by omega)
    · exact absurd c26 (by decide)
