/-! lines of a text -/
def g_or (a b : Int) : Int := (Int32.ofInt a ||| Int32.ofInt b).toInt
theorem g_or_o (a b : Int) : Int32.ofInt a ||| Int32.ofInt b = Int32.ofInt (g_or a b) := q_i32 _
abbrev g_Rl : Type := (g_PS × (Nat → Int)) ⊕ (Int × Nat)
abbrev g_Rl.ok (s : g_PS) (t : Nat → Int) : g_Rl := .inl (s, t)
abbrev g_Rl.er (w : Int) (x : Nat) : g_Rl := .inr (w, x)
/-- behind pays and a kind -/
def g_rdP (B : Nat → Int) (n : Nat) (s : g_PS) (t : Nat → Int) (k : Nat) (kz : Int) (p : Nat) (wh : Nat) : g_Rl :=
  if g_and (g_shr s.hp kz) 1 = 1 then g_Rl.er 6 wh
  else if g_dg (g_bt B n (g_sk B n p)) then (if 0 ≤ g_nv B n (g_sk B n p) 0 ∧ g_nv B n (g_sk B n p) 0 ≤ 999 then g_Rl.ok (g_mk (g_nd B n (g_sk B n p)) s.fl s.fa s.cd s.op s.on (g_or s.hp (g_shl 1 kz))) (g_up t (12 + k) (g_nv B n (g_sk B n p) 0)) else g_Rl.er 2 (g_sk B n p)) else g_Rl.er 1 (g_sk B n p)
def g_rdPays (B : Nat → Int) (n : Nat) (s : g_PS) (t : Nat → Int) (q : Nat) : g_Rl :=
  if g_isW B n 27 q then g_rdP B n s t 0 0 (g_len 27 + q) q
  else if g_isW B n 28 q then g_rdP B n s t 1 1 (g_len 28 + q) q
  else if g_isW B n 29 q then g_rdP B n s t 2 2 (g_len 29 + q) q
  else if g_isW B n 30 q then g_rdP B n s t 3 3 (g_len 30 + q) q
  else if g_isW B n 31 q then g_rdP B n s t 4 4 (g_len 31 + q) q
  else g_Rl.er 1 q
set_option maxRecDepth 100000 in
theorem mX8_isOnceP {G : q_G} {sz : Nat} {T : q_T} {I L : q_I} {P : q_P} {Q : q_Q} {m : Nat} {b : Int} {i q : Nat} {s : g_PS} {B : Nat → Int} {n : Nat}  (hS : q_SM T P m) (hSA : q_A G m) (hB : q_BT I m B n) (hi : i < 49) (hp : s.p ≤ n) (hfl : s.fl = 0) (hsk : g_sk B n s.p = q) (k0 : ¬ (g_isW B n i q) → Q (.inl (some (qI 0))) sz T (q_ps I m (g_mk q s.fl s.fa s.cd s.op s.on s.hp)) L P) (k1 : g_isW B n i q → g_and (g_shr s.on b) 1 = 1 → Q (.inl (some (qI 0))) sz T (q_ps I m (g_mk q s.fl s.fa s.cd s.op s.on s.hp)) L P) (k2 : g_isW B n i q → g_and (g_shr s.on b) 1 ≠ 1 → Q (.inl (some (qI 1))) sz T (q_ps I m (g_mk (g_len i + q) s.fl s.fa s.cd s.op (g_or s.on (g_shl 1 b)) s.hp)) L P) : qC G 6 0 0 YX8_isOnce [.ref m, .ref (q_KS G i), qI b] sz T (q_ps I m s) L P Q := by
  refine qC_of (by decide +kernel) rfl rfl (Nat.le_of_ble_eq_true rfl) (fun F hF _ _ => ?_)
  have hn6 := hB.2.1
  have hq := g_sk_r (B := B) hp
  rw [hsk] at hq
  have hqq : g_sk B n q = q := by rw [← hsk]; exact g_sk_sk hp
  refine q_aload_n hF 0 rfl rfl dX8_isOnce_0 ?_
  refine q_aload_n hF 1 rfl rfl dX8_isOnce_1 ?_
  refine q_callV (kc := 0) (ks := 0) (mc' := 0) (ms' := 0) (h' := 4) (st := []) hF vl_RX8_99 rfl [.ref (q_KS G i)] rfl rfl hS.t0 (by omega) (Nat.le_of_ble_eq_true rfl) dX8_isOnce_2 ?_
  refine mX8_isWordPQ (i := i) hS hSA hB hi (show s.p ≤ n by omega) hsk ?_
  show qX G F Q 0 0 5 [(0, .ref m), (1, .ref (q_KS G i)), (2, qI b)] [qI (q_b (g_isW B n i q))] sz T (q_ps I m (g_mk q s.fl s.fa s.cd s.op s.on s.hp)) L P
  refine q_ifeq_b hF dX8_isOnce_5 (fun c5 => ?_) (fun c5 => ?_)
  · refine q_iconst hF dX8_isOnce_20 ?_
    refine q_zreturn hF (by decide) rfl dX8_isOnce_21 ?_
    exact k0 c5
  · refine q_aload_n hF 0 rfl rfl dX8_isOnce_8 ?_
    refine q_getIv hF (z := s.on) fl_RX8_232 hS.t0 q_ps_16 dX8_isOnce_9 ?_
    refine q_iload_n hF 2 rfl rfl dX8_isOnce_12 ?_
    refine q_ishr hF (c0 := g_shr s.on b) (g_shr_o _ _) dX8_isOnce_13 ?_
    refine q_iconst hF dX8_isOnce_14 ?_
    refine q_iand hF (c0 := g_and (g_shr s.on b) 1) (g_and_o _ _) dX8_isOnce_15 ?_
    refine q_iconst hF dX8_isOnce_16 ?_
    refine q_icmpne hF (g_and_r _ _) (by decide) dX8_isOnce_17 (fun c17 => ?_) (fun c17 => ?_)
    · refine q_aload_n hF 0 rfl rfl dX8_isOnce_22 ?_
      refine q_dup hF rfl dX8_isOnce_23 ?_
      refine q_getIv hF (z := s.on) fl_RX8_232 hS.t0 q_ps_16 dX8_isOnce_24 ?_
      refine q_iconst hF dX8_isOnce_27 ?_
      refine q_iload_n hF 2 rfl rfl dX8_isOnce_28 ?_
      refine q_ishl hF (c0 := g_shl 1 b) (g_shl_o _ _) dX8_isOnce_29 ?_
      refine q_ior hF (c0 := g_or s.on (g_shl 1 b)) (g_or_o _ _) dX8_isOnce_30 ?_
      refine q_putI hF fl_RX8_232 hS.t0 hSA dX8_isOnce_31 ?_
      rw [q_ps_w16]
      refine q_aload_n hF 0 rfl rfl dX8_isOnce_34 ?_
      refine q_aload_n hF 1 rfl rfl dX8_isOnce_35 ?_
      refine q_callV (kc := 0) (ks := 0) (mc' := 0) (ms' := 0) (h' := 5) (st := []) hF vl_RX8_103 rfl [.ref (q_KS G i)] rfl rfl hS.t0 (by omega) (Nat.le_of_ble_eq_true rfl) dX8_isOnce_36 ?_
      refine mX8_takesPQ (i := i) hS hSA hB hi (show q ≤ n by omega) hfl hqq (fun (c36_0_2 : ¬ (g_isW B n i q)) => ?_) (fun (c36_0_2 : g_isW B n i q) => ?_)
      · first | exact absurd c36_0_2 c5 | exact absurd c5 c36_0_2
      · show qX G F Q 0 0 39 [(0, .ref m), (1, .ref (q_KS G i)), (2, qI b)] [qI 1] sz T (q_ps I m (g_mk (g_len i + q) s.fl s.fa s.cd s.op (g_or s.on (g_shl 1 b)) s.hp)) L P
        refine q_zreturn hF (by decide) rfl dX8_isOnce_39 ?_
        exact k2 c5 c17
    · refine q_iconst hF dX8_isOnce_20 ?_
      refine q_zreturn hF (by decide) rfl dX8_isOnce_21 ?_
      exact k1 c5 c17
set_option maxRecDepth 100000 in
theorem mX8_readsPaysP {G : q_G} {sz : Nat} {T : q_T} {I L : q_I} {P : q_P} {Q : q_Q} {m : Nat} {q : Nat} {r : g_Rl} {s : g_PS} {B : Nat → Int} {n : Nat} {t : Nat → Int} (hS : q_SM T P m) (hSA : q_A G m) (hB : q_BT I m B n) (hp : s.p ≤ n) (hfl : s.fl = 0) (hsk : g_sk B n s.p = q) (hne2 : g_rdPays B n s t q = r) (k0 : ∀ s' t', r = .ok s' t' → Q (.inl none) sz T (q_ps I m s') (q_row L (m + 4) t') P) (k1 : ∀ (w : Int) (x : Nat) (s' : g_PS) (t' : Nat → Int), r = .er w x → (1 ≤ w ∧ w ≤ 7) → s'.fl = w → s'.fa = (x : Int) → s'.p ≤ n → Q (.inl none) sz T (q_ps I m s') (q_row L (m + 4) t') P) : qC G 7 0 0 YX8_readsPays [.ref m] sz T (q_ps I m s) (q_row L (m + 4) t) P Q := by
  refine qC_of (by decide +kernel) rfl rfl (Nat.le_of_ble_eq_true rfl) (fun F hF _ _ => ?_)
  have hn6 := hB.2.1
  have hq := g_sk_r (B := B) hp
  rw [hsk] at hq
  have hqq : g_sk B n q = q := by rw [← hsk]; exact g_sk_sk hp
  have hx2 := hne2
  refine q_aload_n hF 0 rfl rfl dX8_readsPays_0 ?_
  refine q_callV (kc := 0) (ks := 0) (mc' := 0) (ms' := 0) (h' := 1) (st := []) hF vl_RX8_78 rfl [] rfl rfl hS.t0 (by omega) (Nat.le_of_ble_eq_true rfl) dX8_readsPays_1 ?_
  refine mX8_herePQ (B := B) (n := n) hS hSA hB (show s.p ≤ n by omega) hsk ?_
  show qX G F Q 0 0 4 [(0, .ref m)] [qI (g_bt B n q)] sz T (q_ps I m (g_mk q s.fl s.fa s.cd s.op s.on s.hp)) (q_row L (m + 4) t) P
  refine q_pop hF rfl dX8_readsPays_4 ?_
  refine q_aload_n hF 0 rfl rfl dX8_readsPays_5 ?_
  refine q_getIv hF (z := (q : Int)) fl_RX8_65 hS.t0 q_ps_4 dX8_readsPays_6 ?_
  refine q_istore_n hF (ls' := [(1, qI (q : Int)), (0, .ref m)]) rfl (by decide) rfl dX8_readsPays_9 ?_
  refine q_aload_n hF 1 rfl rfl dX8_readsPays_10 ?_
  refine q_iconst hF dX8_readsPays_11 ?_
  refine q_iconst hF dX8_readsPays_12 ?_
  refine q_callV (kc := 0) (ks := 0) (mc' := 0) (ms' := 0) (h' := 6) (st := []) hF vl_RX8_220 rfl [qI 0, qI 4] rfl rfl hS.t0 (by omega) (Nat.le_of_ble_eq_true rfl) dX8_readsPays_13 ?_
  refine mX8_one0 hS hSA hB (show q ≤ n by omega) hfl hqq (fun (c13_0_2 : g_isW B n 27 q) => ?_) (fun (c13_0_2 : ¬ (g_isW B n 27 q)) (c13_1_2 : g_isW B n 28 q) => ?_) (fun (c13_0_2 : ¬ (g_isW B n 27 q)) (c13_1_2 : ¬ (g_isW B n 28 q)) (c13_2_2 : g_isW B n 29 q) => ?_) (fun (c13_0_2 : ¬ (g_isW B n 27 q)) (c13_1_2 : ¬ (g_isW B n 28 q)) (c13_2_2 : ¬ (g_isW B n 29 q)) (c13_3_2 : g_isW B n 30 q) => ?_) (fun (c13_0_2 : ¬ (g_isW B n 27 q)) (c13_1_2 : ¬ (g_isW B n 28 q)) (c13_2_2 : ¬ (g_isW B n 29 q)) (c13_3_2 : ¬ (g_isW B n 30 q)) (c13_4_2 : g_isW B n 31 q) => ?_) (fun (c13_0_2 : ¬ (g_isW B n 27 q)) (c13_1_2 : ¬ (g_isW B n 28 q)) (c13_2_2 : ¬ (g_isW B n 29 q)) (c13_3_2 : ¬ (g_isW B n 30 q)) (c13_4_2 : ¬ (g_isW B n 31 q)) => ?_)
  · show qX G F Q 0 0 16 [(1, qI (q : Int)), (0, .ref m)] [qI 0] sz T (q_ps I m (g_mk (g_len 27 + q) s.fl s.fa s.cd s.op s.on s.hp)) (q_row L (m + 4) t) P
    refine q_istore_n hF (ls' := [(2, qI 0), (1, qI (q : Int)), (0, .ref m)]) rfl (by decide) rfl dX8_readsPays_16 ?_
    have hwl := g_words_ok 27 (by decide)
    have hwn := g_isW_n (g_words_ok 27 (by decide)) (fun k hk => by have := g_ch_r (i := 27) (by decide) hk; omega) c13_0_2
    have hsr := g_sk_r (B := B) (n := n) (k := g_len 27 + q) (by omega)
    have hnd := g_nd_r (B := B) (n := n) (k := g_sk B n (g_len 27 + q)) (by omega)
    have hnv := g_nv_r (B := B) (n := n) _ (g_sk B n (g_len 27 + q)) 0 (Nat.lt_succ_self _) (by decide) (by decide)
    refine q_aload_n hF 2 rfl rfl dX8_readsPays_17 ?_
    refine q_callV (kc := 0) (ks := 0) (mc' := 0) (ms' := 0) (h' := 0) (st := []) hF vl_RX8_95 rfl [] rfl rfl hS.t0 (by omega) (Nat.le_of_ble_eq_true rfl) dX8_readsPays_18 ?_
    refine mX8_fineA hS hfl ?_
    refine q_ifeq hF (by decide) dX8_readsPays_21 (fun c21 => ?_) (fun c21 => ?_)
    · exact absurd c21 (by decide)
    · refine q_aload_n hF 2 rfl rfl dX8_readsPays_24 ?_
      refine q_getIv hF (z := s.hp) fl_RX8_229 hS.t0 q_ps_17 dX8_readsPays_25 ?_
      refine q_iload_n hF 0 rfl rfl dX8_readsPays_28 ?_
      refine q_ishr hF (c0 := g_shr s.hp 0) (g_shr_o _ _) dX8_readsPays_29 ?_
      refine q_iconst hF dX8_readsPays_30 ?_
      refine q_iand hF (c0 := g_and (g_shr s.hp 0) 1) (g_and_o _ _) dX8_readsPays_31 ?_
      refine q_iconst hF dX8_readsPays_32 ?_
      refine q_icmpne hF (g_and_r _ _) (by decide) dX8_readsPays_33 (fun c33 => ?_) (fun c33 => ?_)
      · refine q_aload_n hF 2 rfl rfl dX8_readsPays_43 ?_
        refine q_iconst hF dX8_readsPays_44 ?_
        refine q_sipush hF (n := 999) rfl dX8_readsPays_45 ?_
        refine q_callV (kc := 0) (ks := 0) (mc' := 0) (ms' := 0) (h' := 2) (st := []) hF vl_RX8_187 rfl [qI 0, qI 999] rfl rfl hS.t0 (by omega) (Nat.le_of_ble_eq_true rfl) dX8_readsPays_48 ?_
        refine mX8_numberPQ hS hSA hB (by first | decide | omega) (by first | decide | omega) (show (g_len 27 + q) ≤ n by omega) hfl rfl (fun (c48_0_4 : ¬ (48 ≤ (g_bt B n (g_sk B n (g_len 27 + q))) ∧ (g_bt B n (g_sk B n (g_len 27 + q))) ≤ 57)) => ?_) (fun (c48_0_4 : 48 ≤ (g_bt B n (g_sk B n (g_len 27 + q))) ∧ (g_bt B n (g_sk B n (g_len 27 + q))) ≤ 57) (c48_1_4 : 0 ≤ g_nv B n (g_sk B n (g_len 27 + q)) 0 ∧ g_nv B n (g_sk B n (g_len 27 + q)) 0 ≤ 999) => ?_) (fun (c48_0_4 : 48 ≤ (g_bt B n (g_sk B n (g_len 27 + q))) ∧ (g_bt B n (g_sk B n (g_len 27 + q))) ≤ 57) (c48_1_4 : ¬ (0 ≤ g_nv B n (g_sk B n (g_len 27 + q)) 0 ∧ g_nv B n (g_sk B n (g_len 27 + q)) 0 ≤ 999)) => ?_)
        · show qX G F Q 0 0 51 [(2, qI 0), (1, qI (q : Int)), (0, .ref m)] [qI 0] sz T (q_ps I m (g_mk (g_sk B n (g_len 27 + q)) 1 ((g_sk B n (g_len 27 + q) : Nat) : Int) s.cd s.op s.on s.hp)) (q_row L (m + 4) t) P
          refine q_istore_n hF (ls' := [(3, qI 0), (2, qI 0), (1, qI (q : Int)), (0, .ref m)]) rfl (by decide) rfl dX8_readsPays_51 ?_
          refine q_aload_n hF 3 rfl rfl dX8_readsPays_52 ?_
          refine q_callV (kc := 0) (ks := 0) (mc' := 0) (ms' := 0) (h' := 0) (st := []) hF vl_RX8_95 rfl [] rfl rfl hS.t0 (by omega) (Nat.le_of_ble_eq_true rfl) dX8_readsPays_53 ?_
          refine mX8_fine0 hS (show (1 : Int) ≠ 0 by decide) (show -2147483648 ≤ 1 ∧ 1 < 2147483648 by first | decide | omega | assumption) ?_
          refine q_ifne hF (by decide) dX8_readsPays_56 (fun c56 => ?_) (fun c56 => ?_)
          · exact absurd c56 (by decide)
          · refine q_return hF rfl dX8_readsPays_59 ?_
            show Q (.inl none) sz T (q_ps I m (g_mk (g_sk B n (g_len 27 + q)) 1 ((g_sk B n (g_len 27 + q) : Nat) : Int) s.cd s.op s.on s.hp)) (q_row L (m + 4) t) P
            exact k1 1 (g_sk B n (g_len 27 + q)) _ _ (by rw [← hx2, g_rdPays, if_pos c13_0_2, g_rdP, if_neg c33, if_neg c48_0_4]) (by decide) rfl rfl (show g_sk B n (g_len 27 + q) ≤ n by omega)
        · show qX G F Q 0 0 51 [(2, qI 0), (1, qI (q : Int)), (0, .ref m)] [qI (g_nv B n (g_sk B n (g_len 27 + q)) 0)] sz T (q_ps I m (g_mk (g_nd B n (g_sk B n (g_len 27 + q))) s.fl s.fa s.cd s.op s.on s.hp)) (q_row L (m + 4) t) P
          refine q_istore_n hF (ls' := [(3, qI (g_nv B n (g_sk B n (g_len 27 + q)) 0)), (2, qI 0), (1, qI (q : Int)), (0, .ref m)]) rfl (by decide) rfl dX8_readsPays_51 ?_
          refine q_aload_n hF 3 rfl rfl dX8_readsPays_52 ?_
          refine q_callV (kc := 0) (ks := 0) (mc' := 0) (ms' := 0) (h' := 0) (st := []) hF vl_RX8_95 rfl [] rfl rfl hS.t0 (by omega) (Nat.le_of_ble_eq_true rfl) dX8_readsPays_53 ?_
          refine mX8_fineA hS hfl ?_
          refine q_ifne hF (by decide) dX8_readsPays_56 (fun c56 => ?_) (fun c56 => ?_)
          · refine q_aload_n hF 3 rfl rfl dX8_readsPays_60 ?_
            refine q_dup hF rfl dX8_readsPays_61 ?_
            refine q_getIv hF (z := s.hp) fl_RX8_229 hS.t0 q_ps_17 dX8_readsPays_62 ?_
            refine q_iconst hF dX8_readsPays_65 ?_
            refine q_iload_n hF 1 rfl rfl dX8_readsPays_66 ?_
            refine q_ishl hF (c0 := g_shl 1 0) (g_shl_o _ _) dX8_readsPays_67 ?_
            refine q_ior hF (c0 := g_or s.hp (g_shl 1 0)) (g_or_o _ _) dX8_readsPays_68 ?_
            refine q_putI hF fl_RX8_229 hS.t0 hSA dX8_readsPays_69 ?_
            rw [q_ps_w17]
            refine q_aload_n hF 3 rfl rfl dX8_readsPays_72 ?_
            refine q_getA hF fl_RX8_24 rfl hS.t0 hS.p10 dX8_readsPays_73 ?_
            refine q_bipush hF (n := 12) rfl dX8_readsPays_76 ?_
            refine q_iload_n hF 1 rfl rfl dX8_readsPays_78 ?_
            refine q_iadd hF dX8_readsPays_79 ?_
            refine q_iload_n hF 0 rfl rfl dX8_readsPays_80 ?_
            refine q_i2l hF (by omega) dX8_readsPays_81 ?_
            refine q_lastorev hF (n := 1243) 12 hS.t4 (q_Ale hSA (by omega)) (by omega) (by omega) (by decide) dX8_readsPays_82 ?_
            refine q_return hF rfl dX8_readsPays_83 ?_
            rw [q_row_u]
            exact k0 _ _ (by rw [← hx2, g_rdPays, if_pos c13_0_2, g_rdP, if_neg c33, if_pos c48_0_4, if_pos c48_1_4])
          · exact absurd c56 (by decide)
        · show qX G F Q 0 0 51 [(2, qI 0), (1, qI (q : Int)), (0, .ref m)] [qI (g_nv B n (g_sk B n (g_len 27 + q)) 0)] sz T (q_ps I m (g_mk (g_nd B n (g_sk B n (g_len 27 + q))) 2 ((g_sk B n (g_len 27 + q) : Nat) : Int) s.cd s.op s.on s.hp)) (q_row L (m + 4) t) P
          refine q_istore_n hF (ls' := [(3, qI (g_nv B n (g_sk B n (g_len 27 + q)) 0)), (2, qI 0), (1, qI (q : Int)), (0, .ref m)]) rfl (by decide) rfl dX8_readsPays_51 ?_
          refine q_aload_n hF 3 rfl rfl dX8_readsPays_52 ?_
          refine q_callV (kc := 0) (ks := 0) (mc' := 0) (ms' := 0) (h' := 0) (st := []) hF vl_RX8_95 rfl [] rfl rfl hS.t0 (by omega) (Nat.le_of_ble_eq_true rfl) dX8_readsPays_53 ?_
          refine mX8_fine0 hS (show (2 : Int) ≠ 0 by decide) (show -2147483648 ≤ 2 ∧ 2 < 2147483648 by first | decide | omega | assumption) ?_
          refine q_ifne hF (by decide) dX8_readsPays_56 (fun c56 => ?_) (fun c56 => ?_)
          · exact absurd c56 (by decide)
          · refine q_return hF rfl dX8_readsPays_59 ?_
            show Q (.inl none) sz T (q_ps I m (g_mk (g_nd B n (g_sk B n (g_len 27 + q))) 2 ((g_sk B n (g_len 27 + q) : Nat) : Int) s.cd s.op s.on s.hp)) (q_row L (m + 4) t) P
            exact k1 2 (g_sk B n (g_len 27 + q)) _ _ (by rw [← hx2, g_rdPays, if_pos c13_0_2, g_rdP, if_neg c33, if_pos c48_0_4, if_neg c48_1_4]) (by decide) rfl rfl (show g_nd B n (g_sk B n (g_len 27 + q)) ≤ n by omega)
      · refine q_aload_n hF 2 rfl rfl dX8_readsPays_36 ?_
        refine q_bipush hF (n := 6) rfl dX8_readsPays_37 ?_
        refine q_iload_n hF 1 rfl rfl dX8_readsPays_39 ?_
        refine q_callV (kc := 0) (ks := 0) (mc' := 0) (ms' := 0) (h' := 0) (st := []) hF vl_RX8_106 rfl [qI 6, qI (q : Int)] rfl rfl hS.t0 (by omega) (Nat.le_of_ble_eq_true rfl) dX8_readsPays_40 ?_
        refine mX8_wrongA hS hSA hfl ?_
        show qX G F Q 0 0 43 [(2, qI 0), (1, qI (q : Int)), (0, .ref m)] [] sz T (q_ps I m (g_mk (g_len 27 + q) 6 (q : Int) s.cd s.op s.on s.hp)) (q_row L (m + 4) t) P
        refine q_aload_n hF 2 rfl rfl dX8_readsPays_43 ?_
        refine q_iconst hF dX8_readsPays_44 ?_
        refine q_sipush hF (n := 999) rfl dX8_readsPays_45 ?_
        refine q_callV (kc := 0) (ks := 0) (mc' := 0) (ms' := 0) (h' := 2) (st := []) hF vl_RX8_187 rfl [qI 0, qI 999] rfl rfl hS.t0 (by omega) (Nat.le_of_ble_eq_true rfl) dX8_readsPays_48 ?_
        refine mX8_number0 hS hSA (show (6 : Int) ≠ 0 by decide) (show -2147483648 ≤ 6 ∧ 6 < 2147483648 by first | decide | omega | assumption) ?_
        refine q_istore_n hF (ls' := [(3, qI 0), (2, qI 0), (1, qI (q : Int)), (0, .ref m)]) rfl (by decide) rfl dX8_readsPays_51 ?_
        refine q_aload_n hF 3 rfl rfl dX8_readsPays_52 ?_
        refine q_callV (kc := 0) (ks := 0) (mc' := 0) (ms' := 0) (h' := 0) (st := []) hF vl_RX8_95 rfl [] rfl rfl hS.t0 (by omega) (Nat.le_of_ble_eq_true rfl) dX8_readsPays_53 ?_
        refine mX8_fine0 hS (show (6 : Int) ≠ 0 by decide) (show -2147483648 ≤ 6 ∧ 6 < 2147483648 by first | decide | omega | assumption) ?_
        refine q_ifne hF (by decide) dX8_readsPays_56 (fun c56 => ?_) (fun c56 => ?_)
        · exact absurd c56 (by decide)
        · refine q_return hF rfl dX8_readsPays_59 ?_
          show Q (.inl none) sz T (q_ps I m (g_mk (g_len 27 + q) 6 (q : Int) s.cd s.op s.on s.hp)) (q_row L (m + 4) t) P
          exact k1 6 q _ _ (by rw [← hx2, g_rdPays, if_pos c13_0_2, g_rdP, if_pos c33]) (by decide) rfl rfl (show g_len 27 + q ≤ n by omega)
  · show qX G F Q 0 0 16 [(1, qI (q : Int)), (0, .ref m)] [qI 1] sz T (q_ps I m (g_mk (g_len 28 + q) s.fl s.fa s.cd s.op s.on s.hp)) (q_row L (m + 4) t) P
    refine q_istore_n hF (ls' := [(2, qI 1), (1, qI (q : Int)), (0, .ref m)]) rfl (by decide) rfl dX8_readsPays_16 ?_
    have hwl := g_words_ok 28 (by decide)
    have hwn := g_isW_n (g_words_ok 28 (by decide)) (fun k hk => by have := g_ch_r (i := 28) (by decide) hk; omega) c13_1_2
    have hsr := g_sk_r (B := B) (n := n) (k := g_len 28 + q) (by omega)
    have hnd := g_nd_r (B := B) (n := n) (k := g_sk B n (g_len 28 + q)) (by omega)
    have hnv := g_nv_r (B := B) (n := n) _ (g_sk B n (g_len 28 + q)) 0 (Nat.lt_succ_self _) (by decide) (by decide)
    refine q_aload_n hF 2 rfl rfl dX8_readsPays_17 ?_
    refine q_callV (kc := 0) (ks := 0) (mc' := 0) (ms' := 0) (h' := 0) (st := []) hF vl_RX8_95 rfl [] rfl rfl hS.t0 (by omega) (Nat.le_of_ble_eq_true rfl) dX8_readsPays_18 ?_
    refine mX8_fineA hS hfl ?_
    refine q_ifeq hF (by decide) dX8_readsPays_21 (fun c21 => ?_) (fun c21 => ?_)
    · exact absurd c21 (by decide)
    · refine q_aload_n hF 2 rfl rfl dX8_readsPays_24 ?_
      refine q_getIv hF (z := s.hp) fl_RX8_229 hS.t0 q_ps_17 dX8_readsPays_25 ?_
      refine q_iload_n hF 0 rfl rfl dX8_readsPays_28 ?_
      refine q_ishr hF (c0 := g_shr s.hp 1) (g_shr_o _ _) dX8_readsPays_29 ?_
      refine q_iconst hF dX8_readsPays_30 ?_
      refine q_iand hF (c0 := g_and (g_shr s.hp 1) 1) (g_and_o _ _) dX8_readsPays_31 ?_
      refine q_iconst hF dX8_readsPays_32 ?_
      refine q_icmpne hF (g_and_r _ _) (by decide) dX8_readsPays_33 (fun c33 => ?_) (fun c33 => ?_)
      · refine q_aload_n hF 2 rfl rfl dX8_readsPays_43 ?_
        refine q_iconst hF dX8_readsPays_44 ?_
        refine q_sipush hF (n := 999) rfl dX8_readsPays_45 ?_
        refine q_callV (kc := 0) (ks := 0) (mc' := 0) (ms' := 0) (h' := 2) (st := []) hF vl_RX8_187 rfl [qI 0, qI 999] rfl rfl hS.t0 (by omega) (Nat.le_of_ble_eq_true rfl) dX8_readsPays_48 ?_
        refine mX8_numberPQ hS hSA hB (by first | decide | omega) (by first | decide | omega) (show (g_len 28 + q) ≤ n by omega) hfl rfl (fun (c48_0_12 : ¬ (48 ≤ (g_bt B n (g_sk B n (g_len 28 + q))) ∧ (g_bt B n (g_sk B n (g_len 28 + q))) ≤ 57)) => ?_) (fun (c48_0_12 : 48 ≤ (g_bt B n (g_sk B n (g_len 28 + q))) ∧ (g_bt B n (g_sk B n (g_len 28 + q))) ≤ 57) (c48_1_12 : 0 ≤ g_nv B n (g_sk B n (g_len 28 + q)) 0 ∧ g_nv B n (g_sk B n (g_len 28 + q)) 0 ≤ 999) => ?_) (fun (c48_0_12 : 48 ≤ (g_bt B n (g_sk B n (g_len 28 + q))) ∧ (g_bt B n (g_sk B n (g_len 28 + q))) ≤ 57) (c48_1_12 : ¬ (0 ≤ g_nv B n (g_sk B n (g_len 28 + q)) 0 ∧ g_nv B n (g_sk B n (g_len 28 + q)) 0 ≤ 999)) => ?_)
        · show qX G F Q 0 0 51 [(2, qI 1), (1, qI (q : Int)), (0, .ref m)] [qI 0] sz T (q_ps I m (g_mk (g_sk B n (g_len 28 + q)) 1 ((g_sk B n (g_len 28 + q) : Nat) : Int) s.cd s.op s.on s.hp)) (q_row L (m + 4) t) P
          refine q_istore_n hF (ls' := [(3, qI 0), (2, qI 1), (1, qI (q : Int)), (0, .ref m)]) rfl (by decide) rfl dX8_readsPays_51 ?_
          refine q_aload_n hF 3 rfl rfl dX8_readsPays_52 ?_
          refine q_callV (kc := 0) (ks := 0) (mc' := 0) (ms' := 0) (h' := 0) (st := []) hF vl_RX8_95 rfl [] rfl rfl hS.t0 (by omega) (Nat.le_of_ble_eq_true rfl) dX8_readsPays_53 ?_
          refine mX8_fine0 hS (show (1 : Int) ≠ 0 by decide) (show -2147483648 ≤ 1 ∧ 1 < 2147483648 by first | decide | omega | assumption) ?_
          refine q_ifne hF (by decide) dX8_readsPays_56 (fun c56 => ?_) (fun c56 => ?_)
          · exact absurd c56 (by decide)
          · refine q_return hF rfl dX8_readsPays_59 ?_
            show Q (.inl none) sz T (q_ps I m (g_mk (g_sk B n (g_len 28 + q)) 1 ((g_sk B n (g_len 28 + q) : Nat) : Int) s.cd s.op s.on s.hp)) (q_row L (m + 4) t) P
            exact k1 1 (g_sk B n (g_len 28 + q)) _ _ (by rw [← hx2, g_rdPays, if_neg c13_0_2, if_pos c13_1_2, g_rdP, if_neg c33, if_neg c48_0_12]) (by decide) rfl rfl (show g_sk B n (g_len 28 + q) ≤ n by omega)
        · show qX G F Q 0 0 51 [(2, qI 1), (1, qI (q : Int)), (0, .ref m)] [qI (g_nv B n (g_sk B n (g_len 28 + q)) 0)] sz T (q_ps I m (g_mk (g_nd B n (g_sk B n (g_len 28 + q))) s.fl s.fa s.cd s.op s.on s.hp)) (q_row L (m + 4) t) P
          refine q_istore_n hF (ls' := [(3, qI (g_nv B n (g_sk B n (g_len 28 + q)) 0)), (2, qI 1), (1, qI (q : Int)), (0, .ref m)]) rfl (by decide) rfl dX8_readsPays_51 ?_
          refine q_aload_n hF 3 rfl rfl dX8_readsPays_52 ?_
          refine q_callV (kc := 0) (ks := 0) (mc' := 0) (ms' := 0) (h' := 0) (st := []) hF vl_RX8_95 rfl [] rfl rfl hS.t0 (by omega) (Nat.le_of_ble_eq_true rfl) dX8_readsPays_53 ?_
          refine mX8_fineA hS hfl ?_
          refine q_ifne hF (by decide) dX8_readsPays_56 (fun c56 => ?_) (fun c56 => ?_)
          · refine q_aload_n hF 3 rfl rfl dX8_readsPays_60 ?_
            refine q_dup hF rfl dX8_readsPays_61 ?_
            refine q_getIv hF (z := s.hp) fl_RX8_229 hS.t0 q_ps_17 dX8_readsPays_62 ?_
            refine q_iconst hF dX8_readsPays_65 ?_
            refine q_iload_n hF 1 rfl rfl dX8_readsPays_66 ?_
            refine q_ishl hF (c0 := g_shl 1 1) (g_shl_o _ _) dX8_readsPays_67 ?_
            refine q_ior hF (c0 := g_or s.hp (g_shl 1 1)) (g_or_o _ _) dX8_readsPays_68 ?_
            refine q_putI hF fl_RX8_229 hS.t0 hSA dX8_readsPays_69 ?_
            rw [q_ps_w17]
            refine q_aload_n hF 3 rfl rfl dX8_readsPays_72 ?_
            refine q_getA hF fl_RX8_24 rfl hS.t0 hS.p10 dX8_readsPays_73 ?_
            refine q_bipush hF (n := 12) rfl dX8_readsPays_76 ?_
            refine q_iload_n hF 1 rfl rfl dX8_readsPays_78 ?_
            refine q_iadd hF dX8_readsPays_79 ?_
            refine q_iload_n hF 0 rfl rfl dX8_readsPays_80 ?_
            refine q_i2l hF (by omega) dX8_readsPays_81 ?_
            refine q_lastorev hF (n := 1243) 13 hS.t4 (q_Ale hSA (by omega)) (by omega) (by omega) (by decide) dX8_readsPays_82 ?_
            refine q_return hF rfl dX8_readsPays_83 ?_
            rw [q_row_u]
            exact k0 _ _ (by rw [← hx2, g_rdPays, if_neg c13_0_2, if_pos c13_1_2, g_rdP, if_neg c33, if_pos c48_0_12, if_pos c48_1_12])
          · exact absurd c56 (by decide)
        · show qX G F Q 0 0 51 [(2, qI 1), (1, qI (q : Int)), (0, .ref m)] [qI (g_nv B n (g_sk B n (g_len 28 + q)) 0)] sz T (q_ps I m (g_mk (g_nd B n (g_sk B n (g_len 28 + q))) 2 ((g_sk B n (g_len 28 + q) : Nat) : Int) s.cd s.op s.on s.hp)) (q_row L (m + 4) t) P
          refine q_istore_n hF (ls' := [(3, qI (g_nv B n (g_sk B n (g_len 28 + q)) 0)), (2, qI 1), (1, qI (q : Int)), (0, .ref m)]) rfl (by decide) rfl dX8_readsPays_51 ?_
          refine q_aload_n hF 3 rfl rfl dX8_readsPays_52 ?_
          refine q_callV (kc := 0) (ks := 0) (mc' := 0) (ms' := 0) (h' := 0) (st := []) hF vl_RX8_95 rfl [] rfl rfl hS.t0 (by omega) (Nat.le_of_ble_eq_true rfl) dX8_readsPays_53 ?_
          refine mX8_fine0 hS (show (2 : Int) ≠ 0 by decide) (show -2147483648 ≤ 2 ∧ 2 < 2147483648 by first | decide | omega | assumption) ?_
          refine q_ifne hF (by decide) dX8_readsPays_56 (fun c56 => ?_) (fun c56 => ?_)
          · exact absurd c56 (by decide)
          · refine q_return hF rfl dX8_readsPays_59 ?_
            show Q (.inl none) sz T (q_ps I m (g_mk (g_nd B n (g_sk B n (g_len 28 + q))) 2 ((g_sk B n (g_len 28 + q) : Nat) : Int) s.cd s.op s.on s.hp)) (q_row L (m + 4) t) P
            exact k1 2 (g_sk B n (g_len 28 + q)) _ _ (by rw [← hx2, g_rdPays, if_neg c13_0_2, if_pos c13_1_2, g_rdP, if_neg c33, if_pos c48_0_12, if_neg c48_1_12]) (by decide) rfl rfl (show g_nd B n (g_sk B n (g_len 28 + q)) ≤ n by omega)
      · refine q_aload_n hF 2 rfl rfl dX8_readsPays_36 ?_
        refine q_bipush hF (n := 6) rfl dX8_readsPays_37 ?_
        refine q_iload_n hF 1 rfl rfl dX8_readsPays_39 ?_
        refine q_callV (kc := 0) (ks := 0) (mc' := 0) (ms' := 0) (h' := 0) (st := []) hF vl_RX8_106 rfl [qI 6, qI (q : Int)] rfl rfl hS.t0 (by omega) (Nat.le_of_ble_eq_true rfl) dX8_readsPays_40 ?_
        refine mX8_wrongA hS hSA hfl ?_
        show qX G F Q 0 0 43 [(2, qI 1), (1, qI (q : Int)), (0, .ref m)] [] sz T (q_ps I m (g_mk (g_len 28 + q) 6 (q : Int) s.cd s.op s.on s.hp)) (q_row L (m + 4) t) P
        refine q_aload_n hF 2 rfl rfl dX8_readsPays_43 ?_
        refine q_iconst hF dX8_readsPays_44 ?_
        refine q_sipush hF (n := 999) rfl dX8_readsPays_45 ?_
        refine q_callV (kc := 0) (ks := 0) (mc' := 0) (ms' := 0) (h' := 2) (st := []) hF vl_RX8_187 rfl [qI 0, qI 999] rfl rfl hS.t0 (by omega) (Nat.le_of_ble_eq_true rfl) dX8_readsPays_48 ?_
        refine mX8_number0 hS hSA (show (6 : Int) ≠ 0 by decide) (show -2147483648 ≤ 6 ∧ 6 < 2147483648 by first | decide | omega | assumption) ?_
        refine q_istore_n hF (ls' := [(3, qI 0), (2, qI 1), (1, qI (q : Int)), (0, .ref m)]) rfl (by decide) rfl dX8_readsPays_51 ?_
        refine q_aload_n hF 3 rfl rfl dX8_readsPays_52 ?_
        refine q_callV (kc := 0) (ks := 0) (mc' := 0) (ms' := 0) (h' := 0) (st := []) hF vl_RX8_95 rfl [] rfl rfl hS.t0 (by omega) (Nat.le_of_ble_eq_true rfl) dX8_readsPays_53 ?_
        refine mX8_fine0 hS (show (6 : Int) ≠ 0 by decide) (show -2147483648 ≤ 6 ∧ 6 < 2147483648 by first | decide | omega | assumption) ?_
        refine q_ifne hF (by decide) dX8_readsPays_56 (fun c56 => ?_) (fun c56 => ?_)
        · exact absurd c56 (by decide)
        · refine q_return hF rfl dX8_readsPays_59 ?_
          show Q (.inl none) sz T (q_ps I m (g_mk (g_len 28 + q) 6 (q : Int) s.cd s.op s.on s.hp)) (q_row L (m + 4) t) P
          exact k1 6 q _ _ (by rw [← hx2, g_rdPays, if_neg c13_0_2, if_pos c13_1_2, g_rdP, if_pos c33]) (by decide) rfl rfl (show g_len 28 + q ≤ n by omega)
  · show qX G F Q 0 0 16 [(1, qI (q : Int)), (0, .ref m)] [qI 2] sz T (q_ps I m (g_mk (g_len 29 + q) s.fl s.fa s.cd s.op s.on s.hp)) (q_row L (m + 4) t) P
    refine q_istore_n hF (ls' := [(2, qI 2), (1, qI (q : Int)), (0, .ref m)]) rfl (by decide) rfl dX8_readsPays_16 ?_
    have hwl := g_words_ok 29 (by decide)
    have hwn := g_isW_n (g_words_ok 29 (by decide)) (fun k hk => by have := g_ch_r (i := 29) (by decide) hk; omega) c13_2_2
    have hsr := g_sk_r (B := B) (n := n) (k := g_len 29 + q) (by omega)
    have hnd := g_nd_r (B := B) (n := n) (k := g_sk B n (g_len 29 + q)) (by omega)
    have hnv := g_nv_r (B := B) (n := n) _ (g_sk B n (g_len 29 + q)) 0 (Nat.lt_succ_self _) (by decide) (by decide)
    refine q_aload_n hF 2 rfl rfl dX8_readsPays_17 ?_
    refine q_callV (kc := 0) (ks := 0) (mc' := 0) (ms' := 0) (h' := 0) (st := []) hF vl_RX8_95 rfl [] rfl rfl hS.t0 (by omega) (Nat.le_of_ble_eq_true rfl) dX8_readsPays_18 ?_
    refine mX8_fineA hS hfl ?_
    refine q_ifeq hF (by decide) dX8_readsPays_21 (fun c21 => ?_) (fun c21 => ?_)
    · exact absurd c21 (by decide)
    · refine q_aload_n hF 2 rfl rfl dX8_readsPays_24 ?_
      refine q_getIv hF (z := s.hp) fl_RX8_229 hS.t0 q_ps_17 dX8_readsPays_25 ?_
      refine q_iload_n hF 0 rfl rfl dX8_readsPays_28 ?_
      refine q_ishr hF (c0 := g_shr s.hp 2) (g_shr_o _ _) dX8_readsPays_29 ?_
      refine q_iconst hF dX8_readsPays_30 ?_
      refine q_iand hF (c0 := g_and (g_shr s.hp 2) 1) (g_and_o _ _) dX8_readsPays_31 ?_
      refine q_iconst hF dX8_readsPays_32 ?_
      refine q_icmpne hF (g_and_r _ _) (by decide) dX8_readsPays_33 (fun c33 => ?_) (fun c33 => ?_)
      · refine q_aload_n hF 2 rfl rfl dX8_readsPays_43 ?_
        refine q_iconst hF dX8_readsPays_44 ?_
        refine q_sipush hF (n := 999) rfl dX8_readsPays_45 ?_
        refine q_callV (kc := 0) (ks := 0) (mc' := 0) (ms' := 0) (h' := 2) (st := []) hF vl_RX8_187 rfl [qI 0, qI 999] rfl rfl hS.t0 (by omega) (Nat.le_of_ble_eq_true rfl) dX8_readsPays_48 ?_
        refine mX8_numberPQ hS hSA hB (by first | decide | omega) (by first | decide | omega) (show (g_len 29 + q) ≤ n by omega) hfl rfl (fun (c48_0_20 : ¬ (48 ≤ (g_bt B n (g_sk B n (g_len 29 + q))) ∧ (g_bt B n (g_sk B n (g_len 29 + q))) ≤ 57)) => ?_) (fun (c48_0_20 : 48 ≤ (g_bt B n (g_sk B n (g_len 29 + q))) ∧ (g_bt B n (g_sk B n (g_len 29 + q))) ≤ 57) (c48_1_20 : 0 ≤ g_nv B n (g_sk B n (g_len 29 + q)) 0 ∧ g_nv B n (g_sk B n (g_len 29 + q)) 0 ≤ 999) => ?_) (fun (c48_0_20 : 48 ≤ (g_bt B n (g_sk B n (g_len 29 + q))) ∧ (g_bt B n (g_sk B n (g_len 29 + q))) ≤ 57) (c48_1_20 : ¬ (0 ≤ g_nv B n (g_sk B n (g_len 29 + q)) 0 ∧ g_nv B n (g_sk B n (g_len 29 + q)) 0 ≤ 999)) => ?_)
        · show qX G F Q 0 0 51 [(2, qI 2), (1, qI (q : Int)), (0, .ref m)] [qI 0] sz T (q_ps I m (g_mk (g_sk B n (g_len 29 + q)) 1 ((g_sk B n (g_len 29 + q) : Nat) : Int) s.cd s.op s.on s.hp)) (q_row L (m + 4) t) P
          refine q_istore_n hF (ls' := [(3, qI 0), (2, qI 2), (1, qI (q : Int)), (0, .ref m)]) rfl (by decide) rfl dX8_readsPays_51 ?_
          refine q_aload_n hF 3 rfl rfl dX8_readsPays_52 ?_
          refine q_callV (kc := 0) (ks := 0) (mc' := 0) (ms' := 0) (h' := 0) (st := []) hF vl_RX8_95 rfl [] rfl rfl hS.t0 (by omega) (Nat.le_of_ble_eq_true rfl) dX8_readsPays_53 ?_
          refine mX8_fine0 hS (show (1 : Int) ≠ 0 by decide) (show -2147483648 ≤ 1 ∧ 1 < 2147483648 by first | decide | omega | assumption) ?_
          refine q_ifne hF (by decide) dX8_readsPays_56 (fun c56 => ?_) (fun c56 => ?_)
          · exact absurd c56 (by decide)
          · refine q_return hF rfl dX8_readsPays_59 ?_
            show Q (.inl none) sz T (q_ps I m (g_mk (g_sk B n (g_len 29 + q)) 1 ((g_sk B n (g_len 29 + q) : Nat) : Int) s.cd s.op s.on s.hp)) (q_row L (m + 4) t) P
            exact k1 1 (g_sk B n (g_len 29 + q)) _ _ (by rw [← hx2, g_rdPays, if_neg c13_0_2, if_neg c13_1_2, if_pos c13_2_2, g_rdP, if_neg c33, if_neg c48_0_20]) (by decide) rfl rfl (show g_sk B n (g_len 29 + q) ≤ n by omega)
        · show qX G F Q 0 0 51 [(2, qI 2), (1, qI (q : Int)), (0, .ref m)] [qI (g_nv B n (g_sk B n (g_len 29 + q)) 0)] sz T (q_ps I m (g_mk (g_nd B n (g_sk B n (g_len 29 + q))) s.fl s.fa s.cd s.op s.on s.hp)) (q_row L (m + 4) t) P
          refine q_istore_n hF (ls' := [(3, qI (g_nv B n (g_sk B n (g_len 29 + q)) 0)), (2, qI 2), (1, qI (q : Int)), (0, .ref m)]) rfl (by decide) rfl dX8_readsPays_51 ?_
          refine q_aload_n hF 3 rfl rfl dX8_readsPays_52 ?_
          refine q_callV (kc := 0) (ks := 0) (mc' := 0) (ms' := 0) (h' := 0) (st := []) hF vl_RX8_95 rfl [] rfl rfl hS.t0 (by omega) (Nat.le_of_ble_eq_true rfl) dX8_readsPays_53 ?_
          refine mX8_fineA hS hfl ?_
          refine q_ifne hF (by decide) dX8_readsPays_56 (fun c56 => ?_) (fun c56 => ?_)
          · refine q_aload_n hF 3 rfl rfl dX8_readsPays_60 ?_
            refine q_dup hF rfl dX8_readsPays_61 ?_
            refine q_getIv hF (z := s.hp) fl_RX8_229 hS.t0 q_ps_17 dX8_readsPays_62 ?_
            refine q_iconst hF dX8_readsPays_65 ?_
            refine q_iload_n hF 1 rfl rfl dX8_readsPays_66 ?_
            refine q_ishl hF (c0 := g_shl 1 2) (g_shl_o _ _) dX8_readsPays_67 ?_
            refine q_ior hF (c0 := g_or s.hp (g_shl 1 2)) (g_or_o _ _) dX8_readsPays_68 ?_
            refine q_putI hF fl_RX8_229 hS.t0 hSA dX8_readsPays_69 ?_
            rw [q_ps_w17]
            refine q_aload_n hF 3 rfl rfl dX8_readsPays_72 ?_
            refine q_getA hF fl_RX8_24 rfl hS.t0 hS.p10 dX8_readsPays_73 ?_
            refine q_bipush hF (n := 12) rfl dX8_readsPays_76 ?_
            refine q_iload_n hF 1 rfl rfl dX8_readsPays_78 ?_
            refine q_iadd hF dX8_readsPays_79 ?_
            refine q_iload_n hF 0 rfl rfl dX8_readsPays_80 ?_
            refine q_i2l hF (by omega) dX8_readsPays_81 ?_
            refine q_lastorev hF (n := 1243) 14 hS.t4 (q_Ale hSA (by omega)) (by omega) (by omega) (by decide) dX8_readsPays_82 ?_
            refine q_return hF rfl dX8_readsPays_83 ?_
            rw [q_row_u]
            exact k0 _ _ (by rw [← hx2, g_rdPays, if_neg c13_0_2, if_neg c13_1_2, if_pos c13_2_2, g_rdP, if_neg c33, if_pos c48_0_20, if_pos c48_1_20])
          · exact absurd c56 (by decide)
        · show qX G F Q 0 0 51 [(2, qI 2), (1, qI (q : Int)), (0, .ref m)] [qI (g_nv B n (g_sk B n (g_len 29 + q)) 0)] sz T (q_ps I m (g_mk (g_nd B n (g_sk B n (g_len 29 + q))) 2 ((g_sk B n (g_len 29 + q) : Nat) : Int) s.cd s.op s.on s.hp)) (q_row L (m + 4) t) P
          refine q_istore_n hF (ls' := [(3, qI (g_nv B n (g_sk B n (g_len 29 + q)) 0)), (2, qI 2), (1, qI (q : Int)), (0, .ref m)]) rfl (by decide) rfl dX8_readsPays_51 ?_
          refine q_aload_n hF 3 rfl rfl dX8_readsPays_52 ?_
          refine q_callV (kc := 0) (ks := 0) (mc' := 0) (ms' := 0) (h' := 0) (st := []) hF vl_RX8_95 rfl [] rfl rfl hS.t0 (by omega) (Nat.le_of_ble_eq_true rfl) dX8_readsPays_53 ?_
          refine mX8_fine0 hS (show (2 : Int) ≠ 0 by decide) (show -2147483648 ≤ 2 ∧ 2 < 2147483648 by first | decide | omega | assumption) ?_
          refine q_ifne hF (by decide) dX8_readsPays_56 (fun c56 => ?_) (fun c56 => ?_)
          · exact absurd c56 (by decide)
          · refine q_return hF rfl dX8_readsPays_59 ?_
            show Q (.inl none) sz T (q_ps I m (g_mk (g_nd B n (g_sk B n (g_len 29 + q))) 2 ((g_sk B n (g_len 29 + q) : Nat) : Int) s.cd s.op s.on s.hp)) (q_row L (m + 4) t) P
            exact k1 2 (g_sk B n (g_len 29 + q)) _ _ (by rw [← hx2, g_rdPays, if_neg c13_0_2, if_neg c13_1_2, if_pos c13_2_2, g_rdP, if_neg c33, if_pos c48_0_20, if_neg c48_1_20]) (by decide) rfl rfl (show g_nd B n (g_sk B n (g_len 29 + q)) ≤ n by omega)
      · refine q_aload_n hF 2 rfl rfl dX8_readsPays_36 ?_
        refine q_bipush hF (n := 6) rfl dX8_readsPays_37 ?_
        refine q_iload_n hF 1 rfl rfl dX8_readsPays_39 ?_
        refine q_callV (kc := 0) (ks := 0) (mc' := 0) (ms' := 0) (h' := 0) (st := []) hF vl_RX8_106 rfl [qI 6, qI (q : Int)] rfl rfl hS.t0 (by omega) (Nat.le_of_ble_eq_true rfl) dX8_readsPays_40 ?_
        refine mX8_wrongA hS hSA hfl ?_
        show qX G F Q 0 0 43 [(2, qI 2), (1, qI (q : Int)), (0, .ref m)] [] sz T (q_ps I m (g_mk (g_len 29 + q) 6 (q : Int) s.cd s.op s.on s.hp)) (q_row L (m + 4) t) P
        refine q_aload_n hF 2 rfl rfl dX8_readsPays_43 ?_
        refine q_iconst hF dX8_readsPays_44 ?_
        refine q_sipush hF (n := 999) rfl dX8_readsPays_45 ?_
        refine q_callV (kc := 0) (ks := 0) (mc' := 0) (ms' := 0) (h' := 2) (st := []) hF vl_RX8_187 rfl [qI 0, qI 999] rfl rfl hS.t0 (by omega) (Nat.le_of_ble_eq_true rfl) dX8_readsPays_48 ?_
        refine mX8_number0 hS hSA (show (6 : Int) ≠ 0 by decide) (show -2147483648 ≤ 6 ∧ 6 < 2147483648 by first | decide | omega | assumption) ?_
        refine q_istore_n hF (ls' := [(3, qI 0), (2, qI 2), (1, qI (q : Int)), (0, .ref m)]) rfl (by decide) rfl dX8_readsPays_51 ?_
        refine q_aload_n hF 3 rfl rfl dX8_readsPays_52 ?_
        refine q_callV (kc := 0) (ks := 0) (mc' := 0) (ms' := 0) (h' := 0) (st := []) hF vl_RX8_95 rfl [] rfl rfl hS.t0 (by omega) (Nat.le_of_ble_eq_true rfl) dX8_readsPays_53 ?_
        refine mX8_fine0 hS (show (6 : Int) ≠ 0 by decide) (show -2147483648 ≤ 6 ∧ 6 < 2147483648 by first | decide | omega | assumption) ?_
        refine q_ifne hF (by decide) dX8_readsPays_56 (fun c56 => ?_) (fun c56 => ?_)
        · exact absurd c56 (by decide)
        · refine q_return hF rfl dX8_readsPays_59 ?_
          show Q (.inl none) sz T (q_ps I m (g_mk (g_len 29 + q) 6 (q : Int) s.cd s.op s.on s.hp)) (q_row L (m + 4) t) P
          exact k1 6 q _ _ (by rw [← hx2, g_rdPays, if_neg c13_0_2, if_neg c13_1_2, if_pos c13_2_2, g_rdP, if_pos c33]) (by decide) rfl rfl (show g_len 29 + q ≤ n by omega)
  · show qX G F Q 0 0 16 [(1, qI (q : Int)), (0, .ref m)] [qI 3] sz T (q_ps I m (g_mk (g_len 30 + q) s.fl s.fa s.cd s.op s.on s.hp)) (q_row L (m + 4) t) P
    refine q_istore_n hF (ls' := [(2, qI 3), (1, qI (q : Int)), (0, .ref m)]) rfl (by decide) rfl dX8_readsPays_16 ?_
    have hwl := g_words_ok 30 (by decide)
    have hwn := g_isW_n (g_words_ok 30 (by decide)) (fun k hk => by have := g_ch_r (i := 30) (by decide) hk; omega) c13_3_2
    have hsr := g_sk_r (B := B) (n := n) (k := g_len 30 + q) (by omega)
    have hnd := g_nd_r (B := B) (n := n) (k := g_sk B n (g_len 30 + q)) (by omega)
    have hnv := g_nv_r (B := B) (n := n) _ (g_sk B n (g_len 30 + q)) 0 (Nat.lt_succ_self _) (by decide) (by decide)
    refine q_aload_n hF 2 rfl rfl dX8_readsPays_17 ?_
    refine q_callV (kc := 0) (ks := 0) (mc' := 0) (ms' := 0) (h' := 0) (st := []) hF vl_RX8_95 rfl [] rfl rfl hS.t0 (by omega) (Nat.le_of_ble_eq_true rfl) dX8_readsPays_18 ?_
    refine mX8_fineA hS hfl ?_
    refine q_ifeq hF (by decide) dX8_readsPays_21 (fun c21 => ?_) (fun c21 => ?_)
    · exact absurd c21 (by decide)
    · refine q_aload_n hF 2 rfl rfl dX8_readsPays_24 ?_
      refine q_getIv hF (z := s.hp) fl_RX8_229 hS.t0 q_ps_17 dX8_readsPays_25 ?_
      refine q_iload_n hF 0 rfl rfl dX8_readsPays_28 ?_
      refine q_ishr hF (c0 := g_shr s.hp 3) (g_shr_o _ _) dX8_readsPays_29 ?_
      refine q_iconst hF dX8_readsPays_30 ?_
      refine q_iand hF (c0 := g_and (g_shr s.hp 3) 1) (g_and_o _ _) dX8_readsPays_31 ?_
      refine q_iconst hF dX8_readsPays_32 ?_
      refine q_icmpne hF (g_and_r _ _) (by decide) dX8_readsPays_33 (fun c33 => ?_) (fun c33 => ?_)
      · refine q_aload_n hF 2 rfl rfl dX8_readsPays_43 ?_
        refine q_iconst hF dX8_readsPays_44 ?_
        refine q_sipush hF (n := 999) rfl dX8_readsPays_45 ?_
        refine q_callV (kc := 0) (ks := 0) (mc' := 0) (ms' := 0) (h' := 2) (st := []) hF vl_RX8_187 rfl [qI 0, qI 999] rfl rfl hS.t0 (by omega) (Nat.le_of_ble_eq_true rfl) dX8_readsPays_48 ?_
        refine mX8_numberPQ hS hSA hB (by first | decide | omega) (by first | decide | omega) (show (g_len 30 + q) ≤ n by omega) hfl rfl (fun (c48_0_28 : ¬ (48 ≤ (g_bt B n (g_sk B n (g_len 30 + q))) ∧ (g_bt B n (g_sk B n (g_len 30 + q))) ≤ 57)) => ?_) (fun (c48_0_28 : 48 ≤ (g_bt B n (g_sk B n (g_len 30 + q))) ∧ (g_bt B n (g_sk B n (g_len 30 + q))) ≤ 57) (c48_1_28 : 0 ≤ g_nv B n (g_sk B n (g_len 30 + q)) 0 ∧ g_nv B n (g_sk B n (g_len 30 + q)) 0 ≤ 999) => ?_) (fun (c48_0_28 : 48 ≤ (g_bt B n (g_sk B n (g_len 30 + q))) ∧ (g_bt B n (g_sk B n (g_len 30 + q))) ≤ 57) (c48_1_28 : ¬ (0 ≤ g_nv B n (g_sk B n (g_len 30 + q)) 0 ∧ g_nv B n (g_sk B n (g_len 30 + q)) 0 ≤ 999)) => ?_)
        · show qX G F Q 0 0 51 [(2, qI 3), (1, qI (q : Int)), (0, .ref m)] [qI 0] sz T (q_ps I m (g_mk (g_sk B n (g_len 30 + q)) 1 ((g_sk B n (g_len 30 + q) : Nat) : Int) s.cd s.op s.on s.hp)) (q_row L (m + 4) t) P
          refine q_istore_n hF (ls' := [(3, qI 0), (2, qI 3), (1, qI (q : Int)), (0, .ref m)]) rfl (by decide) rfl dX8_readsPays_51 ?_
          refine q_aload_n hF 3 rfl rfl dX8_readsPays_52 ?_
          refine q_callV (kc := 0) (ks := 0) (mc' := 0) (ms' := 0) (h' := 0) (st := []) hF vl_RX8_95 rfl [] rfl rfl hS.t0 (by omega) (Nat.le_of_ble_eq_true rfl) dX8_readsPays_53 ?_
          refine mX8_fine0 hS (show (1 : Int) ≠ 0 by decide) (show -2147483648 ≤ 1 ∧ 1 < 2147483648 by first | decide | omega | assumption) ?_
          refine q_ifne hF (by decide) dX8_readsPays_56 (fun c56 => ?_) (fun c56 => ?_)
          · exact absurd c56 (by decide)
          · refine q_return hF rfl dX8_readsPays_59 ?_
            show Q (.inl none) sz T (q_ps I m (g_mk (g_sk B n (g_len 30 + q)) 1 ((g_sk B n (g_len 30 + q) : Nat) : Int) s.cd s.op s.on s.hp)) (q_row L (m + 4) t) P
            exact k1 1 (g_sk B n (g_len 30 + q)) _ _ (by rw [← hx2, g_rdPays, if_neg c13_0_2, if_neg c13_1_2, if_neg c13_2_2, if_pos c13_3_2, g_rdP, if_neg c33, if_neg c48_0_28]) (by decide) rfl rfl (show g_sk B n (g_len 30 + q) ≤ n by omega)
        · show qX G F Q 0 0 51 [(2, qI 3), (1, qI (q : Int)), (0, .ref m)] [qI (g_nv B n (g_sk B n (g_len 30 + q)) 0)] sz T (q_ps I m (g_mk (g_nd B n (g_sk B n (g_len 30 + q))) s.fl s.fa s.cd s.op s.on s.hp)) (q_row L (m + 4) t) P
          refine q_istore_n hF (ls' := [(3, qI (g_nv B n (g_sk B n (g_len 30 + q)) 0)), (2, qI 3), (1, qI (q : Int)), (0, .ref m)]) rfl (by decide) rfl dX8_readsPays_51 ?_
          refine q_aload_n hF 3 rfl rfl dX8_readsPays_52 ?_
          refine q_callV (kc := 0) (ks := 0) (mc' := 0) (ms' := 0) (h' := 0) (st := []) hF vl_RX8_95 rfl [] rfl rfl hS.t0 (by omega) (Nat.le_of_ble_eq_true rfl) dX8_readsPays_53 ?_
          refine mX8_fineA hS hfl ?_
          refine q_ifne hF (by decide) dX8_readsPays_56 (fun c56 => ?_) (fun c56 => ?_)
          · refine q_aload_n hF 3 rfl rfl dX8_readsPays_60 ?_
            refine q_dup hF rfl dX8_readsPays_61 ?_
            refine q_getIv hF (z := s.hp) fl_RX8_229 hS.t0 q_ps_17 dX8_readsPays_62 ?_
            refine q_iconst hF dX8_readsPays_65 ?_
            refine q_iload_n hF 1 rfl rfl dX8_readsPays_66 ?_
            refine q_ishl hF (c0 := g_shl 1 3) (g_shl_o _ _) dX8_readsPays_67 ?_
            refine q_ior hF (c0 := g_or s.hp (g_shl 1 3)) (g_or_o _ _) dX8_readsPays_68 ?_
            refine q_putI hF fl_RX8_229 hS.t0 hSA dX8_readsPays_69 ?_
            rw [q_ps_w17]
            refine q_aload_n hF 3 rfl rfl dX8_readsPays_72 ?_
            refine q_getA hF fl_RX8_24 rfl hS.t0 hS.p10 dX8_readsPays_73 ?_
            refine q_bipush hF (n := 12) rfl dX8_readsPays_76 ?_
            refine q_iload_n hF 1 rfl rfl dX8_readsPays_78 ?_
            refine q_iadd hF dX8_readsPays_79 ?_
            refine q_iload_n hF 0 rfl rfl dX8_readsPays_80 ?_
            refine q_i2l hF (by omega) dX8_readsPays_81 ?_
            refine q_lastorev hF (n := 1243) 15 hS.t4 (q_Ale hSA (by omega)) (by omega) (by omega) (by decide) dX8_readsPays_82 ?_
            refine q_return hF rfl dX8_readsPays_83 ?_
            rw [q_row_u]
            exact k0 _ _ (by rw [← hx2, g_rdPays, if_neg c13_0_2, if_neg c13_1_2, if_neg c13_2_2, if_pos c13_3_2, g_rdP, if_neg c33, if_pos c48_0_28, if_pos c48_1_28])
          · exact absurd c56 (by decide)
        · show qX G F Q 0 0 51 [(2, qI 3), (1, qI (q : Int)), (0, .ref m)] [qI (g_nv B n (g_sk B n (g_len 30 + q)) 0)] sz T (q_ps I m (g_mk (g_nd B n (g_sk B n (g_len 30 + q))) 2 ((g_sk B n (g_len 30 + q) : Nat) : Int) s.cd s.op s.on s.hp)) (q_row L (m + 4) t) P
          refine q_istore_n hF (ls' := [(3, qI (g_nv B n (g_sk B n (g_len 30 + q)) 0)), (2, qI 3), (1, qI (q : Int)), (0, .ref m)]) rfl (by decide) rfl dX8_readsPays_51 ?_
          refine q_aload_n hF 3 rfl rfl dX8_readsPays_52 ?_
          refine q_callV (kc := 0) (ks := 0) (mc' := 0) (ms' := 0) (h' := 0) (st := []) hF vl_RX8_95 rfl [] rfl rfl hS.t0 (by omega) (Nat.le_of_ble_eq_true rfl) dX8_readsPays_53 ?_
          refine mX8_fine0 hS (show (2 : Int) ≠ 0 by decide) (show -2147483648 ≤ 2 ∧ 2 < 2147483648 by first | decide | omega | assumption) ?_
          refine q_ifne hF (by decide) dX8_readsPays_56 (fun c56 => ?_) (fun c56 => ?_)
          · exact absurd c56 (by decide)
          · refine q_return hF rfl dX8_readsPays_59 ?_
            show Q (.inl none) sz T (q_ps I m (g_mk (g_nd B n (g_sk B n (g_len 30 + q))) 2 ((g_sk B n (g_len 30 + q) : Nat) : Int) s.cd s.op s.on s.hp)) (q_row L (m + 4) t) P
            exact k1 2 (g_sk B n (g_len 30 + q)) _ _ (by rw [← hx2, g_rdPays, if_neg c13_0_2, if_neg c13_1_2, if_neg c13_2_2, if_pos c13_3_2, g_rdP, if_neg c33, if_pos c48_0_28, if_neg c48_1_28]) (by decide) rfl rfl (show g_nd B n (g_sk B n (g_len 30 + q)) ≤ n by omega)
      · refine q_aload_n hF 2 rfl rfl dX8_readsPays_36 ?_
        refine q_bipush hF (n := 6) rfl dX8_readsPays_37 ?_
        refine q_iload_n hF 1 rfl rfl dX8_readsPays_39 ?_
        refine q_callV (kc := 0) (ks := 0) (mc' := 0) (ms' := 0) (h' := 0) (st := []) hF vl_RX8_106 rfl [qI 6, qI (q : Int)] rfl rfl hS.t0 (by omega) (Nat.le_of_ble_eq_true rfl) dX8_readsPays_40 ?_
        refine mX8_wrongA hS hSA hfl ?_
        show qX G F Q 0 0 43 [(2, qI 3), (1, qI (q : Int)), (0, .ref m)] [] sz T (q_ps I m (g_mk (g_len 30 + q) 6 (q : Int) s.cd s.op s.on s.hp)) (q_row L (m + 4) t) P
        refine q_aload_n hF 2 rfl rfl dX8_readsPays_43 ?_
        refine q_iconst hF dX8_readsPays_44 ?_
        refine q_sipush hF (n := 999) rfl dX8_readsPays_45 ?_
        refine q_callV (kc := 0) (ks := 0) (mc' := 0) (ms' := 0) (h' := 2) (st := []) hF vl_RX8_187 rfl [qI 0, qI 999] rfl rfl hS.t0 (by omega) (Nat.le_of_ble_eq_true rfl) dX8_readsPays_48 ?_
        refine mX8_number0 hS hSA (show (6 : Int) ≠ 0 by decide) (show -2147483648 ≤ 6 ∧ 6 < 2147483648 by first | decide | omega | assumption) ?_
        refine q_istore_n hF (ls' := [(3, qI 0), (2, qI 3), (1, qI (q : Int)), (0, .ref m)]) rfl (by decide) rfl dX8_readsPays_51 ?_
        refine q_aload_n hF 3 rfl rfl dX8_readsPays_52 ?_
        refine q_callV (kc := 0) (ks := 0) (mc' := 0) (ms' := 0) (h' := 0) (st := []) hF vl_RX8_95 rfl [] rfl rfl hS.t0 (by omega) (Nat.le_of_ble_eq_true rfl) dX8_readsPays_53 ?_
        refine mX8_fine0 hS (show (6 : Int) ≠ 0 by decide) (show -2147483648 ≤ 6 ∧ 6 < 2147483648 by first | decide | omega | assumption) ?_
        refine q_ifne hF (by decide) dX8_readsPays_56 (fun c56 => ?_) (fun c56 => ?_)
        · exact absurd c56 (by decide)
        · refine q_return hF rfl dX8_readsPays_59 ?_
          show Q (.inl none) sz T (q_ps I m (g_mk (g_len 30 + q) 6 (q : Int) s.cd s.op s.on s.hp)) (q_row L (m + 4) t) P
          exact k1 6 q _ _ (by rw [← hx2, g_rdPays, if_neg c13_0_2, if_neg c13_1_2, if_neg c13_2_2, if_pos c13_3_2, g_rdP, if_pos c33]) (by decide) rfl rfl (show g_len 30 + q ≤ n by omega)
  · show qX G F Q 0 0 16 [(1, qI (q : Int)), (0, .ref m)] [qI 4] sz T (q_ps I m (g_mk (g_len 31 + q) s.fl s.fa s.cd s.op s.on s.hp)) (q_row L (m + 4) t) P
    refine q_istore_n hF (ls' := [(2, qI 4), (1, qI (q : Int)), (0, .ref m)]) rfl (by decide) rfl dX8_readsPays_16 ?_
    have hwl := g_words_ok 31 (by decide)
    have hwn := g_isW_n (g_words_ok 31 (by decide)) (fun k hk => by have := g_ch_r (i := 31) (by decide) hk; omega) c13_4_2
    have hsr := g_sk_r (B := B) (n := n) (k := g_len 31 + q) (by omega)
    have hnd := g_nd_r (B := B) (n := n) (k := g_sk B n (g_len 31 + q)) (by omega)
    have hnv := g_nv_r (B := B) (n := n) _ (g_sk B n (g_len 31 + q)) 0 (Nat.lt_succ_self _) (by decide) (by decide)
    refine q_aload_n hF 2 rfl rfl dX8_readsPays_17 ?_
    refine q_callV (kc := 0) (ks := 0) (mc' := 0) (ms' := 0) (h' := 0) (st := []) hF vl_RX8_95 rfl [] rfl rfl hS.t0 (by omega) (Nat.le_of_ble_eq_true rfl) dX8_readsPays_18 ?_
    refine mX8_fineA hS hfl ?_
    refine q_ifeq hF (by decide) dX8_readsPays_21 (fun c21 => ?_) (fun c21 => ?_)
    · exact absurd c21 (by decide)
    · refine q_aload_n hF 2 rfl rfl dX8_readsPays_24 ?_
      refine q_getIv hF (z := s.hp) fl_RX8_229 hS.t0 q_ps_17 dX8_readsPays_25 ?_
      refine q_iload_n hF 0 rfl rfl dX8_readsPays_28 ?_
      refine q_ishr hF (c0 := g_shr s.hp 4) (g_shr_o _ _) dX8_readsPays_29 ?_
      refine q_iconst hF dX8_readsPays_30 ?_
      refine q_iand hF (c0 := g_and (g_shr s.hp 4) 1) (g_and_o _ _) dX8_readsPays_31 ?_
      refine q_iconst hF dX8_readsPays_32 ?_
      refine q_icmpne hF (g_and_r _ _) (by decide) dX8_readsPays_33 (fun c33 => ?_) (fun c33 => ?_)
      · refine q_aload_n hF 2 rfl rfl dX8_readsPays_43 ?_
        refine q_iconst hF dX8_readsPays_44 ?_
        refine q_sipush hF (n := 999) rfl dX8_readsPays_45 ?_
        refine q_callV (kc := 0) (ks := 0) (mc' := 0) (ms' := 0) (h' := 2) (st := []) hF vl_RX8_187 rfl [qI 0, qI 999] rfl rfl hS.t0 (by omega) (Nat.le_of_ble_eq_true rfl) dX8_readsPays_48 ?_
        refine mX8_numberPQ hS hSA hB (by first | decide | omega) (by first | decide | omega) (show (g_len 31 + q) ≤ n by omega) hfl rfl (fun (c48_0_36 : ¬ (48 ≤ (g_bt B n (g_sk B n (g_len 31 + q))) ∧ (g_bt B n (g_sk B n (g_len 31 + q))) ≤ 57)) => ?_) (fun (c48_0_36 : 48 ≤ (g_bt B n (g_sk B n (g_len 31 + q))) ∧ (g_bt B n (g_sk B n (g_len 31 + q))) ≤ 57) (c48_1_36 : 0 ≤ g_nv B n (g_sk B n (g_len 31 + q)) 0 ∧ g_nv B n (g_sk B n (g_len 31 + q)) 0 ≤ 999) => ?_) (fun (c48_0_36 : 48 ≤ (g_bt B n (g_sk B n (g_len 31 + q))) ∧ (g_bt B n (g_sk B n (g_len 31 + q))) ≤ 57) (c48_1_36 : ¬ (0 ≤ g_nv B n (g_sk B n (g_len 31 + q)) 0 ∧ g_nv B n (g_sk B n (g_len 31 + q)) 0 ≤ 999)) => ?_)
        · show qX G F Q 0 0 51 [(2, qI 4), (1, qI (q : Int)), (0, .ref m)] [qI 0] sz T (q_ps I m (g_mk (g_sk B n (g_len 31 + q)) 1 ((g_sk B n (g_len 31 + q) : Nat) : Int) s.cd s.op s.on s.hp)) (q_row L (m + 4) t) P
          refine q_istore_n hF (ls' := [(3, qI 0), (2, qI 4), (1, qI (q : Int)), (0, .ref m)]) rfl (by decide) rfl dX8_readsPays_51 ?_
          refine q_aload_n hF 3 rfl rfl dX8_readsPays_52 ?_
          refine q_callV (kc := 0) (ks := 0) (mc' := 0) (ms' := 0) (h' := 0) (st := []) hF vl_RX8_95 rfl [] rfl rfl hS.t0 (by omega) (Nat.le_of_ble_eq_true rfl) dX8_readsPays_53 ?_
          refine mX8_fine0 hS (show (1 : Int) ≠ 0 by decide) (show -2147483648 ≤ 1 ∧ 1 < 2147483648 by first | decide | omega | assumption) ?_
          refine q_ifne hF (by decide) dX8_readsPays_56 (fun c56 => ?_) (fun c56 => ?_)
          · exact absurd c56 (by decide)
          · refine q_return hF rfl dX8_readsPays_59 ?_
            show Q (.inl none) sz T (q_ps I m (g_mk (g_sk B n (g_len 31 + q)) 1 ((g_sk B n (g_len 31 + q) : Nat) : Int) s.cd s.op s.on s.hp)) (q_row L (m + 4) t) P
            exact k1 1 (g_sk B n (g_len 31 + q)) _ _ (by rw [← hx2, g_rdPays, if_neg c13_0_2, if_neg c13_1_2, if_neg c13_2_2, if_neg c13_3_2, if_pos c13_4_2, g_rdP, if_neg c33, if_neg c48_0_36]) (by decide) rfl rfl (show g_sk B n (g_len 31 + q) ≤ n by omega)
        · show qX G F Q 0 0 51 [(2, qI 4), (1, qI (q : Int)), (0, .ref m)] [qI (g_nv B n (g_sk B n (g_len 31 + q)) 0)] sz T (q_ps I m (g_mk (g_nd B n (g_sk B n (g_len 31 + q))) s.fl s.fa s.cd s.op s.on s.hp)) (q_row L (m + 4) t) P
          refine q_istore_n hF (ls' := [(3, qI (g_nv B n (g_sk B n (g_len 31 + q)) 0)), (2, qI 4), (1, qI (q : Int)), (0, .ref m)]) rfl (by decide) rfl dX8_readsPays_51 ?_
          refine q_aload_n hF 3 rfl rfl dX8_readsPays_52 ?_
          refine q_callV (kc := 0) (ks := 0) (mc' := 0) (ms' := 0) (h' := 0) (st := []) hF vl_RX8_95 rfl [] rfl rfl hS.t0 (by omega) (Nat.le_of_ble_eq_true rfl) dX8_readsPays_53 ?_
          refine mX8_fineA hS hfl ?_
          refine q_ifne hF (by decide) dX8_readsPays_56 (fun c56 => ?_) (fun c56 => ?_)
          · refine q_aload_n hF 3 rfl rfl dX8_readsPays_60 ?_
            refine q_dup hF rfl dX8_readsPays_61 ?_
            refine q_getIv hF (z := s.hp) fl_RX8_229 hS.t0 q_ps_17 dX8_readsPays_62 ?_
            refine q_iconst hF dX8_readsPays_65 ?_
            refine q_iload_n hF 1 rfl rfl dX8_readsPays_66 ?_
            refine q_ishl hF (c0 := g_shl 1 4) (g_shl_o _ _) dX8_readsPays_67 ?_
            refine q_ior hF (c0 := g_or s.hp (g_shl 1 4)) (g_or_o _ _) dX8_readsPays_68 ?_
            refine q_putI hF fl_RX8_229 hS.t0 hSA dX8_readsPays_69 ?_
            rw [q_ps_w17]
            refine q_aload_n hF 3 rfl rfl dX8_readsPays_72 ?_
            refine q_getA hF fl_RX8_24 rfl hS.t0 hS.p10 dX8_readsPays_73 ?_
            refine q_bipush hF (n := 12) rfl dX8_readsPays_76 ?_
            refine q_iload_n hF 1 rfl rfl dX8_readsPays_78 ?_
            refine q_iadd hF dX8_readsPays_79 ?_
            refine q_iload_n hF 0 rfl rfl dX8_readsPays_80 ?_
            refine q_i2l hF (by omega) dX8_readsPays_81 ?_
            refine q_lastorev hF (n := 1243) 16 hS.t4 (q_Ale hSA (by omega)) (by omega) (by omega) (by decide) dX8_readsPays_82 ?_
            refine q_return hF rfl dX8_readsPays_83 ?_
            rw [q_row_u]
            exact k0 _ _ (by rw [← hx2, g_rdPays, if_neg c13_0_2, if_neg c13_1_2, if_neg c13_2_2, if_neg c13_3_2, if_pos c13_4_2, g_rdP, if_neg c33, if_pos c48_0_36, if_pos c48_1_36])
          · exact absurd c56 (by decide)
        · show qX G F Q 0 0 51 [(2, qI 4), (1, qI (q : Int)), (0, .ref m)] [qI (g_nv B n (g_sk B n (g_len 31 + q)) 0)] sz T (q_ps I m (g_mk (g_nd B n (g_sk B n (g_len 31 + q))) 2 ((g_sk B n (g_len 31 + q) : Nat) : Int) s.cd s.op s.on s.hp)) (q_row L (m + 4) t) P
          refine q_istore_n hF (ls' := [(3, qI (g_nv B n (g_sk B n (g_len 31 + q)) 0)), (2, qI 4), (1, qI (q : Int)), (0, .ref m)]) rfl (by decide) rfl dX8_readsPays_51 ?_
          refine q_aload_n hF 3 rfl rfl dX8_readsPays_52 ?_
          refine q_callV (kc := 0) (ks := 0) (mc' := 0) (ms' := 0) (h' := 0) (st := []) hF vl_RX8_95 rfl [] rfl rfl hS.t0 (by omega) (Nat.le_of_ble_eq_true rfl) dX8_readsPays_53 ?_
          refine mX8_fine0 hS (show (2 : Int) ≠ 0 by decide) (show -2147483648 ≤ 2 ∧ 2 < 2147483648 by first | decide | omega | assumption) ?_
          refine q_ifne hF (by decide) dX8_readsPays_56 (fun c56 => ?_) (fun c56 => ?_)
          · exact absurd c56 (by decide)
          · refine q_return hF rfl dX8_readsPays_59 ?_
            show Q (.inl none) sz T (q_ps I m (g_mk (g_nd B n (g_sk B n (g_len 31 + q))) 2 ((g_sk B n (g_len 31 + q) : Nat) : Int) s.cd s.op s.on s.hp)) (q_row L (m + 4) t) P
            exact k1 2 (g_sk B n (g_len 31 + q)) _ _ (by rw [← hx2, g_rdPays, if_neg c13_0_2, if_neg c13_1_2, if_neg c13_2_2, if_neg c13_3_2, if_pos c13_4_2, g_rdP, if_neg c33, if_pos c48_0_36, if_neg c48_1_36]) (by decide) rfl rfl (show g_nd B n (g_sk B n (g_len 31 + q)) ≤ n by omega)
      · refine q_aload_n hF 2 rfl rfl dX8_readsPays_36 ?_
        refine q_bipush hF (n := 6) rfl dX8_readsPays_37 ?_
        refine q_iload_n hF 1 rfl rfl dX8_readsPays_39 ?_
        refine q_callV (kc := 0) (ks := 0) (mc' := 0) (ms' := 0) (h' := 0) (st := []) hF vl_RX8_106 rfl [qI 6, qI (q : Int)] rfl rfl hS.t0 (by omega) (Nat.le_of_ble_eq_true rfl) dX8_readsPays_40 ?_
        refine mX8_wrongA hS hSA hfl ?_
        show qX G F Q 0 0 43 [(2, qI 4), (1, qI (q : Int)), (0, .ref m)] [] sz T (q_ps I m (g_mk (g_len 31 + q) 6 (q : Int) s.cd s.op s.on s.hp)) (q_row L (m + 4) t) P
        refine q_aload_n hF 2 rfl rfl dX8_readsPays_43 ?_
        refine q_iconst hF dX8_readsPays_44 ?_
        refine q_sipush hF (n := 999) rfl dX8_readsPays_45 ?_
        refine q_callV (kc := 0) (ks := 0) (mc' := 0) (ms' := 0) (h' := 2) (st := []) hF vl_RX8_187 rfl [qI 0, qI 999] rfl rfl hS.t0 (by omega) (Nat.le_of_ble_eq_true rfl) dX8_readsPays_48 ?_
        refine mX8_number0 hS hSA (show (6 : Int) ≠ 0 by decide) (show -2147483648 ≤ 6 ∧ 6 < 2147483648 by first | decide | omega | assumption) ?_
        refine q_istore_n hF (ls' := [(3, qI 0), (2, qI 4), (1, qI (q : Int)), (0, .ref m)]) rfl (by decide) rfl dX8_readsPays_51 ?_
        refine q_aload_n hF 3 rfl rfl dX8_readsPays_52 ?_
        refine q_callV (kc := 0) (ks := 0) (mc' := 0) (ms' := 0) (h' := 0) (st := []) hF vl_RX8_95 rfl [] rfl rfl hS.t0 (by omega) (Nat.le_of_ble_eq_true rfl) dX8_readsPays_53 ?_
        refine mX8_fine0 hS (show (6 : Int) ≠ 0 by decide) (show -2147483648 ≤ 6 ∧ 6 < 2147483648 by first | decide | omega | assumption) ?_
        refine q_ifne hF (by decide) dX8_readsPays_56 (fun c56 => ?_) (fun c56 => ?_)
        · exact absurd c56 (by decide)
        · refine q_return hF rfl dX8_readsPays_59 ?_
          show Q (.inl none) sz T (q_ps I m (g_mk (g_len 31 + q) 6 (q : Int) s.cd s.op s.on s.hp)) (q_row L (m + 4) t) P
          exact k1 6 q _ _ (by rw [← hx2, g_rdPays, if_neg c13_0_2, if_neg c13_1_2, if_neg c13_2_2, if_neg c13_3_2, if_pos c13_4_2, g_rdP, if_pos c33]) (by decide) rfl rfl (show g_len 31 + q ≤ n by omega)
  · show qX G F Q 0 0 16 [(1, qI (q : Int)), (0, .ref m)] [qI (-1)] sz T (q_ps I m (g_mk q 1 (q : Int) s.cd s.op s.on s.hp)) (q_row L (m + 4) t) P
    refine q_istore_n hF (ls' := [(2, qI (-1)), (1, qI (q : Int)), (0, .ref m)]) rfl (by decide) rfl dX8_readsPays_16 ?_
    skip
    refine q_aload_n hF 2 rfl rfl dX8_readsPays_17 ?_
    refine q_callV (kc := 0) (ks := 0) (mc' := 0) (ms' := 0) (h' := 0) (st := []) hF vl_RX8_95 rfl [] rfl rfl hS.t0 (by omega) (Nat.le_of_ble_eq_true rfl) dX8_readsPays_18 ?_
    refine mX8_fine0 hS (show (1 : Int) ≠ 0 by decide) (show -2147483648 ≤ 1 ∧ 1 < 2147483648 by first | decide | omega | assumption) ?_
    refine q_ifeq hF (by decide) dX8_readsPays_21 (fun c21 => ?_) (fun c21 => ?_)
    · refine q_aload_n hF 2 rfl rfl dX8_readsPays_43 ?_
      refine q_iconst hF dX8_readsPays_44 ?_
      refine q_sipush hF (n := 999) rfl dX8_readsPays_45 ?_
      refine q_callV (kc := 0) (ks := 0) (mc' := 0) (ms' := 0) (h' := 2) (st := []) hF vl_RX8_187 rfl [qI 0, qI 999] rfl rfl hS.t0 (by omega) (Nat.le_of_ble_eq_true rfl) dX8_readsPays_48 ?_
      refine mX8_number0 hS hSA (show (1 : Int) ≠ 0 by decide) (show -2147483648 ≤ 1 ∧ 1 < 2147483648 by first | decide | omega | assumption) ?_
      refine q_istore_n hF (ls' := [(3, qI 0), (2, qI (-1)), (1, qI (q : Int)), (0, .ref m)]) rfl (by decide) rfl dX8_readsPays_51 ?_
      refine q_aload_n hF 3 rfl rfl dX8_readsPays_52 ?_
      refine q_callV (kc := 0) (ks := 0) (mc' := 0) (ms' := 0) (h' := 0) (st := []) hF vl_RX8_95 rfl [] rfl rfl hS.t0 (by omega) (Nat.le_of_ble_eq_true rfl) dX8_readsPays_53 ?_
      refine mX8_fine0 hS (show (1 : Int) ≠ 0 by decide) (show -2147483648 ≤ 1 ∧ 1 < 2147483648 by first | decide | omega | assumption) ?_
      refine q_ifne hF (by decide) dX8_readsPays_56 (fun c56 => ?_) (fun c56 => ?_)
      · exact absurd c56 (by decide)
      · refine q_return hF rfl dX8_readsPays_59 ?_
        show Q (.inl none) sz T (q_ps I m (g_mk q 1 (q : Int) s.cd s.op s.on s.hp)) (q_row L (m + 4) t) P
        exact k1 1 q _ _ (by rw [← hx2, g_rdPays, if_neg c13_0_2, if_neg c13_1_2, if_neg c13_2_2, if_neg c13_3_2, if_neg c13_4_2]) (by decide) rfl rfl (show q ≤ n by omega)
    · exact absurd c21 (by decide)
