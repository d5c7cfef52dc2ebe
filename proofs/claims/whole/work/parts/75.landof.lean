set_option maxRecDepth 100000 in
theorem lX8_landOfK {G : q_G} {F : q_F} {h : Nat} {Q : q_Q} {kc ks sz : Nat} {T : q_T} {m n q c l : Nat} {t : Nat → Int} {B : Nat → Int} {s : g_PS} {I L : q_I} {P : q_P} (hF : q_ok G F YX8_landOf h) (hS : q_SM T P m) (hSA : q_A G m) (hB : q_BT I m B n) (h1 : 1 ≤ h) (hq : q + c ≤ n) (hc : c ≤ 6) (ht : g_TR t) (hl5 : l < 5) (kx1 : (∀ j, j < c → t (24 + 13 * l + j) = g_bt B n (q + j)) → qX G F Q kc ks 89 [(3, qI 1), (2, qI (l : Int)), (0, .ref m), (1, qI (c : Int))] [] sz T (q_ps I m (g_mk q s.fl s.fa s.cd s.op s.on s.hp)) (q_row L (m + 4) t) P) (kx0 : ∀ j, j < c → t (24 + 13 * l + j) ≠ g_bt B n (q + j) → qX G F Q kc ks 89 [(3, qI 0), (2, qI (l : Int)), (0, .ref m), (1, qI (c : Int))] [] sz T (q_ps I m (g_mk q s.fl s.fa s.cd s.op s.on s.hp)) (q_row L (m + 4) t) P) : ∀ (w k : Nat), c - k < w → k ≤ c → (∀ j, j < k → t (24 + 13 * l + j) = g_bt B n (q + j)) → qX G F Q kc ks 40 [(4, qI (k : Int)), (3, qI 1), (2, qI (l : Int)), (0, .ref m), (1, qI (c : Int))] [] sz T (q_ps I m (g_mk q s.fl s.fa s.cd s.op s.on s.hp)) (q_row L (m + 4) t) P := by
  intro w
  induction w with
  | zero => intro k hn; exact absurd hn (Nat.not_lt_zero _)
  | succ w ih =>
    intro k hn hk hall
    have hn6 := hB.2.1
    refine q_iload hF 0 rfl dX8_landOf_40 ?_
    refine q_iload_n hF 4 rfl rfl dX8_landOf_42 ?_
    refine q_icmpge hF (by omega) (by omega) dX8_landOf_43 (fun c43 => ?_) (fun c43 => ?_)
    · refine q_sub [1, 2, 3, 4] rfl ?_
      exact kx1 (fun j hj => hall j (by omega))
    · refine q_iload_n hF 1 rfl rfl dX8_landOf_46 ?_
      refine q_ifeq hF (by decide) dX8_landOf_47 (fun c47 => ?_) (fun c47 => ?_)
      · exact absurd c47 (by decide)
      · refine q_aload_n hF 3 rfl rfl dX8_landOf_50 ?_
        refine q_getA hF fl_RX8_24 rfl hS.t0 hS.p10 dX8_landOf_51 ?_
        refine q_iload_n hF 2 rfl rfl dX8_landOf_54 ?_
        refine q_iload hF 0 rfl dX8_landOf_55 ?_
        refine q_callS (kc := kc) (ks := ks) (mc' := 0) (ms' := 0) (h' := 0) (st := [.ref (m + 4)]) hF sl_RX8_176 rfl [qI (l : Int), qI (k : Int)] rfl rfl (by omega) (Nat.le_of_ble_eq_true rfl) dX8_landOf_57 ?_
        refine mX8_landAt ?_
        refine q_laloadv hF (z := t (24 + 13 * l + k)) (n := 1243) (24 + 13 * l + k) hS.t4 (by omega) (by omega) (by decide) (q_row_s _ _ _ _) dX8_landOf_60 ?_
        refine q_aload_n hF 3 rfl rfl dX8_landOf_61 ?_
        refine q_aload_n hF 3 rfl rfl dX8_landOf_62 ?_
        refine q_getIv hF (z := (q : Int)) fl_RX8_65 hS.t0 q_ps_4 dX8_landOf_63 ?_
        refine q_iload hF 0 rfl dX8_landOf_66 ?_
        refine q_iadd hF dX8_landOf_68 ?_
        refine q_callV (kc := kc) (ks := ks) (mc' := 0) (ms' := 0) (h' := 0) (st := [qL (t (24 + 13 * l + k))]) hF vl_RX8_68 rfl [qI ((q : Int) + (k : Int))] rfl rfl hS.t0 (by omega) (Nat.le_of_ble_eq_true rfl) dX8_landOf_69 ?_
        refine mX8_byteAtB (B := B) (n := n) (k := q + k) hS (hB.ps _) (by omega) ?_
        refine q_i2l hF (g_bt_32 hB _) dX8_landOf_72 ?_
        refine q_cmpne hF (by have := ht.1 (24 + 13 * l + k) (by omega); omega) (by have := g_bt_32 hB (q + k); omega) dX8_landOf_73 dX8_landOf_74 (fun c74 => ?_) (fun c74 => ?_)
        · refine q_iconst hF dX8_landOf_81 ?_
          refine q_istore_n hF (ls' := [(3, qI 0), (4, qI (k : Int)), (2, qI (l : Int)), (0, .ref m), (1, qI (c : Int))]) rfl (by decide) rfl dX8_landOf_82 ?_
          refine q_iinc hF (z' := ((1 + k : Nat) : Int)) (ls' := [(4, qI ((1 + k : Nat) : Int)), (3, qI 0), (2, qI (l : Int)), (0, .ref m), (1, qI (c : Int))]) 1 rfl (by first | rfl | omega) (by decide) rfl dX8_landOf_83 ?_
          refine q_goto hF dX8_landOf_86 ?_
          refine q_iload hF 0 rfl dX8_landOf_40 ?_
          refine q_iload_n hF 4 rfl rfl dX8_landOf_42 ?_
          refine q_icmpge hF (by omega) (by omega) dX8_landOf_43 (fun c43 => ?_) (fun c43 => ?_)
          · refine q_sub [1, 2, 3, 4] rfl ?_
            exact kx0 k (by omega) c74
          · refine q_iload_n hF 1 rfl rfl dX8_landOf_46 ?_
            refine q_ifeq hF (by decide) dX8_landOf_47 (fun c47 => ?_) (fun c47 => ?_)
            · refine q_sub [1, 2, 3, 4] rfl ?_
              exact kx0 k (by omega) c74
            · exact absurd c47 (by decide)
        · refine q_iconst hF dX8_landOf_77 ?_
          refine q_goto hF dX8_landOf_78 ?_
          refine q_istore_n hF (ls' := [(3, qI 1), (4, qI (k : Int)), (2, qI (l : Int)), (0, .ref m), (1, qI (c : Int))]) rfl (by decide) rfl dX8_landOf_82 ?_
          refine q_iinc hF (z' := ((1 + k : Nat) : Int)) (ls' := [(4, qI ((1 + k : Nat) : Int)), (3, qI 1), (2, qI (l : Int)), (0, .ref m), (1, qI (c : Int))]) 1 rfl (by first | rfl | omega) (by decide) rfl dX8_landOf_83 ?_
          refine q_goto hF dX8_landOf_86 ?_
          refine q_sub [0, 1, 2, 3, 4] rfl ?_
          exact ih (1 + k) (by omega) (by omega) (fun j hj => by
            by_cases e : j = k
            · subst e; exact c74
            · exact hall j (by omega))
set_option maxRecDepth 100000 in
theorem lX8_landOf {G : q_G} {F : q_F} {h : Nat} {Q : q_Q} {kc ks sz : Nat} {T : q_T} {m n q c : Nat} {t : Nat → Int} {B : Nat → Int} {s : g_PS} {I L : q_I} {P : q_P} (hF : q_ok G F YX8_landOf h) (hS : q_SM T P m) (hSA : q_A G m) (hB : q_BT I m B n) (h1 : 1 ≤ h) (hq : q + c ≤ n) (hc : c ≤ 6) (ht : g_TR t) (k0 : Q (.inl (some (qI (g_lnd B n t q c)))) sz T (q_ps I m (g_mk q s.fl s.fa s.cd s.op s.on s.hp)) (q_row L (m + 4) t) P) : ∀ (w l : Nat), 6 - l < w → l ≤ 5 → g_lndF B n t q c (6 - l) l = g_lnd B n t q c → qX G F Q kc ks 2 [(2, qI (l : Int)), (0, .ref m), (1, qI (c : Int))] [] sz T (q_ps I m (g_mk q s.fl s.fa s.cd s.op s.on s.hp)) (q_row L (m + 4) t) P := by
  intro w
  induction w with
  | zero => intro l hn; exact absurd hn (Nat.not_lt_zero _)
  | succ w ih =>
    intro l hn hl hg
    have hn6 := hB.2.1
    have ht0 := ht.2
    refine q_iload_n hF 0 rfl rfl dX8_landOf_2 ?_
    refine q_i2l hF (by omega) dX8_landOf_3 ?_
    refine q_aload_n hF 1 rfl rfl dX8_landOf_4 ?_
    refine q_getA hF fl_RX8_24 rfl hS.t0 hS.p10 dX8_landOf_5 ?_
    refine q_iconst hF dX8_landOf_8 ?_
    refine q_laloadv hF (z := t 0) (n := 1243) 0 hS.t4 rfl (by decide) (by decide) (q_row_s _ _ _ _) dX8_landOf_9 ?_
    refine q_cmpge hF (by omega) (by have := ht.1 0 (by omega); omega) dX8_landOf_10 dX8_landOf_11 (fun c11 => ?_) (fun c11 => ?_)
    · refine q_iconst hF dX8_landOf_101 ?_
      refine q_ireturn hF rfl dX8_landOf_102 ?_
      rw [show g_lnd B n t q c = -1 from by rw [← hg]; cases h4 : 6 - l <;> simp only [g_lndF]; rw [if_neg (by omega)]] at k0; exact k0
    · refine q_aload_n hF 1 rfl rfl dX8_landOf_14 ?_
      refine q_getA hF fl_RX8_24 rfl hS.t0 hS.p10 dX8_landOf_15 ?_
      refine q_iload_n hF 0 rfl rfl dX8_landOf_18 ?_
      refine q_bipush hF (n := 6) rfl dX8_landOf_19 ?_
      refine q_callS (kc := kc) (ks := ks) (mc' := 0) (ms' := 0) (h' := 0) (st := [.ref (m + 4)]) hF sl_RX8_176 rfl [qI (l : Int), qI 6] rfl rfl (by omega) (Nat.le_of_ble_eq_true rfl) dX8_landOf_21 ?_
      refine mX8_landAt ?_
      refine q_laloadv hF (z := t (30 + 13 * l)) (n := 1243) (30 + 13 * l) hS.t4 (by omega) (by omega) (by decide) (q_row_s _ _ _ _) dX8_landOf_24 ?_
      refine q_iload_n hF 2 rfl rfl dX8_landOf_25 ?_
      refine q_i2l hF (by omega) dX8_landOf_26 ?_
      refine q_cmpne hF (by have := ht.1 (30 + 13 * l) (by omega); omega) (by omega) dX8_landOf_27 dX8_landOf_28 (fun c28 => ?_) (fun c28 => ?_)
      · refine q_iconst hF dX8_landOf_35 ?_
        refine q_istore_n hF (ls' := [(3, qI 0), (2, qI (l : Int)), (0, .ref m), (1, qI (c : Int))]) rfl (by decide) rfl dX8_landOf_36 ?_
        refine q_iconst hF dX8_landOf_37 ?_
        refine q_istore hF (ls' := [(4, qI 0), (3, qI 0), (2, qI (l : Int)), (0, .ref m), (1, qI (c : Int))]) (by decide) rfl dX8_landOf_38 ?_
        refine q_iload hF 0 rfl dX8_landOf_40 ?_
        refine q_iload_n hF 4 rfl rfl dX8_landOf_42 ?_
        refine q_icmpge hF (by decide) (by omega) dX8_landOf_43 (fun c43 => ?_) (fun c43 => ?_)
        · refine q_iload_n hF 1 rfl rfl dX8_landOf_89 ?_
          refine q_ifeq hF (by decide) dX8_landOf_90 (fun c90 => ?_) (fun c90 => ?_)
          · refine q_iinc hF (z' := ((1 + l : Nat) : Int)) (ls' := [(2, qI ((1 + l : Nat) : Int)), (4, qI 0), (3, qI 0), (0, .ref m), (1, qI (c : Int))]) 2 rfl (by first | rfl | omega) (by decide) rfl dX8_landOf_95 ?_
            refine q_goto hF dX8_landOf_98 ?_
            refine q_sub [0, 3, 4] rfl ?_
            refine ih (1 + l) (by omega) (by omega) ?_
            rw [← hg, show 6 - l = (6 - (1 + l)) + 1 by omega, g_lndF, if_pos (by omega), if_neg (fun h => c28 h.1), Nat.add_comm l 1]
          · exact absurd c90 (by decide)
        · refine q_iload_n hF 1 rfl rfl dX8_landOf_46 ?_
          refine q_ifeq hF (by decide) dX8_landOf_47 (fun c47 => ?_) (fun c47 => ?_)
          · refine q_iload_n hF 1 rfl rfl dX8_landOf_89 ?_
            refine q_ifeq hF (by decide) dX8_landOf_90 (fun c90 => ?_) (fun c90 => ?_)
            · refine q_iinc hF (z' := ((1 + l : Nat) : Int)) (ls' := [(2, qI ((1 + l : Nat) : Int)), (4, qI 0), (3, qI 0), (0, .ref m), (1, qI (c : Int))]) 2 rfl (by first | rfl | omega) (by decide) rfl dX8_landOf_95 ?_
              refine q_goto hF dX8_landOf_98 ?_
              refine q_sub [0, 3, 4] rfl ?_
              refine ih (1 + l) (by omega) (by omega) ?_
              rw [← hg, show 6 - l = (6 - (1 + l)) + 1 by omega, g_lndF, if_pos (by omega), if_neg (fun h => c28 h.1), Nat.add_comm l 1]
            · exact absurd c90 (by decide)
          · exact absurd c47 (by decide)
      · refine q_iconst hF dX8_landOf_31 ?_
        refine q_goto hF dX8_landOf_32 ?_
        refine q_istore_n hF (ls' := [(3, qI 1), (2, qI (l : Int)), (0, .ref m), (1, qI (c : Int))]) rfl (by decide) rfl dX8_landOf_36 ?_
        refine q_iconst hF dX8_landOf_37 ?_
        refine q_istore hF (ls' := [(4, qI 0), (3, qI 1), (2, qI (l : Int)), (0, .ref m), (1, qI (c : Int))]) (by decide) rfl dX8_landOf_38 ?_
        refine q_sub [0, 1, 2, 3, 4] rfl ?_
        refine lX8_landOfK hF hS hSA hB h1 hq hc ht (by omega) (fun ca => ?_) (fun j hj hcb => ?_) (c + 1) 0 (by omega) (by omega) (fun j hj => absurd hj (Nat.not_lt_zero _))
        · refine q_iload_n hF 0 rfl rfl dX8_landOf_89 ?_
          refine q_ifeq hF (by decide) dX8_landOf_90 (fun c90 => ?_) (fun c90 => ?_)
          · exact absurd c90 (by decide)
          · refine q_iload_n hF 1 rfl rfl dX8_landOf_93 ?_
            refine q_ireturn hF rfl dX8_landOf_94 ?_
            rw [show g_lnd B n t q c = (l : Int) from by rw [← hg, show 6 - l = (5 - l) + 1 by omega, g_lndF, if_pos (by omega), if_pos ⟨c28, ca⟩]] at k0; exact k0
        · refine q_iload_n hF 0 rfl rfl dX8_landOf_89 ?_
          refine q_ifeq hF (by decide) dX8_landOf_90 (fun c90 => ?_) (fun c90 => ?_)
          · refine q_iinc hF (z' := ((1 + l : Nat) : Int)) (ls' := [(2, qI ((1 + l : Nat) : Int)), (3, qI 0), (0, .ref m), (1, qI (c : Int))]) 1 rfl (by first | rfl | omega) (by decide) rfl dX8_landOf_95 ?_
            refine q_goto hF dX8_landOf_98 ?_
            refine q_sub [0, 2, 3] rfl ?_
            refine ih (1 + l) (by omega) (by omega) ?_
            rw [← hg, show 6 - l = (6 - (1 + l)) + 1 by omega, g_lndF, if_pos (by omega), if_neg (fun h => hcb (h.2 _ hj)), Nat.add_comm l 1]
          · exact absurd c90 (by decide)
theorem mX8_landOfP {G : q_G} {sz : Nat} {T : q_T} {I L : q_I} {P : q_P} {Q : q_Q} {m n c : Nat} {t : Nat → Int} {B : Nat → Int} {s : g_PS} (hS : q_SM T P m) (hSA : q_A G m) (hB : q_BT I m B n) (hq : s.p + c ≤ n) (hc : c ≤ 6) (ht : g_TR t) (k0 : Q (.inl (some (qI (g_lnd B n t s.p c)))) sz T (q_ps I m s) (q_row L (m + 4) t) P) : qC G 1 0 0 YX8_landOf [.ref m, qI (c : Int)] sz T (q_ps I m s) (q_row L (m + 4) t) P Q := by
  refine qC_of (by decide +kernel) rfl rfl (Nat.le_of_ble_eq_true rfl) (fun F hF _ _ => ?_)
  refine q_iconst hF dX8_landOf_0 ?_
  refine q_istore_n hF (ls' := [(2, qI 0), (0, .ref m), (1, qI (c : Int))]) rfl (by decide) rfl dX8_landOf_1 ?_
  exact lX8_landOf hF hS hSA hB (Nat.le_refl _) hq hc ht k0 7 0 (by decide) (by decide) rfl
set_option maxRecDepth 100000 in
theorem mX8_landHereP {G : q_G} {sz : Nat} {T : q_T} {I L : q_I} {P : q_P} {Q : q_Q} {m : Nat} {q : Nat} {s : g_PS} {B : Nat → Int} {n : Nat} {t : Nat → Int} (hS : q_SM T P m) (hSA : q_A G m) (hB : q_BT I m B n) (hp : s.p ≤ n) (hfl : s.fl = 0) (ht : g_TR t) (hsk : g_sk B n s.p = q) (k0 : g_nm B n q → g_lnd B n t q (g_nl B n q) ≠ -1 → Q (.inl (some (qI (g_lnd B n t q (g_nl B n q))))) sz T (q_ps I m (g_mk (g_nl B n q + q) s.fl s.fa s.cd s.op s.on s.hp)) (q_row L (m + 4) t) P) (k1 : g_nm B n q → g_lnd B n t q (g_nl B n q) = -1 → Q (.inl (some (qI (-1)))) sz T (q_ps I m (g_mk (g_nl B n q + q) 3 (q : Int) s.cd s.op s.on s.hp)) (q_row L (m + 4) t) P) (k2 : ¬ (g_nm B n q) → Q (.inl (some (qI (-1)))) sz T (q_ps I m (g_mk q 1 (q : Int) s.cd s.op s.on s.hp)) (q_row L (m + 4) t) P) : qC G 7 0 0 YX8_landHere [.ref m] sz T (q_ps I m s) (q_row L (m + 4) t) P Q := by
  refine qC_of (by decide +kernel) rfl rfl (Nat.le_of_ble_eq_true rfl) (fun F hF _ _ => ?_)
  have hn6 := hB.2.1
  have hq := g_sk_r (B := B) hp
  rw [hsk] at hq
  have hqq : g_sk B n q = q := by rw [← hsk]; exact g_sk_sk hp
  have hnl := g_nl_r (B := B) hq.2
  have hlf := g_lndF_r (B := B) (n := n) (t := t) (q := q) (c := g_nl B n q) 6 0
  change -1 ≤ g_lnd B n t q (g_nl B n q) ∧ (g_lnd B n t q (g_nl B n q) = -1 ∨ g_lnd B n t q (g_nl B n q) < t 0) at hlf
  have ht0 := ht.2
  refine q_aload_n hF 0 rfl rfl dX8_landHere_0 ?_
  refine q_callV (kc := 0) (ks := 0) (mc' := 0) (ms' := 0) (h' := 6) (st := []) hF vl_RX8_179 rfl [] rfl rfl hS.t0 (by omega) (Nat.le_of_ble_eq_true rfl) dX8_landHere_1 ?_
  refine mX8_nameP hS hSA hB (show s.p ≤ n by omega) hfl hsk (fun (c1_0_1 : g_nm B n q) => ?_) (fun (c1_0_1 : ¬ (g_nm B n q)) => ?_)
  · show qX G F Q 0 0 4 [(0, .ref m)] [qI ((g_nl B n q : Nat) : Int)] sz T (q_ps I m (g_mk q s.fl s.fa s.cd s.op s.on s.hp)) (q_row L (m + 4) t) P
    refine q_istore_n hF (ls' := [(1, qI ((g_nl B n q : Nat) : Int)), (0, .ref m)]) rfl (by decide) rfl dX8_landHere_4 ?_
    refine q_aload_n hF 1 rfl rfl dX8_landHere_5 ?_
    refine q_callV (kc := 0) (ks := 0) (mc' := 0) (ms' := 0) (h' := 0) (st := []) hF vl_RX8_95 rfl [] rfl rfl hS.t0 (by omega) (Nat.le_of_ble_eq_true rfl) dX8_landHere_6 ?_
    refine mX8_fineA hS hfl ?_
    refine q_ifeq hF (by decide) dX8_landHere_9 (fun c9 => ?_) (fun c9 => ?_)
    · exact absurd c9 (by decide)
    · refine q_aload_n hF 1 rfl rfl dX8_landHere_12 ?_
      refine q_iload_n hF 0 rfl rfl dX8_landHere_13 ?_
      refine q_callV (kc := 0) (ks := 0) (mc' := 0) (ms' := 0) (h' := 1) (st := []) hF vl_RX8_182 rfl [qI ((g_nl B n q : Nat) : Int)] rfl rfl hS.t0 (by omega) (Nat.le_of_ble_eq_true rfl) dX8_landHere_14 ?_
      refine mX8_landOfP (c := (g_nl B n q)) hS hSA hB (show q + (g_nl B n q) ≤ n by omega) (by omega) ht ?_
      show qX G F Q 0 0 17 [(1, qI ((g_nl B n q : Nat) : Int)), (0, .ref m)] [qI (g_lnd B n t q (g_nl B n q))] sz T (q_ps I m (g_mk q s.fl s.fa s.cd s.op s.on s.hp)) (q_row L (m + 4) t) P
      refine q_goto hF dX8_landHere_17 ?_
      refine q_istore_n hF (ls' := [(2, qI (g_lnd B n t q (g_nl B n q))), (1, qI ((g_nl B n q : Nat) : Int)), (0, .ref m)]) rfl (by decide) rfl dX8_landHere_21 ?_
      refine q_aload_n hF 2 rfl rfl dX8_landHere_22 ?_
      refine q_callV (kc := 0) (ks := 0) (mc' := 0) (ms' := 0) (h' := 0) (st := []) hF vl_RX8_95 rfl [] rfl rfl hS.t0 (by omega) (Nat.le_of_ble_eq_true rfl) dX8_landHere_23 ?_
      refine mX8_fineA hS hfl ?_
      refine q_ifeq hF (by decide) dX8_landHere_26 (fun c26 => ?_) (fun c26 => ?_)
      · exact absurd c26 (by decide)
      · refine q_iload_n hF 0 rfl rfl dX8_landHere_29 ?_
        refine q_iconst hF dX8_landHere_30 ?_
        refine q_icmpne hF (by omega) (by decide) dX8_landHere_31 (fun c31 => ?_) (fun c31 => ?_)
        · refine q_aload_n hF 2 rfl rfl dX8_landHere_43 ?_
          refine q_dup hF rfl dX8_landHere_44 ?_
          refine q_getIv hF (z := (q : Int)) fl_RX8_65 hS.t0 q_ps_4 dX8_landHere_45 ?_
          refine q_iload_n hF 1 rfl rfl dX8_landHere_48 ?_
          refine q_iadd hF dX8_landHere_49 ?_
          refine q_putI hF fl_RX8_65 hS.t0 hSA dX8_landHere_50 ?_
          rw [q_ps_w4 (x := (g_nl B n q) + q) (by omega)]
          refine q_iload_n hF 0 rfl rfl dX8_landHere_53 ?_
          refine q_ireturn hF rfl dX8_landHere_54 ?_
          exact k0 c1_0_1 c31
        · refine q_aload_n hF 2 rfl rfl dX8_landHere_34 ?_
          refine q_iconst hF dX8_landHere_35 ?_
          refine q_aload_n hF 2 rfl rfl dX8_landHere_36 ?_
          refine q_getIv hF (z := (q : Int)) fl_RX8_65 hS.t0 q_ps_4 dX8_landHere_37 ?_
          refine q_callV (kc := 0) (ks := 0) (mc' := 0) (ms' := 0) (h' := 0) (st := []) hF vl_RX8_106 rfl [qI 3, qI (q : Int)] rfl rfl hS.t0 (by omega) (Nat.le_of_ble_eq_true rfl) dX8_landHere_40 ?_
          refine mX8_wrongA hS hSA hfl ?_
          show qX G F Q 0 0 43 [(2, qI (g_lnd B n t q (g_nl B n q))), (1, qI ((g_nl B n q : Nat) : Int)), (0, .ref m)] [] sz T (q_ps I m (g_mk q 3 (q : Int) s.cd s.op s.on s.hp)) (q_row L (m + 4) t) P
          refine q_aload_n hF 2 rfl rfl dX8_landHere_43 ?_
          refine q_dup hF rfl dX8_landHere_44 ?_
          refine q_getIv hF (z := (q : Int)) fl_RX8_65 hS.t0 q_ps_4 dX8_landHere_45 ?_
          refine q_iload_n hF 1 rfl rfl dX8_landHere_48 ?_
          refine q_iadd hF dX8_landHere_49 ?_
          refine q_putI hF fl_RX8_65 hS.t0 hSA dX8_landHere_50 ?_
          rw [q_ps_w4 (x := (g_nl B n q) + q) (by omega)]
          refine q_iload_n hF 0 rfl rfl dX8_landHere_53 ?_
          refine q_ireturn hF rfl dX8_landHere_54 ?_
          rw [c31]
          exact k1 c1_0_1 c31
  · show qX G F Q 0 0 4 [(0, .ref m)] [qI 0] sz T (q_ps I m (g_mk q 1 (q : Int) s.cd s.op s.on s.hp)) (q_row L (m + 4) t) P
    refine q_istore_n hF (ls' := [(1, qI 0), (0, .ref m)]) rfl (by decide) rfl dX8_landHere_4 ?_
    refine q_aload_n hF 1 rfl rfl dX8_landHere_5 ?_
    refine q_callV (kc := 0) (ks := 0) (mc' := 0) (ms' := 0) (h' := 0) (st := []) hF vl_RX8_95 rfl [] rfl rfl hS.t0 (by omega) (Nat.le_of_ble_eq_true rfl) dX8_landHere_6 ?_
    refine mX8_fine0 hS (show (1 : Int) ≠ 0 by decide) (show -2147483648 ≤ 1 ∧ 1 < 2147483648 by first | decide | omega | assumption) ?_
    refine q_ifeq hF (by decide) dX8_landHere_9 (fun c9 => ?_) (fun c9 => ?_)
    · refine q_iconst hF dX8_landHere_20 ?_
      refine q_istore_n hF (ls' := [(2, qI (-1)), (1, qI 0), (0, .ref m)]) rfl (by decide) rfl dX8_landHere_21 ?_
      refine q_aload_n hF 2 rfl rfl dX8_landHere_22 ?_
      refine q_callV (kc := 0) (ks := 0) (mc' := 0) (ms' := 0) (h' := 0) (st := []) hF vl_RX8_95 rfl [] rfl rfl hS.t0 (by omega) (Nat.le_of_ble_eq_true rfl) dX8_landHere_23 ?_
      refine mX8_fine0 hS (show (1 : Int) ≠ 0 by decide) (show -2147483648 ≤ 1 ∧ 1 < 2147483648 by first | decide | omega | assumption) ?_
      refine q_ifeq hF (by decide) dX8_landHere_26 (fun c26 => ?_) (fun c26 => ?_)
      · refine q_aload_n hF 2 rfl rfl dX8_landHere_43 ?_
        refine q_dup hF rfl dX8_landHere_44 ?_
        refine q_getIv hF (z := (q : Int)) fl_RX8_65 hS.t0 q_ps_4 dX8_landHere_45 ?_
        refine q_iload_n hF 1 rfl rfl dX8_landHere_48 ?_
        refine q_iadd hF dX8_landHere_49 ?_
        refine q_putI hF fl_RX8_65 hS.t0 hSA dX8_landHere_50 ?_
        rw [q_ps_w4 (x := q) (by omega)]
        refine q_iload_n hF 0 rfl rfl dX8_landHere_53 ?_
        refine q_ireturn hF rfl dX8_landHere_54 ?_
        exact k2 c1_0_1
      · exact absurd c26 (by decide)
    · exact absurd c9 (by decide)
set_option maxRecDepth 100000 in
theorem mX8_landHere0 {G : q_G} {sz : Nat} {T : q_T} {I L : q_I} {P : q_P} {Q : q_Q} {m : Nat}  {s : g_PS}   (hS : q_SM T P m) (hSA : q_A G m) (her : s.fl ≠ 0) (hrf : -2147483648 ≤ s.fl ∧ s.fl < 2147483648) (k0 : Q (.inl (some (qI (-1)))) sz T (q_ps I m s) L P) : qC G 7 0 0 YX8_landHere [.ref m] sz T (q_ps I m s) L P Q := by
  refine qC_of (by decide +kernel) rfl rfl (Nat.le_of_ble_eq_true rfl) (fun F hF _ _ => ?_)
  refine q_aload_n hF 0 rfl rfl dX8_landHere_0 ?_
  refine q_callV (kc := 0) (ks := 0) (mc' := 0) (ms' := 0) (h' := 6) (st := []) hF vl_RX8_179 rfl [] rfl rfl hS.t0 (by omega) (Nat.le_of_ble_eq_true rfl) dX8_landHere_1 ?_
  refine mX8_name0 hS hSA her (show -2147483648 ≤ s.fl ∧ s.fl < 2147483648 by first | decide | omega | assumption) ?_
  refine q_istore_n hF (ls' := [(1, qI 0), (0, .ref m)]) rfl (by decide) rfl dX8_landHere_4 ?_
  refine q_aload_n hF 1 rfl rfl dX8_landHere_5 ?_
  refine q_callV (kc := 0) (ks := 0) (mc' := 0) (ms' := 0) (h' := 0) (st := []) hF vl_RX8_95 rfl [] rfl rfl hS.t0 (by omega) (Nat.le_of_ble_eq_true rfl) dX8_landHere_6 ?_
  refine mX8_fine0 hS her (show -2147483648 ≤ s.fl ∧ s.fl < 2147483648 by first | decide | omega | assumption) ?_
  refine q_ifeq hF (by decide) dX8_landHere_9 (fun c9 => ?_) (fun c9 => ?_)
  · refine q_iconst hF dX8_landHere_20 ?_
    refine q_istore_n hF (ls' := [(2, qI (-1)), (1, qI 0), (0, .ref m)]) rfl (by decide) rfl dX8_landHere_21 ?_
    refine q_aload_n hF 2 rfl rfl dX8_landHere_22 ?_
    refine q_callV (kc := 0) (ks := 0) (mc' := 0) (ms' := 0) (h' := 0) (st := []) hF vl_RX8_95 rfl [] rfl rfl hS.t0 (by omega) (Nat.le_of_ble_eq_true rfl) dX8_landHere_23 ?_
    refine mX8_fine0 hS her (show -2147483648 ≤ s.fl ∧ s.fl < 2147483648 by first | decide | omega | assumption) ?_
    refine q_ifeq hF (by decide) dX8_landHere_26 (fun c26 => ?_) (fun c26 => ?_)
    · refine q_aload_n hF 2 rfl rfl dX8_landHere_43 ?_
      refine q_dup hF rfl dX8_landHere_44 ?_
      refine q_getIv hF (z := (s.p : Int)) fl_RX8_65 hS.t0 q_ps_4 dX8_landHere_45 ?_
      refine q_iload_n hF 1 rfl rfl dX8_landHere_48 ?_
      refine q_iadd hF dX8_landHere_49 ?_
      refine q_putI hF fl_RX8_65 hS.t0 hSA dX8_landHere_50 ?_
      rw [q_ps_w4 (x := s.p) (by omega)]
      refine q_iload_n hF 0 rfl rfl dX8_landHere_53 ?_
      refine q_ireturn hF rfl dX8_landHere_54 ?_
      exact k0
    · exact absurd c26 (by decide)
  · exact absurd c9 (by decide)
