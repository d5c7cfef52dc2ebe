/-! the line of a land -/
def g_nu (B : Nat → Int) (n : Nat) (lo hi : Int) (p : Nat) (f : Int → Nat → g_Rl) : g_Rl :=
  if g_dg (g_bt B n (g_sk B n p)) then (if lo ≤ g_nv B n (g_sk B n p) 0 ∧ g_nv B n (g_sk B n p) 0 ≤ hi then f (g_nv B n (g_sk B n p) 0) (g_nd B n (g_sk B n p)) else g_Rl.er 2 (g_sk B n p)) else g_Rl.er 1 (g_sk B n p)
/-- k letters of the name at q, told of land l -/
def g_nms (B : Nat → Int) (n : Nat) (t : Nat → Int) (l q k : Nat) : Nat → Int := fun i => if 24 + 13 * l ≤ i ∧ i < 24 + 13 * l + k then g_bt B n (q + (i - (24 + 13 * l))) else t i
theorem g_nms_0 {B : Nat → Int} {n : Nat} {t : Nat → Int} {l q : Nat} : g_nms B n t l q 0 = t := by funext i; unfold g_nms; rw [if_neg (by omega)]
theorem g_nms_s {B : Nat → Int} {n : Nat} {t : Nat → Int} {l q k : Nat} : g_up (g_nms B n t l q k) (24 + 13 * l + k) (g_bt B n (q + k)) = g_nms B n t l q (1 + k) := by
  funext i
  unfold g_up g_nms
  by_cases e : i = 24 + 13 * l + k
  · rw [if_pos e, if_pos (by omega), show q + (i - (24 + 13 * l)) = q + k by omega]
  · rw [if_neg e]
    by_cases e2 : 24 + 13 * l ≤ i ∧ i < 24 + 13 * l + k
    · rw [if_pos e2, if_pos (by omega)]
    · rw [if_neg e2, if_neg (by omega)]
def g_t1 (t : Nat → Int) (l c : Nat) (v1 v2 v3 v4 : Int) : Nat → Int := g_up (g_up (g_up (g_up (g_up t (30 + 13 * l) (c : Int)) (31 + 13 * l) v1) (32 + 13 * l) v2) (33 + 13 * l) v3) (34 + 13 * l) v4
def g_rdLand (B : Nat → Int) (n : Nat) (s : g_PS) (t : Nat → Int) (l wh q : Nat) : g_Rl :=
  if (l : Int) = 5 then g_Rl.er 4 wh
  else if g_nm B n q then (if g_lnd B n t q (g_nl B n q) = -1 then
    g_nu B n 0 11 (g_nl B n q + q) fun v1 p1 => g_nu B n 0 9999 p1 fun v2 p2 => g_nu B n 0 999 p2 fun v3 p3 => g_nu B n 1 50 p3 fun v4 p4 =>
      g_Rl.ok (g_mk p4 s.fl s.fa s.cd s.op s.on s.hp) (g_up (g_t1 (g_nms B n t l q (g_nl B n q)) l (g_nl B n q) v1 v2 v3 v4) 0 (g_t1 (g_nms B n t l q (g_nl B n q)) l (g_nl B n q) v1 v2 v3 v4 0 + 1)) else g_Rl.er 3 q)
  else g_Rl.er 1 q
set_option maxRecDepth 100000 in
theorem lX8_readsLand {G : q_G} {F : q_F} {h : Nat} {Q : q_Q} {kc ks sz : Nat} {T : q_T} {m n q c l : Nat} {wh : Int} {t : Nat → Int} {B : Nat → Int} {s : g_PS} {I L : q_I} {P : q_P} (hF : q_ok G F YX8_readsLand h) (hS : q_SM T P m) (hSA : q_A G m) (hB : q_BT I m B n) (h1 : 1 ≤ h) (hq : q + c ≤ n) (hc : c ≤ 6) (hl : l < 5) (kx : qX G F Q kc ks 103 [(2, qI (c : Int)), (3, qI (l : Int)), (0, .ref m), (1, qI wh)] [] sz T (q_ps I m (g_mk q s.fl s.fa s.cd s.op s.on s.hp)) (q_row L (m + 4) (g_nms B n t l q c)) P) : ∀ (w k : Nat), c - k < w → k ≤ c → qX G F Q kc ks 68 [(4, qI (k : Int)), (2, qI (c : Int)), (3, qI (l : Int)), (0, .ref m), (1, qI wh)] [] sz T (q_ps I m (g_mk q s.fl s.fa s.cd s.op s.on s.hp)) (q_row L (m + 4) (g_nms B n t l q k)) P := by
  intro w
  induction w with
  | zero => intro k hn; exact absurd hn (Nat.not_lt_zero _)
  | succ w ih =>
    intro k hn hk
    have hn6 := hB.2.1
    refine q_iload hF 0 rfl dX8_readsLand_68 ?_
    refine q_iload_n hF 1 rfl rfl dX8_readsLand_70 ?_
    refine q_icmpge hF (by omega) (by omega) dX8_readsLand_71 (fun c71 => ?_) (fun c71 => ?_)
    · obtain rfl : k = c := by omega
      refine q_sub [1, 2, 3, 4] rfl ?_
      exact kx
    · refine q_aload_n hF 3 rfl rfl dX8_readsLand_74 ?_
      refine q_getA hF fl_RX8_24 rfl hS.t0 hS.p10 dX8_readsLand_75 ?_
      refine q_iload_n hF 2 rfl rfl dX8_readsLand_78 ?_
      refine q_iload hF 0 rfl dX8_readsLand_79 ?_
      refine q_callS (kc := kc) (ks := ks) (mc' := 0) (ms' := 0) (h' := 0) (st := [.ref (m + 4)]) hF sl_RX8_176 rfl [qI (l : Int), qI (k : Int)] rfl rfl (by omega) (Nat.le_of_ble_eq_true rfl) dX8_readsLand_81 ?_
      refine mX8_landAt ?_
      refine q_aload_n hF 3 rfl rfl dX8_readsLand_84 ?_
      refine q_aload_n hF 3 rfl rfl dX8_readsLand_85 ?_
      refine q_getIv hF (z := (q : Int)) fl_RX8_65 hS.t0 q_ps_4 dX8_readsLand_86 ?_
      refine q_iload hF 0 rfl dX8_readsLand_89 ?_
      refine q_iadd hF dX8_readsLand_91 ?_
      refine q_callV (kc := kc) (ks := ks) (mc' := 0) (ms' := 0) (h' := 0) (st := [qI ((24 + (13 * (l : Int))) + (k : Int)), .ref (m + 4)]) hF vl_RX8_68 rfl [qI ((q : Int) + (k : Int))] rfl rfl hS.t0 (by omega) (Nat.le_of_ble_eq_true rfl) dX8_readsLand_92 ?_
      refine mX8_byteAtB (B := B) (n := n) (k := q + k) hS (hB.ps _) (by omega) ?_
      refine q_i2l hF (g_bt_32 hB _) dX8_readsLand_95 ?_
      refine q_lastorev hF (n := 1243) (24 + 13 * l + k) hS.t4 (q_Ale hSA (by omega)) (by omega) (by omega) (by decide) dX8_readsLand_96 ?_
      rw [q_row_u]
      refine q_iinc hF (z' := ((1 + k : Nat) : Int)) (ls' := [(4, qI ((1 + k : Nat) : Int)), (2, qI (c : Int)), (3, qI (l : Int)), (0, .ref m), (1, qI wh)]) 0 rfl (by first | rfl | omega) (by decide) rfl dX8_readsLand_97 ?_
      refine q_goto hF dX8_readsLand_100 ?_
      rw [g_nms_s]
      exact ih (1 + k) (by omega) (by omega)
set_option maxRecDepth 100000 in
theorem mX8_readsLandP {G : q_G} {sz : Nat} {T : q_T} {I L : q_I} {P : q_P} {Q : q_Q} {m : Nat} {q l wh : Nat} {r : g_Rl} {s : g_PS} {B : Nat → Int} {n : Nat} {t : Nat → Int} (hS : q_SM T P m) (hSA : q_A G m) (hB : q_BT I m B n) (hp : s.p ≤ n) (hfl : s.fl = 0) (ht : g_TR t) (hl : t 0 = (l : Int)) (hsk : g_sk B n s.p = q) (hne2 : g_rdLand B n s t l wh q = r) (k0 : ∀ s' t', r = .ok s' t' → Q (.inl none) sz T (q_ps I m s') (q_row L (m + 4) t') P) (k1 : ∀ (w : Int) (x : Nat) (s' : g_PS) (t' : Nat → Int), r = .er w x → (1 ≤ w ∧ w ≤ 7) → s'.fl = w → s'.fa = (x : Int) → s'.p ≤ n → Q (.inl none) sz T (q_ps I m s') (q_row L (m + 4) t') P) : qC G 7 0 0 YX8_readsLand [.ref m, qI (wh : Int)] sz T (q_ps I m s) (q_row L (m + 4) t) P Q := by
  refine qC_of (by decide +kernel) rfl rfl (Nat.le_of_ble_eq_true rfl) (fun F hF _ _ => ?_)
  have hn6 := hB.2.1
  have hq := g_sk_r (B := B) hp
  rw [hsk] at hq
  have hqq : g_sk B n q = q := by rw [← hsk]; exact g_sk_sk hp
  have hx2 := hne2
  have ht0 := ht.2
  have hnl := g_nl_r (B := B) hq.2
  have hlf := g_lndF_r (B := B) (n := n) (t := t) (q := q) (c := g_nl B n q) 6 0
  change -1 ≤ g_lnd B n t q (g_nl B n q) ∧ (g_lnd B n t q (g_nl B n q) = -1 ∨ g_lnd B n t q (g_nl B n q) < t 0) at hlf
  refine q_aload_n hF 0 rfl rfl dX8_readsLand_0 ?_
  refine q_getA hF fl_RX8_24 rfl hS.t0 hS.p10 dX8_readsLand_1 ?_
  refine q_iconst hF dX8_readsLand_4 ?_
  refine q_laloadv hF (z := (l : Int)) (n := 1243) 0 hS.t4 rfl (by decide) (by decide) ((q_row_s _ _ _ _).trans hl) dX8_readsLand_5 ?_
  refine q_ldc2 hF (n := 5) (q_mem 1392 (by decide +kernel) rfl) dX8_readsLand_6 ?_
  refine q_cmpne hF (by omega) (by decide) dX8_readsLand_9 dX8_readsLand_10 (fun c10 => ?_) (fun c10 => ?_)
  · refine q_aload_n hF 0 rfl rfl dX8_readsLand_19 ?_
    refine q_callV (kc := 0) (ks := 0) (mc' := 0) (ms' := 0) (h' := 6) (st := []) hF vl_RX8_179 rfl [] rfl rfl hS.t0 (by omega) (Nat.le_of_ble_eq_true rfl) dX8_readsLand_20 ?_
    refine mX8_nameP hS hSA hB (show s.p ≤ n by omega) hfl hsk (fun (c20_0_1 : g_nm B n q) => ?_) (fun (c20_0_1 : ¬ (g_nm B n q)) => ?_)
    · show qX G F Q 0 0 23 [(0, .ref m), (1, qI (wh : Int))] [qI ((g_nl B n q : Nat) : Int)] sz T (q_ps I m (g_mk q s.fl s.fa s.cd s.op s.on s.hp)) (q_row L (m + 4) t) P
      refine q_istore_n hF (ls' := [(2, qI ((g_nl B n q : Nat) : Int)), (0, .ref m), (1, qI (wh : Int))]) rfl (by decide) rfl dX8_readsLand_23 ?_
      refine q_aload_n hF 1 rfl rfl dX8_readsLand_24 ?_
      refine q_getA hF fl_RX8_24 rfl hS.t0 hS.p10 dX8_readsLand_25 ?_
      refine q_iconst hF dX8_readsLand_28 ?_
      refine q_laloadv hF (z := (l : Int)) (n := 1243) 0 hS.t4 rfl (by decide) (by decide) ((q_row_s _ _ _ _).trans hl) dX8_readsLand_29 ?_
      refine q_l2i hF dX8_readsLand_30 ?_
      refine q_istore_n hF (ls' := [(3, qI (l : Int)), (2, qI ((g_nl B n q : Nat) : Int)), (0, .ref m), (1, qI (wh : Int))]) rfl (by decide) rfl dX8_readsLand_31 ?_
      refine q_aload_n hF 2 rfl rfl dX8_readsLand_32 ?_
      refine q_callV (kc := 0) (ks := 0) (mc' := 0) (ms' := 0) (h' := 0) (st := []) hF vl_RX8_95 rfl [] rfl rfl hS.t0 (by omega) (Nat.le_of_ble_eq_true rfl) dX8_readsLand_33 ?_
      refine mX8_fineA hS hfl ?_
      refine q_ifeq hF (by decide) dX8_readsLand_36 (fun c36 => ?_) (fun c36 => ?_)
      · exact absurd c36 (by decide)
      · refine q_aload_n hF 2 rfl rfl dX8_readsLand_39 ?_
        refine q_iload_n hF 1 rfl rfl dX8_readsLand_40 ?_
        refine q_callV (kc := 0) (ks := 0) (mc' := 0) (ms' := 0) (h' := 1) (st := []) hF vl_RX8_182 rfl [qI ((g_nl B n q : Nat) : Int)] rfl rfl hS.t0 (by omega) (Nat.le_of_ble_eq_true rfl) dX8_readsLand_41 ?_
        refine mX8_landOfP (c := (g_nl B n q)) hS hSA hB (show q + (g_nl B n q) ≤ n by omega) (by omega) ht ?_
        show qX G F Q 0 0 44 [(3, qI (l : Int)), (2, qI ((g_nl B n q : Nat) : Int)), (0, .ref m), (1, qI (wh : Int))] [qI (g_lnd B n t q (g_nl B n q))] sz T (q_ps I m (g_mk q s.fl s.fa s.cd s.op s.on s.hp)) (q_row L (m + 4) t) P
        refine q_iconst hF dX8_readsLand_44 ?_
        refine q_icmpeq hF (by omega) (by decide) dX8_readsLand_45 (fun c45 => ?_) (fun c45 => ?_)
        · refine q_aload_n hF 2 rfl rfl dX8_readsLand_57 ?_
          refine q_callV (kc := 0) (ks := 0) (mc' := 0) (ms' := 0) (h' := 0) (st := []) hF vl_RX8_95 rfl [] rfl rfl hS.t0 (by omega) (Nat.le_of_ble_eq_true rfl) dX8_readsLand_58 ?_
          refine mX8_fineA hS hfl ?_
          refine q_ifne hF (by decide) dX8_readsLand_61 (fun c61 => ?_) (fun c61 => ?_)
          · refine q_iconst hF dX8_readsLand_65 ?_
            refine q_istore hF (ls' := [(4, qI 0), (3, qI (l : Int)), (2, qI ((g_nl B n q : Nat) : Int)), (0, .ref m), (1, qI (wh : Int))]) (by decide) rfl dX8_readsLand_66 ?_
            refine q_sub [0, 2, 1, 3, 4] rfl ?_
            have q9 := lX8_readsLand (Q := Q) (kc := 0) (ks := 0) (sz := sz) (T := T) (I := I) (L := L) (P := P) (t := t) (s := s) (wh := (wh : Int)) hF hS hSA hB (by decide) (q := q) (c := g_nl B n q) (by omega) (by omega) (show l < 5 by omega) ?_ (g_nl B n q + 1) 0 (by omega) (by omega)
            · rw [g_nms_0] at q9; exact q9
            refine q_aload_n hF 2 rfl rfl dX8_readsLand_103 ?_
            refine q_getA hF fl_RX8_24 rfl hS.t0 hS.p10 dX8_readsLand_104 ?_
            refine q_iload_n hF 1 rfl rfl dX8_readsLand_107 ?_
            refine q_bipush hF (n := 6) rfl dX8_readsLand_108 ?_
            refine q_callS (kc := 0) (ks := 0) (mc' := 0) (ms' := 0) (h' := 0) (st := [.ref (m + 4)]) hF sl_RX8_176 rfl [qI (l : Int), qI 6] rfl rfl (by omega) (Nat.le_of_ble_eq_true rfl) dX8_readsLand_110 ?_
            refine mX8_landAt ?_
            refine q_iload_n hF 0 rfl rfl dX8_readsLand_113 ?_
            refine q_i2l hF (by omega) dX8_readsLand_114 ?_
            refine q_lastorev hF (n := 1243) (30 + 13 * l) hS.t4 (q_Ale hSA (by omega)) (by omega) (by omega) (by decide) dX8_readsLand_115 ?_
            rw [q_row_u]
            refine q_aload_n hF 2 rfl rfl dX8_readsLand_116 ?_
            refine q_dup hF rfl dX8_readsLand_117 ?_
            refine q_getIv hF (z := (q : Int)) fl_RX8_65 hS.t0 q_ps_4 dX8_readsLand_118 ?_
            refine q_iload_n hF 0 rfl rfl dX8_readsLand_121 ?_
            refine q_iadd hF dX8_readsLand_122 ?_
            refine q_putI hF fl_RX8_65 hS.t0 hSA dX8_readsLand_123 ?_
            rw [q_ps_w4 (x := (g_nl B n q) + q) (by omega)]
            refine q_aload_n hF 2 rfl rfl dX8_readsLand_126 ?_
            refine q_getA hF fl_RX8_24 rfl hS.t0 hS.p10 dX8_readsLand_127 ?_
            refine q_iload_n hF 1 rfl rfl dX8_readsLand_130 ?_
            refine q_bipush hF (n := 7) rfl dX8_readsLand_131 ?_
            refine q_callS (kc := 0) (ks := 0) (mc' := 0) (ms' := 0) (h' := 0) (st := [.ref (m + 4)]) hF sl_RX8_176 rfl [qI (l : Int), qI 7] rfl rfl (by omega) (Nat.le_of_ble_eq_true rfl) dX8_readsLand_133 ?_
            refine mX8_landAt ?_
            have hsr1 := g_sk_r (B := B) (n := n) (k := ((g_nl B n q) + q)) (by omega)
            have hnd1 := g_nd_r (B := B) (n := n) (k := g_sk B n ((g_nl B n q) + q)) (by omega)
            have hnv1 := g_nv_r (B := B) (n := n) _ (g_sk B n ((g_nl B n q) + q)) 0 (Nat.lt_succ_self _) (by decide) (by decide)
            refine q_aload_n hF 2 rfl rfl dX8_readsLand_136 ?_
            refine q_iconst hF dX8_readsLand_137 ?_
            refine q_bipush hF (n := 11) rfl dX8_readsLand_138 ?_
            refine q_callV (kc := 0) (ks := 0) (mc' := 0) (ms' := 0) (h' := 2) (st := [qI ((24 + (13 * (l : Int))) + 7), .ref (m + 4)]) hF vl_RX8_187 rfl [qI 0, qI 11] rfl rfl hS.t0 (by omega) (Nat.le_of_ble_eq_true rfl) dX8_readsLand_140 ?_
            refine mX8_numberPQ hS hSA hB (by first | decide | omega) (by first | decide | omega) (show ((g_nl B n q) + q) ≤ n by omega) hfl rfl (fun (c140_0_5 : ¬ (48 ≤ (g_bt B n (g_sk B n ((g_nl B n q) + q))) ∧ (g_bt B n (g_sk B n ((g_nl B n q) + q))) ≤ 57)) => ?_) (fun (c140_0_5 : 48 ≤ (g_bt B n (g_sk B n ((g_nl B n q) + q))) ∧ (g_bt B n (g_sk B n ((g_nl B n q) + q))) ≤ 57) (c140_1_5 : 0 ≤ g_nv B n (g_sk B n ((g_nl B n q) + q)) 0 ∧ g_nv B n (g_sk B n ((g_nl B n q) + q)) 0 ≤ 11) => ?_) (fun (c140_0_5 : 48 ≤ (g_bt B n (g_sk B n ((g_nl B n q) + q))) ∧ (g_bt B n (g_sk B n ((g_nl B n q) + q))) ≤ 57) (c140_1_5 : ¬ (0 ≤ g_nv B n (g_sk B n ((g_nl B n q) + q)) 0 ∧ g_nv B n (g_sk B n ((g_nl B n q) + q)) 0 ≤ 11)) => ?_)
            · show qX G F Q 0 0 143 [(2, qI ((g_nl B n q : Nat) : Int)), (3, qI (l : Int)), (0, .ref m), (1, qI (wh : Int))] [qI 0, qI ((24 + (13 * (l : Int))) + 7), .ref (m + 4)] sz T (q_ps I m (g_mk (g_sk B n ((g_nl B n q) + q)) 1 ((g_sk B n ((g_nl B n q) + q) : Nat) : Int) s.cd s.op s.on s.hp)) (q_row L (m + 4) (g_up (g_nms B n t l q (g_nl B n q)) (30 + 13 * l) ((g_nl B n q : Nat) : Int))) P
              refine q_i2l hF (by decide) dX8_readsLand_143 ?_
              refine q_lastorev hF (n := 1243) (31 + 13 * l) hS.t4 (q_Ale hSA (by omega)) (by omega) (by omega) (by decide) dX8_readsLand_144 ?_
              rw [q_row_u]
              refine q_aload_n hF 2 rfl rfl dX8_readsLand_145 ?_
              refine q_getA hF fl_RX8_24 rfl hS.t0 hS.p10 dX8_readsLand_146 ?_
              refine q_iload_n hF 1 rfl rfl dX8_readsLand_149 ?_
              refine q_bipush hF (n := 8) rfl dX8_readsLand_150 ?_
              refine q_callS (kc := 0) (ks := 0) (mc' := 0) (ms' := 0) (h' := 0) (st := [.ref (m + 4)]) hF sl_RX8_176 rfl [qI (l : Int), qI 8] rfl rfl (by omega) (Nat.le_of_ble_eq_true rfl) dX8_readsLand_152 ?_
              refine mX8_landAt ?_
              skip
              refine q_aload_n hF 2 rfl rfl dX8_readsLand_155 ?_
              refine q_iconst hF dX8_readsLand_156 ?_
              refine q_sipush hF (n := 9999) rfl dX8_readsLand_157 ?_
              refine q_callV (kc := 0) (ks := 0) (mc' := 0) (ms' := 0) (h' := 2) (st := [qI ((24 + (13 * (l : Int))) + 8), .ref (m + 4)]) hF vl_RX8_187 rfl [qI 0, qI 9999] rfl rfl hS.t0 (by omega) (Nat.le_of_ble_eq_true rfl) dX8_readsLand_160 ?_
              refine mX8_number0 hS hSA (show (1 : Int) ≠ 0 by decide) (show -2147483648 ≤ 1 ∧ 1 < 2147483648 by first | decide | omega | assumption) ?_
              refine q_i2l hF (by decide) dX8_readsLand_163 ?_
              refine q_lastorev hF (n := 1243) (32 + 13 * l) hS.t4 (q_Ale hSA (by omega)) (by omega) (by omega) (by decide) dX8_readsLand_164 ?_
              rw [q_row_u]
              refine q_aload_n hF 2 rfl rfl dX8_readsLand_165 ?_
              refine q_getA hF fl_RX8_24 rfl hS.t0 hS.p10 dX8_readsLand_166 ?_
              refine q_iload_n hF 1 rfl rfl dX8_readsLand_169 ?_
              refine q_bipush hF (n := 9) rfl dX8_readsLand_170 ?_
              refine q_callS (kc := 0) (ks := 0) (mc' := 0) (ms' := 0) (h' := 0) (st := [.ref (m + 4)]) hF sl_RX8_176 rfl [qI (l : Int), qI 9] rfl rfl (by omega) (Nat.le_of_ble_eq_true rfl) dX8_readsLand_172 ?_
              refine mX8_landAt ?_
              skip
              refine q_aload_n hF 2 rfl rfl dX8_readsLand_175 ?_
              refine q_iconst hF dX8_readsLand_176 ?_
              refine q_sipush hF (n := 999) rfl dX8_readsLand_177 ?_
              refine q_callV (kc := 0) (ks := 0) (mc' := 0) (ms' := 0) (h' := 2) (st := [qI ((24 + (13 * (l : Int))) + 9), .ref (m + 4)]) hF vl_RX8_187 rfl [qI 0, qI 999] rfl rfl hS.t0 (by omega) (Nat.le_of_ble_eq_true rfl) dX8_readsLand_180 ?_
              refine mX8_number0 hS hSA (show (1 : Int) ≠ 0 by decide) (show -2147483648 ≤ 1 ∧ 1 < 2147483648 by first | decide | omega | assumption) ?_
              refine q_i2l hF (by decide) dX8_readsLand_183 ?_
              refine q_lastorev hF (n := 1243) (33 + 13 * l) hS.t4 (q_Ale hSA (by omega)) (by omega) (by omega) (by decide) dX8_readsLand_184 ?_
              rw [q_row_u]
              refine q_aload_n hF 2 rfl rfl dX8_readsLand_185 ?_
              refine q_getA hF fl_RX8_24 rfl hS.t0 hS.p10 dX8_readsLand_186 ?_
              refine q_iload_n hF 1 rfl rfl dX8_readsLand_189 ?_
              refine q_bipush hF (n := 10) rfl dX8_readsLand_190 ?_
              refine q_callS (kc := 0) (ks := 0) (mc' := 0) (ms' := 0) (h' := 0) (st := [.ref (m + 4)]) hF sl_RX8_176 rfl [qI (l : Int), qI 10] rfl rfl (by omega) (Nat.le_of_ble_eq_true rfl) dX8_readsLand_192 ?_
              refine mX8_landAt ?_
              skip
              refine q_aload_n hF 2 rfl rfl dX8_readsLand_195 ?_
              refine q_iconst hF dX8_readsLand_196 ?_
              refine q_bipush hF (n := 50) rfl dX8_readsLand_197 ?_
              refine q_callV (kc := 0) (ks := 0) (mc' := 0) (ms' := 0) (h' := 2) (st := [qI ((24 + (13 * (l : Int))) + 10), .ref (m + 4)]) hF vl_RX8_187 rfl [qI 1, qI 50] rfl rfl hS.t0 (by omega) (Nat.le_of_ble_eq_true rfl) dX8_readsLand_199 ?_
              refine mX8_number0 hS hSA (show (1 : Int) ≠ 0 by decide) (show -2147483648 ≤ 1 ∧ 1 < 2147483648 by first | decide | omega | assumption) ?_
              refine q_i2l hF (by decide) dX8_readsLand_202 ?_
              refine q_lastorev hF (n := 1243) (34 + 13 * l) hS.t4 (q_Ale hSA (by omega)) (by omega) (by omega) (by decide) dX8_readsLand_203 ?_
              rw [q_row_u]
              refine q_aload_n hF 2 rfl rfl dX8_readsLand_204 ?_
              refine q_getA hF fl_RX8_24 rfl hS.t0 hS.p10 dX8_readsLand_205 ?_
              refine q_iconst hF dX8_readsLand_208 ?_
              refine q_dup2 hF rfl rfl dX8_readsLand_209 ?_
              refine q_laloadv hF (z := (g_up (g_up (g_up (g_up (g_up (g_nms B n t l q (g_nl B n q)) (30 + 13 * l) ((g_nl B n q : Nat) : Int)) (31 + 13 * l) 0) (32 + 13 * l) 0) (33 + 13 * l) 0) (34 + 13 * l) 0) 0) (n := 1243) 0 hS.t4 rfl (by decide) (by decide) (q_row_s _ _ _ _) dX8_readsLand_210 ?_
              refine q_lconst hF (z := 1) rfl dX8_readsLand_211 ?_
              refine q_ladd hF dX8_readsLand_212 ?_
              refine q_lastorev hF (n := 1243) 0 hS.t4 (q_Ale hSA (by omega)) rfl (by decide) (by decide) dX8_readsLand_213 ?_
              rw [q_row_u]
              refine q_return hF rfl dX8_readsLand_214 ?_
              show Q (.inl none) sz T (q_ps I m (g_mk (g_sk B n ((g_nl B n q) + q)) 1 ((g_sk B n ((g_nl B n q) + q) : Nat) : Int) s.cd s.op s.on s.hp)) (q_row L (m + 4) (g_up (g_up (g_up (g_up (g_up (g_up (g_nms B n t l q (g_nl B n q)) (30 + 13 * l) ((g_nl B n q : Nat) : Int)) (31 + 13 * l) 0) (32 + 13 * l) 0) (33 + 13 * l) 0) (34 + 13 * l) 0) 0 (((g_up (g_up (g_up (g_up (g_up (g_nms B n t l q (g_nl B n q)) (30 + 13 * l) ((g_nl B n q : Nat) : Int)) (31 + 13 * l) 0) (32 + 13 * l) 0) (33 + 13 * l) 0) (34 + 13 * l) 0) 0) + 1))) P
              exact k1 1 (g_sk B n ((g_nl B n q) + q)) _ _ (by rw [← hx2, g_rdLand, if_neg c10, if_pos c20_0_1, if_pos c45, g_nu, if_neg c140_0_5]) (by decide) rfl rfl (show g_sk B n ((g_nl B n q) + q) ≤ n by omega)
            · show qX G F Q 0 0 143 [(2, qI ((g_nl B n q : Nat) : Int)), (3, qI (l : Int)), (0, .ref m), (1, qI (wh : Int))] [qI (g_nv B n (g_sk B n ((g_nl B n q) + q)) 0), qI ((24 + (13 * (l : Int))) + 7), .ref (m + 4)] sz T (q_ps I m (g_mk (g_nd B n (g_sk B n ((g_nl B n q) + q))) s.fl s.fa s.cd s.op s.on s.hp)) (q_row L (m + 4) (g_up (g_nms B n t l q (g_nl B n q)) (30 + 13 * l) ((g_nl B n q : Nat) : Int))) P
              refine q_i2l hF (by omega) dX8_readsLand_143 ?_
              refine q_lastorev hF (n := 1243) (31 + 13 * l) hS.t4 (q_Ale hSA (by omega)) (by omega) (by omega) (by decide) dX8_readsLand_144 ?_
              rw [q_row_u]
              refine q_aload_n hF 2 rfl rfl dX8_readsLand_145 ?_
              refine q_getA hF fl_RX8_24 rfl hS.t0 hS.p10 dX8_readsLand_146 ?_
              refine q_iload_n hF 1 rfl rfl dX8_readsLand_149 ?_
              refine q_bipush hF (n := 8) rfl dX8_readsLand_150 ?_
              refine q_callS (kc := 0) (ks := 0) (mc' := 0) (ms' := 0) (h' := 0) (st := [.ref (m + 4)]) hF sl_RX8_176 rfl [qI (l : Int), qI 8] rfl rfl (by omega) (Nat.le_of_ble_eq_true rfl) dX8_readsLand_152 ?_
              refine mX8_landAt ?_
              have hsr2 := g_sk_r (B := B) (n := n) (k := (g_nd B n (g_sk B n ((g_nl B n q) + q)))) (by omega)
              have hnd2 := g_nd_r (B := B) (n := n) (k := g_sk B n (g_nd B n (g_sk B n ((g_nl B n q) + q)))) (by omega)
              have hnv2 := g_nv_r (B := B) (n := n) _ (g_sk B n (g_nd B n (g_sk B n ((g_nl B n q) + q)))) 0 (Nat.lt_succ_self _) (by decide) (by decide)
              refine q_aload_n hF 2 rfl rfl dX8_readsLand_155 ?_
              refine q_iconst hF dX8_readsLand_156 ?_
              refine q_sipush hF (n := 9999) rfl dX8_readsLand_157 ?_
              refine q_callV (kc := 0) (ks := 0) (mc' := 0) (ms' := 0) (h' := 2) (st := [qI ((24 + (13 * (l : Int))) + 8), .ref (m + 4)]) hF vl_RX8_187 rfl [qI 0, qI 9999] rfl rfl hS.t0 (by omega) (Nat.le_of_ble_eq_true rfl) dX8_readsLand_160 ?_
              refine mX8_numberPQ hS hSA hB (by first | decide | omega) (by first | decide | omega) (show (g_nd B n (g_sk B n ((g_nl B n q) + q))) ≤ n by omega) hfl rfl (fun (c160_0_9 : ¬ (48 ≤ (g_bt B n (g_sk B n (g_nd B n (g_sk B n ((g_nl B n q) + q))))) ∧ (g_bt B n (g_sk B n (g_nd B n (g_sk B n ((g_nl B n q) + q))))) ≤ 57)) => ?_) (fun (c160_0_9 : 48 ≤ (g_bt B n (g_sk B n (g_nd B n (g_sk B n ((g_nl B n q) + q))))) ∧ (g_bt B n (g_sk B n (g_nd B n (g_sk B n ((g_nl B n q) + q))))) ≤ 57) (c160_1_9 : 0 ≤ g_nv B n (g_sk B n (g_nd B n (g_sk B n ((g_nl B n q) + q)))) 0 ∧ g_nv B n (g_sk B n (g_nd B n (g_sk B n ((g_nl B n q) + q)))) 0 ≤ 9999) => ?_) (fun (c160_0_9 : 48 ≤ (g_bt B n (g_sk B n (g_nd B n (g_sk B n ((g_nl B n q) + q))))) ∧ (g_bt B n (g_sk B n (g_nd B n (g_sk B n ((g_nl B n q) + q))))) ≤ 57) (c160_1_9 : ¬ (0 ≤ g_nv B n (g_sk B n (g_nd B n (g_sk B n ((g_nl B n q) + q)))) 0 ∧ g_nv B n (g_sk B n (g_nd B n (g_sk B n ((g_nl B n q) + q)))) 0 ≤ 9999)) => ?_)
              · show qX G F Q 0 0 163 [(2, qI ((g_nl B n q : Nat) : Int)), (3, qI (l : Int)), (0, .ref m), (1, qI (wh : Int))] [qI 0, qI ((24 + (13 * (l : Int))) + 8), .ref (m + 4)] sz T (q_ps I m (g_mk (g_sk B n (g_nd B n (g_sk B n ((g_nl B n q) + q)))) 1 ((g_sk B n (g_nd B n (g_sk B n ((g_nl B n q) + q))) : Nat) : Int) s.cd s.op s.on s.hp)) (q_row L (m + 4) (g_up (g_up (g_nms B n t l q (g_nl B n q)) (30 + 13 * l) ((g_nl B n q : Nat) : Int)) (31 + 13 * l) (g_nv B n (g_sk B n ((g_nl B n q) + q)) 0))) P
                refine q_i2l hF (by decide) dX8_readsLand_163 ?_
                refine q_lastorev hF (n := 1243) (32 + 13 * l) hS.t4 (q_Ale hSA (by omega)) (by omega) (by omega) (by decide) dX8_readsLand_164 ?_
                rw [q_row_u]
                refine q_aload_n hF 2 rfl rfl dX8_readsLand_165 ?_
                refine q_getA hF fl_RX8_24 rfl hS.t0 hS.p10 dX8_readsLand_166 ?_
                refine q_iload_n hF 1 rfl rfl dX8_readsLand_169 ?_
                refine q_bipush hF (n := 9) rfl dX8_readsLand_170 ?_
                refine q_callS (kc := 0) (ks := 0) (mc' := 0) (ms' := 0) (h' := 0) (st := [.ref (m + 4)]) hF sl_RX8_176 rfl [qI (l : Int), qI 9] rfl rfl (by omega) (Nat.le_of_ble_eq_true rfl) dX8_readsLand_172 ?_
                refine mX8_landAt ?_
                skip
                refine q_aload_n hF 2 rfl rfl dX8_readsLand_175 ?_
                refine q_iconst hF dX8_readsLand_176 ?_
                refine q_sipush hF (n := 999) rfl dX8_readsLand_177 ?_
                refine q_callV (kc := 0) (ks := 0) (mc' := 0) (ms' := 0) (h' := 2) (st := [qI ((24 + (13 * (l : Int))) + 9), .ref (m + 4)]) hF vl_RX8_187 rfl [qI 0, qI 999] rfl rfl hS.t0 (by omega) (Nat.le_of_ble_eq_true rfl) dX8_readsLand_180 ?_
                refine mX8_number0 hS hSA (show (1 : Int) ≠ 0 by decide) (show -2147483648 ≤ 1 ∧ 1 < 2147483648 by first | decide | omega | assumption) ?_
                refine q_i2l hF (by decide) dX8_readsLand_183 ?_
                refine q_lastorev hF (n := 1243) (33 + 13 * l) hS.t4 (q_Ale hSA (by omega)) (by omega) (by omega) (by decide) dX8_readsLand_184 ?_
                rw [q_row_u]
                refine q_aload_n hF 2 rfl rfl dX8_readsLand_185 ?_
                refine q_getA hF fl_RX8_24 rfl hS.t0 hS.p10 dX8_readsLand_186 ?_
                refine q_iload_n hF 1 rfl rfl dX8_readsLand_189 ?_
                refine q_bipush hF (n := 10) rfl dX8_readsLand_190 ?_
                refine q_callS (kc := 0) (ks := 0) (mc' := 0) (ms' := 0) (h' := 0) (st := [.ref (m + 4)]) hF sl_RX8_176 rfl [qI (l : Int), qI 10] rfl rfl (by omega) (Nat.le_of_ble_eq_true rfl) dX8_readsLand_192 ?_
                refine mX8_landAt ?_
                skip
                refine q_aload_n hF 2 rfl rfl dX8_readsLand_195 ?_
                refine q_iconst hF dX8_readsLand_196 ?_
                refine q_bipush hF (n := 50) rfl dX8_readsLand_197 ?_
                refine q_callV (kc := 0) (ks := 0) (mc' := 0) (ms' := 0) (h' := 2) (st := [qI ((24 + (13 * (l : Int))) + 10), .ref (m + 4)]) hF vl_RX8_187 rfl [qI 1, qI 50] rfl rfl hS.t0 (by omega) (Nat.le_of_ble_eq_true rfl) dX8_readsLand_199 ?_
                refine mX8_number0 hS hSA (show (1 : Int) ≠ 0 by decide) (show -2147483648 ≤ 1 ∧ 1 < 2147483648 by first | decide | omega | assumption) ?_
                refine q_i2l hF (by decide) dX8_readsLand_202 ?_
                refine q_lastorev hF (n := 1243) (34 + 13 * l) hS.t4 (q_Ale hSA (by omega)) (by omega) (by omega) (by decide) dX8_readsLand_203 ?_
                rw [q_row_u]
                refine q_aload_n hF 2 rfl rfl dX8_readsLand_204 ?_
                refine q_getA hF fl_RX8_24 rfl hS.t0 hS.p10 dX8_readsLand_205 ?_
                refine q_iconst hF dX8_readsLand_208 ?_
                refine q_dup2 hF rfl rfl dX8_readsLand_209 ?_
                refine q_laloadv hF (z := (g_up (g_up (g_up (g_up (g_up (g_nms B n t l q (g_nl B n q)) (30 + 13 * l) ((g_nl B n q : Nat) : Int)) (31 + 13 * l) (g_nv B n (g_sk B n ((g_nl B n q) + q)) 0)) (32 + 13 * l) 0) (33 + 13 * l) 0) (34 + 13 * l) 0) 0) (n := 1243) 0 hS.t4 rfl (by decide) (by decide) (q_row_s _ _ _ _) dX8_readsLand_210 ?_
                refine q_lconst hF (z := 1) rfl dX8_readsLand_211 ?_
                refine q_ladd hF dX8_readsLand_212 ?_
                refine q_lastorev hF (n := 1243) 0 hS.t4 (q_Ale hSA (by omega)) rfl (by decide) (by decide) dX8_readsLand_213 ?_
                rw [q_row_u]
                refine q_return hF rfl dX8_readsLand_214 ?_
                show Q (.inl none) sz T (q_ps I m (g_mk (g_sk B n (g_nd B n (g_sk B n ((g_nl B n q) + q)))) 1 ((g_sk B n (g_nd B n (g_sk B n ((g_nl B n q) + q))) : Nat) : Int) s.cd s.op s.on s.hp)) (q_row L (m + 4) (g_up (g_up (g_up (g_up (g_up (g_up (g_nms B n t l q (g_nl B n q)) (30 + 13 * l) ((g_nl B n q : Nat) : Int)) (31 + 13 * l) (g_nv B n (g_sk B n ((g_nl B n q) + q)) 0)) (32 + 13 * l) 0) (33 + 13 * l) 0) (34 + 13 * l) 0) 0 (((g_up (g_up (g_up (g_up (g_up (g_nms B n t l q (g_nl B n q)) (30 + 13 * l) ((g_nl B n q : Nat) : Int)) (31 + 13 * l) (g_nv B n (g_sk B n ((g_nl B n q) + q)) 0)) (32 + 13 * l) 0) (33 + 13 * l) 0) (34 + 13 * l) 0) 0) + 1))) P
                exact k1 1 (g_sk B n (g_nd B n (g_sk B n ((g_nl B n q) + q)))) _ _ (by rw [← hx2, g_rdLand, if_neg c10, if_pos c20_0_1, if_pos c45, g_nu, if_pos c140_0_5, if_pos c140_1_5, g_nu, if_neg c160_0_9]) (by decide) rfl rfl (show g_sk B n (g_nd B n (g_sk B n ((g_nl B n q) + q))) ≤ n by omega)
              · show qX G F Q 0 0 163 [(2, qI ((g_nl B n q : Nat) : Int)), (3, qI (l : Int)), (0, .ref m), (1, qI (wh : Int))] [qI (g_nv B n (g_sk B n (g_nd B n (g_sk B n ((g_nl B n q) + q)))) 0), qI ((24 + (13 * (l : Int))) + 8), .ref (m + 4)] sz T (q_ps I m (g_mk (g_nd B n (g_sk B n (g_nd B n (g_sk B n ((g_nl B n q) + q))))) s.fl s.fa s.cd s.op s.on s.hp)) (q_row L (m + 4) (g_up (g_up (g_nms B n t l q (g_nl B n q)) (30 + 13 * l) ((g_nl B n q : Nat) : Int)) (31 + 13 * l) (g_nv B n (g_sk B n ((g_nl B n q) + q)) 0))) P
                refine q_i2l hF (by omega) dX8_readsLand_163 ?_
                refine q_lastorev hF (n := 1243) (32 + 13 * l) hS.t4 (q_Ale hSA (by omega)) (by omega) (by omega) (by decide) dX8_readsLand_164 ?_
                rw [q_row_u]
                refine q_aload_n hF 2 rfl rfl dX8_readsLand_165 ?_
                refine q_getA hF fl_RX8_24 rfl hS.t0 hS.p10 dX8_readsLand_166 ?_
                refine q_iload_n hF 1 rfl rfl dX8_readsLand_169 ?_
                refine q_bipush hF (n := 9) rfl dX8_readsLand_170 ?_
                refine q_callS (kc := 0) (ks := 0) (mc' := 0) (ms' := 0) (h' := 0) (st := [.ref (m + 4)]) hF sl_RX8_176 rfl [qI (l : Int), qI 9] rfl rfl (by omega) (Nat.le_of_ble_eq_true rfl) dX8_readsLand_172 ?_
                refine mX8_landAt ?_
                have hsr3 := g_sk_r (B := B) (n := n) (k := (g_nd B n (g_sk B n (g_nd B n (g_sk B n ((g_nl B n q) + q)))))) (by omega)
                have hnd3 := g_nd_r (B := B) (n := n) (k := g_sk B n (g_nd B n (g_sk B n (g_nd B n (g_sk B n ((g_nl B n q) + q)))))) (by omega)
                have hnv3 := g_nv_r (B := B) (n := n) _ (g_sk B n (g_nd B n (g_sk B n (g_nd B n (g_sk B n ((g_nl B n q) + q)))))) 0 (Nat.lt_succ_self _) (by decide) (by decide)
                refine q_aload_n hF 2 rfl rfl dX8_readsLand_175 ?_
                refine q_iconst hF dX8_readsLand_176 ?_
                refine q_sipush hF (n := 999) rfl dX8_readsLand_177 ?_
                refine q_callV (kc := 0) (ks := 0) (mc' := 0) (ms' := 0) (h' := 2) (st := [qI ((24 + (13 * (l : Int))) + 9), .ref (m + 4)]) hF vl_RX8_187 rfl [qI 0, qI 999] rfl rfl hS.t0 (by omega) (Nat.le_of_ble_eq_true rfl) dX8_readsLand_180 ?_
                refine mX8_numberPQ hS hSA hB (by first | decide | omega) (by first | decide | omega) (show (g_nd B n (g_sk B n (g_nd B n (g_sk B n ((g_nl B n q) + q))))) ≤ n by omega) hfl rfl (fun (c180_0_12 : ¬ (48 ≤ (g_bt B n (g_sk B n (g_nd B n (g_sk B n (g_nd B n (g_sk B n ((g_nl B n q) + q))))))) ∧ (g_bt B n (g_sk B n (g_nd B n (g_sk B n (g_nd B n (g_sk B n ((g_nl B n q) + q))))))) ≤ 57)) => ?_) (fun (c180_0_12 : 48 ≤ (g_bt B n (g_sk B n (g_nd B n (g_sk B n (g_nd B n (g_sk B n ((g_nl B n q) + q))))))) ∧ (g_bt B n (g_sk B n (g_nd B n (g_sk B n (g_nd B n (g_sk B n ((g_nl B n q) + q))))))) ≤ 57) (c180_1_12 : 0 ≤ g_nv B n (g_sk B n (g_nd B n (g_sk B n (g_nd B n (g_sk B n ((g_nl B n q) + q)))))) 0 ∧ g_nv B n (g_sk B n (g_nd B n (g_sk B n (g_nd B n (g_sk B n ((g_nl B n q) + q)))))) 0 ≤ 999) => ?_) (fun (c180_0_12 : 48 ≤ (g_bt B n (g_sk B n (g_nd B n (g_sk B n (g_nd B n (g_sk B n ((g_nl B n q) + q))))))) ∧ (g_bt B n (g_sk B n (g_nd B n (g_sk B n (g_nd B n (g_sk B n ((g_nl B n q) + q))))))) ≤ 57) (c180_1_12 : ¬ (0 ≤ g_nv B n (g_sk B n (g_nd B n (g_sk B n (g_nd B n (g_sk B n ((g_nl B n q) + q)))))) 0 ∧ g_nv B n (g_sk B n (g_nd B n (g_sk B n (g_nd B n (g_sk B n ((g_nl B n q) + q)))))) 0 ≤ 999)) => ?_)
                · show qX G F Q 0 0 183 [(2, qI ((g_nl B n q : Nat) : Int)), (3, qI (l : Int)), (0, .ref m), (1, qI (wh : Int))] [qI 0, qI ((24 + (13 * (l : Int))) + 9), .ref (m + 4)] sz T (q_ps I m (g_mk (g_sk B n (g_nd B n (g_sk B n (g_nd B n (g_sk B n ((g_nl B n q) + q)))))) 1 ((g_sk B n (g_nd B n (g_sk B n (g_nd B n (g_sk B n ((g_nl B n q) + q))))) : Nat) : Int) s.cd s.op s.on s.hp)) (q_row L (m + 4) (g_up (g_up (g_up (g_nms B n t l q (g_nl B n q)) (30 + 13 * l) ((g_nl B n q : Nat) : Int)) (31 + 13 * l) (g_nv B n (g_sk B n ((g_nl B n q) + q)) 0)) (32 + 13 * l) (g_nv B n (g_sk B n (g_nd B n (g_sk B n ((g_nl B n q) + q)))) 0))) P
                  refine q_i2l hF (by decide) dX8_readsLand_183 ?_
                  refine q_lastorev hF (n := 1243) (33 + 13 * l) hS.t4 (q_Ale hSA (by omega)) (by omega) (by omega) (by decide) dX8_readsLand_184 ?_
                  rw [q_row_u]
                  refine q_aload_n hF 2 rfl rfl dX8_readsLand_185 ?_
                  refine q_getA hF fl_RX8_24 rfl hS.t0 hS.p10 dX8_readsLand_186 ?_
                  refine q_iload_n hF 1 rfl rfl dX8_readsLand_189 ?_
                  refine q_bipush hF (n := 10) rfl dX8_readsLand_190 ?_
                  refine q_callS (kc := 0) (ks := 0) (mc' := 0) (ms' := 0) (h' := 0) (st := [.ref (m + 4)]) hF sl_RX8_176 rfl [qI (l : Int), qI 10] rfl rfl (by omega) (Nat.le_of_ble_eq_true rfl) dX8_readsLand_192 ?_
                  refine mX8_landAt ?_
                  skip
                  refine q_aload_n hF 2 rfl rfl dX8_readsLand_195 ?_
                  refine q_iconst hF dX8_readsLand_196 ?_
                  refine q_bipush hF (n := 50) rfl dX8_readsLand_197 ?_
                  refine q_callV (kc := 0) (ks := 0) (mc' := 0) (ms' := 0) (h' := 2) (st := [qI ((24 + (13 * (l : Int))) + 10), .ref (m + 4)]) hF vl_RX8_187 rfl [qI 1, qI 50] rfl rfl hS.t0 (by omega) (Nat.le_of_ble_eq_true rfl) dX8_readsLand_199 ?_
                  refine mX8_number0 hS hSA (show (1 : Int) ≠ 0 by decide) (show -2147483648 ≤ 1 ∧ 1 < 2147483648 by first | decide | omega | assumption) ?_
                  refine q_i2l hF (by decide) dX8_readsLand_202 ?_
                  refine q_lastorev hF (n := 1243) (34 + 13 * l) hS.t4 (q_Ale hSA (by omega)) (by omega) (by omega) (by decide) dX8_readsLand_203 ?_
                  rw [q_row_u]
                  refine q_aload_n hF 2 rfl rfl dX8_readsLand_204 ?_
                  refine q_getA hF fl_RX8_24 rfl hS.t0 hS.p10 dX8_readsLand_205 ?_
                  refine q_iconst hF dX8_readsLand_208 ?_
                  refine q_dup2 hF rfl rfl dX8_readsLand_209 ?_
                  refine q_laloadv hF (z := (g_up (g_up (g_up (g_up (g_up (g_nms B n t l q (g_nl B n q)) (30 + 13 * l) ((g_nl B n q : Nat) : Int)) (31 + 13 * l) (g_nv B n (g_sk B n ((g_nl B n q) + q)) 0)) (32 + 13 * l) (g_nv B n (g_sk B n (g_nd B n (g_sk B n ((g_nl B n q) + q)))) 0)) (33 + 13 * l) 0) (34 + 13 * l) 0) 0) (n := 1243) 0 hS.t4 rfl (by decide) (by decide) (q_row_s _ _ _ _) dX8_readsLand_210 ?_
                  refine q_lconst hF (z := 1) rfl dX8_readsLand_211 ?_
                  refine q_ladd hF dX8_readsLand_212 ?_
                  refine q_lastorev hF (n := 1243) 0 hS.t4 (q_Ale hSA (by omega)) rfl (by decide) (by decide) dX8_readsLand_213 ?_
                  rw [q_row_u]
                  refine q_return hF rfl dX8_readsLand_214 ?_
                  show Q (.inl none) sz T (q_ps I m (g_mk (g_sk B n (g_nd B n (g_sk B n (g_nd B n (g_sk B n ((g_nl B n q) + q)))))) 1 ((g_sk B n (g_nd B n (g_sk B n (g_nd B n (g_sk B n ((g_nl B n q) + q))))) : Nat) : Int) s.cd s.op s.on s.hp)) (q_row L (m + 4) (g_up (g_up (g_up (g_up (g_up (g_up (g_nms B n t l q (g_nl B n q)) (30 + 13 * l) ((g_nl B n q : Nat) : Int)) (31 + 13 * l) (g_nv B n (g_sk B n ((g_nl B n q) + q)) 0)) (32 + 13 * l) (g_nv B n (g_sk B n (g_nd B n (g_sk B n ((g_nl B n q) + q)))) 0)) (33 + 13 * l) 0) (34 + 13 * l) 0) 0 (((g_up (g_up (g_up (g_up (g_up (g_nms B n t l q (g_nl B n q)) (30 + 13 * l) ((g_nl B n q : Nat) : Int)) (31 + 13 * l) (g_nv B n (g_sk B n ((g_nl B n q) + q)) 0)) (32 + 13 * l) (g_nv B n (g_sk B n (g_nd B n (g_sk B n ((g_nl B n q) + q)))) 0)) (33 + 13 * l) 0) (34 + 13 * l) 0) 0) + 1))) P
                  exact k1 1 (g_sk B n (g_nd B n (g_sk B n (g_nd B n (g_sk B n ((g_nl B n q) + q)))))) _ _ (by rw [← hx2, g_rdLand, if_neg c10, if_pos c20_0_1, if_pos c45, g_nu, if_pos c140_0_5, if_pos c140_1_5, g_nu, if_pos c160_0_9, if_pos c160_1_9, g_nu, if_neg c180_0_12]) (by decide) rfl rfl (show g_sk B n (g_nd B n (g_sk B n (g_nd B n (g_sk B n ((g_nl B n q) + q))))) ≤ n by omega)
                · show qX G F Q 0 0 183 [(2, qI ((g_nl B n q : Nat) : Int)), (3, qI (l : Int)), (0, .ref m), (1, qI (wh : Int))] [qI (g_nv B n (g_sk B n (g_nd B n (g_sk B n (g_nd B n (g_sk B n ((g_nl B n q) + q)))))) 0), qI ((24 + (13 * (l : Int))) + 9), .ref (m + 4)] sz T (q_ps I m (g_mk (g_nd B n (g_sk B n (g_nd B n (g_sk B n (g_nd B n (g_sk B n ((g_nl B n q) + q))))))) s.fl s.fa s.cd s.op s.on s.hp)) (q_row L (m + 4) (g_up (g_up (g_up (g_nms B n t l q (g_nl B n q)) (30 + 13 * l) ((g_nl B n q : Nat) : Int)) (31 + 13 * l) (g_nv B n (g_sk B n ((g_nl B n q) + q)) 0)) (32 + 13 * l) (g_nv B n (g_sk B n (g_nd B n (g_sk B n ((g_nl B n q) + q)))) 0))) P
                  refine q_i2l hF (by omega) dX8_readsLand_183 ?_
                  refine q_lastorev hF (n := 1243) (33 + 13 * l) hS.t4 (q_Ale hSA (by omega)) (by omega) (by omega) (by decide) dX8_readsLand_184 ?_
                  rw [q_row_u]
                  refine q_aload_n hF 2 rfl rfl dX8_readsLand_185 ?_
                  refine q_getA hF fl_RX8_24 rfl hS.t0 hS.p10 dX8_readsLand_186 ?_
                  refine q_iload_n hF 1 rfl rfl dX8_readsLand_189 ?_
                  refine q_bipush hF (n := 10) rfl dX8_readsLand_190 ?_
                  refine q_callS (kc := 0) (ks := 0) (mc' := 0) (ms' := 0) (h' := 0) (st := [.ref (m + 4)]) hF sl_RX8_176 rfl [qI (l : Int), qI 10] rfl rfl (by omega) (Nat.le_of_ble_eq_true rfl) dX8_readsLand_192 ?_
                  refine mX8_landAt ?_
                  have hsr4 := g_sk_r (B := B) (n := n) (k := (g_nd B n (g_sk B n (g_nd B n (g_sk B n (g_nd B n (g_sk B n ((g_nl B n q) + q)))))))) (by omega)
                  have hnd4 := g_nd_r (B := B) (n := n) (k := g_sk B n (g_nd B n (g_sk B n (g_nd B n (g_sk B n (g_nd B n (g_sk B n ((g_nl B n q) + q)))))))) (by omega)
                  have hnv4 := g_nv_r (B := B) (n := n) _ (g_sk B n (g_nd B n (g_sk B n (g_nd B n (g_sk B n (g_nd B n (g_sk B n ((g_nl B n q) + q)))))))) 0 (Nat.lt_succ_self _) (by decide) (by decide)
                  refine q_aload_n hF 2 rfl rfl dX8_readsLand_195 ?_
                  refine q_iconst hF dX8_readsLand_196 ?_
                  refine q_bipush hF (n := 50) rfl dX8_readsLand_197 ?_
                  refine q_callV (kc := 0) (ks := 0) (mc' := 0) (ms' := 0) (h' := 2) (st := [qI ((24 + (13 * (l : Int))) + 10), .ref (m + 4)]) hF vl_RX8_187 rfl [qI 1, qI 50] rfl rfl hS.t0 (by omega) (Nat.le_of_ble_eq_true rfl) dX8_readsLand_199 ?_
                  refine mX8_numberPQ hS hSA hB (by first | decide | omega) (by first | decide | omega) (show (g_nd B n (g_sk B n (g_nd B n (g_sk B n (g_nd B n (g_sk B n ((g_nl B n q) + q))))))) ≤ n by omega) hfl rfl (fun (c199_0_14 : ¬ (48 ≤ (g_bt B n (g_sk B n (g_nd B n (g_sk B n (g_nd B n (g_sk B n (g_nd B n (g_sk B n ((g_nl B n q) + q))))))))) ∧ (g_bt B n (g_sk B n (g_nd B n (g_sk B n (g_nd B n (g_sk B n (g_nd B n (g_sk B n ((g_nl B n q) + q))))))))) ≤ 57)) => ?_) (fun (c199_0_14 : 48 ≤ (g_bt B n (g_sk B n (g_nd B n (g_sk B n (g_nd B n (g_sk B n (g_nd B n (g_sk B n ((g_nl B n q) + q))))))))) ∧ (g_bt B n (g_sk B n (g_nd B n (g_sk B n (g_nd B n (g_sk B n (g_nd B n (g_sk B n ((g_nl B n q) + q))))))))) ≤ 57) (c199_1_14 : 1 ≤ g_nv B n (g_sk B n (g_nd B n (g_sk B n (g_nd B n (g_sk B n (g_nd B n (g_sk B n ((g_nl B n q) + q)))))))) 0 ∧ g_nv B n (g_sk B n (g_nd B n (g_sk B n (g_nd B n (g_sk B n (g_nd B n (g_sk B n ((g_nl B n q) + q)))))))) 0 ≤ 50) => ?_) (fun (c199_0_14 : 48 ≤ (g_bt B n (g_sk B n (g_nd B n (g_sk B n (g_nd B n (g_sk B n (g_nd B n (g_sk B n ((g_nl B n q) + q))))))))) ∧ (g_bt B n (g_sk B n (g_nd B n (g_sk B n (g_nd B n (g_sk B n (g_nd B n (g_sk B n ((g_nl B n q) + q))))))))) ≤ 57) (c199_1_14 : ¬ (1 ≤ g_nv B n (g_sk B n (g_nd B n (g_sk B n (g_nd B n (g_sk B n (g_nd B n (g_sk B n ((g_nl B n q) + q)))))))) 0 ∧ g_nv B n (g_sk B n (g_nd B n (g_sk B n (g_nd B n (g_sk B n (g_nd B n (g_sk B n ((g_nl B n q) + q)))))))) 0 ≤ 50)) => ?_)
                  · show qX G F Q 0 0 202 [(2, qI ((g_nl B n q : Nat) : Int)), (3, qI (l : Int)), (0, .ref m), (1, qI (wh : Int))] [qI 0, qI ((24 + (13 * (l : Int))) + 10), .ref (m + 4)] sz T (q_ps I m (g_mk (g_sk B n (g_nd B n (g_sk B n (g_nd B n (g_sk B n (g_nd B n (g_sk B n ((g_nl B n q) + q)))))))) 1 ((g_sk B n (g_nd B n (g_sk B n (g_nd B n (g_sk B n (g_nd B n (g_sk B n ((g_nl B n q) + q))))))) : Nat) : Int) s.cd s.op s.on s.hp)) (q_row L (m + 4) (g_up (g_up (g_up (g_up (g_nms B n t l q (g_nl B n q)) (30 + 13 * l) ((g_nl B n q : Nat) : Int)) (31 + 13 * l) (g_nv B n (g_sk B n ((g_nl B n q) + q)) 0)) (32 + 13 * l) (g_nv B n (g_sk B n (g_nd B n (g_sk B n ((g_nl B n q) + q)))) 0)) (33 + 13 * l) (g_nv B n (g_sk B n (g_nd B n (g_sk B n (g_nd B n (g_sk B n ((g_nl B n q) + q)))))) 0))) P
                    refine q_i2l hF (by decide) dX8_readsLand_202 ?_
                    refine q_lastorev hF (n := 1243) (34 + 13 * l) hS.t4 (q_Ale hSA (by omega)) (by omega) (by omega) (by decide) dX8_readsLand_203 ?_
                    rw [q_row_u]
                    refine q_aload_n hF 2 rfl rfl dX8_readsLand_204 ?_
                    refine q_getA hF fl_RX8_24 rfl hS.t0 hS.p10 dX8_readsLand_205 ?_
                    refine q_iconst hF dX8_readsLand_208 ?_
                    refine q_dup2 hF rfl rfl dX8_readsLand_209 ?_
                    refine q_laloadv hF (z := (g_up (g_up (g_up (g_up (g_up (g_nms B n t l q (g_nl B n q)) (30 + 13 * l) ((g_nl B n q : Nat) : Int)) (31 + 13 * l) (g_nv B n (g_sk B n ((g_nl B n q) + q)) 0)) (32 + 13 * l) (g_nv B n (g_sk B n (g_nd B n (g_sk B n ((g_nl B n q) + q)))) 0)) (33 + 13 * l) (g_nv B n (g_sk B n (g_nd B n (g_sk B n (g_nd B n (g_sk B n ((g_nl B n q) + q)))))) 0)) (34 + 13 * l) 0) 0) (n := 1243) 0 hS.t4 rfl (by decide) (by decide) (q_row_s _ _ _ _) dX8_readsLand_210 ?_
                    refine q_lconst hF (z := 1) rfl dX8_readsLand_211 ?_
                    refine q_ladd hF dX8_readsLand_212 ?_
                    refine q_lastorev hF (n := 1243) 0 hS.t4 (q_Ale hSA (by omega)) rfl (by decide) (by decide) dX8_readsLand_213 ?_
                    rw [q_row_u]
                    refine q_return hF rfl dX8_readsLand_214 ?_
                    show Q (.inl none) sz T (q_ps I m (g_mk (g_sk B n (g_nd B n (g_sk B n (g_nd B n (g_sk B n (g_nd B n (g_sk B n ((g_nl B n q) + q)))))))) 1 ((g_sk B n (g_nd B n (g_sk B n (g_nd B n (g_sk B n (g_nd B n (g_sk B n ((g_nl B n q) + q))))))) : Nat) : Int) s.cd s.op s.on s.hp)) (q_row L (m + 4) (g_up (g_up (g_up (g_up (g_up (g_up (g_nms B n t l q (g_nl B n q)) (30 + 13 * l) ((g_nl B n q : Nat) : Int)) (31 + 13 * l) (g_nv B n (g_sk B n ((g_nl B n q) + q)) 0)) (32 + 13 * l) (g_nv B n (g_sk B n (g_nd B n (g_sk B n ((g_nl B n q) + q)))) 0)) (33 + 13 * l) (g_nv B n (g_sk B n (g_nd B n (g_sk B n (g_nd B n (g_sk B n ((g_nl B n q) + q)))))) 0)) (34 + 13 * l) 0) 0 (((g_up (g_up (g_up (g_up (g_up (g_nms B n t l q (g_nl B n q)) (30 + 13 * l) ((g_nl B n q : Nat) : Int)) (31 + 13 * l) (g_nv B n (g_sk B n ((g_nl B n q) + q)) 0)) (32 + 13 * l) (g_nv B n (g_sk B n (g_nd B n (g_sk B n ((g_nl B n q) + q)))) 0)) (33 + 13 * l) (g_nv B n (g_sk B n (g_nd B n (g_sk B n (g_nd B n (g_sk B n ((g_nl B n q) + q)))))) 0)) (34 + 13 * l) 0) 0) + 1))) P
                    exact k1 1 (g_sk B n (g_nd B n (g_sk B n (g_nd B n (g_sk B n (g_nd B n (g_sk B n ((g_nl B n q) + q)))))))) _ _ (by rw [← hx2, g_rdLand, if_neg c10, if_pos c20_0_1, if_pos c45, g_nu, if_pos c140_0_5, if_pos c140_1_5, g_nu, if_pos c160_0_9, if_pos c160_1_9, g_nu, if_pos c180_0_12, if_pos c180_1_12, g_nu, if_neg c199_0_14]) (by decide) rfl rfl (show g_sk B n (g_nd B n (g_sk B n (g_nd B n (g_sk B n (g_nd B n (g_sk B n ((g_nl B n q) + q))))))) ≤ n by omega)
                  · show qX G F Q 0 0 202 [(2, qI ((g_nl B n q : Nat) : Int)), (3, qI (l : Int)), (0, .ref m), (1, qI (wh : Int))] [qI (g_nv B n (g_sk B n (g_nd B n (g_sk B n (g_nd B n (g_sk B n (g_nd B n (g_sk B n ((g_nl B n q) + q)))))))) 0), qI ((24 + (13 * (l : Int))) + 10), .ref (m + 4)] sz T (q_ps I m (g_mk (g_nd B n (g_sk B n (g_nd B n (g_sk B n (g_nd B n (g_sk B n (g_nd B n (g_sk B n ((g_nl B n q) + q))))))))) s.fl s.fa s.cd s.op s.on s.hp)) (q_row L (m + 4) (g_up (g_up (g_up (g_up (g_nms B n t l q (g_nl B n q)) (30 + 13 * l) ((g_nl B n q : Nat) : Int)) (31 + 13 * l) (g_nv B n (g_sk B n ((g_nl B n q) + q)) 0)) (32 + 13 * l) (g_nv B n (g_sk B n (g_nd B n (g_sk B n ((g_nl B n q) + q)))) 0)) (33 + 13 * l) (g_nv B n (g_sk B n (g_nd B n (g_sk B n (g_nd B n (g_sk B n ((g_nl B n q) + q)))))) 0))) P
                    refine q_i2l hF (by omega) dX8_readsLand_202 ?_
                    refine q_lastorev hF (n := 1243) (34 + 13 * l) hS.t4 (q_Ale hSA (by omega)) (by omega) (by omega) (by decide) dX8_readsLand_203 ?_
                    rw [q_row_u]
                    refine q_aload_n hF 2 rfl rfl dX8_readsLand_204 ?_
                    refine q_getA hF fl_RX8_24 rfl hS.t0 hS.p10 dX8_readsLand_205 ?_
                    refine q_iconst hF dX8_readsLand_208 ?_
                    refine q_dup2 hF rfl rfl dX8_readsLand_209 ?_
                    refine q_laloadv hF (z := (g_up (g_up (g_up (g_up (g_up (g_nms B n t l q (g_nl B n q)) (30 + 13 * l) ((g_nl B n q : Nat) : Int)) (31 + 13 * l) (g_nv B n (g_sk B n ((g_nl B n q) + q)) 0)) (32 + 13 * l) (g_nv B n (g_sk B n (g_nd B n (g_sk B n ((g_nl B n q) + q)))) 0)) (33 + 13 * l) (g_nv B n (g_sk B n (g_nd B n (g_sk B n (g_nd B n (g_sk B n ((g_nl B n q) + q)))))) 0)) (34 + 13 * l) (g_nv B n (g_sk B n (g_nd B n (g_sk B n (g_nd B n (g_sk B n (g_nd B n (g_sk B n ((g_nl B n q) + q)))))))) 0)) 0) (n := 1243) 0 hS.t4 rfl (by decide) (by decide) (q_row_s _ _ _ _) dX8_readsLand_210 ?_
                    refine q_lconst hF (z := 1) rfl dX8_readsLand_211 ?_
                    refine q_ladd hF dX8_readsLand_212 ?_
                    refine q_lastorev hF (n := 1243) 0 hS.t4 (q_Ale hSA (by omega)) rfl (by decide) (by decide) dX8_readsLand_213 ?_
                    rw [q_row_u]
                    refine q_return hF rfl dX8_readsLand_214 ?_
                    exact k0 _ _ (by rw [← hx2, g_rdLand, if_neg c10, if_pos c20_0_1, if_pos c45, g_nu, if_pos c140_0_5, if_pos c140_1_5, g_nu, if_pos c160_0_9, if_pos c160_1_9, g_nu, if_pos c180_0_12, if_pos c180_1_12, g_nu, if_pos c199_0_14, if_pos c199_1_14]; rfl)
                  · show qX G F Q 0 0 202 [(2, qI ((g_nl B n q : Nat) : Int)), (3, qI (l : Int)), (0, .ref m), (1, qI (wh : Int))] [qI (g_nv B n (g_sk B n (g_nd B n (g_sk B n (g_nd B n (g_sk B n (g_nd B n (g_sk B n ((g_nl B n q) + q)))))))) 0), qI ((24 + (13 * (l : Int))) + 10), .ref (m + 4)] sz T (q_ps I m (g_mk (g_nd B n (g_sk B n (g_nd B n (g_sk B n (g_nd B n (g_sk B n (g_nd B n (g_sk B n ((g_nl B n q) + q))))))))) 2 ((g_sk B n (g_nd B n (g_sk B n (g_nd B n (g_sk B n (g_nd B n (g_sk B n ((g_nl B n q) + q))))))) : Nat) : Int) s.cd s.op s.on s.hp)) (q_row L (m + 4) (g_up (g_up (g_up (g_up (g_nms B n t l q (g_nl B n q)) (30 + 13 * l) ((g_nl B n q : Nat) : Int)) (31 + 13 * l) (g_nv B n (g_sk B n ((g_nl B n q) + q)) 0)) (32 + 13 * l) (g_nv B n (g_sk B n (g_nd B n (g_sk B n ((g_nl B n q) + q)))) 0)) (33 + 13 * l) (g_nv B n (g_sk B n (g_nd B n (g_sk B n (g_nd B n (g_sk B n ((g_nl B n q) + q)))))) 0))) P
                    refine q_i2l hF (by omega) dX8_readsLand_202 ?_
                    refine q_lastorev hF (n := 1243) (34 + 13 * l) hS.t4 (q_Ale hSA (by omega)) (by omega) (by omega) (by decide) dX8_readsLand_203 ?_
                    rw [q_row_u]
                    refine q_aload_n hF 2 rfl rfl dX8_readsLand_204 ?_
                    refine q_getA hF fl_RX8_24 rfl hS.t0 hS.p10 dX8_readsLand_205 ?_
                    refine q_iconst hF dX8_readsLand_208 ?_
                    refine q_dup2 hF rfl rfl dX8_readsLand_209 ?_
                    refine q_laloadv hF (z := (g_up (g_up (g_up (g_up (g_up (g_nms B n t l q (g_nl B n q)) (30 + 13 * l) ((g_nl B n q : Nat) : Int)) (31 + 13 * l) (g_nv B n (g_sk B n ((g_nl B n q) + q)) 0)) (32 + 13 * l) (g_nv B n (g_sk B n (g_nd B n (g_sk B n ((g_nl B n q) + q)))) 0)) (33 + 13 * l) (g_nv B n (g_sk B n (g_nd B n (g_sk B n (g_nd B n (g_sk B n ((g_nl B n q) + q)))))) 0)) (34 + 13 * l) (g_nv B n (g_sk B n (g_nd B n (g_sk B n (g_nd B n (g_sk B n (g_nd B n (g_sk B n ((g_nl B n q) + q)))))))) 0)) 0) (n := 1243) 0 hS.t4 rfl (by decide) (by decide) (q_row_s _ _ _ _) dX8_readsLand_210 ?_
                    refine q_lconst hF (z := 1) rfl dX8_readsLand_211 ?_
                    refine q_ladd hF dX8_readsLand_212 ?_
                    refine q_lastorev hF (n := 1243) 0 hS.t4 (q_Ale hSA (by omega)) rfl (by decide) (by decide) dX8_readsLand_213 ?_
                    rw [q_row_u]
                    refine q_return hF rfl dX8_readsLand_214 ?_
                    show Q (.inl none) sz T (q_ps I m (g_mk (g_nd B n (g_sk B n (g_nd B n (g_sk B n (g_nd B n (g_sk B n (g_nd B n (g_sk B n ((g_nl B n q) + q))))))))) 2 ((g_sk B n (g_nd B n (g_sk B n (g_nd B n (g_sk B n (g_nd B n (g_sk B n ((g_nl B n q) + q))))))) : Nat) : Int) s.cd s.op s.on s.hp)) (q_row L (m + 4) (g_up (g_up (g_up (g_up (g_up (g_up (g_nms B n t l q (g_nl B n q)) (30 + 13 * l) ((g_nl B n q : Nat) : Int)) (31 + 13 * l) (g_nv B n (g_sk B n ((g_nl B n q) + q)) 0)) (32 + 13 * l) (g_nv B n (g_sk B n (g_nd B n (g_sk B n ((g_nl B n q) + q)))) 0)) (33 + 13 * l) (g_nv B n (g_sk B n (g_nd B n (g_sk B n (g_nd B n (g_sk B n ((g_nl B n q) + q)))))) 0)) (34 + 13 * l) (g_nv B n (g_sk B n (g_nd B n (g_sk B n (g_nd B n (g_sk B n (g_nd B n (g_sk B n ((g_nl B n q) + q)))))))) 0)) 0 (((g_up (g_up (g_up (g_up (g_up (g_nms B n t l q (g_nl B n q)) (30 + 13 * l) ((g_nl B n q : Nat) : Int)) (31 + 13 * l) (g_nv B n (g_sk B n ((g_nl B n q) + q)) 0)) (32 + 13 * l) (g_nv B n (g_sk B n (g_nd B n (g_sk B n ((g_nl B n q) + q)))) 0)) (33 + 13 * l) (g_nv B n (g_sk B n (g_nd B n (g_sk B n (g_nd B n (g_sk B n ((g_nl B n q) + q)))))) 0)) (34 + 13 * l) (g_nv B n (g_sk B n (g_nd B n (g_sk B n (g_nd B n (g_sk B n (g_nd B n (g_sk B n ((g_nl B n q) + q)))))))) 0)) 0) + 1))) P
                    exact k1 2 (g_sk B n (g_nd B n (g_sk B n (g_nd B n (g_sk B n (g_nd B n (g_sk B n ((g_nl B n q) + q)))))))) _ _ (by rw [← hx2, g_rdLand, if_neg c10, if_pos c20_0_1, if_pos c45, g_nu, if_pos c140_0_5, if_pos c140_1_5, g_nu, if_pos c160_0_9, if_pos c160_1_9, g_nu, if_pos c180_0_12, if_pos c180_1_12, g_nu, if_pos c199_0_14, if_neg c199_1_14]) (by decide) rfl rfl (show g_nd B n (g_sk B n (g_nd B n (g_sk B n (g_nd B n (g_sk B n (g_nd B n (g_sk B n ((g_nl B n q) + q)))))))) ≤ n by omega)
                · show qX G F Q 0 0 183 [(2, qI ((g_nl B n q : Nat) : Int)), (3, qI (l : Int)), (0, .ref m), (1, qI (wh : Int))] [qI (g_nv B n (g_sk B n (g_nd B n (g_sk B n (g_nd B n (g_sk B n ((g_nl B n q) + q)))))) 0), qI ((24 + (13 * (l : Int))) + 9), .ref (m + 4)] sz T (q_ps I m (g_mk (g_nd B n (g_sk B n (g_nd B n (g_sk B n (g_nd B n (g_sk B n ((g_nl B n q) + q))))))) 2 ((g_sk B n (g_nd B n (g_sk B n (g_nd B n (g_sk B n ((g_nl B n q) + q))))) : Nat) : Int) s.cd s.op s.on s.hp)) (q_row L (m + 4) (g_up (g_up (g_up (g_nms B n t l q (g_nl B n q)) (30 + 13 * l) ((g_nl B n q : Nat) : Int)) (31 + 13 * l) (g_nv B n (g_sk B n ((g_nl B n q) + q)) 0)) (32 + 13 * l) (g_nv B n (g_sk B n (g_nd B n (g_sk B n ((g_nl B n q) + q)))) 0))) P
                  refine q_i2l hF (by omega) dX8_readsLand_183 ?_
                  refine q_lastorev hF (n := 1243) (33 + 13 * l) hS.t4 (q_Ale hSA (by omega)) (by omega) (by omega) (by decide) dX8_readsLand_184 ?_
                  rw [q_row_u]
                  refine q_aload_n hF 2 rfl rfl dX8_readsLand_185 ?_
                  refine q_getA hF fl_RX8_24 rfl hS.t0 hS.p10 dX8_readsLand_186 ?_
                  refine q_iload_n hF 1 rfl rfl dX8_readsLand_189 ?_
                  refine q_bipush hF (n := 10) rfl dX8_readsLand_190 ?_
                  refine q_callS (kc := 0) (ks := 0) (mc' := 0) (ms' := 0) (h' := 0) (st := [.ref (m + 4)]) hF sl_RX8_176 rfl [qI (l : Int), qI 10] rfl rfl (by omega) (Nat.le_of_ble_eq_true rfl) dX8_readsLand_192 ?_
                  refine mX8_landAt ?_
                  skip
                  refine q_aload_n hF 2 rfl rfl dX8_readsLand_195 ?_
                  refine q_iconst hF dX8_readsLand_196 ?_
                  refine q_bipush hF (n := 50) rfl dX8_readsLand_197 ?_
                  refine q_callV (kc := 0) (ks := 0) (mc' := 0) (ms' := 0) (h' := 2) (st := [qI ((24 + (13 * (l : Int))) + 10), .ref (m + 4)]) hF vl_RX8_187 rfl [qI 1, qI 50] rfl rfl hS.t0 (by omega) (Nat.le_of_ble_eq_true rfl) dX8_readsLand_199 ?_
                  refine mX8_number0 hS hSA (show (2 : Int) ≠ 0 by decide) (show -2147483648 ≤ 2 ∧ 2 < 2147483648 by first | decide | omega | assumption) ?_
                  refine q_i2l hF (by decide) dX8_readsLand_202 ?_
                  refine q_lastorev hF (n := 1243) (34 + 13 * l) hS.t4 (q_Ale hSA (by omega)) (by omega) (by omega) (by decide) dX8_readsLand_203 ?_
                  rw [q_row_u]
                  refine q_aload_n hF 2 rfl rfl dX8_readsLand_204 ?_
                  refine q_getA hF fl_RX8_24 rfl hS.t0 hS.p10 dX8_readsLand_205 ?_
                  refine q_iconst hF dX8_readsLand_208 ?_
                  refine q_dup2 hF rfl rfl dX8_readsLand_209 ?_
                  refine q_laloadv hF (z := (g_up (g_up (g_up (g_up (g_up (g_nms B n t l q (g_nl B n q)) (30 + 13 * l) ((g_nl B n q : Nat) : Int)) (31 + 13 * l) (g_nv B n (g_sk B n ((g_nl B n q) + q)) 0)) (32 + 13 * l) (g_nv B n (g_sk B n (g_nd B n (g_sk B n ((g_nl B n q) + q)))) 0)) (33 + 13 * l) (g_nv B n (g_sk B n (g_nd B n (g_sk B n (g_nd B n (g_sk B n ((g_nl B n q) + q)))))) 0)) (34 + 13 * l) 0) 0) (n := 1243) 0 hS.t4 rfl (by decide) (by decide) (q_row_s _ _ _ _) dX8_readsLand_210 ?_
                  refine q_lconst hF (z := 1) rfl dX8_readsLand_211 ?_
                  refine q_ladd hF dX8_readsLand_212 ?_
                  refine q_lastorev hF (n := 1243) 0 hS.t4 (q_Ale hSA (by omega)) rfl (by decide) (by decide) dX8_readsLand_213 ?_
                  rw [q_row_u]
                  refine q_return hF rfl dX8_readsLand_214 ?_
                  show Q (.inl none) sz T (q_ps I m (g_mk (g_nd B n (g_sk B n (g_nd B n (g_sk B n (g_nd B n (g_sk B n ((g_nl B n q) + q))))))) 2 ((g_sk B n (g_nd B n (g_sk B n (g_nd B n (g_sk B n ((g_nl B n q) + q))))) : Nat) : Int) s.cd s.op s.on s.hp)) (q_row L (m + 4) (g_up (g_up (g_up (g_up (g_up (g_up (g_nms B n t l q (g_nl B n q)) (30 + 13 * l) ((g_nl B n q : Nat) : Int)) (31 + 13 * l) (g_nv B n (g_sk B n ((g_nl B n q) + q)) 0)) (32 + 13 * l) (g_nv B n (g_sk B n (g_nd B n (g_sk B n ((g_nl B n q) + q)))) 0)) (33 + 13 * l) (g_nv B n (g_sk B n (g_nd B n (g_sk B n (g_nd B n (g_sk B n ((g_nl B n q) + q)))))) 0)) (34 + 13 * l) 0) 0 (((g_up (g_up (g_up (g_up (g_up (g_nms B n t l q (g_nl B n q)) (30 + 13 * l) ((g_nl B n q : Nat) : Int)) (31 + 13 * l) (g_nv B n (g_sk B n ((g_nl B n q) + q)) 0)) (32 + 13 * l) (g_nv B n (g_sk B n (g_nd B n (g_sk B n ((g_nl B n q) + q)))) 0)) (33 + 13 * l) (g_nv B n (g_sk B n (g_nd B n (g_sk B n (g_nd B n (g_sk B n ((g_nl B n q) + q)))))) 0)) (34 + 13 * l) 0) 0) + 1))) P
                  exact k1 2 (g_sk B n (g_nd B n (g_sk B n (g_nd B n (g_sk B n ((g_nl B n q) + q)))))) _ _ (by rw [← hx2, g_rdLand, if_neg c10, if_pos c20_0_1, if_pos c45, g_nu, if_pos c140_0_5, if_pos c140_1_5, g_nu, if_pos c160_0_9, if_pos c160_1_9, g_nu, if_pos c180_0_12, if_neg c180_1_12]) (by decide) rfl rfl (show g_nd B n (g_sk B n (g_nd B n (g_sk B n (g_nd B n (g_sk B n ((g_nl B n q) + q)))))) ≤ n by omega)
              · show qX G F Q 0 0 163 [(2, qI ((g_nl B n q : Nat) : Int)), (3, qI (l : Int)), (0, .ref m), (1, qI (wh : Int))] [qI (g_nv B n (g_sk B n (g_nd B n (g_sk B n ((g_nl B n q) + q)))) 0), qI ((24 + (13 * (l : Int))) + 8), .ref (m + 4)] sz T (q_ps I m (g_mk (g_nd B n (g_sk B n (g_nd B n (g_sk B n ((g_nl B n q) + q))))) 2 ((g_sk B n (g_nd B n (g_sk B n ((g_nl B n q) + q))) : Nat) : Int) s.cd s.op s.on s.hp)) (q_row L (m + 4) (g_up (g_up (g_nms B n t l q (g_nl B n q)) (30 + 13 * l) ((g_nl B n q : Nat) : Int)) (31 + 13 * l) (g_nv B n (g_sk B n ((g_nl B n q) + q)) 0))) P
                refine q_i2l hF (by omega) dX8_readsLand_163 ?_
                refine q_lastorev hF (n := 1243) (32 + 13 * l) hS.t4 (q_Ale hSA (by omega)) (by omega) (by omega) (by decide) dX8_readsLand_164 ?_
                rw [q_row_u]
                refine q_aload_n hF 2 rfl rfl dX8_readsLand_165 ?_
                refine q_getA hF fl_RX8_24 rfl hS.t0 hS.p10 dX8_readsLand_166 ?_
                refine q_iload_n hF 1 rfl rfl dX8_readsLand_169 ?_
                refine q_bipush hF (n := 9) rfl dX8_readsLand_170 ?_
                refine q_callS (kc := 0) (ks := 0) (mc' := 0) (ms' := 0) (h' := 0) (st := [.ref (m + 4)]) hF sl_RX8_176 rfl [qI (l : Int), qI 9] rfl rfl (by omega) (Nat.le_of_ble_eq_true rfl) dX8_readsLand_172 ?_
                refine mX8_landAt ?_
                skip
                refine q_aload_n hF 2 rfl rfl dX8_readsLand_175 ?_
                refine q_iconst hF dX8_readsLand_176 ?_
                refine q_sipush hF (n := 999) rfl dX8_readsLand_177 ?_
                refine q_callV (kc := 0) (ks := 0) (mc' := 0) (ms' := 0) (h' := 2) (st := [qI ((24 + (13 * (l : Int))) + 9), .ref (m + 4)]) hF vl_RX8_187 rfl [qI 0, qI 999] rfl rfl hS.t0 (by omega) (Nat.le_of_ble_eq_true rfl) dX8_readsLand_180 ?_
                refine mX8_number0 hS hSA (show (2 : Int) ≠ 0 by decide) (show -2147483648 ≤ 2 ∧ 2 < 2147483648 by first | decide | omega | assumption) ?_
                refine q_i2l hF (by decide) dX8_readsLand_183 ?_
                refine q_lastorev hF (n := 1243) (33 + 13 * l) hS.t4 (q_Ale hSA (by omega)) (by omega) (by omega) (by decide) dX8_readsLand_184 ?_
                rw [q_row_u]
                refine q_aload_n hF 2 rfl rfl dX8_readsLand_185 ?_
                refine q_getA hF fl_RX8_24 rfl hS.t0 hS.p10 dX8_readsLand_186 ?_
                refine q_iload_n hF 1 rfl rfl dX8_readsLand_189 ?_
                refine q_bipush hF (n := 10) rfl dX8_readsLand_190 ?_
                refine q_callS (kc := 0) (ks := 0) (mc' := 0) (ms' := 0) (h' := 0) (st := [.ref (m + 4)]) hF sl_RX8_176 rfl [qI (l : Int), qI 10] rfl rfl (by omega) (Nat.le_of_ble_eq_true rfl) dX8_readsLand_192 ?_
                refine mX8_landAt ?_
                skip
                refine q_aload_n hF 2 rfl rfl dX8_readsLand_195 ?_
                refine q_iconst hF dX8_readsLand_196 ?_
                refine q_bipush hF (n := 50) rfl dX8_readsLand_197 ?_
                refine q_callV (kc := 0) (ks := 0) (mc' := 0) (ms' := 0) (h' := 2) (st := [qI ((24 + (13 * (l : Int))) + 10), .ref (m + 4)]) hF vl_RX8_187 rfl [qI 1, qI 50] rfl rfl hS.t0 (by omega) (Nat.le_of_ble_eq_true rfl) dX8_readsLand_199 ?_
                refine mX8_number0 hS hSA (show (2 : Int) ≠ 0 by decide) (show -2147483648 ≤ 2 ∧ 2 < 2147483648 by first | decide | omega | assumption) ?_
                refine q_i2l hF (by decide) dX8_readsLand_202 ?_
                refine q_lastorev hF (n := 1243) (34 + 13 * l) hS.t4 (q_Ale hSA (by omega)) (by omega) (by omega) (by decide) dX8_readsLand_203 ?_
                rw [q_row_u]
                refine q_aload_n hF 2 rfl rfl dX8_readsLand_204 ?_
                refine q_getA hF fl_RX8_24 rfl hS.t0 hS.p10 dX8_readsLand_205 ?_
                refine q_iconst hF dX8_readsLand_208 ?_
                refine q_dup2 hF rfl rfl dX8_readsLand_209 ?_
                refine q_laloadv hF (z := (g_up (g_up (g_up (g_up (g_up (g_nms B n t l q (g_nl B n q)) (30 + 13 * l) ((g_nl B n q : Nat) : Int)) (31 + 13 * l) (g_nv B n (g_sk B n ((g_nl B n q) + q)) 0)) (32 + 13 * l) (g_nv B n (g_sk B n (g_nd B n (g_sk B n ((g_nl B n q) + q)))) 0)) (33 + 13 * l) 0) (34 + 13 * l) 0) 0) (n := 1243) 0 hS.t4 rfl (by decide) (by decide) (q_row_s _ _ _ _) dX8_readsLand_210 ?_
                refine q_lconst hF (z := 1) rfl dX8_readsLand_211 ?_
                refine q_ladd hF dX8_readsLand_212 ?_
                refine q_lastorev hF (n := 1243) 0 hS.t4 (q_Ale hSA (by omega)) rfl (by decide) (by decide) dX8_readsLand_213 ?_
                rw [q_row_u]
                refine q_return hF rfl dX8_readsLand_214 ?_
                show Q (.inl none) sz T (q_ps I m (g_mk (g_nd B n (g_sk B n (g_nd B n (g_sk B n ((g_nl B n q) + q))))) 2 ((g_sk B n (g_nd B n (g_sk B n ((g_nl B n q) + q))) : Nat) : Int) s.cd s.op s.on s.hp)) (q_row L (m + 4) (g_up (g_up (g_up (g_up (g_up (g_up (g_nms B n t l q (g_nl B n q)) (30 + 13 * l) ((g_nl B n q : Nat) : Int)) (31 + 13 * l) (g_nv B n (g_sk B n ((g_nl B n q) + q)) 0)) (32 + 13 * l) (g_nv B n (g_sk B n (g_nd B n (g_sk B n ((g_nl B n q) + q)))) 0)) (33 + 13 * l) 0) (34 + 13 * l) 0) 0 (((g_up (g_up (g_up (g_up (g_up (g_nms B n t l q (g_nl B n q)) (30 + 13 * l) ((g_nl B n q : Nat) : Int)) (31 + 13 * l) (g_nv B n (g_sk B n ((g_nl B n q) + q)) 0)) (32 + 13 * l) (g_nv B n (g_sk B n (g_nd B n (g_sk B n ((g_nl B n q) + q)))) 0)) (33 + 13 * l) 0) (34 + 13 * l) 0) 0) + 1))) P
                exact k1 2 (g_sk B n (g_nd B n (g_sk B n ((g_nl B n q) + q)))) _ _ (by rw [← hx2, g_rdLand, if_neg c10, if_pos c20_0_1, if_pos c45, g_nu, if_pos c140_0_5, if_pos c140_1_5, g_nu, if_pos c160_0_9, if_neg c160_1_9]) (by decide) rfl rfl (show g_nd B n (g_sk B n (g_nd B n (g_sk B n ((g_nl B n q) + q)))) ≤ n by omega)
            · show qX G F Q 0 0 143 [(2, qI ((g_nl B n q : Nat) : Int)), (3, qI (l : Int)), (0, .ref m), (1, qI (wh : Int))] [qI (g_nv B n (g_sk B n ((g_nl B n q) + q)) 0), qI ((24 + (13 * (l : Int))) + 7), .ref (m + 4)] sz T (q_ps I m (g_mk (g_nd B n (g_sk B n ((g_nl B n q) + q))) 2 ((g_sk B n ((g_nl B n q) + q) : Nat) : Int) s.cd s.op s.on s.hp)) (q_row L (m + 4) (g_up (g_nms B n t l q (g_nl B n q)) (30 + 13 * l) ((g_nl B n q : Nat) : Int))) P
              refine q_i2l hF (by omega) dX8_readsLand_143 ?_
              refine q_lastorev hF (n := 1243) (31 + 13 * l) hS.t4 (q_Ale hSA (by omega)) (by omega) (by omega) (by decide) dX8_readsLand_144 ?_
              rw [q_row_u]
              refine q_aload_n hF 2 rfl rfl dX8_readsLand_145 ?_
              refine q_getA hF fl_RX8_24 rfl hS.t0 hS.p10 dX8_readsLand_146 ?_
              refine q_iload_n hF 1 rfl rfl dX8_readsLand_149 ?_
              refine q_bipush hF (n := 8) rfl dX8_readsLand_150 ?_
              refine q_callS (kc := 0) (ks := 0) (mc' := 0) (ms' := 0) (h' := 0) (st := [.ref (m + 4)]) hF sl_RX8_176 rfl [qI (l : Int), qI 8] rfl rfl (by omega) (Nat.le_of_ble_eq_true rfl) dX8_readsLand_152 ?_
              refine mX8_landAt ?_
              skip
              refine q_aload_n hF 2 rfl rfl dX8_readsLand_155 ?_
              refine q_iconst hF dX8_readsLand_156 ?_
              refine q_sipush hF (n := 9999) rfl dX8_readsLand_157 ?_
              refine q_callV (kc := 0) (ks := 0) (mc' := 0) (ms' := 0) (h' := 2) (st := [qI ((24 + (13 * (l : Int))) + 8), .ref (m + 4)]) hF vl_RX8_187 rfl [qI 0, qI 9999] rfl rfl hS.t0 (by omega) (Nat.le_of_ble_eq_true rfl) dX8_readsLand_160 ?_
              refine mX8_number0 hS hSA (show (2 : Int) ≠ 0 by decide) (show -2147483648 ≤ 2 ∧ 2 < 2147483648 by first | decide | omega | assumption) ?_
              refine q_i2l hF (by decide) dX8_readsLand_163 ?_
              refine q_lastorev hF (n := 1243) (32 + 13 * l) hS.t4 (q_Ale hSA (by omega)) (by omega) (by omega) (by decide) dX8_readsLand_164 ?_
              rw [q_row_u]
              refine q_aload_n hF 2 rfl rfl dX8_readsLand_165 ?_
              refine q_getA hF fl_RX8_24 rfl hS.t0 hS.p10 dX8_readsLand_166 ?_
              refine q_iload_n hF 1 rfl rfl dX8_readsLand_169 ?_
              refine q_bipush hF (n := 9) rfl dX8_readsLand_170 ?_
              refine q_callS (kc := 0) (ks := 0) (mc' := 0) (ms' := 0) (h' := 0) (st := [.ref (m + 4)]) hF sl_RX8_176 rfl [qI (l : Int), qI 9] rfl rfl (by omega) (Nat.le_of_ble_eq_true rfl) dX8_readsLand_172 ?_
              refine mX8_landAt ?_
              skip
              refine q_aload_n hF 2 rfl rfl dX8_readsLand_175 ?_
              refine q_iconst hF dX8_readsLand_176 ?_
              refine q_sipush hF (n := 999) rfl dX8_readsLand_177 ?_
              refine q_callV (kc := 0) (ks := 0) (mc' := 0) (ms' := 0) (h' := 2) (st := [qI ((24 + (13 * (l : Int))) + 9), .ref (m + 4)]) hF vl_RX8_187 rfl [qI 0, qI 999] rfl rfl hS.t0 (by omega) (Nat.le_of_ble_eq_true rfl) dX8_readsLand_180 ?_
              refine mX8_number0 hS hSA (show (2 : Int) ≠ 0 by decide) (show -2147483648 ≤ 2 ∧ 2 < 2147483648 by first | decide | omega | assumption) ?_
              refine q_i2l hF (by decide) dX8_readsLand_183 ?_
              refine q_lastorev hF (n := 1243) (33 + 13 * l) hS.t4 (q_Ale hSA (by omega)) (by omega) (by omega) (by decide) dX8_readsLand_184 ?_
              rw [q_row_u]
              refine q_aload_n hF 2 rfl rfl dX8_readsLand_185 ?_
              refine q_getA hF fl_RX8_24 rfl hS.t0 hS.p10 dX8_readsLand_186 ?_
              refine q_iload_n hF 1 rfl rfl dX8_readsLand_189 ?_
              refine q_bipush hF (n := 10) rfl dX8_readsLand_190 ?_
              refine q_callS (kc := 0) (ks := 0) (mc' := 0) (ms' := 0) (h' := 0) (st := [.ref (m + 4)]) hF sl_RX8_176 rfl [qI (l : Int), qI 10] rfl rfl (by omega) (Nat.le_of_ble_eq_true rfl) dX8_readsLand_192 ?_
              refine mX8_landAt ?_
              skip
              refine q_aload_n hF 2 rfl rfl dX8_readsLand_195 ?_
              refine q_iconst hF dX8_readsLand_196 ?_
              refine q_bipush hF (n := 50) rfl dX8_readsLand_197 ?_
              refine q_callV (kc := 0) (ks := 0) (mc' := 0) (ms' := 0) (h' := 2) (st := [qI ((24 + (13 * (l : Int))) + 10), .ref (m + 4)]) hF vl_RX8_187 rfl [qI 1, qI 50] rfl rfl hS.t0 (by omega) (Nat.le_of_ble_eq_true rfl) dX8_readsLand_199 ?_
              refine mX8_number0 hS hSA (show (2 : Int) ≠ 0 by decide) (show -2147483648 ≤ 2 ∧ 2 < 2147483648 by first | decide | omega | assumption) ?_
              refine q_i2l hF (by decide) dX8_readsLand_202 ?_
              refine q_lastorev hF (n := 1243) (34 + 13 * l) hS.t4 (q_Ale hSA (by omega)) (by omega) (by omega) (by decide) dX8_readsLand_203 ?_
              rw [q_row_u]
              refine q_aload_n hF 2 rfl rfl dX8_readsLand_204 ?_
              refine q_getA hF fl_RX8_24 rfl hS.t0 hS.p10 dX8_readsLand_205 ?_
              refine q_iconst hF dX8_readsLand_208 ?_
              refine q_dup2 hF rfl rfl dX8_readsLand_209 ?_
              refine q_laloadv hF (z := (g_up (g_up (g_up (g_up (g_up (g_nms B n t l q (g_nl B n q)) (30 + 13 * l) ((g_nl B n q : Nat) : Int)) (31 + 13 * l) (g_nv B n (g_sk B n ((g_nl B n q) + q)) 0)) (32 + 13 * l) 0) (33 + 13 * l) 0) (34 + 13 * l) 0) 0) (n := 1243) 0 hS.t4 rfl (by decide) (by decide) (q_row_s _ _ _ _) dX8_readsLand_210 ?_
              refine q_lconst hF (z := 1) rfl dX8_readsLand_211 ?_
              refine q_ladd hF dX8_readsLand_212 ?_
              refine q_lastorev hF (n := 1243) 0 hS.t4 (q_Ale hSA (by omega)) rfl (by decide) (by decide) dX8_readsLand_213 ?_
              rw [q_row_u]
              refine q_return hF rfl dX8_readsLand_214 ?_
              show Q (.inl none) sz T (q_ps I m (g_mk (g_nd B n (g_sk B n ((g_nl B n q) + q))) 2 ((g_sk B n ((g_nl B n q) + q) : Nat) : Int) s.cd s.op s.on s.hp)) (q_row L (m + 4) (g_up (g_up (g_up (g_up (g_up (g_up (g_nms B n t l q (g_nl B n q)) (30 + 13 * l) ((g_nl B n q : Nat) : Int)) (31 + 13 * l) (g_nv B n (g_sk B n ((g_nl B n q) + q)) 0)) (32 + 13 * l) 0) (33 + 13 * l) 0) (34 + 13 * l) 0) 0 (((g_up (g_up (g_up (g_up (g_up (g_nms B n t l q (g_nl B n q)) (30 + 13 * l) ((g_nl B n q : Nat) : Int)) (31 + 13 * l) (g_nv B n (g_sk B n ((g_nl B n q) + q)) 0)) (32 + 13 * l) 0) (33 + 13 * l) 0) (34 + 13 * l) 0) 0) + 1))) P
              exact k1 2 (g_sk B n ((g_nl B n q) + q)) _ _ (by rw [← hx2, g_rdLand, if_neg c10, if_pos c20_0_1, if_pos c45, g_nu, if_pos c140_0_5, if_neg c140_1_5]) (by decide) rfl rfl (show g_nd B n (g_sk B n ((g_nl B n q) + q)) ≤ n by omega)
          · exact absurd c61 (by decide)
        · refine q_aload_n hF 2 rfl rfl dX8_readsLand_48 ?_
          refine q_iconst hF dX8_readsLand_49 ?_
          refine q_aload_n hF 2 rfl rfl dX8_readsLand_50 ?_
          refine q_getIv hF (z := (q : Int)) fl_RX8_65 hS.t0 q_ps_4 dX8_readsLand_51 ?_
          refine q_callV (kc := 0) (ks := 0) (mc' := 0) (ms' := 0) (h' := 0) (st := []) hF vl_RX8_106 rfl [qI 3, qI (q : Int)] rfl rfl hS.t0 (by omega) (Nat.le_of_ble_eq_true rfl) dX8_readsLand_54 ?_
          refine mX8_wrongA hS hSA hfl ?_
          show qX G F Q 0 0 57 [(3, qI (l : Int)), (2, qI ((g_nl B n q : Nat) : Int)), (0, .ref m), (1, qI (wh : Int))] [] sz T (q_ps I m (g_mk q 3 (q : Int) s.cd s.op s.on s.hp)) (q_row L (m + 4) t) P
          refine q_aload_n hF 2 rfl rfl dX8_readsLand_57 ?_
          refine q_callV (kc := 0) (ks := 0) (mc' := 0) (ms' := 0) (h' := 0) (st := []) hF vl_RX8_95 rfl [] rfl rfl hS.t0 (by omega) (Nat.le_of_ble_eq_true rfl) dX8_readsLand_58 ?_
          refine mX8_fine0 hS (show (3 : Int) ≠ 0 by decide) (show -2147483648 ≤ 3 ∧ 3 < 2147483648 by first | decide | omega | assumption) ?_
          refine q_ifne hF (by decide) dX8_readsLand_61 (fun c61 => ?_) (fun c61 => ?_)
          · exact absurd c61 (by decide)
          · refine q_return hF rfl dX8_readsLand_64 ?_
            show Q (.inl none) sz T (q_ps I m (g_mk q 3 (q : Int) s.cd s.op s.on s.hp)) (q_row L (m + 4) t) P
            exact k1 3 q _ _ (by rw [← hx2, g_rdLand, if_neg c10, if_pos c20_0_1, if_neg c45]) (by decide) rfl rfl (show q ≤ n by omega)
    · show qX G F Q 0 0 23 [(0, .ref m), (1, qI (wh : Int))] [qI 0] sz T (q_ps I m (g_mk q 1 (q : Int) s.cd s.op s.on s.hp)) (q_row L (m + 4) t) P
      refine q_istore_n hF (ls' := [(2, qI 0), (0, .ref m), (1, qI (wh : Int))]) rfl (by decide) rfl dX8_readsLand_23 ?_
      refine q_aload_n hF 1 rfl rfl dX8_readsLand_24 ?_
      refine q_getA hF fl_RX8_24 rfl hS.t0 hS.p10 dX8_readsLand_25 ?_
      refine q_iconst hF dX8_readsLand_28 ?_
      refine q_laloadv hF (z := (l : Int)) (n := 1243) 0 hS.t4 rfl (by decide) (by decide) ((q_row_s _ _ _ _).trans hl) dX8_readsLand_29 ?_
      refine q_l2i hF dX8_readsLand_30 ?_
      refine q_istore_n hF (ls' := [(3, qI (l : Int)), (2, qI 0), (0, .ref m), (1, qI (wh : Int))]) rfl (by decide) rfl dX8_readsLand_31 ?_
      refine q_aload_n hF 2 rfl rfl dX8_readsLand_32 ?_
      refine q_callV (kc := 0) (ks := 0) (mc' := 0) (ms' := 0) (h' := 0) (st := []) hF vl_RX8_95 rfl [] rfl rfl hS.t0 (by omega) (Nat.le_of_ble_eq_true rfl) dX8_readsLand_33 ?_
      refine mX8_fine0 hS (show (1 : Int) ≠ 0 by decide) (show -2147483648 ≤ 1 ∧ 1 < 2147483648 by first | decide | omega | assumption) ?_
      refine q_ifeq hF (by decide) dX8_readsLand_36 (fun c36 => ?_) (fun c36 => ?_)
      · refine q_aload_n hF 2 rfl rfl dX8_readsLand_57 ?_
        refine q_callV (kc := 0) (ks := 0) (mc' := 0) (ms' := 0) (h' := 0) (st := []) hF vl_RX8_95 rfl [] rfl rfl hS.t0 (by omega) (Nat.le_of_ble_eq_true rfl) dX8_readsLand_58 ?_
        refine mX8_fine0 hS (show (1 : Int) ≠ 0 by decide) (show -2147483648 ≤ 1 ∧ 1 < 2147483648 by first | decide | omega | assumption) ?_
        refine q_ifne hF (by decide) dX8_readsLand_61 (fun c61 => ?_) (fun c61 => ?_)
        · exact absurd c61 (by decide)
        · refine q_return hF rfl dX8_readsLand_64 ?_
          show Q (.inl none) sz T (q_ps I m (g_mk q 1 (q : Int) s.cd s.op s.on s.hp)) (q_row L (m + 4) t) P
          exact k1 1 q _ _ (by rw [← hx2, g_rdLand, if_neg c10, if_neg c20_0_1]) (by decide) rfl rfl (show q ≤ n by omega)
      · exact absurd c36 (by decide)
  · refine q_aload_n hF 0 rfl rfl dX8_readsLand_13 ?_
    refine q_iconst hF dX8_readsLand_14 ?_
    refine q_iload_n hF 1 rfl rfl dX8_readsLand_15 ?_
    refine q_callV (kc := 0) (ks := 0) (mc' := 0) (ms' := 0) (h' := 0) (st := []) hF vl_RX8_106 rfl [qI 4, qI (wh : Int)] rfl rfl hS.t0 (by omega) (Nat.le_of_ble_eq_true rfl) dX8_readsLand_16 ?_
    refine mX8_wrongA hS hSA hfl ?_
    show qX G F Q 0 0 19 [(0, .ref m), (1, qI (wh : Int))] [] sz T (q_ps I m (g_mk s.p 4 (wh : Int) s.cd s.op s.on s.hp)) (q_row L (m + 4) t) P
    refine q_aload_n hF 0 rfl rfl dX8_readsLand_19 ?_
    refine q_callV (kc := 0) (ks := 0) (mc' := 0) (ms' := 0) (h' := 6) (st := []) hF vl_RX8_179 rfl [] rfl rfl hS.t0 (by omega) (Nat.le_of_ble_eq_true rfl) dX8_readsLand_20 ?_
    refine mX8_name0 hS hSA (show (4 : Int) ≠ 0 by decide) (show -2147483648 ≤ 4 ∧ 4 < 2147483648 by first | decide | omega | assumption) ?_
    refine q_istore_n hF (ls' := [(2, qI 0), (0, .ref m), (1, qI (wh : Int))]) rfl (by decide) rfl dX8_readsLand_23 ?_
    refine q_aload_n hF 1 rfl rfl dX8_readsLand_24 ?_
    refine q_getA hF fl_RX8_24 rfl hS.t0 hS.p10 dX8_readsLand_25 ?_
    refine q_iconst hF dX8_readsLand_28 ?_
    refine q_laloadv hF (z := (l : Int)) (n := 1243) 0 hS.t4 rfl (by decide) (by decide) ((q_row_s _ _ _ _).trans hl) dX8_readsLand_29 ?_
    refine q_l2i hF dX8_readsLand_30 ?_
    refine q_istore_n hF (ls' := [(3, qI (l : Int)), (2, qI 0), (0, .ref m), (1, qI (wh : Int))]) rfl (by decide) rfl dX8_readsLand_31 ?_
    refine q_aload_n hF 2 rfl rfl dX8_readsLand_32 ?_
    refine q_callV (kc := 0) (ks := 0) (mc' := 0) (ms' := 0) (h' := 0) (st := []) hF vl_RX8_95 rfl [] rfl rfl hS.t0 (by omega) (Nat.le_of_ble_eq_true rfl) dX8_readsLand_33 ?_
    refine mX8_fine0 hS (show (4 : Int) ≠ 0 by decide) (show -2147483648 ≤ 4 ∧ 4 < 2147483648 by first | decide | omega | assumption) ?_
    refine q_ifeq hF (by decide) dX8_readsLand_36 (fun c36 => ?_) (fun c36 => ?_)
    · refine q_aload_n hF 2 rfl rfl dX8_readsLand_57 ?_
      refine q_callV (kc := 0) (ks := 0) (mc' := 0) (ms' := 0) (h' := 0) (st := []) hF vl_RX8_95 rfl [] rfl rfl hS.t0 (by omega) (Nat.le_of_ble_eq_true rfl) dX8_readsLand_58 ?_
      refine mX8_fine0 hS (show (4 : Int) ≠ 0 by decide) (show -2147483648 ≤ 4 ∧ 4 < 2147483648 by first | decide | omega | assumption) ?_
      refine q_ifne hF (by decide) dX8_readsLand_61 (fun c61 => ?_) (fun c61 => ?_)
      · exact absurd c61 (by decide)
      · refine q_return hF rfl dX8_readsLand_64 ?_
        show Q (.inl none) sz T (q_ps I m (g_mk s.p 4 (wh : Int) s.cd s.op s.on s.hp)) (q_row L (m + 4) t) P
        exact k1 4 wh _ _ (by rw [← hx2, g_rdLand, if_pos c10]) (by decide) rfl rfl (show s.p ≤ n by omega)
    · exact absurd c36 (by decide)
