/-! the class: what is asked -/
def g_toldQ (r : Nat → Int) (tl bk w : Int) : Int := if w < 8 then r w.toNat else if w = 8 then tl else bk
def g_landQ (r : Nat → Int) (l mn : Nat) (w : Int) : Int := if w < 4 then r (31 + 13 * l + w.toNat) else if w = 4 then g_set (fun k => 0 < r (90 + 2 * (5 * k + l))) 5 else g_set (fun k => r (1043 + 12 * k) = 2 ∧ r (1047 + 12 * k) = (l : Int)) mn
def g_purseQ (r : Nat → Int) (l mn rn : Nat) (w : Int) : Int := if w = 0 then g_sum (g_heldC r (l : Int)) mn else if w = 1 then r (35 + 13 * l) else if w = 2 then g_sum (g_rowC r (l : Int)) rn else r (36 + 13 * l)
def g_statQ (a b c w : Int) : Int := if w = 0 then a else if w = 1 then b else if w = 2 then c else -1
set_option maxRecDepth 100000 in
theorem mX2_hasLetter {G : q_G} {sz : Nat} {T : q_T} {I L : q_I} {P : q_P} {Q : q_Q} {o : Nat} {n : Int} {vv : Int} (hO : T o = some (.inl 2)) (hnlA : I o 1 = vv) (hvr : 0 ≤ vv ∧ vv ≤ 6) (hn : -2147483648 ≤ n ∧ n < 2147483648) (k0 : Q (.inl (some (qI (q_b (0 ≤ n ∧ n < vv))))) sz T I L P) : qC G 0 0 0 YX2_hasLetter [.ref o, qI n] sz T I L P Q := by
  refine qC_of (by decide +kernel) rfl rfl (Nat.le_of_ble_eq_true rfl) (fun F hF _ _ => ?_)
  refine q_iload_n hF 1 rfl rfl dX2_hasLetter_0 ?_
  refine q_iflt hF (by omega) dX2_hasLetter_1 (fun c1 => ?_) (fun c1 => ?_)
  · refine q_iconst hF dX2_hasLetter_22 ?_
    refine q_zreturn hF (by decide) rfl dX2_hasLetter_23 ?_
    rw [q_b_f (c := 0 ≤ n ∧ n < vv) (by omega)] at k0; exact k0
  · refine q_iload_n hF 1 rfl rfl dX2_hasLetter_4 ?_
    refine q_aload_n hF 0 rfl rfl dX2_hasLetter_5 ?_
    refine q_getIv hF (z := vv) fl_RX2_13 hO hnlA dX2_hasLetter_6 ?_
    refine q_icmpge hF (by omega) (by omega) dX2_hasLetter_9 (fun c9 => ?_) (fun c9 => ?_)
    · refine q_iconst hF dX2_hasLetter_22 ?_
      refine q_zreturn hF (by decide) rfl dX2_hasLetter_23 ?_
      rw [q_b_f (c := 0 ≤ n ∧ n < vv) (by omega)] at k0; exact k0
    · refine q_iload_n hF 1 rfl rfl dX2_hasLetter_12 ?_
      refine q_bipush hF (n := 6) rfl dX2_hasLetter_13 ?_
      refine q_icmpge hF (by omega) (by decide) dX2_hasLetter_15 (fun c15 => ?_) (fun c15 => ?_)
      · refine q_iconst hF dX2_hasLetter_22 ?_
        refine q_zreturn hF (by decide) rfl dX2_hasLetter_23 ?_
        rw [q_b_f (c := 0 ≤ n ∧ n < vv) (by omega)] at k0; exact k0
      · refine q_iconst hF dX2_hasLetter_18 ?_
        refine q_goto hF dX2_hasLetter_19 ?_
        refine q_zreturn hF (by decide) rfl dX2_hasLetter_23 ?_
        rw [q_b_t (c := 0 ≤ n ∧ n < vv) (by omega)] at k0; exact k0
set_option maxRecDepth 100000 in
theorem mX6_hasRow {G : q_G} {sz : Nat} {T : q_T} {I L : q_I} {P : q_P} {Q : q_Q} {w : Nat} {l : Int} {r : Nat → Int} {mo : Int} (hW : q_SW T P w) (hWR : q_WR I L w r mo) (hv : g_V0 r) (hl : -2147483648 ≤ l ∧ l < 2147483648) (k0 : Q (.inl (some (qI (q_b (0 ≤ l ∧ l < r 6))))) sz T I L P) : qC G 0 0 0 YX6_hasRow [.ref w, qI l] sz T I L P Q := by
  refine qC_of (by decide +kernel) rfl rfl (Nat.le_of_ble_eq_true rfl) (fun F hF _ _ => ?_)
  refine q_iload_n hF 1 rfl rfl dX6_hasRow_0 ?_
  refine q_iflt hF hl dX6_hasRow_1 (fun c1 => ?_) (fun c1 => ?_)
  · refine q_iconst hF dX6_hasRow_22 ?_
    refine q_zreturn hF (by decide) rfl dX6_hasRow_23 ?_
    rw [q_b_f (c := 0 ≤ l ∧ l < r 6) (by first | omega | (have := hv.rows; omega))] at k0; exact k0
  · refine q_iload_n hF 1 rfl rfl dX6_hasRow_4 ?_
    refine q_aload_n hF 0 rfl rfl dX6_hasRow_5 ?_
    refine q_getIv hF (z := r 6) fl_RX6_48 hW.t0 hWR.rows dX6_hasRow_6 ?_
    refine q_icmpge hF hl (by have := hv.rows; omega) dX6_hasRow_9 (fun c9 => ?_) (fun c9 => ?_)
    · refine q_iconst hF dX6_hasRow_22 ?_
      refine q_zreturn hF (by decide) rfl dX6_hasRow_23 ?_
      rw [q_b_f (c := 0 ≤ l ∧ l < r 6) (by first | omega | (have := hv.rows; omega))] at k0; exact k0
    · refine q_iload_n hF 1 rfl rfl dX6_hasRow_12 ?_
      refine q_bipush hF (n := 12) rfl dX6_hasRow_13 ?_
      refine q_icmpge hF hl (by decide) dX6_hasRow_15 (fun c15 => ?_) (fun c15 => ?_)
      · refine q_iconst hF dX6_hasRow_22 ?_
        refine q_zreturn hF (by decide) rfl dX6_hasRow_23 ?_
        rw [q_b_f (c := 0 ≤ l ∧ l < r 6) (by first | omega | (have := hv.rows; omega))] at k0; exact k0
      · refine q_iconst hF dX6_hasRow_18 ?_
        refine q_goto hF dX6_hasRow_19 ?_
        refine q_zreturn hF (by decide) rfl dX6_hasRow_23 ?_
        rw [q_b_t (c := 0 ≤ l ∧ l < r 6) (by first | omega | (have := hv.rows; omega))] at k0; exact k0
set_option maxRecDepth 100000 in
theorem mX7_told {G : q_G} {sz : Nat} {T : q_T} {I L : q_I} {P : q_P} {Q : q_Q} {V : Nat → Nat} {w : Nat} {r : Nat → Int} {b : Nat} {n : Int} {mn : Nat} (hS : q_ST T P b) (hA : q_A G b) (hPV : q_PV P b V) (hO : q_OV b V) (hVw : V 0 = w) (hWR : q_WR I L w r (r 2)) (hV : g_VR r) (hmn : r 1 = (mn : Int)) (hSL : g_SL r) (hn : -2147483648 ≤ n ∧ n < 2147483648) (k1 : ∀ sz', sz ≤ sz' → ¬ (0 ≤ n ∧ n ≤ 9) → Q (.inr "java/lang/IllegalArgumentException") sz' T (u2 I b 8 ((I b 8) + 1)) L P) (k0 : (0 ≤ n ∧ n ≤ 9) → Q (.inl (some (qI (g_toldQ r (I b 4) (I b 6) n)))) sz T I L P) : qC G 3 1 6 YX7_told [.ref b, qI n] sz T I L P Q := by
  refine qC_of (by decide +kernel) rfl rfl (Nat.le_of_ble_eq_true rfl) (fun F hF _ _ => ?_)
  have hv := hV.1
  have hPVw : P b 3 = some w := hVw ▸ hPV.w
  have hwr := hO.r (i := 0) (by omega)
  rw [hVw] at hwr
  have hW0 : q_SW T P w := by have q := hS.sw hO (i := 0) (by omega); rwa [hVw] at q
  have hW0A : q_A G w := q_Ale hA (by omega)
  have hm12 := hv.many
  have hl5 := hv.lands
  have hmo := hv.month
  have hr6 := hv.rows
  refine q_aload_n hF 0 rfl rfl dX7_told_0 ?_
  refine q_iload_n hF 1 rfl rfl dX7_told_1 ?_
  refine q_iconst hF dX7_told_2 ?_
  refine q_bipush hF (n := 9) rfl dX7_told_3 ?_
  refine q_callS (kc := 1) (ks := 6) (mc' := 0) (ms' := 0) (h' := 0) (st := [.ref b]) hF sl_RX7_80 rfl [qI n, qI 0, qI 9] rfl rfl (by decide) (Nat.le_of_ble_eq_true rfl) dX7_told_5 ?_
  refine mX7_isWithin (by omega) (by decide) (by decide) ?_
  refine q_ifne_b hF dX7_told_8 (fun c8 => ?_) (fun c8 => ?_)
  · refine q_iconst hF dX7_told_15 ?_
    refine q_callV (kc := 1) (ks := 6) (mc' := 0) (ms' := 0) (h' := 0) (st := []) hF vl_RX7_45 rfl [qI 0] rfl rfl hS.t0 (by decide) (Nat.le_of_ble_eq_true rfl) dX7_told_16 ?_
    refine mX7_refuseArgument0 hS.t0 ?_
    refine q_iload_n hF 1 rfl rfl dX7_told_19 ?_
    have c20_r := (show -2147483648 ≤ n ∧ n < 2147483648 from (by omega))
    rcases (show n = 0 ∨ n = 1 ∨ n = 2 ∨ n = 3 ∨ n = 4 ∨ n = 5 ∨ n = 6 ∨ n = 7 ∨ n = 8 ∨ (n < 0 ∨ 8 < n) from by omega) with c20 | c20 | c20 | c20 | c20 | c20 | c20 | c20 | c20 | c20
    · refine q_tableIn hF dX7_told_20 c20_r (by rw [c20]; decide) (by rw [c20]; decide) (off := 52) (by rw [c20]; rfl) (tgt := 72) rfl ?_
      refine q_aload_n hF 0 rfl rfl dX7_told_72 ?_
      refine q_getA hF fl_RX7_26 rfl hS.t0 hPVw dX7_told_73 ?_
      refine q_getA hF fl_RX7_67 rfl hW0.t0 hW0.p0 dX7_told_76 ?_
      refine q_getIv hF (z := r 0) fl_RX7_68 hW0.ru.t0 hWR.ru.cnt dX7_told_79 ?_
      refine q_ireturn hF rfl dX7_told_82 ?_
      have q := k0 (by omega)
      rw [show (g_toldQ r (I b 4) (I b 6) n) = (r 0) from by unfold g_toldQ; first | (rw [if_pos (by omega), c20]; done) | (rw [if_pos (by omega), c20]; rfl) | rw [if_neg (by omega), if_pos (by omega)] | rw [if_neg (by omega), if_neg (by omega)]] at q; exact q
    · refine q_tableIn hF dX7_told_20 c20_r (by rw [c20]; decide) (by rw [c20]; decide) (off := 63) (by rw [c20]; rfl) (tgt := 83) rfl ?_
      refine q_aload_n hF 0 rfl rfl dX7_told_83 ?_
      refine q_getA hF fl_RX7_26 rfl hS.t0 hPVw dX7_told_84 ?_
      refine q_getIv hF (z := r 1) fl_RX7_85 hW0.t0 hWR.cnt dX7_told_87 ?_
      refine q_ireturn hF rfl dX7_told_90 ?_
      have q := k0 (by omega)
      rw [show (g_toldQ r (I b 4) (I b 6) n) = (r 1) from by unfold g_toldQ; first | (rw [if_pos (by omega), c20]; done) | (rw [if_pos (by omega), c20]; rfl) | rw [if_neg (by omega), if_pos (by omega)] | rw [if_neg (by omega), if_neg (by omega)]] at q; exact q
    · refine q_tableIn hF dX7_told_20 c20_r (by rw [c20]; decide) (by rw [c20]; decide) (off := 71) (by rw [c20]; rfl) (tgt := 91) rfl ?_
      refine q_aload_n hF 0 rfl rfl dX7_told_91 ?_
      refine q_getA hF fl_RX7_26 rfl hS.t0 hPVw dX7_told_92 ?_
      refine q_getIv hF (z := r 2) fl_RX7_130 hW0.t0 hWR.mon dX7_told_95 ?_
      refine q_ireturn hF rfl dX7_told_98 ?_
      have q := k0 (by omega)
      rw [show (g_toldQ r (I b 4) (I b 6) n) = (r 2) from by unfold g_toldQ; first | (rw [if_pos (by omega), c20]; done) | (rw [if_pos (by omega), c20]; rfl) | rw [if_neg (by omega), if_pos (by omega)] | rw [if_neg (by omega), if_neg (by omega)]] at q; exact q
    · refine q_tableIn hF dX7_told_20 c20_r (by rw [c20]; decide) (by rw [c20]; decide) (off := 79) (by rw [c20]; rfl) (tgt := 99) rfl ?_
      refine q_aload_n hF 0 rfl rfl dX7_told_99 ?_
      refine q_getA hF fl_RX7_26 rfl hS.t0 hPVw dX7_told_100 ?_
      refine q_getA hF fl_RX7_67 rfl hW0.t0 hW0.p0 dX7_told_103 ?_
      refine q_getIv hF (z := r 3) fl_RX7_161 hW0.ru.t0 hWR.ru.wait dX7_told_106 ?_
      refine q_ireturn hF rfl dX7_told_109 ?_
      have q := k0 (by omega)
      rw [show (g_toldQ r (I b 4) (I b 6) n) = (r 3) from by unfold g_toldQ; first | (rw [if_pos (by omega), c20]; done) | (rw [if_pos (by omega), c20]; rfl) | rw [if_neg (by omega), if_pos (by omega)] | rw [if_neg (by omega), if_neg (by omega)]] at q; exact q
    · refine q_tableIn hF dX7_told_20 c20_r (by rw [c20]; decide) (by rw [c20]; decide) (off := 90) (by rw [c20]; rfl) (tgt := 110) rfl ?_
      refine q_aload_n hF 0 rfl rfl dX7_told_110 ?_
      refine q_getA hF fl_RX7_26 rfl hS.t0 hPVw dX7_told_111 ?_
      refine q_getA hF fl_RX7_67 rfl hW0.t0 hW0.p0 dX7_told_114 ?_
      refine q_getIv hF (z := r 4) fl_RX7_164 hW0.ru.t0 hWR.ru.cost dX7_told_117 ?_
      refine q_ireturn hF rfl dX7_told_120 ?_
      have q := k0 (by omega)
      rw [show (g_toldQ r (I b 4) (I b 6) n) = (r 4) from by unfold g_toldQ; first | (rw [if_pos (by omega), c20]; done) | (rw [if_pos (by omega), c20]; rfl) | rw [if_neg (by omega), if_pos (by omega)] | rw [if_neg (by omega), if_neg (by omega)]] at q; exact q
    · refine q_tableIn hF dX7_told_20 c20_r (by rw [c20]; decide) (by rw [c20]; decide) (off := 101) (by rw [c20]; rfl) (tgt := 121) rfl ?_
      refine q_aload_n hF 0 rfl rfl dX7_told_121 ?_
      refine q_getA hF fl_RX7_26 rfl hS.t0 hPVw dX7_told_122 ?_
      refine q_getA hF fl_RX7_67 rfl hW0.t0 hW0.p0 dX7_told_125 ?_
      refine q_getIv hF (z := r 5) fl_RX7_167 hW0.ru.t0 hWR.ru.home dX7_told_128 ?_
      refine q_ireturn hF rfl dX7_told_131 ?_
      have q := k0 (by omega)
      rw [show (g_toldQ r (I b 4) (I b 6) n) = (r 5) from by unfold g_toldQ; first | (rw [if_pos (by omega), c20]; done) | (rw [if_pos (by omega), c20]; rfl) | rw [if_neg (by omega), if_pos (by omega)] | rw [if_neg (by omega), if_neg (by omega)]] at q; exact q
    · refine q_tableIn hF dX7_told_20 c20_r (by rw [c20]; decide) (by rw [c20]; decide) (off := 112) (by rw [c20]; rfl) (tgt := 132) rfl ?_
      refine q_aload_n hF 0 rfl rfl dX7_told_132 ?_
      refine q_getA hF fl_RX7_26 rfl hS.t0 hPVw dX7_told_133 ?_
      refine q_getIv hF (z := r 6) fl_RX7_170 hW0.t0 hWR.rows dX7_told_136 ?_
      refine q_ireturn hF rfl dX7_told_139 ?_
      have q := k0 (by omega)
      rw [show (g_toldQ r (I b 4) (I b 6) n) = (r 6) from by unfold g_toldQ; first | (rw [if_pos (by omega), c20]; done) | (rw [if_pos (by omega), c20]; rfl) | rw [if_neg (by omega), if_pos (by omega)] | rw [if_neg (by omega), if_neg (by omega)]] at q; exact q
    · refine q_tableIn hF dX7_told_20 c20_r (by rw [c20]; decide) (by rw [c20]; decide) (off := 120) (by rw [c20]; rfl) (tgt := 140) rfl ?_
      refine q_aload_n hF 0 rfl rfl dX7_told_140 ?_
      refine q_getA hF fl_RX7_26 rfl hS.t0 hPVw dX7_told_141 ?_
      refine q_callV (kc := 1) (ks := 6) (mc' := 0) (ms' := 0) (h' := 1) (st := []) hF vl_RX7_173 rfl [] rfl rfl hW0.t0 (by decide) (Nat.le_of_ble_eq_true rfl) dX7_told_144 ?_
      refine mX6_lettersSent (r := r) (mn := mn) hW0 hWR hv hmn (fun j hj => by have q := hV.2.1 j (by omega); rwa [if_neg (Nat.not_lt_zero _)] at q) ?_
      refine q_ireturn hF rfl dX7_told_147 ?_
      have q := k0 (by omega)
      rw [show (g_toldQ r (I b 4) (I b 6) n) = (g_sum (fun i => r (1046 + 12 * i)) mn) from by unfold g_toldQ; rw [if_pos (by omega), c20]; unfold g_SL at hSL; rw [hmn, Int.toNat_natCast] at hSL; exact hSL] at q; exact q
    · refine q_tableIn hF dX7_told_20 c20_r (by rw [c20]; decide) (by rw [c20]; decide) (off := 128) (by rw [c20]; rfl) (tgt := 148) rfl ?_
      refine q_aload_n hF 0 rfl rfl dX7_told_148 ?_
      refine q_getIv hF (z := I b 4) fl_RX7_38 hS.t0 rfl dX7_told_149 ?_
      refine q_ireturn hF rfl dX7_told_152 ?_
      have q := k0 (by omega)
      rw [show (g_toldQ r (I b 4) (I b 6) n) = (I b 4) from by unfold g_toldQ; first | (rw [if_pos (by omega), c20]; done) | (rw [if_pos (by omega), c20]; rfl) | rw [if_neg (by omega), if_pos (by omega)] | rw [if_neg (by omega), if_neg (by omega)]] at q; exact q
    · refine q_tableOut hF dX7_told_20 c20_r c20 (tgt := 153) rfl ?_
      refine q_aload_n hF 0 rfl rfl dX7_told_153 ?_
      refine q_getIv hF (z := I b 6) fl_RX7_158 hS.t0 rfl dX7_told_154 ?_
      refine q_ireturn hF rfl dX7_told_157 ?_
      have q := k0 (by omega)
      rw [show (g_toldQ r (I b 4) (I b 6) n) = (I b 6) from by unfold g_toldQ; first | (rw [if_pos (by omega), c20]; done) | (rw [if_pos (by omega), c20]; rfl) | rw [if_neg (by omega), if_pos (by omega)] | rw [if_neg (by omega), if_neg (by omega)]] at q; exact q
  · refine q_iconst hF dX7_told_11 ?_
    refine q_goto hF dX7_told_12 ?_
    refine q_callV (kc := 0) (ks := 0) (mc' := 1) (ms' := 6) (h' := 0) (st := []) hF vl_RX7_45 rfl [qI 1] rfl rfl hS.t0 (by decide) (Nat.le_of_ble_eq_true rfl) dX7_told_16 ?_
    refine mX7_refuseArgument1 hS.t0 hA (fun sz' c16_0 => ?_)
    refine q_out hF rfl ?_
    exact k1 sz' c16_0 (by omega)
set_option maxRecDepth 100000 in
theorem mX7_pays {G : q_G} {sz : Nat} {T : q_T} {I L : q_I} {P : q_P} {Q : q_Q} {V : Nat → Nat} {w : Nat} {r : Nat → Int} {b : Nat} {n : Int}  (hS : q_ST T P b) (hA : q_A G b) (hPV : q_PV P b V) (hO : q_OV b V) (hVw : V 0 = w) (hWR : q_WR I L w r (r 2)) (hV : g_VR r) (hn : -2147483648 ≤ n ∧ n < 2147483648) (k1 : ∀ sz', sz ≤ sz' → ¬ (0 ≤ n ∧ n ≤ 4) → Q (.inr "java/lang/IllegalArgumentException") sz' T (u2 I b 8 ((I b 8) + 1)) L P) (k0 : (0 ≤ n ∧ n ≤ 4) → Q (.inl (some (qI (r (12 + n.toNat))))) sz T I L P) : qC G 3 1 6 YX7_pays [.ref b, qI n] sz T I L P Q := by
  refine qC_of (by decide +kernel) rfl rfl (Nat.le_of_ble_eq_true rfl) (fun F hF _ _ => ?_)
  have hv := hV.1
  have hPVw : P b 3 = some w := hVw ▸ hPV.w
  have hwr := hO.r (i := 0) (by omega)
  rw [hVw] at hwr
  have hW0 : q_SW T P w := by have q := hS.sw hO (i := 0) (by omega); rwa [hVw] at q
  have hW0A : q_A G w := q_Ale hA (by omega)
  have hm12 := hv.many
  have hl5 := hv.lands
  have hmo := hv.month
  have hr6 := hv.rows
  refine q_aload_n hF 0 rfl rfl dX7_pays_0 ?_
  refine q_iload_n hF 1 rfl rfl dX7_pays_1 ?_
  refine q_iconst hF dX7_pays_2 ?_
  refine q_iconst hF dX7_pays_3 ?_
  refine q_callS (kc := 1) (ks := 6) (mc' := 0) (ms' := 0) (h' := 0) (st := [.ref b]) hF sl_RX7_80 rfl [qI n, qI 0, qI 4] rfl rfl (by decide) (Nat.le_of_ble_eq_true rfl) dX7_pays_4 ?_
  refine mX7_isWithin (by omega) (by decide) (by decide) ?_
  refine q_ifne_b hF dX7_pays_7 (fun c7 => ?_) (fun c7 => ?_)
  · refine q_iconst hF dX7_pays_14 ?_
    refine q_callV (kc := 1) (ks := 6) (mc' := 0) (ms' := 0) (h' := 0) (st := []) hF vl_RX7_45 rfl [qI 0] rfl rfl hS.t0 (by decide) (Nat.le_of_ble_eq_true rfl) dX7_pays_15 ?_
    refine mX7_refuseArgument0 hS.t0 ?_
    refine q_aload_n hF 0 rfl rfl dX7_pays_18 ?_
    refine q_getA hF fl_RX7_26 rfl hS.t0 hPVw dX7_pays_19 ?_
    refine q_getA hF fl_RX7_67 rfl hW0.t0 hW0.p0 dX7_pays_22 ?_
    obtain ⟨kd, hkd⟩ : ∃ kd : Nat, n = (kd : Int) := ⟨n.toNat, by omega⟩
    rw [hkd]
    refine q_iload_n hF 1 rfl rfl dX7_pays_25 ?_
    refine q_callV (kc := 1) (ks := 6) (mc' := 0) (ms' := 0) (h' := 0) (st := []) hF vl_RX7_219 rfl [qI (kd : Int)] rfl rfl hW0.ru.t0 (by decide) (Nat.le_of_ble_eq_true rfl) dX7_pays_26 ?_
    refine mX4_rateOf (kd := kd) (r := r) hW0.ru hWR.ru (by omega) ?_
    refine q_ireturn hF rfl dX7_pays_29 ?_
    have q := k0 (by omega)
    rw [show r (12 + n.toNat) = (r (12 + kd)) from congrArg r (by omega)] at q; exact q
  · refine q_iconst hF dX7_pays_10 ?_
    refine q_goto hF dX7_pays_11 ?_
    refine q_callV (kc := 0) (ks := 0) (mc' := 1) (ms' := 6) (h' := 0) (st := []) hF vl_RX7_45 rfl [qI 1] rfl rfl hS.t0 (by decide) (Nat.le_of_ble_eq_true rfl) dX7_pays_15 ?_
    refine mX7_refuseArgument1 hS.t0 hA (fun sz' c15_0 => ?_)
    refine q_out hF rfl ?_
    exact k1 sz' c15_0 (by omega)
set_option maxRecDepth 100000 in
theorem mX7_land0 {G : q_G} {sz : Nat} {T : q_T} {I L : q_I} {P : q_P} {Q : q_Q} {V : Nat → Nat} {w : Nat} {r : Nat → Int} {b : Nat} {l : Int} {n : Int}  (hS : q_ST T P b) (hA : q_A G b) (hPV : q_PV P b V) (hO : q_OV b V) (hVw : V 0 = w) (hWR : q_WR I L w r (r 2)) (hV : g_VR r) (hl : -2147483648 ≤ l ∧ l < 2147483648) (hn : ¬ (0 ≤ l ∧ l < r 0)) (k1 : ∀ sz', sz ≤ sz' → Q (.inr "java/util/NoSuchElementException") sz' T (u2 I b 7 ((I b 7) + 1)) L P) : qC G 4 1 6 YX7_land [.ref b, qI l, qI n] sz T I L P Q := by
  refine qC_of (by decide +kernel) rfl rfl (Nat.le_of_ble_eq_true rfl) (fun F hF _ _ => ?_)
  have hv := hV.1
  have hPVw : P b 3 = some w := hVw ▸ hPV.w
  have hwr := hO.r (i := 0) (by omega)
  rw [hVw] at hwr
  have hW0 : q_SW T P w := by have q := hS.sw hO (i := 0) (by omega); rwa [hVw] at q
  have hW0A : q_A G w := q_Ale hA (by omega)
  have hm12 := hv.many
  have hl5 := hv.lands
  have hmo := hv.month
  have hr6 := hv.rows
  refine q_aload_n hF 0 rfl rfl dX7_land_0 ?_
  refine q_aload_n hF 0 rfl rfl dX7_land_1 ?_
  refine q_getA hF fl_RX7_26 rfl hS.t0 hPVw dX7_land_2 ?_
  refine q_getA hF fl_RX7_67 rfl hW0.t0 hW0.p0 dX7_land_5 ?_
  refine q_iload_n hF 1 rfl rfl dX7_land_8 ?_
  refine q_callV (kc := 1) (ks := 6) (mc' := 0) (ms' := 0) (h' := 0) (st := [.ref b]) hF vl_RX7_148 rfl [qI l] rfl rfl hW0.ru.t0 (by decide) (Nat.le_of_ble_eq_true rfl) dX7_land_9 ?_
  refine mX4_isLand (r := r) hW0.ru hWR.ru hv (by omega) ?_
  refine q_ifne_b hF dX7_land_12 (fun c12 => ?_) (fun c12 => ?_)
  · omega
  · refine q_iconst hF dX7_land_15 ?_
    refine q_goto hF dX7_land_16 ?_
    refine q_callV (kc := 0) (ks := 0) (mc' := 1) (ms' := 6) (h' := 0) (st := []) hF vl_RX7_77 rfl [qI 1] rfl rfl hS.t0 (by decide) (Nat.le_of_ble_eq_true rfl) dX7_land_20 ?_
    refine mX7_refuseNoSuch1 hS.t0 hA (fun sz' c20_0 => ?_)
    refine q_out hF rfl ?_
    exact k1 sz' c20_0
set_option maxRecDepth 100000 in
theorem mX7_land {G : q_G} {sz : Nat} {T : q_T} {I L : q_I} {P : q_P} {Q : q_Q} {V : Nat → Nat} {w : Nat} {r : Nat → Int} {b : Nat} {n : Int} {l mn : Nat} (hS : q_ST T P b) (hA : q_A G b) (hPV : q_PV P b V) (hO : q_OV b V) (hVw : V 0 = w) (hWR : q_WR I L w r (r 2)) (hV : g_VR r) (hmn : r 1 = (mn : Int)) (hly : (l : Int) < r 0) (hn : -2147483648 ≤ n ∧ n < 2147483648) (k2 : ∀ sz', sz ≤ sz' → ¬ (0 ≤ n ∧ n ≤ 5) → Q (.inr "java/lang/IllegalArgumentException") sz' T (u2 I b 8 ((I b 8) + 1)) L P) (k0 : (0 ≤ n ∧ n ≤ 5) → Q (.inl (some (qI (g_landQ r l mn n)))) sz T I L P) : qC G 5 1 6 YX7_land [.ref b, qI (l : Int), qI n] sz T I L P Q := by
  refine qC_of (by decide +kernel) rfl rfl (Nat.le_of_ble_eq_true rfl) (fun F hF _ _ => ?_)
  have hv := hV.1
  have hPVw : P b 3 = some w := hVw ▸ hPV.w
  have hwr := hO.r (i := 0) (by omega)
  rw [hVw] at hwr
  have hW0 : q_SW T P w := by have q := hS.sw hO (i := 0) (by omega); rwa [hVw] at q
  have hW0A : q_A G w := q_Ale hA (by omega)
  have hm12 := hv.many
  have hl5 := hv.lands
  have hmo := hv.month
  have hr6 := hv.rows
  refine q_aload_n hF 0 rfl rfl dX7_land_0 ?_
  refine q_aload_n hF 0 rfl rfl dX7_land_1 ?_
  refine q_getA hF fl_RX7_26 rfl hS.t0 hPVw dX7_land_2 ?_
  refine q_getA hF fl_RX7_67 rfl hW0.t0 hW0.p0 dX7_land_5 ?_
  refine q_iload_n hF 1 rfl rfl dX7_land_8 ?_
  refine q_callV (kc := 1) (ks := 6) (mc' := 0) (ms' := 0) (h' := 0) (st := [.ref b]) hF vl_RX7_148 rfl [qI (l : Int)] rfl rfl hW0.ru.t0 (by decide) (Nat.le_of_ble_eq_true rfl) dX7_land_9 ?_
  refine mX4_isLand (r := r) hW0.ru hWR.ru hv (by omega) ?_
  refine q_ifne_b hF dX7_land_12 (fun c12 => ?_) (fun c12 => ?_)
  · refine q_iconst hF dX7_land_19 ?_
    refine q_callV (kc := 1) (ks := 6) (mc' := 0) (ms' := 0) (h' := 0) (st := []) hF vl_RX7_77 rfl [qI 0] rfl rfl hS.t0 (by decide) (Nat.le_of_ble_eq_true rfl) dX7_land_20 ?_
    refine mX7_refuseNoSuch0 hS.t0 ?_
    refine q_aload_n hF 0 rfl rfl dX7_land_23 ?_
    refine q_iload_n hF 2 rfl rfl dX7_land_24 ?_
    refine q_iconst hF dX7_land_25 ?_
    refine q_iconst hF dX7_land_26 ?_
    refine q_callS (kc := 1) (ks := 6) (mc' := 0) (ms' := 0) (h' := 0) (st := [.ref b]) hF sl_RX7_80 rfl [qI n, qI 0, qI 5] rfl rfl (by decide) (Nat.le_of_ble_eq_true rfl) dX7_land_27 ?_
    refine mX7_isWithin (by omega) (by decide) (by decide) ?_
    refine q_ifne_b hF dX7_land_30 (fun c30 => ?_) (fun c30 => ?_)
    · refine q_iconst hF dX7_land_37 ?_
      refine q_callV (kc := 1) (ks := 6) (mc' := 0) (ms' := 0) (h' := 0) (st := []) hF vl_RX7_45 rfl [qI 0] rfl rfl hS.t0 (by decide) (Nat.le_of_ble_eq_true rfl) dX7_land_38 ?_
      refine mX7_refuseArgument0 hS.t0 ?_
      refine q_aload_n hF 0 rfl rfl dX7_land_41 ?_
      refine q_getA hF fl_RX7_26 rfl hS.t0 hPVw dX7_land_42 ?_
      refine q_getA hF fl_RX7_67 rfl hW0.t0 hW0.p0 dX7_land_45 ?_
      refine q_getA hF fl_RX7_176 rfl hW0.ru.t0 hW0.ru.p0 dX7_land_48 ?_
      refine q_iload_n hF 1 rfl rfl dX7_land_51 ?_
      refine q_aaloadv hF (b := w + 1 + 8 + 2 * l) l hW0.ru.t1 (by decide) rfl (by omega) (by decide) (hW0.ru.pl _ (by omega)) dX7_land_52 ?_
      refine q_astore_n hF (ls' := [(3, .ref (w + 1 + 8 + 2 * l)), (0, .ref b), (1, qI (l : Int)), (2, qI n)]) rfl (by decide) rfl dX7_land_53 ?_
      refine q_iload_n hF 3 rfl rfl dX7_land_54 ?_
      have c55_r := (show -2147483648 ≤ n ∧ n < 2147483648 from (by omega))
      rcases (show n = 0 ∨ n = 1 ∨ n = 2 ∨ n = 3 ∨ n = 4 ∨ (n < 0 ∨ 4 < n) from by omega) with c55 | c55 | c55 | c55 | c55 | c55
      · refine q_tableIn hF dX7_land_55 c55_r (by rw [c55]; decide) (by rw [c55]; decide) (off := 33) (by rw [c55]; rfl) (tgt := 88) rfl ?_
        refine q_aload_n hF 0 rfl rfl dX7_land_88 ?_
        refine q_getIv hF (z := r (31 + 13 * l)) fl_RX7_180 (hW0.ru.tl _ (by omega)) (hWR.ru.land _ (by omega)).2.1 dX7_land_89 ?_
        refine q_ireturn hF rfl dX7_land_92 ?_
        have q := k0 (by omega)
        rw [show (g_landQ r l mn n) = (r (31 + 13 * l)) from by unfold g_landQ; rw [if_pos (by omega), c55]; exact congrArg r (by omega)] at q; exact q
      · refine q_tableIn hF dX7_land_55 c55_r (by rw [c55]; decide) (by rw [c55]; decide) (off := 38) (by rw [c55]; rfl) (tgt := 93) rfl ?_
        refine q_aload_n hF 0 rfl rfl dX7_land_93 ?_
        refine q_getIv hF (z := r (32 + 13 * l)) fl_RX7_183 (hW0.ru.tl _ (by omega)) (hWR.ru.land _ (by omega)).2.2.1 dX7_land_94 ?_
        refine q_ireturn hF rfl dX7_land_97 ?_
        have q := k0 (by omega)
        rw [show (g_landQ r l mn n) = (r (32 + 13 * l)) from by unfold g_landQ; rw [if_pos (by omega), c55]; exact congrArg r (by omega)] at q; exact q
      · refine q_tableIn hF dX7_land_55 c55_r (by rw [c55]; decide) (by rw [c55]; decide) (off := 43) (by rw [c55]; rfl) (tgt := 98) rfl ?_
        refine q_aload_n hF 0 rfl rfl dX7_land_98 ?_
        refine q_getIv hF (z := r (33 + 13 * l)) fl_RX7_186 (hW0.ru.tl _ (by omega)) (hWR.ru.land _ (by omega)).2.2.2.1 dX7_land_99 ?_
        refine q_ireturn hF rfl dX7_land_102 ?_
        have q := k0 (by omega)
        rw [show (g_landQ r l mn n) = (r (33 + 13 * l)) from by unfold g_landQ; rw [if_pos (by omega), c55]; exact congrArg r (by omega)] at q; exact q
      · refine q_tableIn hF dX7_land_55 c55_r (by rw [c55]; decide) (by rw [c55]; decide) (off := 48) (by rw [c55]; rfl) (tgt := 103) rfl ?_
        refine q_aload_n hF 0 rfl rfl dX7_land_103 ?_
        refine q_getIv hF (z := r (34 + 13 * l)) fl_RX7_189 (hW0.ru.tl _ (by omega)) (hWR.ru.land _ (by omega)).2.2.2.2 dX7_land_104 ?_
        refine q_ireturn hF rfl dX7_land_107 ?_
        have q := k0 (by omega)
        rw [show (g_landQ r l mn n) = (r (34 + 13 * l)) from by unfold g_landQ; rw [if_pos (by omega), c55]; exact congrArg r (by omega)] at q; exact q
      · refine q_tableIn hF dX7_land_55 c55_r (by rw [c55]; decide) (by rw [c55]; decide) (off := 53) (by rw [c55]; rfl) (tgt := 108) rfl ?_
        refine q_aload_n hF 1 rfl rfl dX7_land_108 ?_
        refine q_getA hF fl_RX7_26 rfl hS.t0 hPVw dX7_land_109 ?_
        refine q_getA hF fl_RX7_67 rfl hW0.t0 hW0.p0 dX7_land_112 ?_
        refine q_iload_n hF 2 rfl rfl dX7_land_115 ?_
        refine q_callV (kc := 1) (ks := 6) (mc' := 0) (ms' := 0) (h' := 2) (st := []) hF vl_RX7_192 rfl [qI (l : Int)] rfl rfl hW0.ru.t0 (by decide) (Nat.le_of_ble_eq_true rfl) dX7_land_116 ?_
        refine mX4_kindsOf (l := l) (r := r) hW0.ru hWR.ru hv (by omega) ?_
        refine q_ireturn hF rfl dX7_land_119 ?_
        have q := k0 (by omega)
        rw [show (g_landQ r l mn n) = (g_set (fun k => 0 < r (90 + 2 * (5 * k + l))) 5) from by unfold g_landQ; first | rw [if_neg (by omega), if_pos (by omega)] | rw [if_neg (by omega), if_neg (by omega)]] at q; exact q
      · refine q_tableOut hF dX7_land_55 c55_r c55 (tgt := 120) rfl ?_
        refine q_aload_n hF 1 rfl rfl dX7_land_120 ?_
        refine q_getA hF fl_RX7_26 rfl hS.t0 hPVw dX7_land_121 ?_
        refine q_iload_n hF 2 rfl rfl dX7_land_124 ?_
        refine q_callV (kc := 1) (ks := 6) (mc' := 0) (ms' := 0) (h' := 1) (st := []) hF vl_RX7_195 rfl [qI (l : Int)] rfl rfl hW0.t0 (by decide) (Nat.le_of_ble_eq_true rfl) dX7_land_125 ?_
        refine mX6_accountsHeldBy (l := l) (r := r) (mn := mn) hW0 hWR hv hmn (fun j hj => by have q := hV.2.1 j (by omega); rwa [if_neg (Nat.not_lt_zero _)] at q) (by omega) ?_
        refine q_ireturn hF rfl dX7_land_128 ?_
        have q := k0 (by omega)
        rw [show (g_landQ r l mn n) = (g_set (fun k => r (1043 + 12 * k) = 2 ∧ r (1047 + 12 * k) = (l : Int)) mn) from by unfold g_landQ; first | rw [if_neg (by omega), if_pos (by omega)] | rw [if_neg (by omega), if_neg (by omega)]] at q; exact q
    · refine q_iconst hF dX7_land_33 ?_
      refine q_goto hF dX7_land_34 ?_
      refine q_callV (kc := 0) (ks := 0) (mc' := 1) (ms' := 6) (h' := 0) (st := []) hF vl_RX7_45 rfl [qI 1] rfl rfl hS.t0 (by decide) (Nat.le_of_ble_eq_true rfl) dX7_land_38 ?_
      refine mX7_refuseArgument1 hS.t0 hA (fun sz' c38_0 => ?_)
      refine q_out hF rfl ?_
      exact k2 sz' c38_0 (by omega)
  · omega
set_option maxRecDepth 100000 in
theorem mX7_purse0 {G : q_G} {sz : Nat} {T : q_T} {I L : q_I} {P : q_P} {Q : q_Q} {V : Nat → Nat} {w : Nat} {r : Nat → Int} {b : Nat} {l : Int} {n : Int}  (hS : q_ST T P b) (hA : q_A G b) (hPV : q_PV P b V) (hO : q_OV b V) (hVw : V 0 = w) (hWR : q_WR I L w r (r 2)) (hV : g_VR r) (hl : -2147483648 ≤ l ∧ l < 2147483648) (hn : ¬ (0 ≤ l ∧ l < r 0)) (k1 : ∀ sz', sz ≤ sz' → Q (.inr "java/util/NoSuchElementException") sz' T (u2 I b 7 ((I b 7) + 1)) L P) : qC G 4 1 6 YX7_purse [.ref b, qI l, qI n] sz T I L P Q := by
  refine qC_of (by decide +kernel) rfl rfl (Nat.le_of_ble_eq_true rfl) (fun F hF _ _ => ?_)
  have hv := hV.1
  have hPVw : P b 3 = some w := hVw ▸ hPV.w
  have hwr := hO.r (i := 0) (by omega)
  rw [hVw] at hwr
  have hW0 : q_SW T P w := by have q := hS.sw hO (i := 0) (by omega); rwa [hVw] at q
  have hW0A : q_A G w := q_Ale hA (by omega)
  have hm12 := hv.many
  have hl5 := hv.lands
  have hmo := hv.month
  have hr6 := hv.rows
  refine q_aload_n hF 0 rfl rfl dX7_purse_0 ?_
  refine q_aload_n hF 0 rfl rfl dX7_purse_1 ?_
  refine q_getA hF fl_RX7_26 rfl hS.t0 hPVw dX7_purse_2 ?_
  refine q_getA hF fl_RX7_67 rfl hW0.t0 hW0.p0 dX7_purse_5 ?_
  refine q_iload_n hF 1 rfl rfl dX7_purse_8 ?_
  refine q_callV (kc := 1) (ks := 6) (mc' := 0) (ms' := 0) (h' := 0) (st := [.ref b]) hF vl_RX7_148 rfl [qI l] rfl rfl hW0.ru.t0 (by decide) (Nat.le_of_ble_eq_true rfl) dX7_purse_9 ?_
  refine mX4_isLand (r := r) hW0.ru hWR.ru hv (by omega) ?_
  refine q_ifne_b hF dX7_purse_12 (fun c12 => ?_) (fun c12 => ?_)
  · omega
  · refine q_iconst hF dX7_purse_15 ?_
    refine q_goto hF dX7_purse_16 ?_
    refine q_callV (kc := 0) (ks := 0) (mc' := 1) (ms' := 6) (h' := 0) (st := []) hF vl_RX7_77 rfl [qI 1] rfl rfl hS.t0 (by decide) (Nat.le_of_ble_eq_true rfl) dX7_purse_20 ?_
    refine mX7_refuseNoSuch1 hS.t0 hA (fun sz' c20_0 => ?_)
    refine q_out hF rfl ?_
    exact k1 sz' c20_0
set_option maxRecDepth 100000 in
theorem mX7_purse {G : q_G} {sz : Nat} {T : q_T} {I L : q_I} {P : q_P} {Q : q_Q} {V : Nat → Nat} {w : Nat} {r : Nat → Int} {b : Nat} {n : Int} {l mn rn : Nat} (hS : q_ST T P b) (hA : q_A G b) (hPV : q_PV P b V) (hO : q_OV b V) (hVw : V 0 = w) (hWR : q_WR I L w r (r 2)) (hV : g_VR r) (hmn : r 1 = (mn : Int)) (hrn : r 6 = (rn : Int)) (hRW : g_RW r) (hly : (l : Int) < r 0) (hn : -2147483648 ≤ n ∧ n < 2147483648) (k2 : ∀ sz', sz ≤ sz' → ¬ (0 ≤ n ∧ n ≤ 3) → Q (.inr "java/lang/IllegalArgumentException") sz' T (u2 I b 8 ((I b 8) + 1)) L P) (k0 : (0 ≤ n ∧ n ≤ 3) → Q (.inl (some (qL (g_purseQ r l mn rn n)))) sz T I L P) : qC G 6 1 6 YX7_purse [.ref b, qI (l : Int), qI n] sz T I L P Q := by
  refine qC_of (by decide +kernel) rfl rfl (Nat.le_of_ble_eq_true rfl) (fun F hF _ _ => ?_)
  have hv := hV.1
  have hPVw : P b 3 = some w := hVw ▸ hPV.w
  have hwr := hO.r (i := 0) (by omega)
  rw [hVw] at hwr
  have hW0 : q_SW T P w := by have q := hS.sw hO (i := 0) (by omega); rwa [hVw] at q
  have hW0A : q_A G w := q_Ale hA (by omega)
  have hm12 := hv.many
  have hl5 := hv.lands
  have hmo := hv.month
  have hr6 := hv.rows
  refine q_aload_n hF 0 rfl rfl dX7_purse_0 ?_
  refine q_aload_n hF 0 rfl rfl dX7_purse_1 ?_
  refine q_getA hF fl_RX7_26 rfl hS.t0 hPVw dX7_purse_2 ?_
  refine q_getA hF fl_RX7_67 rfl hW0.t0 hW0.p0 dX7_purse_5 ?_
  refine q_iload_n hF 1 rfl rfl dX7_purse_8 ?_
  refine q_callV (kc := 1) (ks := 6) (mc' := 0) (ms' := 0) (h' := 0) (st := [.ref b]) hF vl_RX7_148 rfl [qI (l : Int)] rfl rfl hW0.ru.t0 (by decide) (Nat.le_of_ble_eq_true rfl) dX7_purse_9 ?_
  refine mX4_isLand (r := r) hW0.ru hWR.ru hv (by omega) ?_
  refine q_ifne_b hF dX7_purse_12 (fun c12 => ?_) (fun c12 => ?_)
  · refine q_iconst hF dX7_purse_19 ?_
    refine q_callV (kc := 1) (ks := 6) (mc' := 0) (ms' := 0) (h' := 0) (st := []) hF vl_RX7_77 rfl [qI 0] rfl rfl hS.t0 (by decide) (Nat.le_of_ble_eq_true rfl) dX7_purse_20 ?_
    refine mX7_refuseNoSuch0 hS.t0 ?_
    refine q_aload_n hF 0 rfl rfl dX7_purse_23 ?_
    refine q_iload_n hF 2 rfl rfl dX7_purse_24 ?_
    refine q_iconst hF dX7_purse_25 ?_
    refine q_iconst hF dX7_purse_26 ?_
    refine q_callS (kc := 1) (ks := 6) (mc' := 0) (ms' := 0) (h' := 0) (st := [.ref b]) hF sl_RX7_80 rfl [qI n, qI 0, qI 3] rfl rfl (by decide) (Nat.le_of_ble_eq_true rfl) dX7_purse_27 ?_
    refine mX7_isWithin (by omega) (by decide) (by decide) ?_
    refine q_ifne_b hF dX7_purse_30 (fun c30 => ?_) (fun c30 => ?_)
    · refine q_iconst hF dX7_purse_37 ?_
      refine q_callV (kc := 1) (ks := 6) (mc' := 0) (ms' := 0) (h' := 0) (st := []) hF vl_RX7_45 rfl [qI 0] rfl rfl hS.t0 (by decide) (Nat.le_of_ble_eq_true rfl) dX7_purse_38 ?_
      refine mX7_refuseArgument0 hS.t0 ?_
      refine q_iload_n hF 2 rfl rfl dX7_purse_41 ?_
      have c42_r := (show -2147483648 ≤ n ∧ n < 2147483648 from (by omega))
      rcases (show n = 0 ∨ n = 1 ∨ n = 2 ∨ (n < 0 ∨ 2 < n) from by omega) with c42 | c42 | c42 | c42
      · refine q_tableIn hF dX7_purse_42 c42_r (by rw [c42]; decide) (by rw [c42]; decide) (off := 26) (by rw [c42]; rfl) (tgt := 68) rfl ?_
        refine q_aload_n hF 0 rfl rfl dX7_purse_68 ?_
        refine q_getA hF fl_RX7_26 rfl hS.t0 hPVw dX7_purse_69 ?_
        refine q_iload_n hF 1 rfl rfl dX7_purse_72 ?_
        refine q_callV (kc := 1) (ks := 6) (mc' := 0) (ms' := 0) (h' := 1) (st := []) hF vl_RX7_198 rfl [qI (l : Int)] rfl rfl hW0.t0 (by decide) (Nat.le_of_ble_eq_true rfl) dX7_purse_73 ?_
        refine mX6_centsHeldBy (l := l) (r := r) (mn := mn) hW0 hWR hv hmn (fun j hj => by have q := hV.2.1 j (by omega); rwa [if_neg (Nat.not_lt_zero _)] at q) (by omega) ?_
        refine q_lreturn hF rfl dX7_purse_76 ?_
        have q := k0 (by omega)
        rw [show (g_purseQ r l mn rn n) = (g_sum (g_heldC r (l : Int)) mn) from by unfold g_purseQ; first | rw [if_pos (by omega)] | rw [if_neg (by omega), if_pos (by omega)] | rw [if_neg (by omega), if_neg (by omega), if_pos (by omega)] | rw [if_neg (by omega), if_neg (by omega), if_neg (by omega)]] at q; exact q
      · refine q_tableIn hF dX7_purse_42 c42_r (by rw [c42]; decide) (by rw [c42]; decide) (off := 35) (by rw [c42]; rfl) (tgt := 77) rfl ?_
        refine q_aload_n hF 0 rfl rfl dX7_purse_77 ?_
        refine q_getA hF fl_RX7_26 rfl hS.t0 hPVw dX7_purse_78 ?_
        refine q_getA hF fl_RX7_202 rfl hW0.t0 hW0.p6 dX7_purse_81 ?_
        refine q_iload_n hF 1 rfl rfl dX7_purse_84 ?_
        refine q_laloadv hF (z := r (35 + 13 * l)) (n := 5) l hW0.t33 rfl (by omega) (by decide) (hWR.paid _ (by omega)) dX7_purse_85 ?_
        refine q_lreturn hF rfl dX7_purse_86 ?_
        have q := k0 (by omega)
        rw [show (g_purseQ r l mn rn n) = (r (35 + 13 * l)) from by unfold g_purseQ; first | rw [if_pos (by omega)] | rw [if_neg (by omega), if_pos (by omega)] | rw [if_neg (by omega), if_neg (by omega), if_pos (by omega)] | rw [if_neg (by omega), if_neg (by omega), if_neg (by omega)]] at q; exact q
      · refine q_tableIn hF dX7_purse_42 c42_r (by rw [c42]; decide) (by rw [c42]; decide) (off := 45) (by rw [c42]; rfl) (tgt := 87) rfl ?_
        refine q_aload_n hF 0 rfl rfl dX7_purse_87 ?_
        refine q_getA hF fl_RX7_26 rfl hS.t0 hPVw dX7_purse_88 ?_
        refine q_iload_n hF 1 rfl rfl dX7_purse_91 ?_
        refine q_callV (kc := 1) (ks := 6) (mc' := 0) (ms' := 0) (h' := 1) (st := []) hF vl_RX7_206 rfl [qI (l : Int)] rfl rfl hW0.t0 (by decide) (Nat.le_of_ble_eq_true rfl) dX7_purse_92 ?_
        refine mX6_centsInRowsOf (l := l) (r := r) (rn := rn) hW0 hWR hv hrn hRW (by omega) ?_
        refine q_lreturn hF rfl dX7_purse_95 ?_
        have q := k0 (by omega)
        rw [show (g_purseQ r l mn rn n) = (g_sum (g_rowC r (l : Int)) rn) from by unfold g_purseQ; first | rw [if_pos (by omega)] | rw [if_neg (by omega), if_pos (by omega)] | rw [if_neg (by omega), if_neg (by omega), if_pos (by omega)] | rw [if_neg (by omega), if_neg (by omega), if_neg (by omega)]] at q; exact q
      · refine q_tableOut hF dX7_purse_42 c42_r c42 (tgt := 96) rfl ?_
        refine q_aload_n hF 0 rfl rfl dX7_purse_96 ?_
        refine q_getA hF fl_RX7_26 rfl hS.t0 hPVw dX7_purse_97 ?_
        refine q_getA hF fl_RX7_209 rfl hW0.t0 hW0.p7 dX7_purse_100 ?_
        refine q_iload_n hF 1 rfl rfl dX7_purse_103 ?_
        refine q_laloadv hF (z := r (36 + 13 * l)) (n := 5) l hW0.t34 rfl (by omega) (by decide) (hWR.pass _ (by omega)) dX7_purse_104 ?_
        refine q_lreturn hF rfl dX7_purse_105 ?_
        have q := k0 (by omega)
        rw [show (g_purseQ r l mn rn n) = (r (36 + 13 * l)) from by unfold g_purseQ; first | rw [if_pos (by omega)] | rw [if_neg (by omega), if_pos (by omega)] | rw [if_neg (by omega), if_neg (by omega), if_pos (by omega)] | rw [if_neg (by omega), if_neg (by omega), if_neg (by omega)]] at q; exact q
    · refine q_iconst hF dX7_purse_33 ?_
      refine q_goto hF dX7_purse_34 ?_
      refine q_callV (kc := 0) (ks := 0) (mc' := 1) (ms' := 6) (h' := 0) (st := []) hF vl_RX7_45 rfl [qI 1] rfl rfl hS.t0 (by decide) (Nat.le_of_ble_eq_true rfl) dX7_purse_38 ?_
      refine mX7_refuseArgument1 hS.t0 hA (fun sz' c38_0 => ?_)
      refine q_out hF rfl ?_
      exact k2 sz' c38_0 (by omega)
  · omega
set_option maxRecDepth 100000 in
theorem mX7_letter0 {G : q_G} {sz : Nat} {T : q_T} {I L : q_I} {P : q_P} {Q : q_Q} {V : Nat → Nat} {w : Nat} {r : Nat → Int} {b : Nat} {l : Int} {n : Int}  (hS : q_ST T P b) (hA : q_A G b) (hPV : q_PV P b V) (hO : q_OV b V) (hVw : V 0 = w) (hWR : q_WR I L w r (r 2)) (hV : g_VR r) (hl : -2147483648 ≤ l ∧ l < 2147483648) (hn : ¬ (0 ≤ l ∧ l < r 0)) (k1 : ∀ sz', sz ≤ sz' → Q (.inr "java/util/NoSuchElementException") sz' T (u2 I b 7 ((I b 7) + 1)) L P) : qC G 4 1 6 YX7_letter [.ref b, qI l, qI n] sz T I L P Q := by
  refine qC_of (by decide +kernel) rfl rfl (Nat.le_of_ble_eq_true rfl) (fun F hF _ _ => ?_)
  have hv := hV.1
  have hPVw : P b 3 = some w := hVw ▸ hPV.w
  have hwr := hO.r (i := 0) (by omega)
  rw [hVw] at hwr
  have hW0 : q_SW T P w := by have q := hS.sw hO (i := 0) (by omega); rwa [hVw] at q
  have hW0A : q_A G w := q_Ale hA (by omega)
  have hm12 := hv.many
  have hl5 := hv.lands
  have hmo := hv.month
  have hr6 := hv.rows
  refine q_aload_n hF 0 rfl rfl dX7_letter_0 ?_
  refine q_aload_n hF 0 rfl rfl dX7_letter_1 ?_
  refine q_getA hF fl_RX7_26 rfl hS.t0 hPVw dX7_letter_2 ?_
  refine q_getA hF fl_RX7_67 rfl hW0.t0 hW0.p0 dX7_letter_5 ?_
  refine q_iload_n hF 1 rfl rfl dX7_letter_8 ?_
  refine q_callV (kc := 1) (ks := 6) (mc' := 0) (ms' := 0) (h' := 0) (st := [.ref b]) hF vl_RX7_148 rfl [qI l] rfl rfl hW0.ru.t0 (by decide) (Nat.le_of_ble_eq_true rfl) dX7_letter_9 ?_
  refine mX4_isLand (r := r) hW0.ru hWR.ru hv (by omega) ?_
  refine q_ifne_b hF dX7_letter_12 (fun c12 => ?_) (fun c12 => ?_)
  · omega
  · refine q_iconst hF dX7_letter_15 ?_
    refine q_goto hF dX7_letter_16 ?_
    refine q_callV (kc := 0) (ks := 0) (mc' := 1) (ms' := 6) (h' := 0) (st := []) hF vl_RX7_77 rfl [qI 1] rfl rfl hS.t0 (by decide) (Nat.le_of_ble_eq_true rfl) dX7_letter_20 ?_
    refine mX7_refuseNoSuch1 hS.t0 hA (fun sz' c20_0 => ?_)
    refine q_out hF rfl ?_
    exact k1 sz' c20_0
set_option maxRecDepth 100000 in
theorem mX7_letter {G : q_G} {sz : Nat} {T : q_T} {I L : q_I} {P : q_P} {Q : q_Q} {V : Nat → Nat} {w : Nat} {r : Nat → Int} {b : Nat} {n : Int} {l : Nat} (hS : q_ST T P b) (hA : q_A G b) (hPV : q_PV P b V) (hO : q_OV b V) (hVw : V 0 = w) (hWR : q_WR I L w r (r 2)) (hV : g_VR r) (hly : (l : Int) < r 0) (hn : -2147483648 ≤ n ∧ n < 2147483648) (k1 : ∀ sz', sz ≤ sz' → ¬ (0 ≤ n ∧ n < r (30 + 13 * l)) → Q (.inr "java/util/NoSuchElementException") sz' T (u2 I b 7 ((I b 7) + 1)) L P) (k0 : (0 ≤ n ∧ n < r (30 + 13 * l)) → Q (.inl (some (qI (r (24 + 13 * l + n.toNat))))) sz T I L P) : qC G 4 1 6 YX7_letter [.ref b, qI (l : Int), qI n] sz T I L P Q := by
  refine qC_of (by decide +kernel) rfl rfl (Nat.le_of_ble_eq_true rfl) (fun F hF _ _ => ?_)
  have hv := hV.1
  have hPVw : P b 3 = some w := hVw ▸ hPV.w
  have hwr := hO.r (i := 0) (by omega)
  rw [hVw] at hwr
  have hW0 : q_SW T P w := by have q := hS.sw hO (i := 0) (by omega); rwa [hVw] at q
  have hW0A : q_A G w := q_Ale hA (by omega)
  have hm12 := hv.many
  have hl5 := hv.lands
  have hmo := hv.month
  have hr6 := hv.rows
  refine q_aload_n hF 0 rfl rfl dX7_letter_0 ?_
  refine q_aload_n hF 0 rfl rfl dX7_letter_1 ?_
  refine q_getA hF fl_RX7_26 rfl hS.t0 hPVw dX7_letter_2 ?_
  refine q_getA hF fl_RX7_67 rfl hW0.t0 hW0.p0 dX7_letter_5 ?_
  refine q_iload_n hF 1 rfl rfl dX7_letter_8 ?_
  refine q_callV (kc := 1) (ks := 6) (mc' := 0) (ms' := 0) (h' := 0) (st := [.ref b]) hF vl_RX7_148 rfl [qI (l : Int)] rfl rfl hW0.ru.t0 (by decide) (Nat.le_of_ble_eq_true rfl) dX7_letter_9 ?_
  refine mX4_isLand (r := r) hW0.ru hWR.ru hv (by omega) ?_
  refine q_ifne_b hF dX7_letter_12 (fun c12 => ?_) (fun c12 => ?_)
  · refine q_iconst hF dX7_letter_19 ?_
    refine q_callV (kc := 1) (ks := 6) (mc' := 0) (ms' := 0) (h' := 0) (st := []) hF vl_RX7_77 rfl [qI 0] rfl rfl hS.t0 (by decide) (Nat.le_of_ble_eq_true rfl) dX7_letter_20 ?_
    refine mX7_refuseNoSuch0 hS.t0 ?_
    refine q_aload_n hF 0 rfl rfl dX7_letter_23 ?_
    refine q_getA hF fl_RX7_26 rfl hS.t0 hPVw dX7_letter_24 ?_
    refine q_getA hF fl_RX7_67 rfl hW0.t0 hW0.p0 dX7_letter_27 ?_
    refine q_getA hF fl_RX7_176 rfl hW0.ru.t0 hW0.ru.p0 dX7_letter_30 ?_
    refine q_iload_n hF 1 rfl rfl dX7_letter_33 ?_
    refine q_aaloadv hF (b := w + 1 + 8 + 2 * l) l hW0.ru.t1 (by decide) rfl (by omega) (by decide) (hW0.ru.pl _ (by omega)) dX7_letter_34 ?_
    refine q_astore_n hF (ls' := [(3, .ref (w + 1 + 8 + 2 * l)), (0, .ref b), (1, qI (l : Int)), (2, qI n)]) rfl (by decide) rfl dX7_letter_35 ?_
    have hln := (hv.land l hly).2.2.2.2
    refine q_aload_n hF 1 rfl rfl dX7_letter_36 ?_
    refine q_aload_n hF 0 rfl rfl dX7_letter_37 ?_
    refine q_iload_n hF 3 rfl rfl dX7_letter_38 ?_
    refine q_callV (kc := 1) (ks := 6) (mc' := 0) (ms' := 0) (h' := 0) (st := [.ref b]) hF vl_RX7_212 rfl [qI n] rfl rfl (hW0.ru.tl _ (by omega)) (by decide) (Nat.le_of_ble_eq_true rfl) dX7_letter_39 ?_
    refine mX2_hasLetter (vv := (r (30 + 13 * l))) (hW0.ru.tl _ (by omega)) (hWR.ru.land _ (by omega)).1 (by omega) (by omega) ?_
    refine q_ifne_b hF dX7_letter_42 (fun c42 => ?_) (fun c42 => ?_)
    · refine q_iconst hF dX7_letter_49 ?_
      refine q_callV (kc := 1) (ks := 6) (mc' := 0) (ms' := 0) (h' := 0) (st := []) hF vl_RX7_77 rfl [qI 0] rfl rfl hS.t0 (by decide) (Nat.le_of_ble_eq_true rfl) dX7_letter_50 ?_
      refine mX7_refuseNoSuch0 hS.t0 ?_
      refine q_aload_n hF 0 rfl rfl dX7_letter_53 ?_
      refine q_getA hF fl_RX7_215 rfl (hW0.ru.tl _ (by omega)) (hW0.ru.pn _ (by omega)) dX7_letter_54 ?_
      refine q_iload_n hF 3 rfl rfl dX7_letter_57 ?_
      refine q_ialoadv hF (z := r (24 + 13 * l + (n).toNat)) (n := 6) ((n).toNat) (hW0.ru.tn _ (by omega)) (by omega) (by omega) (by decide) (hWR.ru.name _ _ (by omega) (by omega)) dX7_letter_58 ?_
      refine q_ireturn hF rfl dX7_letter_59 ?_
      exact k0 (by omega)
    · refine q_iconst hF dX7_letter_45 ?_
      refine q_goto hF dX7_letter_46 ?_
      refine q_callV (kc := 0) (ks := 0) (mc' := 1) (ms' := 6) (h' := 0) (st := []) hF vl_RX7_77 rfl [qI 1] rfl rfl hS.t0 (by decide) (Nat.le_of_ble_eq_true rfl) dX7_letter_50 ?_
      refine mX7_refuseNoSuch1 hS.t0 hA (fun sz' c50_0 => ?_)
      refine q_out hF rfl ?_
      exact k1 sz' c50_0 (by omega)
  · omega
set_option maxRecDepth 100000 in
theorem mX7_account0 {G : q_G} {sz : Nat} {T : q_T} {I L : q_I} {P : q_P} {Q : q_Q} {V : Nat → Nat} {w : Nat} {r : Nat → Int} {b : Nat} {a : Int} {n : Int}  (hS : q_ST T P b) (hA : q_A G b) (hPV : q_PV P b V) (hO : q_OV b V) (hVw : V 0 = w) (hWR : q_WR I L w r (r 2)) (hV : g_VR r) (ha : -2147483648 ≤ a ∧ a < 2147483648) (hn : ¬ (0 ≤ a ∧ a < r 1)) (k1 : ∀ sz', sz ≤ sz' → Q (.inr "java/util/NoSuchElementException") sz' T (u2 I b 7 ((I b 7) + 1)) L P) : qC G 4 1 6 YX7_account [.ref b, qI a, qI n] sz T I L P Q := by
  refine qC_of (by decide +kernel) rfl rfl (Nat.le_of_ble_eq_true rfl) (fun F hF _ _ => ?_)
  have hv := hV.1
  have hPVw : P b 3 = some w := hVw ▸ hPV.w
  have hwr := hO.r (i := 0) (by omega)
  rw [hVw] at hwr
  have hW0 : q_SW T P w := by have q := hS.sw hO (i := 0) (by omega); rwa [hVw] at q
  have hW0A : q_A G w := q_Ale hA (by omega)
  have hm12 := hv.many
  have hl5 := hv.lands
  have hmo := hv.month
  have hr6 := hv.rows
  refine q_aload_n hF 0 rfl rfl dX7_account_0 ?_
  refine q_aload_n hF 0 rfl rfl dX7_account_1 ?_
  refine q_getA hF fl_RX7_26 rfl hS.t0 hPVw dX7_account_2 ?_
  refine q_iload_n hF 1 rfl rfl dX7_account_5 ?_
  refine q_callV (kc := 1) (ks := 6) (mc' := 0) (ms' := 0) (h' := 0) (st := [.ref b]) hF vl_RX7_101 rfl [qI a] rfl rfl hW0.t0 (by decide) (Nat.le_of_ble_eq_true rfl) dX7_account_6 ?_
  refine mX6_hasAccount (r := r) hW0 hWR hv (by omega) ?_
  refine q_ifne_b hF dX7_account_9 (fun c9 => ?_) (fun c9 => ?_)
  · omega
  · refine q_iconst hF dX7_account_12 ?_
    refine q_goto hF dX7_account_13 ?_
    refine q_callV (kc := 0) (ks := 0) (mc' := 1) (ms' := 6) (h' := 0) (st := []) hF vl_RX7_77 rfl [qI 1] rfl rfl hS.t0 (by decide) (Nat.le_of_ble_eq_true rfl) dX7_account_17 ?_
    refine mX7_refuseNoSuch1 hS.t0 hA (fun sz' c17_0 => ?_)
    refine q_out hF rfl ?_
    exact k1 sz' c17_0
set_option maxRecDepth 100000 in
theorem mX7_account {G : q_G} {sz : Nat} {T : q_T} {I L : q_I} {P : q_P} {Q : q_Q} {V : Nat → Nat} {w : Nat} {r : Nat → Int} {b : Nat} {n : Int} {i : Nat} (hS : q_ST T P b) (hA : q_A G b) (hPV : q_PV P b V) (hO : q_OV b V) (hVw : V 0 = w) (hWR : q_WR I L w r (r 2)) (hV : g_VR r) (hy : (i : Int) < r 1) (hn : -2147483648 ≤ n ∧ n < 2147483648) (k2 : ∀ sz', sz ≤ sz' → ¬ (0 ≤ n ∧ n ≤ 10) → Q (.inr "java/lang/IllegalArgumentException") sz' T (u2 I b 8 ((I b 8) + 1)) L P) (k0 : (0 ≤ n ∧ n ≤ 10) → Q (.inl (some (qI (g_account r i n)))) sz T I L P) : qC G 4 1 6 YX7_account [.ref b, qI (i : Int), qI n] sz T I L P Q := by
  refine qC_of (by decide +kernel) rfl rfl (Nat.le_of_ble_eq_true rfl) (fun F hF _ _ => ?_)
  have hv := hV.1
  have hPVw : P b 3 = some w := hVw ▸ hPV.w
  have hwr := hO.r (i := 0) (by omega)
  rw [hVw] at hwr
  have hW0 : q_SW T P w := by have q := hS.sw hO (i := 0) (by omega); rwa [hVw] at q
  have hW0A : q_A G w := q_Ale hA (by omega)
  have hm12 := hv.many
  have hl5 := hv.lands
  have hmo := hv.month
  have hr6 := hv.rows
  have hVA := hV.2.1 i hy
  rw [if_neg (Nat.not_lt_zero _)] at hVA
  have hva1 := hVA.state
  have hva2 := hVA.cents
  have hva3 := hVA.since
  have hva4 := hVA.holder
  have hva5 := hVA.nl
  have hva6 := hVA.age
  have hva7 := hVA.wrote
  have hva8 := hVA.lat
  have hva9 := hVA.addr
  have hva10 := hVA.birth
  have hva11 := hVA.kind
  refine q_aload_n hF 0 rfl rfl dX7_account_0 ?_
  refine q_aload_n hF 0 rfl rfl dX7_account_1 ?_
  refine q_getA hF fl_RX7_26 rfl hS.t0 hPVw dX7_account_2 ?_
  refine q_iload_n hF 1 rfl rfl dX7_account_5 ?_
  refine q_callV (kc := 1) (ks := 6) (mc' := 0) (ms' := 0) (h' := 0) (st := [.ref b]) hF vl_RX7_101 rfl [qI (i : Int)] rfl rfl hW0.t0 (by decide) (Nat.le_of_ble_eq_true rfl) dX7_account_6 ?_
  refine mX6_hasAccount (r := r) hW0 hWR hv (by omega) ?_
  refine q_ifne_b hF dX7_account_9 (fun c9 => ?_) (fun c9 => ?_)
  · refine q_iconst hF dX7_account_16 ?_
    refine q_callV (kc := 1) (ks := 6) (mc' := 0) (ms' := 0) (h' := 0) (st := []) hF vl_RX7_77 rfl [qI 0] rfl rfl hS.t0 (by decide) (Nat.le_of_ble_eq_true rfl) dX7_account_17 ?_
    refine mX7_refuseNoSuch0 hS.t0 ?_
    refine q_aload_n hF 0 rfl rfl dX7_account_20 ?_
    refine q_iload_n hF 2 rfl rfl dX7_account_21 ?_
    refine q_iconst hF dX7_account_22 ?_
    refine q_bipush hF (n := 10) rfl dX7_account_23 ?_
    refine q_callS (kc := 1) (ks := 6) (mc' := 0) (ms' := 0) (h' := 0) (st := [.ref b]) hF sl_RX7_80 rfl [qI n, qI 0, qI 10] rfl rfl (by decide) (Nat.le_of_ble_eq_true rfl) dX7_account_25 ?_
    refine mX7_isWithin (by omega) (by decide) (by decide) ?_
    refine q_ifne_b hF dX7_account_28 (fun c28 => ?_) (fun c28 => ?_)
    · refine q_iconst hF dX7_account_35 ?_
      refine q_callV (kc := 1) (ks := 6) (mc' := 0) (ms' := 0) (h' := 0) (st := []) hF vl_RX7_45 rfl [qI 0] rfl rfl hS.t0 (by decide) (Nat.le_of_ble_eq_true rfl) dX7_account_36 ?_
      refine mX7_refuseArgument0 hS.t0 ?_
      refine q_aload_n hF 0 rfl rfl dX7_account_39 ?_
      refine q_getA hF fl_RX7_26 rfl hS.t0 hPVw dX7_account_40 ?_
      refine q_getA hF fl_RX7_91 rfl hW0.t0 hW0.p1 dX7_account_43 ?_
      refine q_iload_n hF 1 rfl rfl dX7_account_46 ?_
      refine q_aaloadv hF (b := w + 35 + i) i hW0.t19 (by decide) rfl (by omega) (by decide) (hW0.pa _ (by omega)) dX7_account_47 ?_
      refine q_astore_n hF (ls' := [(3, .ref (w + 35 + i)), (0, .ref b), (1, qI (i : Int)), (2, qI n)]) rfl (by decide) rfl dX7_account_48 ?_
      refine q_iload_n hF 3 rfl rfl dX7_account_49 ?_
      have c50_r := (show -2147483648 ≤ n ∧ n < 2147483648 from (by omega))
      rcases (show n = 0 ∨ n = 1 ∨ n = 2 ∨ n = 3 ∨ n = 4 ∨ n = 5 ∨ n = 6 ∨ n = 7 ∨ n = 8 ∨ n = 9 ∨ (n < 0 ∨ 9 < n) from by omega) with c50 | c50 | c50 | c50 | c50 | c50 | c50 | c50 | c50 | c50 | c50
      · refine q_tableIn hF dX7_account_50 c50_r (by rw [c50]; decide) (by rw [c50]; decide) (off := 54) (by rw [c50]; rfl) (tgt := 104) rfl ?_
        refine q_aload_n hF 0 rfl rfl dX7_account_104 ?_
        refine q_getIv hF (z := r (1039 + 12 * i)) fl_RX7_222 (hW0.ta _ (by omega)) (hWR.acc _ hy).kind dX7_account_105 ?_
        refine q_ireturn hF rfl dX7_account_108 ?_
        have q := k0 (by omega)
        rw [show (g_account r i n) = (r (1039 + 12 * i)) from by unfold g_account; rw [if_neg (by omega), c50]; exact congrArg r (by omega)] at q; exact q
      · refine q_tableIn hF dX7_account_50 c50_r (by rw [c50]; decide) (by rw [c50]; decide) (off := 59) (by rw [c50]; rfl) (tgt := 109) rfl ?_
        refine q_aload_n hF 0 rfl rfl dX7_account_109 ?_
        refine q_getIv hF (z := r (1040 + 12 * i)) fl_RX7_124 (hW0.ta _ (by omega)) (hWR.acc _ hy).addr dX7_account_110 ?_
        refine q_ireturn hF rfl dX7_account_113 ?_
        have q := k0 (by omega)
        rw [show (g_account r i n) = (r (1040 + 12 * i)) from by unfold g_account; rw [if_neg (by omega), c50]; exact congrArg r (by omega)] at q; exact q
      · refine q_tableIn hF dX7_account_50 c50_r (by rw [c50]; decide) (by rw [c50]; decide) (off := 64) (by rw [c50]; rfl) (tgt := 114) rfl ?_
        refine q_aload_n hF 0 rfl rfl dX7_account_114 ?_
        refine q_getIv hF (z := r (1041 + 12 * i)) fl_RX7_225 (hW0.ta _ (by omega)) (hWR.acc _ hy).birth dX7_account_115 ?_
        refine q_ireturn hF rfl dX7_account_118 ?_
        have q := k0 (by omega)
        rw [show (g_account r i n) = (r (1041 + 12 * i)) from by unfold g_account; rw [if_neg (by omega), c50]; exact congrArg r (by omega)] at q; exact q
      · refine q_tableIn hF dX7_account_50 c50_r (by rw [c50]; decide) (by rw [c50]; decide) (off := 69) (by rw [c50]; rfl) (tgt := 119) rfl ?_
        refine q_aload_n hF 0 rfl rfl dX7_account_119 ?_
        refine q_getIv hF (z := r (1042 + 12 * i)) fl_RX7_115 (hW0.ta _ (by omega)) (hWR.acc _ hy).cents dX7_account_120 ?_
        refine q_ireturn hF rfl dX7_account_123 ?_
        have q := k0 (by omega)
        rw [show (g_account r i n) = (r (1042 + 12 * i)) from by unfold g_account; rw [if_neg (by omega), c50]; exact congrArg r (by omega)] at q; exact q
      · refine q_tableIn hF dX7_account_50 c50_r (by rw [c50]; decide) (by rw [c50]; decide) (off := 74) (by rw [c50]; rfl) (tgt := 124) rfl ?_
        refine q_aload_n hF 0 rfl rfl dX7_account_124 ?_
        refine q_getIv hF (z := r (1043 + 12 * i)) fl_RX7_127 (hW0.ta _ (by omega)) (hWR.acc _ hy).state dX7_account_125 ?_
        refine q_ireturn hF rfl dX7_account_128 ?_
        have q := k0 (by omega)
        rw [show (g_account r i n) = (r (1043 + 12 * i)) from by unfold g_account; rw [if_neg (by omega), c50]; exact congrArg r (by omega)] at q; exact q
      · refine q_tableIn hF dX7_account_50 c50_r (by rw [c50]; decide) (by rw [c50]; decide) (off := 79) (by rw [c50]; rfl) (tgt := 129) rfl ?_
        refine q_aload_n hF 0 rfl rfl dX7_account_129 ?_
        refine q_getIv hF (z := r (1044 + 12 * i)) fl_RX7_228 (hW0.ta _ (by omega)) (hWR.acc _ hy).age dX7_account_130 ?_
        refine q_ireturn hF rfl dX7_account_133 ?_
        have q := k0 (by omega)
        rw [show (g_account r i n) = (r (1044 + 12 * i)) from by unfold g_account; rw [if_neg (by omega), c50]; exact congrArg r (by omega)] at q; exact q
      · refine q_tableIn hF dX7_account_50 c50_r (by rw [c50]; decide) (by rw [c50]; decide) (off := 84) (by rw [c50]; rfl) (tgt := 134) rfl ?_
        refine q_aload_n hF 0 rfl rfl dX7_account_134 ?_
        refine q_getIv hF (z := r (1045 + 12 * i)) fl_RX7_108 (hW0.ta _ (by omega)) (hWR.acc _ hy).since dX7_account_135 ?_
        refine q_ireturn hF rfl dX7_account_138 ?_
        have q := k0 (by omega)
        rw [show (g_account r i n) = (r (1045 + 12 * i)) from by unfold g_account; rw [if_neg (by omega), c50]; exact congrArg r (by omega)] at q; exact q
      · refine q_tableIn hF dX7_account_50 c50_r (by rw [c50]; decide) (by rw [c50]; decide) (off := 89) (by rw [c50]; rfl) (tgt := 139) rfl ?_
        refine q_aload_n hF 0 rfl rfl dX7_account_139 ?_
        refine q_getIv hF (z := r (1046 + 12 * i)) fl_RX7_231 (hW0.ta _ (by omega)) (hWR.acc _ hy).wrote dX7_account_140 ?_
        refine q_ireturn hF rfl dX7_account_143 ?_
        have q := k0 (by omega)
        rw [show (g_account r i n) = (r (1046 + 12 * i)) from by unfold g_account; rw [if_neg (by omega), c50]; exact congrArg r (by omega)] at q; exact q
      · refine q_tableIn hF dX7_account_50 c50_r (by rw [c50]; decide) (by rw [c50]; decide) (off := 94) (by rw [c50]; rfl) (tgt := 144) rfl ?_
        refine q_aload_n hF 1 rfl rfl dX7_account_144 ?_
        refine q_getA hF fl_RX7_26 rfl hS.t0 hPVw dX7_account_145 ?_
        refine q_aload_n hF 0 rfl rfl dX7_account_148 ?_
        refine q_callV (kc := 1) (ks := 6) (mc' := 0) (ms' := 0) (h' := 3) (st := []) hF vl_RX7_234 rfl [.ref (w + 35 + i)] rfl rfl hW0.t0 (by decide) (Nat.le_of_ble_eq_true rfl) dX7_account_149 ?_
        refine mX6_landNowOf (r := r) (a := i) hW0 hWR hv (hW0.ta _ (by omega)) (hWR.acc _ hy) hVA ?_
        refine q_ireturn hF rfl dX7_account_152 ?_
        have q := k0 (by omega)
        rw [show (g_account r i n) = (g_landNow r i) from by unfold g_account; rw [if_pos (by omega)]; rfl] at q; exact q
      · refine q_tableIn hF dX7_account_50 c50_r (by rw [c50]; decide) (by rw [c50]; decide) (off := 103) (by rw [c50]; rfl) (tgt := 153) rfl ?_
        refine q_aload_n hF 0 rfl rfl dX7_account_153 ?_
        refine q_getIv hF (z := r (1048 + 12 * i)) fl_RX7_237 (hW0.ta _ (by omega)) (hWR.acc _ hy).lat dX7_account_154 ?_
        refine q_ireturn hF rfl dX7_account_157 ?_
        have q := k0 (by omega)
        rw [show (g_account r i n) = (r (1048 + 12 * i)) from by unfold g_account; rw [if_neg (by omega), c50]; exact congrArg r (by omega)] at q; exact q
      · refine q_tableOut hF dX7_account_50 c50_r c50 (tgt := 158) rfl ?_
        refine q_aload_n hF 0 rfl rfl dX7_account_158 ?_
        refine q_getZv hF (z := r (1049 + 12 * i)) fl_RX7_240 (hW0.ta _ (by omega)) (hWR.acc _ hy).nl dX7_account_159 ?_
        refine q_ifeq hF (by omega) dX7_account_162 (fun c162 => ?_) (fun c162 => ?_)
        · refine q_iconst hF dX7_account_169 ?_
          refine q_ireturn hF rfl dX7_account_170 ?_
          have q := k0 (by omega)
          rw [show (g_account r i n) = 0 from by unfold g_account; rw [if_neg (by omega), show 1039 + 12 * i + n.toNat = 1049 + 12 * i by omega]; omega] at q; exact q
        · refine q_iconst hF dX7_account_165 ?_
          refine q_goto hF dX7_account_166 ?_
          refine q_ireturn hF rfl dX7_account_170 ?_
          have q := k0 (by omega)
          rw [show (g_account r i n) = 1 from by unfold g_account; rw [if_neg (by omega), show 1039 + 12 * i + n.toNat = 1049 + 12 * i by omega]; omega] at q; exact q
    · refine q_iconst hF dX7_account_31 ?_
      refine q_goto hF dX7_account_32 ?_
      refine q_callV (kc := 0) (ks := 0) (mc' := 1) (ms' := 6) (h' := 0) (st := []) hF vl_RX7_45 rfl [qI 1] rfl rfl hS.t0 (by decide) (Nat.le_of_ble_eq_true rfl) dX7_account_36 ?_
      refine mX7_refuseArgument1 hS.t0 hA (fun sz' c36_0 => ?_)
      refine q_out hF rfl ?_
      exact k2 sz' c36_0 (by omega)
  · omega
set_option maxRecDepth 100000 in
theorem mX7_sleep0 {G : q_G} {sz : Nat} {T : q_T} {I L : q_I} {P : q_P} {Q : q_Q} {V : Nat → Nat} {w : Nat} {r : Nat → Int} {b : Nat} {a : Int}  (hS : q_ST T P b) (hA : q_A G b) (hPV : q_PV P b V) (hO : q_OV b V) (hVw : V 0 = w) (hWR : q_WR I L w r (r 2)) (hV : g_VR r) (ha : -2147483648 ≤ a ∧ a < 2147483648) (hn : ¬ (0 ≤ a ∧ a < r 1)) (k1 : ∀ sz', sz ≤ sz' → Q (.inr "java/util/NoSuchElementException") sz' T (u2 I b 7 ((I b 7) + 1)) L P) : qC G 4 1 6 YX7_sleep [.ref b, qI a] sz T I L P Q := by
  refine qC_of (by decide +kernel) rfl rfl (Nat.le_of_ble_eq_true rfl) (fun F hF _ _ => ?_)
  have hv := hV.1
  have hPVw : P b 3 = some w := hVw ▸ hPV.w
  have hwr := hO.r (i := 0) (by omega)
  rw [hVw] at hwr
  have hW0 : q_SW T P w := by have q := hS.sw hO (i := 0) (by omega); rwa [hVw] at q
  have hW0A : q_A G w := q_Ale hA (by omega)
  have hm12 := hv.many
  have hl5 := hv.lands
  have hmo := hv.month
  have hr6 := hv.rows
  refine q_aload_n hF 0 rfl rfl dX7_sleep_0 ?_
  refine q_aload_n hF 0 rfl rfl dX7_sleep_1 ?_
  refine q_getA hF fl_RX7_26 rfl hS.t0 hPVw dX7_sleep_2 ?_
  refine q_iload_n hF 1 rfl rfl dX7_sleep_5 ?_
  refine q_callV (kc := 1) (ks := 6) (mc' := 0) (ms' := 0) (h' := 0) (st := [.ref b]) hF vl_RX7_101 rfl [qI a] rfl rfl hW0.t0 (by decide) (Nat.le_of_ble_eq_true rfl) dX7_sleep_6 ?_
  refine mX6_hasAccount (r := r) hW0 hWR hv (by omega) ?_
  refine q_ifne_b hF dX7_sleep_9 (fun c9 => ?_) (fun c9 => ?_)
  · omega
  · refine q_iconst hF dX7_sleep_12 ?_
    refine q_goto hF dX7_sleep_13 ?_
    refine q_callV (kc := 0) (ks := 0) (mc' := 1) (ms' := 6) (h' := 0) (st := []) hF vl_RX7_77 rfl [qI 1] rfl rfl hS.t0 (by decide) (Nat.le_of_ble_eq_true rfl) dX7_sleep_17 ?_
    refine mX7_refuseNoSuch1 hS.t0 hA (fun sz' c17_0 => ?_)
    refine q_out hF rfl ?_
    exact k1 sz' c17_0
set_option maxRecDepth 100000 in
theorem mX7_sleep {G : q_G} {sz : Nat} {T : q_T} {I L : q_I} {P : q_P} {Q : q_Q} {V : Nat → Nat} {w : Nat} {r : Nat → Int} {b : Nat} {i : Nat} (hS : q_ST T P b) (hA : q_A G b) (hPV : q_PV P b V) (hO : q_OV b V) (hVw : V 0 = w) (hWR : q_WR I L w r (r 2)) (hV : g_VR r) (hy : (i : Int) < r 1) (k0 : ∀ N : q_I, (∀ q k, q ≠ w + 8 → N q k = L q k) → Q (.inl (some (qI (g_sleepA r i)))) sz T I N P) : qC G 4 0 0 YX7_sleep [.ref b, qI (i : Int)] sz T I L P Q := by
  refine qC_of (by decide +kernel) rfl rfl (Nat.le_of_ble_eq_true rfl) (fun F hF _ _ => ?_)
  have hv := hV.1
  have hPVw : P b 3 = some w := hVw ▸ hPV.w
  have hwr := hO.r (i := 0) (by omega)
  rw [hVw] at hwr
  have hW0 : q_SW T P w := by have q := hS.sw hO (i := 0) (by omega); rwa [hVw] at q
  have hW0A : q_A G w := q_Ale hA (by omega)
  have hm12 := hv.many
  have hl5 := hv.lands
  have hmo := hv.month
  have hr6 := hv.rows
  have hVA := hV.2.1 i hy
  rw [if_neg (Nat.not_lt_zero _)] at hVA
  have hva1 := hVA.state
  have hva2 := hVA.cents
  have hva3 := hVA.since
  have hva4 := hVA.holder
  have hva5 := hVA.nl
  have hva6 := hVA.age
  have hva7 := hVA.wrote
  have hva8 := hVA.lat
  have hva9 := hVA.addr
  have hva10 := hVA.birth
  have hva11 := hVA.kind
  have hbr := g_bel_r hv hVA
  refine q_aload_n hF 0 rfl rfl dX7_sleep_0 ?_
  refine q_aload_n hF 0 rfl rfl dX7_sleep_1 ?_
  refine q_getA hF fl_RX7_26 rfl hS.t0 hPVw dX7_sleep_2 ?_
  refine q_iload_n hF 1 rfl rfl dX7_sleep_5 ?_
  refine q_callV (kc := 0) (ks := 0) (mc' := 0) (ms' := 0) (h' := 0) (st := [.ref b]) hF vl_RX7_101 rfl [qI (i : Int)] rfl rfl hW0.t0 (by decide) (Nat.le_of_ble_eq_true rfl) dX7_sleep_6 ?_
  refine mX6_hasAccount (r := r) hW0 hWR hv (by omega) ?_
  refine q_ifne_b hF dX7_sleep_9 (fun c9 => ?_) (fun c9 => ?_)
  · refine q_iconst hF dX7_sleep_16 ?_
    refine q_callV (kc := 0) (ks := 0) (mc' := 0) (ms' := 0) (h' := 0) (st := []) hF vl_RX7_77 rfl [qI 0] rfl rfl hS.t0 (by decide) (Nat.le_of_ble_eq_true rfl) dX7_sleep_17 ?_
    refine mX7_refuseNoSuch0 hS.t0 ?_
    refine q_aload_n hF 0 rfl rfl dX7_sleep_20 ?_
    refine q_getA hF fl_RX7_26 rfl hS.t0 hPVw dX7_sleep_21 ?_
    refine q_getA hF fl_RX7_91 rfl hW0.t0 hW0.p1 dX7_sleep_24 ?_
    refine q_iload_n hF 1 rfl rfl dX7_sleep_27 ?_
    refine q_aaloadv hF (b := w + 35 + i) i hW0.t19 (by decide) rfl (by omega) (by decide) (hW0.pa _ (by omega)) dX7_sleep_28 ?_
    refine q_astore_n hF (ls' := [(2, .ref (w + 35 + i)), (0, .ref b), (1, qI (i : Int))]) rfl (by decide) rfl dX7_sleep_29 ?_
    refine q_aload_n hF 1 rfl rfl dX7_sleep_30 ?_
    refine q_getA hF fl_RX7_26 rfl hS.t0 hPVw dX7_sleep_31 ?_
    refine q_getA hF fl_RX7_67 rfl hW0.t0 hW0.p0 dX7_sleep_34 ?_
    refine q_aload_n hF 0 rfl rfl dX7_sleep_37 ?_
    refine q_callV (kc := 0) (ks := 0) (mc' := 0) (ms' := 0) (h' := 2) (st := []) hF vl_RX7_144 rfl [.ref (w + 35 + i)] rfl rfl hW0.ru.t0 (by decide) (Nat.le_of_ble_eq_true rfl) dX7_sleep_38 ?_
    refine mX4_landOf (r := r) (a := i) hW0.ru hWR.ru hv (hW0.ta _ (by omega)) (hWR.acc _ hy) hVA ?_
    refine q_istore_n hF (ls' := [(3, qI (g_bel r i)), (2, .ref (w + 35 + i)), (0, .ref b), (1, qI (i : Int))]) rfl (by decide) rfl dX7_sleep_41 ?_
    refine q_aload_n hF 1 rfl rfl dX7_sleep_42 ?_
    refine q_callV (kc := 0) (ks := 0) (mc' := 0) (ms' := 0) (h' := 0) (st := []) hF vl_RX7_104 rfl [] rfl rfl (hW0.ta _ (by omega)) (by decide) (Nat.le_of_ble_eq_true rfl) dX7_sleep_43 ?_
    refine mX0_isWithBankR (r := r) (a := i) (hW0.ta _ (by omega)) (hWR.acc _ hy) hva1 ?_
    refine q_ifeq_b hF dX7_sleep_46 (fun c46 => ?_) (fun c46 => ?_)
    · refine q_iconst hF dX7_sleep_69 ?_
      refine q_ireturn hF rfl dX7_sleep_70 ?_
      have q := k0 L (fun _ _ _ => rfl)
      rw [show (g_sleepA r i) = (-1) from by unfold g_sleepA; rw [if_pos (by omega)]] at q; exact q
    · refine q_iload_n hF 0 rfl rfl dX7_sleep_49 ?_
      refine q_iconst hF dX7_sleep_50 ?_
      refine q_icmpeq hF (by omega) (by decide) dX7_sleep_51 (fun c51 => ?_) (fun c51 => ?_)
      · refine q_iconst hF dX7_sleep_69 ?_
        refine q_ireturn hF rfl dX7_sleep_70 ?_
        have q := k0 L (fun _ _ _ => rfl)
        rw [show (g_sleepA r i) = (-1) from by unfold g_sleepA; rw [if_pos (by omega)]] at q; exact q
      · have hbt := (g_bel_tk hv hVA (by omega)).1
        have hbt2 := (g_bel_tk hv hVA (by omega)).2
        obtain ⟨l, hl⟩ : ∃ l : Nat, g_bel r i = (l : Int) := ⟨_, (Int.toNat_of_nonneg hbt.1).symm⟩
        rw [hl] at hbt hbt2
        rw [hl]
        refine q_aload_n hF 2 rfl rfl dX7_sleep_54 ?_
        refine q_getA hF fl_RX7_26 rfl hS.t0 hPVw dX7_sleep_55 ?_
        refine q_getA hF fl_RX7_67 rfl hW0.t0 hW0.p0 dX7_sleep_58 ?_
        refine q_aload_n hF 1 rfl rfl dX7_sleep_61 ?_
        refine q_iload_n hF 0 rfl rfl dX7_sleep_62 ?_
        refine q_callV (kc := 0) (ks := 0) (mc' := 0) (ms' := 0) (h' := 3) (st := []) hF vl_RX7_244 rfl [.ref (w + 35 + i), qI (l : Int)] rfl rfl hW0.ru.t0 (by decide) (Nat.le_of_ble_eq_true rfl) dX7_sleep_63 ?_
        refine mX4_sleepOf (l := l) (r := r) (a := i) hW0.ru (q_Ale hW0A (by omega)) hWR.ru hv (hW0.ta _ (by omega)) (hWR.acc _ hy) hVA (by omega) (by omega) hbt2 (fun L' c63_0 => ?_)
        refine q_goto hF dX7_sleep_66 ?_
        refine q_ireturn hF rfl dX7_sleep_70 ?_
        have q := k0 L' (fun q k h => c63_0 q k (by omega))
        rw [show (g_sleepA r i) = (g_sleep r i (l : Int)) from by unfold g_sleepA; rw [if_neg (by omega), hl]] at q; exact q
  · omega
set_option maxRecDepth 100000 in
theorem mX7_worth0 {G : q_G} {sz : Nat} {T : q_T} {I L : q_I} {P : q_P} {Q : q_Q} {V : Nat → Nat} {w : Nat} {r : Nat → Int} {b : Nat} {a : Int} {n : Int}  (hS : q_ST T P b) (hA : q_A G b) (hPV : q_PV P b V) (hO : q_OV b V) (hVw : V 0 = w) (hWR : q_WR I L w r (r 2)) (hV : g_VR r) (ha : -2147483648 ≤ a ∧ a < 2147483648) (hn : ¬ (0 ≤ a ∧ a < r 1)) (k1 : ∀ sz', sz ≤ sz' → Q (.inr "java/util/NoSuchElementException") sz' T (u2 I b 7 ((I b 7) + 1)) L P) : qC G 4 1 6 YX7_worth [.ref b, qI a, qI n] sz T I L P Q := by
  refine qC_of (by decide +kernel) rfl rfl (Nat.le_of_ble_eq_true rfl) (fun F hF _ _ => ?_)
  have hv := hV.1
  have hPVw : P b 3 = some w := hVw ▸ hPV.w
  have hwr := hO.r (i := 0) (by omega)
  rw [hVw] at hwr
  have hW0 : q_SW T P w := by have q := hS.sw hO (i := 0) (by omega); rwa [hVw] at q
  have hW0A : q_A G w := q_Ale hA (by omega)
  have hm12 := hv.many
  have hl5 := hv.lands
  have hmo := hv.month
  have hr6 := hv.rows
  refine q_aload_n hF 0 rfl rfl dX7_worth_0 ?_
  refine q_aload_n hF 0 rfl rfl dX7_worth_1 ?_
  refine q_getA hF fl_RX7_26 rfl hS.t0 hPVw dX7_worth_2 ?_
  refine q_iload_n hF 1 rfl rfl dX7_worth_5 ?_
  refine q_callV (kc := 1) (ks := 6) (mc' := 0) (ms' := 0) (h' := 0) (st := [.ref b]) hF vl_RX7_101 rfl [qI a] rfl rfl hW0.t0 (by decide) (Nat.le_of_ble_eq_true rfl) dX7_worth_6 ?_
  refine mX6_hasAccount (r := r) hW0 hWR hv (by omega) ?_
  refine q_ifne_b hF dX7_worth_9 (fun c9 => ?_) (fun c9 => ?_)
  · omega
  · refine q_iconst hF dX7_worth_12 ?_
    refine q_goto hF dX7_worth_13 ?_
    refine q_callV (kc := 0) (ks := 0) (mc' := 1) (ms' := 6) (h' := 0) (st := []) hF vl_RX7_77 rfl [qI 1] rfl rfl hS.t0 (by decide) (Nat.le_of_ble_eq_true rfl) dX7_worth_17 ?_
    refine mX7_refuseNoSuch1 hS.t0 hA (fun sz' c17_0 => ?_)
    refine q_out hF rfl ?_
    exact k1 sz' c17_0
set_option maxRecDepth 100000 in
theorem mX7_worth {G : q_G} {sz : Nat} {T : q_T} {I L : q_I} {P : q_P} {Q : q_Q} {V : Nat → Nat} {w : Nat} {r : Nat → Int} {b : Nat} {n : Int} {i : Nat} (hS : q_ST T P b) (hA : q_A G b) (hPV : q_PV P b V) (hO : q_OV b V) (hVw : V 0 = w) (hWR : q_WR I L w r (r 2)) (hV : g_VR r) (hy : (i : Int) < r 1) (hn : -2147483648 ≤ n ∧ n < 2147483648) (k2 : ∀ sz', sz ≤ sz' → ¬ (0 ≤ n ∧ n ≤ 600) → Q (.inr "java/lang/IllegalArgumentException") sz' T (u2 I b 8 ((I b 8) + 1)) L P) (k0 : (0 ≤ n ∧ n ≤ 600) → Q (.inl (some (qL (g_worth r i n)))) sz T I L P) : qC G 4 1 6 YX7_worth [.ref b, qI (i : Int), qI n] sz T I L P Q := by
  refine qC_of (by decide +kernel) rfl rfl (Nat.le_of_ble_eq_true rfl) (fun F hF _ _ => ?_)
  have hv := hV.1
  have hPVw : P b 3 = some w := hVw ▸ hPV.w
  have hwr := hO.r (i := 0) (by omega)
  rw [hVw] at hwr
  have hW0 : q_SW T P w := by have q := hS.sw hO (i := 0) (by omega); rwa [hVw] at q
  have hW0A : q_A G w := q_Ale hA (by omega)
  have hm12 := hv.many
  have hl5 := hv.lands
  have hmo := hv.month
  have hr6 := hv.rows
  have hVA := hV.2.1 i hy
  rw [if_neg (Nat.not_lt_zero _)] at hVA
  have hva1 := hVA.state
  have hva2 := hVA.cents
  have hva3 := hVA.since
  have hva4 := hVA.holder
  have hva5 := hVA.nl
  have hva6 := hVA.age
  have hva7 := hVA.wrote
  have hva8 := hVA.lat
  have hva9 := hVA.addr
  have hva10 := hVA.birth
  have hva11 := hVA.kind
  refine q_aload_n hF 0 rfl rfl dX7_worth_0 ?_
  refine q_aload_n hF 0 rfl rfl dX7_worth_1 ?_
  refine q_getA hF fl_RX7_26 rfl hS.t0 hPVw dX7_worth_2 ?_
  refine q_iload_n hF 1 rfl rfl dX7_worth_5 ?_
  refine q_callV (kc := 1) (ks := 6) (mc' := 0) (ms' := 0) (h' := 0) (st := [.ref b]) hF vl_RX7_101 rfl [qI (i : Int)] rfl rfl hW0.t0 (by decide) (Nat.le_of_ble_eq_true rfl) dX7_worth_6 ?_
  refine mX6_hasAccount (r := r) hW0 hWR hv (by omega) ?_
  refine q_ifne_b hF dX7_worth_9 (fun c9 => ?_) (fun c9 => ?_)
  · refine q_iconst hF dX7_worth_16 ?_
    refine q_callV (kc := 1) (ks := 6) (mc' := 0) (ms' := 0) (h' := 0) (st := []) hF vl_RX7_77 rfl [qI 0] rfl rfl hS.t0 (by decide) (Nat.le_of_ble_eq_true rfl) dX7_worth_17 ?_
    refine mX7_refuseNoSuch0 hS.t0 ?_
    refine q_aload_n hF 0 rfl rfl dX7_worth_20 ?_
    refine q_iload_n hF 2 rfl rfl dX7_worth_21 ?_
    refine q_iconst hF dX7_worth_22 ?_
    refine q_sipush hF (n := 600) rfl dX7_worth_23 ?_
    refine q_callS (kc := 1) (ks := 6) (mc' := 0) (ms' := 0) (h' := 0) (st := [.ref b]) hF sl_RX7_80 rfl [qI n, qI 0, qI 600] rfl rfl (by decide) (Nat.le_of_ble_eq_true rfl) dX7_worth_26 ?_
    refine mX7_isWithin (by omega) (by decide) (by decide) ?_
    refine q_ifne_b hF dX7_worth_29 (fun c29 => ?_) (fun c29 => ?_)
    · refine q_iconst hF dX7_worth_36 ?_
      refine q_callV (kc := 1) (ks := 6) (mc' := 0) (ms' := 0) (h' := 0) (st := []) hF vl_RX7_45 rfl [qI 0] rfl rfl hS.t0 (by decide) (Nat.le_of_ble_eq_true rfl) dX7_worth_37 ?_
      refine mX7_refuseArgument0 hS.t0 ?_
      refine q_aload_n hF 0 rfl rfl dX7_worth_40 ?_
      refine q_getA hF fl_RX7_26 rfl hS.t0 hPVw dX7_worth_41 ?_
      refine q_getA hF fl_RX7_91 rfl hW0.t0 hW0.p1 dX7_worth_44 ?_
      refine q_iload_n hF 1 rfl rfl dX7_worth_47 ?_
      refine q_aaloadv hF (b := w + 35 + i) i hW0.t19 (by decide) rfl (by omega) (by decide) (hW0.pa _ (by omega)) dX7_worth_48 ?_
      refine q_astore_n hF (ls' := [(3, .ref (w + 35 + i)), (0, .ref b), (1, qI (i : Int)), (2, qI n)]) rfl (by decide) rfl dX7_worth_49 ?_
      refine q_aload_n hF 0 rfl rfl dX7_worth_50 ?_
      refine q_callV (kc := 1) (ks := 6) (mc' := 0) (ms' := 0) (h' := 0) (st := []) hF vl_RX7_137 rfl [] rfl rfl (hW0.ta _ (by omega)) (by decide) (Nat.le_of_ble_eq_true rfl) dX7_worth_51 ?_
      refine mX0_isClaimableR (r := r) (a := i) (hW0.ta _ (by omega)) (hWR.acc _ hy) hva1 hva5 ?_
      refine q_ifeq_b hF dX7_worth_54 (fun c54 => ?_) (fun c54 => ?_)
      · refine q_ldc2 hF (n := -1) (q_mem 1397 (by decide +kernel) rfl) dX7_worth_86 ?_
        refine q_lreturn hF rfl dX7_worth_89 ?_
        have q := k0 (by omega)
        rw [show (g_worth r i n) = (-1) from by unfold g_worth; first | rw [if_pos (by omega)] | rw [if_neg (by omega)]] at q; exact q
      · refine q_aload_n hF 0 rfl rfl dX7_worth_57 ?_
        refine q_getIv hF (z := r (1042 + 12 * i)) fl_RX7_115 (hW0.ta _ (by omega)) (hWR.acc _ hy).cents dX7_worth_58 ?_
        refine q_i2l hF (by omega) dX7_worth_61 ?_
        refine q_aload_n hF 1 rfl rfl dX7_worth_62 ?_
        refine q_getA hF fl_RX7_26 rfl hS.t0 hPVw dX7_worth_63 ?_
        refine q_getA hF fl_RX7_67 rfl hW0.t0 hW0.p0 dX7_worth_66 ?_
        refine q_aload_n hF 0 rfl rfl dX7_worth_69 ?_
        refine q_aload_n hF 1 rfl rfl dX7_worth_70 ?_
        refine q_getA hF fl_RX7_26 rfl hS.t0 hPVw dX7_worth_71 ?_
        refine q_getIv hF (z := r 2) fl_RX7_130 hW0.t0 hWR.mon dX7_worth_74 ?_
        refine q_iload_n hF 3 rfl rfl dX7_worth_77 ?_
        refine q_iadd hF dX7_worth_78 ?_
        refine q_callV (kc := 1) (ks := 6) (mc' := 0) (ms' := 0) (h' := 1) (st := [qL (r (1042 + 12 * i))]) hF vl_RX7_252 rfl [.ref (w + 35 + i), qI ((r 2) + n)] rfl rfl hW0.ru.t0 (by decide) (Nat.le_of_ble_eq_true rfl) dX7_worth_79 ?_
        refine mX4_interestOf (r := r) (a := i) hW0.ru hWR.ru hv (hW0.ta _ (by omega)) (hWR.acc _ hy) hVA (by omega) (by omega) (by omega) ?_
        rw [show r 2 + n - r 2 = n by omega]
        refine q_ladd hF dX7_worth_82 ?_
        refine q_goto hF dX7_worth_83 ?_
        refine q_lreturn hF rfl dX7_worth_89 ?_
        have q := k0 (by omega)
        rw [show (g_worth r i n) = ((r (1042 + 12 * i)) + (g_interest r i n)) from by unfold g_worth; first | rw [if_pos (by omega)] | rw [if_neg (by omega)]] at q; exact q
    · refine q_iconst hF dX7_worth_32 ?_
      refine q_goto hF dX7_worth_33 ?_
      refine q_callV (kc := 0) (ks := 0) (mc' := 1) (ms' := 6) (h' := 0) (st := []) hF vl_RX7_45 rfl [qI 1] rfl rfl hS.t0 (by decide) (Nat.le_of_ble_eq_true rfl) dX7_worth_37 ?_
      refine mX7_refuseArgument1 hS.t0 hA (fun sz' c37_0 => ?_)
      refine q_out hF rfl ?_
      exact k2 sz' c37_0 (by omega)
  · omega
set_option maxRecDepth 100000 in
theorem mX7_row {G : q_G} {sz : Nat} {T : q_T} {I L : q_I} {P : q_P} {Q : q_Q} {V : Nat → Nat} {w : Nat} {r : Nat → Int} {b : Nat} {k : Int} {n : Int}  (hS : q_ST T P b) (hA : q_A G b) (hPV : q_PV P b V) (hO : q_OV b V) (hVw : V 0 = w) (hWR : q_WR I L w r (r 2)) (hV : g_VR r) (hk : -2147483648 ≤ k ∧ k < 2147483648) (hn : -2147483648 ≤ n ∧ n < 2147483648) (k2 : ∀ sz', sz ≤ sz' → (0 ≤ k ∧ k < r 6) → ¬ (0 ≤ n ∧ n ≤ 4) → Q (.inr "java/lang/IllegalArgumentException") sz' T (u2 I b 8 ((I b 8) + 1)) L P) (k1 : ∀ sz', sz ≤ sz' → ¬ (0 ≤ k ∧ k < r 6) → Q (.inr "java/util/NoSuchElementException") sz' T (u2 I b 7 ((I b 7) + 1)) L P) (k0 : (0 ≤ k ∧ k < r 6) → (0 ≤ n ∧ n ≤ 4) → Q (.inl (some (qI (r (1183 + 5 * (k).toNat + (n).toNat))))) sz T I L P) : qC G 3 1 6 YX7_row [.ref b, qI k, qI n] sz T I L P Q := by
  refine qC_of (by decide +kernel) rfl rfl (Nat.le_of_ble_eq_true rfl) (fun F hF _ _ => ?_)
  have hv := hV.1
  have hPVw : P b 3 = some w := hVw ▸ hPV.w
  have hwr := hO.r (i := 0) (by omega)
  rw [hVw] at hwr
  have hW0 : q_SW T P w := by have q := hS.sw hO (i := 0) (by omega); rwa [hVw] at q
  have hW0A : q_A G w := q_Ale hA (by omega)
  have hm12 := hv.many
  have hl5 := hv.lands
  have hmo := hv.month
  have hr6 := hv.rows
  refine q_aload_n hF 0 rfl rfl dX7_row_0 ?_
  refine q_aload_n hF 0 rfl rfl dX7_row_1 ?_
  refine q_getA hF fl_RX7_26 rfl hS.t0 hPVw dX7_row_2 ?_
  refine q_iload_n hF 1 rfl rfl dX7_row_5 ?_
  refine q_callV (kc := 1) (ks := 6) (mc' := 0) (ms' := 0) (h' := 0) (st := [.ref b]) hF vl_RX7_258 rfl [qI k] rfl rfl hW0.t0 (by decide) (Nat.le_of_ble_eq_true rfl) dX7_row_6 ?_
  refine mX6_hasRow (r := r) hW0 hWR hv (by omega) ?_
  refine q_ifne_b hF dX7_row_9 (fun c9 => ?_) (fun c9 => ?_)
  · refine q_iconst hF dX7_row_16 ?_
    refine q_callV (kc := 1) (ks := 6) (mc' := 0) (ms' := 0) (h' := 0) (st := []) hF vl_RX7_77 rfl [qI 0] rfl rfl hS.t0 (by decide) (Nat.le_of_ble_eq_true rfl) dX7_row_17 ?_
    refine mX7_refuseNoSuch0 hS.t0 ?_
    refine q_aload_n hF 0 rfl rfl dX7_row_20 ?_
    refine q_iload_n hF 2 rfl rfl dX7_row_21 ?_
    refine q_iconst hF dX7_row_22 ?_
    refine q_iconst hF dX7_row_23 ?_
    refine q_callS (kc := 1) (ks := 6) (mc' := 0) (ms' := 0) (h' := 0) (st := [.ref b]) hF sl_RX7_80 rfl [qI n, qI 0, qI 4] rfl rfl (by decide) (Nat.le_of_ble_eq_true rfl) dX7_row_24 ?_
    refine mX7_isWithin (by omega) (by decide) (by decide) ?_
    refine q_ifne_b hF dX7_row_27 (fun c27 => ?_) (fun c27 => ?_)
    · refine q_iconst hF dX7_row_34 ?_
      refine q_callV (kc := 1) (ks := 6) (mc' := 0) (ms' := 0) (h' := 0) (st := []) hF vl_RX7_45 rfl [qI 0] rfl rfl hS.t0 (by decide) (Nat.le_of_ble_eq_true rfl) dX7_row_35 ?_
      refine mX7_refuseArgument0 hS.t0 ?_
      refine q_aload_n hF 0 rfl rfl dX7_row_38 ?_
      refine q_getA hF fl_RX7_26 rfl hS.t0 hPVw dX7_row_39 ?_
      refine q_getA hF fl_RX7_261 rfl hW0.t0 hW0.p4 dX7_row_42 ?_
      refine q_iload_n hF 1 rfl rfl dX7_row_45 ?_
      refine q_aaloadv hF (b := w + 21 + ((k).toNat)) ((k).toNat) hW0.t20 (by decide) (by omega) (by omega) (by decide) (hW0.pk _ (by omega)) dX7_row_46 ?_
      refine q_iload_n hF 2 rfl rfl dX7_row_47 ?_
      refine q_ialoadv hF (z := r (1183 + 5 * ((k).toNat) + (n).toNat)) (n := 5) ((n).toNat) (hW0.tk _ (by omega)) (by omega) (by omega) (by decide) (hWR.book _ _ (by omega) (by omega)) dX7_row_48 ?_
      refine q_ireturn hF rfl dX7_row_49 ?_
      have q := k0 (by omega) (by omega)
      exact q
    · refine q_iconst hF dX7_row_30 ?_
      refine q_goto hF dX7_row_31 ?_
      refine q_callV (kc := 0) (ks := 0) (mc' := 1) (ms' := 6) (h' := 0) (st := []) hF vl_RX7_45 rfl [qI 1] rfl rfl hS.t0 (by decide) (Nat.le_of_ble_eq_true rfl) dX7_row_35 ?_
      refine mX7_refuseArgument1 hS.t0 hA (fun sz' c35_0 => ?_)
      refine q_out hF rfl ?_
      exact k2 sz' c35_0 (by omega) (by omega)
  · refine q_iconst hF dX7_row_12 ?_
    refine q_goto hF dX7_row_13 ?_
    refine q_callV (kc := 0) (ks := 0) (mc' := 1) (ms' := 6) (h' := 0) (st := []) hF vl_RX7_77 rfl [qI 1] rfl rfl hS.t0 (by decide) (Nat.le_of_ble_eq_true rfl) dX7_row_17 ?_
    refine mX7_refuseNoSuch1 hS.t0 hA (fun sz' c17_0 => ?_)
    refine q_out hF rfl ?_
    exact k1 sz' c17_0 (by omega)
set_option maxRecDepth 100000 in
theorem mX7_rescue0 {G : q_G} {sz : Nat} {T : q_T} {I L : q_I} {P : q_P} {Q : q_Q} {V : Nat → Nat} {w : Nat} {r : Nat → Int} {b : Nat} {k : Int} {n : Int} {w9 : Int}  (hS : q_ST T P b) (hA : q_A G b) (hPV : q_PV P b V) (hO : q_OV b V) (hVw : V 0 = w) (hWR : q_WR I L w r (r 2)) (hV : g_VR r) (hk : -2147483648 ≤ k ∧ k < 2147483648) (hn : -2147483648 ≤ n ∧ n < 2147483648) (hw : -2147483648 ≤ w9 ∧ w9 < 2147483648) (hx : ¬ ((1 ≤ k ∧ k ≤ 3) ∧ (1 ≤ n ∧ n ≤ 120) ∧ (0 ≤ w9 ∧ w9 ≤ 1))) (k1 : ∀ sz', sz ≤ sz' → Q (.inr "java/lang/IllegalArgumentException") sz' T (u2 I b 8 ((I b 8) + 1)) L P) : qC G 7 1 6 YX7_rescue [.ref b, qI k, qI n, qI w9] sz T I L P Q := by
  refine qC_of (by decide +kernel) rfl rfl (Nat.le_of_ble_eq_true rfl) (fun F hF _ _ => ?_)
  have hv := hV.1
  have hPVw : P b 3 = some w := hVw ▸ hPV.w
  have hwr := hO.r (i := 0) (by omega)
  rw [hVw] at hwr
  have hW0 : q_SW T P w := by have q := hS.sw hO (i := 0) (by omega); rwa [hVw] at q
  have hW0A : q_A G w := q_Ale hA (by omega)
  have hm12 := hv.many
  have hl5 := hv.lands
  have hmo := hv.month
  have hr6 := hv.rows
  refine q_aload_n hF 0 rfl rfl dX7_rescue_0 ?_
  refine q_iload_n hF 1 rfl rfl dX7_rescue_1 ?_
  refine q_iconst hF dX7_rescue_2 ?_
  refine q_iconst hF dX7_rescue_3 ?_
  refine q_callS (kc := 1) (ks := 6) (mc' := 0) (ms' := 0) (h' := 0) (st := [.ref b]) hF sl_RX7_80 rfl [qI k, qI 1, qI 3] rfl rfl (by decide) (Nat.le_of_ble_eq_true rfl) dX7_rescue_4 ?_
  refine mX7_isWithin (by omega) (by decide) (by decide) ?_
  refine q_ifeq_b hF dX7_rescue_7 (fun c7 => ?_) (fun c7 => ?_)
  · refine q_iconst hF dX7_rescue_29 ?_
    refine q_goto hF dX7_rescue_30 ?_
    refine q_callV (kc := 0) (ks := 0) (mc' := 1) (ms' := 6) (h' := 0) (st := []) hF vl_RX7_45 rfl [qI 1] rfl rfl hS.t0 (by decide) (Nat.le_of_ble_eq_true rfl) dX7_rescue_34 ?_
    refine mX7_refuseArgument1 hS.t0 hA (fun sz' c34_0 => ?_)
    refine q_out hF rfl ?_
    exact k1 sz' c34_0
  · refine q_iload_n hF 2 rfl rfl dX7_rescue_10 ?_
    refine q_iconst hF dX7_rescue_11 ?_
    refine q_bipush hF (n := 120) rfl dX7_rescue_12 ?_
    refine q_callS (kc := 1) (ks := 6) (mc' := 0) (ms' := 0) (h' := 0) (st := [.ref b]) hF sl_RX7_80 rfl [qI n, qI 1, qI 120] rfl rfl (by decide) (Nat.le_of_ble_eq_true rfl) dX7_rescue_14 ?_
    refine mX7_isWithin (by omega) (by decide) (by decide) ?_
    refine q_ifeq_b hF dX7_rescue_17 (fun c17 => ?_) (fun c17 => ?_)
    · refine q_iconst hF dX7_rescue_29 ?_
      refine q_goto hF dX7_rescue_30 ?_
      refine q_callV (kc := 0) (ks := 0) (mc' := 1) (ms' := 6) (h' := 0) (st := []) hF vl_RX7_45 rfl [qI 1] rfl rfl hS.t0 (by decide) (Nat.le_of_ble_eq_true rfl) dX7_rescue_34 ?_
      refine mX7_refuseArgument1 hS.t0 hA (fun sz' c34_0 => ?_)
      refine q_out hF rfl ?_
      exact k1 sz' c34_0
    · refine q_iload_n hF 3 rfl rfl dX7_rescue_20 ?_
      refine q_iconst hF dX7_rescue_21 ?_
      refine q_iconst hF dX7_rescue_22 ?_
      refine q_callS (kc := 1) (ks := 6) (mc' := 0) (ms' := 0) (h' := 0) (st := [.ref b]) hF sl_RX7_80 rfl [qI w9, qI 0, qI 1] rfl rfl (by decide) (Nat.le_of_ble_eq_true rfl) dX7_rescue_23 ?_
      refine mX7_isWithin (by omega) (by decide) (by decide) ?_
      refine q_ifne_b hF dX7_rescue_26 (fun c26 => ?_) (fun c26 => ?_)
      · omega
      · refine q_iconst hF dX7_rescue_29 ?_
        refine q_goto hF dX7_rescue_30 ?_
        refine q_callV (kc := 0) (ks := 0) (mc' := 1) (ms' := 6) (h' := 0) (st := []) hF vl_RX7_45 rfl [qI 1] rfl rfl hS.t0 (by decide) (Nat.le_of_ble_eq_true rfl) dX7_rescue_34 ?_
        refine mX7_refuseArgument1 hS.t0 hA (fun sz' c34_0 => ?_)
        refine q_out hF rfl ?_
        exact k1 sz' c34_0
set_option maxRecDepth 100000 in
theorem mX7_rescue {G : q_G} {sz : Nat} {T : q_T} {I L : q_I} {P : q_P} {Q : q_Q} {V : Nat → Nat} {w : Nat} {r : Nat → Int} {b : Nat} {kk : Int} {w9 : Int} {nn mn : Nat} (hS : q_ST T P b) (hA : q_A G b) (hPV : q_PV P b V) (hO : q_OV b V) (hVw : V 0 = w) (hWR : q_WR I L w r (r 2)) (hV : g_VR r) (hmn : r 1 = (mn : Int)) (hZ : g_Zr r) (hcr : ∀ i, i < 12 → -100000000 ≤ L (b + 27) i ∧ L (b + 27) i ≤ 100000000) (hkk : 1 ≤ kk ∧ kk ≤ 3) (hn : 1 ≤ nn ∧ nn ≤ 120) (hw9 : 0 ≤ w9 ∧ w9 ≤ 1) (k0 : ∀ (x : Nat × Int) (M N : q_I), (∀ q k, q ≠ b + 26 → ¬ (q = b + 25 ∧ k = 2) → M q k = I q k) → (∀ q k, q ≠ b + 26 → q ≠ w + 8 → q ≠ b + 27 → ¬ (q = b + 25 ∧ k = 3) → N q k = L q k) → (∀ i, i < 12 → -100000000 ≤ N (b + 27) i ∧ N (b + 27) i ≤ 100000000) → g_resc r kk nn mn = some x → Q (.inl (some (qL (if w9 = 0 then (x.1 : Int) else x.2)))) sz T M N P) : qC G 7 0 0 YX7_rescue [.ref b, qI kk, qI (nn : Int), qI w9] sz T I L P Q := by
  refine qC_of (by decide +kernel) rfl rfl (Nat.le_of_ble_eq_true rfl) (fun F hF _ _ => ?_)
  have hv := hV.1
  have hPVw : P b 3 = some w := hVw ▸ hPV.w
  have hwr := hO.r (i := 0) (by omega)
  rw [hVw] at hwr
  have hW0 : q_SW T P w := by have q := hS.sw hO (i := 0) (by omega); rwa [hVw] at q
  have hW0A : q_A G w := q_Ale hA (by omega)
  have hm12 := hv.many
  have hl5 := hv.lands
  have hmo := hv.month
  have hr6 := hv.rows
  refine q_aload_n hF 0 rfl rfl dX7_rescue_0 ?_
  refine q_iload_n hF 1 rfl rfl dX7_rescue_1 ?_
  refine q_iconst hF dX7_rescue_2 ?_
  refine q_iconst hF dX7_rescue_3 ?_
  refine q_callS (kc := 0) (ks := 0) (mc' := 0) (ms' := 0) (h' := 0) (st := [.ref b]) hF sl_RX7_80 rfl [qI kk, qI 1, qI 3] rfl rfl (by decide) (Nat.le_of_ble_eq_true rfl) dX7_rescue_4 ?_
  refine mX7_isWithin (by omega) (by decide) (by decide) ?_
  refine q_ifeq_b hF dX7_rescue_7 (fun c7 => ?_) (fun c7 => ?_)
  · omega
  · refine q_iload_n hF 2 rfl rfl dX7_rescue_10 ?_
    refine q_iconst hF dX7_rescue_11 ?_
    refine q_bipush hF (n := 120) rfl dX7_rescue_12 ?_
    refine q_callS (kc := 0) (ks := 0) (mc' := 0) (ms' := 0) (h' := 0) (st := [.ref b]) hF sl_RX7_80 rfl [qI (nn : Int), qI 1, qI 120] rfl rfl (by decide) (Nat.le_of_ble_eq_true rfl) dX7_rescue_14 ?_
    refine mX7_isWithin (by omega) (by decide) (by decide) ?_
    refine q_ifeq_b hF dX7_rescue_17 (fun c17 => ?_) (fun c17 => ?_)
    · omega
    · refine q_iload_n hF 3 rfl rfl dX7_rescue_20 ?_
      refine q_iconst hF dX7_rescue_21 ?_
      refine q_iconst hF dX7_rescue_22 ?_
      refine q_callS (kc := 0) (ks := 0) (mc' := 0) (ms' := 0) (h' := 0) (st := [.ref b]) hF sl_RX7_80 rfl [qI w9, qI 0, qI 1] rfl rfl (by decide) (Nat.le_of_ble_eq_true rfl) dX7_rescue_23 ?_
      refine mX7_isWithin (by omega) (by decide) (by decide) ?_
      refine q_ifne_b hF dX7_rescue_26 (fun c26 => ?_) (fun c26 => ?_)
      · refine q_iconst hF dX7_rescue_33 ?_
        refine q_callV (kc := 0) (ks := 0) (mc' := 0) (ms' := 0) (h' := 0) (st := []) hF vl_RX7_45 rfl [qI 0] rfl rfl hS.t0 (by decide) (Nat.le_of_ble_eq_true rfl) dX7_rescue_34 ?_
        refine mX7_refuseArgument0 hS.t0 ?_
        refine q_aload_n hF 0 rfl rfl dX7_rescue_37 ?_
        refine q_getA hF fl_RX7_19 rfl hS.t0 hS.p3 dX7_rescue_38 ?_
        refine q_aload_n hF 0 rfl rfl dX7_rescue_41 ?_
        refine q_getA hF fl_RX7_26 rfl hS.t0 hPVw dX7_rescue_42 ?_
        refine q_iload_n hF 1 rfl rfl dX7_rescue_45 ?_
        refine q_iload_n hF 2 rfl rfl dX7_rescue_46 ?_
        refine q_callV (kc := 0) (ks := 0) (mc' := 0) (ms' := 0) (h' := 6) (st := []) hF vl_RX7_272 rfl [.ref w, qI kk, qI (nn : Int)] rfl rfl hS.t25 (by decide) (Nat.le_of_ble_eq_true rfl) dX7_rescue_47 ?_
        refine mX1_findRescue (nn := nn) (p := (b + 26)) (ch := (b + 27)) (r := r) (mn := mn) hW0 hW0A hS.t25 hS.f0 hS.t26 (q_Ale hA (by omega)) (by omega) hZ hV hWR hmn (by omega) hS.f1 hS.t27 hcr (q_Ale hA (by omega)) (q_Ale hA (by omega)) (by omega) (by omega) (by omega) (by omega) (fun x M9 N9 c47_0 c47_1 c47_2 c47_3 c47_4 c47_5 => ?_)
        refine q_iload_n hF 3 rfl rfl dX7_rescue_50 ?_
        refine q_ifne hF (by omega) dX7_rescue_51 (fun c51 => ?_) (fun c51 => ?_)
        · refine q_aload_n hF 0 rfl rfl dX7_rescue_65 ?_
          refine q_getA hF fl_RX7_19 rfl hS.t0 hS.p3 dX7_rescue_66 ?_
          refine q_getLv hF (z := x.2) fl_RX7_279 hS.t25 c47_4 dX7_rescue_69 ?_
          refine q_lreturn hF rfl dX7_rescue_72 ?_
          have q := k0 x M9 N9 c47_0 c47_1 c47_2 c47_5
          rw [show (if w9 = 0 then (x.1 : Int) else x.2) = x.2 from by first | exact if_pos (by omega) | exact if_neg (by omega)] at q; exact q
        · refine q_aload_n hF 0 rfl rfl dX7_rescue_54 ?_
          refine q_getA hF fl_RX7_19 rfl hS.t0 hS.p3 dX7_rescue_55 ?_
          refine q_getIv hF (z := (x.1 : Int)) fl_RX7_276 hS.t25 c47_3 dX7_rescue_58 ?_
          refine q_i2l hF (by have q1 := g_best_at _ c47_5; have q2 := q_pow12 (k := mn) (by omega); omega) dX7_rescue_61 ?_
          refine q_goto hF dX7_rescue_62 ?_
          refine q_lreturn hF rfl dX7_rescue_72 ?_
          have q := k0 x M9 N9 c47_0 c47_1 c47_2 c47_5
          rw [show (if w9 = 0 then (x.1 : Int) else x.2) = (x.1 : Int) from by first | exact if_pos (by omega) | exact if_neg (by omega)] at q; exact q
      · omega
set_option maxRecDepth 100000 in
theorem mX7_books {G : q_G} {sz : Nat} {T : q_T} {I L : q_I} {P : q_P} {Q : q_Q} {V : Nat → Nat} {w : Nat} {r : Nat → Int} {b : Nat} {n : Int} {mn : Nat} (hS : q_ST T P b) (hA : q_A G b) (hPV : q_PV P b V) (hO : q_OV b V) (hVw : V 0 = w) (hWR : q_WR I L w r (r 2)) (hV : g_VR r) (hmn : r 1 = (mn : Int)) (hn : -2147483648 ≤ n ∧ n < 2147483648) (k1 : ∀ sz', sz ≤ sz' → ¬ (0 ≤ n ∧ n ≤ 6) → Q (.inr "java/lang/IllegalArgumentException") sz' T (u2 I b 8 ((I b 8) + 1)) L P) (k0 : (0 ≤ n ∧ n ≤ 6) → Q (.inl (some (qL (g_booksQ r mn n)))) sz T I L P) : qC G 6 1 6 YX7_books [.ref b, qI n] sz T I L P Q := by
  refine qC_of (by decide +kernel) rfl rfl (Nat.le_of_ble_eq_true rfl) (fun F hF _ _ => ?_)
  have hv := hV.1
  have hPVw : P b 3 = some w := hVw ▸ hPV.w
  have hwr := hO.r (i := 0) (by omega)
  rw [hVw] at hwr
  have hW0 : q_SW T P w := by have q := hS.sw hO (i := 0) (by omega); rwa [hVw] at q
  have hW0A : q_A G w := q_Ale hA (by omega)
  have hm12 := hv.many
  have hl5 := hv.lands
  have hmo := hv.month
  have hr6 := hv.rows
  refine q_aload_n hF 0 rfl rfl dX7_books_0 ?_
  refine q_iload_n hF 1 rfl rfl dX7_books_1 ?_
  refine q_iconst hF dX7_books_2 ?_
  refine q_bipush hF (n := 6) rfl dX7_books_3 ?_
  refine q_callS (kc := 1) (ks := 6) (mc' := 0) (ms' := 0) (h' := 0) (st := [.ref b]) hF sl_RX7_80 rfl [qI n, qI 0, qI 6] rfl rfl (by decide) (Nat.le_of_ble_eq_true rfl) dX7_books_5 ?_
  refine mX7_isWithin (by omega) (by decide) (by decide) ?_
  refine q_ifne_b hF dX7_books_8 (fun c8 => ?_) (fun c8 => ?_)
  · refine q_iconst hF dX7_books_15 ?_
    refine q_callV (kc := 1) (ks := 6) (mc' := 0) (ms' := 0) (h' := 0) (st := []) hF vl_RX7_45 rfl [qI 0] rfl rfl hS.t0 (by decide) (Nat.le_of_ble_eq_true rfl) dX7_books_16 ?_
    refine mX7_refuseArgument0 hS.t0 ?_
    refine q_aload_n hF 0 rfl rfl dX7_books_19 ?_
    refine q_getA hF fl_RX7_26 rfl hS.t0 hPVw dX7_books_20 ?_
    refine q_iload_n hF 1 rfl rfl dX7_books_23 ?_
    refine q_callV (kc := 1) (ks := 6) (mc' := 0) (ms' := 0) (h' := 2) (st := []) hF vl_RX7_283 rfl [qI n] rfl rfl hW0.t0 (by decide) (Nat.le_of_ble_eq_true rfl) dX7_books_24 ?_
    refine mX6_inBooks (r := r) (mn := mn) hW0 hWR hv hmn (fun j hj => by have q := hV.2.1 j (by omega); rwa [if_neg (Nat.not_lt_zero _)] at q) (by omega) ?_
    refine q_lreturn hF rfl dX7_books_27 ?_
    exact k0 (by omega)
  · refine q_iconst hF dX7_books_11 ?_
    refine q_goto hF dX7_books_12 ?_
    refine q_callV (kc := 0) (ks := 0) (mc' := 1) (ms' := 6) (h' := 0) (st := []) hF vl_RX7_45 rfl [qI 1] rfl rfl hS.t0 (by decide) (Nat.le_of_ble_eq_true rfl) dX7_books_16 ?_
    refine mX7_refuseArgument1 hS.t0 hA (fun sz' c16_0 => ?_)
    refine q_out hF rfl ?_
    exact k1 sz' c16_0 (by omega)
set_option maxRecDepth 100000 in
theorem lX7_print {G : q_G} {F : q_F} {h : Nat} {Q : q_Q} {kc ks sz : Nat} {T : q_T} {b w mn : Nat} {V : Nat → Nat} {r : Nat → Int} {I L : q_I} {P : q_P} (hF : q_ok G F YX7_print h) (hS : q_ST T P b) (hA : q_A G b) (hPV : q_PV P b V) (hO : q_OV b V) (hVw : V 0 = w) (hWR : q_WR I L w r (r 2)) (hV : g_VR r) (hmn : r 1 = (mn : Int)) (hm129 : mn ≤ 12) (k0 : Q (.inl (some (qL (g_print r mn)))) sz T I L P) : ∀ (n : Nat) (k : Nat), mn - k < n → k ≤ mn → qX G F Q kc ks 4 [(3, qI (k : Int)), (1, qL (g_print r k)), (0, .ref b)] [] sz T I L P := by
  intro n
  induction n with
  | zero => intro k hn; exact absurd hn (Nat.not_lt_zero _)
  | succ n ih =>
    intro k hn hk
    have hv := hV.1
    have hPVw : P b 3 = some w := hVw ▸ hPV.w
    have hwr := hO.r (i := 0) (by omega)
    rw [hVw] at hwr
    have hW0 : q_SW T P w := by have q := hS.sw hO (i := 0) (by omega); rwa [hVw] at q
    have hW0A : q_A G w := q_Ale hA (by omega)
    have hm12 := hv.many
    have hl5 := hv.lands
    have hmo := hv.month
    have hr6 := hv.rows
    refine q_iload_n hF 0 rfl rfl dX7_print_4 ?_
    refine q_aload_n hF 2 rfl rfl dX7_print_5 ?_
    refine q_getA hF fl_RX7_26 rfl hS.t0 hPVw dX7_print_6 ?_
    refine q_getIv hF (z := (mn : Int)) fl_RX7_85 hW0.t0 (hWR.cnt.trans hmn) dX7_print_9 ?_
    refine q_icmpge hF (by omega) (by omega) dX7_print_12 (fun c12 => ?_) (fun c12 => ?_)
    · refine q_lload_n hF 1 rfl rfl dX7_print_77 ?_
      refine q_lreturn hF rfl dX7_print_78 ?_
      rw [show k = mn by omega]; exact k0
    · refine q_iload_n hF 0 rfl rfl dX7_print_15 ?_
      refine q_bipush hF (n := 12) rfl dX7_print_16 ?_
      refine q_icmpge hF (by omega) (by decide) dX7_print_18 (fun c18 => ?_) (fun c18 => ?_)
      · omega
      · refine q_aload_n hF 2 rfl rfl dX7_print_21 ?_
        refine q_getA hF fl_RX7_26 rfl hS.t0 hPVw dX7_print_22 ?_
        refine q_getA hF fl_RX7_91 rfl hW0.t0 hW0.p1 dX7_print_25 ?_
        refine q_iload_n hF 0 rfl rfl dX7_print_28 ?_
        refine q_aaloadv hF (b := w + 35 + k) k hW0.t19 (by decide) rfl (by omega) (by decide) (hW0.pa _ (by omega)) dX7_print_29 ?_
        refine q_astore hF (ls' := [(4, .ref (w + 35 + k)), (3, qI (k : Int)), (1, qL (g_print r k)), (0, .ref b)]) (by decide) rfl dX7_print_30 ?_
        have hVA := hV.2.1 k (by omega)
        rw [if_neg (Nat.not_lt_zero _)] at hVA
        have hva1 := hVA.state
        have hva2 := hVA.cents
        have hva3 := hVA.since
        refine q_ldc2 hF (n := 31) (q_mem 1440 (by decide +kernel) rfl) dX7_print_32 ?_
        refine q_lload_n hF 2 rfl rfl dX7_print_35 ?_
        refine q_lmul hF dX7_print_36 ?_
        refine q_aload hF 0 rfl dX7_print_37 ?_
        refine q_getIv hF (z := r (1042 + 12 * k)) fl_RX7_115 (hW0.ta _ (by omega)) (hWR.acc _ (by omega)).cents dX7_print_39 ?_
        refine q_i2l hF (by omega) dX7_print_42 ?_
        refine q_ladd hF dX7_print_43 ?_
        refine q_lstore_n hF (ls' := [(1, qL ((31 * (g_print r k)) + (r (1042 + 12 * k)))), (4, .ref (w + 35 + k)), (3, qI (k : Int)), (0, .ref b)]) rfl (by decide) rfl dX7_print_44 ?_
        refine q_ldc2 hF (n := 31) (q_mem 1440 (by decide +kernel) rfl) dX7_print_45 ?_
        refine q_lload_n hF 0 rfl rfl dX7_print_48 ?_
        refine q_lmul hF dX7_print_49 ?_
        refine q_aload hF 1 rfl dX7_print_50 ?_
        refine q_getIv hF (z := r (1043 + 12 * k)) fl_RX7_127 (hW0.ta _ (by omega)) (hWR.acc _ (by omega)).state dX7_print_52 ?_
        refine q_i2l hF (by omega) dX7_print_55 ?_
        refine q_ladd hF dX7_print_56 ?_
        refine q_lstore_n hF (ls' := [(1, qL ((31 * ((31 * (g_print r k)) + (r (1042 + 12 * k)))) + (r (1043 + 12 * k)))), (4, .ref (w + 35 + k)), (3, qI (k : Int)), (0, .ref b)]) rfl (by decide) rfl dX7_print_57 ?_
        refine q_ldc2 hF (n := 31) (q_mem 1440 (by decide +kernel) rfl) dX7_print_58 ?_
        refine q_lload_n hF 0 rfl rfl dX7_print_61 ?_
        refine q_lmul hF dX7_print_62 ?_
        refine q_aload hF 1 rfl dX7_print_63 ?_
        refine q_getIv hF (z := r (1045 + 12 * k)) fl_RX7_108 (hW0.ta _ (by omega)) (hWR.acc _ (by omega)).since dX7_print_65 ?_
        refine q_i2l hF (by omega) dX7_print_68 ?_
        refine q_ladd hF dX7_print_69 ?_
        refine q_lstore_n hF (ls' := [(1, qL ((31 * ((31 * ((31 * (g_print r k)) + (r (1042 + 12 * k)))) + (r (1043 + 12 * k)))) + (r (1045 + 12 * k)))), (4, .ref (w + 35 + k)), (3, qI (k : Int)), (0, .ref b)]) rfl (by decide) rfl dX7_print_70 ?_
        refine q_iinc hF (z' := ((1 + k : Nat) : Int)) (ls' := [(3, qI ((1 + k : Nat) : Int)), (1, qL ((31 * ((31 * ((31 * (g_print r k)) + (r (1042 + 12 * k)))) + (r (1043 + 12 * k)))) + (r (1045 + 12 * k)))), (4, .ref (w + 35 + k)), (0, .ref b)]) 2 rfl (by first | rfl | omega) (by decide) rfl dX7_print_71 ?_
        refine q_goto hF dX7_print_74 ?_
        refine q_sub [0, 1, 3] rfl ?_
        rw [Nat.add_comm 1 k]
        exact ih (k + 1) (by omega) (by omega)
set_option maxRecDepth 100000 in
theorem mX7_print {G : q_G} {sz : Nat} {T : q_T} {I L : q_I} {P : q_P} {Q : q_Q} {b : Nat} {V : Nat → Nat} {w mn : Nat} {r : Nat → Int} (hS : q_ST T P b) (hA : q_A G b) (hPV : q_PV P b V) (hO : q_OV b V) (hVw : V 0 = w) (hWR : q_WR I L w r (r 2)) (hV : g_VR r) (hmn : r 1 = (mn : Int)) (hm129 : mn ≤ 12) (k0 : Q (.inl (some (qL (g_print r mn)))) sz T I L P) : qC G 1 0 0 YX7_print [.ref b] sz T I L P Q := by
  refine qC_of (by decide +kernel) rfl rfl (Nat.le_of_ble_eq_true rfl) (fun F hF _ _ => ?_)
  refine q_lconst hF (z := 0) rfl dX7_print_0 ?_
  refine q_lstore_n hF (ls' := [(1, qL 0), (0, .ref b)]) rfl (by decide) rfl dX7_print_1 ?_
  refine q_iconst hF dX7_print_2 ?_
  refine q_istore_n hF (ls' := [(3, qI 0), (1, qL 0), (0, .ref b)]) rfl (by decide) rfl dX7_print_3 ?_
  refine q_sub [0, 1, 2] rfl ?_
  exact lX7_print hF hS hA hPV hO hVw hWR hV hmn hm129 k0 (mn + 1) 0 (by omega) (Nat.zero_le _)
