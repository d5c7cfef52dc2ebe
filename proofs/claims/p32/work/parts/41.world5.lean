/-! the class: passed on, given back -/
set_option maxRecDepth 100000 in
theorem mX6_passOn {G : q_G} {sz : Nat} {T : q_T} {I L : q_I} {P : q_P} {Q : q_Q} {w : Nat} {o : Nat} {l : Nat} {mo : Int} {r : Nat → Int} (hW : q_SW T P w) (hWA : q_A G w) (hO : T o = some (.inl 0)) (hOA : q_A G o) (hWR : q_WR I L w r mo) (hv : g_V0 r) (hl : l < 5) (hlr : (l : Int) < r 0) (hc : 0 ≤ I o 3 ∧ I o 3 ≤ 100000000) (k0 : 0 ≤ (l : Int) ∧ (l : Int) < r 0 → Q (.inl none) sz T (u2 I o 9 (l : Int)) (u2 L (w + 34) l ((L (w + 34) l) + (I o 3))) P) : qC G 1 0 0 YX6_passOn [.ref w, .ref o, qI (l : Int)] sz T I L P Q := by
  refine qC_of (by decide +kernel) rfl rfl (Nat.le_of_ble_eq_true rfl) (fun F hF _ _ => ?_)
  refine q_aload_n hF 0 rfl rfl dX6_passOn_0 ?_
  refine q_getA hF fl_RX6_12 rfl hW.t0 hW.p0 dX6_passOn_1 ?_
  refine q_iload_n hF 2 rfl rfl dX6_passOn_4 ?_
  refine q_callV (kc := 0) (ks := 0) (mc' := 0) (ms' := 0) (h' := 0) (st := []) hF vl_RX6_92 rfl [qI (l : Int)] rfl rfl hW.ru.t0 (by decide) (Nat.le_of_ble_eq_true rfl) dX6_passOn_5 ?_
  refine mX4_isLand (r := r) hW.ru hWR.ru hv (by omega) ?_
  refine q_ifeq_b hF dX6_passOn_8 (fun c8 => ?_) (fun c8 => ?_)
  · omega
  · refine q_aload_n hF 1 rfl rfl dX6_passOn_11 ?_
    refine q_iload_n hF 2 rfl rfl dX6_passOn_12 ?_
    refine q_putI hF fl_RX6_78 hO hOA dX6_passOn_13 ?_
    refine q_aload_n hF 0 rfl rfl dX6_passOn_16 ?_
    refine q_getA hF fl_RX6_33 rfl hW.t0 hW.p7 dX6_passOn_17 ?_
    refine q_iload_n hF 2 rfl rfl dX6_passOn_20 ?_
    refine q_dup2 hF rfl rfl dX6_passOn_21 ?_
    refine q_laloadv hF (z := L (w + 34) l) (n := 5) l hW.t34 rfl (by omega) (by decide) rfl dX6_passOn_22 ?_
    refine q_aload_n hF 1 rfl rfl dX6_passOn_23 ?_
    refine q_getIv hF (z := I o 3) fl_RX6_81 hO (u2_k _ _ (by decide)) dX6_passOn_24 ?_
    refine q_i2l hF (by omega) dX6_passOn_27 ?_
    refine q_ladd hF dX6_passOn_28 ?_
    refine q_lastorev hF (n := 5) l hW.t34 (q_Ale hWA (by omega)) rfl (by omega) (by decide) dX6_passOn_29 ?_
    refine q_return hF rfl dX6_passOn_30 ?_
    exact k0 c8
set_option maxRecDepth 100000 in
theorem mX0_giveBack {G : q_G} {sz : Nat} {T : q_T} {I L : q_I} {P : q_P} {Q : q_Q} {o : Nat}  (hO : T o = some (.inl 0)) (hOA : q_A G o) (hc : -2147483648 ≤ I o 3 ∧ I o 3 < 2147483648) (k0 : Q (.inl (some (qI (I o 3)))) sz T (u2 (u2 I o 3 0) o 4 3) (u2 L o 16 ((L o 16) + (I o 3))) P) : qC G 0 0 0 YX0_giveBack [.ref o] sz T I L P Q := by
  refine qC_of (by decide +kernel) rfl rfl (Nat.le_of_ble_eq_true rfl) (fun F hF _ _ => ?_)
  refine q_aload_n hF 0 rfl rfl dX0_giveBack_0 ?_
  refine q_getIv hF (z := I o 3) fl_RX0_21 hO rfl dX0_giveBack_1 ?_
  refine q_istore_n hF (ls' := [(1, qI (I o 3)), (0, .ref o)]) rfl (by decide) rfl dX0_giveBack_4 ?_
  refine q_aload_n hF 1 rfl rfl dX0_giveBack_5 ?_
  refine q_dup hF rfl dX0_giveBack_6 ?_
  refine q_getLv hF (z := L o 16) fl_RX0_62 hO rfl dX0_giveBack_7 ?_
  refine q_iload_n hF 0 rfl rfl dX0_giveBack_10 ?_
  refine q_i2l hF hc dX0_giveBack_11 ?_
  refine q_ladd hF dX0_giveBack_12 ?_
  refine q_putL hF fl_RX0_62 hO hOA dX0_giveBack_13 ?_
  refine q_aload_n hF 1 rfl rfl dX0_giveBack_16 ?_
  refine q_iconst hF dX0_giveBack_17 ?_
  refine q_putI hF fl_RX0_21 hO hOA dX0_giveBack_18 ?_
  refine q_aload_n hF 1 rfl rfl dX0_giveBack_21 ?_
  refine q_iconst hF dX0_giveBack_22 ?_
  refine q_putI hF fl_RX0_24 hO hOA dX0_giveBack_23 ?_
  refine q_iload_n hF 0 rfl rfl dX0_giveBack_26 ?_
  refine q_ireturn hF rfl dX0_giveBack_27 ?_
  exact k0
set_option maxRecDepth 100000 in
theorem mX6_giveBack {G : q_G} {sz : Nat} {T : q_T} {I L : q_I} {P : q_P} {Q : q_Q} {w : Nat} {o : Nat} {a l : Nat} {bd mo : Int} {r : Nat → Int} (hW : q_SW T P w) (hWA : q_A G w) (hO : T o = some (.inl 0)) (hOA : q_A G o) (hWR : q_WR I L w r mo) (hv : g_V0 r) (hAR : q_AR I o r a) (ha : g_VA r a bd) (hbd : bd ≤ r 2) (hmo : mo = r 2) (hst : r (1043 + 12 * a) = 2) (hl : r (1047 + 12 * a) = (l : Int)) (hl2 : (l : Int) < r 0) (hsep : o < w + 19 ∨ w + 35 ≤ o) (hsep2 : o ≠ w) (k0 : 0 ≤ (l : Int) ∧ (l : Int) < r 0 → Q (.inl (some (qL ((r (1042 + 12 * a)) + (g_interest r a 0))))) sz T (u2 (u2 I o 3 0) o 4 3) (u2 (u2 L (w + 33) l ((r (35 + 13 * l)) + (g_interest r a 0))) o 16 ((L o 16) + (r (1042 + 12 * a)))) P) : qC G 2 0 0 YX6_giveBack [.ref w, .ref o] sz T I L P Q := by
  refine qC_of (by decide +kernel) rfl rfl (Nat.le_of_ble_eq_true rfl) (fun F hF _ _ => ?_)
  refine q_aload_n hF 0 rfl rfl dX6_giveBack_0 ?_
  refine q_getA hF fl_RX6_12 rfl hW.t0 hW.p0 dX6_giveBack_1 ?_
  refine q_aload_n hF 1 rfl rfl dX6_giveBack_4 ?_
  refine q_aload_n hF 0 rfl rfl dX6_giveBack_5 ?_
  refine q_getIv hF (z := r 2) fl_RX6_45 hW.t0 (hWR.mon.trans hmo) dX6_giveBack_6 ?_
  refine q_callV (kc := 0) (ks := 0) (mc' := 0) (ms' := 0) (h' := 1) (st := []) hF vl_RX6_88 rfl [.ref o, qI (r 2)] rfl rfl hW.ru.t0 (by decide) (Nat.le_of_ble_eq_true rfl) dX6_giveBack_9 ?_
  refine mX4_interestOf (r := r) (a := a) hW.ru hWR.ru hv hO hAR ha (by omega) (by omega) (by omega) ?_
  rw [show g_interest r a ((r 2) - r 2) = g_interest r a 0 from by rw [Int.sub_self]]
  refine q_lstore_n hF (ls' := [(2, qL (g_interest r a 0)), (0, .ref w), (1, .ref o)]) rfl (by decide) rfl dX6_giveBack_12 ?_
  refine q_aload_n hF 1 rfl rfl dX6_giveBack_13 ?_
  refine q_getA hF fl_RX6_12 rfl hW.t0 hW.p0 dX6_giveBack_14 ?_
  refine q_aload_n hF 2 rfl rfl dX6_giveBack_17 ?_
  refine q_getIv hF (z := (l : Int)) fl_RX6_78 hO (hAR.holder.trans hl) dX6_giveBack_18 ?_
  refine q_callV (kc := 0) (ks := 0) (mc' := 0) (ms' := 0) (h' := 0) (st := []) hF vl_RX6_92 rfl [qI (l : Int)] rfl rfl hW.ru.t0 (by decide) (Nat.le_of_ble_eq_true rfl) dX6_giveBack_21 ?_
  refine mX4_isLand (r := r) hW.ru hWR.ru hv (by have q1 := ha.cents; have q2 := hv.month; have q3 := hv.lands; omega) ?_
  refine q_ifeq_b hF dX6_giveBack_24 (fun c24 => ?_) (fun c24 => ?_)
  · omega
  · have hl5 := hv.lands
    refine q_aload_n hF 1 rfl rfl dX6_giveBack_27 ?_
    refine q_getA hF fl_RX6_29 rfl hW.t0 hW.p6 dX6_giveBack_28 ?_
    refine q_aload_n hF 2 rfl rfl dX6_giveBack_31 ?_
    refine q_getIv hF (z := (l : Int)) fl_RX6_78 hO (hAR.holder.trans hl) dX6_giveBack_32 ?_
    refine q_dup2 hF rfl rfl dX6_giveBack_35 ?_
    refine q_laloadv hF (z := r (35 + 13 * l)) (n := 5) l hW.t33 rfl (by omega) (by decide) (hWR.paid _ (by have := hv.lands; omega)) dX6_giveBack_36 ?_
    refine q_lload_n hF 0 rfl rfl dX6_giveBack_37 ?_
    refine q_ladd hF dX6_giveBack_38 ?_
    refine q_lastorev hF (n := 5) l hW.t33 (q_Ale hWA (by omega)) rfl (by omega) (by decide) dX6_giveBack_39 ?_
    refine q_aload_n hF 2 rfl rfl dX6_giveBack_40 ?_
    refine q_callV (kc := 0) (ks := 0) (mc' := 0) (ms' := 0) (h' := 0) (st := []) hF vl_RX6_96 rfl [] rfl rfl hO (by decide) (Nat.le_of_ble_eq_true rfl) dX6_giveBack_41 ?_
    refine mX0_giveBack hO hOA (by rw [hAR.cents]; have q1 := ha.cents; omega) ?_
    rw [show I o 3 = r (1042 + 12 * a) from hAR.cents]
    rw [show (u2 L (w + 33) l ((r (35 + 13 * l)) + (g_interest r a 0))) o 16 = L o 16 from (u2_a _ _ (by omega))]
    refine q_i2l hF (by have q1 := ha.cents; have q2 := hv.month; have q3 := hv.lands; omega) dX6_giveBack_44 ?_
    refine q_lload_n hF 0 rfl rfl dX6_giveBack_45 ?_
    refine q_ladd hF dX6_giveBack_46 ?_
    refine q_lreturn hF rfl dX6_giveBack_47 ?_
    exact k0 c24
