/-! the class: whom the world has, where they belong, how soon they go -/
set_option maxRecDepth 100000 in
theorem mX6_hasAccount {G : q_G} {sz : Nat} {T : q_T} {I L : q_I} {P : q_P} {Q : q_Q} {w : Nat} {l : Int} {r : Nat → Int} {mo : Int} (hW : q_SW T P w) (hWR : q_WR I L w r mo) (hv : g_V0 r) (hl : -2147483648 ≤ l ∧ l < 2147483648) (k0 : Q (.inl (some (qI (q_b (0 ≤ l ∧ l < r 1))))) sz T I L P) : qC G 0 0 0 YX6_hasAccount [.ref w, qI l] sz T I L P Q := by
  refine qC_of (by decide +kernel) rfl rfl (Nat.le_of_ble_eq_true rfl) (fun F hF _ _ => ?_)
  refine q_iload_n hF 1 rfl rfl dX6_hasAccount_0 ?_
  refine q_iflt hF hl dX6_hasAccount_1 (fun c1 => ?_) (fun c1 => ?_)
  · refine q_iconst hF dX6_hasAccount_22 ?_
    refine q_zreturn hF (by decide) rfl dX6_hasAccount_23 ?_
    rw [q_b_f (c := 0 ≤ l ∧ l < r 1) (by first | omega | (have := hv.many; omega))] at k0; exact k0
  · refine q_iload_n hF 1 rfl rfl dX6_hasAccount_4 ?_
    refine q_aload_n hF 0 rfl rfl dX6_hasAccount_5 ?_
    refine q_getIv hF (z := r 1) fl_RX6_41 hW.t0 hWR.cnt dX6_hasAccount_6 ?_
    refine q_icmpge hF hl (by have := hv.many; omega) dX6_hasAccount_9 (fun c9 => ?_) (fun c9 => ?_)
    · refine q_iconst hF dX6_hasAccount_22 ?_
      refine q_zreturn hF (by decide) rfl dX6_hasAccount_23 ?_
      rw [q_b_f (c := 0 ≤ l ∧ l < r 1) (by first | omega | (have := hv.many; omega))] at k0; exact k0
    · refine q_iload_n hF 1 rfl rfl dX6_hasAccount_12 ?_
      refine q_bipush hF (n := 12) rfl dX6_hasAccount_13 ?_
      refine q_icmpge hF hl (by decide) dX6_hasAccount_15 (fun c15 => ?_) (fun c15 => ?_)
      · refine q_iconst hF dX6_hasAccount_22 ?_
        refine q_zreturn hF (by decide) rfl dX6_hasAccount_23 ?_
        rw [q_b_f (c := 0 ≤ l ∧ l < r 1) (by first | omega | (have := hv.many; omega))] at k0; exact k0
      · refine q_iconst hF dX6_hasAccount_18 ?_
        refine q_goto hF dX6_hasAccount_19 ?_
        refine q_zreturn hF (by decide) rfl dX6_hasAccount_23 ?_
        rw [q_b_t (c := 0 ≤ l ∧ l < r 1) (by first | omega | (have := hv.many; omega))] at k0; exact k0
def g_landNow (r : Nat → Int) (a : Nat) : Int := if r (1043 + 12 * a) = 0 ∨ r (1043 + 12 * a) = 1 then g_bel r a else if r (1043 + 12 * a) = 2 then r (1047 + 12 * a) else -1
set_option maxRecDepth 100000 in
theorem mX6_landNowOf {G : q_G} {sz : Nat} {T : q_T} {I L : q_I} {P : q_P} {Q : q_Q} {w : Nat} {o : Nat} {r : Nat → Int} {mo bd : Int} {a : Nat} (hW : q_SW T P w) (hWR : q_WR I L w r mo) (hv : g_V0 r) (hO : T o = some (.inl 0)) (hAR : q_AR I o r a) (ha : g_VA r a bd) (k0 : Q (.inl (some (qI (g_landNow r a)))) sz T I L P) : qC G 3 0 0 YX6_landNowOf [.ref w, .ref o] sz T I L P Q := by
  refine qC_of (by decide +kernel) rfl rfl (Nat.le_of_ble_eq_true rfl) (fun F hF _ _ => ?_)
  refine q_aload_n hF 1 rfl rfl dX6_landNowOf_0 ?_
  refine q_callV (kc := 0) (ks := 0) (mc' := 0) (ms' := 0) (h' := 0) (st := []) hF vl_RX6_60 rfl [] rfl rfl hO (by decide) (Nat.le_of_ble_eq_true rfl) dX6_landNowOf_1 ?_
  refine mX0_isWithBankR (r := r) (a := a) hO hAR ha.state ?_
  refine q_ifeq_b hF dX6_landNowOf_4 (fun c4 => ?_) (fun c4 => ?_)
  · refine q_aload_n hF 1 rfl rfl dX6_landNowOf_16 ?_
    refine q_getIv hF (z := r (1043 + 12 * a)) fl_RX6_68 hO hAR.state dX6_landNowOf_17 ?_
    refine q_iconst hF dX6_landNowOf_20 ?_
    refine q_icmpne hF (by have := ha.state; have := ha.holder; omega) (by decide) dX6_landNowOf_21 (fun c21 => ?_) (fun c21 => ?_)
    · refine q_iconst hF dX6_landNowOf_31 ?_
      refine q_ireturn hF rfl dX6_landNowOf_32 ?_
      rw [show (g_landNow r a) = (-1) from by unfold g_landNow; first | rw [if_pos (by omega)] | rw [if_neg (by omega), if_pos (by omega)] | rw [if_neg (by omega), if_neg (by omega)]] at k0; exact k0
    · refine q_aload_n hF 1 rfl rfl dX6_landNowOf_24 ?_
      refine q_getIv hF (z := r (1047 + 12 * a)) fl_RX6_78 hO hAR.holder dX6_landNowOf_25 ?_
      refine q_goto hF dX6_landNowOf_28 ?_
      refine q_ireturn hF rfl dX6_landNowOf_32 ?_
      rw [show (g_landNow r a) = (r (1047 + 12 * a)) from by unfold g_landNow; first | rw [if_pos (by omega)] | rw [if_neg (by omega), if_pos (by omega)] | rw [if_neg (by omega), if_neg (by omega)]] at k0; exact k0
  · refine q_aload_n hF 0 rfl rfl dX6_landNowOf_7 ?_
    refine q_getA hF fl_RX6_12 rfl hW.t0 hW.p0 dX6_landNowOf_8 ?_
    refine q_aload_n hF 1 rfl rfl dX6_landNowOf_11 ?_
    refine q_callV (kc := 0) (ks := 0) (mc' := 0) (ms' := 0) (h' := 2) (st := []) hF vl_RX6_100 rfl [.ref o] rfl rfl hW.ru.t0 (by decide) (Nat.le_of_ble_eq_true rfl) dX6_landNowOf_12 ?_
    refine mX4_landOf (r := r) hW.ru hWR.ru hv hO hAR ha ?_
    refine q_ireturn hF rfl dX6_landNowOf_15 ?_
    rw [show (g_landNow r a) = (g_bel r a) from by unfold g_landNow; first | rw [if_pos (by omega)] | rw [if_neg (by omega), if_pos (by omega)] | rw [if_neg (by omega), if_neg (by omega)]] at k0; exact k0