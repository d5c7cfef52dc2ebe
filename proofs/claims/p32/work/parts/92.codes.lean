/-! the class: codes of a law, laid down -/
set_option maxRecDepth 100000 in
theorem mX4_addCode {G : q_G} {sz : Nat} {T : q_T} {I L : q_I} {P : q_P} {Q : q_Q} {u : Nat} {v : Int} {k : Nat} (hU : q_SR T P u) (hUA : q_A G u) (hc : I u 11 = (k : Int)) (hk : k < 600) (k0 : (k : Int) < 600 → Q (.inl none) sz T (u2 (u2 I (u + 6) k v) u 11 ((k : Int) + 1)) L P) : qC G 0 0 0 YX4_addCode [.ref u, qI v] sz T I L P Q := by
  refine qC_of (by decide +kernel) rfl rfl (Nat.le_of_ble_eq_true rfl) (fun F hF _ _ => ?_)
  refine q_aload_n hF 0 rfl rfl dX4_addCode_0 ?_
  refine q_getIv hF (z := (k : Int)) fl_RX4_60 hU.t0 hc dX4_addCode_1 ?_
  refine q_sipush hF (n := 600) rfl dX4_addCode_4 ?_
  refine q_icmpge hF (by omega) (by decide) dX4_addCode_7 (fun c7 => ?_) (fun c7 => ?_)
  · omega
  · refine q_aload_n hF 0 rfl rfl dX4_addCode_10 ?_
    refine q_getA hF fl_RX4_30 rfl hU.t0 hU.p10 dX4_addCode_11 ?_
    refine q_aload_n hF 0 rfl rfl dX4_addCode_14 ?_
    refine q_getIv hF (z := (k : Int)) fl_RX4_60 hU.t0 hc dX4_addCode_15 ?_
    refine q_iload_n hF 1 rfl rfl dX4_addCode_18 ?_
    refine q_iastorev hF (n := 600) k hU.t6 (q_Ale hUA (by omega)) rfl (by omega) (by decide) dX4_addCode_19 ?_
    refine q_aload_n hF 0 rfl rfl dX4_addCode_20 ?_
    refine q_dup hF rfl dX4_addCode_21 ?_
    refine q_getIv hF (z := (k : Int)) fl_RX4_60 hU.t0 ((u2_a _ _ (by omega)).trans hc) dX4_addCode_22 ?_
    refine q_iconst hF dX4_addCode_25 ?_
    refine q_iadd hF dX4_addCode_26 ?_
    refine q_putI hF fl_RX4_60 hU.t0 hUA dX4_addCode_27 ?_
    refine q_return hF rfl dX4_addCode_30 ?_
    exact k0 c7
set_option maxRecDepth 100000 in
theorem mX4_addSign {G : q_G} {sz : Nat} {T : q_T} {I L : q_I} {P : q_P} {Q : q_Q} {u : Nat} {v : Int} {k : Nat} (hU : q_SR T P u) (hUA : q_A G u) (hc : I u 11 = (k : Int)) (hk : v ≠ 0 → k < 600) (hv32 : -2147483648 ≤ v ∧ v < 2147483648) (k0 : v = 0 → Q (.inl none) sz T I L P) (k1 : v ≠ 0 → (k : Int) < 600 → Q (.inl none) sz T (u2 (u2 I (u + 6) k v) u 11 ((k : Int) + 1)) L P) : qC G 1 0 0 YX4_addSign [.ref u, qI v] sz T I L P Q := by
  refine qC_of (by decide +kernel) rfl rfl (Nat.le_of_ble_eq_true rfl) (fun F hF _ _ => ?_)
  refine q_iload_n hF 1 rfl rfl dX4_addSign_0 ?_
  refine q_ifeq hF (by omega) dX4_addSign_1 (fun c1 => ?_) (fun c1 => ?_)
  · refine q_return hF rfl dX4_addSign_9 ?_
    exact k0 c1
  · refine q_aload_n hF 0 rfl rfl dX4_addSign_4 ?_
    refine q_iload_n hF 1 rfl rfl dX4_addSign_5 ?_
    refine q_callV (kc := 0) (ks := 0) (mc' := 0) (ms' := 0) (h' := 0) (st := []) hF vl_RX4_91 rfl [qI v] rfl rfl hU.t0 (by decide) (Nat.le_of_ble_eq_true rfl) dX4_addSign_6 ?_
    refine mX4_addCode (k := k) hU hUA hc (hk (by assumption)) (fun c6_0 => ?_)
    refine q_return hF rfl dX4_addSign_9 ?_
    exact k1 c1 c6_0
