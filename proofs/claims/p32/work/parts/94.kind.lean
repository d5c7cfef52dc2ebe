/-! the class: the kind in hand -/
set_option maxRecDepth 100000 in
theorem mX3_kindInHand0 {G : q_G} {sz : Nat} {T : q_T} {I L : q_I} {P : q_P} {Q : q_Q} {a : Nat} {c N j : Nat} {B : Nat → Int} {S E : Nat → Nat} (hD : q_SD T P a) (hA : q_A G a) (hO : q_TO G I P a c N B S E) (hat : I a 6 = (j : Int)) (hj : j ≤ c) (hw : g_wo B (S j) (E j) = none) (k0 : Q (.inl (some (qI (-1)))) sz T I L P) : qC G 0 0 0 YX3_kindInHand [.ref a] sz T I L P Q := by
  refine qC_of (by decide +kernel) rfl rfl (Nat.le_of_ble_eq_true rfl) (fun F hF _ _ => ?_)
  refine q_aload_n hF 0 rfl rfl dX3_kindInHand_0 ?_
  refine q_getA hF fl_RX3_33 rfl hD.t0 hD.p4 dX3_kindInHand_1 ?_
  refine q_aload_n hF 0 rfl rfl dX3_kindInHand_4 ?_
  refine q_getIv hF (z := (j : Int)) fl_RX3_37 hD.t0 hat dX3_kindInHand_5 ?_
  refine q_aaloadRv hF (r := none) j hD.t4 (by decide) rfl (by have := hO.tk.1; have := hO.n6; omega) (by decide) ((hO.wo _ hj).trans (by rw [hw]; rfl)) dX3_kindInHand_8 ?_
  refine q_astore_nR hF (ls' := [(1, qR none), (0, .ref a)]) rfl (by decide) rfl dX3_kindInHand_9 ?_
  refine q_aload_nR hF 0 rfl rfl dX3_kindInHand_10 ?_
  refine q_ifnull hF (r := none) dX3_kindInHand_11 (fun c11 => ?_) (fun c11 => ?_)
  · refine q_iconst hF dX3_kindInHand_36 ?_
    refine q_ireturn hF rfl dX3_kindInHand_37 ?_
    exact k0
  · exact absurd rfl c11
set_option maxRecDepth 100000 in
theorem mX3_kindInHand1 {G : q_G} {sz : Nat} {T : q_T} {I L : q_I} {P : q_P} {Q : q_Q} {a : Nat} {x : Nat} {c N j : Nat} {B : Nat → Int} {S E : Nat → Nat} (hD : q_SD T P a) (hA : q_A G a) (hO : q_TO G I P a c N B S E) (hat : I a 6 = (j : Int)) (hj : j ≤ c) (hw : g_wo B (S j) (E j) = some x) (hx : x < 23) (k0 : Q (.inl (some (qI (if 18 ≤ x then (x : Int) - 18 else -1)))) sz T I L P) : qC G 0 0 0 YX3_kindInHand [.ref a] sz T I L P Q := by
  refine qC_of (by decide +kernel) rfl rfl (Nat.le_of_ble_eq_true rfl) (fun F hF _ _ => ?_)
  refine q_aload_n hF 0 rfl rfl dX3_kindInHand_0 ?_
  refine q_getA hF fl_RX3_33 rfl hD.t0 hD.p4 dX3_kindInHand_1 ?_
  refine q_aload_n hF 0 rfl rfl dX3_kindInHand_4 ?_
  refine q_getIv hF (z := (j : Int)) fl_RX3_37 hD.t0 hat dX3_kindInHand_5 ?_
  refine q_aaloadv hF (b := q_E G x) j hD.t4 (by decide) rfl (by have := hO.tk.1; have := hO.n6; omega) (by decide) ((hO.wo _ hj).trans (by rw [hw]; rfl)) dX3_kindInHand_8 ?_
  refine q_astore_n hF (ls' := [(1, .ref (q_E G x)), (0, .ref a)]) rfl (by decide) rfl dX3_kindInHand_9 ?_
  refine q_aload_n hF 0 rfl rfl dX3_kindInHand_10 ?_
  refine q_ifnull hF (r := some (q_E G x)) dX3_kindInHand_11 (fun c11 => ?_) (fun c11 => ?_)
  · cases c11
  · refine q_aload_n hF 0 rfl rfl dX3_kindInHand_14 ?_
    refine q_kindE hF (i := x) hx (q_mem 1465 (by decide +kernel) rfl) dX3_kindInHand_15 ?_
    refine q_iflt hF (by split <;> omega) dX3_kindInHand_18 (fun c18 => ?_) (fun c18 => ?_)
    · refine q_iconst hF dX3_kindInHand_36 ?_
      refine q_ireturn hF rfl dX3_kindInHand_37 ?_
      rw [show (if 18 ≤ x then (x : Int) - 18 else -1) = -1 from by split <;> first | rfl | omega] at k0; exact k0
    · refine q_aload_n hF 0 rfl rfl dX3_kindInHand_21 ?_
      refine q_kindE hF (i := x) hx (q_mem 1465 (by decide +kernel) rfl) dX3_kindInHand_22 ?_
      refine q_iconst hF dX3_kindInHand_25 ?_
      refine q_icmpge hF (by split <;> omega) (by decide) dX3_kindInHand_26 (fun c26 => ?_) (fun c26 => ?_)
      · refine q_iconst hF dX3_kindInHand_36 ?_
        refine q_ireturn hF rfl dX3_kindInHand_37 ?_
        rw [show (if 18 ≤ x then (x : Int) - 18 else -1) = -1 from by split <;> first | rfl | omega] at k0; exact k0
      · refine q_aload_n hF 0 rfl rfl dX3_kindInHand_29 ?_
        refine q_kindE hF (i := x) hx (q_mem 1465 (by decide +kernel) rfl) dX3_kindInHand_30 ?_
        refine q_goto hF dX3_kindInHand_33 ?_
        refine q_ireturn hF rfl dX3_kindInHand_37 ?_
        exact k0
