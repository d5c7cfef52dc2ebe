/-! the class: a word in hand -/
theorem g_len_1 : ∀ i, i < 23 → 1 ≤ g_len i := by decide +kernel
theorem g_woF_emp {B : Nat → Int} {f : Nat} : ∀ w i, i + w ≤ 23 → g_woF B f f w i = none
  | 0, _, _ => rfl
  | w + 1, i, h => by
    unfold g_woF
    rw [if_neg (fun e => by have q := g_len_1 i (by omega); have q2 := e.1; omega)]
    exact g_woF_emp w (i + 1) (by omega)
/-- no word is empty -/
theorem g_wo_emp {B : Nat → Int} {f : Nat} : g_wo B f f = none := g_woF_emp 23 0 (by decide)
theorem q_E_inj {G : q_G} {F : q_F} {Y : q_Y} {h : Nat} (hF : q_ok G F Y h) {i j : Nat} (hi : i < 23) (hj : j < 23) (e : q_E G i = q_E G j) : i = j := by
  obtain ⟨p, l, e2, R, s, m, args, below, meth, c, mc, ms⟩ := F
  obtain ⟨hx, hb, hr, hlk, hml, ho, hnm, htb, hg, -⟩ := hF
  exact (q_En_of hg).2 i j (by show i < 23; exact hi) (by show j < 23; exact hj) e
theorem q_wo_eq {G : q_G} {F : q_F} {Y : q_Y} {h : Nat} (hF : q_ok G F Y h) {B : Nat → Int} {f t i : Nat} (hi : i < 23) : (g_wo B f t).map (q_E G) = some (q_E G i) ↔ g_wo B f t = some i := by
  cases e : g_wo B f t with
  | none => exact ⟨fun h => (by cases h), fun h => (by cases h)⟩
  | some x => exact ⟨fun h => congrArg some (q_E_inj hF (g_wo_lt e) hi (Option.some.inj h)), fun h => by rw [Option.some.inj h]; rfl⟩
set_option maxRecDepth 100000 in
theorem mX3_takeWord {G : q_G} {sz : Nat} {T : q_T} {I L : q_I} {P : q_P} {Q : q_Q} {a : Nat} {i : Nat} {c N j : Nat} {B : Nat → Int} {S E : Nat → Nat} (hD : q_SD T P a) (hA : q_A G a) (hO : q_TO G I P a c N B S E) (hat : I a 6 = (j : Int)) (hj : j ≤ c) (hi : i < 23) (k0 : g_wo B (S j) (E j) ≠ some i → Q (.inl (some (qI 0))) sz T I L P) (k1 : g_wo B (S j) (E j) = some i → Q (.inl (some (qI 1))) sz T (u2 I a 6 ((j : Int) + 1)) L P) : qC G 0 0 0 YX3_takeWord [.ref a, .ref (q_E G i)] sz T I L P Q := by
  refine qC_of (by decide +kernel) rfl rfl (Nat.le_of_ble_eq_true rfl) (fun F hF _ _ => ?_)
  refine q_aload_n hF 0 rfl rfl dX3_takeWord_0 ?_
  refine q_getIv hF (z := (j : Int)) fl_RX3_37 hD.t0 hat dX3_takeWord_1 ?_
  refine q_sipush hF (n := 600) rfl dX3_takeWord_4 ?_
  refine q_icmpge hF (by have := hO.tk.1; have := hO.n6; omega) (by decide) dX3_takeWord_7 (fun c7 => ?_) (fun c7 => ?_)
  · refine q_iconst hF dX3_takeWord_23 ?_
    refine q_zreturn hF (by decide) rfl dX3_takeWord_24 ?_
    exact k0 (fun h => by
      have e : j = c := by have := hO.tk.1; have := hO.n6; omega
      rw [e, hO.tk.2.2.1, hO.tk.2.2.2.1, g_wo_emp] at h; cases h)
  · refine q_aload_n hF 0 rfl rfl dX3_takeWord_10 ?_
    refine q_getA hF fl_RX3_33 rfl hD.t0 hD.p4 dX3_takeWord_11 ?_
    refine q_aload_n hF 0 rfl rfl dX3_takeWord_14 ?_
    refine q_getIv hF (z := (j : Int)) fl_RX3_37 hD.t0 hat dX3_takeWord_15 ?_
    refine q_aaloadRv hF (r := (g_wo B (S j) (E j)).map (q_E G)) j hD.t4 (by decide) rfl (by have := hO.tk.1; have := hO.n6; omega) (by decide) (hO.wo _ hj) dX3_takeWord_18 ?_
    refine q_aload_n hF 1 rfl rfl dX3_takeWord_19 ?_
    refine q_acmpeq hF (rx := (g_wo B (S j) (E j)).map (q_E G)) (ry := some (q_E G i)) dX3_takeWord_20 (fun c20 => ?_) (fun c20 => ?_)
    · refine q_aload_n hF 0 rfl rfl dX3_takeWord_25 ?_
      refine q_dup hF rfl dX3_takeWord_26 ?_
      refine q_getIv hF (z := (j : Int)) fl_RX3_37 hD.t0 hat dX3_takeWord_27 ?_
      refine q_iconst hF dX3_takeWord_30 ?_
      refine q_iadd hF dX3_takeWord_31 ?_
      refine q_putI hF fl_RX3_37 hD.t0 hA dX3_takeWord_32 ?_
      refine q_iconst hF dX3_takeWord_35 ?_
      refine q_zreturn hF (by decide) rfl dX3_takeWord_36 ?_
      exact k1 ((q_wo_eq hF hi).mp c20)
    · refine q_iconst hF dX3_takeWord_23 ?_
      refine q_zreturn hF (by decide) rfl dX3_takeWord_24 ?_
      exact k0 (fun h => c20 ((q_wo_eq hF hi).mpr h))
/-- the code of a sign that joins two factors, or 0 -/
def g_sgo (x : Int) : Int := if x = 43 then -5 else if x = 45 then -6 else if x = 42 then -7 else if x = 47 then -8 else 0
set_option maxRecDepth 100000 in
theorem mX3_signInHand {G : q_G} {sz : Nat} {T : q_T} {I L : q_I} {P : q_P} {Q : q_Q} {a : Nat} {c N j : Nat} {B : Nat → Int} {S E : Nat → Nat} (hD : q_SD T P a) (hA : q_A G a) (hO : q_TO G I P a c N B S E) (hat : I a 6 = (j : Int)) (hj : j ≤ c) (k0 : Q (.inl (some (qI (g_sgo (g_bt B N (S j)))))) sz T I L P) : qC G 0 0 0 YX3_signInHand [.ref a] sz T I L P Q := by
  refine qC_of (by decide +kernel) rfl rfl (Nat.le_of_ble_eq_true rfl) (fun F hF _ _ => ?_)
  refine q_aload_n hF 0 rfl rfl dX3_signInHand_0 ?_
  refine q_getA hF fl_RX3_22 rfl hD.t0 hD.p1 dX3_signInHand_1 ?_
  refine q_aload_n hF 0 rfl rfl dX3_signInHand_4 ?_
  refine q_getIv hF (z := (j : Int)) fl_RX3_37 hD.t0 hat dX3_signInHand_5 ?_
  refine q_ialoadv hF (z := g_so B N (S j)) (n := 601) j hD.t1 rfl (by have := hO.tk.1; have := hO.n6; omega) (by decide) (hO.so _ hj) dX3_signInHand_8 ?_
  have c9_r := (show -2147483648 ≤ (g_so B N (S j)) ∧ (g_so B N (S j)) < 2147483648 from (by have := g_so_r hO.br (g_TK_le hO.tk hj).1; omega))
  rcases (show (g_so B N (S j)) = 42 ∨ (g_so B N (S j)) = 43 ∨ (g_so B N (S j)) = 44 ∨ (g_so B N (S j)) = 45 ∨ (g_so B N (S j)) = 46 ∨ (g_so B N (S j)) = 47 ∨ ((g_so B N (S j)) < 42 ∨ 47 < (g_so B N (S j))) from by omega) with c9 | c9 | c9 | c9 | c9 | c9 | c9
  · refine q_tableIn hF dX3_signInHand_9 c9_r (by rw [c9]; decide) (by rw [c9]; decide) (off := 45) (by rw [c9]; rfl) (tgt := 54) rfl ?_
    refine q_bipush hF (n := -7) rfl dX3_signInHand_54 ?_
    refine q_ireturn hF rfl dX3_signInHand_56 ?_
    have h43 := g_so_sg hO.br (g_TK_le hO.tk hj).1 (x := 43) (by decide)
    have h45 := g_so_sg hO.br (g_TK_le hO.tk hj).1 (x := 45) (by decide)
    have h42 := g_so_sg hO.br (g_TK_le hO.tk hj).1 (x := 42) (by decide)
    have h47 := g_so_sg hO.br (g_TK_le hO.tk hj).1 (x := 47) (by decide)
    rw [show g_sgo (g_bt B N (S j)) = -7 from by unfold g_sgo; (repeat' split) <;> omega] at k0; exact k0
  · refine q_tableIn hF dX3_signInHand_9 c9_r (by rw [c9]; decide) (by rw [c9]; decide) (off := 39) (by rw [c9]; rfl) (tgt := 48) rfl ?_
    refine q_bipush hF (n := -5) rfl dX3_signInHand_48 ?_
    refine q_ireturn hF rfl dX3_signInHand_50 ?_
    have h43 := g_so_sg hO.br (g_TK_le hO.tk hj).1 (x := 43) (by decide)
    have h45 := g_so_sg hO.br (g_TK_le hO.tk hj).1 (x := 45) (by decide)
    have h42 := g_so_sg hO.br (g_TK_le hO.tk hj).1 (x := 42) (by decide)
    have h47 := g_so_sg hO.br (g_TK_le hO.tk hj).1 (x := 47) (by decide)
    rw [show g_sgo (g_bt B N (S j)) = -5 from by unfold g_sgo; (repeat' split) <;> omega] at k0; exact k0
  · refine q_tableIn hF dX3_signInHand_9 c9_r (by rw [c9]; decide) (by rw [c9]; decide) (off := 51) (by rw [c9]; rfl) (tgt := 60) rfl ?_
    refine q_iconst hF dX3_signInHand_60 ?_
    refine q_ireturn hF rfl dX3_signInHand_61 ?_
    have h43 := g_so_sg hO.br (g_TK_le hO.tk hj).1 (x := 43) (by decide)
    have h45 := g_so_sg hO.br (g_TK_le hO.tk hj).1 (x := 45) (by decide)
    have h42 := g_so_sg hO.br (g_TK_le hO.tk hj).1 (x := 42) (by decide)
    have h47 := g_so_sg hO.br (g_TK_le hO.tk hj).1 (x := 47) (by decide)
    rw [show g_sgo (g_bt B N (S j)) = 0 from by unfold g_sgo; (repeat' split) <;> omega] at k0; exact k0
  · refine q_tableIn hF dX3_signInHand_9 c9_r (by rw [c9]; decide) (by rw [c9]; decide) (off := 42) (by rw [c9]; rfl) (tgt := 51) rfl ?_
    refine q_bipush hF (n := -6) rfl dX3_signInHand_51 ?_
    refine q_ireturn hF rfl dX3_signInHand_53 ?_
    have h43 := g_so_sg hO.br (g_TK_le hO.tk hj).1 (x := 43) (by decide)
    have h45 := g_so_sg hO.br (g_TK_le hO.tk hj).1 (x := 45) (by decide)
    have h42 := g_so_sg hO.br (g_TK_le hO.tk hj).1 (x := 42) (by decide)
    have h47 := g_so_sg hO.br (g_TK_le hO.tk hj).1 (x := 47) (by decide)
    rw [show g_sgo (g_bt B N (S j)) = -6 from by unfold g_sgo; (repeat' split) <;> omega] at k0; exact k0
  · refine q_tableIn hF dX3_signInHand_9 c9_r (by rw [c9]; decide) (by rw [c9]; decide) (off := 51) (by rw [c9]; rfl) (tgt := 60) rfl ?_
    refine q_iconst hF dX3_signInHand_60 ?_
    refine q_ireturn hF rfl dX3_signInHand_61 ?_
    have h43 := g_so_sg hO.br (g_TK_le hO.tk hj).1 (x := 43) (by decide)
    have h45 := g_so_sg hO.br (g_TK_le hO.tk hj).1 (x := 45) (by decide)
    have h42 := g_so_sg hO.br (g_TK_le hO.tk hj).1 (x := 42) (by decide)
    have h47 := g_so_sg hO.br (g_TK_le hO.tk hj).1 (x := 47) (by decide)
    rw [show g_sgo (g_bt B N (S j)) = 0 from by unfold g_sgo; (repeat' split) <;> omega] at k0; exact k0
  · refine q_tableIn hF dX3_signInHand_9 c9_r (by rw [c9]; decide) (by rw [c9]; decide) (off := 48) (by rw [c9]; rfl) (tgt := 57) rfl ?_
    refine q_bipush hF (n := -8) rfl dX3_signInHand_57 ?_
    refine q_ireturn hF rfl dX3_signInHand_59 ?_
    have h43 := g_so_sg hO.br (g_TK_le hO.tk hj).1 (x := 43) (by decide)
    have h45 := g_so_sg hO.br (g_TK_le hO.tk hj).1 (x := 45) (by decide)
    have h42 := g_so_sg hO.br (g_TK_le hO.tk hj).1 (x := 42) (by decide)
    have h47 := g_so_sg hO.br (g_TK_le hO.tk hj).1 (x := 47) (by decide)
    rw [show g_sgo (g_bt B N (S j)) = -8 from by unfold g_sgo; (repeat' split) <;> omega] at k0; exact k0
  · refine q_tableOut hF dX3_signInHand_9 c9_r c9 (tgt := 60) rfl ?_
    refine q_iconst hF dX3_signInHand_60 ?_
    refine q_ireturn hF rfl dX3_signInHand_61 ?_
    have h43 := g_so_sg hO.br (g_TK_le hO.tk hj).1 (x := 43) (by decide)
    have h45 := g_so_sg hO.br (g_TK_le hO.tk hj).1 (x := 45) (by decide)
    have h42 := g_so_sg hO.br (g_TK_le hO.tk hj).1 (x := 42) (by decide)
    have h47 := g_so_sg hO.br (g_TK_le hO.tk hj).1 (x := 47) (by decide)
    rw [show g_sgo (g_bt B N (S j)) = 0 from by unfold g_sgo; (repeat' split) <;> omega] at k0; exact k0
/-- the code that a word pushes, or 0 -/
def g_psh (w : Option Nat) : Int := if w = some 9 then -1 else if w = some 10 then -2 else if w = some 11 then -3 else if w = some 12 then -4 else 0
/-- which of the order a word is -/
def g_ord (w : Option Nat) : Int := if w = some 7 then 0 else if w = some 8 then 1 else if w = some 5 then 2 else -1
set_option maxRecDepth 100000 in
theorem mX3_pushInHand {G : q_G} {sz : Nat} {T : q_T} {I L : q_I} {P : q_P} {Q : q_Q} {a : Nat} {c N j : Nat} {B : Nat → Int} {S E : Nat → Nat} (hD : q_SD T P a) (hA : q_A G a) (hO : q_TO G I P a c N B S E) (hat : I a 6 = (j : Int)) (hj : j ≤ c) (k0 : Q (.inl (some (qI (g_psh (g_wo B (S j) (E j)))))) sz T I L P) : qC G 0 0 0 YX3_pushInHand [.ref a] sz T I L P Q := by
  refine qC_of (by decide +kernel) rfl rfl (Nat.le_of_ble_eq_true rfl) (fun F hF _ _ => ?_)
  refine q_aload_n hF 0 rfl rfl dX3_pushInHand_0 ?_
  refine q_getA hF fl_RX3_33 rfl hD.t0 hD.p4 dX3_pushInHand_1 ?_
  refine q_aload_n hF 0 rfl rfl dX3_pushInHand_4 ?_
  refine q_getIv hF (z := (j : Int)) fl_RX3_37 hD.t0 hat dX3_pushInHand_5 ?_
  refine q_aaloadRv hF (r := (g_wo B (S j) (E j)).map (q_E G)) j hD.t4 (by decide) rfl (by have := hO.tk.1; have := hO.n6; omega) (by decide) (hO.wo _ hj) dX3_pushInHand_8 ?_
  refine q_getsE hF (i := 9) (by decide) (q_mem 1289 (by decide +kernel) rfl) dX3_pushInHand_9 ?_
  refine q_acmpne hF (rx := (g_wo B (S j) (E j)).map (q_E G)) (ry := some (q_E G 9)) dX3_pushInHand_12 (fun c12 => ?_) (fun c12 => ?_)
  · refine q_aload_n hF 0 rfl rfl dX3_pushInHand_17 ?_
    refine q_getA hF fl_RX3_33 rfl hD.t0 hD.p4 dX3_pushInHand_18 ?_
    refine q_aload_n hF 0 rfl rfl dX3_pushInHand_21 ?_
    refine q_getIv hF (z := (j : Int)) fl_RX3_37 hD.t0 hat dX3_pushInHand_22 ?_
    refine q_aaloadRv hF (r := (g_wo B (S j) (E j)).map (q_E G)) j hD.t4 (by decide) rfl (by have := hO.tk.1; have := hO.n6; omega) (by decide) (hO.wo _ hj) dX3_pushInHand_25 ?_
    refine q_getsE hF (i := 10) (by decide) (q_mem 1291 (by decide +kernel) rfl) dX3_pushInHand_26 ?_
    refine q_acmpne hF (rx := (g_wo B (S j) (E j)).map (q_E G)) (ry := some (q_E G 10)) dX3_pushInHand_29 (fun c29 => ?_) (fun c29 => ?_)
    · refine q_aload_n hF 0 rfl rfl dX3_pushInHand_35 ?_
      refine q_getA hF fl_RX3_33 rfl hD.t0 hD.p4 dX3_pushInHand_36 ?_
      refine q_aload_n hF 0 rfl rfl dX3_pushInHand_39 ?_
      refine q_getIv hF (z := (j : Int)) fl_RX3_37 hD.t0 hat dX3_pushInHand_40 ?_
      refine q_aaloadRv hF (r := (g_wo B (S j) (E j)).map (q_E G)) j hD.t4 (by decide) rfl (by have := hO.tk.1; have := hO.n6; omega) (by decide) (hO.wo _ hj) dX3_pushInHand_43 ?_
      refine q_getsE hF (i := 11) (by decide) (q_mem 1293 (by decide +kernel) rfl) dX3_pushInHand_44 ?_
      refine q_acmpne hF (rx := (g_wo B (S j) (E j)).map (q_E G)) (ry := some (q_E G 11)) dX3_pushInHand_47 (fun c47 => ?_) (fun c47 => ?_)
      · refine q_aload_n hF 0 rfl rfl dX3_pushInHand_53 ?_
        refine q_getA hF fl_RX3_33 rfl hD.t0 hD.p4 dX3_pushInHand_54 ?_
        refine q_aload_n hF 0 rfl rfl dX3_pushInHand_57 ?_
        refine q_getIv hF (z := (j : Int)) fl_RX3_37 hD.t0 hat dX3_pushInHand_58 ?_
        refine q_aaloadRv hF (r := (g_wo B (S j) (E j)).map (q_E G)) j hD.t4 (by decide) rfl (by have := hO.tk.1; have := hO.n6; omega) (by decide) (hO.wo _ hj) dX3_pushInHand_61 ?_
        refine q_getsE hF (i := 12) (by decide) (q_mem 1295 (by decide +kernel) rfl) dX3_pushInHand_62 ?_
        refine q_acmpne hF (rx := (g_wo B (S j) (E j)).map (q_E G)) (ry := some (q_E G 12)) dX3_pushInHand_65 (fun c65 => ?_) (fun c65 => ?_)
        · refine q_iconst hF dX3_pushInHand_73 ?_
          refine q_ireturn hF rfl dX3_pushInHand_74 ?_
          rw [show g_psh (g_wo B (S j) (E j)) = 0 from by rw [g_psh, if_neg (fun h => c12 ((q_wo_eq hF (by decide)).mpr h)), if_neg (fun h => c29 ((q_wo_eq hF (by decide)).mpr h)), if_neg (fun h => c47 ((q_wo_eq hF (by decide)).mpr h)), if_neg (fun h => c65 ((q_wo_eq hF (by decide)).mpr h))]] at k0; exact k0
        · refine q_bipush hF (n := -4) rfl dX3_pushInHand_68 ?_
          refine q_goto hF dX3_pushInHand_70 ?_
          refine q_ireturn hF rfl dX3_pushInHand_74 ?_
          rw [show g_psh (g_wo B (S j) (E j)) = -4 from by rw [g_psh, if_neg (fun h => c12 ((q_wo_eq hF (by decide)).mpr h)), if_neg (fun h => c29 ((q_wo_eq hF (by decide)).mpr h)), if_neg (fun h => c47 ((q_wo_eq hF (by decide)).mpr h)), if_pos ((q_wo_eq hF (by decide)).mp c65)]] at k0; exact k0
      · refine q_bipush hF (n := -3) rfl dX3_pushInHand_50 ?_
        refine q_ireturn hF rfl dX3_pushInHand_52 ?_
        rw [show g_psh (g_wo B (S j) (E j)) = -3 from by rw [g_psh, if_neg (fun h => c12 ((q_wo_eq hF (by decide)).mpr h)), if_neg (fun h => c29 ((q_wo_eq hF (by decide)).mpr h)), if_pos ((q_wo_eq hF (by decide)).mp c47)]] at k0; exact k0
    · refine q_bipush hF (n := -2) rfl dX3_pushInHand_32 ?_
      refine q_ireturn hF rfl dX3_pushInHand_34 ?_
      rw [show g_psh (g_wo B (S j) (E j)) = -2 from by rw [g_psh, if_neg (fun h => c12 ((q_wo_eq hF (by decide)).mpr h)), if_pos ((q_wo_eq hF (by decide)).mp c29)]] at k0; exact k0
  · refine q_iconst hF dX3_pushInHand_15 ?_
    refine q_ireturn hF rfl dX3_pushInHand_16 ?_
    rw [show g_psh (g_wo B (S j) (E j)) = -1 from by rw [g_psh, if_pos ((q_wo_eq hF (by decide)).mp c12)]] at k0; exact k0
set_option maxRecDepth 100000 in
theorem mX3_orderInHand {G : q_G} {sz : Nat} {T : q_T} {I L : q_I} {P : q_P} {Q : q_Q} {a : Nat} {c N j : Nat} {B : Nat → Int} {S E : Nat → Nat} (hD : q_SD T P a) (hA : q_A G a) (hO : q_TO G I P a c N B S E) (hat : I a 6 = (j : Int)) (hj : j ≤ c) (k0 : Q (.inl (some (qI (g_ord (g_wo B (S j) (E j)))))) sz T I L P) : qC G 0 0 0 YX3_orderInHand [.ref a] sz T I L P Q := by
  refine qC_of (by decide +kernel) rfl rfl (Nat.le_of_ble_eq_true rfl) (fun F hF _ _ => ?_)
  refine q_aload_n hF 0 rfl rfl dX3_orderInHand_0 ?_
  refine q_getA hF fl_RX3_33 rfl hD.t0 hD.p4 dX3_orderInHand_1 ?_
  refine q_aload_n hF 0 rfl rfl dX3_orderInHand_4 ?_
  refine q_getIv hF (z := (j : Int)) fl_RX3_37 hD.t0 hat dX3_orderInHand_5 ?_
  refine q_aaloadRv hF (r := (g_wo B (S j) (E j)).map (q_E G)) j hD.t4 (by decide) rfl (by have := hO.tk.1; have := hO.n6; omega) (by decide) (hO.wo _ hj) dX3_orderInHand_8 ?_
  refine q_getsE hF (i := 7) (by decide) (q_mem 1345 (by decide +kernel) rfl) dX3_orderInHand_9 ?_
  refine q_acmpne hF (rx := (g_wo B (S j) (E j)).map (q_E G)) (ry := some (q_E G 7)) dX3_orderInHand_12 (fun c12 => ?_) (fun c12 => ?_)
  · refine q_aload_n hF 0 rfl rfl dX3_orderInHand_17 ?_
    refine q_getA hF fl_RX3_33 rfl hD.t0 hD.p4 dX3_orderInHand_18 ?_
    refine q_aload_n hF 0 rfl rfl dX3_orderInHand_21 ?_
    refine q_getIv hF (z := (j : Int)) fl_RX3_37 hD.t0 hat dX3_orderInHand_22 ?_
    refine q_aaloadRv hF (r := (g_wo B (S j) (E j)).map (q_E G)) j hD.t4 (by decide) rfl (by have := hO.tk.1; have := hO.n6; omega) (by decide) (hO.wo _ hj) dX3_orderInHand_25 ?_
    refine q_getsE hF (i := 8) (by decide) (q_mem 1347 (by decide +kernel) rfl) dX3_orderInHand_26 ?_
    refine q_acmpne hF (rx := (g_wo B (S j) (E j)).map (q_E G)) (ry := some (q_E G 8)) dX3_orderInHand_29 (fun c29 => ?_) (fun c29 => ?_)
    · refine q_aload_n hF 0 rfl rfl dX3_orderInHand_34 ?_
      refine q_getA hF fl_RX3_33 rfl hD.t0 hD.p4 dX3_orderInHand_35 ?_
      refine q_aload_n hF 0 rfl rfl dX3_orderInHand_38 ?_
      refine q_getIv hF (z := (j : Int)) fl_RX3_37 hD.t0 hat dX3_orderInHand_39 ?_
      refine q_aaloadRv hF (r := (g_wo B (S j) (E j)).map (q_E G)) j hD.t4 (by decide) rfl (by have := hO.tk.1; have := hO.n6; omega) (by decide) (hO.wo _ hj) dX3_orderInHand_42 ?_
      refine q_getsE hF (i := 5) (by decide) (q_mem 1329 (by decide +kernel) rfl) dX3_orderInHand_43 ?_
      refine q_acmpne hF (rx := (g_wo B (S j) (E j)).map (q_E G)) (ry := some (q_E G 5)) dX3_orderInHand_46 (fun c46 => ?_) (fun c46 => ?_)
      · refine q_iconst hF dX3_orderInHand_53 ?_
        refine q_ireturn hF rfl dX3_orderInHand_54 ?_
        rw [show g_ord (g_wo B (S j) (E j)) = -1 from by rw [g_ord, if_neg (fun h => c12 ((q_wo_eq hF (by decide)).mpr h)), if_neg (fun h => c29 ((q_wo_eq hF (by decide)).mpr h)), if_neg (fun h => c46 ((q_wo_eq hF (by decide)).mpr h))]] at k0; exact k0
      · refine q_iconst hF dX3_orderInHand_49 ?_
        refine q_goto hF dX3_orderInHand_50 ?_
        refine q_ireturn hF rfl dX3_orderInHand_54 ?_
        rw [show g_ord (g_wo B (S j) (E j)) = 2 from by rw [g_ord, if_neg (fun h => c12 ((q_wo_eq hF (by decide)).mpr h)), if_neg (fun h => c29 ((q_wo_eq hF (by decide)).mpr h)), if_pos ((q_wo_eq hF (by decide)).mp c46)]] at k0; exact k0
    · refine q_iconst hF dX3_orderInHand_32 ?_
      refine q_ireturn hF rfl dX3_orderInHand_33 ?_
      rw [show g_ord (g_wo B (S j) (E j)) = 1 from by rw [g_ord, if_neg (fun h => c12 ((q_wo_eq hF (by decide)).mpr h)), if_pos ((q_wo_eq hF (by decide)).mp c29)]] at k0; exact k0
  · refine q_iconst hF dX3_orderInHand_15 ?_
    refine q_ireturn hF rfl dX3_orderInHand_16 ?_
    rw [show g_ord (g_wo B (S j) (E j)) = 0 from by rw [g_ord, if_pos ((q_wo_eq hF (by decide)).mp c12)]] at k0; exact k0
