/-! the class: a token in hand -/
def g_so (B : Nat → Int) (N s : Nat) : Int := if s = N then 258 else g_srt (g_bt B N s)
theorem g_so_r {B : Nat → Int} {N s : Nat} (hB : ∀ k, 0 ≤ B k ∧ B k ≤ 255) (hs : s ≤ N) : 0 ≤ g_so B N s ∧ g_so B N s ≤ 258 := by
  unfold g_so
  split
  · decide
  · rw [show g_bt B N s = B s from if_pos (by omega)]
    have := g_srt_r (hB s)
    omega
/-- a sign stands where its byte does -/
theorem g_so_sg {B : Nat → Int} {N s : Nat} (hB : ∀ k, 0 ≤ B k ∧ B k ≤ 255) (hs : s ≤ N) {x : Int} (hx : 32 < x ∧ x < 48 ∨ 57 < x ∧ x < 97) : g_so B N s = x ↔ g_bt B N s = x := by
  unfold g_so
  by_cases e : s = N
  · rw [if_pos e, e, g_bt_n]; omega
  · rw [if_neg e, show g_bt B N s = B s from if_pos (by omega)]
    have hb := hB s
    unfold g_srt
    (repeat' split) <;> omega
def q_TO (G : q_G) (I : q_I) (P : q_P) (a : Nat) (c : Nat) (N : Nat) (B : Nat → Int) (S : Nat → Nat) (E : Nat → Nat) : Prop := (∀ j, j ≤ c → I (a + 20) j = g_so B N (S j)) ∧ (∀ j, j ≤ c → I (a + 21) j = (S j : Int)) ∧ (∀ j, j ≤ c → I (a + 22) j = (E j : Int)) ∧ (∀ j, j ≤ c → P (a + 23) j = (g_wo B (S j) (E j)).map (q_E G)) ∧ (g_TK B N c S E) ∧ (∀ k, 0 ≤ B k ∧ B k ≤ 255) ∧ (N ≤ 600)
theorem q_TO.so {G : q_G} {I : q_I} {P : q_P} {a : Nat} {c : Nat} {N : Nat} {B : Nat → Int} {S : Nat → Nat} {E : Nat → Nat} (h : q_TO G I P a c N B S E) : ∀ j, j ≤ c → I (a + 20) j = g_so B N (S j) := h.1
theorem q_TO.st {G : q_G} {I : q_I} {P : q_P} {a : Nat} {c : Nat} {N : Nat} {B : Nat → Int} {S : Nat → Nat} {E : Nat → Nat} (h : q_TO G I P a c N B S E) : ∀ j, j ≤ c → I (a + 21) j = (S j : Int) := h.2.1
theorem q_TO.en {G : q_G} {I : q_I} {P : q_P} {a : Nat} {c : Nat} {N : Nat} {B : Nat → Int} {S : Nat → Nat} {E : Nat → Nat} (h : q_TO G I P a c N B S E) : ∀ j, j ≤ c → I (a + 22) j = (E j : Int) := h.2.2.1
theorem q_TO.wo {G : q_G} {I : q_I} {P : q_P} {a : Nat} {c : Nat} {N : Nat} {B : Nat → Int} {S : Nat → Nat} {E : Nat → Nat} (h : q_TO G I P a c N B S E) : ∀ j, j ≤ c → P (a + 23) j = (g_wo B (S j) (E j)).map (q_E G) := h.2.2.2.1
theorem q_TO.tk {G : q_G} {I : q_I} {P : q_P} {a : Nat} {c : Nat} {N : Nat} {B : Nat → Int} {S : Nat → Nat} {E : Nat → Nat} (h : q_TO G I P a c N B S E) : g_TK B N c S E := h.2.2.2.2.1
theorem q_TO.br {G : q_G} {I : q_I} {P : q_P} {a : Nat} {c : Nat} {N : Nat} {B : Nat → Int} {S : Nat → Nat} {E : Nat → Nat} (h : q_TO G I P a c N B S E) : ∀ k, 0 ≤ B k ∧ B k ≤ 255 := h.2.2.2.2.2.1
theorem q_TO.n6 {G : q_G} {I : q_I} {P : q_P} {a : Nat} {c : Nat} {N : Nat} {B : Nat → Int} {S : Nat → Nat} {E : Nat → Nat} (h : q_TO G I P a c N B S E) : N ≤ 600 := h.2.2.2.2.2.2
theorem g_TK_le {B : Nat → Int} {N c : Nat} {S E : Nat → Nat} (h : g_TK B N c S E) {j : Nat} (hj : j ≤ c) : S j ≤ N ∧ S j ≤ E j ∧ E j ≤ N := by
  by_cases e : j = c
  · subst e; rw [h.2.2.1, h.2.2.2.1]; omega
  · have q := h.2.2.2.2 j (by omega); omega
set_option maxRecDepth 100000 in
theorem mX3_fail {G : q_G} {sz : Nat} {T : q_T} {I L : q_I} {P : q_P} {Q : q_Q} {a : Nat} {w : Int} {c N j : Nat} {B : Nat → Int} {S E : Nat → Nat} (hD : q_SD T P a) (hA : q_A G a) (hO : q_TO G I P a c N B S E) (hat : I a 6 = (j : Int)) (hj : j ≤ c) (k0 : Q (.inl (some (qI 0))) sz T (u2 (u2 I a 8 w) a 9 (S j : Int)) L P) : qC G 0 0 0 YX3_fail [.ref a, qI w] sz T I L P Q := by
  refine qC_of (by decide +kernel) rfl rfl (Nat.le_of_ble_eq_true rfl) (fun F hF _ _ => ?_)
  refine q_aload_n hF 0 rfl rfl dX3_fail_0 ?_
  refine q_iload_n hF 1 rfl rfl dX3_fail_1 ?_
  refine q_putI hF fl_RX3_41 hD.t0 hA dX3_fail_2 ?_
  refine q_aload_n hF 0 rfl rfl dX3_fail_5 ?_
  refine q_aload_n hF 0 rfl rfl dX3_fail_6 ?_
  refine q_getA hF fl_RX3_25 rfl hD.t0 hD.p2 dX3_fail_7 ?_
  refine q_aload_n hF 0 rfl rfl dX3_fail_10 ?_
  refine q_getIv hF (z := (j : Int)) fl_RX3_37 hD.t0 ((u2_k _ _ (by decide)).trans hat) dX3_fail_11 ?_
  refine q_ialoadv hF (z := (S j : Int)) (n := 601) j hD.t2 rfl (by have := hO.tk.1; have := hO.n6; omega) (by decide) ((u2_a _ _ (by omega)).trans (hO.st _ hj)) dX3_fail_14 ?_
  refine q_putI hF fl_RX3_85 hD.t0 hA dX3_fail_15 ?_
  refine q_iconst hF dX3_fail_18 ?_
  refine q_zreturn hF (by decide) rfl dX3_fail_19 ?_
  exact k0
set_option maxRecDepth 100000 in
theorem mX3_step {G : q_G} {sz : Nat} {T : q_T} {I L : q_I} {P : q_P} {Q : q_Q} {a : Nat} {j : Nat} (hD : q_SD T P a) (hA : q_A G a) (hat : I a 6 = (j : Int)) (hj6 : j < 600) (k0 : Q (.inl none) sz T (u2 I a 6 ((j : Int) + 1)) L P) : qC G 0 0 0 YX3_step [.ref a] sz T I L P Q := by
  refine qC_of (by decide +kernel) rfl rfl (Nat.le_of_ble_eq_true rfl) (fun F hF _ _ => ?_)
  refine q_aload_n hF 0 rfl rfl dX3_step_0 ?_
  refine q_getIv hF (z := (j : Int)) fl_RX3_37 hD.t0 hat dX3_step_1 ?_
  refine q_sipush hF (n := 600) rfl dX3_step_4 ?_
  refine q_icmpge hF (by omega) (by decide) dX3_step_7 (fun c7 => ?_) (fun c7 => ?_)
  · omega
  · refine q_aload_n hF 0 rfl rfl dX3_step_10 ?_
    refine q_dup hF rfl dX3_step_11 ?_
    refine q_getIv hF (z := (j : Int)) fl_RX3_37 hD.t0 hat dX3_step_12 ?_
    refine q_iconst hF dX3_step_15 ?_
    refine q_iadd hF dX3_step_16 ?_
    refine q_putI hF fl_RX3_37 hD.t0 hA dX3_step_17 ?_
    refine q_return hF rfl dX3_step_20 ?_
    exact k0
set_option maxRecDepth 100000 in
theorem mX3_takeSign {G : q_G} {sz : Nat} {T : q_T} {I L : q_I} {P : q_P} {Q : q_Q} {a : Nat} {x : Int} {c N j : Nat} {B : Nat → Int} {S E : Nat → Nat} (hD : q_SD T P a) (hA : q_A G a) (hO : q_TO G I P a c N B S E) (hat : I a 6 = (j : Int)) (hj : j ≤ c) (hx : 32 < x ∧ x < 48 ∨ 57 < x ∧ x < 97) (k0 : g_bt B N (S j) ≠ x → Q (.inl (some (qI 0))) sz T I L P) (k1 : g_bt B N (S j) = x → Q (.inl (some (qI 1))) sz T (u2 I a 6 ((j : Int) + 1)) L P) : qC G 0 0 0 YX3_takeSign [.ref a, qI x] sz T I L P Q := by
  refine qC_of (by decide +kernel) rfl rfl (Nat.le_of_ble_eq_true rfl) (fun F hF _ _ => ?_)
  refine q_aload_n hF 0 rfl rfl dX3_takeSign_0 ?_
  refine q_getIv hF (z := (j : Int)) fl_RX3_37 hD.t0 hat dX3_takeSign_1 ?_
  refine q_sipush hF (n := 600) rfl dX3_takeSign_4 ?_
  refine q_icmpge hF (by have := hO.tk.1; have := hO.n6; omega) (by decide) dX3_takeSign_7 (fun c7 => ?_) (fun c7 => ?_)
  · refine q_iconst hF dX3_takeSign_23 ?_
    refine q_zreturn hF (by decide) rfl dX3_takeSign_24 ?_
    exact k0 (fun h => by
      have e : j = c := by have := hO.tk.1; have := hO.n6; omega
      rw [e, hO.tk.2.2.1, g_bt_n] at h; omega)
  · refine q_aload_n hF 0 rfl rfl dX3_takeSign_10 ?_
    refine q_getA hF fl_RX3_22 rfl hD.t0 hD.p1 dX3_takeSign_11 ?_
    refine q_aload_n hF 0 rfl rfl dX3_takeSign_14 ?_
    refine q_getIv hF (z := (j : Int)) fl_RX3_37 hD.t0 hat dX3_takeSign_15 ?_
    refine q_ialoadv hF (z := g_so B N (S j)) (n := 601) j hD.t1 rfl (by have := hO.tk.1; have := hO.n6; omega) (by decide) (hO.so _ hj) dX3_takeSign_18 ?_
    refine q_iload_n hF 1 rfl rfl dX3_takeSign_19 ?_
    refine q_icmpeq hF (by have := g_so_r hO.br (g_TK_le hO.tk hj).1; omega) (by omega) dX3_takeSign_20 (fun c20 => ?_) (fun c20 => ?_)
    · refine q_aload_n hF 0 rfl rfl dX3_takeSign_25 ?_
      refine q_dup hF rfl dX3_takeSign_26 ?_
      refine q_getIv hF (z := (j : Int)) fl_RX3_37 hD.t0 hat dX3_takeSign_27 ?_
      refine q_iconst hF dX3_takeSign_30 ?_
      refine q_iadd hF dX3_takeSign_31 ?_
      refine q_putI hF fl_RX3_37 hD.t0 hA dX3_takeSign_32 ?_
      refine q_iconst hF dX3_takeSign_35 ?_
      refine q_zreturn hF (by decide) rfl dX3_takeSign_36 ?_
      exact k1 ((g_so_sg hO.br (g_TK_le hO.tk hj).1 hx).mp c20)
    · refine q_iconst hF dX3_takeSign_23 ?_
      refine q_zreturn hF (by decide) rfl dX3_takeSign_24 ?_
      exact k0 (fun h => c20 ((g_so_sg hO.br (g_TK_le hO.tk hj).1 hx).mpr h))
