/-! the class: a name in hand -/
set_option maxRecDepth 100000 in
theorem mX3_isName {G : q_G} {sz : Nat} {T : q_T} {I L : q_I} {P : q_P} {Q : q_Q} {a : Nat} {c N j : Nat} {B : Nat → Int} {S E : Nat → Nat} (hD : q_SD T P a) (hA : q_A G a) (hO : q_TO G I P a c N B S E) (hat : I a 6 = (j : Int)) (hj : j ≤ c) (k0 : Q (.inl (some (qI (q_b (g_so B N (S j) = 256 ∧ (g_wo B (S j) (E j)).map (q_E G) = none ∧ (E j : Int) - (S j : Int) ≤ 6))))) sz T I L P) : qC G 0 0 0 YX3_isName [.ref a] sz T I L P Q := by
  refine qC_of (by decide +kernel) rfl rfl (Nat.le_of_ble_eq_true rfl) (fun F hF _ _ => ?_)
  refine q_aload_n hF 0 rfl rfl dX3_isName_0 ?_
  refine q_getA hF fl_RX3_22 rfl hD.t0 hD.p1 dX3_isName_1 ?_
  refine q_aload_n hF 0 rfl rfl dX3_isName_4 ?_
  refine q_getIv hF (z := (j : Int)) fl_RX3_37 hD.t0 hat dX3_isName_5 ?_
  refine q_ialoadv hF (z := g_so B N (S j)) (n := 601) j hD.t1 rfl (by have := hO.tk.1; have := hO.n6; omega) (by decide) (hO.so _ hj) dX3_isName_8 ?_
  refine q_sipush hF (n := 256) rfl dX3_isName_9 ?_
  refine q_icmpne hF (by have := g_so_r hO.br (g_TK_le hO.tk hj).1; omega) (by decide) dX3_isName_12 (fun c12 => ?_) (fun c12 => ?_)
  · refine q_iconst hF dX3_isName_55 ?_
    refine q_zreturn hF (by decide) rfl dX3_isName_56 ?_
    rw [q_b_f (c := g_so B N (S j) = 256 ∧ (g_wo B (S j) (E j)).map (q_E G) = none ∧ (E j : Int) - (S j : Int) ≤ 6) (fun h => by first | exact absurd h.1 (by assumption) | exact absurd h.2.1 (by assumption) | (have := h.2.2; omega))] at k0; exact k0
  · refine q_aload_n hF 0 rfl rfl dX3_isName_15 ?_
    refine q_getA hF fl_RX3_33 rfl hD.t0 hD.p4 dX3_isName_16 ?_
    refine q_aload_n hF 0 rfl rfl dX3_isName_19 ?_
    refine q_getIv hF (z := (j : Int)) fl_RX3_37 hD.t0 hat dX3_isName_20 ?_
    refine q_aaloadRv hF (r := (g_wo B (S j) (E j)).map (q_E G)) j hD.t4 (by decide) rfl (by have := hO.tk.1; have := hO.n6; omega) (by decide) (hO.wo _ hj) dX3_isName_23 ?_
    refine q_ifnonnull hF (r := (g_wo B (S j) (E j)).map (q_E G)) dX3_isName_24 (fun c24 => ?_) (fun c24 => ?_)
    · refine q_iconst hF dX3_isName_55 ?_
      refine q_zreturn hF (by decide) rfl dX3_isName_56 ?_
      rw [q_b_f (c := g_so B N (S j) = 256 ∧ (g_wo B (S j) (E j)).map (q_E G) = none ∧ (E j : Int) - (S j : Int) ≤ 6) (fun h => by first | exact absurd h.1 (by assumption) | exact absurd h.2.1 (by assumption) | (have := h.2.2; omega))] at k0; exact k0
    · refine q_aload_n hF 0 rfl rfl dX3_isName_27 ?_
      refine q_getA hF fl_RX3_28 rfl hD.t0 hD.p3 dX3_isName_28 ?_
      refine q_aload_n hF 0 rfl rfl dX3_isName_31 ?_
      refine q_getIv hF (z := (j : Int)) fl_RX3_37 hD.t0 hat dX3_isName_32 ?_
      refine q_ialoadv hF (z := (E j : Int)) (n := 601) j hD.t3 rfl (by have := hO.tk.1; have := hO.n6; omega) (by decide) (hO.en _ hj) dX3_isName_35 ?_
      refine q_aload_n hF 0 rfl rfl dX3_isName_36 ?_
      refine q_getA hF fl_RX3_25 rfl hD.t0 hD.p2 dX3_isName_37 ?_
      refine q_aload_n hF 0 rfl rfl dX3_isName_40 ?_
      refine q_getIv hF (z := (j : Int)) fl_RX3_37 hD.t0 hat dX3_isName_41 ?_
      refine q_ialoadv hF (z := (S j : Int)) (n := 601) j hD.t2 rfl (by have := hO.tk.1; have := hO.n6; omega) (by decide) (hO.st _ hj) dX3_isName_44 ?_
      refine q_isub hF dX3_isName_45 ?_
      refine q_bipush hF (n := 6) rfl dX3_isName_46 ?_
      refine q_icmpgt hF (by have := g_TK_le hO.tk hj; have := hO.n6; omega) (by decide) dX3_isName_48 (fun c48 => ?_) (fun c48 => ?_)
      · refine q_iconst hF dX3_isName_55 ?_
        refine q_zreturn hF (by decide) rfl dX3_isName_56 ?_
        rw [q_b_f (c := g_so B N (S j) = 256 ∧ (g_wo B (S j) (E j)).map (q_E G) = none ∧ (E j : Int) - (S j : Int) ≤ 6) (fun h => by first | exact absurd h.1 (by assumption) | exact absurd h.2.1 (by assumption) | (have := h.2.2; omega))] at k0; exact k0
      · refine q_iconst hF dX3_isName_51 ?_
        refine q_goto hF dX3_isName_52 ?_
        refine q_zreturn hF (by decide) rfl dX3_isName_56 ?_
        rw [q_b_t (c := g_so B N (S j) = 256 ∧ (g_wo B (S j) (E j)).map (q_E G) = none ∧ (E j : Int) - (S j : Int) ≤ 6) ⟨by assumption, by assumption, by omega⟩] at k0; exact k0
/-- a name may stand at a token's place iff the class says so -/
theorem g_nm_tok {G : q_G} {B : Nat → Int} {N c j : Nat} {S E : Nat → Nat} (hB : ∀ k, 0 ≤ B k ∧ B k ≤ 255) (ht : g_TK B N c S E) (hj : j ≤ c) : (g_so B N (S j) = 256 ∧ (g_wo B (S j) (E j)).map (q_E G) = none ∧ (E j : Int) - (S j : Int) ≤ 6) ↔ (g_sm (g_bt B N (S j)) ∧ g_wo B (S j) (E j) = none ∧ g_nl B N (S j) ≤ 6) := by
  have hle := g_TK_le ht hj
  have hso : g_so B N (S j) = 256 ↔ g_sm (g_bt B N (S j)) := by
    unfold g_so
    by_cases e : S j = N
    · rw [if_pos e, e, g_bt_n]; exact ⟨fun h => by omega, fun h => by omega⟩
    · rw [if_neg e, show g_bt B N (S j) = B (S j) from if_pos (by omega)]
      exact (g_srt_w (hB _)).1
  rw [hso, Option.map_eq_none_iff]
  constructor
  · rintro ⟨a, b, d⟩
    refine ⟨a, b, ?_⟩
    by_cases e : j = c
    · subst e; rw [ht.2.2.1, g_bt_n] at a; omega
    · have q := (ht.2.2.2.2 j (by omega)).2.2.2.2.1
      unfold g_end at q
      rw [if_pos a] at q
      unfold g_nl
      omega
  · rintro ⟨a, b, d⟩
    refine ⟨a, b, ?_⟩
    by_cases e : j = c
    · subst e; rw [ht.2.2.1, g_bt_n] at a; omega
    · have q := (ht.2.2.2.2 j (by omega)).2.2.2.2.1
      unfold g_end at q
      rw [if_pos a] at q
      unfold g_nl at d
      omega
