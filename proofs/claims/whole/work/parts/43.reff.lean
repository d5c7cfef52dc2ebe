/-! the reference: a row begun -/
def zL (L : q_I) (r n : Nat) : q_I := fun q k => if q = r ∧ k < n then 0 else L q k
theorem zL_0 (L : q_I) (r : Nat) : zL L r 0 = L := by funext q k; unfold zL; rw [if_neg (by omega)]
theorem zL_s (L : q_I) (r i : Nat) : u2 (zL L r i) r i 0 = zL L r (1 + i) := by
  funext q k
  unfold u2 zL
  by_cases e : q = r
  · subst e
    by_cases e2 : k = i
    · subst e2; rw [if_pos ⟨rfl, rfl⟩, if_pos ⟨rfl, by omega⟩]
    · rw [if_neg (fun h2 => e2 h2.2)]
      by_cases e3 : k < i
      · rw [if_pos ⟨rfl, e3⟩, if_pos ⟨rfl, by omega⟩]
      · rw [if_neg (fun h2 => e3 h2.2), if_neg (fun h2 => by omega)]
  · rw [if_neg (fun h2 => e h2.1), if_neg (fun h2 => e h2.1), if_neg (fun h2 => e h2.1)]
theorem zL_row {L : q_I} {r : Nat} (hz : ∀ k, 1243 ≤ k → L r k = 0) : zL L r 1243 = q_row L r (fun _ => 0) := by
  funext q k
  unfold zL q_row
  by_cases e : q = r
  · subst e
    rw [if_pos rfl]
    by_cases h : k < 1243
    · rw [if_pos ⟨rfl, h⟩]
    · rw [if_neg (fun h2 => h h2.2)]; exact hz k (by omega)
  · rw [if_neg (fun h2 => e h2.1), if_neg e]
def g_begin : Nat → Int := g_up (g_up (g_up (g_up (g_up (fun _ => 0) 3 3) 8 3) 9 0) 10 1) 11 2
set_option maxRecDepth 100000 in
theorem lX8_begins {G : q_G} {F : q_F} {h : Nat} {Q : q_Q} {kc ks sz : Nat} {T : q_T} {r : Nat} {I L : q_I} {P : q_P} (hF : q_ok G F YX8_begins h) (hR : T r = some (.inr (1, 1243))) (hRA : q_A G r) (k0 : ∀ v : Int, qX G F Q kc ks 19 [(1, qI v), (0, .ref r)] [] sz T I (zL L r 1243) P) : ∀ (n : Nat) (i : Nat), 1243 - i < n → i ≤ 1243 → qX G F Q kc ks 2 [(1, qI (i : Int)), (0, .ref r)] [] sz T I (zL L r i) P := by
  intro n
  induction n with
  | zero => intro i hn; exact absurd hn (Nat.not_lt_zero _)
  | succ n ih =>
    intro i hn hi
    refine q_iload_n hF 0 rfl rfl dX8_begins_2 ?_
    refine q_sipush hF (n := 1243) rfl dX8_begins_3 ?_
    refine q_icmpge hF (by omega) (by decide) dX8_begins_6 (fun c6 => ?_) (fun c6 => ?_)
    · obtain rfl : i = 1243 := by omega
      exact k0 _
    · refine q_aload_n hF 1 rfl rfl dX8_begins_9 ?_
      refine q_iload_n hF 0 rfl rfl dX8_begins_10 ?_
      refine q_lconst hF (z := 0) rfl dX8_begins_11 ?_
      refine q_lastorev hF (n := 1243) i hR hRA rfl (by omega) (by decide) dX8_begins_12 ?_
      refine q_iinc hF (z' := ((1 + i : Nat) : Int)) (ls' := [(1, qI ((1 + i : Nat) : Int)), (0, .ref r)]) 0 rfl (by first | rfl | omega) (by decide) rfl dX8_begins_13 ?_
      refine q_goto hF dX8_begins_16 ?_
      rw [zL_s]
      exact ih (1 + i) (by omega) (by omega)
set_option maxRecDepth 100000 in
theorem mX8_begins {G : q_G} {sz : Nat} {T : q_T} {I L : q_I} {P : q_P} {Q : q_Q} {r : Nat} (hR : T r = some (.inr (1, 1243))) (hRA : q_A G r) (hz : ∀ k, 1243 ≤ k → L r k = 0) (k0 : Q (.inl none) sz T I (q_row L r g_begin) P) : qC G 0 0 0 YX8_begins [.ref r] sz T I L P Q := by
  refine qC_of (by decide +kernel) rfl rfl (Nat.le_of_ble_eq_true rfl) (fun F hF _ _ => ?_)
  refine q_iconst hF dX8_begins_0 ?_
  refine q_istore_n hF (ls' := [(1, qI 0), (0, .ref r)]) rfl (by decide) rfl dX8_begins_1 ?_
  have q := lX8_begins (Q := Q) (sz := sz) (kc := 0) (ks := 0) (L := L) (I := I) (P := P) hF hR hRA (fun v => ?_) 1244 0 (by omega) (by omega)
  · rw [zL_0] at q; exact q
  refine q_aload_n hF 1 rfl rfl dX8_begins_19 ?_
  refine q_iconst hF dX8_begins_20 ?_
  refine q_ldc2 hF (n := 3) (q_mem 1273 (by decide +kernel) rfl) dX8_begins_21 ?_
  refine q_lastorev hF (n := 1243) 3 hR hRA rfl (by decide) (by decide) dX8_begins_24 ?_
  refine q_aload_n hF 1 rfl rfl dX8_begins_25 ?_
  refine q_bipush hF (n := 8) rfl dX8_begins_26 ?_
  refine q_ldc2 hF (n := 3) (q_mem 1273 (by decide +kernel) rfl) dX8_begins_28 ?_
  refine q_lastorev hF (n := 1243) 8 hR hRA rfl (by decide) (by decide) dX8_begins_31 ?_
  refine q_iconst hF dX8_begins_32 ?_
  refine q_istore_n hF (ls' := [(1, qI 0), (0, .ref r)]) rfl (by decide) rfl dX8_begins_33 ?_
  refine q_iload_n hF 0 rfl rfl dX8_begins_34 ?_
  refine q_iconst hF dX8_begins_35 ?_
  refine q_icmpge hF (by decide) (by decide) dX8_begins_36 (fun c36 => ?_) (fun c36 => ?_)
  · exact absurd c36 (by decide)
  · refine q_aload_n hF 1 rfl rfl dX8_begins_39 ?_
    refine q_bipush hF (n := 9) rfl dX8_begins_40 ?_
    refine q_iload_n hF 0 rfl rfl dX8_begins_42 ?_
    refine q_iadd hF dX8_begins_43 ?_
    refine q_iload_n hF 0 rfl rfl dX8_begins_44 ?_
    refine q_i2l hF (by decide) dX8_begins_45 ?_
    refine q_lastorev hF (n := 1243) 9 hR hRA (by omega) (by omega) (by decide) dX8_begins_46 ?_
    refine q_iinc hF (z' := 1) (ls' := [(1, qI 1), (0, .ref r)]) 0 rfl (by first | rfl | omega) (by decide) rfl dX8_begins_47 ?_
    refine q_goto hF dX8_begins_50 ?_
    refine q_iload_n hF 0 rfl rfl dX8_begins_34 ?_
    refine q_iconst hF dX8_begins_35 ?_
    refine q_icmpge hF (by decide) (by decide) dX8_begins_36 (fun c36 => ?_) (fun c36 => ?_)
    · exact absurd c36 (by decide)
    · refine q_aload_n hF 1 rfl rfl dX8_begins_39 ?_
      refine q_bipush hF (n := 9) rfl dX8_begins_40 ?_
      refine q_iload_n hF 0 rfl rfl dX8_begins_42 ?_
      refine q_iadd hF dX8_begins_43 ?_
      refine q_iload_n hF 0 rfl rfl dX8_begins_44 ?_
      refine q_i2l hF (by decide) dX8_begins_45 ?_
      refine q_lastorev hF (n := 1243) 10 hR hRA (by omega) (by omega) (by decide) dX8_begins_46 ?_
      refine q_iinc hF (z' := 2) (ls' := [(1, qI 2), (0, .ref r)]) 0 rfl (by first | rfl | omega) (by decide) rfl dX8_begins_47 ?_
      refine q_goto hF dX8_begins_50 ?_
      refine q_iload_n hF 0 rfl rfl dX8_begins_34 ?_
      refine q_iconst hF dX8_begins_35 ?_
      refine q_icmpge hF (by decide) (by decide) dX8_begins_36 (fun c36 => ?_) (fun c36 => ?_)
      · exact absurd c36 (by decide)
      · refine q_aload_n hF 1 rfl rfl dX8_begins_39 ?_
        refine q_bipush hF (n := 9) rfl dX8_begins_40 ?_
        refine q_iload_n hF 0 rfl rfl dX8_begins_42 ?_
        refine q_iadd hF dX8_begins_43 ?_
        refine q_iload_n hF 0 rfl rfl dX8_begins_44 ?_
        refine q_i2l hF (by decide) dX8_begins_45 ?_
        refine q_lastorev hF (n := 1243) 11 hR hRA (by omega) (by omega) (by decide) dX8_begins_46 ?_
        refine q_iinc hF (z' := 3) (ls' := [(1, qI 3), (0, .ref r)]) 0 rfl (by first | rfl | omega) (by decide) rfl dX8_begins_47 ?_
        refine q_goto hF dX8_begins_50 ?_
        refine q_iload_n hF 0 rfl rfl dX8_begins_34 ?_
        refine q_iconst hF dX8_begins_35 ?_
        refine q_icmpge hF (by decide) (by decide) dX8_begins_36 (fun c36 => ?_) (fun c36 => ?_)
        · refine q_return hF rfl dX8_begins_53 ?_
          rw [zL_row hz, q_row_u, q_row_u, q_row_u, q_row_u, q_row_u]
          exact k0
        · exact absurd c36 (by decide)
