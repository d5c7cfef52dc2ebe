/-! the reference: rows copied and begun -/
/-- row `to` is row `fr` below n -/
def cpL (L : q_I) (fr to n : Nat) : q_I := fun q k => if q = to ∧ k < n then L fr k else L q k
theorem cpL_0 (L : q_I) (fr to : Nat) : cpL L fr to 0 = L := by funext q k; unfold cpL; rw [if_neg (by omega)]
theorem cpL_s (L : q_I) {fr to : Nat} (h : fr ≠ to) (i : Nat) : u2 (cpL L fr to i) to i (cpL L fr to i fr i) = cpL L fr to (i + 1) := by
  funext q k
  unfold u2 cpL
  by_cases e : q = to
  · subst e
    by_cases e2 : k = i
    · subst e2; rw [if_pos ⟨rfl, rfl⟩, if_neg (fun h2 => h h2.1), if_pos ⟨rfl, by omega⟩]
    · rw [if_neg (fun h2 => e2 h2.2)]
      by_cases e3 : k < i
      · rw [if_pos ⟨rfl, e3⟩, if_pos ⟨rfl, by omega⟩]
      · rw [if_neg (fun h2 => e3 h2.2), if_neg (fun h2 => by omega)]
  · rw [if_neg (fun h2 => e h2.1), if_neg (fun h2 => e h2.1), if_neg (fun h2 => e h2.1)]
theorem cpL_to (L : q_I) (fr to : Nat) {n k : Nat} (h : k < n) : cpL L fr to n to k = L fr k := if_pos ⟨rfl, h⟩
theorem cpL_ne (L : q_I) {fr to q : Nat} (n k : Nat) (h : q ≠ to) : cpL L fr to n q k = L q k := if_neg (fun e => h e.1)
set_option maxRecDepth 100000 in
theorem lX8_copies {G : q_G} {F : q_F} {h : Nat} {Q : q_Q} {kc ks sz : Nat} {T : q_T} {fr to : Nat} {I L : q_I} {P : q_P} (hF : q_ok G F YX8_copies h) (hfr : T fr = some (.inr (1, 1243))) (hto : T to = some (.inr (1, 1243))) (hA : q_A G to) (hne : fr ≠ to) (hq : Q (.inl none) sz T I (cpL L fr to 1243) P) : ∀ (n : Nat) (i : Nat), 1243 - i < n → i ≤ 1243 → qX G F Q kc ks 2 [(2, qI (i : Int)), (0, .ref fr), (1, .ref to)] [] sz T I (cpL L fr to i) P := by
  intro n
  induction n with
  | zero => intro i hn; exact absurd hn (Nat.not_lt_zero _)
  | succ n ih =>
    intro i hn hi
    refine q_iload_n hF 0 rfl rfl dX8_copies_2 ?_
    refine q_sipush hF (n := 1243) rfl dX8_copies_3 ?_
    refine q_icmpge hF (by omega) (by decide) dX8_copies_6 (fun c6 => ?_) (fun c6 => ?_)
    · refine q_return hF rfl dX8_copies_21 ?_
      rw [show i = 1243 by omega]; exact hq
    · refine q_aload_n hF 2 rfl rfl dX8_copies_9 ?_
      refine q_iload_n hF 0 rfl rfl dX8_copies_10 ?_
      refine q_aload_n hF 1 rfl rfl dX8_copies_11 ?_
      refine q_iload_n hF 0 rfl rfl dX8_copies_12 ?_
      refine q_laloadv hF (z := (cpL L fr to i) fr i) (n := 1243) i hfr rfl (by omega) (by decide) rfl dX8_copies_13 ?_
      refine q_lastorev hF (n := 1243) i hto hA rfl (by omega) (by decide) dX8_copies_14 ?_
      refine q_iinc hF (z' := ((i + 1 : Nat) : Int)) (ls' := [(2, qI ((i + 1 : Nat) : Int)), (0, .ref fr), (1, .ref to)]) 0 rfl (by first | rfl | omega) (by decide) rfl dX8_copies_15 ?_
      refine q_goto hF dX8_copies_18 ?_
      rw [cpL_s L hne i]
      exact ih (i + 1) (by omega) (by omega)
set_option maxRecDepth 100000 in
theorem mX8_copies {G : q_G} {sz : Nat} {T : q_T} {I L : q_I} {P : q_P} {Q : q_Q} {fr : Nat} {to : Nat}  (hfr : T fr = some (.inr (1, 1243))) (hto : T to = some (.inr (1, 1243))) (hA : q_A G to) (hne : fr ≠ to) (hq : Q (.inl none) sz T I (cpL L fr to 1243) P) : qC G 1 0 0 YX8_copies [.ref fr, .ref to] sz T I L P Q := by
  refine qC_of (by decide +kernel) rfl rfl (Nat.le_of_ble_eq_true rfl) (fun F hF _ _ => ?_)
  refine q_iconst hF dX8_copies_0 ?_
  refine q_istore_n hF (ls' := [(2, qI 0), (0, .ref fr), (1, .ref to)]) rfl (by decide) rfl dX8_copies_1 ?_
  have q := lX8_copies (I := I) (L := L) (P := P) hF hfr hto hA hne hq (kc := 0) (ks := 0) 1244 0 (by omega) (by omega)
  rw [cpL_0] at q
  exact q
