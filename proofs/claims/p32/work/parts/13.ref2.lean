/-! the reference: rows copied and begun -/
/-- row `to` is row `fr` below n -/
def cpL (L : q_I) (fr to n : Nat) : q_I := fun q k => if q = to ∧ k < n then L fr k else L q k
theorem cpL_0 (L : q_I) (fr to : Nat) : cpL L fr to 0 = L := by funext q k; unfold cpL; rw [if_neg (by omega)]
theorem cpL_s (L : q_I) {fr to : Nat} (h : fr ≠ to) (i : Nat) : u2 (cpL L fr to i) to i (cpL L fr to i fr i) = cpL L fr to (i + 1) := by
  funext q k
  unfold u2 cpL
  by_cases e : q = to
  · subst e
    by_cases e2 : k = i
    · subst e2; rw [if_pos ⟨rfl, rfl⟩, if_neg (fun h2 => h h2.1), if_pos ⟨rfl, by omega⟩]
    · rw [if_neg (fun h2 => e2 h2.2)]
      by_cases e3 : k < i
      · rw [if_pos ⟨rfl, e3⟩, if_pos ⟨rfl, by omega⟩]
      · rw [if_neg (fun h2 => e3 h2.2), if_neg (fun h2 => by omega)]
  · rw [if_neg (fun h2 => e h2.1), if_neg (fun h2 => e h2.1), if_neg (fun h2 => e h2.1)]
theorem cpL_to (L : q_I) (fr to : Nat) {n k : Nat} (h : k < n) : cpL L fr to n to k = L fr k := if_pos ⟨rfl, h⟩
theorem cpL_ne (L : q_I) {fr to q : Nat} (n k : Nat) (h : q ≠ to) : cpL L fr to n q k = L q k := if_neg (fun e => h e.1)