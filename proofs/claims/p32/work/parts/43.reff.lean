/-! the reference: a row begun -/
def zL (L : q_I) (r n : Nat) : q_I := fun q k => if q = r ∧ k < n then 0 else L q k
theorem zL_0 (L : q_I) (r : Nat) : zL L r 0 = L := by funext q k; unfold zL; rw [if_neg (by omega)]
theorem zL_s (L : q_I) (r i : Nat) : u2 (zL L r i) r i 0 = zL L r (1 + i) := by
  funext q k
  unfold u2 zL
  by_cases e : q = r
  · subst e
    by_cases e2 : k = i
    · subst e2; rw [if_pos ⟨rfl, rfl⟩, if_pos ⟨rfl, by omega⟩]
    · rw [if_neg (fun h2 => e2 h2.2)]
      by_cases e3 : k < i
      · rw [if_pos ⟨rfl, e3⟩, if_pos ⟨rfl, by omega⟩]
      · rw [if_neg (fun h2 => e3 h2.2), if_neg (fun h2 => by omega)]
  · rw [if_neg (fun h2 => e h2.1), if_neg (fun h2 => e h2.1), if_neg (fun h2 => e h2.1)]
def g_begin : Nat → Int := g_up (g_up (g_up (g_up (g_up (fun _ => 0) 3 3) 8 3) 9 0) 10 1) 11 2