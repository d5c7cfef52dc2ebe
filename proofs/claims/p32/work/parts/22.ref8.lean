/-! the reference: refusals, what is remembered -/
/-- rows are nought behind their ends -/
def q_Z0 (L : q_I) (m : Nat) : Prop := ∀ q k, m + 3 ≤ q → q < m + 15 → 1243 ≤ k → L q k = 0
theorem cpL_z {L : q_I} {m fr to : Nat} (hz : q_Z0 L m) (h1 : m + 3 ≤ fr) (h2 : fr < m + 15) (h3 : m + 3 ≤ to) (h4 : to < m + 15) : cpL L fr to 1243 to = L fr := by
  funext k
  by_cases h : k < 1243
  · exact cpL_to L fr to h
  · unfold cpL
    rw [if_neg (fun q => h q.2), hz to k h3 h4 (by omega), hz fr k h1 h2 (by omega)]
theorem q_Z0.cp {L : q_I} {m : Nat} (hz : q_Z0 L m) {fr to : Nat} (h1 : m + 3 ≤ fr) (h2 : fr < m + 15) (h3 : m + 3 ≤ to) (h4 : to < m + 15) : q_Z0 (cpL L fr to 1243) m := fun q k a b c => by
  by_cases h : q = to
  · rw [h, cpL_z hz h1 h2 h3 h4]; exact hz fr k h1 h2 c
  · rw [cpL_ne L 1243 k h]; exact hz q k a b c
def g_nb (bk : Nat) : Nat := if bk = 8 then 8 else bk + 1
/-- the reference's state is remembered -/
def g_Rm (L L' : q_I) (m bk : Nat) : Prop := (∀ q k, q < m + 7 ∨ m + 15 ≤ q → L' q k = L q k) ∧ (∀ j, j < g_nb bk → L' (m + 7 + j) = if j + 1 = g_nb bk then L (m + 3) else if bk = 8 then L (m + 8 + j) else L (m + 7 + j)) ∧ q_Z0 L' m