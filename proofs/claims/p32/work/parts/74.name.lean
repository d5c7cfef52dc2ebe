/-! a name; which land bears it -/
theorem g_app_lt : ∀ (xs : List Int) (t : Nat → Int) (i k : Nat), k < i → g_app t i xs k = t k
  | [], _, _, _, _ => rfl
  | x :: xs, t, i, k, h => by
    show g_app (g_up t i x) (i + 1) xs k = t k
    rw [g_app_lt xs _ _ _ (by omega)]
    exact g_up_n _ _ (by omega)
/-- cells of the row before the codes are small numbers; lands are at most five -/
def g_TR (t : Nat → Int) : Prop := (∀ k, k < 139 → -2147483648 ≤ t k ∧ t k < 2147483648) ∧ 0 ≤ t 0 ∧ t 0 ≤ 5
theorem g_TR.up {t : Nat → Int} (h : g_TR t) {k : Nat} {v : Int} (hv : -2147483648 ≤ v ∧ v < 2147483648) (h0 : k ≠ 0 ∨ 0 ≤ v ∧ v ≤ 5) : g_TR (g_up t k v) := by
  refine ⟨fun j hj => ?_, ?_⟩
  · unfold g_up; split
    · exact hv
    · exact h.1 j hj
  · unfold g_up
    by_cases e : 0 = k
    · subst e
      rw [if_pos rfl]
      rcases h0 with h0 | h0
      · exact absurd rfl h0
      · exact h0
    · rw [if_neg e]; exact h.2
theorem g_TR.app {t : Nat → Int} (h : g_TR t) {i : Nat} (hi : 139 ≤ i) (xs : List Int) : g_TR (g_app t i xs) := by
  refine ⟨fun k hk => ?_, ?_⟩
  · rw [g_app_lt xs _ _ _ (by omega)]; exact h.1 k hk
  · rw [g_app_lt xs _ _ _ (by omega)]; exact h.2
/-- letters of the name that stands at q -/
def g_nl (B : Nat → Int) (n q : Nat) : Nat := g_ne B n q - q
/-- a name may stand at q -/
abbrev g_nm (B : Nat → Int) (n q : Nat) : Prop := (0 < g_nl B n q ∧ g_nl B n q ≤ 6) ∧ ∀ k, k < 23 → ¬ g_isW B n (g_wi k) q
/-- land l bears the name of c letters at q -/
abbrev g_lm (B : Nat → Int) (n : Nat) (t : Nat → Int) (q c l : Nat) : Prop := t (30 + 13 * l) = (c : Int) ∧ ∀ k, k < c → t (24 + 13 * l + k) = g_bt B n (q + k)
def g_lndF (B : Nat → Int) (n : Nat) (t : Nat → Int) (q c : Nat) : Nat → Nat → Int
  | 0, _ => -1
  | f + 1, l => if (l : Int) < t 0 then (if g_lm B n t q c l then (l : Int) else g_lndF B n t q c f (l + 1)) else -1
/-- which land bears it; none: -1 -/
def g_lnd (B : Nat → Int) (n : Nat) (t : Nat → Int) (q c : Nat) : Int := g_lndF B n t q c 6 0
theorem g_lndF_r {B : Nat → Int} {n : Nat} {t : Nat → Int} {q c : Nat} : ∀ f l, -1 ≤ g_lndF B n t q c f l ∧ (g_lndF B n t q c f l = -1 ∨ g_lndF B n t q c f l < t 0)
  | 0, _ => ⟨by unfold g_lndF; decide, Or.inl rfl⟩
  | f + 1, l => by
    unfold g_lndF
    split
    · split
      · exact ⟨by omega, Or.inr (by omega)⟩
      · exact g_lndF_r f (l + 1)
    · exact ⟨by decide, Or.inl rfl⟩
theorem g_nl_r {B : Nat → Int} {n q : Nat} (hq : q ≤ n) : q + g_nl B n q = g_ne B n q ∧ q + g_nl B n q ≤ n := by
  have h := g_ne_all (B := B) (n := n) _ q (Nat.lt_succ_self _) hq
  unfold g_nl
  omega