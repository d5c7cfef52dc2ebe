/-! the reference: a text -/
def g_zap (f : Nat → Int) : Nat → Int := fun k => if k < 1243 then f k else 0
theorem g_zap_lt {f : Nat → Int} {k : Nat} (h : k < 1243) : g_zap f k = f k := if_pos h
theorem arrV_lt (c : ClassId) (N : Nat) {f g : Nat → Value} (h : ∀ j, j < N → f j = g j) : arrV c N f = arrV c N g := by
  unfold arrV
  congr 2
  funext j
  exact h j.val j.isLt
theorem g_begin_TR : g_TR g_begin := by
  refine ⟨fun k hk => ?_, by decide, by decide⟩
  unfold g_begin g_up
  (repeat' split) <;> first | decide | (show (-2147483648 : Int) ≤ 0 ∧ (0 : Int) < 2147483648; decide)
/-- what text makes of n bytes -/
def g_text (B : Nat → Int) (n : Nat) (o : Int) : g_Rl := match g_lines B n 4000 (n + 1) (g_mk 0 0 (-1) 0 o 0 0) g_begin with
  | .inl c => if c.2 0 = 0 then g_Rl.er 7 n else .inl c
  | .inr e => .inr e