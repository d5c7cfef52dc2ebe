/-! the reference: sleepOf -/
def g_stk (L : q_I) (s : Nat) : List Int → Prop
  | [] => True
  | v :: t => L s t.length = v ∧ g_stk L s t
theorem g_stk_up {L : q_I} {s k : Nat} {v : Int} : ∀ {st : List Int}, g_stk L s st → st.length ≤ k → g_stk (u2 L s k v) s st
  | [], _, _ => trivial
  | w :: t, h, hk => by
    have hk' : t.length + 1 ≤ k := hk
    exact ⟨by rw [u2_k _ _ (by omega)]; exact h.1, g_stk_up h.2 (by omega)⟩
theorem g_len2 : ∀ {st : List Int}, 2 ≤ st.length → ∃ y x t, st = y :: x :: t
  | y :: x :: t, _ => ⟨y, x, t, rfl⟩
  | [_], h => by simp at h
  | [], h => by simp at h
theorem g_len4 : ∀ {st : List Int}, 4 ≤ st.length → ∃ y x b a t, st = y :: x :: b :: a :: t
  | y :: x :: b :: a :: t, _ => ⟨y, x, b, a, t, rfl⟩
  | [_, _, _], h => by simp at h
  | [_, _], h => by simp at h
  | [_], h => by simp at h
  | [], h => by simp at h
theorem g_op_lit {ce ag si le c : Int} {st : List Int} (h : 0 ≤ c) : g_op ce ag si le st c = c :: st := by
  unfold g_op
  exact if_pos h
theorem g_held_id {v : Int} (h : -1000000000000 ≤ v ∧ v ≤ 1000000000000) : g_held v = v := by unfold g_held; (repeat' split) <;> omega