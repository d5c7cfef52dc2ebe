/-! the class: tokens -/
def g_srt (c : Int) : Int := if g_sm c then 256 else if g_dg c then 257 else c
/-- where the token ends that begins at s -/
def g_end (B : Nat → Int) (n s : Nat) : Nat := if g_sm (g_bt B n s) then g_ne B n s else if g_dg (g_bt B n s) then g_nd B n s else s + 1
/-- so far the last token goes from s to e -/
def g_las (B : Nat → Int) (n s e : Nat) : Prop := if g_sm (g_bt B n s) then g_ne B n s = g_ne B n e else if g_dg (g_bt B n s) then g_nd B n s = g_nd B n e else e = s + 1
/-- c tokens of the bytes before i -/
def g_TI (B : Nat → Int) (n i c : Nat) (S E : Nat → Nat) : Prop :=
  c ≤ i ∧ (∀ j, j < c → S j < E j ∧ E j ≤ i ∧ g_bt B n (S j) ≠ 32) ∧ (c = 0 → g_sk B n 0 = g_sk B n i) ∧ (0 < c → S 0 = g_sk B n 0) ∧
  (∀ j, j + 1 < c → g_end B n (S j) = E j ∧ S (j + 1) = g_sk B n (E j)) ∧
  (∀ j, j + 1 = c → (E j = i ∨ g_end B n (S j) = E j) ∧ g_sk B n (E j) = g_sk B n i ∧ g_las B n (S j) (E j))
theorem g_TI_0 (B : Nat → Int) (n : Nat) (S E : Nat → Nat) : g_TI B n 0 0 S E :=
  ⟨Nat.le_refl _, fun j h => absurd h (Nat.not_lt_zero _), fun _ => rfl, fun h => absurd h (Nat.lt_irrefl _), fun j h => absurd h (Nat.not_lt_zero _), fun j h => by omega⟩
/-- a last token that ends at a byte that does not go on with it is whole -/
theorem g_las_end {B : Nat → Int} {n s e : Nat} (h : g_las B n s e) (h1 : g_sm (g_bt B n s) → ¬ g_sm (g_bt B n e)) (h2 : ¬ g_sm (g_bt B n s) → g_dg (g_bt B n s) → ¬ g_dg (g_bt B n e)) : g_end B n s = e := by
  unfold g_las at h
  unfold g_end
  by_cases a : g_sm (g_bt B n s)
  · rw [if_pos a] at h ⊢
    rw [h, g_ne_e (h1 a)]
  · rw [if_neg a] at h ⊢
    by_cases b : g_dg (g_bt B n s)
    · rw [if_pos b] at h ⊢
      rw [h, g_nd_e (h2 a b)]
    · rw [if_neg b] at h ⊢
      exact h.symm
/-- a blank -/
theorem g_TI_blank {B : Nat → Int} {n i c : Nat} {S E : Nat → Nat} (h : g_TI B n i c S E) (hb : g_bt B n i = 32) : g_TI B n (1 + i) c S E := by
  obtain ⟨h1, h2, h3, h4, h5, h6⟩ := h
  have hs := g_sk_s hb
  refine ⟨by omega, fun j hj => ⟨(h2 j hj).1, by have := (h2 j hj).2.1; omega, (h2 j hj).2.2⟩, fun hc => (h3 hc).trans hs, h4, h5, fun j hj => ?_⟩
  obtain ⟨a, b, d⟩ := h6 j hj
  refine ⟨Or.inr ?_, b.trans hs, d⟩
  rcases a with a | a
  · refine g_las_end d (fun _ => ?_) (fun _ _ => ?_)
    · rw [a, hb]; decide
    · rw [a, hb]; decide
  · exact a
/-- a letter behind a word, a digit behind a number -/
theorem g_TI_more {B : Nat → Int} {n i c : Nat} {S E : Nat → Nat} (h : g_TI B n i (c + 1) S E) (he : E c = i) (hk : (g_sm (g_bt B n (S c)) ∧ g_sm (g_bt B n i)) ∨ (¬ g_sm (g_bt B n (S c)) ∧ g_dg (g_bt B n (S c)) ∧ g_dg (g_bt B n i))) : g_TI B n (1 + i) (c + 1) S (fun j => if j = c then 1 + i else E j) := by
  obtain ⟨h1, h2, h3, h4, h5, h6⟩ := h
  refine ⟨by omega, fun j hj => ?_, fun hc => by omega, h4, fun j hj => ?_, fun j hj => ?_⟩
  · have q := h2 j hj
    dsimp only
    split
    · exact ⟨by omega, by omega, q.2.2⟩
    · exact ⟨q.1, by omega, q.2.2⟩
  · have q := h5 j hj
    dsimp only
    rw [if_neg (by omega)]
    exact q
  · obtain rfl : j = c := by omega
    obtain ⟨a, b, d⟩ := h6 j hj
    dsimp only
    rw [if_pos rfl]
    refine ⟨Or.inl rfl, rfl, ?_⟩
    unfold g_las at d ⊢
    rcases hk with ⟨k1, k2⟩ | ⟨k1, k2, k3⟩
    · rw [if_pos k1] at d ⊢
      rw [d, he, g_ne_s k2]
    · rw [if_neg k1, if_pos k2] at d ⊢
      rw [d, he, g_nd_s k3]
/-- a new token at i -/
theorem g_TI_new {B : Nat → Int} {n i c : Nat} {S E : Nat → Nat} (h : g_TI B n i c S E) (hb : g_bt B n i ≠ 32) (hk : ∀ j, j + 1 = c → E j = i → ¬ ((g_sm (g_bt B n (S j)) ∧ g_sm (g_bt B n i)) ∨ (¬ g_sm (g_bt B n (S j)) ∧ g_dg (g_bt B n (S j)) ∧ g_dg (g_bt B n i)))) : g_TI B n (1 + i) (c + 1) (fun j => if j = c then i else S j) (fun j => if j = c then 1 + i else E j) := by
  obtain ⟨h1, h2, h3, h4, h5, h6⟩ := h
  have hs := g_sk_e hb
  refine ⟨by omega, fun j hj => ?_, fun hc => by omega, fun _ => ?_, fun j hj => ?_, fun j hj => ?_⟩
  · dsimp only
    split
    · exact ⟨by omega, by omega, hb⟩
    · have q := h2 j (by omega)
      exact ⟨q.1, by omega, q.2.2⟩
  · dsimp only
    split
    · rename_i e
      rw [h3 e.symm, hs]
    · exact h4 (by omega)
  · dsimp only
    rw [if_neg (show j ≠ c by omega)]
    rw [if_neg (show j ≠ c by omega)]
    by_cases e : j + 1 = c
    · rw [if_pos e]
      obtain ⟨a, b, d⟩ := h6 j e
      refine ⟨?_, by rw [b, hs]⟩
      rcases a with a | a
      · have q := hk j e a
        refine g_las_end d (fun x y => q (Or.inl ⟨x, ?_⟩)) (fun x y z => q (Or.inr ⟨x, y, ?_⟩))
        · rw [← a]; exact y
        · rw [← a]; exact z
      · exact a
    · rw [if_neg e]
      exact h5 j (by omega)
  · obtain rfl : j = c := by omega
    dsimp only
    rw [if_pos rfl, if_pos rfl]
    refine ⟨Or.inl rfl, rfl, ?_⟩
    unfold g_las
    split
    · rename_i x; exact g_ne_s x
    split
    · rename_i x; exact g_nd_s x
    · exact Nat.add_comm 1 i
/-- the tokens of a text of n bytes: c of them, and the end -/
def g_TK (B : Nat → Int) (n c : Nat) (S E : Nat → Nat) : Prop :=
  c ≤ n ∧ S 0 = g_sk B n 0 ∧ S c = n ∧ E c = n ∧ ∀ j, j < c → S j < n ∧ S j < E j ∧ E j ≤ n ∧ g_bt B n (S j) ≠ 32 ∧ E j = g_end B n (S j) ∧ S (j + 1) = g_sk B n (E j)
theorem g_bt_n (B : Nat → Int) (n : Nat) : g_bt B n n = -1 := if_neg (Nat.lt_irrefl n)
theorem g_TI_end {B : Nat → Int} {n c : Nat} {S E : Nat → Nat} (h : g_TI B n n c S E) : g_TK B n c (fun j => if j = c then n else S j) (fun j => if j = c then n else E j) := by
  obtain ⟨h1, h2, h3, h4, h5, h6⟩ := h
  have hn : g_sk B n n = n := g_sk_e (by rw [g_bt_n]; decide)
  refine ⟨h1, ?_, if_pos rfl, if_pos rfl, fun j hj => ?_⟩
  · dsimp only
    by_cases e : 0 = c
    · rw [if_pos e, h3 e.symm, hn]
    · rw [if_neg e]; exact h4 (by omega)
  · have q := h2 j hj
    dsimp only
    rw [if_neg (show j ≠ c by omega), if_neg (show j ≠ c by omega)]
    by_cases e : j + 1 = c
    · rw [if_pos e]
      obtain ⟨a, b, d⟩ := h6 j e
      refine ⟨by omega, q.1, q.2.1, q.2.2, ?_, by rw [b, hn]⟩
      rcases a with a | a
      · refine (g_las_end d (fun _ => ?_) (fun _ _ => ?_)).symm
        · rw [a, g_bt_n]; decide
        · rw [a, g_bt_n]; decide
      · exact a.symm
    · rw [if_neg e]
      have q5 := h5 j (by omega)
      exact ⟨by omega, q.1, q.2.1, q.2.2, q5.1.symm, q5.2⟩
