/-! the reference: whom to ring -/
theorem q_shlM {k : Nat} (h : k ≤ 12) : Int32.ofInt 1 <<< (Int32.ofInt (k : Int) &&& 31) = Int32.ofInt ((2 ^ k : Nat) : Int) := by
  have q : ∀ i : Fin 13, Int32.ofInt 1 <<< (Int32.ofInt ((i.val : Nat) : Int) &&& 31) = Int32.ofInt ((2 ^ i.val : Nat) : Int) := by decide
  exact q ⟨k, by omega⟩
theorem q_pow12 {k : Nat} (h : k ≤ 12) : 2 ^ k ≤ 4096 := by
  calc 2 ^ k ≤ 2 ^ 12 := Nat.pow_le_pow_right (by decide) h
    _ = 4096 := by decide
theorem g_good_iff {r : Nat → Int} {mn s : Nat} {d : Int} (hm : mn ≤ 12) (hs : s < 2 ^ mn) : g_good r mn d s ↔ (∀ i, i < mn → s.testBit i = true → (r (1043 + 12 * i) = 0 ∨ r (1043 + 12 * i) = 1)) ∧ ((g_pop s mn : Nat) : Int) = d := by
  have hz : ∀ i, mn ≤ i → s.testBit i = false := fun i hi => Nat.testBit_lt_two_pow (Nat.lt_of_lt_of_le hs (Nat.pow_le_pow_right (by decide) hi))
  have e := g_pop_hi hz (12 - mn)
  rw [show mn + (12 - mn) = 12 by omega] at e
  unfold g_good
  rw [e]
  constructor
  · intro h; exact ⟨fun i _ hi => (h.1 i hi).2, h.2⟩
  · intro h
    refine ⟨fun i hi => ?_, h.2⟩
    by_cases q : i < mn
    · exact ⟨q, h.1 i q hi⟩
    · rw [hz i (by omega)] at hi; cases hi
theorem g_val_r {r : Nat → Int} {nn : Nat} (hz : g_Zr r) (hV : g_VR r) {s : Nat} : ∀ n : Nat, (n : Int) ≤ r 1 → 0 ≤ g_val r nn n s ∧ g_val r nn n s ≤ 100000000 * (n : Int)
  | 0, _ => by rw [show g_val r nn 0 s = 0 from rfl]; omega
  | n + 1, hn => by
    have q := g_val_r (nn := nn) (s := s) hz hV n (by omega)
    have q1 := g_lf_r hz hV (a := n) (by omega) nn
    have q2 := g_rg_r hz hV (a := n) (by omega) nn
    unfold g_val at q ⊢
    rw [g_sum_s]
    split <;> omega
/-- what the reference's loop over the sets has found -/
def g_bsr (b ls : Int) (o : Option (Nat × Int)) : Prop := (o = none ∧ b = -1 ∧ ls = 0) ∨ ∃ x : Nat × Int, o = some x ∧ b = (x.1 : Int) ∧ ls = x.2
theorem g_bsr_no {b ls : Int} {G9 : Nat → Prop} {V : Nat → Int} {s : Nat} (h : g_bsr b ls (g_best G9 V s)) (hn : ¬ G9 s) : g_bsr b ls (g_best G9 V (s + 1)) := by
  rcases h with ⟨h1, h2⟩ | ⟨x, h1, h2⟩
  · exact Or.inl ⟨(g_best_n h1).2 hn, h2⟩
  · exact Or.inr ⟨x, (g_best_y h1).2 (fun q => hn q.1), h2⟩
theorem g_bsr_ge {b ls : Int} {G9 : Nat → Prop} {V : Nat → Int} {s : Nat} (h : g_bsr b ls (g_best G9 V s)) (hf : b ≠ -1) (hn : ls ≤ V s) : g_bsr b ls (g_best G9 V (s + 1)) := by
  rcases h with ⟨h1, h2, h3⟩ | ⟨x, h1, h2, h3⟩
  · exact absurd h2 hf
  · exact Or.inr ⟨x, (g_best_y h1).2 (fun q => by have := q.2; omega), h2, h3⟩
theorem g_bsr_set {b ls : Int} {G9 : Nat → Prop} {V : Nat → Int} {s : Nat} (h : g_bsr b ls (g_best G9 V s)) (hg : G9 s) (hl : b = -1 ∨ V s < ls) : g_bsr (s : Int) (V s) (g_best G9 V (s + 1)) := by
  rcases h with ⟨h1, h5, h6⟩ | ⟨x, h1, h5, h6⟩
  · exact Or.inr ⟨(s, V s), (g_best_n h1).1 hg, rfl, rfl⟩
  · exact Or.inr ⟨(s, V s), (g_best_y h1).1 hg (by omega), rfl, rfl⟩
theorem g_bsr_r {b ls lo hi : Int} {G9 : Nat → Prop} {V : Nat → Int} {s : Nat} (h : g_bsr b ls (g_best G9 V s)) (hV : ∀ s, lo ≤ V s ∧ V s ≤ hi) (h0 : lo ≤ 0 ∧ 0 ≤ hi) (hs : s ≤ 4096) : (lo ≤ ls ∧ ls ≤ hi) ∧ -1 ≤ b ∧ b ≤ 4096 := by
  rcases h with ⟨h1, h5, h6⟩ | ⟨x, h1, h5, h6⟩
  · omega
  · have q := g_best_at _ h1
    have := hV x.1
    omega