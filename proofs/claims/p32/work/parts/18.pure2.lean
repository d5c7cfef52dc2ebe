/-! what a row's rules rest on -/
/-- the cells that tell the rules -/
def g_rc (k : Nat) : Prop := k = 0 ∨ (3 ≤ k ∧ k ≤ 5) ∨ (8 ≤ k ∧ k ≤ 16) ∨ (24 ≤ k ∧ k < 1039 ∧ (k < 89 → (k - 24) % 13 < 11))
def g_same (r r' : Nat → Int) : Prop := ∀ k, g_rc k → r' k = r k
theorem g_same.rf (r : Nat → Int) : g_same r r := fun _ _ => rfl
theorem g_same.tr {a b c : Nat → Int} (h : g_same a b) (h2 : g_same b c) : g_same a c := fun k hk => (h2 k hk).trans (h k hk)
theorem g_same.up {r r' : Nat → Int} (h : g_same r r') {k : Nat} {v : Int} (hk : ¬ g_rc k) : g_same r (g_up r' k v) := fun j hj => by
  rw [g_up_n _ _ (fun e : j = k => hk (e ▸ hj))]
  exact h j hj
theorem g_dec_same {r r' : Nat → Int} (h : g_same r r') : ∀ (n i e : Nat), e ≤ 900 → g_dec r' n i e = g_dec r n i e
  | 0, _, _, _ => rfl
  | n + 1, i, e, he => by
    unfold g_dec
    by_cases hi : i < e
    · rw [if_pos hi, if_pos hi, g_dec_same h n _ _ he, g_dec_same h n _ _ he, h (139 + i) (Or.inr (Or.inr (Or.inr ⟨by omega, by omega, by omega⟩)))]
      by_cases h2 : i + 1 < e
      · rw [h (140 + i) (Or.inr (Or.inr (Or.inr ⟨by omega, by omega, by omega⟩)))]
      · rw [if_neg (c := i + 1 < e ∧ 0 ≤ r' (140 + i)) (fun q => h2 q.1), if_neg (c := i + 1 < e ∧ 0 ≤ r (140 + i)) (fun q => h2 q.1)]
    · rw [if_neg hi, if_neg hi]
theorem g_V0.same {r r' : Nat → Int} (h : g_V0 r) (hs : g_same r r') (hm : 0 ≤ r' 1 ∧ r' 1 ≤ 12) (hn : 0 ≤ r' 2 ∧ r' 2 ≤ 6000) (hr : 0 ≤ r' 6 ∧ r' 6 ≤ 12) : g_V0 r' := by
  have e0 := hs 0 (by unfold g_rc; omega)
  have e3 := hs 3 (by unfold g_rc; omega)
  have e4 := hs 4 (by unfold g_rc; omega)
  have e5 := hs 5 (by unfold g_rc; omega)
  have e8 := hs 8 (by unfold g_rc; omega)
  refine ⟨by rw [e0]; exact h.lands, hm, hn, by rw [e3]; exact h.wait, by rw [e4]; exact h.cost, by rw [e5, e0]; exact h.home, hr, by rw [e8]; exact h.ords, fun k hk => ?_, fun k hk => ?_, fun l hl => ?_, fun q hq => ?_, fun q hq hp => ?_⟩
  · rw [hs (9 + k) (by unfold g_rc; omega)]; exact h.ord k hk
  · rw [hs (12 + k) (by unfold g_rc; omega)]; exact h.pays k hk
  · have hl5 := h.lands
    rw [e0] at hl
    rw [hs (31 + 13 * l) (by unfold g_rc; omega), hs (32 + 13 * l) (by unfold g_rc; omega), hs (33 + 13 * l) (by unfold g_rc; omega), hs (34 + 13 * l) (by unfold g_rc; omega), hs (30 + 13 * l) (by unfold g_rc; omega)]
    exact h.land l hl
  · rw [hs (90 + 2 * q) (by unfold g_rc; omega)]; exact h.laws q hq
  · have e1 := hs (90 + 2 * q) (by unfold g_rc; omega)
    have e2 := hs (89 + 2 * q) (by unfold g_rc; omega)
    rw [e1] at hp
    rw [e1, e2, e0, g_dec_same hs _ _ _ (by have := h.laws q hq; omega)]
    exact h.law q hq hp
theorem g_pl_same {r r' : Nat → Int} (hs : g_same r r') {a k : Nat} (h0 : r' (1040 + 12 * a) = r (1040 + 12 * a)) (h1 : r' (1041 + 12 * a) = r (1041 + 12 * a)) (hk : k ≤ 3) : g_pl r' a k = g_pl r a k := by
  unfold g_pl
  by_cases h3 : k = 3
  · subst h3
    rw [h0, h1, hs 5 (by unfold g_rc; omega), hs (9 + 3) (by unfold g_rc; omega)]
  · rw [h0, h1, hs 5 (by unfold g_rc; omega), hs (9 + k) (by unfold g_rc; omega)]
theorem g_belF_same {r r' : Nat → Int} (h : g_V0 r) (hs : g_same r r') {a : Nat} {b : Int} (ha : g_VA r a b) (hk : r' (1039 + 12 * a) = r (1039 + 12 * a)) (h0 : r' (1040 + 12 * a) = r (1040 + 12 * a)) (h1 : r' (1041 + 12 * a) = r (1041 + 12 * a)) : ∀ (n k : Nat), k ≤ 3 → g_belF r' a n k = g_belF r a n k
  | 0, _, _ => rfl
  | n + 1, k, hk3 => by
    have ho := h.ords
    have hs8 := hs 8 (by unfold g_rc; omega)
    have hp := g_pl_same hs h0 h1 hk3
    have hpr := g_pl_r h ha k
    unfold g_belF
    rw [hs8, hk, hp]
    by_cases c1 : (k : Int) < r 8
    · rw [if_pos c1, if_pos c1, g_belF_same h hs ha hk h0 h1 n (k + 1) (by omega)]
      by_cases c2 : g_pl r a k = -1
      · rw [if_neg (fun q => q.1 c2), if_neg (fun q => q.1 c2)]
      · obtain ⟨q, q1, q2, q3⟩ := g_law_q ha.kind (l := g_pl r a k) (by omega)
        rw [q3, hs (89 + 2 * q + 1) (by unfold g_rc; omega)]
    · rw [if_neg c1, if_neg c1]
theorem g_bel_same {r r' : Nat → Int} (h : g_V0 r) (hs : g_same r r') {a : Nat} {b : Int} (ha : g_VA r a b) (hk : r' (1039 + 12 * a) = r (1039 + 12 * a)) (h0 : r' (1040 + 12 * a) = r (1040 + 12 * a)) (h1 : r' (1041 + 12 * a) = r (1041 + 12 * a)) : g_bel r' a = g_bel r a := g_belF_same h hs ha hk h0 h1 4 0 (by decide)
/-- the land that it belongs to takes its kind -/
theorem g_belF_tk {r : Nat → Int} (h : g_V0 r) {a : Nat} {b : Int} (ha : g_VA r a b) : ∀ (n k : Nat), g_belF r a n k ≠ -1 → (0 ≤ g_belF r a n k ∧ g_belF r a n k ≤ 4) ∧ 0 < r (g_law (r (1039 + 12 * a)) (g_belF r a n k) + 1)
  | 0, _, hn => absurd rfl hn
  | n + 1, k, hn => by
    have hpr := g_pl_r h ha k
    unfold g_belF at hn ⊢
    by_cases c1 : (k : Int) < r 8
    · rw [if_pos c1] at hn ⊢
      by_cases c2 : g_pl r a k ≠ -1 ∧ 0 < r (g_law (r (1039 + 12 * a)) (g_pl r a k) + 1)
      · rw [if_pos c2] at hn ⊢
        exact ⟨by omega, c2.2⟩
      · rw [if_neg c2] at hn ⊢
        exact g_belF_tk h ha n (k + 1) hn
    · rw [if_neg c1] at hn
      exact absurd rfl hn
theorem g_bel_tk {r : Nat → Int} (h : g_V0 r) {a : Nat} {b : Int} (ha : g_VA r a b) (hn : g_bel r a ≠ -1) : (0 ≤ g_bel r a ∧ g_bel r a < r 0 ∧ g_bel r a ≤ 4) ∧ 0 < r (g_law (r (1039 + 12 * a)) (g_bel r a) + 1) := by
  have h1 := g_belF_tk h ha 4 0 hn
  obtain ⟨⟨h2, h3⟩, h4⟩ := h1
  have hk := ha.kind
  obtain ⟨q, q1, q2, q3⟩ := g_law_q hk (l := g_bel r a) ⟨h2, h3⟩
  have h5 := h.law q q1 (by rw [show 90 + 2 * q = 89 + 2 * q + 1 by omega, ← q3]; exact h4)
  have h6 : (q : Int) % 5 = g_bel r a := by
    have h7 : 0 ≤ g_bel r a := h2
    have h8 : g_bel r a ≤ 4 := h3
    omega
  have h9 := h5.2.1
  rw [h6] at h9
  exact ⟨⟨h2, h9, h3⟩, h4⟩
theorem g_bel_r {r : Nat → Int} (h : g_V0 r) {a : Nat} {b : Int} (ha : g_VA r a b) : -1 ≤ g_bel r a ∧ g_bel r a ≤ 4 := by
  by_cases hn : g_bel r a = -1
  · omega
  · have := (g_bel_tk h ha hn).1; omega
theorem g_int_r {r : Nat → Int} (h : g_V0 r) {a : Nat} {b : Int} (ha : g_VA r a b) : (0 ≤ g_int r a ∧ g_int r a ≤ 100000000 - r (1042 + 12 * a)) ∧ 0 ≤ r (1042 + 12 * a) * r (12 + (r (1039 + 12 * a)).toNat) ∧ r (1042 + 12 * a) * r (12 + (r (1039 + 12 * a)).toNat) ≤ 99900000000 := by
  have hc := ha.cents
  have hk := ha.kind
  have hp := h.pays (r (1039 + 12 * a)).toNat (by omega)
  have h1 := Int.mul_nonneg hc.1 hp.1
  have h2 : r (1042 + 12 * a) * r (12 + (r (1039 + 12 * a)).toNat) ≤ 100000000 * 999 := Int.mul_le_mul hc.2 hp.2 hp.1 (by decide)
  have h3 := Int.tdiv_nonneg h1 (b := 120000) (by decide)
  unfold g_int
  omega
theorem g_r1_same (r : Nat → Int) (a : Nat) : g_same r (g_r1 r a) := by
  unfold g_r1
  exact ((((g_same.rf r).up (by unfold g_rc; omega)).up (by unfold g_rc; omega)).up (by unfold g_rc; omega)).up (by unfold g_rc; omega)
theorem g_r1_n (r : Nat → Int) {a k : Nat} (h1 : k ≠ 1042 + 12 * a) (h2 : k ≠ 18) (h3 : k ≠ 1044 + 12 * a) (h4 : k ≠ 1045 + 12 * a) : g_r1 r a k = r k := by
  unfold g_r1
  rw [g_up_n _ _ h4, g_up_n _ _ h3, g_up_n _ _ h2, g_up_n _ _ h1]
theorem g_r1_c (r : Nat → Int) (a : Nat) : g_r1 r a (1042 + 12 * a) = r (1042 + 12 * a) + g_int r a := by
  unfold g_r1
  rw [g_up_n _ _ (by omega), g_up_n _ _ (by omega), g_up_n _ _ (by omega), g_up_s]
theorem g_r1_a (r : Nat → Int) (a : Nat) : g_r1 r a (1044 + 12 * a) = r (1044 + 12 * a) + 1 := by
  unfold g_r1
  rw [g_up_n _ _ (by omega), g_up_s]
theorem g_r1_s (r : Nat → Int) (a : Nat) : g_r1 r a (1045 + 12 * a) = r (1045 + 12 * a) + 1 := by
  unfold g_r1
  rw [g_up_s]
theorem g_V0.r1 {r : Nat → Int} (h : g_V0 r) (a : Nat) : g_V0 (g_r1 r a) := h.same (g_r1_same r a) (by rw [g_r1_n] <;> first | exact h.many | omega) (by rw [g_r1_n] <;> first | exact h.month | omega) (by rw [g_r1_n] <;> first | exact h.rows | omega)
theorem g_VA.r1 {r : Nat → Int} (h : g_V0 r) {a : Nat} {b : Int} (ha : g_VA r a b) : g_VA (g_r1 r a) a (b + 1) := by
  have hi := (g_int_r h ha).1
  have hc := ha.cents
  have h1 := ha.age
  have h2 := ha.since
  have h3 := ha.wrote
  have h4 := ha.lat
  have h5 := ha.hat
  refine ⟨?_, ?_, ?_, ?_, ?_, ?_, ?_, ?_, ?_, ?_, ?_, ?_, ?_⟩
  · rw [g_r1_n] <;> first | exact ha.kind | omega
  · rw [g_r1_n, g_r1_n] <;> first | exact ha.addr | omega
  · rw [g_r1_n, g_r1_n] <;> first | exact ha.birth | omega
  · rw [g_r1_c]; omega
  · rw [g_r1_n] <;> first | exact ha.state | omega
  · rw [g_r1_a]; omega
  · rw [g_r1_s]; omega
  · rw [g_r1_n] <;> omega
  · rw [g_r1_n, g_r1_n] <;> first | exact ha.holder | omega
  · rw [g_r1_n] <;> omega
  · rw [g_r1_n] <;> first | exact ha.nl | omega
  · rw [g_r1_n] <;> omega
  · rw [g_r1_n, g_r1_n, g_r1_n] <;> first | exact ha.hh | omega
