/-! rows that stand: an account's month keeps them -/
def g_cnt (r : Nat → Int) : Nat → Int
  | 0 => 0
  | n + 1 => g_cnt r n + (if r (1043 + 12 * n) = 2 ∨ r (1043 + 12 * n) = 3 then 1 else 0)
theorem g_cnt_r (r : Nat → Int) : ∀ n : Nat, 0 ≤ g_cnt r n ∧ g_cnt r n ≤ n
  | 0 => ⟨Int.le_refl _, Int.le_refl _⟩
  | n + 1 => by
    have := g_cnt_r r n
    unfold g_cnt
    split <;> omega
theorem g_cnt_lt {r : Nat → Int} {a : Nat} (h : r (1043 + 12 * a) ≠ 2 ∧ r (1043 + 12 * a) ≠ 3) : ∀ n : Nat, a < n → g_cnt r n < n
  | 0, h0 => absurd h0 (Nat.not_lt_zero _)
  | n + 1, h0 => by
    unfold g_cnt
    by_cases e : a = n
    · subst e
      rw [if_neg (by omega)]
      have := g_cnt_r r a
      omega
    · have := g_cnt_lt h n (by omega)
      split <;> omega
theorem g_cnt_same {r x : Nat → Int} : ∀ n : Nat, (∀ i : Nat, i < n → ((x (1043 + 12 * i) = 2 ∨ x (1043 + 12 * i) = 3) ↔ (r (1043 + 12 * i) = 2 ∨ r (1043 + 12 * i) = 3))) → g_cnt x n = g_cnt r n
  | 0, _ => rfl
  | n + 1, h => by
    unfold g_cnt
    rw [g_cnt_same n (fun i hi => h i (by omega))]
    have := h n (by omega)
    by_cases e : x (1043 + 12 * n) = 2 ∨ x (1043 + 12 * n) = 3
    · rw [if_pos e, if_pos (this.mp e)]
    · rw [if_neg e, if_neg (fun q => e (this.mpr q))]
theorem g_cnt_more {r x : Nat → Int} {a : Nat} (h1 : r (1043 + 12 * a) ≠ 2 ∧ r (1043 + 12 * a) ≠ 3) (h2 : x (1043 + 12 * a) = 2 ∨ x (1043 + 12 * a) = 3) : ∀ n : Nat, (∀ i : Nat, i < n → i ≠ a → x (1043 + 12 * i) = r (1043 + 12 * i)) → a < n → g_cnt x n = g_cnt r n + 1
  | 0, _, h0 => absurd h0 (Nat.not_lt_zero _)
  | n + 1, h3, h0 => by
    unfold g_cnt
    by_cases e : a = n
    · subst e
      rw [g_cnt_same a (fun i hi => by rw [h3 i (by omega) (by omega)]), if_pos h2, if_neg (by omega)]
      omega
    · rw [g_cnt_more h1 h2 n (fun i hi => h3 i (by omega)) (by omega), h3 n (by omega) (fun q => e q.symm)]
      split <;> omega
theorem g_VA.mono {r : Nat → Int} {a : Nat} {b c : Int} (h : g_VA r a b) (hb : b ≤ c) : g_VA r a c := by
  have h1 := h.age
  have h2 := h.since
  have h3 := h.wrote
  have h4 := h.lat
  have h5 := h.hat
  exact ⟨h.kind, h.addr, h.birth, h.cents, h.state, by omega, by omega, by omega, h.holder, by omega, h.nl, by omega, h.hh⟩
theorem g_VA.ext {r x : Nat → Int} {a : Nat} {b : Int} (h : g_VA r a b) (h0 : x 0 = r 0) (hk : ∀ k, 1039 + 12 * a ≤ k → k ≤ 1050 + 12 * a → x k = r k) : g_VA x a b := by
  unfold g_VA
  rw [h0, hk (1039 + 12 * a) (by omega) (by omega), hk (1040 + 12 * a) (by omega) (by omega), hk (1041 + 12 * a) (by omega) (by omega), hk (1042 + 12 * a) (by omega) (by omega), hk (1043 + 12 * a) (by omega) (by omega), hk (1044 + 12 * a) (by omega) (by omega), hk (1045 + 12 * a) (by omega) (by omega), hk (1046 + 12 * a) (by omega) (by omega), hk (1047 + 12 * a) (by omega) (by omega), hk (1048 + 12 * a) (by omega) (by omega), hk (1049 + 12 * a) (by omega) (by omega), hk (1050 + 12 * a) (by omega) (by omega)]
  exact h
/-- in the middle of a month: the accounts below a are a month older -/
def g_VM (r : Nat → Int) (a : Nat) (b : Int) : Prop := g_V0 r ∧ (∀ i : Nat, (i : Int) < r 1 → g_VA r i (if i < a then b + 1 else b)) ∧ r 6 = g_cnt r (r 1).toNat
theorem g_goes_cases (r : Nat → Int) (a : Nat) (nx : Int) : (¬ (r (1043 + 12 * a) = 0 ∨ r (1043 + 12 * a) = 1) ∧ g_goes r a nx = (0, r)) ∨ ((r (1043 + 12 * a) = 0 ∨ r (1043 + 12 * a) = 1) ∧ g_goes r a nx = (0, g_r1 r a)) ∨ (r (1043 + 12 * a) = 0 ∧ g_goes r a nx = (0, g_wr (g_r1 r a) a nx)) ∨ (r (1043 + 12 * a) = 1 ∧ g_bel (g_r1 r a) a ≠ -1 ∧ g_goes r a nx = (1, g_ha (g_r1 r a) a (g_bel (g_r1 r a) a) nx)) := by
  unfold g_goes
  by_cases h1 : r (1043 + 12 * a) = 0 ∨ r (1043 + 12 * a) = 1
  · rw [if_pos h1]
    by_cases h2 : g_bel (g_r1 r a) a = -1
    · rw [if_pos h2]
      exact Or.inr (Or.inl ⟨h1, rfl⟩)
    · rw [if_neg h2]
      by_cases h3 : r (1043 + 12 * a) = 0
      · rw [if_pos h3]
        by_cases h4 : g_sleep (g_r1 r a) a (g_bel (g_r1 r a) a) ≤ g_r1 r a (1045 + 12 * a)
        · rw [if_pos h4]
          exact Or.inr (Or.inr (Or.inl ⟨h3, rfl⟩))
        · rw [if_neg h4]
          exact Or.inr (Or.inl ⟨h1, rfl⟩)
      · rw [if_neg h3]
        split
        · exact Or.inr (Or.inl ⟨h1, rfl⟩)
        · exact Or.inr (Or.inr (Or.inr ⟨by omega, h2, rfl⟩))
  · rw [if_neg h1]
    exact Or.inl ⟨h1, rfl⟩
theorem g_wr_n (r : Nat → Int) {a k : Nat} {nx : Int} (h1 : k ≠ 1042 + 12 * a) (h2 : k ≠ 20) (h3 : k ≠ 1046 + 12 * a) (h4 : k ≠ 1043 + 12 * a) (h5 : k ≠ 1048 + 12 * a) (h6 : k ≠ 7) : g_wr r a nx k = r k := by
  unfold g_wr
  rw [g_up_n _ _ h6, g_up_n _ _ h5, g_up_n _ _ h4, g_up_n _ _ h3, g_up_n _ _ h2, g_up_n _ _ h1]
theorem g_ha_n (r : Nat → Int) {a k : Nat} {l nx : Int} (h6 : 0 ≤ r 6) (h1 : k < 1183) (h2 : k ≠ 6) (h3 : k ≠ 1043 + 12 * a) (h4 : k ≠ 1047 + 12 * a) (h5 : k ≠ 1049 + 12 * a) (h7 : k ≠ 1050 + 12 * a) : g_ha r a l nx k = r k := by
  unfold g_ha
  rw [g_up_n _ _ h7, g_up_n _ _ h5, g_up_n _ _ h4, g_up_n _ _ h3, g_up_n _ _ h2, g_up_n _ _ (by omega), g_up_n _ _ (by omega), g_up_n _ _ (by omega), g_up_n _ _ (by omega), g_up_n _ _ (by omega)]
/-- what a month of account a leaves -/
theorem g_goes_n {r : Nat → Int} {a k : Nat} {nx : Int} (h6 : 0 ≤ r 6) (h1 : k < 1183) (h2 : k ≠ 6) (h3 : k ≠ 7) (h4 : k ≠ 18) (h5 : k ≠ 20) (h7 : k < 1042 + 12 * a ∨ 1050 + 12 * a < k) : (g_goes r a nx).2 k = r k := by
  have e := g_r1_n r (a := a) (k := k) (by omega) (by omega) (by omega) (by omega)
  rcases g_goes_cases r a nx with ⟨-, h⟩ | ⟨-, h⟩ | ⟨-, h⟩ | ⟨-, -, h⟩ <;> rw [h]
  · exact e
  · exact (g_wr_n _ (by omega) (by omega) (by omega) (by omega) (by omega) (by omega)).trans e
  · exact (g_ha_n _ (by rw [g_r1_n] <;> omega) (by omega) (by omega) (by omega) (by omega) (by omega) (by omega)).trans e
theorem g_goes_same {r : Nat → Int} {a : Nat} {nx : Int} (h6 : 0 ≤ r 6) : g_same r (g_goes r a nx).2 := fun k hk => by
  unfold g_rc at hk
  exact g_goes_n h6 (by omega) (by omega) (by omega) (by omega) (by omega) (by omega)
theorem g_VA.wr {r : Nat → Int} {a : Nat} {b nx : Int} (h0 : g_V0 r) (h : g_VA r a b) (hx : 0 ≤ nx ∧ nx ≤ b + 1) : g_VA (g_wr (g_r1 r a) a nx) a (b + 1) := by
  have h1 := h.r1 h0
  have q1 := h1.cents
  have q2 := (h0.r1 a).cost
  have q3 := h.wrote
  have e1 : g_wr (g_r1 r a) a nx (1042 + 12 * a) = g_r1 r a (1042 + 12 * a) + -(min (g_r1 r a 4) (g_r1 r a (1042 + 12 * a))) := by
    unfold g_wr
    rw [g_up_n _ _ (by omega), g_up_n _ _ (by omega), g_up_n _ _ (by omega), g_up_n _ _ (by omega), g_up_n _ _ (by omega), g_up_s]
  have e2 : g_wr (g_r1 r a) a nx (1046 + 12 * a) = r (1046 + 12 * a) + 1 := by
    unfold g_wr
    rw [g_up_n _ _ (by omega), g_up_n _ _ (by omega), g_up_n _ _ (by omega), g_up_s, g_r1_n] <;> omega
  have e3 : g_wr (g_r1 r a) a nx (1043 + 12 * a) = 1 := by
    unfold g_wr
    rw [g_up_n _ _ (by omega), g_up_n _ _ (by omega), g_up_s]
  have e4 : g_wr (g_r1 r a) a nx (1048 + 12 * a) = nx := by
    unfold g_wr
    rw [g_up_n _ _ (by omega), g_up_s]
  have n : ∀ k, k ≠ 1042 + 12 * a → k ≠ 20 → k ≠ 1046 + 12 * a → k ≠ 1043 + 12 * a → k ≠ 1048 + 12 * a → k ≠ 7 → g_wr (g_r1 r a) a nx k = g_r1 r a k := fun k => g_wr_n _
  unfold g_VA
  rw [e1, e2, e3, e4, n 0 (by omega) (by omega) (by omega) (by omega) (by omega) (by omega), n (1039 + 12 * a) (by omega) (by omega) (by omega) (by omega) (by omega) (by omega), n (1040 + 12 * a) (by omega) (by omega) (by omega) (by omega) (by omega) (by omega), n (1041 + 12 * a) (by omega) (by omega) (by omega) (by omega) (by omega) (by omega), n (1044 + 12 * a) (by omega) (by omega) (by omega) (by omega) (by omega) (by omega), n (1045 + 12 * a) (by omega) (by omega) (by omega) (by omega) (by omega) (by omega), n (1047 + 12 * a) (by omega) (by omega) (by omega) (by omega) (by omega) (by omega), n (1049 + 12 * a) (by omega) (by omega) (by omega) (by omega) (by omega) (by omega), n (1050 + 12 * a) (by omega) (by omega) (by omega) (by omega) (by omega) (by omega)]
  exact ⟨h1.kind, h1.addr, h1.birth, by omega, by omega, h1.age, h1.since, by omega, h1.holder, by omega, h1.nl, h1.hat, fun q => by omega⟩
theorem g_VA.ha {r : Nat → Int} {a : Nat} {b nx l : Int} (h1 : g_VA r a b) (ha : a < 12) (h6 : 0 ≤ r 6) (hx : 0 ≤ nx ∧ nx ≤ b) (hl : 0 ≤ l ∧ l < r 0) : g_VA (g_ha r a l nx) a b := by
  have e1 : g_ha r a l nx (1043 + 12 * a) = 2 := by
    unfold g_ha
    rw [g_up_n _ _ (by omega), g_up_n _ _ (by omega), g_up_n _ _ (by omega), g_up_s]
  have e2 : g_ha r a l nx (1047 + 12 * a) = l := by
    unfold g_ha
    rw [g_up_n _ _ (by omega), g_up_n _ _ (by omega), g_up_s]
  have e3 : 0 ≤ g_ha r a l nx (1049 + 12 * a) ∧ g_ha r a l nx (1049 + 12 * a) ≤ 1 := by
    unfold g_ha
    rw [g_up_n _ _ (by omega), g_up_s]
    split <;> decide
  have e4 : g_ha r a l nx (1050 + 12 * a) = nx := by
    unfold g_ha
    rw [g_up_s]
  have n : ∀ k, k < 1183 → k ≠ 6 → k ≠ 1043 + 12 * a → k ≠ 1047 + 12 * a → k ≠ 1049 + 12 * a → k ≠ 1050 + 12 * a → g_ha r a l nx k = r k := fun k => g_ha_n _ h6
  unfold g_VA
  rw [e1, e2, e4, n 0 (by omega) (by omega) (by omega) (by omega) (by omega) (by omega), n (1039 + 12 * a) (by omega) (by omega) (by omega) (by omega) (by omega) (by omega), n (1040 + 12 * a) (by omega) (by omega) (by omega) (by omega) (by omega) (by omega), n (1041 + 12 * a) (by omega) (by omega) (by omega) (by omega) (by omega) (by omega), n (1042 + 12 * a) (by omega) (by omega) (by omega) (by omega) (by omega) (by omega), n (1044 + 12 * a) (by omega) (by omega) (by omega) (by omega) (by omega) (by omega), n (1045 + 12 * a) (by omega) (by omega) (by omega) (by omega) (by omega) (by omega), n (1046 + 12 * a) (by omega) (by omega) (by omega) (by omega) (by omega) (by omega), n (1048 + 12 * a) (by omega) (by omega) (by omega) (by omega) (by omega) (by omega)]
  exact ⟨h1.kind, h1.addr, h1.birth, h1.cents, by omega, h1.age, h1.since, h1.wrote, by omega, h1.lat, e3, by omega, fun _ => hl⟩
theorem g_VM.goes {r : Nat → Int} {a : Nat} {b : Int} (h : g_VM r a b) (ha : (a : Int) < r 1) (hb : 0 ≤ b) : g_VM (g_goes r a (b + 1)).2 (a + 1) b := by
  obtain ⟨h0, h1, h2⟩ := h
  have hm := h0.many
  have hr := h0.rows
  have e0 := g_goes_n (r := r) (a := a) (k := 0) (nx := b + 1) hr.1 (by omega) (by omega) (by omega) (by omega) (by omega) (by omega)
  have e1 := g_goes_n (r := r) (a := a) (k := 1) (nx := b + 1) hr.1 (by omega) (by omega) (by omega) (by omega) (by omega) (by omega)
  have e2 := g_goes_n (r := r) (a := a) (k := 2) (nx := b + 1) hr.1 (by omega) (by omega) (by omega) (by omega) (by omega) (by omega)
  have hA := h1 a ha
  rw [if_neg (by omega)] at hA
  have es : ∀ i : Nat, i ≠ a → i < 12 → (g_goes r a (b + 1)).2 (1043 + 12 * i) = r (1043 + 12 * i) := fun i hi h12 => g_goes_n hr.1 (by omega) (by omega) (by omega) (by omega) (by omega) (by omega)
  have key : g_VA (g_goes r a (b + 1)).2 a (b + 1) ∧ (g_goes r a (b + 1)).2 6 = g_cnt (g_goes r a (b + 1)).2 (r 1).toNat := by
    rcases g_goes_cases r a (b + 1) with ⟨c1, e⟩ | ⟨c1, e⟩ | ⟨c1, e⟩ | ⟨c1, c2, e⟩
    · have e := congrArg Prod.snd e
      simp only at e
      rw [e]; exact ⟨hA.mono (by omega), h2⟩
    · have e := congrArg Prod.snd e
      simp only at e
      refine ⟨by rw [e]; exact hA.r1 h0, ?_⟩
      have h3 : g_r1 r a (1043 + 12 * a) = r (1043 + 12 * a) := g_r1_n _ (by omega) (by omega) (by omega) (by omega)
      rw [g_cnt_same (r := r) _ (fun i hi => by
        by_cases q : i = a
        · subst q; rw [e, h3]
        · rw [es i q (by omega)]), ← h2, e]
      exact g_r1_n _ (by omega) (by omega) (by omega) (by omega)
    · have e := congrArg Prod.snd e
      simp only at e
      refine ⟨by rw [e]; exact hA.wr h0 (by omega), ?_⟩
      have h3 : g_wr (g_r1 r a) a (b + 1) (1043 + 12 * a) = 1 := by
        unfold g_wr
        rw [g_up_n _ _ (by omega), g_up_n _ _ (by omega), g_up_s]
      rw [g_cnt_same (r := r) _ (fun i hi => by
        by_cases q : i = a
        · subst q; rw [e, h3]; omega
        · rw [es i q (by omega)]), ← h2, e]
      exact (g_wr_n _ (by omega) (by omega) (by omega) (by omega) (by omega) (by omega)).trans (g_r1_n _ (by omega) (by omega) (by omega) (by omega))
    · have e := congrArg Prod.snd e
      simp only at e
      have hA1 := hA.r1 h0
      have q6 : g_r1 r a 6 = r 6 := g_r1_n _ (by omega) (by omega) (by omega) (by omega)
      have hbt := (g_bel_tk (h0.r1 a) hA1 c2).1
      have h3 : (g_goes r a (b + 1)).2 (1043 + 12 * a) = 2 := by
        rw [e]; unfold g_ha
        rw [g_up_n _ _ (by omega), g_up_n _ _ (by omega), g_up_n _ _ (by omega), g_up_s]
      refine ⟨by rw [e]; exact hA1.ha (by omega) (by omega) (by omega) ⟨hbt.1, hbt.2.1⟩, ?_⟩
      rw [g_cnt_more (r := r) (a := a) (by omega) (Or.inl h3) _ (fun i hi hn => es i hn (by omega)) (by omega), ← h2, e]
      unfold g_ha
      rw [g_up_n _ _ (by omega), g_up_n _ _ (by omega), g_up_n _ _ (by omega), g_up_n _ _ (by omega), g_up_s, q6]
  refine ⟨h0.same (g_goes_same hr.1) (by rw [e1]; exact hm) (by rw [e2]; exact h0.month) (by rw [key.2]; have := g_cnt_r (g_goes r a (b + 1)).2 (r 1).toNat; omega), fun i hi => ?_, by rw [e1]; exact key.2⟩
  rw [e1] at hi
  by_cases q : i = a
  · subst q; rw [if_pos (by omega)]; exact key.1
  · have := h1 i hi
    refine (this.ext e0 (fun k k1 k2 => g_goes_n hr.1 (by omega) (by omega) (by omega) (by omega) (by omega) (by omega))).mono ?_
    (repeat' split) <;> omega
