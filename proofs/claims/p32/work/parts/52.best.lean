/-! the best of some sets -/
noncomputable def g_best (good : Nat → Prop) (val : Nat → Int) : Nat → Option (Nat × Int)
  | 0 => none
  | n + 1 => match g_best good val n with
    | none => @ite _ (good n) (Classical.propDecidable _) (some (n, val n)) none
    | some x => @ite _ (good n ∧ val n < x.2) (Classical.propDecidable _) (some (n, val n)) (some x)
theorem g_best_n {good : Nat → Prop} {val : Nat → Int} {n : Nat} (h : g_best good val n = none) : (good n → g_best good val (n + 1) = some (n, val n)) ∧ (¬ good n → g_best good val (n + 1) = none) := by
  constructor <;> intro hg <;> rw [g_best, h]
  · exact if_pos hg
  · exact if_neg hg
theorem g_best_y {good : Nat → Prop} {val : Nat → Int} {n : Nat} {x : Nat × Int} (h : g_best good val n = some x) : (good n → val n < x.2 → g_best good val (n + 1) = some (n, val n)) ∧ (¬ (good n ∧ val n < x.2) → g_best good val (n + 1) = some x) := by
  constructor
  · intro hg hv; rw [g_best, h]; exact if_pos ⟨hg, hv⟩
  · intro hg; rw [g_best, h]; exact if_neg hg
theorem g_best_ext {good good' : Nat → Prop} {val val' : Nat → Int} : ∀ n : Nat, (∀ i : Nat, i < n → (good i ↔ good' i)) → (∀ i : Nat, i < n → good i → val i = val' i) → g_best good val n = g_best good' val' n
  | 0, _, _ => rfl
  | n + 1, h, hv => by
    have ih := g_best_ext n (fun i hi => h i (by omega)) (fun i hi => hv i (by omega))
    have hn := h n (by omega)
    cases hc : g_best good val n with
    | none =>
      have hc' := ih.symm.trans hc
      by_cases hg : good n
      · rw [(g_best_n hc).1 hg, (g_best_n hc').1 (hn.mp hg), hv n (by omega) hg]
      · rw [(g_best_n hc).2 hg, (g_best_n hc').2 (fun q => hg (hn.mpr q))]
    | some x =>
      have hc' := ih.symm.trans hc
      by_cases hg : good n
      · have e := hv n (by omega) hg
        by_cases hl : val n < x.2
        · rw [(g_best_y hc).1 hg hl, (g_best_y hc').1 (hn.mp hg) (by rw [← e]; exact hl), e]
        · rw [(g_best_y hc).2 (fun q => hl q.2), (g_best_y hc').2 (fun q => hl (by rw [e]; exact q.2))]
      · rw [(g_best_y hc).2 (fun q => hg q.1), (g_best_y hc').2 (fun q => hg (hn.mpr q.1))]
theorem g_best_more {good : Nat → Prop} {val : Nat → Int} {n : Nat} : ∀ k : Nat, (∀ i : Nat, n ≤ i → i < n + k → ¬ good i) → g_best good val (n + k) = g_best good val n
  | 0, _ => rfl
  | k + 1, h => by
    have ih := g_best_more (val := val) k (fun i h1 h2 => h i h1 (by omega))
    have hn := h (n + k) (by omega) (by omega)
    rw [← ih, ← Nat.add_assoc]
    cases hc : g_best good val (n + k) with
    | none => rw [(g_best_n hc).2 hn]
    | some x => rw [(g_best_y hc).2 (fun q => hn q.1)]
theorem g_best_some {good : Nat → Prop} {val : Nat → Int} {i : Nat} (hg : good i) : ∀ n : Nat, i < n → ∃ x, g_best good val n = some x
  | 0, h => absurd h (Nat.not_lt_zero _)
  | n + 1, h => by
    cases hc : g_best good val n with
    | none =>
      by_cases e : i = n
      · subst e; exact ⟨_, (g_best_n hc).1 hg⟩
      · obtain ⟨x, hx⟩ := g_best_some hg n (by omega)
        rw [hx] at hc; cases hc
    | some x =>
      by_cases q : good n ∧ val n < x.2
      · exact ⟨_, (g_best_y hc).1 q.1 q.2⟩
      · exact ⟨_, (g_best_y hc).2 q⟩
theorem g_best_at {good : Nat → Prop} {val : Nat → Int} : ∀ (n : Nat) {x : Nat × Int}, g_best good val n = some x → x.1 < n ∧ good x.1 ∧ x.2 = val x.1
  | 0, _, h => by cases h
  | n + 1, x, h => by
    cases hc : g_best good val n with
    | none =>
      by_cases hg : good n
      · rw [(g_best_n hc).1 hg] at h; cases h; exact ⟨Nat.lt_succ_self _, hg, rfl⟩
      · rw [(g_best_n hc).2 hg] at h; cases h
    | some y =>
      by_cases q : good n ∧ val n < y.2
      · rw [(g_best_y hc).1 q.1 q.2] at h; cases h; exact ⟨Nat.lt_succ_self _, q.1, rfl⟩
      · rw [(g_best_y hc).2 q] at h; cases h
        have := g_best_at n hc
        exact ⟨by omega, this.2⟩
/-! sets of accounts -/
def g_opn2 (r : Nat → Int) (a : Nat) : Prop := r (1043 + 12 * a) = 0 ∨ r (1043 + 12 * a) = 1
def g_lf (r : Nat → Int) (nn a : Nat) : Int := if r (1043 + 12 * a) = 0 ∨ r (1043 + 12 * a) = 1 then g_handed r a nn else 0
def g_rg (r : Nat → Int) (nn a : Nat) : Int := if r (1043 + 12 * a) = 0 ∨ r (1043 + 12 * a) = 1 then g_handed (g_tch r a) a nn else 0
def g_live (r : Nat → Int) (n : Nat) : Int := g_sum (fun a => if r (1043 + 12 * a) = 0 ∨ r (1043 + 12 * a) = 1 then 1 else 0) n
def g_good (r : Nat → Int) (mn : Nat) (d : Int) (s : Nat) : Prop := (∀ i, s.testBit i = true → i < mn ∧ (r (1043 + 12 * i) = 0 ∨ r (1043 + 12 * i) = 1)) ∧ (g_pop s 12 : Int) = d
def g_val (r : Nat → Int) (nn mn s : Nat) : Int := g_sum (fun a => if s.testBit a then g_rg r nn a else g_lf r nn a) mn
noncomputable def g_resc (r : Nat → Int) (k : Int) (nn mn : Nat) : Option (Nat × Int) := g_best (g_good r mn (min k (g_live r mn))) (g_val r nn mn) (2 ^ mn)
theorem g_set_bit (p : Nat → Prop) [DecidablePred p] : ∀ n : Nat, ∃ s : Nat, s < 2 ^ n ∧ g_set p n = (s : Int) ∧ ∀ i, s.testBit i = true ↔ i < n ∧ p i
  | 0 => ⟨0, by decide, rfl, fun i => by simp⟩
  | n + 1 => by
    obtain ⟨s, h1, h2, h3⟩ := g_set_bit p n
    unfold g_set at h2 ⊢
    rw [g_sum_s, h2, Nat.pow_succ]
    by_cases h : p n
    · rw [if_pos h]
      refine ⟨2 ^ n + s, by omega, by omega, fun i => ?_⟩
      by_cases e : i = n
      · subst e
        rw [Nat.testBit_two_pow_add_eq]
        have : s.testBit i = false := Nat.testBit_lt_two_pow h1
        rw [this]
        simp [h]
      · by_cases l : i < n
        · rw [Nat.testBit_two_pow_add_gt l, h3]
          exact ⟨fun q => ⟨by omega, q.2⟩, fun q => ⟨l, q.2⟩⟩
        · have : (2 ^ n + s).testBit i = false := Nat.testBit_lt_two_pow (by
            have : 2 ^ (n + 1) ≤ 2 ^ i := Nat.pow_le_pow_right (by decide) (by omega)
            rw [Nat.pow_succ] at this
            omega)
          rw [this]
          constructor
          · intro q; cases q
          · intro q; exact absurd q.1 (by omega)
    · rw [if_neg h, Int.add_zero]
      refine ⟨s, by omega, rfl, fun i => ?_⟩
      rw [h3]
      constructor
      · intro q; exact ⟨by omega, q.2⟩
      · intro q
        by_cases e : i = n
        · subst e; exact absurd q.2 h
        · exact ⟨by omega, q.2⟩
theorem g_pop_sum (s : Nat) : ∀ n : Nat, (g_pop s n : Int) = g_sum (fun i => if s.testBit i then 1 else 0) n
  | 0 => rfl
  | n + 1 => by
    rw [g_pop_s, g_sum_s, ← g_pop_sum s n]
    split <;> simp
theorem g_pop_hi {s n : Nat} (h : ∀ i, n ≤ i → s.testBit i = false) : ∀ k : Nat, g_pop s (n + k) = g_pop s n
  | 0 => rfl
  | k + 1 => by
    rw [← Nat.add_assoc, g_pop_s, g_pop_hi h k, h (n + k) (by omega)]
    simp
theorem g_live_r (r : Nat → Int) : ∀ n : Nat, 0 ≤ g_live r n ∧ g_live r n ≤ n
  | 0 => by rw [show g_live r 0 = 0 from rfl]; omega
  | n + 1 => by
    have := g_live_r r n
    unfold g_live at this ⊢
    rw [g_sum_s]
    split <;> omega
theorem g_live_s (r : Nat → Int) (n : Nat) : g_live r (n + 1) = g_live r n + (if r (1043 + 12 * n) = 0 ∨ r (1043 + 12 * n) = 1 then 1 else 0) := rfl
theorem g_first {r : Nat → Int} {d : Int} (hd : 0 ≤ d) : ∀ n : Nat, g_sum (fun i => if (r (1043 + 12 * i) = 0 ∨ r (1043 + 12 * i) = 1) ∧ g_live r i < d then 1 else 0) n = min d (g_live r n)
  | 0 => by rw [show g_live r 0 = 0 from rfl]; show (0 : Int) = _; omega
  | n + 1 => by
    rw [g_sum_s, g_first hd n, g_live_s]
    by_cases h : r (1043 + 12 * n) = 0 ∨ r (1043 + 12 * n) = 1
    · rw [if_pos h]
      by_cases q : g_live r n < d
      · rw [if_pos ⟨h, q⟩]; omega
      · rw [if_neg (fun x => q x.2)]; omega
    · rw [if_neg h, if_neg (fun x => h x.1)]; omega
/-- there is a set of the size that is asked -/
theorem g_good_ex {r : Nat → Int} {mn : Nat} {k : Int} (hk : 0 ≤ k) (hm : mn ≤ 12) : ∃ s : Nat, s < 2 ^ mn ∧ g_good r mn (min k (g_live r mn)) s := by
  have hl := g_live_r r mn
  obtain ⟨s, h1, h2, h3⟩ := g_set_bit (fun i => (r (1043 + 12 * i) = 0 ∨ r (1043 + 12 * i) = 1) ∧ g_live r i < min k (g_live r mn)) mn
  refine ⟨s, h1, fun i hi => ?_, ?_⟩
  · have := (h3 i).mp hi; exact ⟨this.1, this.2.1⟩
  · have hz : ∀ i, mn ≤ i → s.testBit i = false := fun i hi => Nat.testBit_lt_two_pow (Nat.lt_of_lt_of_le h1 (Nat.pow_le_pow_right (by decide) hi))
    have e := g_pop_hi hz (12 - mn)
    rw [show mn + (12 - mn) = 12 by omega] at e
    rw [e, g_pop_sum]
    have q := g_first (r := r) (d := min k (g_live r mn)) (by omega) mn
    rw [show min (min k (g_live r mn)) (g_live r mn) = min k (g_live r mn) by omega] at q
    rw [← q]
    refine g_sum_ext _ (fun i hi => ?_)
    by_cases c : s.testBit i = true
    · rw [if_pos c, if_pos ((h3 i).mp c).2]
    · rw [if_neg c, if_neg (fun x => c ((h3 i).mpr ⟨hi, x⟩))]
theorem g_resc_some {r : Nat → Int} {k : Int} {nn mn : Nat} (hk : 0 ≤ k) (hm : mn ≤ 12) : ∃ x, g_resc r k nn mn = some x := by
  obtain ⟨s, h1, h2⟩ := g_good_ex (r := r) (mn := mn) hk hm
  exact g_best_some h2 _ h1
