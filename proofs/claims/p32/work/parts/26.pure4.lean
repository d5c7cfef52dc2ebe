/-! sums, sets, an account's own run -/
def g_sum (f : Nat → Int) : Nat → Int
  | 0 => 0
  | n + 1 => g_sum f n + f n
theorem g_sum_s (f : Nat → Int) (n : Nat) : g_sum f (n + 1) = g_sum f n + f n := rfl
theorem g_sum_ext {f g : Nat → Int} : ∀ n : Nat, (∀ i : Nat, i < n → f i = g i) → g_sum f n = g_sum g n
  | 0, _ => rfl
  | n + 1, h => by
    rw [g_sum_s, g_sum_s, g_sum_ext n (fun i hi => h i (by omega)), h n (by omega)]
theorem g_sum_r {f : Nat → Int} {b : Int} : ∀ n : Nat, (∀ i : Nat, i < n → 0 ≤ f i ∧ f i ≤ b) → 0 ≤ g_sum f n ∧ g_sum f n ≤ n * b
  | 0, _ => by rw [show g_sum f 0 = 0 from rfl]; omega
  | n + 1, h => by
    have h1 := g_sum_r n (fun i hi => h i (by omega))
    have h2 := h n (by omega)
    have h3 : ((n + 1 : Nat) : Int) * b = n * b + b := by rw [Int.natCast_add, Int.add_mul]; simp
    rw [g_sum_s]
    omega
/-- a set of small numbers, as a number -/
def g_set (p : Nat → Prop) [DecidablePred p] (n : Nat) : Int := g_sum (fun k => if p k then ((2 ^ k : Nat) : Int) else 0) n
theorem g_set_n (p : Nat → Prop) [DecidablePred p] : ∀ n : Nat, ∃ s : Nat, s < 2 ^ n ∧ g_set p n = (s : Int)
  | 0 => ⟨0, by decide, rfl⟩
  | n + 1 => by
    obtain ⟨s, h1, h2⟩ := g_set_n p n
    unfold g_set at h2 ⊢
    rw [g_sum_s, h2, Nat.pow_succ]
    by_cases h : p n
    · rw [if_pos h]; exact ⟨s + 2 ^ n, by omega, by omega⟩
    · rw [if_neg h]; exact ⟨s, by omega, by omega⟩
theorem q_or0 (a : Int) : Int32.ofInt a ||| Int32.ofInt 0 = Int32.ofInt a := by
  rw [show Int32.ofInt 0 = 0 from rfl, Int32.or_zero]
theorem q_orN {s k : Nat} (h : s < 2 ^ k) : Int32.ofInt (s : Int) ||| Int32.ofInt ((2 ^ k : Nat) : Int) = Int32.ofInt ((s : Int) + ((2 ^ k : Nat) : Int)) := by
  have h1 := Nat.two_pow_add_eq_or_of_lt h 1
  rw [Nat.mul_one] at h1
  rw [← Int.natCast_add, Nat.add_comm, h1]
  apply Int32.toBitVec_inj.mp
  rw [Int32.toBitVec_or]
  simp only [Int32.toBitVec_ofInt, BitVec.ofInt_natCast]
  rw [BitVec.ofNat_or, BitVec.or_comm]
theorem q_shlN {k : Nat} (h : k < 12) : Int32.ofInt 1 <<< (Int32.ofInt (k : Int) &&& 31) = Int32.ofInt ((2 ^ k : Nat) : Int) := by
  have q : ∀ i : Fin 12, Int32.ofInt 1 <<< (Int32.ofInt ((i.val : Nat) : Int) &&& 31) = Int32.ofInt ((2 ^ i.val : Nat) : Int) := by decide
  exact q ⟨k, h⟩
theorem q_set_s (p : Nat → Prop) [DecidablePred p] (k : Nat) (h : p k) : Int32.ofInt (g_set p k) ||| Int32.ofInt ((2 ^ k : Nat) : Int) = Int32.ofInt (g_set p (k + 1)) := by
  obtain ⟨s, h1, h2⟩ := g_set_n p k
  rw [h2, q_orN h1]
  unfold g_set at h2 ⊢
  rw [g_sum_s, h2, if_pos h]
theorem q_set_n (p : Nat → Prop) [DecidablePred p] (k : Nat) (h : ¬ p k) : Int32.ofInt (g_set p k) ||| Int32.ofInt 0 = Int32.ofInt (g_set p (k + 1)) := by
  rw [q_or0]
  unfold g_set
  rw [g_sum_s, if_neg h, Int.add_zero]
/-- one account alone goes on, from month M, k months on, at most n: when it was handed over, and the row there -/
def g_run (M n : Int) (a : Nat) : Nat → Nat → (Nat → Int) → Int × (Nat → Int)
  | 0, _, r => (-1, r)
  | f + 1, k, r => if (k : Int) ≤ n ∧ M + k ≤ 6000 then (if (g_goes r a (M + k)).1 = 1 then ((k : Int), (g_goes r a (M + k)).2) else g_run M n a f (k + 1) (g_goes r a (M + k)).2) else (-1, r)
theorem g_run_s (M n : Int) (a f k : Nat) (r : Nat → Int) : g_run M n a (f + 1) k r = if (k : Int) ≤ n ∧ M + k ≤ 6000 then (if (g_goes r a (M + k)).1 = 1 then ((k : Int), (g_goes r a (M + k)).2) else g_run M n a f (k + 1) (g_goes r a (M + k)).2) else (-1, r) := rfl
theorem g_VM.up {r : Nat → Int} {a c : Nat} {b : Int} (h : g_VM r a b) (hc : a ≤ c) : g_VM r c b := by
  obtain ⟨h0, h1, h2⟩ := h
  refine ⟨h0, fun i hi => (h1 i hi).mono ?_, h2⟩
  (repeat' split) <;> omega
theorem g_VM.nx {r : Nat → Int} {a : Nat} {b : Int} (h : g_VM r a b) : g_VM r 0 (b + 1) := by
  obtain ⟨h0, h1, h2⟩ := h
  refine ⟨h0, fun i hi => (h1 i hi).mono ?_, h2⟩
  (repeat' split) <;> omega
theorem g_VM.one {r : Nat → Int} {a : Nat} {b : Int} (h : g_VM r 0 b) (ha : (a : Int) < r 1) (hb : 0 ≤ b) : g_VM (g_goes r a (b + 1)).2 0 (b + 1) := ((h.up (Nat.zero_le a)).goes ha hb).nx
theorem g_VM.row {r : Nat → Int} {a n : Nat} {b : Int} (h : g_VM r n b) (ha : (a : Int) < r 1) : (r (1043 + 12 * a) = 0 ∨ r (1043 + 12 * a) = 1) → r 6 < 12 := fun q => by
  have q1 := g_cnt_lt (r := r) (a := a) (by omega) (r 1).toNat (by omega)
  have q2 := h.2.2
  have q3 := h.1.many
  omega
/-- nought behind the end -/
def g_Zr (r : Nat → Int) : Prop := ∀ k, 1243 ≤ k → r k = 0
theorem g_Zr.up {r : Nat → Int} (h : g_Zr r) {k : Nat} {v : Int} (hk : k < 1243) : g_Zr (g_up r k v) := fun j hj => by
  rw [g_up_n _ _ (by omega)]; exact h j hj
theorem g_Zr.goes {r : Nat → Int} (h : g_Zr r) {a : Nat} {nx : Int} (ha : a < 12) (h6 : 0 ≤ r 6) (hr : (r (1043 + 12 * a) = 0 ∨ r (1043 + 12 * a) = 1) → r 6 < 12) : g_Zr (g_goes r a nx).2 := by
  have h1 : g_Zr (g_r1 r a) := by
    unfold g_r1
    exact (((h.up (by omega)).up (by omega)).up (by omega)).up (by omega)
  rcases g_goes_cases r a nx with ⟨-, e⟩ | ⟨-, e⟩ | ⟨-, e⟩ | ⟨c, -, e⟩ <;> rw [e]
  · exact h
  · exact h1
  · show g_Zr (g_wr _ _ _)
    unfold g_wr
    exact (((((h1.up (by omega)).up (by omega)).up (by omega)).up (by omega)).up (by omega)).up (by omega)
  · have h7 := hr (Or.inr c)
    have q6 : g_r1 r a 6 = r 6 := g_r1_n _ (by omega) (by omega) (by omega) (by omega)
    show g_Zr (g_ha _ _ _ _)
    unfold g_ha
    exact (((((((((h1.up (by omega)).up (by omega)).up (by omega)).up (by omega)).up (by omega)).up (by omega)).up (by omega)).up (by omega)).up (by omega)).up (by omega)
theorem g_accs_z {nx : Int} : ∀ (n a : Nat) {r : Nat → Int}, g_Zr r → g_VM r a (nx - 1) → 1 ≤ nx → (a + n : Nat) = r 1 → g_Zr (g_accs nx n a r).2 ∧ g_VM (g_accs nx n a r).2 (a + n) (nx - 1) ∧ (g_accs nx n a r).2 1 = r 1 ∧ (g_accs nx n a r).2 2 = r 2
  | 0, _, _, hz, hv, _, _ => ⟨hz, hv, rfl, rfl⟩
  | n + 1, a, r, hz, hv, hn, he => by
    have hm := hv.1.many
    have hr := hv.1.rows
    have e1 := g_goes_n (r := r) (a := a) (k := 1) (nx := nx) hr.1 (by omega) (by omega) (by omega) (by omega) (by omega) (by omega)
    have e2 := g_goes_n (r := r) (a := a) (k := 2) (nx := nx) hr.1 (by omega) (by omega) (by omega) (by omega) (by omega) (by omega)
    have h1 := hv.goes (a := a) (by omega) (by omega)
    rw [show nx - 1 + 1 = nx by omega] at h1
    have h2 := g_accs_z n (a + 1) (hz.goes (nx := nx) (by omega) hr.1 (hv.row (by omega))) h1 hn (by rw [e1]; omega)
    rw [g_accs_s]
    rw [e1, e2, show a + 1 + n = a + (n + 1) by omega] at h2
    exact h2
theorem g_month_z {r : Nat → Int} (hz : g_Zr r) (hv : g_VR r) (h2 : r 2 < 6000) : g_Zr (g_month r).2 ∧ g_VR (g_month r).2 := by
  have hm := hv.1.many
  have hm2 := hv.1.month
  obtain ⟨q1, q2, q3, q4⟩ := g_accs_z (nx := r 2 + 1) (r 1).toNat 0 hz (by rw [show r 2 + 1 - 1 = r 2 by omega]; exact hv) (by omega) (by omega)
  rw [show r 2 + 1 - 1 = r 2 by omega] at q2
  exact ⟨q1.up (by omega), q2.up2 (by rw [q3]; omega) q4 h2⟩
theorem g_months_z : ∀ (n : Nat) {r : Nat → Int}, g_Zr r → g_VR r → g_Zr (g_months n r).2 ∧ g_VR (g_months n r).2
  | 0, _, hz, hv => ⟨hz, hv⟩
  | n + 1, r, hz, hv => by
    rw [g_months_s]
    by_cases h : r 2 < 6000
    · rw [if_pos h]
      have q := g_month_z hz hv h
      exact g_months_z n q.1 q.2
    · rw [if_neg h]; exact ⟨hz, hv⟩
