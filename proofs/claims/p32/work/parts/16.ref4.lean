/-! the reference: sleep -/
theorem g_abs {a b B : Int} (hB : 0 ≤ B) (hb : b ≠ 0) : B.tdiv (max b (-b)) < max a (-a) ↔ B < max (a * b) (-(a * b)) := by
  have hy : 0 < max b (-b) := by omega
  rw [Int.tdiv_eq_ediv_of_nonneg hB, Int.ediv_lt_iff_lt_mul hy]
  have e : max a (-a) * max b (-b) = max (a * b) (-(a * b)) := by
    rcases Int.le_total 0 a with ha | ha <;> rcases Int.le_total 0 b with hb1 | hb1
    · have h1 := Int.mul_nonneg ha hb1
      rw [show max a (-a) = a by omega, show max b (-b) = b by omega, show max (a * b) (-(a * b)) = a * b by omega]
    · have h1 := Int.mul_nonpos_of_nonneg_of_nonpos ha hb1
      rw [show max a (-a) = a by omega, show max b (-b) = -b by omega, show max (a * b) (-(a * b)) = -(a * b) by omega, Int.mul_neg]
    · have h1 := Int.mul_nonpos_of_nonpos_of_nonneg ha hb1
      rw [show max a (-a) = -a by omega, show max b (-b) = b by omega, show max (a * b) (-(a * b)) = -(a * b) by omega, Int.neg_mul]
    · have h1 := Int.mul_nonneg_of_nonpos_of_nonpos ha hb1
      rw [show max a (-a) = -a by omega, show max b (-b) = -b by omega, show max (a * b) (-(a * b)) = a * b by omega, Int.neg_mul_neg]
  rw [e]
theorem g_sgn {a b : Int} (ha : a ≠ 0) (hb : b ≠ 0) : (q_b (a < 0) = q_b (b < 0) → 0 < a * b) ∧ (q_b (a < 0) ≠ q_b (b < 0) → a * b < 0) := by
  by_cases h1 : a < 0 <;> by_cases h2 : b < 0 <;> simp only [q_b, h1, h2, if_true, if_false] <;> refine ⟨fun h => ?_, fun h => ?_⟩
  · exact Int.mul_pos_of_neg_of_neg h1 h2
  · omega
  · omega
  · exact Int.mul_neg_of_neg_of_pos h1 (by omega)
  · omega
  · exact Int.mul_neg_of_pos_of_neg (by omega) h2
  · exact Int.mul_pos (by omega) (by omega)
  · omega
theorem g_held_r (v : Int) : -1000000000000 ≤ g_held v ∧ g_held v ≤ 1000000000000 := by unfold g_held; (repeat' split) <;> omega
theorem g_fdiv_r {a b : Int} (ha : -1000000000000 ≤ a ∧ a ≤ 1000000000000) (hb : b ≠ 0) : -1000000000000 ≤ a.fdiv b ∧ a.fdiv b ≤ 1000000000000 := by
  rcases Int.lt_or_gt_of_ne hb with h | h
  · rw [← Int.neg_fdiv_neg, Int.fdiv_eq_ediv_of_nonneg _ (by omega)]
    have h1 : -a / -b * -b ≤ -a := Int.ediv_mul_le _ (by omega)
    have h2 : -a < (-a / -b + 1) * -b := Int.lt_ediv_add_one_mul_self _ (by omega)
    generalize -a / -b = z at h1 h2
    refine ⟨?_, ?_⟩
    · rcases (show z < -1000000000000 ∨ -1000000000000 ≤ z by omega) with q | q
      · have : (z + 1) * -b ≤ (-1000000000000) * 1 := by
          have h3 : (z + 1) * -b ≤ -1000000000000 * -b := Int.mul_le_mul_of_nonneg_right (by omega) (by omega)
          omega
        omega
      · exact q
    · rcases (show 1000000000000 < z ∨ z ≤ 1000000000000 by omega) with q | q
      · have h3 : (1000000000001 : Int) * -b ≤ z * -b := Int.mul_le_mul_of_nonneg_right (by omega) (by omega)
        omega
      · exact q
  · rw [Int.fdiv_eq_ediv_of_nonneg _ (by omega)]
    have h1 : a / b * b ≤ a := Int.ediv_mul_le _ (by omega)
    have h2 : a < (a / b + 1) * b := Int.lt_ediv_add_one_mul_self _ (by omega)
    generalize a / b = z at h1 h2
    refine ⟨?_, ?_⟩
    · rcases (show z < -1000000000000 ∨ -1000000000000 ≤ z by omega) with q | q
      · have h3 : (z + 1) * b ≤ -1000000000000 * b := Int.mul_le_mul_of_nonneg_right (by omega) (by omega)
        omega
      · exact q
    · rcases (show 1000000000000 < z ∨ z ≤ 1000000000000 by omega) with q | q
      · have h3 : (1000000000001 : Int) * b ≤ z * b := Int.mul_le_mul_of_nonneg_right (by omega) (by omega)
        omega
      · exact q
theorem g_fdiv_t {a b : Int} (hb : b ≠ 0) : a.fdiv b = if a.tmod b = 0 then a.tdiv b else if q_b (a < 0) = q_b (b < 0) then a.tdiv b else a.tdiv b - 1 := by
  have h0 := Int.tmod_add_mul_tdiv a b
  have key : ∀ q m : Int, m + b * q = a → (0 < b → 0 ≤ m ∧ m < b) → (b < 0 → b < m ∧ m ≤ 0) → a.fdiv b = q := by
    intro q m h1 h2 h3
    have e : a = m + q * b := by rw [Int.mul_comm] at h1; omega
    rw [e, Int.add_mul_fdiv_right _ _ hb]
    rcases Int.lt_or_gt_of_ne hb with h | h
    · obtain ⟨h4, h5⟩ := h3 h
      rw [← Int.neg_fdiv_neg, Int.fdiv_eq_ediv_of_nonneg _ (by omega), Int.ediv_eq_zero_of_lt (by omega) (by omega)]
      omega
    · obtain ⟨h4, h5⟩ := h2 h
      rw [Int.fdiv_eq_ediv_of_nonneg _ (by omega), Int.ediv_eq_zero_of_lt (by omega) (by omega)]
      omega
  have hm : (0 ≤ a → 0 ≤ a.tmod b) ∧ (a ≤ 0 → a.tmod b ≤ 0) ∧ (a.tmod b < max b (-b)) ∧ (-(max b (-b)) < a.tmod b) := by
    refine ⟨fun h => Int.tmod_nonneg b h, fun h => ?_, ?_, ?_⟩
    · have := Int.tmod_nonneg b (a := -a) (by omega)
      rw [Int.neg_tmod] at this
      omega
    · have h1 := Int.tmod_lt_of_pos a (b := max b (-b)) (by omega)
      rcases Int.le_total 0 b with h | h
      · rw [show max b (-b) = b by omega] at h1 ⊢; exact h1
      · rw [show max b (-b) = -b by omega, Int.tmod_neg] at h1; rw [show max b (-b) = -b by omega]; exact h1
    · have h1 := Int.tmod_lt_of_pos (-a) (b := max b (-b)) (by omega)
      rw [Int.neg_tmod] at h1
      rcases Int.le_total 0 b with h | h
      · rw [show max b (-b) = b by omega] at h1 ⊢; omega
      · rw [show max b (-b) = -b by omega, Int.tmod_neg] at h1; rw [show max b (-b) = -b by omega]; omega
  obtain ⟨m1, m2, m3, m4⟩ := hm
  split
  · rename_i h
    exact key _ (a.tmod b) h0 (fun _ => by omega) (fun _ => by omega)
  · rename_i h
    split
    · rename_i h2
      unfold q_b at h2
      exact key _ (a.tmod b) h0 (fun _ => by (repeat' (split at h2)) <;> omega) (fun _ => by (repeat' (split at h2)) <;> omega)
    · rename_i h2
      unfold q_b at h2
      refine key _ (a.tmod b + b) ?_ (fun _ => by (repeat' (split at h2)) <;> omega) (fun _ => by (repeat' (split at h2)) <;> omega)
      rw [Int.mul_sub]
      omega