/-! a new account keeps the rows -/
theorem g_oopen_n {r : Nat → Int} {i : Nat} {kd ad bi ce : Int} {k : Nat} (h1 : k < 1039 + 12 * i ∨ 1050 + 12 * i < k) (h2 : k ≠ 17) (h3 : k ≠ 1) : g_oopen r i kd ad bi ce k = r k := by
  unfold g_oopen
  rw [g_up_n _ _ (by omega), g_up_n _ _ (by omega), g_up_n _ _ (by omega), g_up_n _ _ (by omega), g_up_n _ _ (by omega), g_up_n _ _ (by omega), g_up_n _ _ (by omega), g_up_n _ _ (by omega), g_up_n _ _ (by omega), g_up_n _ _ (by omega), g_up_n _ _ (by omega), g_up_n _ _ (by omega), g_up_n _ _ (by omega), g_up_n _ _ (by omega), g_up_n _ _ (by omega), g_up_n _ _ (by omega), g_up_n _ _ (by omega), g_up_n _ _ (by omega), g_up_n _ _ (by omega), g_up_n _ _ (by omega)]
theorem g_oopen_1039 (r : Nat → Int) (i : Nat) (kd ad bi ce : Int) : g_oopen r i kd ad bi ce (1039 + 12 * i) = kd := by
  unfold g_oopen
  rw [g_up_n _ _ (by omega), g_up_n _ _ (by omega), g_up_n _ _ (by omega), g_up_n _ _ (by omega), g_up_n _ _ (by omega), g_up_n _ _ (by omega), g_up_n _ _ (by omega), g_up_s]
theorem g_oopen_1040 (r : Nat → Int) (i : Nat) (kd ad bi ce : Int) : g_oopen r i kd ad bi ce (1040 + 12 * i) = ad := by
  unfold g_oopen
  rw [g_up_n _ _ (by omega), g_up_n _ _ (by omega), g_up_n _ _ (by omega), g_up_n _ _ (by omega), g_up_n _ _ (by omega), g_up_n _ _ (by omega), g_up_s]
theorem g_oopen_1041 (r : Nat → Int) (i : Nat) (kd ad bi ce : Int) : g_oopen r i kd ad bi ce (1041 + 12 * i) = bi := by
  unfold g_oopen
  rw [g_up_n _ _ (by omega), g_up_n _ _ (by omega), g_up_n _ _ (by omega), g_up_n _ _ (by omega), g_up_n _ _ (by omega), g_up_s]
theorem g_oopen_1042 (r : Nat → Int) (i : Nat) (kd ad bi ce : Int) : g_oopen r i kd ad bi ce (1042 + 12 * i) = ce := by
  unfold g_oopen
  rw [g_up_n _ _ (by omega), g_up_n _ _ (by omega), g_up_n _ _ (by omega), g_up_n _ _ (by omega), g_up_s]
theorem g_oopen_1043 (r : Nat → Int) (i : Nat) (kd ad bi ce : Int) : g_oopen r i kd ad bi ce (1043 + 12 * i) = 0 := by
  unfold g_oopen
  rw [g_up_n _ _ (by omega), g_up_n _ _ (by omega), g_up_n _ _ (by omega), g_up_n _ _ (by omega), g_up_n _ _ (by omega), g_up_n _ _ (by omega), g_up_n _ _ (by omega), g_up_n _ _ (by omega), g_up_n _ _ (by omega), g_up_n _ _ (by omega), g_up_n _ _ (by omega), g_up_n _ _ (by omega), g_up_n _ _ (by omega), g_up_n _ _ (by omega), g_up_n _ _ (by omega), g_up_s]
theorem g_oopen_1044 (r : Nat → Int) (i : Nat) (kd ad bi ce : Int) : g_oopen r i kd ad bi ce (1044 + 12 * i) = 0 := by
  unfold g_oopen
  rw [g_up_n _ _ (by omega), g_up_n _ _ (by omega), g_up_n _ _ (by omega), g_up_n _ _ (by omega), g_up_n _ _ (by omega), g_up_n _ _ (by omega), g_up_n _ _ (by omega), g_up_n _ _ (by omega), g_up_n _ _ (by omega), g_up_n _ _ (by omega), g_up_n _ _ (by omega), g_up_n _ _ (by omega), g_up_n _ _ (by omega), g_up_n _ _ (by omega), g_up_s]
theorem g_oopen_1045 (r : Nat → Int) (i : Nat) (kd ad bi ce : Int) : g_oopen r i kd ad bi ce (1045 + 12 * i) = 0 := by
  unfold g_oopen
  rw [g_up_n _ _ (by omega), g_up_n _ _ (by omega), g_up_n _ _ (by omega), g_up_n _ _ (by omega), g_up_n _ _ (by omega), g_up_n _ _ (by omega), g_up_n _ _ (by omega), g_up_n _ _ (by omega), g_up_n _ _ (by omega), g_up_n _ _ (by omega), g_up_n _ _ (by omega), g_up_n _ _ (by omega), g_up_n _ _ (by omega), g_up_s]
theorem g_oopen_1046 (r : Nat → Int) (i : Nat) (kd ad bi ce : Int) : g_oopen r i kd ad bi ce (1046 + 12 * i) = 0 := by
  unfold g_oopen
  rw [g_up_n _ _ (by omega), g_up_n _ _ (by omega), g_up_n _ _ (by omega), g_up_n _ _ (by omega), g_up_n _ _ (by omega), g_up_n _ _ (by omega), g_up_n _ _ (by omega), g_up_n _ _ (by omega), g_up_n _ _ (by omega), g_up_n _ _ (by omega), g_up_n _ _ (by omega), g_up_n _ _ (by omega), g_up_s]
theorem g_oopen_1047 (r : Nat → Int) (i : Nat) (kd ad bi ce : Int) : g_oopen r i kd ad bi ce (1047 + 12 * i) = -1 := by
  unfold g_oopen
  rw [g_up_n _ _ (by omega), g_up_n _ _ (by omega), g_up_s]
theorem g_oopen_1048 (r : Nat → Int) (i : Nat) (kd ad bi ce : Int) : g_oopen r i kd ad bi ce (1048 + 12 * i) = -1 := by
  unfold g_oopen
  rw [g_up_n _ _ (by omega), g_up_n _ _ (by omega), g_up_n _ _ (by omega), g_up_s]
theorem g_oopen_1049 (r : Nat → Int) (i : Nat) (kd ad bi ce : Int) : g_oopen r i kd ad bi ce (1049 + 12 * i) = 0 := by
  unfold g_oopen
  rw [g_up_n _ _ (by omega), g_up_n _ _ (by omega), g_up_n _ _ (by omega), g_up_n _ _ (by omega), g_up_n _ _ (by omega), g_up_n _ _ (by omega), g_up_n _ _ (by omega), g_up_n _ _ (by omega), g_up_n _ _ (by omega), g_up_s]
theorem g_oopen_1050 (r : Nat → Int) (i : Nat) (kd ad bi ce : Int) : g_oopen r i kd ad bi ce (1050 + 12 * i) = 0 := by
  unfold g_oopen
  rw [g_up_n _ _ (by omega), g_up_n _ _ (by omega), g_up_n _ _ (by omega), g_up_n _ _ (by omega), g_up_n _ _ (by omega), g_up_n _ _ (by omega), g_up_n _ _ (by omega), g_up_n _ _ (by omega), g_up_s]
theorem g_oopen_m (r : Nat → Int) (i : Nat) (kd ad bi ce : Int) : g_oopen r i kd ad bi ce 1 = (i : Int) + 1 := by
  unfold g_oopen
  rw [g_up_s]
theorem g_oopen_b (r : Nat → Int) (i : Nat) (kd ad bi ce : Int) : g_oopen r i kd ad bi ce 17 = r 17 + ce := by
  unfold g_oopen
  rw [g_up_n _ _ (by omega), g_up_s]
theorem g_oopen_VM {r : Nat → Int} {i : Nat} {kd ad bi ce b : Int} (h : g_VM r 0 b) (hb : 0 ≤ b) (hn : r 1 = (i : Int)) (hi : i < 12) (hk : 0 ≤ kd ∧ kd ≤ 4) (ha : ad = -1 ∨ 0 ≤ ad ∧ ad < r 0) (hbi : bi = -1 ∨ 0 ≤ bi ∧ bi < r 0) (hc : 0 ≤ ce ∧ ce ≤ 100000000) : g_VM (g_oopen r i kd ad bi ce) 0 b := by
  obtain ⟨h0, h1, h2⟩ := h
  have hl5 := h0.lands
  have e0 : g_oopen r i kd ad bi ce 0 = r 0 := g_oopen_n (by omega) (by omega) (by omega)
  have e1 := g_oopen_m r i kd ad bi ce
  have e6 : g_oopen r i kd ad bi ce 6 = r 6 := g_oopen_n (by omega) (by omega) (by omega)
  refine ⟨h0.same (fun k q => g_oopen_n (by unfold g_rc at q; omega) (by unfold g_rc at q; omega) (by unfold g_rc at q; omega)) (by rw [e1]; omega) (by rw [g_oopen_n (by omega) (by omega) (by omega)]; exact h0.month) (by rw [e6]; exact h0.rows), fun j hj => ?_, ?_⟩
  · rw [if_neg (Nat.not_lt_zero _)]
    rw [e1] at hj
    by_cases e : j = i
    · subst e
      unfold g_VA
      rw [e0, g_oopen_1039, g_oopen_1040, g_oopen_1041, g_oopen_1042, g_oopen_1043, g_oopen_1044, g_oopen_1045, g_oopen_1046, g_oopen_1047, g_oopen_1048, g_oopen_1049, g_oopen_1050]
      exact ⟨hk, by omega, by omega, hc, by decide, by omega, by omega, by omega, by omega, by omega, by decide, by omega, fun q => absurd q (by decide)⟩
    · have q := h1 j (by omega)
      rw [if_neg (Nat.not_lt_zero _)] at q
      exact q.ext e0 (fun k k1 k2 => g_oopen_n (by omega) (by omega) (by omega))
  · rw [e6, e1, show ((i : Int) + 1).toNat = i + 1 by omega, g_cnt, g_oopen_1043, if_neg (by decide), Int.add_zero, g_cnt_same (r := r) i (fun j hj => by rw [g_oopen_n (by omega) (by omega) (by omega)]), h2, hn, Int.toNat_natCast]
theorem g_oopen_RW {r : Nat → Int} {i : Nat} {kd ad bi ce : Int} (h : g_RW r) (hi : i < 12) : g_RW (g_oopen r i kd ad bi ce) := h.ext (g_oopen_n (by omega) (by omega) (by omega)) (fun k hk => g_oopen_n (by omega) (by omega) (by omega))
theorem g_oopen_Z {r : Nat → Int} {i : Nat} {kd ad bi ce : Int} (h : g_Zr r) (hi : i < 12) : g_Zr (g_oopen r i kd ad bi ce) := fun k hk => by
  rw [g_oopen_n (by omega) (by omega) (by omega)]; exact h k hk
theorem g_oopen_SL {r : Nat → Int} {i : Nat} {kd ad bi ce : Int} (h : g_SL r) (hn : r 1 = (i : Int)) (hi : i < 12) : g_SL (g_oopen r i kd ad bi ce) := by
  unfold g_SL at h ⊢
  rw [g_oopen_m, g_oopen_n (by omega) (by omega) (by omega), show ((i : Int) + 1).toNat = i + 1 by omega, g_sum_s, g_oopen_1046, Int.add_zero, h, hn, Int.toNat_natCast]
  exact g_sum_ext i (fun j hj => (g_oopen_n (by omega) (by omega) (by omega)).symm)
