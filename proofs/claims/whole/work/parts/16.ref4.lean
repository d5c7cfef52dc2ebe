/-! the reference: sleep -/
theorem mX8_lawAt' {G : q_G} {sz : Nat} {T : q_T} {I L : q_I} {P : q_P} {Q : q_Q} {k l : Int} {j : Nat} (hj : 89 + (2 * ((5 * k) + l)) = (j : Int)) (k0 : Q (.inl (some (qI (j : Int)))) sz T I L P) : qC G 0 0 0 YX8_lawAt [qI k, qI l] sz T I L P Q := mX8_lawAt (by rw [hj]; exact k0)
theorem g_abs {a b B : Int} (hB : 0 ≤ B) (hb : b ≠ 0) : B.tdiv (max b (-b)) < max a (-a) ↔ B < max (a * b) (-(a * b)) := by
  have hy : 0 < max b (-b) := by omega
  rw [Int.tdiv_eq_ediv_of_nonneg hB, Int.ediv_lt_iff_lt_mul hy]
  have e : max a (-a) * max b (-b) = max (a * b) (-(a * b)) := by
    rcases Int.le_total 0 a with ha | ha <;> rcases Int.le_total 0 b with hb1 | hb1
    · have h1 := Int.mul_nonneg ha hb1
      rw [show max a (-a) = a by omega, show max b (-b) = b by omega, show max (a * b) (-(a * b)) = a * b by omega]
    · have h1 := Int.mul_nonpos_of_nonneg_of_nonpos ha hb1
      rw [show max a (-a) = a by omega, show max b (-b) = -b by omega, show max (a * b) (-(a * b)) = -(a * b) by omega, Int.mul_neg]
    · have h1 := Int.mul_nonpos_of_nonpos_of_nonneg ha hb1
      rw [show max a (-a) = -a by omega, show max b (-b) = b by omega, show max (a * b) (-(a * b)) = -(a * b) by omega, Int.neg_mul]
    · have h1 := Int.mul_nonneg_of_nonpos_of_nonpos ha hb1
      rw [show max a (-a) = -a by omega, show max b (-b) = -b by omega, show max (a * b) (-(a * b)) = a * b by omega, Int.neg_mul_neg]
  rw [e]
theorem g_sgn {a b : Int} (ha : a ≠ 0) (hb : b ≠ 0) : (q_b (a < 0) = q_b (b < 0) → 0 < a * b) ∧ (q_b (a < 0) ≠ q_b (b < 0) → a * b < 0) := by
  by_cases h1 : a < 0 <;> by_cases h2 : b < 0 <;> simp only [q_b, h1, h2, if_true, if_false] <;> refine ⟨fun h => ?_, fun h => ?_⟩
  · exact Int.mul_pos_of_neg_of_neg h1 h2
  · omega
  · omega
  · exact Int.mul_neg_of_neg_of_pos h1 (by omega)
  · omega
  · exact Int.mul_neg_of_pos_of_neg (by omega) h2
  · exact Int.mul_pos (by omega) (by omega)
  · omega
theorem g_held_r (v : Int) : -1000000000000 ≤ g_held v ∧ g_held v ≤ 1000000000000 := by unfold g_held; (repeat' split) <;> omega
theorem g_fdiv_r {a b : Int} (ha : -1000000000000 ≤ a ∧ a ≤ 1000000000000) (hb : b ≠ 0) : -1000000000000 ≤ a.fdiv b ∧ a.fdiv b ≤ 1000000000000 := by
  rcases Int.lt_or_gt_of_ne hb with h | h
  · rw [← Int.neg_fdiv_neg, Int.fdiv_eq_ediv_of_nonneg _ (by omega)]
    have h1 : -a / -b * -b ≤ -a := Int.ediv_mul_le _ (by omega)
    have h2 : -a < (-a / -b + 1) * -b := Int.lt_ediv_add_one_mul_self _ (by omega)
    generalize -a / -b = z at h1 h2
    refine ⟨?_, ?_⟩
    · rcases (show z < -1000000000000 ∨ -1000000000000 ≤ z by omega) with q | q
      · have : (z + 1) * -b ≤ (-1000000000000) * 1 := by
          have h3 : (z + 1) * -b ≤ -1000000000000 * -b := Int.mul_le_mul_of_nonneg_right (by omega) (by omega)
          omega
        omega
      · exact q
    · rcases (show 1000000000000 < z ∨ z ≤ 1000000000000 by omega) with q | q
      · have h3 : (1000000000001 : Int) * -b ≤ z * -b := Int.mul_le_mul_of_nonneg_right (by omega) (by omega)
        omega
      · exact q
  · rw [Int.fdiv_eq_ediv_of_nonneg _ (by omega)]
    have h1 : a / b * b ≤ a := Int.ediv_mul_le _ (by omega)
    have h2 : a < (a / b + 1) * b := Int.lt_ediv_add_one_mul_self _ (by omega)
    generalize a / b = z at h1 h2
    refine ⟨?_, ?_⟩
    · rcases (show z < -1000000000000 ∨ -1000000000000 ≤ z by omega) with q | q
      · have h3 : (z + 1) * b ≤ -1000000000000 * b := Int.mul_le_mul_of_nonneg_right (by omega) (by omega)
        omega
      · exact q
    · rcases (show 1000000000000 < z ∨ z ≤ 1000000000000 by omega) with q | q
      · have h3 : (1000000000001 : Int) * b ≤ z * b := Int.mul_le_mul_of_nonneg_right (by omega) (by omega)
        omega
      · exact q
theorem g_fdiv_t {a b : Int} (hb : b ≠ 0) : a.fdiv b = if a.tmod b = 0 then a.tdiv b else if q_b (a < 0) = q_b (b < 0) then a.tdiv b else a.tdiv b - 1 := by
  have h0 := Int.tmod_add_mul_tdiv a b
  have key : ∀ q m : Int, m + b * q = a → (0 < b → 0 ≤ m ∧ m < b) → (b < 0 → b < m ∧ m ≤ 0) → a.fdiv b = q := by
    intro q m h1 h2 h3
    have e : a = m + q * b := by rw [Int.mul_comm] at h1; omega
    rw [e, Int.add_mul_fdiv_right _ _ hb]
    rcases Int.lt_or_gt_of_ne hb with h | h
    · obtain ⟨h4, h5⟩ := h3 h
      rw [← Int.neg_fdiv_neg, Int.fdiv_eq_ediv_of_nonneg _ (by omega), Int.ediv_eq_zero_of_lt (by omega) (by omega)]
      omega
    · obtain ⟨h4, h5⟩ := h2 h
      rw [Int.fdiv_eq_ediv_of_nonneg _ (by omega), Int.ediv_eq_zero_of_lt (by omega) (by omega)]
      omega
  have hm : (0 ≤ a → 0 ≤ a.tmod b) ∧ (a ≤ 0 → a.tmod b ≤ 0) ∧ (a.tmod b < max b (-b)) ∧ (-(max b (-b)) < a.tmod b) := by
    refine ⟨fun h => Int.tmod_nonneg b h, fun h => ?_, ?_, ?_⟩
    · have := Int.tmod_nonneg b (a := -a) (by omega)
      rw [Int.neg_tmod] at this
      omega
    · have h1 := Int.tmod_lt_of_pos a (b := max b (-b)) (by omega)
      rcases Int.le_total 0 b with h | h
      · rw [show max b (-b) = b by omega] at h1 ⊢; exact h1
      · rw [show max b (-b) = -b by omega, Int.tmod_neg] at h1; rw [show max b (-b) = -b by omega]; exact h1
    · have h1 := Int.tmod_lt_of_pos (-a) (b := max b (-b)) (by omega)
      rw [Int.neg_tmod] at h1
      rcases Int.le_total 0 b with h | h
      · rw [show max b (-b) = b by omega] at h1 ⊢; omega
      · rw [show max b (-b) = -b by omega, Int.tmod_neg] at h1; rw [show max b (-b) = -b by omega]; omega
  obtain ⟨m1, m2, m3, m4⟩ := hm
  split
  · rename_i h
    exact key _ (a.tmod b) h0 (fun _ => by omega) (fun _ => by omega)
  · rename_i h
    split
    · rename_i h2
      unfold q_b at h2
      exact key _ (a.tmod b) h0 (fun _ => by (repeat' (split at h2)) <;> omega) (fun _ => by (repeat' (split at h2)) <;> omega)
    · rename_i h2
      unfold q_b at h2
      refine key _ (a.tmod b + b) ?_ (fun _ => by (repeat' (split at h2)) <;> omega) (fun _ => by (repeat' (split at h2)) <;> omega)
      rw [Int.mul_sub]
      omega
set_option maxRecDepth 100000 in
theorem mX8_times {G : q_G} {sz : Nat} {T : q_T} {I L : q_I} {P : q_P} {Q : q_Q} {a : Int} {b : Int}  (ha : -1000000000000 ≤ a ∧ a ≤ 1000000000000) (hb : -1000000000000 ≤ b ∧ b ≤ 1000000000000) (k0 : Q (.inl (some (qL (g_held (a * b))))) sz T I L P) : qC G 1 0 0 YX8_times [qL a, qL b] sz T I L P Q := by
  refine qC_of (by decide +kernel) rfl rfl (Nat.le_of_ble_eq_true rfl) (fun F hF _ _ => ?_)
  refine q_lload_n hF 0 rfl rfl dX8_times_0 ?_
  refine q_lconst hF (z := 0) rfl dX8_times_1 ?_
  refine q_cmpeq hF (by omega) (by decide) dX8_times_2 dX8_times_3 (fun c3 => ?_) (fun c3 => ?_)
  · refine q_lconst hF (z := 0) rfl dX8_times_12 ?_
    refine q_lreturn hF rfl dX8_times_13 ?_
    rw [show (g_held (a * b)) = 0 from by (
            have : a * b = 0 := by rcases (show a = 0 ∨ b = 0 by omega) with h | h <;> simp [h]
            rw [this]; rfl)] at k0; exact k0
  · refine q_lload_n hF 1 rfl rfl dX8_times_6 ?_
    refine q_lconst hF (z := 0) rfl dX8_times_7 ?_
    refine q_cmpne hF (by omega) (by decide) dX8_times_8 dX8_times_9 (fun c9 => ?_) (fun c9 => ?_)
    · have hJ14 : qX G F Q 0 0 26 [(0, qL a), (2, qL b)] [qL (max a (-a))] sz T I L P := by
        refine q_lstore hF (ls' := [(4, qL (max a (-a))), (0, qL a), (2, qL b)]) (by decide) rfl dX8_times_26 ?_
        have hJ28 : qX G F Q 0 0 40 [(4, qL (max a (-a))), (0, qL a), (2, qL b)] [qL (max b (-b))] sz T I L P := by
          refine q_lstore hF (ls' := [(6, qL (max b (-b))), (4, qL (max a (-a))), (0, qL a), (2, qL b)]) (by decide) rfl dX8_times_40 ?_
          have hJ42 : qX G F Q 0 0 53 [(6, qL (max b (-b))), (4, qL (max a (-a))), (0, qL a), (2, qL b)] [qI (q_b (a < 0))] sz T I L P := by
            have hJ53 : qX G F Q 0 0 64 [(6, qL (max b (-b))), (4, qL (max a (-a))), (0, qL a), (2, qL b)] [qI (q_b (b < 0)), qI (q_b (a < 0))] sz T I L P := by
              have hJ64 : qX G F Q 0 0 72 [(6, qL (max b (-b))), (4, qL (max a (-a))), (0, qL a), (2, qL b)] [qI (q_b (q_b (a < 0) ≠ q_b (b < 0)))] sz T I L P := by
                refine q_istore hF (ls' := [(8, qI (q_b (q_b (a < 0) ≠ q_b (b < 0)))), (6, qL (max b (-b))), (4, qL (max a (-a))), (0, qL a), (2, qL b)]) (by decide) rfl dX8_times_72 ?_
                refine q_lload hF 2 rfl dX8_times_74 ?_
                refine q_ldc2 hF (n := 1000000000000) (q_mem 1610 (by decide +kernel) rfl) dX8_times_76 ?_
                refine q_lload hF 1 rfl dX8_times_79 ?_
                refine q_ldiv hF (by decide) (by omega) (by omega) dX8_times_81 ?_
                refine q_cmple hF (by omega) (by have h1 := Int.tdiv_le_self (a := 1000000000000) (b := max b (-b)) (by decide); have h2 := Int.tdiv_nonneg (a := 1000000000000) (b := max b (-b)) (by decide) (by omega); omega) dX8_times_82 dX8_times_83 (fun c83 => ?_) (fun c83 => ?_)
                · refine q_lload_n hF 3 rfl rfl dX8_times_101 ?_
                  refine q_lload_n hF 4 rfl rfl dX8_times_102 ?_
                  refine q_lmul hF dX8_times_103 ?_
                  refine q_callS (kc := 0) (ks := 0) (mc' := 0) (ms' := 0) (h' := 0) (st := []) hF sl_RX8_280 rfl [qL (a * b)] rfl rfl (by decide) (Nat.le_of_ble_eq_true rfl) dX8_times_104 ?_
                  refine mX8_held (by have := mt (g_abs (a := a) (b := b) (B := 1000000000000) (by decide) (by omega)).mpr (by omega); omega) ?_
                  refine q_lreturn hF rfl dX8_times_107 ?_
                  exact k0
                · refine q_iload hF 0 rfl dX8_times_86 ?_
                  refine q_ifeq_b hF dX8_times_88 (fun c88 => ?_) (fun c88 => ?_)
                  · refine q_ldc2 hF (n := 1000000000000) (q_mem 1610 (by decide +kernel) rfl) dX8_times_97 ?_
                    refine q_lreturn hF rfl dX8_times_100 ?_
                    rw [show (g_held (a * b)) = 1000000000000 from by (
                            have ha0 : a ≠ 0 := by omega
                            have hb0 : b ≠ 0 := by omega
                            have h1 := (g_abs (a := a) (b := b) (B := 1000000000000) (by decide) hb0).mp (by assumption)
                            have h2 := g_sgn ha0 hb0
                            unfold g_held
                            (repeat' split) <;> first | rfl | (exfalso; first | (have := h2.1 (by simpa using ‹¬(q_b (a < 0) ≠ q_b (b < 0))›); omega) | (have := h2.2 ‹_›; omega)))] at k0; exact k0
                  · refine q_ldc2 hF (n := -1000000000000) (q_mem 1611 (by decide +kernel) rfl) dX8_times_91 ?_
                    refine q_goto hF dX8_times_94 ?_
                    refine q_lreturn hF rfl dX8_times_100 ?_
                    rw [show (g_held (a * b)) = (-1000000000000) from by (
                            have ha0 : a ≠ 0 := by omega
                            have hb0 : b ≠ 0 := by omega
                            have h1 := (g_abs (a := a) (b := b) (B := 1000000000000) (by decide) hb0).mp (by assumption)
                            have h2 := g_sgn ha0 hb0
                            unfold g_held
                            (repeat' split) <;> first | rfl | (exfalso; first | (have := h2.1 (by simpa using ‹¬(q_b (a < 0) ≠ q_b (b < 0))›); omega) | (have := h2.2 ‹_›; omega)))] at k0; exact k0
              refine q_icmpeq hF (q_b_r _) (q_b_r _) dX8_times_64 (fun c64 => ?_) (fun c64 => ?_)
              · refine q_iconst hF dX8_times_71 ?_
                rw [show (q_b (q_b (a < 0) ≠ q_b (b < 0))) = 0 from by first | exact q_b_t (by assumption) | exact q_b_f (by simp only [ne_eq, Decidable.not_not]; assumption)] at hJ64; exact hJ64
              · refine q_iconst hF dX8_times_67 ?_
                refine q_goto hF dX8_times_68 ?_
                rw [show (q_b (q_b (a < 0) ≠ q_b (b < 0))) = 1 from by first | exact q_b_t (by assumption) | exact q_b_f (by simp only [ne_eq, Decidable.not_not]; assumption)] at hJ64; exact hJ64
            refine q_lload_n hF 3 rfl rfl dX8_times_53 ?_
            refine q_lconst hF (z := 0) rfl dX8_times_54 ?_
            refine q_cmpge hF (by omega) (by decide) dX8_times_55 dX8_times_56 (fun c56 => ?_) (fun c56 => ?_)
            · refine q_iconst hF dX8_times_63 ?_
              rw [show (q_b (b < 0)) = 0 from by first | exact q_b_t (by omega) | exact q_b_f (by omega)] at hJ53; exact hJ53
            · refine q_iconst hF dX8_times_59 ?_
              refine q_goto hF dX8_times_60 ?_
              rw [show (q_b (b < 0)) = 1 from by first | exact q_b_t (by omega) | exact q_b_f (by omega)] at hJ53; exact hJ53
          refine q_lload_n hF 2 rfl rfl dX8_times_42 ?_
          refine q_lconst hF (z := 0) rfl dX8_times_43 ?_
          refine q_cmpge hF (by omega) (by decide) dX8_times_44 dX8_times_45 (fun c45 => ?_) (fun c45 => ?_)
          · refine q_iconst hF dX8_times_52 ?_
            rw [show (q_b (a < 0)) = 0 from by first | exact q_b_t (by omega) | exact q_b_f (by omega)] at hJ42; exact hJ42
          · refine q_iconst hF dX8_times_48 ?_
            refine q_goto hF dX8_times_49 ?_
            rw [show (q_b (a < 0)) = 1 from by first | exact q_b_t (by omega) | exact q_b_f (by omega)] at hJ42; exact hJ42
        refine q_lload_n hF 2 rfl rfl dX8_times_28 ?_
        refine q_lconst hF (z := 0) rfl dX8_times_29 ?_
        refine q_cmpge hF (by omega) (by decide) dX8_times_30 dX8_times_31 (fun c31 => ?_) (fun c31 => ?_)
        · refine q_lload_n hF 2 rfl rfl dX8_times_39 ?_
          rw [show (max b (-b)) = b from by omega] at hJ28; exact hJ28
        · refine q_lload_n hF 2 rfl rfl dX8_times_34 ?_
          refine q_lneg hF dX8_times_35 ?_
          refine q_goto hF dX8_times_36 ?_
          rw [show (max b (-b)) = (-b) from by omega] at hJ28; exact hJ28
      refine q_lload_n hF 0 rfl rfl dX8_times_14 ?_
      refine q_lconst hF (z := 0) rfl dX8_times_15 ?_
      refine q_cmpge hF (by omega) (by decide) dX8_times_16 dX8_times_17 (fun c17 => ?_) (fun c17 => ?_)
      · refine q_lload_n hF 0 rfl rfl dX8_times_25 ?_
        rw [show (max a (-a)) = a from by omega] at hJ14; exact hJ14
      · refine q_lload_n hF 0 rfl rfl dX8_times_20 ?_
        refine q_lneg hF dX8_times_21 ?_
        refine q_goto hF dX8_times_22 ?_
        rw [show (max a (-a)) = (-a) from by omega] at hJ14; exact hJ14
    · refine q_lconst hF (z := 0) rfl dX8_times_12 ?_
      refine q_lreturn hF rfl dX8_times_13 ?_
      rw [show (g_held (a * b)) = 0 from by (
              have : a * b = 0 := by rcases (show a = 0 ∨ b = 0 by omega) with h | h <;> simp [h]
              rw [this]; rfl)] at k0; exact k0
set_option maxRecDepth 100000 in
theorem mX8_floor {G : q_G} {sz : Nat} {T : q_T} {I L : q_I} {P : q_P} {Q : q_Q} {a : Int} {b : Int}  (ha : -1000000000000 ≤ a ∧ a ≤ 1000000000000) (hb : -1000000000000 ≤ b ∧ b ≤ 1000000000000) (k0 : Q (.inl (some (qL (if b = 0 then 0 else a.fdiv b)))) sz T I L P) : qC G 0 0 0 YX8_floor [qL a, qL b] sz T I L P Q := by
  refine qC_of (by decide +kernel) rfl rfl (Nat.le_of_ble_eq_true rfl) (fun F hF _ _ => ?_)
  refine q_lload_n hF 1 rfl rfl dX8_floor_0 ?_
  refine q_lconst hF (z := 0) rfl dX8_floor_1 ?_
  refine q_cmpne hF (by omega) (by decide) dX8_floor_2 dX8_floor_3 (fun c3 => ?_) (fun c3 => ?_)
  · refine q_lload_n hF 0 rfl rfl dX8_floor_8 ?_
    refine q_lload_n hF 1 rfl rfl dX8_floor_9 ?_
    refine q_ldiv hF (by omega) (by omega) (by omega) dX8_floor_10 ?_
    refine q_lstore hF (ls' := [(4, qL (a.tdiv b)), (0, qL a), (2, qL b)]) (by decide) rfl dX8_floor_11 ?_
    refine q_lload_n hF 1 rfl rfl dX8_floor_13 ?_
    refine q_lload_n hF 2 rfl rfl dX8_floor_14 ?_
    refine q_lrem hF (by omega) (by omega) (by omega) dX8_floor_15 ?_
    refine q_lconst hF (z := 0) rfl dX8_floor_16 ?_
    refine q_cmpeq hF (by have h1 := ql_rem (a := a) (b := b) (by omega) (by omega); rw [← ql_toInt (a := a) (by omega), ← ql_toInt (a := b) (by omega), ← Int64.toInt_mod]; have := Int64.le_toInt (Int64.ofInt a % Int64.ofInt b); have := Int64.toInt_lt (Int64.ofInt a % Int64.ofInt b); omega) (by decide) dX8_floor_17 dX8_floor_18 (fun c18 => ?_) (fun c18 => ?_)
    · refine q_lload hF 0 rfl dX8_floor_53 ?_
      refine q_lreturn hF rfl dX8_floor_55 ?_
      rw [show (if b = 0 then 0 else a.fdiv b) = (a.tdiv b) from by rw [if_neg (by omega), g_fdiv_t (by omega)]; first | rw [if_pos (by omega)] | rw [if_neg (by omega), if_pos (by assumption)]] at k0; exact k0
    · have hJ21 : qX G F Q 0 0 32 [(4, qL (a.tdiv b)), (0, qL a), (2, qL b)] [qI (q_b (a < 0))] sz T I L P := by
        have hJ32 : qX G F Q 0 0 43 [(4, qL (a.tdiv b)), (0, qL a), (2, qL b)] [qI (q_b (b < 0)), qI (q_b (a < 0))] sz T I L P := by
          refine q_icmpeq hF (q_b_r _) (q_b_r _) dX8_floor_43 (fun c43 => ?_) (fun c43 => ?_)
          · refine q_lload hF 0 rfl dX8_floor_53 ?_
            refine q_lreturn hF rfl dX8_floor_55 ?_
            rw [show (if b = 0 then 0 else a.fdiv b) = (a.tdiv b) from by rw [if_neg (by omega), g_fdiv_t (by omega)]; first | rw [if_pos (by omega)] | rw [if_neg (by omega), if_pos (by assumption)]] at k0; exact k0
          · refine q_lload hF 0 rfl dX8_floor_46 ?_
            refine q_lconst hF (z := 1) rfl dX8_floor_48 ?_
            refine q_lsub hF dX8_floor_49 ?_
            refine q_goto hF dX8_floor_50 ?_
            refine q_lreturn hF rfl dX8_floor_55 ?_
            rw [show (if b = 0 then 0 else a.fdiv b) = ((a.tdiv b) - 1) from by rw [if_neg (by omega), g_fdiv_t (by omega), if_neg (by omega), if_neg (by assumption)]] at k0; exact k0
        refine q_lload_n hF 2 rfl rfl dX8_floor_32 ?_
        refine q_lconst hF (z := 0) rfl dX8_floor_33 ?_
        refine q_cmpge hF (by omega) (by decide) dX8_floor_34 dX8_floor_35 (fun c35 => ?_) (fun c35 => ?_)
        · refine q_iconst hF dX8_floor_42 ?_
          rw [show (q_b (b < 0)) = 0 from by first | exact q_b_t (by omega) | exact q_b_f (by omega)] at hJ32; exact hJ32
        · refine q_iconst hF dX8_floor_38 ?_
          refine q_goto hF dX8_floor_39 ?_
          rw [show (q_b (b < 0)) = 1 from by first | exact q_b_t (by omega) | exact q_b_f (by omega)] at hJ32; exact hJ32
      refine q_lload_n hF 1 rfl rfl dX8_floor_21 ?_
      refine q_lconst hF (z := 0) rfl dX8_floor_22 ?_
      refine q_cmpge hF (by omega) (by decide) dX8_floor_23 dX8_floor_24 (fun c24 => ?_) (fun c24 => ?_)
      · refine q_iconst hF dX8_floor_31 ?_
        rw [show (q_b (a < 0)) = 0 from by first | exact q_b_t (by omega) | exact q_b_f (by omega)] at hJ21; exact hJ21
      · refine q_iconst hF dX8_floor_27 ?_
        refine q_goto hF dX8_floor_28 ?_
        rw [show (q_b (a < 0)) = 1 from by first | exact q_b_t (by omega) | exact q_b_f (by omega)] at hJ21; exact hJ21
  · refine q_lconst hF (z := 0) rfl dX8_floor_6 ?_
    refine q_lreturn hF rfl dX8_floor_7 ?_
    rw [show (if b = 0 then 0 else a.fdiv b) = 0 from by rw [if_pos (by omega)]] at k0; exact k0
