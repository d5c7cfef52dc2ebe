/-! each account goes its own way -/
theorem g_sleep_same {r s : Nat → Int} (hv : g_V0 r) (hs : g_same r s) {a : Nat} {b : Int} (ha : g_VA r a b) (hk : ∀ k, 1039 + 12 * a ≤ k → k ≤ 1050 + 12 * a → s k = r k) {l : Int} (hl : 0 ≤ l ∧ l ≤ 4) : g_sleep s a l = g_sleep r a l := by
  obtain ⟨q, q1, q2, q3⟩ := g_law_q ha.kind hl
  have h9 := hv.laws q q1
  have hc : g_codes s a l = g_codes r a l := by
    unfold g_codes
    rw [hk (1039 + 12 * a) (by omega) (by omega), q3, hs (89 + 2 * q) (by unfold g_rc; omega), hs (89 + 2 * q + 1) (by unfold g_rc; omega)]
    refine g_dec_same hs _ _ _ ?_
    rw [show 89 + 2 * q + 1 = 90 + 2 * q by omega]
    omega
  unfold g_sleep
  rw [hc, hk (1042 + 12 * a) (by omega) (by omega), hk (1044 + 12 * a) (by omega) (by omega), hk (1045 + 12 * a) (by omega) (by omega), hk (1046 + 12 * a) (by omega) (by omega)]
theorem g_goes_ind {r s : Nat → Int} (hv : g_V0 r) {a : Nat} {b nx : Int} (ha12 : a < 12) (ha : g_VA r a b) (hs : g_same r s) (h6r : 0 ≤ r 6) (h6s : 0 ≤ s 6) (hk : ∀ k, 1039 + 12 * a ≤ k → k ≤ 1050 + 12 * a → s k = r k) :
    (g_goes s a nx).1 = (g_goes r a nx).1 ∧ ∀ k, 1039 + 12 * a ≤ k → k ≤ 1050 + 12 * a → (g_goes s a nx).2 k = (g_goes r a nx).2 k := by
  have f3 := ha.kind
  have hint : g_int s a = g_int r a := by
    unfold g_int
    rw [hk (1042 + 12 * a) (by omega) (by omega), hk (1039 + 12 * a) (by omega) (by omega), hs (12 + (r (1039 + 12 * a)).toNat) (by unfold g_rc; omega)]
  have hr1 : ∀ k, 1039 + 12 * a ≤ k → k ≤ 1050 + 12 * a → g_r1 s a k = g_r1 r a k := fun k k1 k2 => by
    by_cases e1 : k = 1042 + 12 * a
    · subst e1; rw [g_r1_c, g_r1_c, hint, hk _ (by omega) (by omega)]
    · by_cases e2 : k = 1044 + 12 * a
      · subst e2; rw [g_r1_a, g_r1_a, hk _ (by omega) (by omega)]
      · by_cases e3 : k = 1045 + 12 * a
        · subst e3; rw [g_r1_s, g_r1_s, hk _ (by omega) (by omega)]
        · rw [g_r1_n _ e1 (by omega) e2 e3, g_r1_n _ e1 (by omega) e2 e3]; exact hk k k1 k2
  have hs1 : g_same (g_r1 r a) (g_r1 s a) := fun k q => (g_r1_same s a k q).trans ((hs k q).trans (g_r1_same r a k q).symm)
  have hv1 := hv.r1 a
  have ha1 := ha.r1 hv
  have hbel : g_bel (g_r1 s a) a = g_bel (g_r1 r a) a := g_bel_same hv1 hs1 ha1 (hr1 _ (by omega) (by omega)) (hr1 _ (by omega) (by omega)) (hr1 _ (by omega) (by omega))
  have hst := hk (1043 + 12 * a) (by omega) (by omega)
  have hla := hk (1048 + 12 * a) (by omega) (by omega)
  unfold g_goes
  rw [hst, hla, hbel, hs 3 (by unfold g_rc; omega)]
  by_cases c1 : r (1043 + 12 * a) = 0 ∨ r (1043 + 12 * a) = 1
  · rw [if_pos c1, if_pos c1]
    by_cases c2 : g_bel (g_r1 r a) a = -1
    · rw [if_pos c2, if_pos c2]; exact ⟨rfl, hr1⟩
    · rw [if_neg c2, if_neg c2]
      have hbt := (g_bel_tk hv1 ha1 c2).1
      obtain ⟨l, hl⟩ : ∃ l : Nat, g_bel (g_r1 r a) a = (l : Int) := ⟨_, (Int.toNat_of_nonneg hbt.1).symm⟩
      rw [hl] at hbt ⊢
      rw [Int.toNat_natCast, hs (31 + 13 * l) (by unfold g_rc; omega), g_sleep_same hv1 hs1 ha1 hr1 ⟨by omega, hbt.2.2⟩, hr1 (1045 + 12 * a) (by omega) (by omega)]
      have h4 : g_r1 s a 4 = g_r1 r a 4 := hs1 4 (by unfold g_rc; omega)
      by_cases c3 : r (1043 + 12 * a) = 0
      · rw [if_pos c3, if_pos c3]
        refine ⟨rfl, fun k k1 k2 => ?_⟩
        dsimp only
        by_cases c4 : g_sleep (g_r1 r a) a (l : Int) ≤ g_r1 r a (1045 + 12 * a)
        · rw [if_pos c4, if_pos c4]
          by_cases e1 : k = 1042 + 12 * a
          · subst e1; rw [g_wr_c, g_wr_c, h4, hr1 _ (by omega) (by omega)]
          · by_cases e2 : k = 1046 + 12 * a
            · subst e2; rw [g_wr_w, g_wr_w, hr1 _ (by omega) (by omega)]
            · by_cases e3 : k = 1043 + 12 * a
              · subst e3; rw [g_wr_t, g_wr_t]
              · by_cases e4 : k = 1048 + 12 * a
                · subst e4; rw [g_wr_l, g_wr_l]
                · rw [g_wr_n _ e1 (by omega) e2 e3 e4 (by omega), g_wr_n _ e1 (by omega) e2 e3 e4 (by omega)]; exact hr1 k k1 k2
        · rw [if_neg c4, if_neg c4]; exact hr1 k k1 k2
      · rw [if_neg c3, if_neg c3]
        by_cases c5 : nx - r (1048 + 12 * a) < r 3 ∨ nx.tmod 12 ≠ r (31 + 13 * l)
        · rw [if_pos c5, if_pos c5]; exact ⟨rfl, hr1⟩
        · rw [if_neg c5, if_neg c5]
          refine ⟨rfl, fun k k1 k2 => ?_⟩
          dsimp only
          have g6r : 0 ≤ g_r1 r a 6 := by rw [g_r1_n _ (by omega) (by omega) (by omega) (by omega)]; exact h6r
          have g6s : 0 ≤ g_r1 s a 6 := by rw [g_r1_n _ (by omega) (by omega) (by omega) (by omega)]; exact h6s
          by_cases e1 : k = 1043 + 12 * a
          · subst e1; rw [g_ha_t, g_ha_t]
          · by_cases e2 : k = 1047 + 12 * a
            · subst e2; rw [g_ha_h, g_ha_h]
            · by_cases e3 : k = 1049 + 12 * a
              · subst e3; rw [g_ha_m, g_ha_m, Int.toNat_natCast, hr1 _ (by omega) (by omega), hs1 (32 + 13 * l) (by unfold g_rc; omega)]
              · by_cases e4 : k = 1050 + 12 * a
                · subst e4; rw [g_ha_d, g_ha_d]
                · rw [g_ha_n _ g6s (by omega) (by omega) e1 e2 e3 e4, g_ha_n _ g6r (by omega) (by omega) e1 e2 e3 e4]; exact hr1 k k1 k2
  · rw [if_neg c1, if_neg c1]; exact ⟨rfl, hk⟩
