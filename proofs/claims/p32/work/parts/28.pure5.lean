/-! the list of what was handed over -/
def g_RW (r : Nat → Int) : Prop := ∀ k : Nat, (k : Int) < r 6 → (0 ≤ r (1183 + 5 * k) ∧ r (1183 + 5 * k) ≤ 7000) ∧ (0 ≤ r (1184 + 5 * k) ∧ r (1184 + 5 * k) ≤ 11) ∧ (0 ≤ r (1185 + 5 * k) ∧ r (1185 + 5 * k) ≤ 4) ∧ (0 ≤ r (1186 + 5 * k) ∧ r (1186 + 5 * k) ≤ 100000000) ∧ (0 ≤ r (1187 + 5 * k) ∧ r (1187 + 5 * k) ≤ 1)
theorem g_RW.ext {r x : Nat → Int} (h : g_RW r) (h6 : x 6 = r 6) (hk : ∀ k, 1183 ≤ k → x k = r k) : g_RW x := fun k hk6 => by
  rw [h6] at hk6
  rw [hk (1183 + 5 * k) (by omega), hk (1184 + 5 * k) (by omega), hk (1185 + 5 * k) (by omega), hk (1186 + 5 * k) (by omega), hk (1187 + 5 * k) (by omega)]
  exact h k hk6
theorem g_RW.ha {r : Nat → Int} (h : g_RW r) {a : Nat} {l nx : Int} (ha : a < 12) (hl : 0 ≤ l ∧ l ≤ 4) (hn : 0 ≤ nx ∧ nx ≤ 7000) (hc : 0 ≤ r (1042 + 12 * a) ∧ r (1042 + 12 * a) ≤ 100000000) (h6 : 0 ≤ r 6 ∧ r 6 < 12) : g_RW (g_ha r a l nx) := by
  obtain ⟨j, hj⟩ : ∃ j : Nat, r 6 = (j : Int) := ⟨(r 6).toNat, by omega⟩
  have e : (1183 + 5 * (j : Int)).toNat = 1183 + 5 * j := by omega
  have e6 : g_ha r a l nx 6 = r 6 + 1 := by
    unfold g_ha
    rw [g_up_n _ _ (by omega), g_up_n _ _ (by omega), g_up_n _ _ (by omega), g_up_n _ _ (by omega), g_up_s]
  intro k hk
  rw [e6, hj] at hk
  have n : ∀ i, 1183 ≤ i → i < 1183 + 5 * j ∨ 1187 + 5 * j < i → g_ha r a l nx i = r i := fun i h1 h2 => by
    unfold g_ha
    simp only [hj, e]
    rw [g_up_n _ _ (by omega), g_up_n _ _ (by omega), g_up_n _ _ (by omega), g_up_n _ _ (by omega), g_up_n _ _ (by omega), g_up_n _ _ (by omega), g_up_n _ _ (by omega), g_up_n _ _ (by omega), g_up_n _ _ (by omega), g_up_n _ _ (by omega)]
  by_cases q : k = j
  · subst q
    have e0 : g_ha r a l nx (1183 + 5 * k) = nx := by
      unfold g_ha; simp only [hj, e]
      rw [g_up_n _ _ (by omega), g_up_n _ _ (by omega), g_up_n _ _ (by omega), g_up_n _ _ (by omega), g_up_n _ _ (by omega), g_up_n _ _ (by omega), g_up_n _ _ (by omega), g_up_n _ _ (by omega), g_up_n _ _ (by omega), g_up_s]
    have e1 : g_ha r a l nx (1184 + 5 * k) = (a : Int) := by
      unfold g_ha; simp only [hj, e]
      rw [g_up_n _ _ (by omega), g_up_n _ _ (by omega), g_up_n _ _ (by omega), g_up_n _ _ (by omega), g_up_n _ _ (by omega), g_up_n _ _ (by omega), g_up_n _ _ (by omega), g_up_n _ _ (by omega), show 1184 + 5 * k = 1183 + 5 * k + 1 by omega, g_up_s]
    have e2 : g_ha r a l nx (1185 + 5 * k) = l := by
      unfold g_ha; simp only [hj, e]
      rw [g_up_n _ _ (by omega), g_up_n _ _ (by omega), g_up_n _ _ (by omega), g_up_n _ _ (by omega), g_up_n _ _ (by omega), g_up_n _ _ (by omega), g_up_n _ _ (by omega), show 1185 + 5 * k = 1183 + 5 * k + 2 by omega, g_up_s]
    have e3 : g_ha r a l nx (1186 + 5 * k) = r (1042 + 12 * a) := by
      unfold g_ha; simp only [hj, e]
      rw [g_up_n _ _ (by omega), g_up_n _ _ (by omega), g_up_n _ _ (by omega), g_up_n _ _ (by omega), g_up_n _ _ (by omega), g_up_n _ _ (by omega), show 1186 + 5 * k = 1183 + 5 * k + 3 by omega, g_up_s]
    have e4 : 0 ≤ g_ha r a l nx (1187 + 5 * k) ∧ g_ha r a l nx (1187 + 5 * k) ≤ 1 := by
      unfold g_ha; simp only [hj, e]
      rw [g_up_n _ _ (by omega), g_up_n _ _ (by omega), g_up_n _ _ (by omega), g_up_n _ _ (by omega), g_up_n _ _ (by omega), show 1187 + 5 * k = 1183 + 5 * k + 4 by omega, g_up_s]
      split <;> decide
    rw [e0, e1, e2, e3]
    exact ⟨hn, by omega, hl, hc, e4⟩
  · rw [n (1183 + 5 * k) (by omega) (by omega), n (1184 + 5 * k) (by omega) (by omega), n (1185 + 5 * k) (by omega) (by omega), n (1186 + 5 * k) (by omega) (by omega), n (1187 + 5 * k) (by omega) (by omega)]
    exact h k (by omega)
theorem g_RW.r1 {r : Nat → Int} (h : g_RW r) {a : Nat} (ha : a < 12) : g_RW (g_r1 r a) := h.ext (g_r1_n _ (by omega) (by omega) (by omega) (by omega)) (fun k hk => g_r1_n _ (by omega) (by omega) (by omega) (by omega))
theorem g_RW.goes {r : Nat → Int} (h : g_RW r) {a n : Nat} {b : Int} (hv : g_VM r n b) (ha : (a : Int) < r 1) (hn : n ≤ a) (hb : 0 ≤ b ∧ b < 6999) : g_RW (g_goes r a (b + 1)).2 := by
  have hm := hv.1.many
  have hr := hv.1.rows
  have hA := hv.2.1 a ha
  rw [if_neg (by omega)] at hA
  have hw := hv.row ha
  rcases g_goes_cases r a (b + 1) with ⟨-, e⟩ | ⟨-, e⟩ | ⟨-, e⟩ | ⟨c, c2, e⟩ <;> rw [e]
  · exact h
  · exact h.r1 (by omega)
  · show g_RW (g_wr _ _ _)
    exact (h.r1 (a := a) (by omega)).ext (g_wr_n _ (by omega) (by omega) (by omega) (by omega) (by omega) (by omega)) (fun k hk => g_wr_n _ (by omega) (by omega) (by omega) (by omega) (by omega) (by omega))
  · have h7 := hw (Or.inr c)
    have q6 : g_r1 r a 6 = r 6 := g_r1_n _ (by omega) (by omega) (by omega) (by omega)
    have hA1 := hA.r1 hv.1
    have hbt := (g_bel_tk (hv.1.r1 a) hA1 c2).1
    exact (h.r1 (a := a) (by omega)).ha (by omega) ⟨hbt.1, hbt.2.2⟩ (by omega) hA1.cents (by omega)
theorem g_accs_rw {nx : Int} : ∀ (n a : Nat) {r : Nat → Int}, g_RW r → g_VM r a (nx - 1) → 1 ≤ nx → nx ≤ 6999 → (a + n : Nat) = r 1 → g_RW (g_accs nx n a r).2
  | 0, _, _, h, _, _, _, _ => h
  | n + 1, a, r, h, hv, hn, hn2, he => by
    have hr := hv.1.rows
    have e1 := g_goes_n (r := r) (a := a) (k := 1) (nx := nx) hr.1 (by omega) (by omega) (by omega) (by omega) (by omega) (by omega)
    have h1 := hv.goes (a := a) (by omega) (by omega)
    have h3 := h.goes (a := a) hv (by omega) (Nat.le_refl _) (by omega)
    rw [show nx - 1 + 1 = nx by omega] at h1 h3
    rw [g_accs_s]
    exact g_accs_rw n (a + 1) h3 h1 hn hn2 (by rw [e1]; omega)
theorem g_month_rw {r : Nat → Int} (h : g_RW r) (hv : g_VR r) (h2 : r 2 < 6000) : g_RW (g_month r).2 := by
  have hm := hv.1.many
  have hm2 := hv.1.month
  have q := g_accs_rw (nx := r 2 + 1) (r 1).toNat 0 h (by rw [show r 2 + 1 - 1 = r 2 by omega]; exact hv) (by omega) (by omega) (by omega)
  rw [show (g_month r).2 = g_up (g_accs (r 2 + 1) (r 1).toNat 0 r).2 2 ((g_accs (r 2 + 1) (r 1).toNat 0 r).2 2 + 1) from rfl]
  exact q.ext (g_up_n _ _ (by omega)) (fun k hk => g_up_n _ _ (by omega))
theorem g_months_rw : ∀ (n : Nat) {r : Nat → Int}, g_RW r → g_Zr r → g_VR r → g_RW (g_months n r).2
  | 0, _, h, _, _ => h
  | n + 1, r, h, hz, hv => by
    rw [g_months_s]
    by_cases h2 : r 2 < 6000
    · rw [if_pos h2]
      have q := g_month_z hz hv h2
      exact g_months_rw n (g_month_rw h hv h2) q.1 q.2
    · rw [if_neg h2]; exact h
theorem g_months_hd : ∀ (n : Nat) {r : Nat → Int}, g_Zr r → g_VR r → (g_months n r).2 1 = r 1
  | 0, _, _, _ => rfl
  | n + 1, r, hz, hv => by
    rw [g_months_s]
    by_cases h2 : r 2 < 6000
    · rw [if_pos h2]
      have q := g_month_z hz hv h2
      have hm := hv.1.many
      have hm2 := hv.1.month
      have q3 := (g_accs_z (nx := r 2 + 1) (r 1).toNat 0 hz (by rw [show r 2 + 1 - 1 = r 2 by omega]; exact hv) (by omega) (by omega)).2.2.1
      have q4 : (g_month r).2 1 = r 1 := by
        rw [show (g_month r).2 = g_up (g_accs (r 2 + 1) (r 1).toNat 0 r).2 2 ((g_accs (r 2 + 1) (r 1).toNat 0 r).2 2 + 1) from rfl, g_up_n _ _ (by omega)]; exact q3
      exact (g_months_hd n q.1 q.2).trans q4
    · rw [if_neg h2]
theorem q_Z0.row {L L' : q_I} {m : Nat} (hz : q_Z0 L m) (h : ∀ q k, q ≠ m + 5 → q ≠ m + 15 → L' q k = L q k) (hr : g_Zr (L' (m + 5))) : q_Z0 L' m := fun q k a b c => by
  by_cases e : q = m + 5
  · subst e; exact hr k c
  · rw [h q k e (by omega)]; exact hz q k a b c
theorem q_Z0.zr {L : q_I} {m : Nat} (hz : q_Z0 L m) {q : Nat} (h1 : m + 3 ≤ q) (h2 : q < m + 15) : g_Zr (L q) := fun k hk => hz q k h1 h2 hk
