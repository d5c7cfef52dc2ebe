/-! a month, seen by one account -/
theorem g_accs_lo {nx : Int} {c : Nat} : ∀ (n a : Nat) {r : Nat → Int}, g_VM r a (nx - 1) → 1 ≤ nx → (a + n : Nat) = r 1 → c < a → ∀ k, 1039 + 12 * c ≤ k → k ≤ 1050 + 12 * c → (g_accs nx n a r).2 k = r k
  | 0, _, _, _, _, _, _, _, _, _ => rfl
  | n + 1, a, r, hv, hn, he, hc, k, k1, k2 => by
    have hm := hv.1.many
    have hr := hv.1.rows
    have e1 := g_goes_n (r := r) (a := a) (k := 1) (nx := nx) hr.1 (by omega) (by omega) (by omega) (by omega) (by omega) (by omega)
    have h1 := hv.goes (a := a) (by omega) (by omega)
    rw [show nx - 1 + 1 = nx by omega] at h1
    rw [g_accs_s]
    exact (g_accs_lo n (a + 1) h1 hn (by rw [e1]; omega) (by omega) k k1 k2).trans (g_goes_n hr.1 (by omega) (by omega) (by omega) (by omega) (by omega) (by omega))
theorem g_accs_at {nx : Int} {c : Nat} : ∀ (n a : Nat) {r : Nat → Int}, g_VM r a (nx - 1) → 1 ≤ nx → (a + n : Nat) = r 1 → a ≤ c → c < a + n → ∀ k, 1039 + 12 * c ≤ k → k ≤ 1050 + 12 * c → (g_accs nx n a r).2 k = (g_goes r c nx).2 k
  | 0, _, _, _, _, _, h1, h2, _, _, _ => absurd h2 (by omega)
  | n + 1, a, r, hv, hn, he, h1, h2, k, k1, k2 => by
    have hm := hv.1.many
    have hr := hv.1.rows
    have e1 := g_goes_n (r := r) (a := a) (k := 1) (nx := nx) hr.1 (by omega) (by omega) (by omega) (by omega) (by omega) (by omega)
    have hv1 := hv.goes (a := a) (by omega) (by omega)
    rw [show nx - 1 + 1 = nx by omega] at hv1
    rw [g_accs_s]
    by_cases e : c = a
    · subst e
      exact g_accs_lo n (c + 1) hv1 hn (by rw [e1]; omega) (by omega) k k1 k2
    · have hA := hv.2.1 c (by omega)
      have q := g_accs_at n (a + 1) hv1 hn (by rw [e1]; omega) (by omega) (by omega) k k1 k2
      have q2 := (g_goes_ind (nx := nx) hv.1 (by omega) hA (g_goes_same (a := a) (nx := nx) hr.1) hr.1 hv1.1.rows.1 (fun k k1 k2 => g_goes_n hr.1 (by omega) (by omega) (by omega) (by omega) (by omega) (by omega))).2 k k1 k2
      exact q.trans q2
/-- a month leaves account c as its own month does -/
theorem g_month_at {r : Nat → Int} (hv : g_VR r) {c : Nat} (hc : (c : Int) < r 1) : ∀ k, 1039 + 12 * c ≤ k → k ≤ 1050 + 12 * c → (g_month r).2 k = (g_goes r c (r 2 + 1)).2 k := fun k k1 k2 => by
  have hm := hv.1.many
  have hm2 := hv.1.month
  rw [show (g_month r).2 = g_up (g_accs (r 2 + 1) (r 1).toNat 0 r).2 2 ((g_accs (r 2 + 1) (r 1).toNat 0 r).2 2 + 1) from rfl, g_up_n _ _ (by omega)]
  exact g_accs_at (nx := r 2 + 1) (r 1).toNat 0 (by rw [show r 2 + 1 - 1 = r 2 by omega]; exact hv) (by omega) (by omega) (Nat.zero_le _) (by omega) k k1 k2
