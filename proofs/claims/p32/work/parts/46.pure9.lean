/-! letters sent: months keep the count -/
theorem g_accs_SL {nx : Int} : ∀ (n a : Nat) {r : Nat → Int}, g_SL r → g_VM r a (nx - 1) → 1 ≤ nx → (a + n : Nat) = r 1 → g_SL (g_accs nx n a r).2
  | 0, _, _, h, _, _, _ => h
  | n + 1, a, r, h, hv, hn, he => by
    have hm := hv.1.many
    have hr := hv.1.rows
    have e1 := g_goes_n (r := r) (a := a) (k := 1) (nx := nx) hr.1 (by omega) (by omega) (by omega) (by omega) (by omega) (by omega)
    have h1 := hv.goes (a := a) (by omega) (by omega)
    rw [show nx - 1 + 1 = nx by omega] at h1
    rw [g_accs_s]
    exact g_accs_SL n (a + 1) (h.goes hr.1 (by omega) hm.2) h1 hn (by rw [e1]; omega)
theorem g_month_SL {r : Nat → Int} (h : g_SL r) (hv : g_VR r) (h2 : r 2 < 6000) : g_SL (g_month r).2 := by
  have hm := hv.1.many
  have hm2 := hv.1.month
  have q := g_accs_SL (nx := r 2 + 1) (r 1).toNat 0 h (by rw [show r 2 + 1 - 1 = r 2 by omega]; exact hv) (by omega) (by omega)
  rw [show (g_month r).2 = g_up (g_accs (r 2 + 1) (r 1).toNat 0 r).2 2 ((g_accs (r 2 + 1) (r 1).toNat 0 r).2 2 + 1) from rfl]
  exact q.ext (g_up_n _ _ (by omega)) (g_up_n _ _ (by omega)) (fun i _ => g_up_n _ _ (by omega))
theorem g_months_SL : ∀ (n : Nat) {r : Nat → Int}, g_SL r → g_Zr r → g_VR r → g_SL (g_months n r).2
  | 0, _, h, _, _ => h
  | n + 1, r, h, hz, hv => by
    rw [g_months_s]
    by_cases h2 : r 2 < 6000
    · rw [if_pos h2]
      have q := g_month_z hz hv h2
      exact g_months_SL n (g_month_SL h hv h2) q.1 q.2
    · rw [if_neg h2]; exact h
/-- the rules are the same after months -/
theorem g_accs_same {nx : Int} : ∀ (n a : Nat) {r : Nat → Int}, g_VM r a (nx - 1) → 1 ≤ nx → (a + n : Nat) = r 1 → g_same r (g_accs nx n a r).2
  | 0, _, r, _, _, _ => g_same.rf r
  | n + 1, a, r, hv, hn, he => by
    have hr := hv.1.rows
    have e1 := g_goes_n (r := r) (a := a) (k := 1) (nx := nx) hr.1 (by omega) (by omega) (by omega) (by omega) (by omega) (by omega)
    have h1 := hv.goes (a := a) (by omega) (by omega)
    rw [show nx - 1 + 1 = nx by omega] at h1
    rw [g_accs_s]
    exact (g_goes_same hr.1).tr (g_accs_same n (a + 1) h1 hn (by rw [e1]; omega))
theorem g_month_same {r : Nat → Int} (hv : g_VR r) : g_same r (g_month r).2 := by
  have hm := hv.1.many
  have hm2 := hv.1.month
  have q := g_accs_same (nx := r 2 + 1) (r 1).toNat 0 (by rw [show r 2 + 1 - 1 = r 2 by omega]; exact hv) (by omega) (by omega)
  rw [show (g_month r).2 = g_up (g_accs (r 2 + 1) (r 1).toNat 0 r).2 2 ((g_accs (r 2 + 1) (r 1).toNat 0 r).2 2 + 1) from rfl]
  exact q.up (by unfold g_rc; omega)
