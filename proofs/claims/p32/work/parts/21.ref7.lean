/-! the reference: months go -/
theorem g_accs_s (nx : Int) (n a : Nat) (r : Nat → Int) : g_accs nx (n + 1) a r = ((g_goes r a nx).1 + (g_accs nx n (a + 1) (g_goes r a nx).2).1, (g_accs nx n (a + 1) (g_goes r a nx).2).2) := rfl
theorem g_months_s (n : Nat) (r : Nat → Int) : g_months (n + 1) r = if r 2 < 6000 then ((g_month r).1 + (g_months n (g_month r).2).1, (g_months n (g_month r).2).2) else (0, r) := rfl
/-- a row that stands -/
def g_VR (r : Nat → Int) : Prop := g_VM r 0 (r 2)
theorem g_VM.up2 {r : Nat → Int} {n : Nat} {b : Int} (h : g_VM r n b) (hn : (n : Int) = r 1) (h2 : r 2 = b) (hb : b < 6000) : g_VR (g_up r 2 (r 2 + 1)) := by
  obtain ⟨h0, h1, h3⟩ := h
  have hm := h0.month
  have e1 : g_up r 2 (r 2 + 1) 1 = r 1 := g_up_n _ _ (by omega)
  have e2 : g_up r 2 (r 2 + 1) 2 = r 2 + 1 := g_up_s _ _ _
  have e6 : g_up r 2 (r 2 + 1) 6 = r 6 := g_up_n _ _ (by omega)
  refine ⟨h0.same ((g_same.rf r).up (by unfold g_rc; omega)) (by rw [e1]; exact h0.many) (by omega) (by rw [e6]; exact h0.rows), fun i hi => ?_, ?_⟩
  · rw [e1] at hi
    have h4 := h1 i hi
    rw [if_pos (by omega)] at h4
    rw [if_neg (by omega), e2, h2]
    exact h4.ext (g_up_n _ _ (by omega)) (fun k k1 k2 => g_up_n _ _ (by omega))
  · rw [e6, e1, g_cnt_same (r := r) _ (fun i hi => by rw [g_up_n _ _ (by omega)])]
    exact h3