/-! the reference: what comes -/
def g_handed (r : Nat → Int) (i nn : Nat) : Int := if (g_run (r 2) (nn : Int) i nn 1 r).1 = -1 then 0 else (g_run (r 2) (nn : Int) i nn 1 r).2 (1042 + 12 * i)
def g_tch (r : Nat → Int) (i : Nat) : Nat → Int := g_up (g_up r (1045 + 12 * i) 0) (1043 + 12 * i) 0
theorem g_VM.tch {r : Nat → Int} {b : Int} (h : g_VM r 0 b) {i : Nat} (hi : (i : Int) < r 1) (ho : r (1043 + 12 * i) = 0 ∨ r (1043 + 12 * i) = 1) : g_VM (g_tch r i) 0 b := by
  obtain ⟨h0, h1, h2⟩ := h
  have hm := h0.many
  have n : ∀ k, k ≠ 1045 + 12 * i → k ≠ 1043 + 12 * i → g_tch r i k = r k := fun k a b => by
    unfold g_tch; rw [g_up_n _ _ b, g_up_n _ _ a]
  have e1 : g_tch r i (1045 + 12 * i) = 0 := by unfold g_tch; rw [g_up_n _ _ (by omega), g_up_s]
  have e2 : g_tch r i (1043 + 12 * i) = 0 := by unfold g_tch; rw [g_up_s]
  refine ⟨h0.same (fun k hk => n k (by unfold g_rc at hk; omega) (by unfold g_rc at hk; omega)) (by rw [n 1 (by omega) (by omega)]; exact hm) (by rw [n 2 (by omega) (by omega)]; exact h0.month) (by rw [n 6 (by omega) (by omega)]; exact h0.rows), fun a ha => ?_, ?_⟩
  · rw [n 1 (by omega) (by omega)] at ha
    have q := h1 a ha
    by_cases e : a = i
    · subst e
      have f1 := q.age
      have f2 := q.since
      unfold g_VA
      rw [e1, e2, n 0 (by omega) (by omega), n (1039 + 12 * a) (by omega) (by omega), n (1040 + 12 * a) (by omega) (by omega), n (1041 + 12 * a) (by omega) (by omega), n (1042 + 12 * a) (by omega) (by omega), n (1044 + 12 * a) (by omega) (by omega), n (1046 + 12 * a) (by omega) (by omega), n (1047 + 12 * a) (by omega) (by omega), n (1048 + 12 * a) (by omega) (by omega), n (1049 + 12 * a) (by omega) (by omega), n (1050 + 12 * a) (by omega) (by omega)]
      exact ⟨q.kind, q.addr, q.birth, q.cents, by omega, q.age, by omega, q.wrote, q.holder, q.lat, q.nl, q.hat, fun h => absurd h (by decide)⟩
    · exact q.ext (n 0 (by omega) (by omega)) (fun k k1 k2 => n k (by omega) (by omega))
  · rw [n 6 (by omega) (by omega), n 1 (by omega) (by omega), g_cnt_same (r := r) _ (fun a ha => ?_)]
    · exact h2
    · by_cases e : a = i
      · subst e; rw [e2]; omega
      · rw [n _ (by omega) (by omega)]
theorem g_VR.tch {r : Nat → Int} (h : g_VR r) {i : Nat} (hi : (i : Int) < r 1) (ho : r (1043 + 12 * i) = 0 ∨ r (1043 + 12 * i) = 1) : g_VM (g_tch r i) 0 (r 2) := g_VM.tch h hi ho