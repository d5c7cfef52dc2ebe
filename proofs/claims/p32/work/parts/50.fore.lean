/-! the class: forecasts -/
theorem mX0_copyFromA {G : q_G} {sz : Nat} {T : q_T} {I L : q_I} {P : q_P} {Q : q_Q} {a b : Nat} (hT : T a = some (.inl 0)) (hA : q_A G a) (hTb : T b = some (.inl 0)) (hne : b ≠ a) (hz : I b 11 = 0 ∨ I b 11 = 1)
    (k0 : ∀ Ic Lc : q_I, (∀ q k, q ≠ a → Ic q k = I q k) → (∀ q k, q ≠ a → Lc q k = L q k) → (∀ k, k < 12 → Ic a k = I b k) → (∀ k, 12 ≤ k → k < 17 → Lc a k = L b k) → Q (.inl none) sz T Ic Lc P) : qC G 0 0 0 YX0_copyFrom [.ref a, .ref b] sz T I L P Q := by
  refine mX0_copyFrom hT hA hTb hne hz ?_
  refine k0 _ _ (fun q k h => by simp only [u2_a _ _ h]) (fun q k h => by simp only [u2_a _ _ h]) (fun k hk => ?_) (fun k h1 h2 => ?_)
  · rcases (show k = 0 ∨ k = 1 ∨ k = 2 ∨ k = 3 ∨ k = 4 ∨ k = 5 ∨ k = 6 ∨ k = 7 ∨ k = 8 ∨ k = 9 ∨ k = 10 ∨ k = 11 by omega) with rfl | rfl | rfl | rfl | rfl | rfl | rfl | rfl | rfl | rfl | rfl | rfl <;> simp [u2]
  · rcases (show k = 12 ∨ k = 13 ∨ k = 14 ∨ k = 15 ∨ k = 16 by omega) with rfl | rfl | rfl | rfl | rfl <;> simp [u2]
theorem q_AR.cp {I Ic : q_I} {o p : Nat} {r : Nat → Int} {a : Nat} (h : q_AR I o r a) (hc : ∀ k, k < 12 → Ic p k = I o k) : q_AR Ic p r a := by
  unfold q_AR
  rw [hc 0 (by omega), hc 1 (by omega), hc 2 (by omega), hc 3 (by omega), hc 4 (by omega), hc 5 (by omega), hc 6 (by omega), hc 7 (by omega), hc 8 (by omega), hc 9 (by omega), hc 10 (by omega), hc 11 (by omega)]
  exact h
theorem g_run_r {M n : Int} {a : Nat} : ∀ (f k : Nat) (r : Nat → Int), -1 ≤ (g_run M n a f k r).1 ∧ (g_run M n a f k r).1 ≤ f + k
  | 0, k, r => by show -1 ≤ (-1 : Int) ∧ (-1 : Int) ≤ _; omega
  | f + 1, k, r => by
    rw [g_run_s]
    have q := g_run_r (M := M) (n := n) (a := a) f (k + 1) (g_goes r a (M + k)).2
    split
    · split
      · show -1 ≤ (k : Int) ∧ (k : Int) ≤ _; omega
      · omega
    · show -1 ≤ (-1 : Int) ∧ (-1 : Int) ≤ _; omega
theorem g_months_VA {r : Nat → Int} (hz : g_Zr r) (hv : g_VR r) {c : Nat} (hc : (c : Int) < r 1) (n : Nat) : ∃ b, g_VA (g_months n r).2 c b ∧ b ≤ 6000 ∧ (g_months n r).2 0 ≤ 5 := by
  have q := (g_months_z n hz hv).2
  have q1 := q.2.1 c (by rw [g_months_hd n hz hv]; exact hc)
  rw [if_neg (Nat.not_lt_zero _)] at q1
  exact ⟨_, q1, q.1.month.2, q.1.lands.2⟩
/-- the account that a run leaves -/
theorem g_run_VA {r : Nat → Int} (hz : g_Zr r) (hv : g_VR r) {c : Nat} (hc : (c : Int) < r 1) (n : Nat) : (-1 ≤ (g_run (r 2) (n : Int) c n 1 r).2 (1047 + 12 * c) ∧ (g_run (r 2) (n : Int) c n 1 r).2 (1047 + 12 * c) ≤ 5) ∧ (0 ≤ (g_run (r 2) (n : Int) c n 1 r).2 (1042 + 12 * c) ∧ (g_run (r 2) (n : Int) c n 1 r).2 (1042 + 12 * c) ≤ 100000000) ∧ (0 ≤ (g_run (r 2) (n : Int) c n 1 r).2 (1046 + 12 * c) ∧ (g_run (r 2) (n : Int) c n 1 r).2 (1046 + 12 * c) ≤ 6000) := by
  obtain ⟨b, h1, h2, h3⟩ := g_months_VA hz hv hc n
  have q := (g_run_months hz hv hc n).1
  have a1 := h1.holder
  have a2 := h1.cents
  have a3 := h1.wrote
  rw [q _ (by omega) (by omega), q _ (by omega) (by omega), q _ (by omega) (by omega)]
  omega