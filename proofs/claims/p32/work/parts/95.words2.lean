/-! the class's words and the reference's -/
/-- the reference's String constant of the class's word i -/
def g_ri (i : Nat) : Nat := [26, 39, 40, 41, 42, 34, 43, 32, 33, 35, 36, 37, 38, 44, 45, 46, 47, 48, 27, 28, 29, 30].getD i 31
theorem g_ri_all : ∀ i, i < 23 → g_len (g_ri i) = g_len i ∧ 1 ≤ g_len i ∧ g_ri i < 76 ∧ ∀ k, k < g_len i → g_ch (g_ri i) k = g_ch i k ∧ g_sm (g_ch i k) := by decide +kernel
theorem g_ri_inj : ∀ i, i < 23 → ∀ i', i' < 23 → g_len i = g_len i' → (∀ k, k < g_len i → g_ch i k = g_ch i' k) → i = i' := by decide +kernel
theorem g_ri_wi : ∀ k, k < 23 → ∃ i, i < 23 ∧ g_wi k = g_ri i := by decide
theorem g_ri_to : ∀ i, i < 23 → ∃ k, k < 23 ∧ g_wi k = g_ri i := by decide
theorem g_woF_some {B : Nat → Int} {f t x : Nat} : ∀ w i, i + w ≤ 23 → i ≤ x → x < i + w → g_eqW B x f t → g_woF B f t w i = some x
  | 0, i, _, _, h, _ => by omega
  | w + 1, i, hw, h1, h2, he => by
    unfold g_woF
    by_cases e : g_eqW B i f t
    · rw [if_pos e, g_ri_inj i (by omega) x (by omega) (by have := e.1; have := he.1; omega) (fun k hk => by rw [← e.2 k hk]; exact he.2 k (by have := e.1; have := he.1; omega))]
    · rw [if_neg e]
      by_cases e2 : i = x
      · subst e2; exact absurd he e
      · exact g_woF_some w (i + 1) (by omega) (by omega) (by omega) he
theorem g_woF_eq {B : Nat → Int} {f t x : Nat} : ∀ w i, g_woF B f t w i = some x → g_eqW B x f t
  | 0, _, h => by cases h
  | w + 1, i, h => by
    unfold g_woF at h
    by_cases e : g_eqW B i f t
    · rw [if_pos e] at h; cases h; exact e
    · rw [if_neg e] at h; exact g_woF_eq w (i + 1) h
theorem g_wo_iff {B : Nat → Int} {f t x : Nat} (hx : x < 23) : g_wo B f t = some x ↔ g_eqW B x f t := ⟨g_woF_eq 23 0, g_woF_some 23 0 (by decide) (by omega) (by omega)⟩
/-- a word of the reference stands at a token's place iff the class's word is that -/
theorem g_wo_is {B : Nat → Int} {N c j i : Nat} {S E : Nat → Nat} (ht : g_TK B N c S E) (hj : j ≤ c) (hi : i < 23) : g_isW B N (g_ri i) (S j) ↔ g_wo B (S j) (E j) = some i := by
  obtain ⟨hl, hl1, -, hc⟩ := g_ri_all i hi
  rw [g_wo_iff hi]
  have hle := g_TK_le ht hj
  by_cases e : j = c
  · subst e
    have h3 := ht.2.2.1
    have h4 := ht.2.2.2.1
    constructor
    · intro h
      have q := h.1 0 (by omega)
      rw [h3, Nat.add_zero, g_bt_n] at q
      have := (hc 0 (by omega)).1
      have := (hc 0 (by omega)).2
      omega
    · intro h; have := h.1; omega
  · obtain ⟨t1, t2, t3, t4, t5, -⟩ := ht.2.2.2.2 j (by omega)
    constructor
    · intro h
      have h0 : g_sm (g_bt B N (S j)) := by
        have q := h.1 0 (by omega)
        rw [Nat.add_zero] at q
        rw [q, (hc 0 (by omega)).1]; exact (hc 0 (by omega)).2
      unfold g_end at t5
      rw [if_pos h0] at t5
      have hn := g_ne_all (B := B) (n := N) _ (S j) (Nat.lt_succ_self _) (by omega)
      have hE : E j = S j + g_len i := by
        rcases Nat.lt_trichotomy (E j) (S j + g_len i) with a | a | a
        · exfalso
          refine hn.2.2.1 ?_
          have q := h.1 (E j - S j) (by omega)
          rw [show S j + (E j - S j) = g_ne B N (S j) by omega] at q
          rw [q, (hc _ (by omega)).1]; exact (hc _ (by omega)).2
        · exact a
        · exfalso
          refine h.2 ?_
          rw [hl]
          exact hn.2.2.2 _ (by omega) (by omega)
      refine ⟨hE, fun k hk => ?_⟩
      have q := h.1 k (by omega)
      rw [show g_bt B N (S j + k) = B (S j + k) from if_pos (by omega)] at q
      rw [q]; exact (hc k hk).1
    · intro h
      have hE := h.1
      have h0 : g_sm (g_bt B N (S j)) := by
        have q := h.2 0 (by omega)
        rw [Nat.add_zero] at q
        rw [show g_bt B N (S j) = B (S j) from if_pos (by omega), q]; exact (hc 0 (by omega)).2
      unfold g_end at t5
      rw [if_pos h0] at t5
      have hn := g_ne_all (B := B) (n := N) _ (S j) (Nat.lt_succ_self _) (by omega)
      refine ⟨fun k hk => ?_, ?_⟩
      · rw [show g_bt B N (S j + k) = B (S j + k) from if_pos (by omega), h.2 k (by omega)]; exact (hc k (by omega)).1.symm
      · rw [hl, ← hE, t5]; exact hn.2.2.1
/-- a word ends where its token does -/
theorem g_wo_end {B : Nat → Int} {N c j i : Nat} {S E : Nat → Nat} (ht : g_TK B N c S E) (hj : j ≤ c) (h : g_wo B (S j) (E j) = some i) : j < c ∧ g_len (g_ri i) + S j = E j ∧ S (j + 1) = g_sk B N (E j) ∧ g_sm (g_bt B N (S j)) := by
  have hi : i < 23 := g_wo_lt h
  have h2 := (g_wo_iff hi).mp h
  obtain ⟨hl, hl1, -, hc⟩ := g_ri_all i hi
  have hjc : j < c := by
    by_cases e : j = c
    · subst e; have := ht.2.2.1; have := ht.2.2.2.1; have := h2.1; omega
    · omega
  obtain ⟨t1, t2, t3, t4, t5, t6⟩ := ht.2.2.2.2 j hjc
  refine ⟨hjc, by have := h2.1; omega, t6, ?_⟩
  have q := h2.2 0 (by omega)
  rw [Nat.add_zero] at q
  rw [show g_bt B N (S j) = B (S j) from if_pos (by omega), q]; exact (hc 0 (by omega)).2
/-- a sign's token is one byte -/
theorem g_sg_end {B : Nat → Int} {N c j : Nat} {S E : Nat → Nat} (ht : g_TK B N c S E) (hj : j ≤ c) {x : Int} (hx : 32 < x ∧ x < 48 ∨ 57 < x ∧ x < 97) (h : g_bt B N (S j) = x) : j < c ∧ 1 + S j = E j ∧ S (j + 1) = g_sk B N (1 + S j) := by
  have hjc : j < c := by
    by_cases e : j = c
    · subst e; rw [ht.2.2.1, g_bt_n] at h; omega
    · omega
  obtain ⟨t1, t2, t3, t4, t5, t6⟩ := ht.2.2.2.2 j hjc
  unfold g_end at t5
  rw [if_neg (by omega), if_neg (by omega)] at t5
  exact ⟨hjc, by omega, by rw [t6, t5, Nat.add_comm]⟩
/-- a number's token -/
theorem g_nu_end {B : Nat → Int} {N c j : Nat} {S E : Nat → Nat} (ht : g_TK B N c S E) (hj : j ≤ c) (h : g_dg (g_bt B N (S j))) : j < c ∧ g_nd B N (S j) = E j ∧ S (j + 1) = g_sk B N (g_nd B N (S j)) := by
  have hjc : j < c := by
    by_cases e : j = c
    · subst e; rw [ht.2.2.1, g_bt_n] at h; omega
    · omega
  obtain ⟨t1, t2, t3, t4, t5, t6⟩ := ht.2.2.2.2 j hjc
  unfold g_end at t5
  rw [if_neg (by omega), if_pos h] at t5
  exact ⟨hjc, t5.symm, by rw [t6, t5]⟩
/-- a name may stand here iff the class says so -/
theorem g_nm_is {B : Nat → Int} {N c j : Nat} {S E : Nat → Nat} (ht : g_TK B N c S E) (hj : j ≤ c) : (g_sm (g_bt B N (S j)) ∧ g_wo B (S j) (E j) = none ∧ g_ne B N (S j) - S j ≤ 6) ↔ ((0 < g_ne B N (S j) - S j ∧ g_ne B N (S j) - S j ≤ 6) ∧ ∀ k, k < 23 → ¬ g_isW B N (g_wi k) (S j)) := by
  have hle := g_TK_le ht hj
  have hn := g_ne_all (B := B) (n := N) _ (S j) (Nat.lt_succ_self _) hle.1
  constructor
  · rintro ⟨a, b, d⟩
    refine ⟨⟨?_, d⟩, fun k hk h => ?_⟩
    · rw [g_ne_s a] at hn ⊢
      have hlt : S j < N := g_bt_in (B := B) (by have := a.1; omega)
      have := g_ne_all (B := B) (n := N) _ (1 + S j) (Nat.lt_succ_self _) (by omega)
      omega
    · obtain ⟨i, hi, e⟩ := g_ri_wi k hk
      rw [e, g_wo_is ht hj hi, b] at h
      cases h
  · rintro ⟨⟨a, b⟩, d⟩
    refine ⟨hn.2.2.2 _ (Nat.le_refl _) (by omega), ?_, b⟩
    cases e : g_wo B (S j) (E j) with
    | none => rfl
    | some i =>
      have hi := g_wo_lt e
      obtain ⟨k, hk, e2⟩ := g_ri_to i hi
      exact absurd ((g_wo_is ht hj hi).mpr e) (by rw [← e2]; exact d k hk)
/-- where a name ends -/
theorem g_nm_end {B : Nat → Int} {N c j : Nat} {S E : Nat → Nat} (ht : g_TK B N c S E) (hj : j ≤ c) (h : g_sm (g_bt B N (S j))) : j < c ∧ (g_ne B N (S j) - S j) + S j = E j ∧ S (j + 1) = g_sk B N (E j) := by
  have hjc : j < c := by
    by_cases e : j = c
    · subst e; rw [ht.2.2.1, g_bt_n] at h; omega
    · omega
  obtain ⟨t1, t2, t3, t4, t5, t6⟩ := ht.2.2.2.2 j hjc
  unfold g_end at t5
  rw [if_pos h] at t5
  exact ⟨hjc, by omega, t6⟩
/-- a number as the class reads it -/
def g_cv (B : Nat → Int) (n : Nat) : Nat → Nat → Int → Int
  | 0, _, v => v
  | f + 1, k, v => if g_dg (g_bt B n k) then g_cv B n f (k + 1) (min 1000000 (10 * v + g_bt B n k - 48)) else v
theorem g_cv_r {B : Nat → Int} {n : Nat} : ∀ f k (v : Int), 0 ≤ v → v ≤ 1000000 → 0 ≤ g_cv B n f k v ∧ g_cv B n f k v ≤ 1000000
  | 0, _, _, h0, h1 => ⟨h0, h1⟩
  | f + 1, k, v, h0, h1 => by
    unfold g_cv
    by_cases c : g_dg (g_bt B n k)
    · rw [if_pos c]; have := c.1; exact g_cv_r f (k + 1) _ (by omega) (by omega)
    · rw [if_neg c]; exact ⟨h0, h1⟩
theorem g_cv_nv {B : Nat → Int} {n : Nat} : ∀ f k (v w : Int), n - k ≤ f → 0 ≤ v → v = min 1000000 w → w ≤ 10000000 → g_cv B n f k v = min 1000000 (g_nv B n k w)
  | 0, k, v, w, hf, _, h, _ => by
    have hb : ¬ g_dg (g_bt B n k) := fun x => by
      have : k < n := g_bt_in (B := B) (by have := x.1; omega)
      omega
    rw [g_nv_e hb]; exact h
  | f + 1, k, v, w, hf, h0, h, hw => by
    unfold g_cv
    by_cases c : g_dg (g_bt B n k)
    · rw [if_pos c, g_nv_s c, Nat.add_comm k 1]
      have h1 := c.1
      have h2 := c.2
      exact g_cv_nv f (1 + k) _ _ (by omega) (by omega) (by omega) (by omega)
    · rw [if_neg c, g_nv_e c]; exact h
def g_cw (B : Nat → Int) (n k : Nat) (v : Int) : Int := g_cv B n (n - k) k v
theorem g_cw_e {B : Nat → Int} {n k : Nat} {v : Int} (h : ¬ g_dg (g_bt B n k)) : g_cw B n k v = v := by
  unfold g_cw
  cases n - k with
  | zero => rfl
  | succ f => unfold g_cv; rw [if_neg h]
theorem g_cw_s {B : Nat → Int} {n k : Nat} {v : Int} (h : g_dg (g_bt B n k)) : g_cw B n k v = g_cw B n (1 + k) (min 1000000 (10 * v + g_bt B n k - 48)) := by
  have hk : k < n := g_bt_in (B := B) (by have := h.1; omega)
  unfold g_cw
  rw [show n - k = (n - (1 + k)) + 1 by omega, g_cv, if_pos h, Nat.add_comm k 1]
theorem g_cw_nv {B : Nat → Int} {n k : Nat} : g_cw B n k 0 = min 1000000 (g_nv B n k 0) := g_cv_nv _ _ _ _ (Nat.le_refl _) (by decide) (by decide) (by decide)
theorem g_so_dg {B : Nat → Int} {N s : Nat} (hB : ∀ k, 0 ≤ B k ∧ B k ≤ 255) (hs : s ≤ N) : g_so B N s = 257 ↔ g_dg (g_bt B N s) := by
  unfold g_so
  by_cases e : s = N
  · rw [if_pos e, e, g_bt_n]; exact ⟨fun h => by omega, fun h => by omega⟩
  · rw [if_neg e, show g_bt B N s = B s from if_pos (by omega), (g_srt_w (hB _)).2.1]
    exact ⟨fun h => h.2, fun h => ⟨by omega, h⟩⟩
theorem g_so_end {B : Nat → Int} {N s : Nat} (hB : ∀ k, 0 ≤ B k ∧ B k ≤ 255) (hs : s ≤ N) : g_so B N s = 258 ↔ s = N := by
  unfold g_so
  by_cases e : s = N
  · rw [if_pos e]; exact ⟨fun _ => e, fun _ => rfl⟩
  · rw [if_neg e, show g_bt B N s = B s from if_pos (by omega)]
    have := g_srt_r (hB s)
    exact ⟨fun h => by omega, fun h => absurd h e⟩
