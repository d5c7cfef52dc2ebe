/-! a text: its bytes, blanks, words, digits -/
def g_bt (B : Nat → Int) (n k : Nat) : Int := if k < n then B k else -1
theorem g_bt_in {B : Nat → Int} {n k : Nat} (h : g_bt B n k ≠ -1) : k < n := by
  unfold g_bt at h
  by_cases c : k < n
  · exact c
  · rw [if_neg c] at h; exact absurd rfl h
def g_skF (B : Nat → Int) (n : Nat) : Nat → Nat → Nat
  | 0, k => k
  | f + 1, k => if g_bt B n k = 32 then g_skF B n f (k + 1) else k
def g_sk (B : Nat → Int) (n k : Nat) : Nat := g_skF B n (n - k) k
theorem g_sk_e {B : Nat → Int} {n k : Nat} (h : g_bt B n k ≠ 32) : g_sk B n k = k := by
  unfold g_sk
  cases n - k with
  | zero => rfl
  | succ f => unfold g_skF; rw [if_neg h]
theorem g_sk_s {B : Nat → Int} {n k : Nat} (h : g_bt B n k = 32) : g_sk B n k = g_sk B n (1 + k) := by
  have hk : k < n := g_bt_in (by rw [h]; decide)
  unfold g_sk
  rw [show n - k = (n - (1 + k)) + 1 by omega, g_skF, if_pos h, Nat.add_comm k 1]
theorem g_sk_all {B : Nat → Int} {n : Nat} : ∀ f k, n - k < f → k ≤ n → k ≤ g_sk B n k ∧ g_sk B n k ≤ n ∧ g_bt B n (g_sk B n k) ≠ 32
  | 0, _, h, _ => absurd h (Nat.not_lt_zero _)
  | f + 1, k, h, hk => by
    by_cases c : g_bt B n k = 32
    · have h2 : k < n := g_bt_in (by rw [c]; decide)
      rw [g_sk_s c]
      have q := g_sk_all (B := B) (n := n) f (1 + k) (by omega) (by omega)
      exact ⟨by omega, q.2⟩
    · rw [g_sk_e c]
      exact ⟨Nat.le_refl _, hk, c⟩
theorem g_sk_r {B : Nat → Int} {n k : Nat} (hk : k ≤ n) : k ≤ g_sk B n k ∧ g_sk B n k ≤ n := ⟨(g_sk_all _ k (Nat.lt_succ_self _) hk).1, (g_sk_all _ k (Nat.lt_succ_self _) hk).2.1⟩
theorem g_sk_n {B : Nat → Int} {n k : Nat} (hk : k ≤ n) : g_bt B n (g_sk B n k) ≠ 32 := (g_sk_all _ k (Nat.lt_succ_self _) hk).2.2
theorem g_sk_sk {B : Nat → Int} {n k : Nat} (hk : k ≤ n) : g_sk B n (g_sk B n k) = g_sk B n k := g_sk_e (g_sk_n hk)
abbrev g_sm (c : Int) : Prop := 97 ≤ c ∧ c ≤ 122
abbrev g_dg (c : Int) : Prop := 48 ≤ c ∧ c ≤ 57
/-- word i stands at a -/
abbrev g_isW (B : Nat → Int) (n i a : Nat) : Prop := (∀ k, k < g_len i → g_bt B n (a + k) = g_ch i k) ∧ ¬ g_sm (g_bt B n (a + g_len i))
def g_ndF (B : Nat → Int) (n : Nat) : Nat → Nat → Nat
  | 0, k => k
  | f + 1, k => if g_dg (g_bt B n k) then g_ndF B n f (k + 1) else k
/-- where the digits end that stand at k -/
def g_nd (B : Nat → Int) (n k : Nat) : Nat := g_ndF B n (n - k) k
def g_nvF (B : Nat → Int) (n : Nat) : Nat → Nat → Int → Int
  | 0, _, v => v
  | f + 1, k, v => if g_dg (g_bt B n k) then g_nvF B n f (k + 1) (min 10000000 (10 * v + g_bt B n k - 48)) else v
def g_nv (B : Nat → Int) (n k : Nat) (v : Int) : Int := g_nvF B n (n - k) k v
theorem g_nd_e {B : Nat → Int} {n k : Nat} (h : ¬ g_dg (g_bt B n k)) : g_nd B n k = k := by
  unfold g_nd
  cases n - k with
  | zero => rfl
  | succ f => unfold g_ndF; rw [if_neg h]
theorem g_nd_s {B : Nat → Int} {n k : Nat} (h : g_dg (g_bt B n k)) : g_nd B n k = g_nd B n (1 + k) := by
  have hk : k < n := g_bt_in (B := B) (by have := h.1; omega)
  unfold g_nd
  rw [show n - k = (n - (1 + k)) + 1 by omega, g_ndF, if_pos h, Nat.add_comm k 1]
theorem g_nv_e {B : Nat → Int} {n k : Nat} {v : Int} (h : ¬ g_dg (g_bt B n k)) : g_nv B n k v = v := by
  unfold g_nv
  cases n - k with
  | zero => rfl
  | succ f => unfold g_nvF; rw [if_neg h]
theorem g_nv_s {B : Nat → Int} {n k : Nat} {v : Int} (h : g_dg (g_bt B n k)) : g_nv B n k v = g_nv B n (1 + k) (min 10000000 (10 * v + g_bt B n k - 48)) := by
  have hk : k < n := g_bt_in (B := B) (by have := h.1; omega)
  unfold g_nv
  rw [show n - k = (n - (1 + k)) + 1 by omega, g_nvF, if_pos h, Nat.add_comm k 1]
theorem g_nd_all {B : Nat → Int} {n : Nat} : ∀ f k, n - k < f → k ≤ n → k ≤ g_nd B n k ∧ g_nd B n k ≤ n ∧ ¬ g_dg (g_bt B n (g_nd B n k))
  | 0, _, h, _ => absurd h (Nat.not_lt_zero _)
  | f + 1, k, h, hk => by
    by_cases c : g_dg (g_bt B n k)
    · have h2 : k < n := g_bt_in (B := B) (by have := c.1; omega)
      rw [g_nd_s c]
      have q := g_nd_all (B := B) (n := n) f (1 + k) (by omega) (by omega)
      exact ⟨by omega, q.2⟩
    · rw [g_nd_e c]
      exact ⟨Nat.le_refl _, hk, c⟩
theorem g_nd_r {B : Nat → Int} {n k : Nat} (hk : k ≤ n) : k ≤ g_nd B n k ∧ g_nd B n k ≤ n := ⟨(g_nd_all _ k (Nat.lt_succ_self _) hk).1, (g_nd_all _ k (Nat.lt_succ_self _) hk).2.1⟩
theorem g_nv_r {B : Nat → Int} {n : Nat} : ∀ f k v, n - k < f → 0 ≤ v → v ≤ 10000000 → 0 ≤ g_nv B n k v ∧ g_nv B n k v ≤ 10000000
  | 0, _, _, h, _, _ => absurd h (Nat.not_lt_zero _)
  | f + 1, k, v, h, h0, h1 => by
    by_cases c : g_dg (g_bt B n k)
    · have h2 : k < n := g_bt_in (B := B) (by have := c.1; omega)
      rw [g_nv_s c]
      have := c.1
      exact g_nv_r f (1 + k) _ (by omega) (by omega) (by omega)
    · rw [g_nv_e c]
      exact ⟨h0, h1⟩
def g_neF (B : Nat → Int) (n : Nat) : Nat → Nat → Nat
  | 0, k => k
  | f + 1, k => if g_sm (g_bt B n k) then g_neF B n f (k + 1) else k
/-- where the letters end that stand at k -/
def g_ne (B : Nat → Int) (n k : Nat) : Nat := g_neF B n (n - k) k
theorem g_ne_e {B : Nat → Int} {n k : Nat} (h : ¬ g_sm (g_bt B n k)) : g_ne B n k = k := by
  unfold g_ne
  cases n - k with
  | zero => rfl
  | succ f => unfold g_neF; rw [if_neg h]
theorem g_ne_s {B : Nat → Int} {n k : Nat} (h : g_sm (g_bt B n k)) : g_ne B n k = g_ne B n (1 + k) := by
  have hk : k < n := g_bt_in (B := B) (by have := h.1; omega)
  unfold g_ne
  rw [show n - k = (n - (1 + k)) + 1 by omega, g_neF, if_pos h, Nat.add_comm k 1]
theorem g_ne_all {B : Nat → Int} {n : Nat} : ∀ f k, n - k < f → k ≤ n → k ≤ g_ne B n k ∧ g_ne B n k ≤ n ∧ ¬ g_sm (g_bt B n (g_ne B n k)) ∧ ∀ j, k ≤ j → j < g_ne B n k → g_sm (g_bt B n j)
  | 0, _, h, _ => absurd h (Nat.not_lt_zero _)
  | f + 1, k, h, hk => by
    by_cases c : g_sm (g_bt B n k)
    · have h2 : k < n := g_bt_in (B := B) (by have := c.1; omega)
      rw [g_ne_s c]
      have q := g_ne_all (B := B) (n := n) f (1 + k) (by omega) (by omega)
      refine ⟨by omega, q.2.1, q.2.2.1, fun j h3 h4 => ?_⟩
      by_cases e : j = k
      · subst e; exact c
      · exact q.2.2.2 j (by omega) h4
    · rw [g_ne_e c]
      exact ⟨Nat.le_refl _, hk, c, fun j h3 h4 => by omega⟩
/-- the reference's word k: its String constant -/
def g_wi (k : Nat) : Nat := [27, 28, 29, 30, 31, 32, 33, 34, 35, 36, 37, 38, 26, 39, 40, 41, 42, 43, 44, 45, 46, 47].getD k 48
theorem g_wi_r (k : Nat) : g_wi k < 76 := by
  by_cases h : k < 22
  · have hall : ∀ k, k < 22 → g_wi k < 76 := by decide
    exact hall k h
  · unfold g_wi
    rw [List.getD_eq_getElem?_getD, List.getElem?_eq_none (by show 22 ≤ k; omega)]
    decide
/-- what the reference's parser keeps: the place, the fault and its place, codes, brackets, what was told once, which kinds have pays -/
abbrev g_PS : Type := Nat × Int × Int × Nat × Int × Int × Int
abbrev g_PS.p (s : g_PS) : Nat := s.1
abbrev g_PS.fl (s : g_PS) : Int := s.2.1
abbrev g_PS.fa (s : g_PS) : Int := s.2.2.1
abbrev g_PS.cd (s : g_PS) : Nat := s.2.2.2.1
abbrev g_PS.op (s : g_PS) : Int := s.2.2.2.2.1
abbrev g_PS.on (s : g_PS) : Int := s.2.2.2.2.2.1
abbrev g_PS.hp (s : g_PS) : Int := s.2.2.2.2.2.2
abbrev g_mk (p : Nat) (fl fa : Int) (cd : Nat) (op on hp : Int) : g_PS := (p, fl, fa, cd, op, on, hp)
def q_pz (I : q_I) (m : Nat) (a b c d e f g : Int) : q_I := fun q k => if q = m then (if k = 4 then a else if k = 6 then b else if k = 7 then c else if k = 14 then d else if k = 15 then e else if k = 16 then f else if k = 17 then g else I m k) else I q k
section
variable {I : q_I} {m : Nat} {a b c d e f g : Int}
theorem q_pz_4 : q_pz I m a b c d e f g m 4 = a := by simp [q_pz]
theorem q_pz_6 : q_pz I m a b c d e f g m 6 = b := by simp [q_pz]
theorem q_pz_7 : q_pz I m a b c d e f g m 7 = c := by simp [q_pz]
theorem q_pz_14 : q_pz I m a b c d e f g m 14 = d := by simp [q_pz]
theorem q_pz_15 : q_pz I m a b c d e f g m 15 = e := by simp [q_pz]
theorem q_pz_16 : q_pz I m a b c d e f g m 16 = f := by simp [q_pz]
theorem q_pz_17 : q_pz I m a b c d e f g m 17 = g := by simp [q_pz]
theorem q_pz_a {q k : Nat} (h : q ≠ m) : q_pz I m a b c d e f g q k = I q k := if_neg h
theorem q_pz_k {k : Nat} (h : k ≠ 4 ∧ k ≠ 6 ∧ k ≠ 7 ∧ k ≠ 14 ∧ k ≠ 15 ∧ k ≠ 16 ∧ k ≠ 17) : q_pz I m a b c d e f g m k = I m k := by
  unfold q_pz
  rw [if_pos rfl, if_neg h.1, if_neg h.2.1, if_neg h.2.2.1, if_neg h.2.2.2.1, if_neg h.2.2.2.2.1, if_neg h.2.2.2.2.2.1, if_neg h.2.2.2.2.2.2]
theorem q_pz_w4 {v : Int} : u2 (q_pz I m a b c d e f g) m 4 v = q_pz I m v b c d e f g := by
  funext q k; unfold u2 q_pz
  by_cases e1 : q = m <;> by_cases e4 : k = 4 <;> simp_all
theorem q_pz_w6 {v : Int} : u2 (q_pz I m a b c d e f g) m 6 v = q_pz I m a v c d e f g := by
  funext q k; unfold u2 q_pz
  by_cases e1 : q = m <;> by_cases e4 : k = 6 <;> simp_all
theorem q_pz_w7 {v : Int} : u2 (q_pz I m a b c d e f g) m 7 v = q_pz I m a b v d e f g := by
  funext q k; unfold u2 q_pz
  by_cases e1 : q = m <;> by_cases e4 : k = 7 <;> simp_all
theorem q_pz_w14 {v : Int} : u2 (q_pz I m a b c d e f g) m 14 v = q_pz I m a b c v e f g := by
  funext q k; unfold u2 q_pz
  by_cases e1 : q = m <;> by_cases e4 : k = 14 <;> simp_all
theorem q_pz_w15 {v : Int} : u2 (q_pz I m a b c d e f g) m 15 v = q_pz I m a b c d v f g := by
  funext q k; unfold u2 q_pz
  by_cases e1 : q = m <;> by_cases e4 : k = 15 <;> simp_all
theorem q_pz_w16 {v : Int} : u2 (q_pz I m a b c d e f g) m 16 v = q_pz I m a b c d e v g := by
  funext q k; unfold u2 q_pz
  by_cases e1 : q = m <;> by_cases e4 : k = 16 <;> simp_all
theorem q_pz_w17 {v : Int} : u2 (q_pz I m a b c d e f g) m 17 v = q_pz I m a b c d e f v := by
  funext q k; unfold u2 q_pz
  by_cases e1 : q = m <;> by_cases e4 : k = 17 <;> simp_all
end
section
variable {I : q_I} {m : Nat} {s : g_PS}
end
/-- the bytes that were fed -/
def q_BT (I : q_I) (m : Nat) (B : Nat → Int) (n : Nat) : Prop := I m 3 = (n : Int) ∧ n ≤ 600 ∧ (∀ k, k < n → I (m + 2) k = B k) ∧ ∀ k, 0 ≤ B k ∧ B k ≤ 255
theorem g_bt_r {I : q_I} {m n : Nat} {B : Nat → Int} (h : q_BT I m B n) (k : Nat) : -1 ≤ g_bt B n k ∧ g_bt B n k ≤ 255 := by
  have := h.2.2.2 k
  unfold g_bt
  split <;> omega
theorem g_bt_32 {I : q_I} {m n : Nat} {B : Nat → Int} (h : q_BT I m B n) (k : Nat) : -2147483648 ≤ g_bt B n k ∧ g_bt B n k < 2147483648 := by have := g_bt_r h k; omega