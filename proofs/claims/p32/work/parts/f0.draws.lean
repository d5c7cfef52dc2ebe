/-! the law's bank while it is drawn: the draws -/
def f_p (p : Nat × Nat) : Nat × Nat := (p.1 + 1, d_nx p.2)
def f_v (m : Nat) (p : Nat × Nat) : Nat := d_nx p.2 / 65536 % m
def f_5 (p : Nat × Nat) : Nat × Nat := f_p (f_p (f_p (f_p (f_p p))))
def f_opt (p : Nat × Nat) : Nat × Nat := if f_v 2 p = 0 then f_p (f_p p) else f_p p
def f_ord (p : Nat × Nat) : Nat × Nat := if f_v 2 p = 0 then (if f_v 2 (f_p (f_p p)) = 0 then f_p (f_p (f_p p)) else f_p (f_p (f_p (f_p p)))) else f_p p
def f_law (p : Nat × Nat) : Nat × Nat := f_p (f_p (if f_v 3 (f_p (f_p p)) = 0 then f_p (f_p (f_p (f_p p))) else f_p (f_p (f_p p))))
def f_kl : Nat → Nat → Nat × Nat → Nat × (Nat × Nat)
  | 0, c, p => (c, p)
  | n + 1, c, p => if f_v 3 p = 0 ∨ c = 4 then f_kl n c (f_p p) else f_kl n (c + 1) (f_law (f_p p))
def f_ks (l9 : Nat) : Nat → Nat → Nat × Nat → Nat × Nat
  | 0, _, p => p
  | n + 1, c, p => f_ks l9 n (f_kl l9 c p).1 (f_opt (f_kl l9 c p).2)
def f_lns : Nat → Nat × Nat → Nat × Nat
  | 0, p => p
  | n + 1, p => f_lns n (f_5 p)
def f_tail (p : Nat × Nat) : Nat × Nat := f_ord (f_opt (f_opt (f_opt p)))
def f_all (x : Nat) : Nat × Nat := f_tail (f_ks (1 + f_v 3 (0, x)) 5 0 (f_lns (1 + f_v 3 (0, x)) (f_p (0, x))))
def f_fin (x : Nat) : Nat × Nat := f_5 (f_5 (f_5 (f_all x)))
theorem f_kl_s (n c : Nat) (p : Nat × Nat) : f_kl (n + 1) c p = if f_v 3 p = 0 ∨ c = 4 then f_kl n c (f_p p) else f_kl n (c + 1) (f_law (f_p p)) := rfl
theorem f_ks_s (l9 n c : Nat) (p : Nat × Nat) : f_ks l9 (n + 1) c p = f_ks l9 n (f_kl l9 c p).1 (f_opt (f_kl l9 c p).2) := rfl
/-- the state is so many draws behind the seed -/
def f_ok (x a c : Nat) (p : Nat × Nat) : Prop := p.2 = d_it p.1 x ∧ a ≤ p.1 ∧ p.1 ≤ c
theorem d_it_s (n x : Nat) : d_it (n + 1) x = d_nx (d_it n x) := rfl
theorem f_ok.p {x a c : Nat} {p : Nat × Nat} (h : f_ok x a c p) : f_ok x (a + 1) (c + 1) (f_p p) := ⟨by show d_nx p.2 = d_it (p.1 + 1) x; rw [d_it_s, h.1], by have := h.2.1; show a + 1 ≤ p.1 + 1; omega, by have := h.2.2; show p.1 + 1 ≤ c + 1; omega⟩
theorem f_ok.w {x a c a' c' : Nat} {p : Nat × Nat} (h : f_ok x a c p) (h1 : a' ≤ a) (h2 : c ≤ c') : f_ok x a' c' p := ⟨h.1, by have := h.2.1; omega, by have := h.2.2; omega⟩
theorem f_ok.o5 {x a c : Nat} {p : Nat × Nat} (h : f_ok x a c p) : f_ok x (a + 5) (c + 5) (f_5 p) := h.p.p.p.p.p
theorem f_ok.opt {x a c : Nat} {p : Nat × Nat} (h : f_ok x a c p) : f_ok x a (c + 2) (f_opt p) := by
  unfold f_opt
  split
  · exact h.p.p.w (by omega) (by omega)
  · exact h.p.w (by omega) (by omega)
theorem f_ok.ord {x a c : Nat} {p : Nat × Nat} (h : f_ok x a c p) : f_ok x a (c + 4) (f_ord p) := by
  unfold f_ord
  split
  · split
    · exact h.p.p.p.w (by omega) (by omega)
    · exact h.p.p.p.p.w (by omega) (by omega)
  · exact h.p.w (by omega) (by omega)
theorem f_ok.law {x a c : Nat} {p : Nat × Nat} (h : f_ok x a c p) : f_ok x a (c + 6) (f_law p) := by
  unfold f_law
  split
  · exact h.p.p.p.p.p.p.w (by omega) (by omega)
  · exact h.p.p.p.p.p.w (by omega) (by omega)
theorem f_ok.kl {x : Nat} : ∀ (n c0 a c : Nat) (p : Nat × Nat), f_ok x a c p → f_ok x a (c + 7 * n) (f_kl n c0 p).2
  | 0, _, _, _, _, h => h
  | n + 1, c0, a, c, p, h => by
    rw [f_kl_s]
    split
    · exact (f_ok.kl n _ _ _ _ h.p).w (by omega) (by omega)
    · exact (f_ok.kl n _ _ _ _ h.p.law).w (by omega) (by omega)
theorem f_ok.ks {x l9 : Nat} : ∀ (n c0 a c : Nat) (p : Nat × Nat), f_ok x a c p → f_ok x a (c + (7 * l9 + 2) * n) (f_ks l9 n c0 p)
  | 0, _, _, _, _, h => h
  | n + 1, c0, a, c, p, h => by
    rw [f_ks_s]
    refine (f_ok.ks n _ _ _ _ (f_ok.kl l9 c0 _ _ _ h).opt).w (Nat.le_refl _) ?_
    rw [Nat.mul_add, Nat.mul_one]
    omega
theorem f_ok.lns {x : Nat} : ∀ (n a c : Nat) (p : Nat × Nat), f_ok x a c p → f_ok x a (c + 5 * n) (f_lns n p)
  | 0, _, _, _, h => h
  | n + 1, a, c, p, h => by
    show f_ok x a _ (f_lns n (f_5 p))
    exact (f_ok.lns n _ _ _ h.o5).w (by omega) (by omega)
theorem f_fin_ok (x : Nat) : f_ok x 0 160 (f_fin x) := by
  have h0 : f_ok x 0 0 (0, x) := ⟨rfl, Nat.le_refl _, Nat.le_refl _⟩
  have h1 := f_ok.lns (1 + f_v 3 (0, x)) _ _ _ h0.p
  have h2 := f_ok.ks (l9 := 1 + f_v 3 (0, x)) 5 0 _ _ _ h1
  have h3 := h2.opt.opt.opt.ord
  have h4 := h3.o5.o5.o5
  have hl : f_v 3 (0, x) < 3 := Nat.mod_lt _ (by decide)
  refine f_ok.w (a := 0 + 1 + 5 + 5 + 5) h4 (by omega) (by omega)
/-- back -/
def d_pv (x : Nat) : Nat := (4005161829 * (x + 4294954951)) % 4294967296
def d_bk : Nat → Nat → Nat
  | 0, x => x
  | n + 1, x => d_pv (d_bk n x)
theorem d_pv_nx {x : Nat} (h : x < 4294967296) : d_pv (d_nx x) = x := by unfold d_pv d_nx; omega
theorem d_it_lt {x : Nat} (h : x < 4294967296) : ∀ n, d_it n x < 4294967296
  | 0 => h
  | n + 1 => by rw [d_it_s]; exact d_nx_lt _
theorem d_bk_it : ∀ (n x : Nat), x < 4294967296 → d_bk n (d_it n x) = x
  | 0, _, _ => rfl
  | n + 1, x, h => by
    have e : d_it (n + 1) x = d_it n (d_nx x) := d_it_add n 1 x
    show d_pv (d_bk n (d_it (n + 1) x)) = x
    rw [e, d_bk_it n _ (d_nx_lt x), d_pv_nx h]
def f_no (X : Nat) : Nat → Bool
  | 0 => (f_fin X).1 != 0
  | n + 1 => (f_fin (d_bk (n + 1) X)).1 != n + 1 && f_no X n
theorem f_no_sp (X : Nat) : ∀ n, f_no X n = true → ∀ k, k ≤ n → (f_fin (d_bk k X)).1 ≠ k
  | 0, h, k, hk => by
    obtain rfl : k = 0 := by omega
    intro e
    have h : ((f_fin X).1 != 0) = true := h
    rw [show f_fin (d_bk 0 X) = f_fin X from rfl] at e
    rw [e] at h
    cases h
  | n + 1, h, k, hk => by
    have h : ((f_fin (d_bk (n + 1) X)).1 != n + 1 && f_no X n) = true := h
    rw [Bool.and_eq_true] at h
    by_cases e : k = n + 1
    · subst e
      intro e2
      rw [e2] at h
      have := h.1
      simp at this
    · exact f_no_sp X n h.2 k (by omega)
set_option maxRecDepth 100000 in
theorem f_no_1 : f_no 4290658113 160 = true := by decide +kernel
set_option maxRecDepth 100000 in
theorem f_no_2 : f_no 1366730941 160 = true := by decide +kernel
theorem f_fin_safe {x : Nat} (h : x < 4294967296) : d_safe 11 9 (f_fin x).2 = true := by
  obtain ⟨h1, -, h2⟩ := f_fin_ok x
  have hb : ∀ X, f_no X 160 = true → (f_fin x).2 ≠ X := fun X hX e => by
    have e2 : d_bk (f_fin x).1 X = x := by rw [← e, h1]; exact d_bk_it _ _ h
    exact f_no_sp X 160 hX _ h2 (by rw [e2])
  rcases d_sure (x := (f_fin x).2) (by rw [h1]; exact d_it_lt h _) with z | z | z
  · exact z
  · exact absurd z (hb _ f_no_1)
  · exact absurd z (hb _ f_no_2)
