/-! an expression, parsed: its codes, or its fault -/
abbrev g_Re : Type := (Nat × List Int) ⊕ (Int × Nat)
abbrev g_Re.ok (p : Nat) (cs : List Int) : g_Re := .inl (p, cs)
abbrev g_Re.er (w : Int) (x : Nat) : g_Re := .inr (w, x)
def g_Re.bd (r : g_Re) (f : Nat → List Int → g_Re) : g_Re := match r with
  | .inl c => f c.1 c.2
  | .inr e => .inr e
theorem g_bd_k (p : Nat) (cs : List Int) (f : Nat → List Int → g_Re) : (g_Re.ok p cs).bd f = f p cs := rfl
theorem g_bd_e (w : Int) (x : Nat) (f : Nat → List Int → g_Re) : (g_Re.er w x).bd f = g_Re.er w x := rfl
def g_mst (B : Nat → Int) (n i p : Nat) : g_Re := if g_isW B n i (g_sk B n p) then g_Re.ok (g_len i + g_sk B n p) [] else g_Re.er 1 (g_sk B n p)
def g_sig (B : Nat → Int) (n : Nat) (c : Int) (p : Nat) : g_Re := if g_bt B n (g_sk B n p) = c then g_Re.ok (1 + g_sk B n p) [] else g_Re.er 1 (g_sk B n p)
def g_facB (B : Nat → Int) (n : Nat) (R : Nat → Nat → Nat → g_Re) (o q : Nat) : g_Re :=
  if o = 3 then g_Re.er 5 q else (R 3 (o + 1) (1 + q)).bd fun p1 c1 => (g_sig B n 41 p1).bd fun p2 _ => g_Re.ok p2 c1
def g_facM (B : Nat → Int) (n : Nat) (R : Nat → Nat → Nat → g_Re) (o q : Nat) : g_Re :=
  if g_bt B n q = 40 then (if o = 3 then g_Re.er 5 q else (R 3 (o + 1) (1 + q)).bd fun p1 c1 => (g_sig B n 44 p1).bd fun p2 _ => (R 3 (o + 1) p2).bd fun p3 c2 => (g_sig B n 41 p3).bd fun p4 _ => g_Re.ok p4 (c1 ++ c2 ++ [-9])) else g_Re.er 1 q
def g_facI (B : Nat → Int) (n : Nat) (R : Nat → Nat → Nat → g_Re) (o q : Nat) : g_Re :=
  if o = 3 then g_Re.er 5 q else (R 0 (o + 1) (g_len 45 + q)).bd fun p1 c1 => (g_mst B n 46 p1).bd fun p2 _ => (R 0 (o + 1) p2).bd fun p3 c2 => (g_mst B n 47 p3).bd fun p4 _ => (R 0 (o + 1) p4).bd fun p5 c3 => (g_mst B n 48 p5).bd fun p6 _ => (R 0 (o + 1) p6).bd fun p7 c4 => g_Re.ok p7 (c1 ++ c2 ++ c3 ++ c4 ++ [-10])
/-- a factor that stands at q -/
def g_fac (B : Nat → Int) (n : Nat) (R : Nat → Nat → Nat → g_Re) (o q : Nat) : g_Re :=
  if g_dg (g_bt B n q) then (if g_nv B n q 0 ≤ 999999 then g_Re.ok (g_nd B n q) [g_nv B n q 0] else g_Re.er 2 q)
  else if g_isW B n 35 q then g_Re.ok (g_len 35 + q) [-1]
  else if g_isW B n 36 q then g_Re.ok (g_len 36 + q) [-2]
  else if g_isW B n 37 q then g_Re.ok (g_len 37 + q) [-3]
  else if g_isW B n 38 q then g_Re.ok (g_len 38 + q) [-4]
  else if g_bt B n q = 40 then g_facB B n R o q
  else if g_isW B n 44 q then g_facM B n R o (g_sk B n (g_len 44 + q))
  else if g_isW B n 45 q then g_facI B n R o q
  else g_Re.er 1 q
def g_prL (B : Nat → Int) (n : Nat) (R : Nat → Nat → Nat → g_Re) (o q : Nat) : g_Re :=
  if g_bt B n q = 42 ∨ g_bt B n q = 47 then (R 0 o (1 + q)).bd fun p1 c1 => (R 2 o p1).bd fun p2 c2 => g_Re.ok p2 (c1 ++ (if g_bt B n q = 42 then -7 else -8) :: c2) else g_Re.ok q []
def g_smL (B : Nat → Int) (n : Nat) (R : Nat → Nat → Nat → g_Re) (o q : Nat) : g_Re :=
  if g_bt B n q = 43 ∨ g_bt B n q = 45 then (R 1 o (1 + q)).bd fun p1 c1 => (R 4 o p1).bd fun p2 c2 => g_Re.ok p2 (c1 ++ (if g_bt B n q = 43 then -5 else -6) :: c2) else g_Re.ok q []
/-- 0 a factor, 1 a product, 2 the rest of a product, 3 a sum, 4 the rest of a sum; o brackets stand open -/
def g_ex (B : Nat → Int) (n : Nat) : Nat → Nat → Nat → Nat → g_Re
  | 0, _, _, _ => g_Re.er 0 0
  | f + 1, k, o, p =>
    if k = 0 then g_fac B n (g_ex B n f) o (g_sk B n p)
    else if k = 1 then (g_ex B n f 0 o p).bd fun p1 c1 => (g_ex B n f 2 o p1).bd fun p2 c2 => g_Re.ok p2 (c1 ++ c2)
    else if k = 2 then g_prL B n (g_ex B n f) o (g_sk B n p)
    else if k = 3 then (g_ex B n f 1 o p).bd fun p1 c1 => (g_ex B n f 4 o p1).bd fun p2 c2 => g_Re.ok p2 (c1 ++ c2)
    else g_smL B n (g_ex B n f) o (g_sk B n p)
theorem g_bd_ok {r : g_Re} {f : Nat → List Int → g_Re} {p : Nat} {cs : List Int} (h : r.bd f = g_Re.ok p cs) : ∃ p1 c1, r = g_Re.ok p1 c1 ∧ f p1 c1 = g_Re.ok p cs := by
  cases r with
  | inl c => exact ⟨c.1, c.2, rfl, h⟩
  | inr e => exact absurd h (by simp [g_Re.bd])
def g_enc (c : Int) : List Int := if 0 ≤ c then [1, c] else [1 - c]
def g_encs : List Int → List Int
  | [] => []
  | c :: cs => g_enc c ++ g_encs cs
def g_el (cs : List Int) : Nat := (g_encs cs).length
theorem g_encs_app (a b : List Int) : g_encs (a ++ b) = g_encs a ++ g_encs b := by
  induction a with
  | nil => rfl
  | cons c cs ih => show g_enc c ++ g_encs (cs ++ b) = (g_enc c ++ g_encs cs) ++ g_encs b; rw [ih, List.append_assoc]
theorem g_el_app (a b : List Int) : g_el (a ++ b) = g_el a + g_el b := by unfold g_el; rw [g_encs_app, List.length_append]
theorem g_el_neg {c : Int} (h : c < 0) (cs : List Int) : g_el (c :: cs) = 1 + g_el cs := by
  show (g_enc c ++ g_encs cs).length = _
  unfold g_enc
  rw [if_neg (by omega)]
  show (g_encs cs).length + 1 = _
  unfold g_el; omega
theorem g_el_pos {c : Int} (h : 0 ≤ c) (cs : List Int) : g_el (c :: cs) = 2 + g_el cs := by
  show (g_enc c ++ g_encs cs).length = _
  unfold g_enc
  rw [if_pos h]
  show (g_encs cs).length + 1 + 1 = _
  unfold g_el; omega
theorem g_el_nil : g_el [] = 0 := rfl
def g_app (t : Nat → Int) (k : Nat) : List Int → (Nat → Int)
  | [] => t
  | x :: xs => g_app (g_up t k x) (k + 1) xs
theorem g_app_app (a b : List Int) : ∀ (t : Nat → Int) (k : Nat), g_app t k (a ++ b) = g_app (g_app t k a) (k + a.length) b := by
  induction a with
  | nil => intro t k; rfl
  | cons x xs ih => intro t k; show g_app (g_up t k x) (k + 1) (xs ++ b) = _; rw [ih]; show _ = g_app (g_app (g_up t k x) (k + 1) xs) (k + (xs.length + 1)) b; rw [show k + (xs.length + 1) = k + 1 + xs.length by omega]
theorem g_app_encs (a b : List Int) (t : Nat → Int) (k : Nat) : g_app t k (g_encs (a ++ b)) = g_app (g_app t k (g_encs a)) (k + g_el a) (g_encs b) := by rw [g_encs_app, g_app_app]; rfl
theorem g_isW_n {B : Nat → Int} {n i q : Nat} (hl : 0 < g_len i) (hc : ∀ k, k < g_len i → g_ch i k ≠ -1) (h : g_isW B n i q) : g_len i + q ≤ n := by
  have h1 := h.1 (g_len i - 1) (by omega)
  have h2 := hc (g_len i - 1) (by omega)
  have h3 := g_bt_in (B := B) (n := n) (k := q + (g_len i - 1)) (by rw [h1]; exact h2)
  omega
theorem g_nd_gt {B : Nat → Int} {n q : Nat} (hq : q ≤ n) (h : g_dg (g_bt B n q)) : q + 1 ≤ g_nd B n q ∧ g_nd B n q ≤ n := by
  have h2 : q < n := g_bt_in (B := B) (by have := h.1; omega)
  rw [g_nd_s h]
  have := g_nd_r (B := B) (n := n) (k := 1 + q) (by omega)
  omega
/-- how far a part of an expression goes, and how many codes it is -/
def g_far (n k p p' : Nat) (cs : List Int) : Prop := p' ≤ n ∧ (if k = 2 ∨ k = 4 then p ≤ p' ∧ 2 * g_el cs ≤ 3 * (p' - p) else p + 1 ≤ p' ∧ 2 * g_el cs ≤ 3 * (p' - p) + 1)
theorem g_sig_ok {B : Nat → Int} {n p p' : Nat} {c : Int} {cs : List Int} (hc : c ≠ -1) (hp : p ≤ n) (h : g_sig B n c p = g_Re.ok p' cs) : p + 1 ≤ p' ∧ p' ≤ n := by
  unfold g_sig at h
  have hq := g_sk_r (B := B) hp
  by_cases e : g_bt B n (g_sk B n p) = c
  · rw [if_pos e] at h
    have := g_bt_in (B := B) (n := n) (k := g_sk B n p) (by rw [e]; exact hc)
    cases h; omega
  · rw [if_neg e] at h; cases h
theorem g_mst_ok {B : Nat → Int} {n i p p' : Nat} {cs : List Int} (hw : ∀ q, g_isW B n i q → g_len i + q ≤ n) (hl : 0 < g_len i) (hp : p ≤ n) (h : g_mst B n i p = g_Re.ok p' cs) : p + 1 ≤ p' ∧ p' ≤ n := by
  unfold g_mst at h
  have hq := g_sk_r (B := B) hp
  by_cases e : g_isW B n i (g_sk B n p)
  · rw [if_pos e] at h
    have := hw _ e
    cases h; omega
  · rw [if_neg e] at h; cases h
theorem g_ex_far {B : Nat → Int} {n : Nat} (hB : ∀ k, 0 ≤ B k) (hw : ∀ i q, i < 49 → g_isW B n i q → 1 ≤ g_len i ∧ g_len i + q ≤ n) (hl : ∀ i, i < 49 → 1 ≤ g_len i) : ∀ f k o p p' cs, k < 5 → p ≤ n → g_ex B n f k o p = g_Re.ok p' cs → g_far n k p p' cs
  | 0, _, _, _, _, _, _, _, h => by cases h
  | f + 1, k, o, p, p', cs, hk, hp, h => by
    have ih := g_ex_far hB hw hl f
    have hq := g_sk_r (B := B) hp
    unfold g_ex at h
    rcases (show k = 0 ∨ k = 1 ∨ k = 2 ∨ k = 3 ∨ k = 4 by omega) with rfl | rfl | rfl | rfl | rfl
    · rw [if_pos rfl] at h
      unfold g_fac at h
      generalize g_sk B n p = q at hq h
      by_cases c1 : g_dg (g_bt B n q)
      · rw [if_pos c1] at h
        by_cases c2 : g_nv B n q 0 ≤ 999999
        · rw [if_pos c2] at h
          have h3 := g_nd_gt hq.2 c1
          have h4 := g_nv_r (B := B) (n := n) _ q 0 (Nat.lt_succ_self _) (by decide) (by decide)
          cases h
          refine ⟨h3.2, ?_⟩
          rw [if_neg (by decide), g_el_pos h4.1, g_el_nil]
          omega
        · rw [if_neg c2] at h; cases h
      rw [if_neg c1] at h
      by_cases w1 : g_isW B n 35 q
      · rw [if_pos w1] at h; have := hw 35 q (by decide) w1; cases h; refine ⟨this.2, ?_⟩; rw [if_neg (by decide), g_el_neg (by decide), g_el_nil]; omega
      rw [if_neg w1] at h
      by_cases w1 : g_isW B n 36 q
      · rw [if_pos w1] at h; have := hw 36 q (by decide) w1; cases h; refine ⟨this.2, ?_⟩; rw [if_neg (by decide), g_el_neg (by decide), g_el_nil]; omega
      rw [if_neg w1] at h
      by_cases w1 : g_isW B n 37 q
      · rw [if_pos w1] at h; have := hw 37 q (by decide) w1; cases h; refine ⟨this.2, ?_⟩; rw [if_neg (by decide), g_el_neg (by decide), g_el_nil]; omega
      rw [if_neg w1] at h
      by_cases w1 : g_isW B n 38 q
      · rw [if_pos w1] at h; have := hw 38 q (by decide) w1; cases h; refine ⟨this.2, ?_⟩; rw [if_neg (by decide), g_el_neg (by decide), g_el_nil]; omega
      rw [if_neg w1] at h
      by_cases b1 : g_bt B n q = 40
      · rw [if_pos b1] at h
        have hqn := g_bt_in (B := B) (n := n) (k := q) (by rw [b1]; decide)
        unfold g_facB at h
        by_cases o3 : o = 3
        · rw [if_pos o3] at h; cases h
        rw [if_neg o3] at h
        obtain ⟨p1, c1', e1, h⟩ := g_bd_ok h
        obtain ⟨p2, c2', e2, h⟩ := g_bd_ok h
        have i1 := ih _ _ _ _ _ (by decide) (by omega) e1
        have i2 := g_sig_ok (by decide) i1.1 e2
        have i3 := i1.2
        rw [if_neg (by decide)] at i3
        cases h
        refine ⟨i2.2, ?_⟩
        rw [if_neg (by decide)]
        omega
      rw [if_neg b1] at h
      by_cases w2 : g_isW B n 44 q
      · rw [if_pos w2] at h
        have hw2 := hw 44 q (by decide) w2
        have hq2 := g_sk_r (B := B) hw2.2
        generalize g_sk B n (g_len 44 + q) = q2 at hq2 h
        unfold g_facM at h
        by_cases b1 : g_bt B n q2 = 40
        · rw [if_pos b1] at h
          have hqn := g_bt_in (B := B) (n := n) (k := q2) (by rw [b1]; decide)
          by_cases o3 : o = 3
          · rw [if_pos o3] at h; cases h
          rw [if_neg o3] at h
          obtain ⟨p1, c1', e1, h⟩ := g_bd_ok h
          obtain ⟨p2, c2', e2, h⟩ := g_bd_ok h
          obtain ⟨p3, c3', e3, h⟩ := g_bd_ok h
          obtain ⟨p4, c4', e4, h⟩ := g_bd_ok h
          have i1 := ih _ _ _ _ _ (by decide) (by omega) e1
          have i2 := g_sig_ok (by decide) i1.1 e2
          have i3 := ih _ _ _ _ _ (by decide) i2.2 e3
          have i4 := g_sig_ok (by decide) i3.1 e4
          have j1 := i1.2
          have j3 := i3.2
          rw [if_neg (by decide)] at j1 j3
          cases h
          refine ⟨i4.2, ?_⟩
          rw [if_neg (by decide), g_el_app, g_el_app, g_el_neg (by decide), g_el_nil]
          omega
        · rw [if_neg b1] at h; cases h
      rw [if_neg w2] at h
      by_cases w3 : g_isW B n 45 q
      · rw [if_pos w3] at h
        have hw3 := hw 45 q (by decide) w3
        unfold g_facI at h
        by_cases o3 : o = 3
        · rw [if_pos o3] at h; cases h
        rw [if_neg o3] at h
        obtain ⟨p1, c1', e1, h⟩ := g_bd_ok h
        obtain ⟨p2, c2', e2, h⟩ := g_bd_ok h
        obtain ⟨p3, c3', e3, h⟩ := g_bd_ok h
        obtain ⟨p4, c4', e4, h⟩ := g_bd_ok h
        obtain ⟨p5, c5', e5, h⟩ := g_bd_ok h
        obtain ⟨p6, c6', e6, h⟩ := g_bd_ok h
        obtain ⟨p7, c7', e7, h⟩ := g_bd_ok h
        have i1 := ih _ _ _ _ _ (by decide) hw3.2 e1
        have i2 := g_mst_ok (fun q h => (hw 46 q (by decide) h).2) (hl 46 (by decide)) i1.1 e2
        have i3 := ih _ _ _ _ _ (by decide) i2.2 e3
        have i4 := g_mst_ok (fun q h => (hw 47 q (by decide) h).2) (hl 47 (by decide)) i3.1 e4
        have i5 := ih _ _ _ _ _ (by decide) i4.2 e5
        have i6 := g_mst_ok (fun q h => (hw 48 q (by decide) h).2) (hl 48 (by decide)) i5.1 e6
        have i7 := ih _ _ _ _ _ (by decide) i6.2 e7
        have j1 := i1.2
        have j3 := i3.2
        have j5 := i5.2
        have j7 := i7.2
        rw [if_neg (by decide)] at j1 j3 j5 j7
        cases h
        refine ⟨i7.1, ?_⟩
        rw [if_neg (by decide), g_el_app, g_el_app, g_el_app, g_el_app, g_el_neg (by decide), g_el_nil]
        omega
      · rw [if_neg w3] at h; cases h
    · rw [if_neg (by decide), if_pos rfl] at h
      obtain ⟨p1, c1', e1, h⟩ := g_bd_ok h
      obtain ⟨p2, c2', e2, h⟩ := g_bd_ok h
      have i1 := ih _ _ _ _ _ (by decide) hp e1
      have i2 := ih _ _ _ _ _ (by decide) i1.1 e2
      have j1 := i1.2
      have j2 := i2.2
      rw [if_neg (by decide)] at j1
      rw [if_pos (by decide)] at j2
      cases h
      refine ⟨i2.1, ?_⟩
      rw [if_neg (by decide), g_el_app]
      omega
    · rw [if_neg (by decide), if_neg (by decide), if_pos rfl] at h
      unfold g_prL at h
      generalize g_sk B n p = q at hq h
      by_cases b1 : g_bt B n q = 42 ∨ g_bt B n q = 47
      · rw [if_pos b1] at h
        have hqn := g_bt_in (B := B) (n := n) (k := q) (by omega)
        obtain ⟨p1, c1', e1, h⟩ := g_bd_ok h
        obtain ⟨p2, c2', e2, h⟩ := g_bd_ok h
        have i1 := ih _ _ _ _ _ (by decide) (by omega) e1
        have i2 := ih _ _ _ _ _ (by decide) i1.1 e2
        have j1 := i1.2
        have j2 := i2.2
        rw [if_neg (by decide)] at j1
        rw [if_pos (by decide)] at j2
        cases h
        refine ⟨i2.1, ?_⟩
        rw [if_pos (by decide), g_el_app, g_el_neg (by split <;> decide)]
        omega
      · rw [if_neg b1] at h
        cases h
        refine ⟨hq.2, ?_⟩
        rw [if_pos (by decide), g_el_nil]
        omega
    · rw [if_neg (by decide), if_neg (by decide), if_neg (by decide), if_pos rfl] at h
      obtain ⟨p1, c1', e1, h⟩ := g_bd_ok h
      obtain ⟨p2, c2', e2, h⟩ := g_bd_ok h
      have i1 := ih _ _ _ _ _ (by decide) hp e1
      have i2 := ih _ _ _ _ _ (by decide) i1.1 e2
      have j1 := i1.2
      have j2 := i2.2
      rw [if_neg (by decide)] at j1
      rw [if_pos (by decide)] at j2
      cases h
      refine ⟨i2.1, ?_⟩
      rw [if_neg (by decide), g_el_app]
      omega
    · rw [if_neg (by decide), if_neg (by decide), if_neg (by decide), if_neg (by decide)] at h
      unfold g_smL at h
      generalize g_sk B n p = q at hq h
      by_cases b1 : g_bt B n q = 43 ∨ g_bt B n q = 45
      · rw [if_pos b1] at h
        have hqn := g_bt_in (B := B) (n := n) (k := q) (by omega)
        obtain ⟨p1, c1', e1, h⟩ := g_bd_ok h
        obtain ⟨p2, c2', e2, h⟩ := g_bd_ok h
        have i1 := ih _ _ _ _ _ (by decide) (by omega) e1
        have i2 := ih _ _ _ _ _ (by decide) i1.1 e2
        have j1 := i1.2
        have j2 := i2.2
        rw [if_neg (by decide)] at j1
        rw [if_pos (by decide)] at j2
        cases h
        refine ⟨i2.1, ?_⟩
        rw [if_pos (by decide), g_el_app, g_el_neg (by split <;> decide)]
        omega
      · rw [if_neg b1] at h
        cases h
        refine ⟨hq.2, ?_⟩
        rw [if_pos (by decide), g_el_nil]
        omega
theorem g_ex_0 {B : Nat → Int} {n f o p : Nat} : g_ex B n (f + 1) 0 o p = g_fac B n (g_ex B n f) o (g_sk B n p) := by
  rw [g_ex, if_pos rfl]
theorem g_ex_1 {B : Nat → Int} {n f o p : Nat} : g_ex B n (f + 1) 1 o p = (g_ex B n f 0 o p).bd fun p1 c1 => (g_ex B n f 2 o p1).bd fun p2 c2 => .ok p2 (c1 ++ c2) := by
  rw [g_ex, if_neg (by decide), if_pos rfl]
theorem g_ex_2 {B : Nat → Int} {n f o p : Nat} : g_ex B n (f + 1) 2 o p = g_prL B n (g_ex B n f) o (g_sk B n p) := by
  rw [g_ex, if_neg (by decide), if_neg (by decide), if_pos rfl]
theorem g_ex_3 {B : Nat → Int} {n f o p : Nat} : g_ex B n (f + 1) 3 o p = (g_ex B n f 1 o p).bd fun p1 c1 => (g_ex B n f 4 o p1).bd fun p2 c2 => .ok p2 (c1 ++ c2) := by
  rw [g_ex, if_neg (by decide), if_neg (by decide), if_neg (by decide), if_pos rfl]
theorem g_ex_4 {B : Nat → Int} {n f o p : Nat} : g_ex B n (f + 1) 4 o p = g_smL B n (g_ex B n f) o (g_sk B n p) := by
  rw [g_ex, if_neg (by decide), if_neg (by decide), if_neg (by decide), if_neg (by decide)]
theorem g_app_neg {c : Int} (h : c < 0) (cs : List Int) (t : Nat → Int) (k : Nat) : g_app t k (g_encs (c :: cs)) = g_app (g_up t k (1 - c)) (k + 1) (g_encs cs) := by
  show g_app t k (g_enc c ++ g_encs cs) = _
  unfold g_enc
  rw [if_neg (by omega)]
  rfl
theorem g_app_pos {c : Int} (h : 0 ≤ c) (cs : List Int) (t : Nat → Int) (k : Nat) : g_app t k (g_encs (c :: cs)) = g_app (g_up (g_up t k 1) (k + 1) c) (k + 1 + 1) (g_encs cs) := by
  show g_app t k (g_enc c ++ g_encs cs) = _
  unfold g_enc
  rw [if_pos h]
  rfl
theorem g_app_nil (t : Nat → Int) (k : Nat) : g_app t k (g_encs []) = t := rfl
theorem g_words_ok : ∀ i, i < 49 → 1 ≤ g_len i := by decide +kernel
theorem g_far_of {I : q_I} {m n : Nat} {B : Nat → Int} (hB : q_BT I m B n) {f k o p p' : Nat} {cs : List Int} (hk : k < 5) (hp : p ≤ n) (h : g_ex B n f k o p = .ok p' cs) : g_far n k p p' cs :=
  g_ex_far (fun k => (hB.2.2.2 k).1) (fun i q hi hw => ⟨g_words_ok i hi, g_isW_n (g_words_ok i hi) (fun k hk => by have := g_ch_r hi hk; omega) hw⟩) g_words_ok f k o p p' cs hk hp h
theorem q_Qeq {Q : q_Q} {a : Option Value ⊕ String} {sz : Nat} {T : q_T} {P : q_P} {I I' L L' : q_I} (h : Q a sz T I L P) (h1 : I = I') (h2 : L = L') : Q a sz T I' L' P := by subst h1 h2; exact h
/-- what is asked of a method that reads part k of an expression, with fuel f -/
abbrev q_CE (G : q_G) (T : q_T) (P : q_P) (m n : Nat) (B : Nat → Int) (f k : Nat) (Y : q_Y) (hh : Nat → Nat) : Prop :=
  ∀ (sz : Nat) (I L : q_I) (Q : q_Q) (s : g_PS) (t : Nat → Int) (o : Nat) (r : g_Re), q_BT I m B n → s.p ≤ n → s.fl = 0 → s.op = (o : Int) → o ≤ 3 → 2 * s.cd + 3 ≤ 3 * s.p → g_ex B n f k o s.p = r → r ≠ .er 0 0 →
    (∀ p' cs, r = .ok p' cs → Q (.inl none) sz T (q_ps I m (g_mk p' s.fl s.fa (s.cd + g_el cs) s.op s.on s.hp)) (q_row L (m + 4) (g_app t (139 + s.cd) (g_encs cs))) P) →
    (∀ (w : Int) (x : Nat) (s' : g_PS) (t' : Nat → Int), r = .er w x → (1 ≤ w ∧ w ≤ 7) → s'.fl = w → s'.fa = (x : Int) → s'.p ≤ n → s'.on = s.on → s'.hp = s.hp → Q (.inl none) sz T (q_ps I m s') (q_row L (m + 4) t') P) →
    qC G (hh o) 0 0 Y [.ref m] sz T (q_ps I m s) (q_row L (m + 4) t) P Q
/-- the same of a loop -/
abbrev q_LE (G : q_G) (T : q_T) (P : q_P) (m n : Nat) (B : Nat → Int) (f k : Nat) (Y : q_Y) (pc : Nat) (hh : Nat → Nat) : Prop :=
  ∀ (F : q_F) (h kc ks sz : Nat) (I L : q_I) (Q : q_Q) (s : g_PS) (t : Nat → Int) (o : Nat) (r : g_Re), q_ok G F Y h → hh o ≤ h → q_BT I m B n → s.p ≤ n → s.fl = 0 → s.op = (o : Int) → o ≤ 3 → 2 * s.cd + 2 ≤ 3 * s.p → g_ex B n f k o s.p = r → r ≠ .er 0 0 →
    (∀ p' cs, r = .ok p' cs → Q (.inl none) sz T (q_ps I m (g_mk p' s.fl s.fa (s.cd + g_el cs) s.op s.on s.hp)) (q_row L (m + 4) (g_app t (139 + s.cd) (g_encs cs))) P) →
    (∀ (w : Int) (x : Nat) (s' : g_PS) (t' : Nat → Int), r = .er w x → (1 ≤ w ∧ w ≤ 7) → s'.fl = w → s'.fa = (x : Int) → s'.p ≤ n → s'.on = s.on → s'.hp = s.hp → Q (.inl none) sz T (q_ps I m s') (q_row L (m + 4) t') P) →
    qX G F Q kc ks pc [(0, .ref m)] [] sz T (q_ps I m s) (q_row L (m + 4) t) P
theorem mX8_herePQ {G : q_G} {sz : Nat} {T : q_T} {I L : q_I} {P : q_P} {Q : q_Q} {m n : Nat} {s : g_PS} {q : Nat} {B : Nat → Int} (hS : q_SM T P m) (hSA : q_A G m) (hB : q_BT I m B n) (hp : s.p ≤ n) (hsk : g_sk B n s.p = q) (k0 : Q (.inl (some (qI (g_bt B n (q))))) sz T (q_ps I m (g_mk (q) s.fl s.fa s.cd s.op s.on s.hp)) L P) : qC G 1 0 0 YX8_here [.ref m] sz T (q_ps I m s) L P Q := by
  subst hsk
  exact mX8_hereP hS hSA hB hp k0
theorem mX8_isWordPQ {G : q_G} {sz : Nat} {T : q_T} {I L : q_I} {P : q_P} {Q : q_Q} {m : Nat} {i : Nat} {s : g_PS} {q : Nat} {B : Nat → Int} {n : Nat} (hS : q_SM T P m) (hSA : q_A G m) (hB : q_BT I m B n) (hi : i < 49) (hp : s.p ≤ n) (hsk : g_sk B n s.p = q) (k0 : Q (.inl (some (qI (q_b (g_isW B n i (q)))))) sz T (q_ps I m (g_mk (q) s.fl s.fa s.cd s.op s.on s.hp)) L P) : qC G 4 0 0 YX8_isWord [.ref m, .ref (q_KS G i)] sz T (q_ps I m s) L P Q := by
  subst hsk
  exact mX8_isWordP hS hSA hB hi hp k0
theorem mX8_takesPQ {G : q_G} {sz : Nat} {T : q_T} {I L : q_I} {P : q_P} {Q : q_Q} {m : Nat} {i : Nat} {s : g_PS} {q : Nat} {B : Nat → Int} {n : Nat} (hS : q_SM T P m) (hSA : q_A G m) (hB : q_BT I m B n) (hi : i < 49) (hp : s.p ≤ n) (hfl : s.fl = 0) (hsk : g_sk B n s.p = q) (k0 : ¬ (g_isW B n i (q)) → Q (.inl (some (qI 0))) sz T (q_ps I m (g_mk (q) s.fl s.fa s.cd s.op s.on s.hp)) L P) (k1 : g_isW B n i (q) → Q (.inl (some (qI 1))) sz T (q_ps I m (g_mk (g_len i + (q)) s.fl s.fa s.cd s.op s.on s.hp)) L P) : qC G 5 0 0 YX8_takes [.ref m, .ref (q_KS G i)] sz T (q_ps I m s) L P Q := by
  subst hsk
  exact mX8_takesP hS hSA hB hi hp hfl k0 k1
theorem mX8_mustPQ {G : q_G} {sz : Nat} {T : q_T} {I L : q_I} {P : q_P} {Q : q_Q} {m : Nat} {i : Nat} {s : g_PS} {q : Nat} {B : Nat → Int} {n : Nat} (hS : q_SM T P m) (hSA : q_A G m) (hB : q_BT I m B n) (hi : i < 49) (hp : s.p ≤ n) (hfl : s.fl = 0) (hsk : g_sk B n s.p = q) (k0 : g_isW B n i (q) → Q (.inl none) sz T (q_ps I m (g_mk (g_len i + (q)) s.fl s.fa s.cd s.op s.on s.hp)) L P) (k1 : ¬ (g_isW B n i (q)) → Q (.inl none) sz T (q_ps I m (g_mk (q) 1 ((q : Nat) : Int) s.cd s.op s.on s.hp)) L P) : qC G 6 0 0 YX8_must [.ref m, .ref (q_KS G i)] sz T (q_ps I m s) L P Q := by
  subst hsk
  exact mX8_mustP hS hSA hB hi hp hfl k0 k1
theorem mX8_signPQ {G : q_G} {sz : Nat} {T : q_T} {I L : q_I} {P : q_P} {Q : q_Q} {m : Nat} {c : Int}  {s : g_PS} {q : Nat} {B : Nat → Int} {n : Nat} (hS : q_SM T P m) (hSA : q_A G m) (hB : q_BT I m B n) (hc : 0 ≤ c ∧ c ≤ 255) (hp : s.p ≤ n) (hfl : s.fl = 0) (hsk : g_sk B n s.p = q) (k0 : g_bt B n (q) = c → Q (.inl none) sz T (q_ps I m (g_mk (1 + (q)) s.fl s.fa s.cd s.op s.on s.hp)) L P) (k1 : g_bt B n (q) ≠ c → Q (.inl none) sz T (q_ps I m (g_mk (q) 1 ((q : Nat) : Int) s.cd s.op s.on s.hp)) L P) : qC G 2 0 0 YX8_sign [.ref m, qI c] sz T (q_ps I m s) L P Q := by
  subst hsk
  exact mX8_signP hS hSA hB hc hp hfl k0 k1
theorem mX8_numberPQ {G : q_G} {sz : Nat} {T : q_T} {I L : q_I} {P : q_P} {Q : q_Q} {m : Nat} {lo : Int} {hi : Int}  {s : g_PS} {q : Nat} {B : Nat → Int} {n : Nat} (hS : q_SM T P m) (hSA : q_A G m) (hB : q_BT I m B n) (hlo : 0 ≤ lo ∧ lo ≤ 1000000) (hhi : 0 ≤ hi ∧ hi ≤ 1000000) (hp : s.p ≤ n) (hfl : s.fl = 0) (hsk : g_sk B n s.p = q) (k0 : ¬ (48 ≤ g_bt B n (q) ∧ g_bt B n (q) ≤ 57) → Q (.inl (some (qI 0))) sz T (q_ps I m (g_mk (q) 1 ((q : Nat) : Int) s.cd s.op s.on s.hp)) L P) (k1 : 48 ≤ g_bt B n (q) ∧ g_bt B n (q) ≤ 57 → lo ≤ g_nv B n (q) 0 ∧ g_nv B n (q) 0 ≤ hi → Q (.inl (some (qI (g_nv B n (q) 0)))) sz T (q_ps I m (g_mk (g_nd B n (q)) s.fl s.fa s.cd s.op s.on s.hp)) L P) (k2 : 48 ≤ g_bt B n (q) ∧ g_bt B n (q) ≤ 57 → ¬ (lo ≤ g_nv B n (q) 0 ∧ g_nv B n (q) 0 ≤ hi) → Q (.inl (some (qI (g_nv B n (q) 0)))) sz T (q_ps I m (g_mk (g_nd B n (q)) 2 ((q : Nat) : Int) s.cd s.op s.on s.hp)) L P) : qC G 2 0 0 YX8_number [.ref m, qI lo, qI hi] sz T (q_ps I m s) L P Q := by
  subst hsk
  exact mX8_numberP hS hSA hB hlo hhi hp hfl k0 k1 k2
set_option maxRecDepth 100000 in
theorem mX8_factor0 {G : q_G} {sz : Nat} {T : q_T} {I L : q_I} {P : q_P} {Q : q_Q} {m : Nat}  {s : g_PS}  {t : Nat → Int} (hS : q_SM T P m) (hSA : q_A G m) (her : s.fl ≠ 0) (hrf : -2147483648 ≤ s.fl ∧ s.fl < 2147483648) (k0 : Q (.inl none) sz T (q_ps I m s) (q_row L (m + 4) t) P) : qC G 1 0 0 YX8_factor [.ref m] sz T (q_ps I m s) (q_row L (m + 4) t) P Q := by
  refine qC_of (by decide +kernel) rfl rfl (Nat.le_of_ble_eq_true rfl) (fun F hF _ _ => ?_)
  refine q_aload_n hF 0 rfl rfl dX8_factor_0 ?_
  refine q_callV (kc := 0) (ks := 0) (mc' := 0) (ms' := 0) (h' := 0) (st := []) hF vl_RX8_95 rfl [] rfl rfl hS.t0 (by decide) (Nat.le_of_ble_eq_true rfl) dX8_factor_1 ?_
  refine mX8_fine0 hS her (show -2147483648 ≤ s.fl ∧ s.fl < 2147483648 by first | decide | omega | assumption) ?_
  refine q_ifne hF (by decide) dX8_factor_4 (fun c4 => ?_) (fun c4 => ?_)
  · exact absurd c4 (by decide)
  · refine q_return hF rfl dX8_factor_7 ?_
    exact k0
set_option maxRecDepth 100000 in
theorem mX8_product0 {G : q_G} {sz : Nat} {T : q_T} {I L : q_I} {P : q_P} {Q : q_Q} {m : Nat}  {s : g_PS}  {t : Nat → Int} (hS : q_SM T P m) (hSA : q_A G m) (her : s.fl ≠ 0) (hrf : -2147483648 ≤ s.fl ∧ s.fl < 2147483648) (k0 : Q (.inl none) sz T (q_ps I m s) (q_row L (m + 4) t) P) : qC G 2 0 0 YX8_product [.ref m] sz T (q_ps I m s) (q_row L (m + 4) t) P Q := by
  refine qC_of (by decide +kernel) rfl rfl (Nat.le_of_ble_eq_true rfl) (fun F hF _ _ => ?_)
  refine q_aload_n hF 0 rfl rfl dX8_product_0 ?_
  refine q_callV (kc := 0) (ks := 0) (mc' := 0) (ms' := 0) (h' := 1) (st := []) hF vl_RX8_210 rfl [] rfl rfl hS.t0 (by decide) (Nat.le_of_ble_eq_true rfl) dX8_product_1 ?_
  refine mX8_factor0 hS hSA her (show -2147483648 ≤ s.fl ∧ s.fl < 2147483648 by first | decide | omega | assumption) ?_
  refine q_aload_n hF 0 rfl rfl dX8_product_4 ?_
  refine q_callV (kc := 0) (ks := 0) (mc' := 0) (ms' := 0) (h' := 0) (st := []) hF vl_RX8_95 rfl [] rfl rfl hS.t0 (by decide) (Nat.le_of_ble_eq_true rfl) dX8_product_5 ?_
  refine mX8_fine0 hS her (show -2147483648 ≤ s.fl ∧ s.fl < 2147483648 by first | decide | omega | assumption) ?_
  refine q_ifeq hF (by decide) dX8_product_8 (fun c8 => ?_) (fun c8 => ?_)
  · refine q_return hF rfl dX8_product_68 ?_
    exact k0
  · exact absurd c8 (by decide)
set_option maxRecDepth 100000 in
theorem mX8_sum0 {G : q_G} {sz : Nat} {T : q_T} {I L : q_I} {P : q_P} {Q : q_Q} {m : Nat}  {s : g_PS}  {t : Nat → Int} (hS : q_SM T P m) (hSA : q_A G m) (her : s.fl ≠ 0) (hrf : -2147483648 ≤ s.fl ∧ s.fl < 2147483648) (k0 : Q (.inl none) sz T (q_ps I m s) (q_row L (m + 4) t) P) : qC G 3 0 0 YX8_sum [.ref m] sz T (q_ps I m s) (q_row L (m + 4) t) P Q := by
  refine qC_of (by decide +kernel) rfl rfl (Nat.le_of_ble_eq_true rfl) (fun F hF _ _ => ?_)
  refine q_aload_n hF 0 rfl rfl dX8_sum_0 ?_
  refine q_callV (kc := 0) (ks := 0) (mc' := 0) (ms' := 0) (h' := 2) (st := []) hF vl_RX8_217 rfl [] rfl rfl hS.t0 (by decide) (Nat.le_of_ble_eq_true rfl) dX8_sum_1 ?_
  refine mX8_product0 hS hSA her (show -2147483648 ≤ s.fl ∧ s.fl < 2147483648 by first | decide | omega | assumption) ?_
  refine q_aload_n hF 0 rfl rfl dX8_sum_4 ?_
  refine q_callV (kc := 0) (ks := 0) (mc' := 0) (ms' := 0) (h' := 0) (st := []) hF vl_RX8_95 rfl [] rfl rfl hS.t0 (by decide) (Nat.le_of_ble_eq_true rfl) dX8_sum_5 ?_
  refine mX8_fine0 hS her (show -2147483648 ≤ s.fl ∧ s.fl < 2147483648 by first | decide | omega | assumption) ?_
  refine q_ifeq hF (by decide) dX8_sum_8 (fun c8 => ?_) (fun c8 => ?_)
  · refine q_return hF rfl dX8_sum_68 ?_
    exact k0
  · exact absurd c8 (by decide)
set_option maxRecDepth 100000 in
theorem sX8_factor {G : q_G} {T : q_T} {P : q_P} {m n : Nat} {B : Nat → Int} {f : Nat} (hS : q_SM T P m) (hSA : q_A G m) (ih0 : q_CE G T P m n B f 0 YX8_factor (fun o => 9 + 3 * (3 - o))) (ih3 : q_CE G T P m n B f 3 YX8_sum (fun o => 9 + 3 * (3 - o) + 2)) : q_CE G T P m n B (f + 1) 0 YX8_factor (fun o => 9 + 3 * (3 - o)) := by
  intro sz I L Q s t o r hB hp hfl hop ho hcd hx hne k0 k1
  show qC G (9 + 3 * (3 - o)) _ _ _ _ _ _ _ _ _ _
  refine qC_of (by decide +kernel) rfl rfl (Nat.le_of_ble_eq_true rfl) (fun F hF _ _ => ?_)
  have hn6 := hB.2.1
  refine q_aload_n hF 0 rfl rfl dX8_factor_0 ?_
  refine q_callV (kc := 0) (ks := 0) (mc' := 0) (ms' := 0) (h' := 0) (st := []) hF vl_RX8_95 rfl [] rfl rfl hS.t0 (by omega) (Nat.le_of_ble_eq_true rfl) dX8_factor_1 ?_
  refine mX8_fineA hS hfl ?_
  refine q_ifne hF (by decide) dX8_factor_4 (fun c4 => ?_) (fun c4 => ?_)
  · obtain ⟨q, hsk⟩ : ∃ q, g_sk B n s.p = q := ⟨_, rfl⟩
    have hq := g_sk_r (B := B) hp
    rw [hsk] at hq
    have hqq : g_sk B n q = q := by rw [← hsk]; exact g_sk_sk hp
    have hx2 : g_fac B n (g_ex B n f) o q = r := by rw [← hx, g_ex_0, hsk]
    refine q_aload_n hF 0 rfl rfl dX8_factor_8 ?_
    refine q_callV (kc := 0) (ks := 0) (mc' := 0) (ms' := 0) (h' := 1) (st := []) hF vl_RX8_78 rfl [] rfl rfl hS.t0 (by omega) (Nat.le_of_ble_eq_true rfl) dX8_factor_9 ?_
    refine mX8_herePQ (B := B) (n := n) hS hSA hB (show s.p ≤ n by omega) hsk ?_
    show qX G F Q 0 0 12 [(0, .ref m)] [qI (g_bt B n q)] sz T (q_ps I m (g_mk q s.fl s.fa s.cd s.op s.on s.hp)) (q_row L (m + 4) t) P
    refine q_istore_n hF (ls' := [(1, qI (g_bt B n q)), (0, .ref m)]) rfl (by decide) rfl dX8_factor_12 ?_
    refine q_aload_n hF 1 rfl rfl dX8_factor_13 ?_
    refine q_getIv hF (z := (q : Int)) fl_RX8_65 hS.t0 q_ps_4 dX8_factor_14 ?_
    refine q_istore_n hF (ls' := [(2, qI (q : Int)), (1, qI (g_bt B n q)), (0, .ref m)]) rfl (by decide) rfl dX8_factor_17 ?_
    refine q_iload_n hF 1 rfl rfl dX8_factor_18 ?_
    refine q_callS (kc := 0) (ks := 0) (mc' := 0) (ms' := 0) (h' := 0) (st := []) hF sl_RX8_110 rfl [qI (g_bt B n q)] rfl rfl (by omega) (Nat.le_of_ble_eq_true rfl) dX8_factor_19 ?_
    refine mX8_isDigit (g_bt_32 hB _) ?_
    refine q_ifeq_b hF dX8_factor_22 (fun c22 => ?_) (fun c22 => ?_)
    · skip
      refine q_iconst hF dX8_factor_44 ?_
      refine q_istore_n hF (ls' := [(3, qI 0), (2, qI (q : Int)), (1, qI (g_bt B n q)), (0, .ref m)]) rfl (by decide) rfl dX8_factor_45 ?_
      refine q_iload_n hF 0 rfl rfl dX8_factor_46 ?_
      refine q_iconst hF dX8_factor_47 ?_
      refine q_icmpge hF (by decide) (by decide) dX8_factor_48 (fun c48 => ?_) (fun c48 => ?_)
      · exact absurd c48 (by decide)
      · refine q_aload_n hF 3 rfl rfl dX8_factor_51 ?_
        refine q_bipush hF (n := 8) rfl dX8_factor_52 ?_
        refine q_iload_n hF 0 rfl rfl dX8_factor_54 ?_
        refine q_iadd hF dX8_factor_55 ?_
        refine q_callS (kc := 0) (ks := 0) (mc' := 0) (ms' := 0) (h' := 0) (st := [.ref m]) hF sl_RX8_172 rfl [qI (8 + 0)] rfl rfl (by omega) (Nat.le_of_ble_eq_true rfl) dX8_factor_56 ?_
        refine mX8_wordOf (k := 8) (by omega) ?_
        refine q_callV (kc := 0) (ks := 0) (mc' := 0) (ms' := 0) (h' := 5) (st := []) hF vl_RX8_103 rfl [.ref (q_KS G 35)] rfl rfl hS.t0 (by omega) (Nat.le_of_ble_eq_true rfl) dX8_factor_59 ?_
        refine mX8_takesPQ (i := 35) hS hSA hB (by decide) (show q ≤ n by omega) hfl hqq (fun (c59_0_5 : ¬ (g_isW B n 35 q)) => ?_) (fun (c59_0_5 : g_isW B n 35 q) => ?_)
        · show qX G F Q 0 0 62 [(3, qI 0), (2, qI (q : Int)), (1, qI (g_bt B n q)), (0, .ref m)] [qI 0] sz T (q_ps I m (g_mk q s.fl s.fa s.cd s.op s.on s.hp)) (q_row L (m + 4) t) P
          refine q_ifne hF (by decide) dX8_factor_62 (fun c62 => ?_) (fun c62 => ?_)
          · exact absurd c62 (by decide)
          · refine q_goto hF dX8_factor_65 ?_
            skip
            refine q_iinc hF (z' := 1) (ls' := [(3, qI 1), (2, qI (q : Int)), (1, qI (g_bt B n q)), (0, .ref m)]) 0 rfl (by first | rfl | omega) (by decide) rfl dX8_factor_76 ?_
            refine q_goto hF dX8_factor_79 ?_
            refine q_iload_n hF 0 rfl rfl dX8_factor_46 ?_
            refine q_iconst hF dX8_factor_47 ?_
            refine q_icmpge hF (by decide) (by decide) dX8_factor_48 (fun c48 => ?_) (fun c48 => ?_)
            · exact absurd c48 (by decide)
            · refine q_aload_n hF 3 rfl rfl dX8_factor_51 ?_
              refine q_bipush hF (n := 8) rfl dX8_factor_52 ?_
              refine q_iload_n hF 0 rfl rfl dX8_factor_54 ?_
              refine q_iadd hF dX8_factor_55 ?_
              refine q_callS (kc := 0) (ks := 0) (mc' := 0) (ms' := 0) (h' := 0) (st := [.ref m]) hF sl_RX8_172 rfl [qI (8 + 1)] rfl rfl (by omega) (Nat.le_of_ble_eq_true rfl) dX8_factor_56 ?_
              refine mX8_wordOf (k := 9) (by omega) ?_
              refine q_callV (kc := 0) (ks := 0) (mc' := 0) (ms' := 0) (h' := 5) (st := []) hF vl_RX8_103 rfl [.ref (q_KS G 36)] rfl rfl hS.t0 (by omega) (Nat.le_of_ble_eq_true rfl) dX8_factor_59 ?_
              refine mX8_takesPQ (i := 36) hS hSA hB (by decide) (show q ≤ n by omega) hfl hqq (fun (c59_0_7 : ¬ (g_isW B n 36 q)) => ?_) (fun (c59_0_7 : g_isW B n 36 q) => ?_)
              · show qX G F Q 0 0 62 [(3, qI 1), (2, qI (q : Int)), (1, qI (g_bt B n q)), (0, .ref m)] [qI 0] sz T (q_ps I m (g_mk q s.fl s.fa s.cd s.op s.on s.hp)) (q_row L (m + 4) t) P
                refine q_ifne hF (by decide) dX8_factor_62 (fun c62 => ?_) (fun c62 => ?_)
                · exact absurd c62 (by decide)
                · refine q_goto hF dX8_factor_65 ?_
                  skip
                  refine q_iinc hF (z' := 2) (ls' := [(3, qI 2), (2, qI (q : Int)), (1, qI (g_bt B n q)), (0, .ref m)]) 0 rfl (by first | rfl | omega) (by decide) rfl dX8_factor_76 ?_
                  refine q_goto hF dX8_factor_79 ?_
                  refine q_iload_n hF 0 rfl rfl dX8_factor_46 ?_
                  refine q_iconst hF dX8_factor_47 ?_
                  refine q_icmpge hF (by decide) (by decide) dX8_factor_48 (fun c48 => ?_) (fun c48 => ?_)
                  · exact absurd c48 (by decide)
                  · refine q_aload_n hF 3 rfl rfl dX8_factor_51 ?_
                    refine q_bipush hF (n := 8) rfl dX8_factor_52 ?_
                    refine q_iload_n hF 0 rfl rfl dX8_factor_54 ?_
                    refine q_iadd hF dX8_factor_55 ?_
                    refine q_callS (kc := 0) (ks := 0) (mc' := 0) (ms' := 0) (h' := 0) (st := [.ref m]) hF sl_RX8_172 rfl [qI (8 + 2)] rfl rfl (by omega) (Nat.le_of_ble_eq_true rfl) dX8_factor_56 ?_
                    refine mX8_wordOf (k := 10) (by omega) ?_
                    refine q_callV (kc := 0) (ks := 0) (mc' := 0) (ms' := 0) (h' := 5) (st := []) hF vl_RX8_103 rfl [.ref (q_KS G 37)] rfl rfl hS.t0 (by omega) (Nat.le_of_ble_eq_true rfl) dX8_factor_59 ?_
                    refine mX8_takesPQ (i := 37) hS hSA hB (by decide) (show q ≤ n by omega) hfl hqq (fun (c59_0_9 : ¬ (g_isW B n 37 q)) => ?_) (fun (c59_0_9 : g_isW B n 37 q) => ?_)
                    · show qX G F Q 0 0 62 [(3, qI 2), (2, qI (q : Int)), (1, qI (g_bt B n q)), (0, .ref m)] [qI 0] sz T (q_ps I m (g_mk q s.fl s.fa s.cd s.op s.on s.hp)) (q_row L (m + 4) t) P
                      refine q_ifne hF (by decide) dX8_factor_62 (fun c62 => ?_) (fun c62 => ?_)
                      · exact absurd c62 (by decide)
                      · refine q_goto hF dX8_factor_65 ?_
                        skip
                        refine q_iinc hF (z' := 3) (ls' := [(3, qI 3), (2, qI (q : Int)), (1, qI (g_bt B n q)), (0, .ref m)]) 0 rfl (by first | rfl | omega) (by decide) rfl dX8_factor_76 ?_
                        refine q_goto hF dX8_factor_79 ?_
                        refine q_iload_n hF 0 rfl rfl dX8_factor_46 ?_
                        refine q_iconst hF dX8_factor_47 ?_
                        refine q_icmpge hF (by decide) (by decide) dX8_factor_48 (fun c48 => ?_) (fun c48 => ?_)
                        · exact absurd c48 (by decide)
                        · refine q_aload_n hF 3 rfl rfl dX8_factor_51 ?_
                          refine q_bipush hF (n := 8) rfl dX8_factor_52 ?_
                          refine q_iload_n hF 0 rfl rfl dX8_factor_54 ?_
                          refine q_iadd hF dX8_factor_55 ?_
                          refine q_callS (kc := 0) (ks := 0) (mc' := 0) (ms' := 0) (h' := 0) (st := [.ref m]) hF sl_RX8_172 rfl [qI (8 + 3)] rfl rfl (by omega) (Nat.le_of_ble_eq_true rfl) dX8_factor_56 ?_
                          refine mX8_wordOf (k := 11) (by omega) ?_
                          refine q_callV (kc := 0) (ks := 0) (mc' := 0) (ms' := 0) (h' := 5) (st := []) hF vl_RX8_103 rfl [.ref (q_KS G 38)] rfl rfl hS.t0 (by omega) (Nat.le_of_ble_eq_true rfl) dX8_factor_59 ?_
                          refine mX8_takesPQ (i := 38) hS hSA hB (by decide) (show q ≤ n by omega) hfl hqq (fun (c59_0_11 : ¬ (g_isW B n 38 q)) => ?_) (fun (c59_0_11 : g_isW B n 38 q) => ?_)
                          · show qX G F Q 0 0 62 [(3, qI 3), (2, qI (q : Int)), (1, qI (g_bt B n q)), (0, .ref m)] [qI 0] sz T (q_ps I m (g_mk q s.fl s.fa s.cd s.op s.on s.hp)) (q_row L (m + 4) t) P
                            refine q_ifne hF (by decide) dX8_factor_62 (fun c62 => ?_) (fun c62 => ?_)
                            · exact absurd c62 (by decide)
                            · refine q_goto hF dX8_factor_65 ?_
                              skip
                              refine q_iinc hF (z' := 4) (ls' := [(3, qI 4), (2, qI (q : Int)), (1, qI (g_bt B n q)), (0, .ref m)]) 0 rfl (by first | rfl | omega) (by decide) rfl dX8_factor_76 ?_
                              refine q_goto hF dX8_factor_79 ?_
                              refine q_iload_n hF 0 rfl rfl dX8_factor_46 ?_
                              refine q_iconst hF dX8_factor_47 ?_
                              refine q_icmpge hF (by decide) (by decide) dX8_factor_48 (fun c48 => ?_) (fun c48 => ?_)
                              · refine q_iload_n hF 2 rfl rfl dX8_factor_82 ?_
                                refine q_bipush hF (n := 40) rfl dX8_factor_83 ?_
                                refine q_icmpne hF (g_bt_32 hB _) (by decide) dX8_factor_85 (fun c85 => ?_) (fun c85 => ?_)
                                · skip
                                  refine q_aload_n hF 3 rfl rfl dX8_factor_122 ?_
                                  refine q_ldcK hF (i := 44) (by decide) rfl rfl dX8_factor_123 ?_
                                  refine q_callV (kc := 0) (ks := 0) (mc' := 0) (ms' := 0) (h' := 5) (st := []) hF vl_RX8_103 rfl [.ref (q_KS G 44)] rfl rfl hS.t0 (by omega) (Nat.le_of_ble_eq_true rfl) dX8_factor_125 ?_
                                  refine mX8_takesPQ (i := 44) hS hSA hB (by decide) (show q ≤ n by omega) hfl hqq (fun (c125_0_12 : ¬ (g_isW B n 44 q)) => ?_) (fun (c125_0_12 : g_isW B n 44 q) => ?_)
                                  · show qX G F Q 0 0 128 [(3, qI 4), (2, qI (q : Int)), (1, qI (g_bt B n q)), (0, .ref m)] [qI 0] sz T (q_ps I m (g_mk q s.fl s.fa s.cd s.op s.on s.hp)) (q_row L (m + 4) t) P
                                    refine q_ifeq hF (by decide) dX8_factor_128 (fun c128 => ?_) (fun c128 => ?_)
                                    · skip
                                      refine q_aload_n hF 3 rfl rfl dX8_factor_193 ?_
                                      refine q_ldcK hF (i := 45) (by decide) rfl rfl dX8_factor_194 ?_
                                      refine q_callV (kc := 0) (ks := 0) (mc' := 0) (ms' := 0) (h' := 5) (st := []) hF vl_RX8_103 rfl [.ref (q_KS G 45)] rfl rfl hS.t0 (by omega) (Nat.le_of_ble_eq_true rfl) dX8_factor_196 ?_
                                      refine mX8_takesPQ (i := 45) hS hSA hB (by decide) (show q ≤ n by omega) hfl hqq (fun (c196_0_13 : ¬ (g_isW B n 45 q)) => ?_) (fun (c196_0_13 : g_isW B n 45 q) => ?_)
                                      · show qX G F Q 0 0 199 [(3, qI 4), (2, qI (q : Int)), (1, qI (g_bt B n q)), (0, .ref m)] [qI 0] sz T (q_ps I m (g_mk q s.fl s.fa s.cd s.op s.on s.hp)) (q_row L (m + 4) t) P
                                        refine q_ifeq hF (by decide) dX8_factor_199 (fun c199 => ?_) (fun c199 => ?_)
                                        · skip
                                          refine q_aload_n hF 3 rfl rfl dX8_factor_260 ?_
                                          refine q_iconst hF dX8_factor_261 ?_
                                          refine q_iload_n hF 1 rfl rfl dX8_factor_262 ?_
                                          refine q_callV (kc := 0) (ks := 0) (mc' := 0) (ms' := 0) (h' := 0) (st := []) hF vl_RX8_106 rfl [qI 1, qI (q : Int)] rfl rfl hS.t0 (by omega) (Nat.le_of_ble_eq_true rfl) dX8_factor_263 ?_
                                          refine mX8_wrongA hS hSA hfl ?_
                                          show qX G F Q 0 0 266 [(3, qI 4), (2, qI (q : Int)), (1, qI (g_bt B n q)), (0, .ref m)] [] sz T (q_ps I m (g_mk q 1 (q : Int) s.cd s.op s.on s.hp)) (q_row L (m + 4) t) P
                                          refine q_return hF rfl dX8_factor_266 ?_
                                          show Q (.inl none) sz T (q_ps I m (g_mk q 1 (q : Int) s.cd s.op s.on s.hp)) (q_row L (m + 4) t) P
                                          exact k1 1 q _ _ (by rw [← hx2, g_fac, if_neg c22, if_neg c59_0_5, if_neg c59_0_7, if_neg c59_0_9, if_neg c59_0_11, if_neg c85, if_neg c125_0_12, if_neg c196_0_13]) (by decide) rfl rfl (show q ≤ n by omega) rfl rfl
                                        · exact absurd c199 (by decide)
                                      · show qX G F Q 0 0 199 [(3, qI 4), (2, qI (q : Int)), (1, qI (g_bt B n q)), (0, .ref m)] [qI 1] sz T (q_ps I m (g_mk (g_len 45 + q) s.fl s.fa s.cd s.op s.on s.hp)) (q_row L (m + 4) t) P
                                        refine q_ifeq hF (by decide) dX8_factor_199 (fun c199 => ?_) (fun c199 => ?_)
                                        · exact absurd c199 (by decide)
                                        · have hwl45 := g_words_ok 45 (by decide)
                                          have hwn : g_len 45 + q ≤ n := g_isW_n (g_words_ok _ (by decide)) (fun k hk => by have := g_ch_r (i := 45) (by decide) hk; omega) c196_0_13
                                          refine q_aload_n hF 3 rfl rfl dX8_factor_202 ?_
                                          refine q_iload_n hF 1 rfl rfl dX8_factor_203 ?_
                                          refine q_callV (kc := 0) (ks := 0) (mc' := 0) (ms' := 0) (h' := 1) (st := []) hF vl_RX8_201 rfl [qI (q : Int)] rfl rfl hS.t0 (by omega) (Nat.le_of_ble_eq_true rfl) dX8_factor_204 ?_
                                          refine mX8_opensP hS hSA (show 0 ≤ s.op ∧ s.op ≤ 3 by omega) hfl (fun (c204_0_15 : s.op ≠ 3) => ?_) (fun (c204_0_15 : s.op = 3) => ?_)
                                          · show qX G F Q 0 0 207 [(3, qI 4), (2, qI (q : Int)), (1, qI (g_bt B n q)), (0, .ref m)] [] sz T (q_ps I m (g_mk (g_len 45 + q) s.fl s.fa s.cd (s.op + 1) s.on s.hp)) (q_row L (m + 4) t) P
                                            skip
                                            refine q_aload_n hF 3 rfl rfl dX8_factor_207 ?_
                                            refine q_callV (kc := 0) (ks := 0) (mc' := 0) (ms' := 0) (h' := 9 + 3 * (3 - (o + 1))) (st := []) hF vl_RX8_210 rfl [] rfl rfl hS.t0 (by omega) (Nat.le_of_ble_eq_true rfl) dX8_factor_208 ?_
                                            refine ih0 _ _ _ _ _ _ (o + 1) (g_ex B n f 0 (o + 1) (g_len 45 + q)) hB (show g_len 45 + q ≤ n by omega) hfl (show s.op + 1 = (((o + 1) : Nat) : Int) by omega) (by omega) (show 2 * s.cd + 3 ≤ 3 * (g_len 45 + q) by omega) rfl (fun e => hne (by rw [← hx2, g_fac, if_neg c22, if_neg c59_0_5, if_neg c59_0_7, if_neg c59_0_9, if_neg c59_0_11, if_neg c85, if_neg c125_0_12, if_pos c196_0_13, g_facI, if_neg (by omega)]; rw [e]; rfl)) (fun p16 z16 e16 => ?_) (fun w16 x16 s16 t16 e16 hw16 hfl16 hfa16 hpn16 hon16 hhp16 => ?_)
                                            · have far16 := g_far_of hB (by decide) (show g_len 45 + q ≤ n by omega) e16
                                              have fan16 := far16.1
                                              have faj16 := far16.2
                                              rw [if_neg (by decide)] at faj16
                                              refine q_aload_n hF 3 rfl rfl dX8_factor_211 ?_
                                              refine q_ldcK hF (i := 46) (by decide) rfl rfl dX8_factor_212 ?_
                                              refine q_callV (kc := 0) (ks := 0) (mc' := 0) (ms' := 0) (h' := 6) (st := []) hF vl_RX8_213 rfl [.ref (q_KS G 46)] rfl rfl hS.t0 (by omega) (Nat.le_of_ble_eq_true rfl) dX8_factor_214 ?_
                                              refine mX8_mustPQ (i := 46) hS hSA hB (by decide) (show p16 ≤ n by omega) hfl rfl (fun (c214_0_17 : g_isW B n 46 (g_sk B n p16)) => ?_) (fun (c214_0_17 : ¬ (g_isW B n 46 (g_sk B n p16))) => ?_)
                                              · show qX G F Q 0 0 217 [(3, qI 4), (2, qI (q : Int)), (1, qI (g_bt B n q)), (0, .ref m)] [] sz T (q_ps I m (g_mk (g_len 46 + (g_sk B n p16)) s.fl s.fa (s.cd + g_el z16) (s.op + 1) s.on s.hp)) (q_row L (m + 4) (g_app t (139 + s.cd) (g_encs z16))) P
                                                have hwl154 := g_words_ok 46 (by decide)
                                                have hsr154 := g_sk_r (B := B) (n := n) (k := p16) (by omega)
                                                have hwn154 := g_isW_n (g_words_ok _ (by decide)) (fun k hk => by have := g_ch_r (i := 46) (by decide) hk; omega) c214_0_17
                                                refine q_aload_n hF 3 rfl rfl dX8_factor_217 ?_
                                                refine q_callV (kc := 0) (ks := 0) (mc' := 0) (ms' := 0) (h' := 9 + 3 * (3 - (o + 1))) (st := []) hF vl_RX8_210 rfl [] rfl rfl hS.t0 (by omega) (Nat.le_of_ble_eq_true rfl) dX8_factor_218 ?_
                                                refine ih0 _ _ _ _ _ _ (o + 1) (g_ex B n f 0 (o + 1) (g_len 46 + (g_sk B n p16))) hB (show g_len 46 + (g_sk B n p16) ≤ n by omega) hfl (show s.op + 1 = (((o + 1) : Nat) : Int) by omega) (by omega) (show 2 * (s.cd + g_el z16) + 3 ≤ 3 * (g_len 46 + (g_sk B n p16)) by omega) rfl (fun e => hne (by rw [← hx2, g_fac, if_neg c22, if_neg c59_0_5, if_neg c59_0_7, if_neg c59_0_9, if_neg c59_0_11, if_neg c85, if_neg c125_0_12, if_pos c196_0_13, g_facI, if_neg (by omega), e16, g_bd_k, g_mst, if_pos c214_0_17, g_bd_k]; rw [e]; rfl)) (fun p18 z18 e18 => ?_) (fun w18 x18 s18 t18 e18 hw18 hfl18 hfa18 hpn18 hon18 hhp18 => ?_)
                                                · have far18 := g_far_of hB (by decide) (show g_len 46 + (g_sk B n p16) ≤ n by omega) e18
                                                  have fan18 := far18.1
                                                  have faj18 := far18.2
                                                  rw [if_neg (by decide)] at faj18
                                                  refine q_aload_n hF 3 rfl rfl dX8_factor_221 ?_
                                                  refine q_ldcK hF (i := 47) (by decide) rfl rfl dX8_factor_222 ?_
                                                  refine q_callV (kc := 0) (ks := 0) (mc' := 0) (ms' := 0) (h' := 6) (st := []) hF vl_RX8_213 rfl [.ref (q_KS G 47)] rfl rfl hS.t0 (by omega) (Nat.le_of_ble_eq_true rfl) dX8_factor_224 ?_
                                                  refine mX8_mustPQ (i := 47) hS hSA hB (by decide) (show p18 ≤ n by omega) hfl rfl (fun (c224_0_19 : g_isW B n 47 (g_sk B n p18)) => ?_) (fun (c224_0_19 : ¬ (g_isW B n 47 (g_sk B n p18))) => ?_)
                                                  · show qX G F Q 0 0 227 [(3, qI 4), (2, qI (q : Int)), (1, qI (g_bt B n q)), (0, .ref m)] [] sz T (q_ps I m (g_mk (g_len 47 + (g_sk B n p18)) s.fl s.fa (s.cd + g_el z16 + g_el z18) (s.op + 1) s.on s.hp)) (q_row L (m + 4) (g_app (g_app t (139 + s.cd) (g_encs z16)) (139 + (s.cd + g_el z16)) (g_encs z18))) P
                                                    have hwl169 := g_words_ok 47 (by decide)
                                                    have hsr169 := g_sk_r (B := B) (n := n) (k := p18) (by omega)
                                                    have hwn169 := g_isW_n (g_words_ok _ (by decide)) (fun k hk => by have := g_ch_r (i := 47) (by decide) hk; omega) c224_0_19
                                                    refine q_aload_n hF 3 rfl rfl dX8_factor_227 ?_
                                                    refine q_callV (kc := 0) (ks := 0) (mc' := 0) (ms' := 0) (h' := 9 + 3 * (3 - (o + 1))) (st := []) hF vl_RX8_210 rfl [] rfl rfl hS.t0 (by omega) (Nat.le_of_ble_eq_true rfl) dX8_factor_228 ?_
                                                    refine ih0 _ _ _ _ _ _ (o + 1) (g_ex B n f 0 (o + 1) (g_len 47 + (g_sk B n p18))) hB (show g_len 47 + (g_sk B n p18) ≤ n by omega) hfl (show s.op + 1 = (((o + 1) : Nat) : Int) by omega) (by omega) (show 2 * (s.cd + g_el z16 + g_el z18) + 3 ≤ 3 * (g_len 47 + (g_sk B n p18)) by omega) rfl (fun e => hne (by rw [← hx2, g_fac, if_neg c22, if_neg c59_0_5, if_neg c59_0_7, if_neg c59_0_9, if_neg c59_0_11, if_neg c85, if_neg c125_0_12, if_pos c196_0_13, g_facI, if_neg (by omega), e16, g_bd_k, g_mst, if_pos c214_0_17, g_bd_k, e18, g_bd_k, g_mst, if_pos c224_0_19, g_bd_k]; rw [e]; rfl)) (fun p20 z20 e20 => ?_) (fun w20 x20 s20 t20 e20 hw20 hfl20 hfa20 hpn20 hon20 hhp20 => ?_)
                                                    · have far20 := g_far_of hB (by decide) (show g_len 47 + (g_sk B n p18) ≤ n by omega) e20
                                                      have fan20 := far20.1
                                                      have faj20 := far20.2
                                                      rw [if_neg (by decide)] at faj20
                                                      refine q_aload_n hF 3 rfl rfl dX8_factor_231 ?_
                                                      refine q_ldcK hF (i := 48) (by decide) rfl rfl dX8_factor_232 ?_
                                                      refine q_callV (kc := 0) (ks := 0) (mc' := 0) (ms' := 0) (h' := 6) (st := []) hF vl_RX8_213 rfl [.ref (q_KS G 48)] rfl rfl hS.t0 (by omega) (Nat.le_of_ble_eq_true rfl) dX8_factor_234 ?_
                                                      refine mX8_mustPQ (i := 48) hS hSA hB (by decide) (show p20 ≤ n by omega) hfl rfl (fun (c234_0_21 : g_isW B n 48 (g_sk B n p20)) => ?_) (fun (c234_0_21 : ¬ (g_isW B n 48 (g_sk B n p20))) => ?_)
                                                      · show qX G F Q 0 0 237 [(3, qI 4), (2, qI (q : Int)), (1, qI (g_bt B n q)), (0, .ref m)] [] sz T (q_ps I m (g_mk (g_len 48 + (g_sk B n p20)) s.fl s.fa (s.cd + g_el z16 + g_el z18 + g_el z20) (s.op + 1) s.on s.hp)) (q_row L (m + 4) (g_app (g_app (g_app t (139 + s.cd) (g_encs z16)) (139 + (s.cd + g_el z16)) (g_encs z18)) (139 + (s.cd + g_el z16 + g_el z18)) (g_encs z20))) P
                                                        have hwl184 := g_words_ok 48 (by decide)
                                                        have hsr184 := g_sk_r (B := B) (n := n) (k := p20) (by omega)
                                                        have hwn184 := g_isW_n (g_words_ok _ (by decide)) (fun k hk => by have := g_ch_r (i := 48) (by decide) hk; omega) c234_0_21
                                                        refine q_aload_n hF 3 rfl rfl dX8_factor_237 ?_
                                                        refine q_callV (kc := 0) (ks := 0) (mc' := 0) (ms' := 0) (h' := 9 + 3 * (3 - (o + 1))) (st := []) hF vl_RX8_210 rfl [] rfl rfl hS.t0 (by omega) (Nat.le_of_ble_eq_true rfl) dX8_factor_238 ?_
                                                        refine ih0 _ _ _ _ _ _ (o + 1) (g_ex B n f 0 (o + 1) (g_len 48 + (g_sk B n p20))) hB (show g_len 48 + (g_sk B n p20) ≤ n by omega) hfl (show s.op + 1 = (((o + 1) : Nat) : Int) by omega) (by omega) (show 2 * (s.cd + g_el z16 + g_el z18 + g_el z20) + 3 ≤ 3 * (g_len 48 + (g_sk B n p20)) by omega) rfl (fun e => hne (by rw [← hx2, g_fac, if_neg c22, if_neg c59_0_5, if_neg c59_0_7, if_neg c59_0_9, if_neg c59_0_11, if_neg c85, if_neg c125_0_12, if_pos c196_0_13, g_facI, if_neg (by omega), e16, g_bd_k, g_mst, if_pos c214_0_17, g_bd_k, e18, g_bd_k, g_mst, if_pos c224_0_19, g_bd_k, e20, g_bd_k, g_mst, if_pos c234_0_21, g_bd_k]; rw [e]; rfl)) (fun p22 z22 e22 => ?_) (fun w22 x22 s22 t22 e22 hw22 hfl22 hfa22 hpn22 hon22 hhp22 => ?_)
                                                        · have far22 := g_far_of hB (by decide) (show g_len 48 + (g_sk B n p20) ≤ n by omega) e22
                                                          have fan22 := far22.1
                                                          have faj22 := far22.2
                                                          rw [if_neg (by decide)] at faj22
                                                          refine q_aload_n hF 3 rfl rfl dX8_factor_241 ?_
                                                          refine q_dup hF rfl dX8_factor_242 ?_
                                                          refine q_getIv hF (z := s.op + 1) fl_RX8_193 hS.t0 q_ps_15 dX8_factor_243 ?_
                                                          refine q_iconst hF dX8_factor_246 ?_
                                                          refine q_isub hF dX8_factor_247 ?_
                                                          refine q_putI hF fl_RX8_193 hS.t0 hSA dX8_factor_248 ?_
                                                          rw [q_ps_w15]
                                                          refine q_aload_n hF 3 rfl rfl dX8_factor_251 ?_
                                                          refine q_bipush hF (n := 11) rfl dX8_factor_252 ?_
                                                          refine q_callV (kc := 0) (ks := 0) (mc' := 0) (ms' := 0) (h' := 1) (st := []) hF vl_RX8_197 rfl [qI 11] rfl rfl hS.t0 (by omega) (Nat.le_of_ble_eq_true rfl) dX8_factor_254 ?_
                                                          refine mX8_tellsP hS hSA (by omega) (show (s.cd + g_el z16 + g_el z18 + g_el z20 + g_el z22) < 900 by omega) hfl ?_
                                                          show qX G F Q 0 0 257 [(3, qI 4), (2, qI (q : Int)), (1, qI (g_bt B n q)), (0, .ref m)] [] sz T (q_ps I m (g_mk p22 s.fl s.fa (1 + (s.cd + g_el z16 + g_el z18 + g_el z20 + g_el z22)) ((s.op + 1) - 1) s.on s.hp)) (q_row L (m + 4) (g_up (g_app (g_app (g_app (g_app t (139 + s.cd) (g_encs z16)) (139 + (s.cd + g_el z16)) (g_encs z18)) (139 + (s.cd + g_el z16 + g_el z18)) (g_encs z20)) (139 + (s.cd + g_el z16 + g_el z18 + g_el z20)) (g_encs z22)) (139 + (s.cd + g_el z16 + g_el z18 + g_el z20 + g_el z22)) 11)) P
                                                          refine q_goto hF dX8_factor_257 ?_
                                                          refine q_return hF rfl dX8_factor_266 ?_
                                                          show Q (.inl none) sz T (q_ps I m (g_mk p22 s.fl s.fa (1 + (s.cd + g_el z16 + g_el z18 + g_el z20 + g_el z22)) ((s.op + 1) - 1) s.on s.hp)) (q_row L (m + 4) (g_up (g_app (g_app (g_app (g_app t (139 + s.cd) (g_encs z16)) (139 + (s.cd + g_el z16)) (g_encs z18)) (139 + (s.cd + g_el z16 + g_el z18)) (g_encs z20)) (139 + (s.cd + g_el z16 + g_el z18 + g_el z20)) (g_encs z22)) (139 + (s.cd + g_el z16 + g_el z18 + g_el z20 + g_el z22)) 11)) P
                                                          refine q_Qeq (k0 p22 (z16 ++ z18 ++ z20 ++ z22 ++ [-10]) (by rw [← hx2, g_fac, if_neg c22, if_neg c59_0_5, if_neg c59_0_7, if_neg c59_0_9, if_neg c59_0_11, if_neg c85, if_neg c125_0_12, if_pos c196_0_13, g_facI, if_neg (by omega), e16, g_bd_k, g_mst, if_pos c214_0_17, g_bd_k, e18, g_bd_k, g_mst, if_pos c224_0_19, g_bd_k, e20, g_bd_k, g_mst, if_pos c234_0_21, g_bd_k, e22, g_bd_k])) ?_ ?_
                                                          · rw [show s.cd + g_el (z16 ++ z18 ++ z20 ++ z22 ++ [-10]) = 1 + (s.cd + g_el z16 + g_el z18 + g_el z20 + g_el z22) from by (try rw [g_el_app]); (try rw [g_el_app]); (try rw [g_el_app]); (try rw [g_el_app]); (try rw [g_el_neg (by decide)]); (try rw [g_el_pos (by omega)]); (try rw [g_el_nil]); omega, show (s.op + 1) - 1 = s.op from by omega]
                                                          · rw [g_app_encs, g_app_encs, g_app_encs, g_app_encs, g_app_neg (by decide), g_app_nil]; simp only [g_el_app, Nat.add_assoc]; try rfl
                                                        · have her22 : s22.fl ≠ 0 := by omega
                                                          have hrf22 : -2147483648 ≤ s22.fl ∧ s22.fl < 2147483648 := by omega
                                                          refine q_aload_n hF 3 rfl rfl dX8_factor_241 ?_
                                                          refine q_dup hF rfl dX8_factor_242 ?_
                                                          refine q_getIv hF (z := s22.op) fl_RX8_193 hS.t0 q_ps_15 dX8_factor_243 ?_
                                                          refine q_iconst hF dX8_factor_246 ?_
                                                          refine q_isub hF dX8_factor_247 ?_
                                                          refine q_putI hF fl_RX8_193 hS.t0 hSA dX8_factor_248 ?_
                                                          rw [q_ps_w15]
                                                          refine q_aload_n hF 3 rfl rfl dX8_factor_251 ?_
                                                          refine q_bipush hF (n := 11) rfl dX8_factor_252 ?_
                                                          refine q_callV (kc := 0) (ks := 0) (mc' := 0) (ms' := 0) (h' := 1) (st := []) hF vl_RX8_197 rfl [qI 11] rfl rfl hS.t0 (by omega) (Nat.le_of_ble_eq_true rfl) dX8_factor_254 ?_
                                                          refine mX8_tells0 hS hSA her22 (show -2147483648 ≤ s22.fl ∧ s22.fl < 2147483648 by first | decide | omega | assumption) ?_
                                                          refine q_goto hF dX8_factor_257 ?_
                                                          refine q_return hF rfl dX8_factor_266 ?_
                                                          show Q (.inl none) sz T (q_ps I m (g_mk s22.p s22.fl s22.fa s22.cd (s22.op - 1) s22.on s22.hp)) (q_row L (m + 4) t22) P
                                                          exact k1 w22 x22 _ _ (by rw [← hx2, g_fac, if_neg c22, if_neg c59_0_5, if_neg c59_0_7, if_neg c59_0_9, if_neg c59_0_11, if_neg c85, if_neg c125_0_12, if_pos c196_0_13, g_facI, if_neg (by omega), e16, g_bd_k, g_mst, if_pos c214_0_17, g_bd_k, e18, g_bd_k, g_mst, if_pos c224_0_19, g_bd_k, e20, g_bd_k, g_mst, if_pos c234_0_21, g_bd_k, e22, g_bd_e]) hw22 hfl22 hfa22 hpn22 hon22 hhp22
                                                      · show qX G F Q 0 0 237 [(3, qI 4), (2, qI (q : Int)), (1, qI (g_bt B n q)), (0, .ref m)] [] sz T (q_ps I m (g_mk (g_sk B n p20) 1 (g_sk B n p20 : Int) (s.cd + g_el z16 + g_el z18 + g_el z20) (s.op + 1) s.on s.hp)) (q_row L (m + 4) (g_app (g_app (g_app t (139 + s.cd) (g_encs z16)) (139 + (s.cd + g_el z16)) (g_encs z18)) (139 + (s.cd + g_el z16 + g_el z18)) (g_encs z20))) P
                                                        have hsr230 := g_sk_r (B := B) (n := n) (k := p20) (by omega)
                                                        refine q_aload_n hF 3 rfl rfl dX8_factor_237 ?_
                                                        refine q_callV (kc := 0) (ks := 0) (mc' := 0) (ms' := 0) (h' := 1) (st := []) hF vl_RX8_210 rfl [] rfl rfl hS.t0 (by omega) (Nat.le_of_ble_eq_true rfl) dX8_factor_238 ?_
                                                        refine mX8_factor0 hS hSA (show (1 : Int) ≠ 0 by decide) (show -2147483648 ≤ 1 ∧ 1 < 2147483648 by first | decide | omega | assumption) ?_
                                                        refine q_aload_n hF 3 rfl rfl dX8_factor_241 ?_
                                                        refine q_dup hF rfl dX8_factor_242 ?_
                                                        refine q_getIv hF (z := s.op + 1) fl_RX8_193 hS.t0 q_ps_15 dX8_factor_243 ?_
                                                        refine q_iconst hF dX8_factor_246 ?_
                                                        refine q_isub hF dX8_factor_247 ?_
                                                        refine q_putI hF fl_RX8_193 hS.t0 hSA dX8_factor_248 ?_
                                                        rw [q_ps_w15]
                                                        refine q_aload_n hF 3 rfl rfl dX8_factor_251 ?_
                                                        refine q_bipush hF (n := 11) rfl dX8_factor_252 ?_
                                                        refine q_callV (kc := 0) (ks := 0) (mc' := 0) (ms' := 0) (h' := 1) (st := []) hF vl_RX8_197 rfl [qI 11] rfl rfl hS.t0 (by omega) (Nat.le_of_ble_eq_true rfl) dX8_factor_254 ?_
                                                        refine mX8_tells0 hS hSA (show (1 : Int) ≠ 0 by decide) (show -2147483648 ≤ 1 ∧ 1 < 2147483648 by first | decide | omega | assumption) ?_
                                                        refine q_goto hF dX8_factor_257 ?_
                                                        refine q_return hF rfl dX8_factor_266 ?_
                                                        show Q (.inl none) sz T (q_ps I m (g_mk (g_sk B n p20) 1 (g_sk B n p20 : Int) (s.cd + g_el z16 + g_el z18 + g_el z20) ((s.op + 1) - 1) s.on s.hp)) (q_row L (m + 4) (g_app (g_app (g_app t (139 + s.cd) (g_encs z16)) (139 + (s.cd + g_el z16)) (g_encs z18)) (139 + (s.cd + g_el z16 + g_el z18)) (g_encs z20))) P
                                                        exact k1 1 (g_sk B n p20) _ _ (by rw [← hx2, g_fac, if_neg c22, if_neg c59_0_5, if_neg c59_0_7, if_neg c59_0_9, if_neg c59_0_11, if_neg c85, if_neg c125_0_12, if_pos c196_0_13, g_facI, if_neg (by omega), e16, g_bd_k, g_mst, if_pos c214_0_17, g_bd_k, e18, g_bd_k, g_mst, if_pos c224_0_19, g_bd_k, e20, g_bd_k, g_mst, if_neg c234_0_21, g_bd_e]) (by decide) rfl rfl (show g_sk B n p20 ≤ n by omega) rfl rfl
                                                    · have her20 : s20.fl ≠ 0 := by omega
                                                      have hrf20 : -2147483648 ≤ s20.fl ∧ s20.fl < 2147483648 := by omega
                                                      refine q_aload_n hF 3 rfl rfl dX8_factor_231 ?_
                                                      refine q_ldcK hF (i := 48) (by decide) rfl rfl dX8_factor_232 ?_
                                                      refine q_callV (kc := 0) (ks := 0) (mc' := 0) (ms' := 0) (h' := 6) (st := []) hF vl_RX8_213 rfl [.ref (q_KS G 48)] rfl rfl hS.t0 (by omega) (Nat.le_of_ble_eq_true rfl) dX8_factor_234 ?_
                                                      refine mX8_must0 (i := 48) hS hSA her20 (show -2147483648 ≤ s20.fl ∧ s20.fl < 2147483648 by first | decide | omega | assumption) ?_
                                                      skip
                                                      refine q_aload_n hF 3 rfl rfl dX8_factor_237 ?_
                                                      refine q_callV (kc := 0) (ks := 0) (mc' := 0) (ms' := 0) (h' := 1) (st := []) hF vl_RX8_210 rfl [] rfl rfl hS.t0 (by omega) (Nat.le_of_ble_eq_true rfl) dX8_factor_238 ?_
                                                      refine mX8_factor0 hS hSA her20 (show -2147483648 ≤ s20.fl ∧ s20.fl < 2147483648 by first | decide | omega | assumption) ?_
                                                      refine q_aload_n hF 3 rfl rfl dX8_factor_241 ?_
                                                      refine q_dup hF rfl dX8_factor_242 ?_
                                                      refine q_getIv hF (z := s20.op) fl_RX8_193 hS.t0 q_ps_15 dX8_factor_243 ?_
                                                      refine q_iconst hF dX8_factor_246 ?_
                                                      refine q_isub hF dX8_factor_247 ?_
                                                      refine q_putI hF fl_RX8_193 hS.t0 hSA dX8_factor_248 ?_
                                                      rw [q_ps_w15]
                                                      refine q_aload_n hF 3 rfl rfl dX8_factor_251 ?_
                                                      refine q_bipush hF (n := 11) rfl dX8_factor_252 ?_
                                                      refine q_callV (kc := 0) (ks := 0) (mc' := 0) (ms' := 0) (h' := 1) (st := []) hF vl_RX8_197 rfl [qI 11] rfl rfl hS.t0 (by omega) (Nat.le_of_ble_eq_true rfl) dX8_factor_254 ?_
                                                      refine mX8_tells0 hS hSA her20 (show -2147483648 ≤ s20.fl ∧ s20.fl < 2147483648 by first | decide | omega | assumption) ?_
                                                      refine q_goto hF dX8_factor_257 ?_
                                                      refine q_return hF rfl dX8_factor_266 ?_
                                                      show Q (.inl none) sz T (q_ps I m (g_mk s20.p s20.fl s20.fa s20.cd (s20.op - 1) s20.on s20.hp)) (q_row L (m + 4) t20) P
                                                      exact k1 w20 x20 _ _ (by rw [← hx2, g_fac, if_neg c22, if_neg c59_0_5, if_neg c59_0_7, if_neg c59_0_9, if_neg c59_0_11, if_neg c85, if_neg c125_0_12, if_pos c196_0_13, g_facI, if_neg (by omega), e16, g_bd_k, g_mst, if_pos c214_0_17, g_bd_k, e18, g_bd_k, g_mst, if_pos c224_0_19, g_bd_k, e20, g_bd_e]) hw20 hfl20 hfa20 hpn20 hon20 hhp20
                                                  · show qX G F Q 0 0 227 [(3, qI 4), (2, qI (q : Int)), (1, qI (g_bt B n q)), (0, .ref m)] [] sz T (q_ps I m (g_mk (g_sk B n p18) 1 (g_sk B n p18 : Int) (s.cd + g_el z16 + g_el z18) (s.op + 1) s.on s.hp)) (q_row L (m + 4) (g_app (g_app t (139 + s.cd) (g_encs z16)) (139 + (s.cd + g_el z16)) (g_encs z18))) P
                                                    have hsr275 := g_sk_r (B := B) (n := n) (k := p18) (by omega)
                                                    refine q_aload_n hF 3 rfl rfl dX8_factor_227 ?_
                                                    refine q_callV (kc := 0) (ks := 0) (mc' := 0) (ms' := 0) (h' := 1) (st := []) hF vl_RX8_210 rfl [] rfl rfl hS.t0 (by omega) (Nat.le_of_ble_eq_true rfl) dX8_factor_228 ?_
                                                    refine mX8_factor0 hS hSA (show (1 : Int) ≠ 0 by decide) (show -2147483648 ≤ 1 ∧ 1 < 2147483648 by first | decide | omega | assumption) ?_
                                                    refine q_aload_n hF 3 rfl rfl dX8_factor_231 ?_
                                                    refine q_ldcK hF (i := 48) (by decide) rfl rfl dX8_factor_232 ?_
                                                    refine q_callV (kc := 0) (ks := 0) (mc' := 0) (ms' := 0) (h' := 6) (st := []) hF vl_RX8_213 rfl [.ref (q_KS G 48)] rfl rfl hS.t0 (by omega) (Nat.le_of_ble_eq_true rfl) dX8_factor_234 ?_
                                                    refine mX8_must0 (i := 48) hS hSA (show (1 : Int) ≠ 0 by decide) (show -2147483648 ≤ 1 ∧ 1 < 2147483648 by first | decide | omega | assumption) ?_
                                                    skip
                                                    refine q_aload_n hF 3 rfl rfl dX8_factor_237 ?_
                                                    refine q_callV (kc := 0) (ks := 0) (mc' := 0) (ms' := 0) (h' := 1) (st := []) hF vl_RX8_210 rfl [] rfl rfl hS.t0 (by omega) (Nat.le_of_ble_eq_true rfl) dX8_factor_238 ?_
                                                    refine mX8_factor0 hS hSA (show (1 : Int) ≠ 0 by decide) (show -2147483648 ≤ 1 ∧ 1 < 2147483648 by first | decide | omega | assumption) ?_
                                                    refine q_aload_n hF 3 rfl rfl dX8_factor_241 ?_
                                                    refine q_dup hF rfl dX8_factor_242 ?_
                                                    refine q_getIv hF (z := s.op + 1) fl_RX8_193 hS.t0 q_ps_15 dX8_factor_243 ?_
                                                    refine q_iconst hF dX8_factor_246 ?_
                                                    refine q_isub hF dX8_factor_247 ?_
                                                    refine q_putI hF fl_RX8_193 hS.t0 hSA dX8_factor_248 ?_
                                                    rw [q_ps_w15]
                                                    refine q_aload_n hF 3 rfl rfl dX8_factor_251 ?_
                                                    refine q_bipush hF (n := 11) rfl dX8_factor_252 ?_
                                                    refine q_callV (kc := 0) (ks := 0) (mc' := 0) (ms' := 0) (h' := 1) (st := []) hF vl_RX8_197 rfl [qI 11] rfl rfl hS.t0 (by omega) (Nat.le_of_ble_eq_true rfl) dX8_factor_254 ?_
                                                    refine mX8_tells0 hS hSA (show (1 : Int) ≠ 0 by decide) (show -2147483648 ≤ 1 ∧ 1 < 2147483648 by first | decide | omega | assumption) ?_
                                                    refine q_goto hF dX8_factor_257 ?_
                                                    refine q_return hF rfl dX8_factor_266 ?_
                                                    show Q (.inl none) sz T (q_ps I m (g_mk (g_sk B n p18) 1 (g_sk B n p18 : Int) (s.cd + g_el z16 + g_el z18) ((s.op + 1) - 1) s.on s.hp)) (q_row L (m + 4) (g_app (g_app t (139 + s.cd) (g_encs z16)) (139 + (s.cd + g_el z16)) (g_encs z18))) P
                                                    exact k1 1 (g_sk B n p18) _ _ (by rw [← hx2, g_fac, if_neg c22, if_neg c59_0_5, if_neg c59_0_7, if_neg c59_0_9, if_neg c59_0_11, if_neg c85, if_neg c125_0_12, if_pos c196_0_13, g_facI, if_neg (by omega), e16, g_bd_k, g_mst, if_pos c214_0_17, g_bd_k, e18, g_bd_k, g_mst, if_neg c224_0_19, g_bd_e]) (by decide) rfl rfl (show g_sk B n p18 ≤ n by omega) rfl rfl
                                                · have her18 : s18.fl ≠ 0 := by omega
                                                  have hrf18 : -2147483648 ≤ s18.fl ∧ s18.fl < 2147483648 := by omega
                                                  refine q_aload_n hF 3 rfl rfl dX8_factor_221 ?_
                                                  refine q_ldcK hF (i := 47) (by decide) rfl rfl dX8_factor_222 ?_
                                                  refine q_callV (kc := 0) (ks := 0) (mc' := 0) (ms' := 0) (h' := 6) (st := []) hF vl_RX8_213 rfl [.ref (q_KS G 47)] rfl rfl hS.t0 (by omega) (Nat.le_of_ble_eq_true rfl) dX8_factor_224 ?_
                                                  refine mX8_must0 (i := 47) hS hSA her18 (show -2147483648 ≤ s18.fl ∧ s18.fl < 2147483648 by first | decide | omega | assumption) ?_
                                                  skip
                                                  refine q_aload_n hF 3 rfl rfl dX8_factor_227 ?_
                                                  refine q_callV (kc := 0) (ks := 0) (mc' := 0) (ms' := 0) (h' := 1) (st := []) hF vl_RX8_210 rfl [] rfl rfl hS.t0 (by omega) (Nat.le_of_ble_eq_true rfl) dX8_factor_228 ?_
                                                  refine mX8_factor0 hS hSA her18 (show -2147483648 ≤ s18.fl ∧ s18.fl < 2147483648 by first | decide | omega | assumption) ?_
                                                  refine q_aload_n hF 3 rfl rfl dX8_factor_231 ?_
                                                  refine q_ldcK hF (i := 48) (by decide) rfl rfl dX8_factor_232 ?_
                                                  refine q_callV (kc := 0) (ks := 0) (mc' := 0) (ms' := 0) (h' := 6) (st := []) hF vl_RX8_213 rfl [.ref (q_KS G 48)] rfl rfl hS.t0 (by omega) (Nat.le_of_ble_eq_true rfl) dX8_factor_234 ?_
                                                  refine mX8_must0 (i := 48) hS hSA her18 (show -2147483648 ≤ s18.fl ∧ s18.fl < 2147483648 by first | decide | omega | assumption) ?_
                                                  skip
                                                  refine q_aload_n hF 3 rfl rfl dX8_factor_237 ?_
                                                  refine q_callV (kc := 0) (ks := 0) (mc' := 0) (ms' := 0) (h' := 1) (st := []) hF vl_RX8_210 rfl [] rfl rfl hS.t0 (by omega) (Nat.le_of_ble_eq_true rfl) dX8_factor_238 ?_
                                                  refine mX8_factor0 hS hSA her18 (show -2147483648 ≤ s18.fl ∧ s18.fl < 2147483648 by first | decide | omega | assumption) ?_
                                                  refine q_aload_n hF 3 rfl rfl dX8_factor_241 ?_
                                                  refine q_dup hF rfl dX8_factor_242 ?_
                                                  refine q_getIv hF (z := s18.op) fl_RX8_193 hS.t0 q_ps_15 dX8_factor_243 ?_
                                                  refine q_iconst hF dX8_factor_246 ?_
                                                  refine q_isub hF dX8_factor_247 ?_
                                                  refine q_putI hF fl_RX8_193 hS.t0 hSA dX8_factor_248 ?_
                                                  rw [q_ps_w15]
                                                  refine q_aload_n hF 3 rfl rfl dX8_factor_251 ?_
                                                  refine q_bipush hF (n := 11) rfl dX8_factor_252 ?_
                                                  refine q_callV (kc := 0) (ks := 0) (mc' := 0) (ms' := 0) (h' := 1) (st := []) hF vl_RX8_197 rfl [qI 11] rfl rfl hS.t0 (by omega) (Nat.le_of_ble_eq_true rfl) dX8_factor_254 ?_
                                                  refine mX8_tells0 hS hSA her18 (show -2147483648 ≤ s18.fl ∧ s18.fl < 2147483648 by first | decide | omega | assumption) ?_
                                                  refine q_goto hF dX8_factor_257 ?_
                                                  refine q_return hF rfl dX8_factor_266 ?_
                                                  show Q (.inl none) sz T (q_ps I m (g_mk s18.p s18.fl s18.fa s18.cd (s18.op - 1) s18.on s18.hp)) (q_row L (m + 4) t18) P
                                                  exact k1 w18 x18 _ _ (by rw [← hx2, g_fac, if_neg c22, if_neg c59_0_5, if_neg c59_0_7, if_neg c59_0_9, if_neg c59_0_11, if_neg c85, if_neg c125_0_12, if_pos c196_0_13, g_facI, if_neg (by omega), e16, g_bd_k, g_mst, if_pos c214_0_17, g_bd_k, e18, g_bd_e]) hw18 hfl18 hfa18 hpn18 hon18 hhp18
                                              · show qX G F Q 0 0 217 [(3, qI 4), (2, qI (q : Int)), (1, qI (g_bt B n q)), (0, .ref m)] [] sz T (q_ps I m (g_mk (g_sk B n p16) 1 (g_sk B n p16 : Int) (s.cd + g_el z16) (s.op + 1) s.on s.hp)) (q_row L (m + 4) (g_app t (139 + s.cd) (g_encs z16))) P
                                                have hsr336 := g_sk_r (B := B) (n := n) (k := p16) (by omega)
                                                refine q_aload_n hF 3 rfl rfl dX8_factor_217 ?_
                                                refine q_callV (kc := 0) (ks := 0) (mc' := 0) (ms' := 0) (h' := 1) (st := []) hF vl_RX8_210 rfl [] rfl rfl hS.t0 (by omega) (Nat.le_of_ble_eq_true rfl) dX8_factor_218 ?_
                                                refine mX8_factor0 hS hSA (show (1 : Int) ≠ 0 by decide) (show -2147483648 ≤ 1 ∧ 1 < 2147483648 by first | decide | omega | assumption) ?_
                                                refine q_aload_n hF 3 rfl rfl dX8_factor_221 ?_
                                                refine q_ldcK hF (i := 47) (by decide) rfl rfl dX8_factor_222 ?_
                                                refine q_callV (kc := 0) (ks := 0) (mc' := 0) (ms' := 0) (h' := 6) (st := []) hF vl_RX8_213 rfl [.ref (q_KS G 47)] rfl rfl hS.t0 (by omega) (Nat.le_of_ble_eq_true rfl) dX8_factor_224 ?_
                                                refine mX8_must0 (i := 47) hS hSA (show (1 : Int) ≠ 0 by decide) (show -2147483648 ≤ 1 ∧ 1 < 2147483648 by first | decide | omega | assumption) ?_
                                                skip
                                                refine q_aload_n hF 3 rfl rfl dX8_factor_227 ?_
                                                refine q_callV (kc := 0) (ks := 0) (mc' := 0) (ms' := 0) (h' := 1) (st := []) hF vl_RX8_210 rfl [] rfl rfl hS.t0 (by omega) (Nat.le_of_ble_eq_true rfl) dX8_factor_228 ?_
                                                refine mX8_factor0 hS hSA (show (1 : Int) ≠ 0 by decide) (show -2147483648 ≤ 1 ∧ 1 < 2147483648 by first | decide | omega | assumption) ?_
                                                refine q_aload_n hF 3 rfl rfl dX8_factor_231 ?_
                                                refine q_ldcK hF (i := 48) (by decide) rfl rfl dX8_factor_232 ?_
                                                refine q_callV (kc := 0) (ks := 0) (mc' := 0) (ms' := 0) (h' := 6) (st := []) hF vl_RX8_213 rfl [.ref (q_KS G 48)] rfl rfl hS.t0 (by omega) (Nat.le_of_ble_eq_true rfl) dX8_factor_234 ?_
                                                refine mX8_must0 (i := 48) hS hSA (show (1 : Int) ≠ 0 by decide) (show -2147483648 ≤ 1 ∧ 1 < 2147483648 by first | decide | omega | assumption) ?_
                                                skip
                                                refine q_aload_n hF 3 rfl rfl dX8_factor_237 ?_
                                                refine q_callV (kc := 0) (ks := 0) (mc' := 0) (ms' := 0) (h' := 1) (st := []) hF vl_RX8_210 rfl [] rfl rfl hS.t0 (by omega) (Nat.le_of_ble_eq_true rfl) dX8_factor_238 ?_
                                                refine mX8_factor0 hS hSA (show (1 : Int) ≠ 0 by decide) (show -2147483648 ≤ 1 ∧ 1 < 2147483648 by first | decide | omega | assumption) ?_
                                                refine q_aload_n hF 3 rfl rfl dX8_factor_241 ?_
                                                refine q_dup hF rfl dX8_factor_242 ?_
                                                refine q_getIv hF (z := s.op + 1) fl_RX8_193 hS.t0 q_ps_15 dX8_factor_243 ?_
                                                refine q_iconst hF dX8_factor_246 ?_
                                                refine q_isub hF dX8_factor_247 ?_
                                                refine q_putI hF fl_RX8_193 hS.t0 hSA dX8_factor_248 ?_
                                                rw [q_ps_w15]
                                                refine q_aload_n hF 3 rfl rfl dX8_factor_251 ?_
                                                refine q_bipush hF (n := 11) rfl dX8_factor_252 ?_
                                                refine q_callV (kc := 0) (ks := 0) (mc' := 0) (ms' := 0) (h' := 1) (st := []) hF vl_RX8_197 rfl [qI 11] rfl rfl hS.t0 (by omega) (Nat.le_of_ble_eq_true rfl) dX8_factor_254 ?_
                                                refine mX8_tells0 hS hSA (show (1 : Int) ≠ 0 by decide) (show -2147483648 ≤ 1 ∧ 1 < 2147483648 by first | decide | omega | assumption) ?_
                                                refine q_goto hF dX8_factor_257 ?_
                                                refine q_return hF rfl dX8_factor_266 ?_
                                                show Q (.inl none) sz T (q_ps I m (g_mk (g_sk B n p16) 1 (g_sk B n p16 : Int) (s.cd + g_el z16) ((s.op + 1) - 1) s.on s.hp)) (q_row L (m + 4) (g_app t (139 + s.cd) (g_encs z16))) P
                                                exact k1 1 (g_sk B n p16) _ _ (by rw [← hx2, g_fac, if_neg c22, if_neg c59_0_5, if_neg c59_0_7, if_neg c59_0_9, if_neg c59_0_11, if_neg c85, if_neg c125_0_12, if_pos c196_0_13, g_facI, if_neg (by omega), e16, g_bd_k, g_mst, if_neg c214_0_17, g_bd_e]) (by decide) rfl rfl (show g_sk B n p16 ≤ n by omega) rfl rfl
                                            · have her16 : s16.fl ≠ 0 := by omega
                                              have hrf16 : -2147483648 ≤ s16.fl ∧ s16.fl < 2147483648 := by omega
                                              refine q_aload_n hF 3 rfl rfl dX8_factor_211 ?_
                                              refine q_ldcK hF (i := 46) (by decide) rfl rfl dX8_factor_212 ?_
                                              refine q_callV (kc := 0) (ks := 0) (mc' := 0) (ms' := 0) (h' := 6) (st := []) hF vl_RX8_213 rfl [.ref (q_KS G 46)] rfl rfl hS.t0 (by omega) (Nat.le_of_ble_eq_true rfl) dX8_factor_214 ?_
                                              refine mX8_must0 (i := 46) hS hSA her16 (show -2147483648 ≤ s16.fl ∧ s16.fl < 2147483648 by first | decide | omega | assumption) ?_
                                              skip
                                              refine q_aload_n hF 3 rfl rfl dX8_factor_217 ?_
                                              refine q_callV (kc := 0) (ks := 0) (mc' := 0) (ms' := 0) (h' := 1) (st := []) hF vl_RX8_210 rfl [] rfl rfl hS.t0 (by omega) (Nat.le_of_ble_eq_true rfl) dX8_factor_218 ?_
                                              refine mX8_factor0 hS hSA her16 (show -2147483648 ≤ s16.fl ∧ s16.fl < 2147483648 by first | decide | omega | assumption) ?_
                                              refine q_aload_n hF 3 rfl rfl dX8_factor_221 ?_
                                              refine q_ldcK hF (i := 47) (by decide) rfl rfl dX8_factor_222 ?_
                                              refine q_callV (kc := 0) (ks := 0) (mc' := 0) (ms' := 0) (h' := 6) (st := []) hF vl_RX8_213 rfl [.ref (q_KS G 47)] rfl rfl hS.t0 (by omega) (Nat.le_of_ble_eq_true rfl) dX8_factor_224 ?_
                                              refine mX8_must0 (i := 47) hS hSA her16 (show -2147483648 ≤ s16.fl ∧ s16.fl < 2147483648 by first | decide | omega | assumption) ?_
                                              skip
                                              refine q_aload_n hF 3 rfl rfl dX8_factor_227 ?_
                                              refine q_callV (kc := 0) (ks := 0) (mc' := 0) (ms' := 0) (h' := 1) (st := []) hF vl_RX8_210 rfl [] rfl rfl hS.t0 (by omega) (Nat.le_of_ble_eq_true rfl) dX8_factor_228 ?_
                                              refine mX8_factor0 hS hSA her16 (show -2147483648 ≤ s16.fl ∧ s16.fl < 2147483648 by first | decide | omega | assumption) ?_
                                              refine q_aload_n hF 3 rfl rfl dX8_factor_231 ?_
                                              refine q_ldcK hF (i := 48) (by decide) rfl rfl dX8_factor_232 ?_
                                              refine q_callV (kc := 0) (ks := 0) (mc' := 0) (ms' := 0) (h' := 6) (st := []) hF vl_RX8_213 rfl [.ref (q_KS G 48)] rfl rfl hS.t0 (by omega) (Nat.le_of_ble_eq_true rfl) dX8_factor_234 ?_
                                              refine mX8_must0 (i := 48) hS hSA her16 (show -2147483648 ≤ s16.fl ∧ s16.fl < 2147483648 by first | decide | omega | assumption) ?_
                                              skip
                                              refine q_aload_n hF 3 rfl rfl dX8_factor_237 ?_
                                              refine q_callV (kc := 0) (ks := 0) (mc' := 0) (ms' := 0) (h' := 1) (st := []) hF vl_RX8_210 rfl [] rfl rfl hS.t0 (by omega) (Nat.le_of_ble_eq_true rfl) dX8_factor_238 ?_
                                              refine mX8_factor0 hS hSA her16 (show -2147483648 ≤ s16.fl ∧ s16.fl < 2147483648 by first | decide | omega | assumption) ?_
                                              refine q_aload_n hF 3 rfl rfl dX8_factor_241 ?_
                                              refine q_dup hF rfl dX8_factor_242 ?_
                                              refine q_getIv hF (z := s16.op) fl_RX8_193 hS.t0 q_ps_15 dX8_factor_243 ?_
                                              refine q_iconst hF dX8_factor_246 ?_
                                              refine q_isub hF dX8_factor_247 ?_
                                              refine q_putI hF fl_RX8_193 hS.t0 hSA dX8_factor_248 ?_
                                              rw [q_ps_w15]
                                              refine q_aload_n hF 3 rfl rfl dX8_factor_251 ?_
                                              refine q_bipush hF (n := 11) rfl dX8_factor_252 ?_
                                              refine q_callV (kc := 0) (ks := 0) (mc' := 0) (ms' := 0) (h' := 1) (st := []) hF vl_RX8_197 rfl [qI 11] rfl rfl hS.t0 (by omega) (Nat.le_of_ble_eq_true rfl) dX8_factor_254 ?_
                                              refine mX8_tells0 hS hSA her16 (show -2147483648 ≤ s16.fl ∧ s16.fl < 2147483648 by first | decide | omega | assumption) ?_
                                              refine q_goto hF dX8_factor_257 ?_
                                              refine q_return hF rfl dX8_factor_266 ?_
                                              show Q (.inl none) sz T (q_ps I m (g_mk s16.p s16.fl s16.fa s16.cd (s16.op - 1) s16.on s16.hp)) (q_row L (m + 4) t16) P
                                              exact k1 w16 x16 _ _ (by rw [← hx2, g_fac, if_neg c22, if_neg c59_0_5, if_neg c59_0_7, if_neg c59_0_9, if_neg c59_0_11, if_neg c85, if_neg c125_0_12, if_pos c196_0_13, g_facI, if_neg (by omega), e16, g_bd_e]) hw16 hfl16 hfa16 hpn16 hon16 hhp16
                                          · show qX G F Q 0 0 207 [(3, qI 4), (2, qI (q : Int)), (1, qI (g_bt B n q)), (0, .ref m)] [] sz T (q_ps I m (g_mk (g_len 45 + q) 5 (q : Int) s.cd (s.op + 1) s.on s.hp)) (q_row L (m + 4) t) P
                                            skip
                                            refine q_aload_n hF 3 rfl rfl dX8_factor_207 ?_
                                            refine q_callV (kc := 0) (ks := 0) (mc' := 0) (ms' := 0) (h' := 1) (st := []) hF vl_RX8_210 rfl [] rfl rfl hS.t0 (by omega) (Nat.le_of_ble_eq_true rfl) dX8_factor_208 ?_
                                            refine mX8_factor0 hS hSA (show (5 : Int) ≠ 0 by decide) (show -2147483648 ≤ 5 ∧ 5 < 2147483648 by first | decide | omega | assumption) ?_
                                            refine q_aload_n hF 3 rfl rfl dX8_factor_211 ?_
                                            refine q_ldcK hF (i := 46) (by decide) rfl rfl dX8_factor_212 ?_
                                            refine q_callV (kc := 0) (ks := 0) (mc' := 0) (ms' := 0) (h' := 6) (st := []) hF vl_RX8_213 rfl [.ref (q_KS G 46)] rfl rfl hS.t0 (by omega) (Nat.le_of_ble_eq_true rfl) dX8_factor_214 ?_
                                            refine mX8_must0 (i := 46) hS hSA (show (5 : Int) ≠ 0 by decide) (show -2147483648 ≤ 5 ∧ 5 < 2147483648 by first | decide | omega | assumption) ?_
                                            skip
                                            refine q_aload_n hF 3 rfl rfl dX8_factor_217 ?_
                                            refine q_callV (kc := 0) (ks := 0) (mc' := 0) (ms' := 0) (h' := 1) (st := []) hF vl_RX8_210 rfl [] rfl rfl hS.t0 (by omega) (Nat.le_of_ble_eq_true rfl) dX8_factor_218 ?_
                                            refine mX8_factor0 hS hSA (show (5 : Int) ≠ 0 by decide) (show -2147483648 ≤ 5 ∧ 5 < 2147483648 by first | decide | omega | assumption) ?_
                                            refine q_aload_n hF 3 rfl rfl dX8_factor_221 ?_
                                            refine q_ldcK hF (i := 47) (by decide) rfl rfl dX8_factor_222 ?_
                                            refine q_callV (kc := 0) (ks := 0) (mc' := 0) (ms' := 0) (h' := 6) (st := []) hF vl_RX8_213 rfl [.ref (q_KS G 47)] rfl rfl hS.t0 (by omega) (Nat.le_of_ble_eq_true rfl) dX8_factor_224 ?_
                                            refine mX8_must0 (i := 47) hS hSA (show (5 : Int) ≠ 0 by decide) (show -2147483648 ≤ 5 ∧ 5 < 2147483648 by first | decide | omega | assumption) ?_
                                            skip
                                            refine q_aload_n hF 3 rfl rfl dX8_factor_227 ?_
                                            refine q_callV (kc := 0) (ks := 0) (mc' := 0) (ms' := 0) (h' := 1) (st := []) hF vl_RX8_210 rfl [] rfl rfl hS.t0 (by omega) (Nat.le_of_ble_eq_true rfl) dX8_factor_228 ?_
                                            refine mX8_factor0 hS hSA (show (5 : Int) ≠ 0 by decide) (show -2147483648 ≤ 5 ∧ 5 < 2147483648 by first | decide | omega | assumption) ?_
                                            refine q_aload_n hF 3 rfl rfl dX8_factor_231 ?_
                                            refine q_ldcK hF (i := 48) (by decide) rfl rfl dX8_factor_232 ?_
                                            refine q_callV (kc := 0) (ks := 0) (mc' := 0) (ms' := 0) (h' := 6) (st := []) hF vl_RX8_213 rfl [.ref (q_KS G 48)] rfl rfl hS.t0 (by omega) (Nat.le_of_ble_eq_true rfl) dX8_factor_234 ?_
                                            refine mX8_must0 (i := 48) hS hSA (show (5 : Int) ≠ 0 by decide) (show -2147483648 ≤ 5 ∧ 5 < 2147483648 by first | decide | omega | assumption) ?_
                                            skip
                                            refine q_aload_n hF 3 rfl rfl dX8_factor_237 ?_
                                            refine q_callV (kc := 0) (ks := 0) (mc' := 0) (ms' := 0) (h' := 1) (st := []) hF vl_RX8_210 rfl [] rfl rfl hS.t0 (by omega) (Nat.le_of_ble_eq_true rfl) dX8_factor_238 ?_
                                            refine mX8_factor0 hS hSA (show (5 : Int) ≠ 0 by decide) (show -2147483648 ≤ 5 ∧ 5 < 2147483648 by first | decide | omega | assumption) ?_
                                            refine q_aload_n hF 3 rfl rfl dX8_factor_241 ?_
                                            refine q_dup hF rfl dX8_factor_242 ?_
                                            refine q_getIv hF (z := s.op + 1) fl_RX8_193 hS.t0 q_ps_15 dX8_factor_243 ?_
                                            refine q_iconst hF dX8_factor_246 ?_
                                            refine q_isub hF dX8_factor_247 ?_
                                            refine q_putI hF fl_RX8_193 hS.t0 hSA dX8_factor_248 ?_
                                            rw [q_ps_w15]
                                            refine q_aload_n hF 3 rfl rfl dX8_factor_251 ?_
                                            refine q_bipush hF (n := 11) rfl dX8_factor_252 ?_
                                            refine q_callV (kc := 0) (ks := 0) (mc' := 0) (ms' := 0) (h' := 1) (st := []) hF vl_RX8_197 rfl [qI 11] rfl rfl hS.t0 (by omega) (Nat.le_of_ble_eq_true rfl) dX8_factor_254 ?_
                                            refine mX8_tells0 hS hSA (show (5 : Int) ≠ 0 by decide) (show -2147483648 ≤ 5 ∧ 5 < 2147483648 by first | decide | omega | assumption) ?_
                                            refine q_goto hF dX8_factor_257 ?_
                                            refine q_return hF rfl dX8_factor_266 ?_
                                            show Q (.inl none) sz T (q_ps I m (g_mk (g_len 45 + q) 5 (q : Int) s.cd ((s.op + 1) - 1) s.on s.hp)) (q_row L (m + 4) t) P
                                            exact k1 5 q _ _ (by rw [← hx2, g_fac, if_neg c22, if_neg c59_0_5, if_neg c59_0_7, if_neg c59_0_9, if_neg c59_0_11, if_neg c85, if_neg c125_0_12, if_pos c196_0_13, g_facI, if_pos (by omega)]) (by decide) rfl rfl (show g_len 45 + q ≤ n by omega) rfl rfl
                                    · exact absurd c128 (by decide)
                                  · show qX G F Q 0 0 128 [(3, qI 4), (2, qI (q : Int)), (1, qI (g_bt B n q)), (0, .ref m)] [qI 1] sz T (q_ps I m (g_mk (g_len 44 + q) s.fl s.fa s.cd s.op s.on s.hp)) (q_row L (m + 4) t) P
                                    refine q_ifeq hF (by decide) dX8_factor_128 (fun c128 => ?_) (fun c128 => ?_)
                                    · exact absurd c128 (by decide)
                                    · have hwl44 := g_words_ok 44 (by decide)
                                      have hwn : g_len 44 + q ≤ n := g_isW_n (g_words_ok _ (by decide)) (fun k hk => by have := g_ch_r (i := 44) (by decide) hk; omega) c125_0_12
                                      obtain ⟨q2, hsk2⟩ : ∃ q2, g_sk B n (g_len 44 + q) = q2 := ⟨_, rfl⟩
                                      have hq2 := g_sk_r (B := B) hwn
                                      have hqq2 : g_sk B n q2 = q2 := by rw [← hsk2]; exact g_sk_sk hwn
                                      rw [hsk2] at hq2
                                      refine q_aload_n hF 3 rfl rfl dX8_factor_131 ?_
                                      refine q_callV (kc := 0) (ks := 0) (mc' := 0) (ms' := 0) (h' := 1) (st := []) hF vl_RX8_78 rfl [] rfl rfl hS.t0 (by omega) (Nat.le_of_ble_eq_true rfl) dX8_factor_132 ?_
                                      refine mX8_herePQ (B := B) (n := n) hS hSA hB (show (g_len 44 + q) ≤ n by omega) hsk2 ?_
                                      show qX G F Q 0 0 135 [(3, qI 4), (2, qI (q : Int)), (1, qI (g_bt B n q)), (0, .ref m)] [qI (g_bt B n q2)] sz T (q_ps I m (g_mk q2 s.fl s.fa s.cd s.op s.on s.hp)) (q_row L (m + 4) t) P
                                      refine q_bipush hF (n := 40) rfl dX8_factor_135 ?_
                                      refine q_icmpne hF (g_bt_32 hB _) (by decide) dX8_factor_137 (fun c137 => ?_) (fun c137 => ?_)
                                      · skip
                                        refine q_aload_n hF 3 rfl rfl dX8_factor_148 ?_
                                        refine q_bipush hF (n := 40) rfl dX8_factor_149 ?_
                                        refine q_callV (kc := 0) (ks := 0) (mc' := 0) (ms' := 0) (h' := 2) (st := []) hF vl_RX8_204 rfl [qI 40] rfl rfl hS.t0 (by omega) (Nat.le_of_ble_eq_true rfl) dX8_factor_151 ?_
                                        refine mX8_signPQ hS hSA hB (by decide) (show q2 ≤ n by omega) hfl hqq2 (fun (c151_0_61 : (g_bt B n q2) = 40) => ?_) (fun (c151_0_61 : (g_bt B n q2) ≠ 40) => ?_)
                                        · first | exact absurd c151_0_61 c137 | exact absurd c137 c151_0_61
                                        · show qX G F Q 0 0 154 [(3, qI 4), (2, qI (q : Int)), (1, qI (g_bt B n q)), (0, .ref m)] [] sz T (q_ps I m (g_mk q2 1 (q2 : Int) s.cd s.op s.on s.hp)) (q_row L (m + 4) t) P
                                          skip
                                          refine q_aload_n hF 3 rfl rfl dX8_factor_154 ?_
                                          refine q_callV (kc := 0) (ks := 0) (mc' := 0) (ms' := 0) (h' := 3) (st := []) hF vl_RX8_207 rfl [] rfl rfl hS.t0 (by omega) (Nat.le_of_ble_eq_true rfl) dX8_factor_155 ?_
                                          refine mX8_sum0 hS hSA (show (1 : Int) ≠ 0 by decide) (show -2147483648 ≤ 1 ∧ 1 < 2147483648 by first | decide | omega | assumption) ?_
                                          refine q_aload_n hF 3 rfl rfl dX8_factor_158 ?_
                                          refine q_bipush hF (n := 44) rfl dX8_factor_159 ?_
                                          refine q_callV (kc := 0) (ks := 0) (mc' := 0) (ms' := 0) (h' := 2) (st := []) hF vl_RX8_204 rfl [qI 44] rfl rfl hS.t0 (by omega) (Nat.le_of_ble_eq_true rfl) dX8_factor_161 ?_
                                          refine mX8_sign0 hS hSA (show (1 : Int) ≠ 0 by decide) (show -2147483648 ≤ 1 ∧ 1 < 2147483648 by first | decide | omega | assumption) ?_
                                          skip
                                          refine q_aload_n hF 3 rfl rfl dX8_factor_164 ?_
                                          refine q_callV (kc := 0) (ks := 0) (mc' := 0) (ms' := 0) (h' := 3) (st := []) hF vl_RX8_207 rfl [] rfl rfl hS.t0 (by omega) (Nat.le_of_ble_eq_true rfl) dX8_factor_165 ?_
                                          refine mX8_sum0 hS hSA (show (1 : Int) ≠ 0 by decide) (show -2147483648 ≤ 1 ∧ 1 < 2147483648 by first | decide | omega | assumption) ?_
                                          refine q_aload_n hF 3 rfl rfl dX8_factor_168 ?_
                                          refine q_bipush hF (n := 41) rfl dX8_factor_169 ?_
                                          refine q_callV (kc := 0) (ks := 0) (mc' := 0) (ms' := 0) (h' := 2) (st := []) hF vl_RX8_204 rfl [qI 41] rfl rfl hS.t0 (by omega) (Nat.le_of_ble_eq_true rfl) dX8_factor_171 ?_
                                          refine mX8_sign0 hS hSA (show (1 : Int) ≠ 0 by decide) (show -2147483648 ≤ 1 ∧ 1 < 2147483648 by first | decide | omega | assumption) ?_
                                          skip
                                          refine q_aload_n hF 3 rfl rfl dX8_factor_174 ?_
                                          refine q_dup hF rfl dX8_factor_175 ?_
                                          refine q_getIv hF (z := s.op) fl_RX8_193 hS.t0 q_ps_15 dX8_factor_176 ?_
                                          refine q_iconst hF dX8_factor_179 ?_
                                          refine q_isub hF dX8_factor_180 ?_
                                          refine q_putI hF fl_RX8_193 hS.t0 hSA dX8_factor_181 ?_
                                          rw [q_ps_w15]
                                          refine q_aload_n hF 3 rfl rfl dX8_factor_184 ?_
                                          refine q_bipush hF (n := 10) rfl dX8_factor_185 ?_
                                          refine q_callV (kc := 0) (ks := 0) (mc' := 0) (ms' := 0) (h' := 1) (st := []) hF vl_RX8_197 rfl [qI 10] rfl rfl hS.t0 (by omega) (Nat.le_of_ble_eq_true rfl) dX8_factor_187 ?_
                                          refine mX8_tells0 hS hSA (show (1 : Int) ≠ 0 by decide) (show -2147483648 ≤ 1 ∧ 1 < 2147483648 by first | decide | omega | assumption) ?_
                                          refine q_goto hF dX8_factor_190 ?_
                                          refine q_return hF rfl dX8_factor_266 ?_
                                          show Q (.inl none) sz T (q_ps I m (g_mk q2 1 (q2 : Int) s.cd (s.op - 1) s.on s.hp)) (q_row L (m + 4) t) P
                                          exact k1 1 q2 _ _ (by rw [← hx2, g_fac, if_neg c22, if_neg c59_0_5, if_neg c59_0_7, if_neg c59_0_9, if_neg c59_0_11, if_neg c85, if_pos c125_0_12, hsk2, g_facM, if_neg c151_0_61]) (by decide) rfl rfl (show q2 ≤ n by omega) rfl rfl
                                      · have hqn := g_bt_in (B := B) (n := n) (k := q2) (by omega)
                                        refine q_aload_n hF 3 rfl rfl dX8_factor_140 ?_
                                        refine q_aload_n hF 3 rfl rfl dX8_factor_141 ?_
                                        refine q_getIv hF (z := (q2 : Int)) fl_RX8_65 hS.t0 q_ps_4 dX8_factor_142 ?_
                                        refine q_callV (kc := 0) (ks := 0) (mc' := 0) (ms' := 0) (h' := 1) (st := []) hF vl_RX8_201 rfl [qI (q2 : Int)] rfl rfl hS.t0 (by omega) (Nat.le_of_ble_eq_true rfl) dX8_factor_145 ?_
                                        refine mX8_opensP hS hSA (show 0 ≤ s.op ∧ s.op ≤ 3 by omega) hfl (fun (c145_0_67 : s.op ≠ 3) => ?_) (fun (c145_0_67 : s.op = 3) => ?_)
                                        · show qX G F Q 0 0 148 [(3, qI 4), (2, qI (q : Int)), (1, qI (g_bt B n q)), (0, .ref m)] [] sz T (q_ps I m (g_mk q2 s.fl s.fa s.cd (s.op + 1) s.on s.hp)) (q_row L (m + 4) t) P
                                          skip
                                          refine q_aload_n hF 3 rfl rfl dX8_factor_148 ?_
                                          refine q_bipush hF (n := 40) rfl dX8_factor_149 ?_
                                          refine q_callV (kc := 0) (ks := 0) (mc' := 0) (ms' := 0) (h' := 2) (st := []) hF vl_RX8_204 rfl [qI 40] rfl rfl hS.t0 (by omega) (Nat.le_of_ble_eq_true rfl) dX8_factor_151 ?_
                                          refine mX8_signPQ hS hSA hB (by decide) (show q2 ≤ n by omega) hfl hqq2 (fun (c151_0_68 : (g_bt B n q2) = 40) => ?_) (fun (c151_0_68 : (g_bt B n q2) ≠ 40) => ?_)
                                          · show qX G F Q 0 0 154 [(3, qI 4), (2, qI (q : Int)), (1, qI (g_bt B n q)), (0, .ref m)] [] sz T (q_ps I m (g_mk (1 + q2) s.fl s.fa s.cd (s.op + 1) s.on s.hp)) (q_row L (m + 4) t) P
                                            skip
                                            refine q_aload_n hF 3 rfl rfl dX8_factor_154 ?_
                                            refine q_callV (kc := 0) (ks := 0) (mc' := 0) (ms' := 0) (h' := 9 + 3 * (3 - (o + 1)) + 2) (st := []) hF vl_RX8_207 rfl [] rfl rfl hS.t0 (by omega) (Nat.le_of_ble_eq_true rfl) dX8_factor_155 ?_
                                            refine ih3 _ _ _ _ _ _ (o + 1) (g_ex B n f 3 (o + 1) (1 + q2)) hB (show 1 + q2 ≤ n by omega) hfl (show s.op + 1 = (((o + 1) : Nat) : Int) by omega) (by omega) (show 2 * s.cd + 3 ≤ 3 * (1 + q2) by omega) rfl (fun e => hne (by rw [← hx2, g_fac, if_neg c22, if_neg c59_0_5, if_neg c59_0_7, if_neg c59_0_9, if_neg c59_0_11, if_neg c85, if_pos c125_0_12, hsk2, g_facM, if_pos c137, if_neg (by omega)]; rw [e]; rfl)) (fun p69 z69 e69 => ?_) (fun w69 x69 s69 t69 e69 hw69 hfl69 hfa69 hpn69 hon69 hhp69 => ?_)
                                            · have far69 := g_far_of hB (by decide) (show 1 + q2 ≤ n by omega) e69
                                              have fan69 := far69.1
                                              have faj69 := far69.2
                                              rw [if_neg (by decide)] at faj69
                                              refine q_aload_n hF 3 rfl rfl dX8_factor_158 ?_
                                              refine q_bipush hF (n := 44) rfl dX8_factor_159 ?_
                                              refine q_callV (kc := 0) (ks := 0) (mc' := 0) (ms' := 0) (h' := 2) (st := []) hF vl_RX8_204 rfl [qI 44] rfl rfl hS.t0 (by omega) (Nat.le_of_ble_eq_true rfl) dX8_factor_161 ?_
                                              refine mX8_signPQ hS hSA hB (by decide) (show p69 ≤ n by omega) hfl rfl (fun (c161_0_70 : (g_bt B n (g_sk B n p69)) = 44) => ?_) (fun (c161_0_70 : (g_bt B n (g_sk B n p69)) ≠ 44) => ?_)
                                              · show qX G F Q 0 0 164 [(3, qI 4), (2, qI (q : Int)), (1, qI (g_bt B n q)), (0, .ref m)] [] sz T (q_ps I m (g_mk (1 + (g_sk B n p69)) s.fl s.fa (s.cd + g_el z69) (s.op + 1) s.on s.hp)) (q_row L (m + 4) (g_app t (139 + s.cd) (g_encs z69))) P
                                                have hsr537 := g_sk_r (B := B) (n := n) (k := p69) (by omega)
                                                have hbn537 := g_bt_in (B := B) (n := n) (k := (g_sk B n p69)) (by omega)
                                                refine q_aload_n hF 3 rfl rfl dX8_factor_164 ?_
                                                refine q_callV (kc := 0) (ks := 0) (mc' := 0) (ms' := 0) (h' := 9 + 3 * (3 - (o + 1)) + 2) (st := []) hF vl_RX8_207 rfl [] rfl rfl hS.t0 (by omega) (Nat.le_of_ble_eq_true rfl) dX8_factor_165 ?_
                                                refine ih3 _ _ _ _ _ _ (o + 1) (g_ex B n f 3 (o + 1) (1 + (g_sk B n p69))) hB (show 1 + (g_sk B n p69) ≤ n by omega) hfl (show s.op + 1 = (((o + 1) : Nat) : Int) by omega) (by omega) (show 2 * (s.cd + g_el z69) + 3 ≤ 3 * (1 + (g_sk B n p69)) by omega) rfl (fun e => hne (by rw [← hx2, g_fac, if_neg c22, if_neg c59_0_5, if_neg c59_0_7, if_neg c59_0_9, if_neg c59_0_11, if_neg c85, if_pos c125_0_12, hsk2, g_facM, if_pos c137, if_neg (by omega), e69, g_bd_k, g_sig, if_pos c161_0_70, g_bd_k]; rw [e]; rfl)) (fun p71 z71 e71 => ?_) (fun w71 x71 s71 t71 e71 hw71 hfl71 hfa71 hpn71 hon71 hhp71 => ?_)
                                                · have far71 := g_far_of hB (by decide) (show 1 + (g_sk B n p69) ≤ n by omega) e71
                                                  have fan71 := far71.1
                                                  have faj71 := far71.2
                                                  rw [if_neg (by decide)] at faj71
                                                  refine q_aload_n hF 3 rfl rfl dX8_factor_168 ?_
                                                  refine q_bipush hF (n := 41) rfl dX8_factor_169 ?_
                                                  refine q_callV (kc := 0) (ks := 0) (mc' := 0) (ms' := 0) (h' := 2) (st := []) hF vl_RX8_204 rfl [qI 41] rfl rfl hS.t0 (by omega) (Nat.le_of_ble_eq_true rfl) dX8_factor_171 ?_
                                                  refine mX8_signPQ hS hSA hB (by decide) (show p71 ≤ n by omega) hfl rfl (fun (c171_0_72 : (g_bt B n (g_sk B n p71)) = 41) => ?_) (fun (c171_0_72 : (g_bt B n (g_sk B n p71)) ≠ 41) => ?_)
                                                  · show qX G F Q 0 0 174 [(3, qI 4), (2, qI (q : Int)), (1, qI (g_bt B n q)), (0, .ref m)] [] sz T (q_ps I m (g_mk (1 + (g_sk B n p71)) s.fl s.fa (s.cd + g_el z69 + g_el z71) (s.op + 1) s.on s.hp)) (q_row L (m + 4) (g_app (g_app t (139 + s.cd) (g_encs z69)) (139 + (s.cd + g_el z69)) (g_encs z71))) P
                                                    have hsr551 := g_sk_r (B := B) (n := n) (k := p71) (by omega)
                                                    have hbn551 := g_bt_in (B := B) (n := n) (k := (g_sk B n p71)) (by omega)
                                                    refine q_aload_n hF 3 rfl rfl dX8_factor_174 ?_
                                                    refine q_dup hF rfl dX8_factor_175 ?_
                                                    refine q_getIv hF (z := s.op + 1) fl_RX8_193 hS.t0 q_ps_15 dX8_factor_176 ?_
                                                    refine q_iconst hF dX8_factor_179 ?_
                                                    refine q_isub hF dX8_factor_180 ?_
                                                    refine q_putI hF fl_RX8_193 hS.t0 hSA dX8_factor_181 ?_
                                                    rw [q_ps_w15]
                                                    refine q_aload_n hF 3 rfl rfl dX8_factor_184 ?_
                                                    refine q_bipush hF (n := 10) rfl dX8_factor_185 ?_
                                                    refine q_callV (kc := 0) (ks := 0) (mc' := 0) (ms' := 0) (h' := 1) (st := []) hF vl_RX8_197 rfl [qI 10] rfl rfl hS.t0 (by omega) (Nat.le_of_ble_eq_true rfl) dX8_factor_187 ?_
                                                    refine mX8_tellsP hS hSA (by omega) (show (s.cd + g_el z69 + g_el z71) < 900 by omega) hfl ?_
                                                    show qX G F Q 0 0 190 [(3, qI 4), (2, qI (q : Int)), (1, qI (g_bt B n q)), (0, .ref m)] [] sz T (q_ps I m (g_mk (1 + (g_sk B n p71)) s.fl s.fa (1 + (s.cd + g_el z69 + g_el z71)) ((s.op + 1) - 1) s.on s.hp)) (q_row L (m + 4) (g_up (g_app (g_app t (139 + s.cd) (g_encs z69)) (139 + (s.cd + g_el z69)) (g_encs z71)) (139 + (s.cd + g_el z69 + g_el z71)) 10)) P
                                                    refine q_goto hF dX8_factor_190 ?_
                                                    refine q_return hF rfl dX8_factor_266 ?_
                                                    show Q (.inl none) sz T (q_ps I m (g_mk (1 + (g_sk B n p71)) s.fl s.fa (1 + (s.cd + g_el z69 + g_el z71)) ((s.op + 1) - 1) s.on s.hp)) (q_row L (m + 4) (g_up (g_app (g_app t (139 + s.cd) (g_encs z69)) (139 + (s.cd + g_el z69)) (g_encs z71)) (139 + (s.cd + g_el z69 + g_el z71)) 10)) P
                                                    refine q_Qeq (k0 (1 + (g_sk B n p71)) (z69 ++ z71 ++ [-9]) (by rw [← hx2, g_fac, if_neg c22, if_neg c59_0_5, if_neg c59_0_7, if_neg c59_0_9, if_neg c59_0_11, if_neg c85, if_pos c125_0_12, hsk2, g_facM, if_pos c137, if_neg (by omega), e69, g_bd_k, g_sig, if_pos c161_0_70, g_bd_k, e71, g_bd_k, g_sig, if_pos c171_0_72, g_bd_k])) ?_ ?_
                                                    · rw [show s.cd + g_el (z69 ++ z71 ++ [-9]) = 1 + (s.cd + g_el z69 + g_el z71) from by (try rw [g_el_app]); (try rw [g_el_app]); (try rw [g_el_app]); (try rw [g_el_app]); (try rw [g_el_neg (by decide)]); (try rw [g_el_pos (by omega)]); (try rw [g_el_nil]); omega, show (s.op + 1) - 1 = s.op from by omega]
                                                    · rw [g_app_encs, g_app_encs, g_app_neg (by decide), g_app_nil]; simp only [g_el_app, Nat.add_assoc]; try rfl
                                                  · show qX G F Q 0 0 174 [(3, qI 4), (2, qI (q : Int)), (1, qI (g_bt B n q)), (0, .ref m)] [] sz T (q_ps I m (g_mk (g_sk B n p71) 1 (g_sk B n p71 : Int) (s.cd + g_el z69 + g_el z71) (s.op + 1) s.on s.hp)) (q_row L (m + 4) (g_app (g_app t (139 + s.cd) (g_encs z69)) (139 + (s.cd + g_el z69)) (g_encs z71))) P
                                                    have hsr572 := g_sk_r (B := B) (n := n) (k := p71) (by omega)
                                                    refine q_aload_n hF 3 rfl rfl dX8_factor_174 ?_
                                                    refine q_dup hF rfl dX8_factor_175 ?_
                                                    refine q_getIv hF (z := s.op + 1) fl_RX8_193 hS.t0 q_ps_15 dX8_factor_176 ?_
                                                    refine q_iconst hF dX8_factor_179 ?_
                                                    refine q_isub hF dX8_factor_180 ?_
                                                    refine q_putI hF fl_RX8_193 hS.t0 hSA dX8_factor_181 ?_
                                                    rw [q_ps_w15]
                                                    refine q_aload_n hF 3 rfl rfl dX8_factor_184 ?_
                                                    refine q_bipush hF (n := 10) rfl dX8_factor_185 ?_
                                                    refine q_callV (kc := 0) (ks := 0) (mc' := 0) (ms' := 0) (h' := 1) (st := []) hF vl_RX8_197 rfl [qI 10] rfl rfl hS.t0 (by omega) (Nat.le_of_ble_eq_true rfl) dX8_factor_187 ?_
                                                    refine mX8_tells0 hS hSA (show (1 : Int) ≠ 0 by decide) (show -2147483648 ≤ 1 ∧ 1 < 2147483648 by first | decide | omega | assumption) ?_
                                                    refine q_goto hF dX8_factor_190 ?_
                                                    refine q_return hF rfl dX8_factor_266 ?_
                                                    show Q (.inl none) sz T (q_ps I m (g_mk (g_sk B n p71) 1 (g_sk B n p71 : Int) (s.cd + g_el z69 + g_el z71) ((s.op + 1) - 1) s.on s.hp)) (q_row L (m + 4) (g_app (g_app t (139 + s.cd) (g_encs z69)) (139 + (s.cd + g_el z69)) (g_encs z71))) P
                                                    exact k1 1 (g_sk B n p71) _ _ (by rw [← hx2, g_fac, if_neg c22, if_neg c59_0_5, if_neg c59_0_7, if_neg c59_0_9, if_neg c59_0_11, if_neg c85, if_pos c125_0_12, hsk2, g_facM, if_pos c137, if_neg (by omega), e69, g_bd_k, g_sig, if_pos c161_0_70, g_bd_k, e71, g_bd_k, g_sig, if_neg c171_0_72, g_bd_e]) (by decide) rfl rfl (show g_sk B n p71 ≤ n by omega) rfl rfl
                                                · have her71 : s71.fl ≠ 0 := by omega
                                                  have hrf71 : -2147483648 ≤ s71.fl ∧ s71.fl < 2147483648 := by omega
                                                  refine q_aload_n hF 3 rfl rfl dX8_factor_168 ?_
                                                  refine q_bipush hF (n := 41) rfl dX8_factor_169 ?_
                                                  refine q_callV (kc := 0) (ks := 0) (mc' := 0) (ms' := 0) (h' := 2) (st := []) hF vl_RX8_204 rfl [qI 41] rfl rfl hS.t0 (by omega) (Nat.le_of_ble_eq_true rfl) dX8_factor_171 ?_
                                                  refine mX8_sign0 hS hSA her71 (show -2147483648 ≤ s71.fl ∧ s71.fl < 2147483648 by first | decide | omega | assumption) ?_
                                                  skip
                                                  refine q_aload_n hF 3 rfl rfl dX8_factor_174 ?_
                                                  refine q_dup hF rfl dX8_factor_175 ?_
                                                  refine q_getIv hF (z := s71.op) fl_RX8_193 hS.t0 q_ps_15 dX8_factor_176 ?_
                                                  refine q_iconst hF dX8_factor_179 ?_
                                                  refine q_isub hF dX8_factor_180 ?_
                                                  refine q_putI hF fl_RX8_193 hS.t0 hSA dX8_factor_181 ?_
                                                  rw [q_ps_w15]
                                                  refine q_aload_n hF 3 rfl rfl dX8_factor_184 ?_
                                                  refine q_bipush hF (n := 10) rfl dX8_factor_185 ?_
                                                  refine q_callV (kc := 0) (ks := 0) (mc' := 0) (ms' := 0) (h' := 1) (st := []) hF vl_RX8_197 rfl [qI 10] rfl rfl hS.t0 (by omega) (Nat.le_of_ble_eq_true rfl) dX8_factor_187 ?_
                                                  refine mX8_tells0 hS hSA her71 (show -2147483648 ≤ s71.fl ∧ s71.fl < 2147483648 by first | decide | omega | assumption) ?_
                                                  refine q_goto hF dX8_factor_190 ?_
                                                  refine q_return hF rfl dX8_factor_266 ?_
                                                  show Q (.inl none) sz T (q_ps I m (g_mk s71.p s71.fl s71.fa s71.cd (s71.op - 1) s71.on s71.hp)) (q_row L (m + 4) t71) P
                                                  exact k1 w71 x71 _ _ (by rw [← hx2, g_fac, if_neg c22, if_neg c59_0_5, if_neg c59_0_7, if_neg c59_0_9, if_neg c59_0_11, if_neg c85, if_pos c125_0_12, hsk2, g_facM, if_pos c137, if_neg (by omega), e69, g_bd_k, g_sig, if_pos c161_0_70, g_bd_k, e71, g_bd_e]) hw71 hfl71 hfa71 hpn71 hon71 hhp71
                                              · show qX G F Q 0 0 164 [(3, qI 4), (2, qI (q : Int)), (1, qI (g_bt B n q)), (0, .ref m)] [] sz T (q_ps I m (g_mk (g_sk B n p69) 1 (g_sk B n p69 : Int) (s.cd + g_el z69) (s.op + 1) s.on s.hp)) (q_row L (m + 4) (g_app t (139 + s.cd) (g_encs z69))) P
                                                have hsr611 := g_sk_r (B := B) (n := n) (k := p69) (by omega)
                                                refine q_aload_n hF 3 rfl rfl dX8_factor_164 ?_
                                                refine q_callV (kc := 0) (ks := 0) (mc' := 0) (ms' := 0) (h' := 3) (st := []) hF vl_RX8_207 rfl [] rfl rfl hS.t0 (by omega) (Nat.le_of_ble_eq_true rfl) dX8_factor_165 ?_
                                                refine mX8_sum0 hS hSA (show (1 : Int) ≠ 0 by decide) (show -2147483648 ≤ 1 ∧ 1 < 2147483648 by first | decide | omega | assumption) ?_
                                                refine q_aload_n hF 3 rfl rfl dX8_factor_168 ?_
                                                refine q_bipush hF (n := 41) rfl dX8_factor_169 ?_
                                                refine q_callV (kc := 0) (ks := 0) (mc' := 0) (ms' := 0) (h' := 2) (st := []) hF vl_RX8_204 rfl [qI 41] rfl rfl hS.t0 (by omega) (Nat.le_of_ble_eq_true rfl) dX8_factor_171 ?_
                                                refine mX8_sign0 hS hSA (show (1 : Int) ≠ 0 by decide) (show -2147483648 ≤ 1 ∧ 1 < 2147483648 by first | decide | omega | assumption) ?_
                                                skip
                                                refine q_aload_n hF 3 rfl rfl dX8_factor_174 ?_
                                                refine q_dup hF rfl dX8_factor_175 ?_
                                                refine q_getIv hF (z := s.op + 1) fl_RX8_193 hS.t0 q_ps_15 dX8_factor_176 ?_
                                                refine q_iconst hF dX8_factor_179 ?_
                                                refine q_isub hF dX8_factor_180 ?_
                                                refine q_putI hF fl_RX8_193 hS.t0 hSA dX8_factor_181 ?_
                                                rw [q_ps_w15]
                                                refine q_aload_n hF 3 rfl rfl dX8_factor_184 ?_
                                                refine q_bipush hF (n := 10) rfl dX8_factor_185 ?_
                                                refine q_callV (kc := 0) (ks := 0) (mc' := 0) (ms' := 0) (h' := 1) (st := []) hF vl_RX8_197 rfl [qI 10] rfl rfl hS.t0 (by omega) (Nat.le_of_ble_eq_true rfl) dX8_factor_187 ?_
                                                refine mX8_tells0 hS hSA (show (1 : Int) ≠ 0 by decide) (show -2147483648 ≤ 1 ∧ 1 < 2147483648 by first | decide | omega | assumption) ?_
                                                refine q_goto hF dX8_factor_190 ?_
                                                refine q_return hF rfl dX8_factor_266 ?_
                                                show Q (.inl none) sz T (q_ps I m (g_mk (g_sk B n p69) 1 (g_sk B n p69 : Int) (s.cd + g_el z69) ((s.op + 1) - 1) s.on s.hp)) (q_row L (m + 4) (g_app t (139 + s.cd) (g_encs z69))) P
                                                exact k1 1 (g_sk B n p69) _ _ (by rw [← hx2, g_fac, if_neg c22, if_neg c59_0_5, if_neg c59_0_7, if_neg c59_0_9, if_neg c59_0_11, if_neg c85, if_pos c125_0_12, hsk2, g_facM, if_pos c137, if_neg (by omega), e69, g_bd_k, g_sig, if_neg c161_0_70, g_bd_e]) (by decide) rfl rfl (show g_sk B n p69 ≤ n by omega) rfl rfl
                                            · have her69 : s69.fl ≠ 0 := by omega
                                              have hrf69 : -2147483648 ≤ s69.fl ∧ s69.fl < 2147483648 := by omega
                                              refine q_aload_n hF 3 rfl rfl dX8_factor_158 ?_
                                              refine q_bipush hF (n := 44) rfl dX8_factor_159 ?_
                                              refine q_callV (kc := 0) (ks := 0) (mc' := 0) (ms' := 0) (h' := 2) (st := []) hF vl_RX8_204 rfl [qI 44] rfl rfl hS.t0 (by omega) (Nat.le_of_ble_eq_true rfl) dX8_factor_161 ?_
                                              refine mX8_sign0 hS hSA her69 (show -2147483648 ≤ s69.fl ∧ s69.fl < 2147483648 by first | decide | omega | assumption) ?_
                                              skip
                                              refine q_aload_n hF 3 rfl rfl dX8_factor_164 ?_
                                              refine q_callV (kc := 0) (ks := 0) (mc' := 0) (ms' := 0) (h' := 3) (st := []) hF vl_RX8_207 rfl [] rfl rfl hS.t0 (by omega) (Nat.le_of_ble_eq_true rfl) dX8_factor_165 ?_
                                              refine mX8_sum0 hS hSA her69 (show -2147483648 ≤ s69.fl ∧ s69.fl < 2147483648 by first | decide | omega | assumption) ?_
                                              refine q_aload_n hF 3 rfl rfl dX8_factor_168 ?_
                                              refine q_bipush hF (n := 41) rfl dX8_factor_169 ?_
                                              refine q_callV (kc := 0) (ks := 0) (mc' := 0) (ms' := 0) (h' := 2) (st := []) hF vl_RX8_204 rfl [qI 41] rfl rfl hS.t0 (by omega) (Nat.le_of_ble_eq_true rfl) dX8_factor_171 ?_
                                              refine mX8_sign0 hS hSA her69 (show -2147483648 ≤ s69.fl ∧ s69.fl < 2147483648 by first | decide | omega | assumption) ?_
                                              skip
                                              refine q_aload_n hF 3 rfl rfl dX8_factor_174 ?_
                                              refine q_dup hF rfl dX8_factor_175 ?_
                                              refine q_getIv hF (z := s69.op) fl_RX8_193 hS.t0 q_ps_15 dX8_factor_176 ?_
                                              refine q_iconst hF dX8_factor_179 ?_
                                              refine q_isub hF dX8_factor_180 ?_
                                              refine q_putI hF fl_RX8_193 hS.t0 hSA dX8_factor_181 ?_
                                              rw [q_ps_w15]
                                              refine q_aload_n hF 3 rfl rfl dX8_factor_184 ?_
                                              refine q_bipush hF (n := 10) rfl dX8_factor_185 ?_
                                              refine q_callV (kc := 0) (ks := 0) (mc' := 0) (ms' := 0) (h' := 1) (st := []) hF vl_RX8_197 rfl [qI 10] rfl rfl hS.t0 (by omega) (Nat.le_of_ble_eq_true rfl) dX8_factor_187 ?_
                                              refine mX8_tells0 hS hSA her69 (show -2147483648 ≤ s69.fl ∧ s69.fl < 2147483648 by first | decide | omega | assumption) ?_
                                              refine q_goto hF dX8_factor_190 ?_
                                              refine q_return hF rfl dX8_factor_266 ?_
                                              show Q (.inl none) sz T (q_ps I m (g_mk s69.p s69.fl s69.fa s69.cd (s69.op - 1) s69.on s69.hp)) (q_row L (m + 4) t69) P
                                              exact k1 w69 x69 _ _ (by rw [← hx2, g_fac, if_neg c22, if_neg c59_0_5, if_neg c59_0_7, if_neg c59_0_9, if_neg c59_0_11, if_neg c85, if_pos c125_0_12, hsk2, g_facM, if_pos c137, if_neg (by omega), e69, g_bd_e]) hw69 hfl69 hfa69 hpn69 hon69 hhp69
                                          · first | exact absurd c151_0_68 c137 | exact absurd c137 c151_0_68
                                        · show qX G F Q 0 0 148 [(3, qI 4), (2, qI (q : Int)), (1, qI (g_bt B n q)), (0, .ref m)] [] sz T (q_ps I m (g_mk q2 5 (q2 : Int) s.cd (s.op + 1) s.on s.hp)) (q_row L (m + 4) t) P
                                          skip
                                          refine q_aload_n hF 3 rfl rfl dX8_factor_148 ?_
                                          refine q_bipush hF (n := 40) rfl dX8_factor_149 ?_
                                          refine q_callV (kc := 0) (ks := 0) (mc' := 0) (ms' := 0) (h' := 2) (st := []) hF vl_RX8_204 rfl [qI 40] rfl rfl hS.t0 (by omega) (Nat.le_of_ble_eq_true rfl) dX8_factor_151 ?_
                                          refine mX8_sign0 hS hSA (show (5 : Int) ≠ 0 by decide) (show -2147483648 ≤ 5 ∧ 5 < 2147483648 by first | decide | omega | assumption) ?_
                                          skip
                                          refine q_aload_n hF 3 rfl rfl dX8_factor_154 ?_
                                          refine q_callV (kc := 0) (ks := 0) (mc' := 0) (ms' := 0) (h' := 3) (st := []) hF vl_RX8_207 rfl [] rfl rfl hS.t0 (by omega) (Nat.le_of_ble_eq_true rfl) dX8_factor_155 ?_
                                          refine mX8_sum0 hS hSA (show (5 : Int) ≠ 0 by decide) (show -2147483648 ≤ 5 ∧ 5 < 2147483648 by first | decide | omega | assumption) ?_
                                          refine q_aload_n hF 3 rfl rfl dX8_factor_158 ?_
                                          refine q_bipush hF (n := 44) rfl dX8_factor_159 ?_
                                          refine q_callV (kc := 0) (ks := 0) (mc' := 0) (ms' := 0) (h' := 2) (st := []) hF vl_RX8_204 rfl [qI 44] rfl rfl hS.t0 (by omega) (Nat.le_of_ble_eq_true rfl) dX8_factor_161 ?_
                                          refine mX8_sign0 hS hSA (show (5 : Int) ≠ 0 by decide) (show -2147483648 ≤ 5 ∧ 5 < 2147483648 by first | decide | omega | assumption) ?_
                                          skip
                                          refine q_aload_n hF 3 rfl rfl dX8_factor_164 ?_
                                          refine q_callV (kc := 0) (ks := 0) (mc' := 0) (ms' := 0) (h' := 3) (st := []) hF vl_RX8_207 rfl [] rfl rfl hS.t0 (by omega) (Nat.le_of_ble_eq_true rfl) dX8_factor_165 ?_
                                          refine mX8_sum0 hS hSA (show (5 : Int) ≠ 0 by decide) (show -2147483648 ≤ 5 ∧ 5 < 2147483648 by first | decide | omega | assumption) ?_
                                          refine q_aload_n hF 3 rfl rfl dX8_factor_168 ?_
                                          refine q_bipush hF (n := 41) rfl dX8_factor_169 ?_
                                          refine q_callV (kc := 0) (ks := 0) (mc' := 0) (ms' := 0) (h' := 2) (st := []) hF vl_RX8_204 rfl [qI 41] rfl rfl hS.t0 (by omega) (Nat.le_of_ble_eq_true rfl) dX8_factor_171 ?_
                                          refine mX8_sign0 hS hSA (show (5 : Int) ≠ 0 by decide) (show -2147483648 ≤ 5 ∧ 5 < 2147483648 by first | decide | omega | assumption) ?_
                                          skip
                                          refine q_aload_n hF 3 rfl rfl dX8_factor_174 ?_
                                          refine q_dup hF rfl dX8_factor_175 ?_
                                          refine q_getIv hF (z := s.op + 1) fl_RX8_193 hS.t0 q_ps_15 dX8_factor_176 ?_
                                          refine q_iconst hF dX8_factor_179 ?_
                                          refine q_isub hF dX8_factor_180 ?_
                                          refine q_putI hF fl_RX8_193 hS.t0 hSA dX8_factor_181 ?_
                                          rw [q_ps_w15]
                                          refine q_aload_n hF 3 rfl rfl dX8_factor_184 ?_
                                          refine q_bipush hF (n := 10) rfl dX8_factor_185 ?_
                                          refine q_callV (kc := 0) (ks := 0) (mc' := 0) (ms' := 0) (h' := 1) (st := []) hF vl_RX8_197 rfl [qI 10] rfl rfl hS.t0 (by omega) (Nat.le_of_ble_eq_true rfl) dX8_factor_187 ?_
                                          refine mX8_tells0 hS hSA (show (5 : Int) ≠ 0 by decide) (show -2147483648 ≤ 5 ∧ 5 < 2147483648 by first | decide | omega | assumption) ?_
                                          refine q_goto hF dX8_factor_190 ?_
                                          refine q_return hF rfl dX8_factor_266 ?_
                                          show Q (.inl none) sz T (q_ps I m (g_mk q2 5 (q2 : Int) s.cd ((s.op + 1) - 1) s.on s.hp)) (q_row L (m + 4) t) P
                                          exact k1 5 q2 _ _ (by rw [← hx2, g_fac, if_neg c22, if_neg c59_0_5, if_neg c59_0_7, if_neg c59_0_9, if_neg c59_0_11, if_neg c85, if_pos c125_0_12, hsk2, g_facM, if_pos c137, if_pos (by omega)]) (by decide) rfl rfl (show q2 ≤ n by omega) rfl rfl
                                · have hqn := g_bt_in (B := B) (n := n) (k := q) (by omega)
                                  refine q_aload_n hF 3 rfl rfl dX8_factor_88 ?_
                                  refine q_iload_n hF 1 rfl rfl dX8_factor_89 ?_
                                  refine q_callV (kc := 0) (ks := 0) (mc' := 0) (ms' := 0) (h' := 1) (st := []) hF vl_RX8_201 rfl [qI (q : Int)] rfl rfl hS.t0 (by omega) (Nat.le_of_ble_eq_true rfl) dX8_factor_90 ?_
                                  refine mX8_opensP hS hSA (show 0 ≤ s.op ∧ s.op ≤ 3 by omega) hfl (fun (c90_0_90 : s.op ≠ 3) => ?_) (fun (c90_0_90 : s.op = 3) => ?_)
                                  · show qX G F Q 0 0 93 [(3, qI 4), (2, qI (q : Int)), (1, qI (g_bt B n q)), (0, .ref m)] [] sz T (q_ps I m (g_mk q s.fl s.fa s.cd (s.op + 1) s.on s.hp)) (q_row L (m + 4) t) P
                                    skip
                                    refine q_aload_n hF 3 rfl rfl dX8_factor_93 ?_
                                    refine q_bipush hF (n := 40) rfl dX8_factor_94 ?_
                                    refine q_callV (kc := 0) (ks := 0) (mc' := 0) (ms' := 0) (h' := 2) (st := []) hF vl_RX8_204 rfl [qI 40] rfl rfl hS.t0 (by omega) (Nat.le_of_ble_eq_true rfl) dX8_factor_96 ?_
                                    refine mX8_signPQ hS hSA hB (by decide) (show q ≤ n by omega) hfl hqq (fun (c96_0_91 : (g_bt B n q) = 40) => ?_) (fun (c96_0_91 : (g_bt B n q) ≠ 40) => ?_)
                                    · show qX G F Q 0 0 99 [(3, qI 4), (2, qI (q : Int)), (1, qI (g_bt B n q)), (0, .ref m)] [] sz T (q_ps I m (g_mk (1 + q) s.fl s.fa s.cd (s.op + 1) s.on s.hp)) (q_row L (m + 4) t) P
                                      skip
                                      refine q_aload_n hF 3 rfl rfl dX8_factor_99 ?_
                                      refine q_callV (kc := 0) (ks := 0) (mc' := 0) (ms' := 0) (h' := 9 + 3 * (3 - (o + 1)) + 2) (st := []) hF vl_RX8_207 rfl [] rfl rfl hS.t0 (by omega) (Nat.le_of_ble_eq_true rfl) dX8_factor_100 ?_
                                      refine ih3 _ _ _ _ _ _ (o + 1) (g_ex B n f 3 (o + 1) (1 + q)) hB (show 1 + q ≤ n by omega) hfl (show s.op + 1 = (((o + 1) : Nat) : Int) by omega) (by omega) (show 2 * s.cd + 3 ≤ 3 * (1 + q) by omega) rfl (fun e => hne (by rw [← hx2, g_fac, if_neg c22, if_neg c59_0_5, if_neg c59_0_7, if_neg c59_0_9, if_neg c59_0_11, if_pos c85, g_facB, if_neg (by omega)]; rw [e]; rfl)) (fun p92 z92 e92 => ?_) (fun w92 x92 s92 t92 e92 hw92 hfl92 hfa92 hpn92 hon92 hhp92 => ?_)
                                      · have far92 := g_far_of hB (by decide) (show 1 + q ≤ n by omega) e92
                                        have fan92 := far92.1
                                        have faj92 := far92.2
                                        rw [if_neg (by decide)] at faj92
                                        refine q_aload_n hF 3 rfl rfl dX8_factor_103 ?_
                                        refine q_bipush hF (n := 41) rfl dX8_factor_104 ?_
                                        refine q_callV (kc := 0) (ks := 0) (mc' := 0) (ms' := 0) (h' := 2) (st := []) hF vl_RX8_204 rfl [qI 41] rfl rfl hS.t0 (by omega) (Nat.le_of_ble_eq_true rfl) dX8_factor_106 ?_
                                        refine mX8_signPQ hS hSA hB (by decide) (show p92 ≤ n by omega) hfl rfl (fun (c106_0_93 : (g_bt B n (g_sk B n p92)) = 41) => ?_) (fun (c106_0_93 : (g_bt B n (g_sk B n p92)) ≠ 41) => ?_)
                                        · show qX G F Q 0 0 109 [(3, qI 4), (2, qI (q : Int)), (1, qI (g_bt B n q)), (0, .ref m)] [] sz T (q_ps I m (g_mk (1 + (g_sk B n p92)) s.fl s.fa (s.cd + g_el z92) (s.op + 1) s.on s.hp)) (q_row L (m + 4) (g_app t (139 + s.cd) (g_encs z92))) P
                                          have hsr729 := g_sk_r (B := B) (n := n) (k := p92) (by omega)
                                          have hbn729 := g_bt_in (B := B) (n := n) (k := (g_sk B n p92)) (by omega)
                                          refine q_aload_n hF 3 rfl rfl dX8_factor_109 ?_
                                          refine q_dup hF rfl dX8_factor_110 ?_
                                          refine q_getIv hF (z := s.op + 1) fl_RX8_193 hS.t0 q_ps_15 dX8_factor_111 ?_
                                          refine q_iconst hF dX8_factor_114 ?_
                                          refine q_isub hF dX8_factor_115 ?_
                                          refine q_putI hF fl_RX8_193 hS.t0 hSA dX8_factor_116 ?_
                                          rw [q_ps_w15]
                                          refine q_goto hF dX8_factor_119 ?_
                                          refine q_return hF rfl dX8_factor_266 ?_
                                          show Q (.inl none) sz T (q_ps I m (g_mk (1 + (g_sk B n p92)) s.fl s.fa (s.cd + g_el z92) ((s.op + 1) - 1) s.on s.hp)) (q_row L (m + 4) (g_app t (139 + s.cd) (g_encs z92))) P
                                          refine q_Qeq (k0 (1 + (g_sk B n p92)) z92 (by rw [← hx2, g_fac, if_neg c22, if_neg c59_0_5, if_neg c59_0_7, if_neg c59_0_9, if_neg c59_0_11, if_pos c85, g_facB, if_neg (by omega), e92, g_bd_k, g_sig, if_pos c106_0_93, g_bd_k])) ?_ ?_
                                          · rw [show (s.op + 1) - 1 = s.op from by omega]
                                          · rfl
                                        · show qX G F Q 0 0 109 [(3, qI 4), (2, qI (q : Int)), (1, qI (g_bt B n q)), (0, .ref m)] [] sz T (q_ps I m (g_mk (g_sk B n p92) 1 (g_sk B n p92 : Int) (s.cd + g_el z92) (s.op + 1) s.on s.hp)) (q_row L (m + 4) (g_app t (139 + s.cd) (g_encs z92))) P
                                          have hsr745 := g_sk_r (B := B) (n := n) (k := p92) (by omega)
                                          refine q_aload_n hF 3 rfl rfl dX8_factor_109 ?_
                                          refine q_dup hF rfl dX8_factor_110 ?_
                                          refine q_getIv hF (z := s.op + 1) fl_RX8_193 hS.t0 q_ps_15 dX8_factor_111 ?_
                                          refine q_iconst hF dX8_factor_114 ?_
                                          refine q_isub hF dX8_factor_115 ?_
                                          refine q_putI hF fl_RX8_193 hS.t0 hSA dX8_factor_116 ?_
                                          rw [q_ps_w15]
                                          refine q_goto hF dX8_factor_119 ?_
                                          refine q_return hF rfl dX8_factor_266 ?_
                                          show Q (.inl none) sz T (q_ps I m (g_mk (g_sk B n p92) 1 (g_sk B n p92 : Int) (s.cd + g_el z92) ((s.op + 1) - 1) s.on s.hp)) (q_row L (m + 4) (g_app t (139 + s.cd) (g_encs z92))) P
                                          exact k1 1 (g_sk B n p92) _ _ (by rw [← hx2, g_fac, if_neg c22, if_neg c59_0_5, if_neg c59_0_7, if_neg c59_0_9, if_neg c59_0_11, if_pos c85, g_facB, if_neg (by omega), e92, g_bd_k, g_sig, if_neg c106_0_93, g_bd_e]) (by decide) rfl rfl (show g_sk B n p92 ≤ n by omega) rfl rfl
                                      · have her92 : s92.fl ≠ 0 := by omega
                                        have hrf92 : -2147483648 ≤ s92.fl ∧ s92.fl < 2147483648 := by omega
                                        refine q_aload_n hF 3 rfl rfl dX8_factor_103 ?_
                                        refine q_bipush hF (n := 41) rfl dX8_factor_104 ?_
                                        refine q_callV (kc := 0) (ks := 0) (mc' := 0) (ms' := 0) (h' := 2) (st := []) hF vl_RX8_204 rfl [qI 41] rfl rfl hS.t0 (by omega) (Nat.le_of_ble_eq_true rfl) dX8_factor_106 ?_
                                        refine mX8_sign0 hS hSA her92 (show -2147483648 ≤ s92.fl ∧ s92.fl < 2147483648 by first | decide | omega | assumption) ?_
                                        skip
                                        refine q_aload_n hF 3 rfl rfl dX8_factor_109 ?_
                                        refine q_dup hF rfl dX8_factor_110 ?_
                                        refine q_getIv hF (z := s92.op) fl_RX8_193 hS.t0 q_ps_15 dX8_factor_111 ?_
                                        refine q_iconst hF dX8_factor_114 ?_
                                        refine q_isub hF dX8_factor_115 ?_
                                        refine q_putI hF fl_RX8_193 hS.t0 hSA dX8_factor_116 ?_
                                        rw [q_ps_w15]
                                        refine q_goto hF dX8_factor_119 ?_
                                        refine q_return hF rfl dX8_factor_266 ?_
                                        show Q (.inl none) sz T (q_ps I m (g_mk s92.p s92.fl s92.fa s92.cd (s92.op - 1) s92.on s92.hp)) (q_row L (m + 4) t92) P
                                        exact k1 w92 x92 _ _ (by rw [← hx2, g_fac, if_neg c22, if_neg c59_0_5, if_neg c59_0_7, if_neg c59_0_9, if_neg c59_0_11, if_pos c85, g_facB, if_neg (by omega), e92, g_bd_e]) hw92 hfl92 hfa92 hpn92 hon92 hhp92
                                    · first | exact absurd c96_0_91 c85 | exact absurd c85 c96_0_91
                                  · show qX G F Q 0 0 93 [(3, qI 4), (2, qI (q : Int)), (1, qI (g_bt B n q)), (0, .ref m)] [] sz T (q_ps I m (g_mk q 5 (q : Int) s.cd (s.op + 1) s.on s.hp)) (q_row L (m + 4) t) P
                                    skip
                                    refine q_aload_n hF 3 rfl rfl dX8_factor_93 ?_
                                    refine q_bipush hF (n := 40) rfl dX8_factor_94 ?_
                                    refine q_callV (kc := 0) (ks := 0) (mc' := 0) (ms' := 0) (h' := 2) (st := []) hF vl_RX8_204 rfl [qI 40] rfl rfl hS.t0 (by omega) (Nat.le_of_ble_eq_true rfl) dX8_factor_96 ?_
                                    refine mX8_sign0 hS hSA (show (5 : Int) ≠ 0 by decide) (show -2147483648 ≤ 5 ∧ 5 < 2147483648 by first | decide | omega | assumption) ?_
                                    skip
                                    refine q_aload_n hF 3 rfl rfl dX8_factor_99 ?_
                                    refine q_callV (kc := 0) (ks := 0) (mc' := 0) (ms' := 0) (h' := 3) (st := []) hF vl_RX8_207 rfl [] rfl rfl hS.t0 (by omega) (Nat.le_of_ble_eq_true rfl) dX8_factor_100 ?_
                                    refine mX8_sum0 hS hSA (show (5 : Int) ≠ 0 by decide) (show -2147483648 ≤ 5 ∧ 5 < 2147483648 by first | decide | omega | assumption) ?_
                                    refine q_aload_n hF 3 rfl rfl dX8_factor_103 ?_
                                    refine q_bipush hF (n := 41) rfl dX8_factor_104 ?_
                                    refine q_callV (kc := 0) (ks := 0) (mc' := 0) (ms' := 0) (h' := 2) (st := []) hF vl_RX8_204 rfl [qI 41] rfl rfl hS.t0 (by omega) (Nat.le_of_ble_eq_true rfl) dX8_factor_106 ?_
                                    refine mX8_sign0 hS hSA (show (5 : Int) ≠ 0 by decide) (show -2147483648 ≤ 5 ∧ 5 < 2147483648 by first | decide | omega | assumption) ?_
                                    skip
                                    refine q_aload_n hF 3 rfl rfl dX8_factor_109 ?_
                                    refine q_dup hF rfl dX8_factor_110 ?_
                                    refine q_getIv hF (z := s.op + 1) fl_RX8_193 hS.t0 q_ps_15 dX8_factor_111 ?_
                                    refine q_iconst hF dX8_factor_114 ?_
                                    refine q_isub hF dX8_factor_115 ?_
                                    refine q_putI hF fl_RX8_193 hS.t0 hSA dX8_factor_116 ?_
                                    rw [q_ps_w15]
                                    refine q_goto hF dX8_factor_119 ?_
                                    refine q_return hF rfl dX8_factor_266 ?_
                                    show Q (.inl none) sz T (q_ps I m (g_mk q 5 (q : Int) s.cd ((s.op + 1) - 1) s.on s.hp)) (q_row L (m + 4) t) P
                                    exact k1 5 q _ _ (by rw [← hx2, g_fac, if_neg c22, if_neg c59_0_5, if_neg c59_0_7, if_neg c59_0_9, if_neg c59_0_11, if_pos c85, g_facB, if_pos (by omega)]) (by decide) rfl rfl (show q ≤ n by omega) rfl rfl
                              · exact absurd c48 (by decide)
                          · show qX G F Q 0 0 62 [(3, qI 3), (2, qI (q : Int)), (1, qI (g_bt B n q)), (0, .ref m)] [qI 1] sz T (q_ps I m (g_mk (g_len 38 + q) s.fl s.fa s.cd s.op s.on s.hp)) (q_row L (m + 4) t) P
                            refine q_ifne hF (by decide) dX8_factor_62 (fun c62 => ?_) (fun c62 => ?_)
                            · have hwn := g_isW_n (g_words_ok _ (by decide)) (fun k hk => by have := g_ch_r (by decide) hk; omega) c59_0_11
                              refine q_aload_n hF 3 rfl rfl dX8_factor_68 ?_
                              refine q_iconst hF dX8_factor_69 ?_
                              refine q_iload_n hF 0 rfl rfl dX8_factor_70 ?_
                              refine q_iadd hF dX8_factor_71 ?_
                              refine q_callV (kc := 0) (ks := 0) (mc' := 0) (ms' := 0) (h' := 1) (st := []) hF vl_RX8_197 rfl [qI (2 + 3)] rfl rfl hS.t0 (by omega) (Nat.le_of_ble_eq_true rfl) dX8_factor_72 ?_
                              refine mX8_tellsP hS hSA (by omega) (show s.cd < 900 by omega) hfl ?_
                              show qX G F Q 0 0 75 [(3, qI 3), (2, qI (q : Int)), (1, qI (g_bt B n q)), (0, .ref m)] [] sz T (q_ps I m (g_mk (g_len 38 + q) s.fl s.fa (1 + s.cd) s.op s.on s.hp)) (q_row L (m + 4) (g_up t (139 + s.cd) (2 + 3))) P
                              refine q_return hF rfl dX8_factor_75 ?_
                              show Q (.inl none) sz T (q_ps I m (g_mk (g_len 38 + q) s.fl s.fa (1 + s.cd) s.op s.on s.hp)) (q_row L (m + 4) (g_up t (139 + s.cd) (2 + 3))) P
                              refine q_Qeq (k0 (g_len 38 + q) ([-4]) (by rw [← hx2, g_fac, if_neg c22, if_neg c59_0_5, if_neg c59_0_7, if_neg c59_0_9, if_pos c59_0_11])) ?_ ?_
                              · rw [show s.cd + g_el ([-4]) = 1 + s.cd from by (try rw [g_el_app]); (try rw [g_el_app]); (try rw [g_el_app]); (try rw [g_el_app]); (try rw [g_el_neg (by decide)]); (try rw [g_el_pos (by omega)]); (try rw [g_el_nil]); omega]
                              · rw [g_app_neg (by decide), g_app_nil]; rfl
                            · exact absurd c62 (by decide)
                    · show qX G F Q 0 0 62 [(3, qI 2), (2, qI (q : Int)), (1, qI (g_bt B n q)), (0, .ref m)] [qI 1] sz T (q_ps I m (g_mk (g_len 37 + q) s.fl s.fa s.cd s.op s.on s.hp)) (q_row L (m + 4) t) P
                      refine q_ifne hF (by decide) dX8_factor_62 (fun c62 => ?_) (fun c62 => ?_)
                      · have hwn := g_isW_n (g_words_ok _ (by decide)) (fun k hk => by have := g_ch_r (by decide) hk; omega) c59_0_9
                        refine q_aload_n hF 3 rfl rfl dX8_factor_68 ?_
                        refine q_iconst hF dX8_factor_69 ?_
                        refine q_iload_n hF 0 rfl rfl dX8_factor_70 ?_
                        refine q_iadd hF dX8_factor_71 ?_
                        refine q_callV (kc := 0) (ks := 0) (mc' := 0) (ms' := 0) (h' := 1) (st := []) hF vl_RX8_197 rfl [qI (2 + 2)] rfl rfl hS.t0 (by omega) (Nat.le_of_ble_eq_true rfl) dX8_factor_72 ?_
                        refine mX8_tellsP hS hSA (by omega) (show s.cd < 900 by omega) hfl ?_
                        show qX G F Q 0 0 75 [(3, qI 2), (2, qI (q : Int)), (1, qI (g_bt B n q)), (0, .ref m)] [] sz T (q_ps I m (g_mk (g_len 37 + q) s.fl s.fa (1 + s.cd) s.op s.on s.hp)) (q_row L (m + 4) (g_up t (139 + s.cd) (2 + 2))) P
                        refine q_return hF rfl dX8_factor_75 ?_
                        show Q (.inl none) sz T (q_ps I m (g_mk (g_len 37 + q) s.fl s.fa (1 + s.cd) s.op s.on s.hp)) (q_row L (m + 4) (g_up t (139 + s.cd) (2 + 2))) P
                        refine q_Qeq (k0 (g_len 37 + q) ([-3]) (by rw [← hx2, g_fac, if_neg c22, if_neg c59_0_5, if_neg c59_0_7, if_pos c59_0_9])) ?_ ?_
                        · rw [show s.cd + g_el ([-3]) = 1 + s.cd from by (try rw [g_el_app]); (try rw [g_el_app]); (try rw [g_el_app]); (try rw [g_el_app]); (try rw [g_el_neg (by decide)]); (try rw [g_el_pos (by omega)]); (try rw [g_el_nil]); omega]
                        · rw [g_app_neg (by decide), g_app_nil]; rfl
                      · exact absurd c62 (by decide)
              · show qX G F Q 0 0 62 [(3, qI 1), (2, qI (q : Int)), (1, qI (g_bt B n q)), (0, .ref m)] [qI 1] sz T (q_ps I m (g_mk (g_len 36 + q) s.fl s.fa s.cd s.op s.on s.hp)) (q_row L (m + 4) t) P
                refine q_ifne hF (by decide) dX8_factor_62 (fun c62 => ?_) (fun c62 => ?_)
                · have hwn := g_isW_n (g_words_ok _ (by decide)) (fun k hk => by have := g_ch_r (by decide) hk; omega) c59_0_7
                  refine q_aload_n hF 3 rfl rfl dX8_factor_68 ?_
                  refine q_iconst hF dX8_factor_69 ?_
                  refine q_iload_n hF 0 rfl rfl dX8_factor_70 ?_
                  refine q_iadd hF dX8_factor_71 ?_
                  refine q_callV (kc := 0) (ks := 0) (mc' := 0) (ms' := 0) (h' := 1) (st := []) hF vl_RX8_197 rfl [qI (2 + 1)] rfl rfl hS.t0 (by omega) (Nat.le_of_ble_eq_true rfl) dX8_factor_72 ?_
                  refine mX8_tellsP hS hSA (by omega) (show s.cd < 900 by omega) hfl ?_
                  show qX G F Q 0 0 75 [(3, qI 1), (2, qI (q : Int)), (1, qI (g_bt B n q)), (0, .ref m)] [] sz T (q_ps I m (g_mk (g_len 36 + q) s.fl s.fa (1 + s.cd) s.op s.on s.hp)) (q_row L (m + 4) (g_up t (139 + s.cd) (2 + 1))) P
                  refine q_return hF rfl dX8_factor_75 ?_
                  show Q (.inl none) sz T (q_ps I m (g_mk (g_len 36 + q) s.fl s.fa (1 + s.cd) s.op s.on s.hp)) (q_row L (m + 4) (g_up t (139 + s.cd) (2 + 1))) P
                  refine q_Qeq (k0 (g_len 36 + q) ([-2]) (by rw [← hx2, g_fac, if_neg c22, if_neg c59_0_5, if_pos c59_0_7])) ?_ ?_
                  · rw [show s.cd + g_el ([-2]) = 1 + s.cd from by (try rw [g_el_app]); (try rw [g_el_app]); (try rw [g_el_app]); (try rw [g_el_app]); (try rw [g_el_neg (by decide)]); (try rw [g_el_pos (by omega)]); (try rw [g_el_nil]); omega]
                  · rw [g_app_neg (by decide), g_app_nil]; rfl
                · exact absurd c62 (by decide)
        · show qX G F Q 0 0 62 [(3, qI 0), (2, qI (q : Int)), (1, qI (g_bt B n q)), (0, .ref m)] [qI 1] sz T (q_ps I m (g_mk (g_len 35 + q) s.fl s.fa s.cd s.op s.on s.hp)) (q_row L (m + 4) t) P
          refine q_ifne hF (by decide) dX8_factor_62 (fun c62 => ?_) (fun c62 => ?_)
          · have hwn := g_isW_n (g_words_ok _ (by decide)) (fun k hk => by have := g_ch_r (by decide) hk; omega) c59_0_5
            refine q_aload_n hF 3 rfl rfl dX8_factor_68 ?_
            refine q_iconst hF dX8_factor_69 ?_
            refine q_iload_n hF 0 rfl rfl dX8_factor_70 ?_
            refine q_iadd hF dX8_factor_71 ?_
            refine q_callV (kc := 0) (ks := 0) (mc' := 0) (ms' := 0) (h' := 1) (st := []) hF vl_RX8_197 rfl [qI (2 + 0)] rfl rfl hS.t0 (by omega) (Nat.le_of_ble_eq_true rfl) dX8_factor_72 ?_
            refine mX8_tellsP hS hSA (by omega) (show s.cd < 900 by omega) hfl ?_
            show qX G F Q 0 0 75 [(3, qI 0), (2, qI (q : Int)), (1, qI (g_bt B n q)), (0, .ref m)] [] sz T (q_ps I m (g_mk (g_len 35 + q) s.fl s.fa (1 + s.cd) s.op s.on s.hp)) (q_row L (m + 4) (g_up t (139 + s.cd) (2 + 0))) P
            refine q_return hF rfl dX8_factor_75 ?_
            show Q (.inl none) sz T (q_ps I m (g_mk (g_len 35 + q) s.fl s.fa (1 + s.cd) s.op s.on s.hp)) (q_row L (m + 4) (g_up t (139 + s.cd) (2 + 0))) P
            refine q_Qeq (k0 (g_len 35 + q) ([-1]) (by rw [← hx2, g_fac, if_neg c22, if_pos c59_0_5])) ?_ ?_
            · rw [show s.cd + g_el ([-1]) = 1 + s.cd from by (try rw [g_el_app]); (try rw [g_el_app]); (try rw [g_el_app]); (try rw [g_el_app]); (try rw [g_el_neg (by decide)]); (try rw [g_el_pos (by omega)]); (try rw [g_el_nil]); omega]
            · rw [g_app_neg (by decide), g_app_nil]; rfl
          · exact absurd c62 (by decide)
    · have hnd := g_nd_gt hq.2 c22
      have hnv := g_nv_r (B := B) (n := n) _ q 0 (Nat.lt_succ_self _) (by decide) (by decide)
      refine q_aload_n hF 2 rfl rfl dX8_factor_25 ?_
      refine q_iconst hF dX8_factor_26 ?_
      refine q_ldc hF (n := 999999) (q_mem 1473 (by decide +kernel) rfl) dX8_factor_27 ?_
      refine q_callV (kc := 0) (ks := 0) (mc' := 0) (ms' := 0) (h' := 2) (st := []) hF vl_RX8_187 rfl [qI 0, qI 999999] rfl rfl hS.t0 (by omega) (Nat.le_of_ble_eq_true rfl) dX8_factor_29 ?_
      refine mX8_numberPQ hS hSA hB (by first | decide | omega) (by first | decide | omega) (show q ≤ n by omega) hfl hqq (fun (c29_0_102 : ¬ (48 ≤ (g_bt B n q) ∧ (g_bt B n q) ≤ 57)) => ?_) (fun (c29_0_102 : 48 ≤ (g_bt B n q) ∧ (g_bt B n q) ≤ 57) (c29_1_102 : 0 ≤ g_nv B n q 0 ∧ g_nv B n q 0 ≤ 999999) => ?_) (fun (c29_0_102 : 48 ≤ (g_bt B n q) ∧ (g_bt B n q) ≤ 57) (c29_1_102 : ¬ (0 ≤ g_nv B n q 0 ∧ g_nv B n q 0 ≤ 999999)) => ?_)
      · first | exact absurd c29_0_102 c22 | exact absurd c22 c29_0_102
      · show qX G F Q 0 0 32 [(2, qI (q : Int)), (1, qI (g_bt B n q)), (0, .ref m)] [qI (g_nv B n q 0)] sz T (q_ps I m (g_mk (g_nd B n q) s.fl s.fa s.cd s.op s.on s.hp)) (q_row L (m + 4) t) P
        refine q_istore_n hF (ls' := [(3, qI (g_nv B n q 0)), (2, qI (q : Int)), (1, qI (g_bt B n q)), (0, .ref m)]) rfl (by decide) rfl dX8_factor_32 ?_
        refine q_aload_n hF 3 rfl rfl dX8_factor_33 ?_
        refine q_iconst hF dX8_factor_34 ?_
        refine q_callV (kc := 0) (ks := 0) (mc' := 0) (ms' := 0) (h' := 1) (st := []) hF vl_RX8_197 rfl [qI 1] rfl rfl hS.t0 (by omega) (Nat.le_of_ble_eq_true rfl) dX8_factor_35 ?_
        refine mX8_tellsP hS hSA (by omega) (show s.cd < 900 by omega) hfl ?_
        show qX G F Q 0 0 38 [(3, qI (g_nv B n q 0)), (2, qI (q : Int)), (1, qI (g_bt B n q)), (0, .ref m)] [] sz T (q_ps I m (g_mk (g_nd B n q) s.fl s.fa (1 + s.cd) s.op s.on s.hp)) (q_row L (m + 4) (g_up t (139 + s.cd) 1)) P
        refine q_aload_n hF 3 rfl rfl dX8_factor_38 ?_
        refine q_iload_n hF 0 rfl rfl dX8_factor_39 ?_
        refine q_callV (kc := 0) (ks := 0) (mc' := 0) (ms' := 0) (h' := 1) (st := []) hF vl_RX8_197 rfl [qI (g_nv B n q 0)] rfl rfl hS.t0 (by omega) (Nat.le_of_ble_eq_true rfl) dX8_factor_40 ?_
        refine mX8_tellsP hS hSA (by omega) (show (1 + s.cd) < 900 by omega) hfl ?_
        show qX G F Q 0 0 43 [(3, qI (g_nv B n q 0)), (2, qI (q : Int)), (1, qI (g_bt B n q)), (0, .ref m)] [] sz T (q_ps I m (g_mk (g_nd B n q) s.fl s.fa (1 + (1 + s.cd)) s.op s.on s.hp)) (q_row L (m + 4) (g_up (g_up t (139 + s.cd) 1) (139 + (1 + s.cd)) (g_nv B n q 0))) P
        refine q_return hF rfl dX8_factor_43 ?_
        show Q (.inl none) sz T (q_ps I m (g_mk (g_nd B n q) s.fl s.fa (1 + (1 + s.cd)) s.op s.on s.hp)) (q_row L (m + 4) (g_up (g_up t (139 + s.cd) 1) (139 + (1 + s.cd)) (g_nv B n q 0))) P
        refine q_Qeq (k0 (g_nd B n q) ([g_nv B n q 0]) (by rw [← hx2, g_fac, if_pos c22, if_pos (by omega)])) ?_ ?_
        · rw [show s.cd + g_el ([g_nv B n q 0]) = 1 + (1 + s.cd) from by (try rw [g_el_app]); (try rw [g_el_app]); (try rw [g_el_app]); (try rw [g_el_app]); (try rw [g_el_neg (by decide)]); (try rw [g_el_pos (by omega)]); (try rw [g_el_nil]); omega]
        · rw [g_app_pos hnv.1, g_app_nil, show 139 + s.cd + 1 = 139 + (1 + s.cd) from by omega]
      · show qX G F Q 0 0 32 [(2, qI (q : Int)), (1, qI (g_bt B n q)), (0, .ref m)] [qI (g_nv B n q 0)] sz T (q_ps I m (g_mk (g_nd B n q) 2 (q : Int) s.cd s.op s.on s.hp)) (q_row L (m + 4) t) P
        refine q_istore_n hF (ls' := [(3, qI (g_nv B n q 0)), (2, qI (q : Int)), (1, qI (g_bt B n q)), (0, .ref m)]) rfl (by decide) rfl dX8_factor_32 ?_
        refine q_aload_n hF 3 rfl rfl dX8_factor_33 ?_
        refine q_iconst hF dX8_factor_34 ?_
        refine q_callV (kc := 0) (ks := 0) (mc' := 0) (ms' := 0) (h' := 1) (st := []) hF vl_RX8_197 rfl [qI 1] rfl rfl hS.t0 (by omega) (Nat.le_of_ble_eq_true rfl) dX8_factor_35 ?_
        refine mX8_tells0 hS hSA (show (2 : Int) ≠ 0 by decide) (show -2147483648 ≤ 2 ∧ 2 < 2147483648 by first | decide | omega | assumption) ?_
        refine q_aload_n hF 3 rfl rfl dX8_factor_38 ?_
        refine q_iload_n hF 0 rfl rfl dX8_factor_39 ?_
        refine q_callV (kc := 0) (ks := 0) (mc' := 0) (ms' := 0) (h' := 1) (st := []) hF vl_RX8_197 rfl [qI (g_nv B n q 0)] rfl rfl hS.t0 (by omega) (Nat.le_of_ble_eq_true rfl) dX8_factor_40 ?_
        refine mX8_tells0 hS hSA (show (2 : Int) ≠ 0 by decide) (show -2147483648 ≤ 2 ∧ 2 < 2147483648 by first | decide | omega | assumption) ?_
        refine q_return hF rfl dX8_factor_43 ?_
        show Q (.inl none) sz T (q_ps I m (g_mk (g_nd B n q) 2 (q : Int) s.cd s.op s.on s.hp)) (q_row L (m + 4) t) P
        exact k1 2 q _ _ (by rw [← hx2, g_fac, if_pos c22, if_neg (by omega)]) (by decide) rfl rfl (show g_nd B n q ≤ n by omega) rfl rfl
  · exact absurd c4 (by decide)
set_option maxRecDepth 100000 in
theorem sX8_productL {G : q_G} {T : q_T} {P : q_P} {m n : Nat} {B : Nat → Int} {f : Nat} (hS : q_SM T P m) (hSA : q_A G m) (ih0 : q_CE G T P m n B f 0 YX8_factor (fun o => 9 + 3 * (3 - o))) (ihL : q_LE G T P m n B f 2 YX8_product 4 (fun o => 9 + 3 * (3 - o) + 1)) : q_LE G T P m n B (f + 1) 2 YX8_product 4 (fun o => 9 + 3 * (3 - o) + 1) := by
  intro F h kc ks sz I L Q s t o r hF hh hB hp hfl hop ho hcd hx hne k0 k1
  have hn6 := hB.2.1
  have hh9 : 9 + 3 * (3 - o) + 1 ≤ h := hh
  refine q_aload_n hF 0 rfl rfl dX8_product_4 ?_
  refine q_callV (kc := kc) (ks := ks) (mc' := 0) (ms' := 0) (h' := 0) (st := []) hF vl_RX8_95 rfl [] rfl rfl hS.t0 (by omega) (Nat.le_of_ble_eq_true rfl) dX8_product_5 ?_
  refine mX8_fineA hS hfl ?_
  refine q_ifeq hF (by decide) dX8_product_8 (fun c8 => ?_) (fun c8 => ?_)
  · exact absurd c8 (by decide)
  · obtain ⟨q, hsk⟩ : ∃ q, g_sk B n s.p = q := ⟨_, rfl⟩
    have hq := g_sk_r (B := B) hp
    rw [hsk] at hq
    have hqq : g_sk B n q = q := by rw [← hsk]; exact g_sk_sk hp
    have hx2 : g_prL B n (g_ex B n f) o q = r := by rw [← hx, g_ex_2, hsk]
    refine q_aload_n hF 0 rfl rfl dX8_product_11 ?_
    refine q_callV (kc := kc) (ks := ks) (mc' := 0) (ms' := 0) (h' := 1) (st := []) hF vl_RX8_78 rfl [] rfl rfl hS.t0 (by omega) (Nat.le_of_ble_eq_true rfl) dX8_product_12 ?_
    refine mX8_herePQ (B := B) (n := n) hS hSA hB (show s.p ≤ n by omega) hsk ?_
    show qX G F Q kc ks 15 [(0, .ref m)] [qI (g_bt B n q)] sz T (q_ps I m (g_mk q s.fl s.fa s.cd s.op s.on s.hp)) (q_row L (m + 4) t) P
    refine q_bipush hF (n := 42) rfl dX8_product_15 ?_
    refine q_icmpeq hF (g_bt_32 hB _) (by decide) dX8_product_17 (fun c17 => ?_) (fun c17 => ?_)
    · have hqn := g_bt_in (B := B) (n := n) (k := q) (by omega)
      refine q_aload_n hF 0 rfl rfl dX8_product_29 ?_
      refine q_callV (kc := kc) (ks := ks) (mc' := 0) (ms' := 0) (h' := 1) (st := []) hF vl_RX8_78 rfl [] rfl rfl hS.t0 (by omega) (Nat.le_of_ble_eq_true rfl) dX8_product_30 ?_
      refine mX8_herePQ (B := B) (n := n) hS hSA hB (show q ≤ n by omega) hqq ?_
      show qX G F Q kc ks 33 [(0, .ref m)] [qI (g_bt B n q)] sz T (q_ps I m (g_mk q s.fl s.fa s.cd s.op s.on s.hp)) (q_row L (m + 4) t) P
      refine q_istore_n hF (ls' := [(1, qI (g_bt B n q)), (0, .ref m)]) rfl (by decide) rfl dX8_product_33 ?_
      refine q_aload_n hF 1 rfl rfl dX8_product_34 ?_
      refine q_dup hF rfl dX8_product_35 ?_
      refine q_getIv hF (z := (q : Int)) fl_RX8_65 hS.t0 q_ps_4 dX8_product_36 ?_
      refine q_iconst hF dX8_product_39 ?_
      refine q_iadd hF dX8_product_40 ?_
      refine q_putI hF fl_RX8_65 hS.t0 hSA dX8_product_41 ?_
      rw [q_ps_w4 (x := 1 + q) (by omega)]
      refine q_aload_n hF 1 rfl rfl dX8_product_44 ?_
      refine q_callV (kc := kc) (ks := ks) (mc' := 0) (ms' := 0) (h' := 9 + 3 * (3 - o)) (st := []) hF vl_RX8_210 rfl [] rfl rfl hS.t0 (by omega) (Nat.le_of_ble_eq_true rfl) dX8_product_45 ?_
      refine ih0 _ _ _ _ _ _ o (g_ex B n f 0 o (1 + q)) hB (show 1 + q ≤ n by omega) hfl (show s.op = ((o : Nat) : Int) by omega) (by omega) (show 2 * s.cd + 3 ≤ 3 * (1 + q) by omega) rfl (fun e => hne (by rw [← hx2, g_prL, if_pos (by omega)]; rw [e]; rfl)) (fun p4 z4 e4 => ?_) (fun w4 x4 s4 t4 e4 hw4 hfl4 hfa4 hpn4 hon4 hhp4 => ?_)
      · have far4 := g_far_of hB (by decide) (show 1 + q ≤ n by omega) e4
        have fan4 := far4.1
        have faj4 := far4.2
        rw [if_neg (by decide)] at faj4
        refine q_aload_n hF 1 rfl rfl dX8_product_48 ?_
        refine q_iload_n hF 0 rfl rfl dX8_product_49 ?_
        refine q_bipush hF (n := 42) rfl dX8_product_50 ?_
        refine q_icmpne hF (g_bt_32 hB _) (by decide) dX8_product_52 (fun c52 => ?_) (fun c52 => ?_)
        · first | omega | exact absurd c52 c17 | exact absurd c17 c52
        · refine q_bipush hF (n := 8) rfl dX8_product_55 ?_
          refine q_goto hF dX8_product_57 ?_
          refine q_callV (kc := kc) (ks := ks) (mc' := 0) (ms' := 0) (h' := 1) (st := []) hF vl_RX8_197 rfl [qI 8] rfl rfl hS.t0 (by omega) (Nat.le_of_ble_eq_true rfl) dX8_product_62 ?_
          refine mX8_tellsP hS hSA (by omega) (show (s.cd + g_el z4) < 900 by omega) hfl ?_
          show qX G F Q kc ks 65 [(1, qI (g_bt B n q)), (0, .ref m)] [] sz T (q_ps I m (g_mk p4 s.fl s.fa (1 + (s.cd + g_el z4)) s.op s.on s.hp)) (q_row L (m + 4) (g_up (g_app t (139 + s.cd) (g_encs z4)) (139 + (s.cd + g_el z4)) 8)) P
          refine q_goto hF dX8_product_65 ?_
          refine q_sub [1] rfl ?_
          refine ihL _ _ _ _ _ _ _ _ _ _ o (g_ex B n f 2 o p4) hF hh hB (show p4 ≤ n by omega) hfl hop ho (show 2 * (1 + (s.cd + g_el z4)) + 2 ≤ 3 * p4 by omega) rfl (fun e => hne (by rw [← hx2, g_prL, if_pos (by omega), e4, g_bd_k]; rw [e]; rfl)) (fun p6 z6 e6 => ?_) (fun w6 x6 s6 t6 e6 hw6 hfl6 hfa6 hpn6 hon6 hhp6 => ?_)
          · refine q_Qeq (k0 p6 (z4 ++ (-7) :: z6) (by rw [← hx2, g_prL, if_pos (by omega), e4, g_bd_k]; rw [e6, g_bd_k, if_pos c52])) ?_ ?_
            · show q_ps I m (g_mk p6 s.fl s.fa (s.cd + g_el (z4 ++ (-7) :: z6)) s.op s.on s.hp) = q_ps I m (g_mk p6 s.fl s.fa (1 + (s.cd + g_el z4) + g_el z6) s.op s.on s.hp)
              rw [show s.cd + g_el (z4 ++ (-7) :: z6) = 1 + (s.cd + g_el z4) + g_el z6 from by rw [g_el_app, g_el_neg (by decide)]; omega]
            · rw [g_app_encs, g_app_neg (by decide), show 139 + s.cd + g_el z4 + 1 = 139 + (1 + (s.cd + g_el z4)) from by omega, show 139 + s.cd + g_el z4 = 139 + (s.cd + g_el z4) from by omega]; rfl
          · exact k1 w6 x6 _ _ (by rw [← hx2, g_prL, if_pos (by omega), e4, g_bd_k]; rw [e6, g_bd_e]) hw6 hfl6 hfa6 hpn6 hon6 hhp6
      · have her4 : s4.fl ≠ 0 := by omega
        have hrf4 : -2147483648 ≤ s4.fl ∧ s4.fl < 2147483648 := by omega
        refine q_aload_n hF 1 rfl rfl dX8_product_48 ?_
        refine q_iload_n hF 0 rfl rfl dX8_product_49 ?_
        refine q_bipush hF (n := 42) rfl dX8_product_50 ?_
        refine q_icmpne hF (g_bt_32 hB _) (by decide) dX8_product_52 (fun c52 => ?_) (fun c52 => ?_)
        · first | omega | exact absurd c52 c17 | exact absurd c17 c52
        · refine q_bipush hF (n := 8) rfl dX8_product_55 ?_
          refine q_goto hF dX8_product_57 ?_
          refine q_callV (kc := kc) (ks := ks) (mc' := 0) (ms' := 0) (h' := 1) (st := []) hF vl_RX8_197 rfl [qI 8] rfl rfl hS.t0 (by omega) (Nat.le_of_ble_eq_true rfl) dX8_product_62 ?_
          refine mX8_tells0 hS hSA her4 (show -2147483648 ≤ s4.fl ∧ s4.fl < 2147483648 by first | decide | omega | assumption) ?_
          refine q_goto hF dX8_product_65 ?_
          refine q_aload_n hF 1 rfl rfl dX8_product_4 ?_
          refine q_callV (kc := kc) (ks := ks) (mc' := 0) (ms' := 0) (h' := 0) (st := []) hF vl_RX8_95 rfl [] rfl rfl hS.t0 (by omega) (Nat.le_of_ble_eq_true rfl) dX8_product_5 ?_
          refine mX8_fine0 hS her4 (show -2147483648 ≤ s4.fl ∧ s4.fl < 2147483648 by first | decide | omega | assumption) ?_
          refine q_ifeq hF (by decide) dX8_product_8 (fun c8 => ?_) (fun c8 => ?_)
          · refine q_return hF rfl dX8_product_68 ?_
            show Q (.inl none) sz T (q_ps I m s4) (q_row L (m + 4) t4) P
            exact k1 w4 x4 _ _ (by rw [← hx2, g_prL, if_pos (by omega), e4, g_bd_e]) hw4 hfl4 hfa4 hpn4 hon4 hhp4
          · exact absurd c8 (by decide)
    · refine q_aload_n hF 0 rfl rfl dX8_product_20 ?_
      refine q_callV (kc := kc) (ks := ks) (mc' := 0) (ms' := 0) (h' := 1) (st := []) hF vl_RX8_78 rfl [] rfl rfl hS.t0 (by omega) (Nat.le_of_ble_eq_true rfl) dX8_product_21 ?_
      refine mX8_herePQ (B := B) (n := n) hS hSA hB (show q ≤ n by omega) hqq ?_
      show qX G F Q kc ks 24 [(0, .ref m)] [qI (g_bt B n q)] sz T (q_ps I m (g_mk q s.fl s.fa s.cd s.op s.on s.hp)) (q_row L (m + 4) t) P
      refine q_bipush hF (n := 47) rfl dX8_product_24 ?_
      refine q_icmpne hF (g_bt_32 hB _) (by decide) dX8_product_26 (fun c26 => ?_) (fun c26 => ?_)
      · refine q_return hF rfl dX8_product_68 ?_
        show Q (.inl none) sz T (q_ps I m (g_mk q s.fl s.fa s.cd s.op s.on s.hp)) (q_row L (m + 4) t) P
        refine q_Qeq (k0 q ([]) (by rw [← hx2, g_prL, if_neg (by omega)])) ?_ ?_
        · rw [show s.cd + g_el ([]) = s.cd from by (try rw [g_el_app]); (try rw [g_el_app]); (try rw [g_el_app]); (try rw [g_el_app]); (try rw [g_el_neg (by decide)]); (try rw [g_el_pos (by omega)]); (try rw [g_el_nil]); omega]
        · rfl
      · have hqn := g_bt_in (B := B) (n := n) (k := q) (by omega)
        refine q_aload_n hF 0 rfl rfl dX8_product_29 ?_
        refine q_callV (kc := kc) (ks := ks) (mc' := 0) (ms' := 0) (h' := 1) (st := []) hF vl_RX8_78 rfl [] rfl rfl hS.t0 (by omega) (Nat.le_of_ble_eq_true rfl) dX8_product_30 ?_
        refine mX8_herePQ (B := B) (n := n) hS hSA hB (show q ≤ n by omega) hqq ?_
        show qX G F Q kc ks 33 [(0, .ref m)] [qI (g_bt B n q)] sz T (q_ps I m (g_mk q s.fl s.fa s.cd s.op s.on s.hp)) (q_row L (m + 4) t) P
        refine q_istore_n hF (ls' := [(1, qI (g_bt B n q)), (0, .ref m)]) rfl (by decide) rfl dX8_product_33 ?_
        refine q_aload_n hF 1 rfl rfl dX8_product_34 ?_
        refine q_dup hF rfl dX8_product_35 ?_
        refine q_getIv hF (z := (q : Int)) fl_RX8_65 hS.t0 q_ps_4 dX8_product_36 ?_
        refine q_iconst hF dX8_product_39 ?_
        refine q_iadd hF dX8_product_40 ?_
        refine q_putI hF fl_RX8_65 hS.t0 hSA dX8_product_41 ?_
        rw [q_ps_w4 (x := 1 + q) (by omega)]
        refine q_aload_n hF 1 rfl rfl dX8_product_44 ?_
        refine q_callV (kc := kc) (ks := ks) (mc' := 0) (ms' := 0) (h' := 9 + 3 * (3 - o)) (st := []) hF vl_RX8_210 rfl [] rfl rfl hS.t0 (by omega) (Nat.le_of_ble_eq_true rfl) dX8_product_45 ?_
        refine ih0 _ _ _ _ _ _ o (g_ex B n f 0 o (1 + q)) hB (show 1 + q ≤ n by omega) hfl (show s.op = ((o : Nat) : Int) by omega) (by omega) (show 2 * s.cd + 3 ≤ 3 * (1 + q) by omega) rfl (fun e => hne (by rw [← hx2, g_prL, if_pos (by omega)]; rw [e]; rfl)) (fun p11 z11 e11 => ?_) (fun w11 x11 s11 t11 e11 hw11 hfl11 hfa11 hpn11 hon11 hhp11 => ?_)
        · have far11 := g_far_of hB (by decide) (show 1 + q ≤ n by omega) e11
          have fan11 := far11.1
          have faj11 := far11.2
          rw [if_neg (by decide)] at faj11
          refine q_aload_n hF 1 rfl rfl dX8_product_48 ?_
          refine q_iload_n hF 0 rfl rfl dX8_product_49 ?_
          refine q_bipush hF (n := 42) rfl dX8_product_50 ?_
          refine q_icmpne hF (g_bt_32 hB _) (by decide) dX8_product_52 (fun c52 => ?_) (fun c52 => ?_)
          · refine q_bipush hF (n := 9) rfl dX8_product_60 ?_
            refine q_callV (kc := kc) (ks := ks) (mc' := 0) (ms' := 0) (h' := 1) (st := []) hF vl_RX8_197 rfl [qI 9] rfl rfl hS.t0 (by omega) (Nat.le_of_ble_eq_true rfl) dX8_product_62 ?_
            refine mX8_tellsP hS hSA (by omega) (show (s.cd + g_el z11) < 900 by omega) hfl ?_
            show qX G F Q kc ks 65 [(1, qI (g_bt B n q)), (0, .ref m)] [] sz T (q_ps I m (g_mk p11 s.fl s.fa (1 + (s.cd + g_el z11)) s.op s.on s.hp)) (q_row L (m + 4) (g_up (g_app t (139 + s.cd) (g_encs z11)) (139 + (s.cd + g_el z11)) 9)) P
            refine q_goto hF dX8_product_65 ?_
            refine q_sub [1] rfl ?_
            refine ihL _ _ _ _ _ _ _ _ _ _ o (g_ex B n f 2 o p11) hF hh hB (show p11 ≤ n by omega) hfl hop ho (show 2 * (1 + (s.cd + g_el z11)) + 2 ≤ 3 * p11 by omega) rfl (fun e => hne (by rw [← hx2, g_prL, if_pos (by omega), e11, g_bd_k]; rw [e]; rfl)) (fun p13 z13 e13 => ?_) (fun w13 x13 s13 t13 e13 hw13 hfl13 hfa13 hpn13 hon13 hhp13 => ?_)
            · refine q_Qeq (k0 p13 (z11 ++ (-8) :: z13) (by rw [← hx2, g_prL, if_pos (by omega), e11, g_bd_k]; rw [e13, g_bd_k, if_neg c52])) ?_ ?_
              · show q_ps I m (g_mk p13 s.fl s.fa (s.cd + g_el (z11 ++ (-8) :: z13)) s.op s.on s.hp) = q_ps I m (g_mk p13 s.fl s.fa (1 + (s.cd + g_el z11) + g_el z13) s.op s.on s.hp)
                rw [show s.cd + g_el (z11 ++ (-8) :: z13) = 1 + (s.cd + g_el z11) + g_el z13 from by rw [g_el_app, g_el_neg (by decide)]; omega]
              · rw [g_app_encs, g_app_neg (by decide), show 139 + s.cd + g_el z11 + 1 = 139 + (1 + (s.cd + g_el z11)) from by omega, show 139 + s.cd + g_el z11 = 139 + (s.cd + g_el z11) from by omega]; rfl
            · exact k1 w13 x13 _ _ (by rw [← hx2, g_prL, if_pos (by omega), e11, g_bd_k]; rw [e13, g_bd_e]) hw13 hfl13 hfa13 hpn13 hon13 hhp13
          · first | omega | exact absurd c52 c17 | exact absurd c17 c52
        · have her11 : s11.fl ≠ 0 := by omega
          have hrf11 : -2147483648 ≤ s11.fl ∧ s11.fl < 2147483648 := by omega
          refine q_aload_n hF 1 rfl rfl dX8_product_48 ?_
          refine q_iload_n hF 0 rfl rfl dX8_product_49 ?_
          refine q_bipush hF (n := 42) rfl dX8_product_50 ?_
          refine q_icmpne hF (g_bt_32 hB _) (by decide) dX8_product_52 (fun c52 => ?_) (fun c52 => ?_)
          · refine q_bipush hF (n := 9) rfl dX8_product_60 ?_
            refine q_callV (kc := kc) (ks := ks) (mc' := 0) (ms' := 0) (h' := 1) (st := []) hF vl_RX8_197 rfl [qI 9] rfl rfl hS.t0 (by omega) (Nat.le_of_ble_eq_true rfl) dX8_product_62 ?_
            refine mX8_tells0 hS hSA her11 (show -2147483648 ≤ s11.fl ∧ s11.fl < 2147483648 by first | decide | omega | assumption) ?_
            refine q_goto hF dX8_product_65 ?_
            refine q_aload_n hF 1 rfl rfl dX8_product_4 ?_
            refine q_callV (kc := kc) (ks := ks) (mc' := 0) (ms' := 0) (h' := 0) (st := []) hF vl_RX8_95 rfl [] rfl rfl hS.t0 (by omega) (Nat.le_of_ble_eq_true rfl) dX8_product_5 ?_
            refine mX8_fine0 hS her11 (show -2147483648 ≤ s11.fl ∧ s11.fl < 2147483648 by first | decide | omega | assumption) ?_
            refine q_ifeq hF (by decide) dX8_product_8 (fun c8 => ?_) (fun c8 => ?_)
            · refine q_return hF rfl dX8_product_68 ?_
              show Q (.inl none) sz T (q_ps I m s11) (q_row L (m + 4) t11) P
              exact k1 w11 x11 _ _ (by rw [← hx2, g_prL, if_pos (by omega), e11, g_bd_e]) hw11 hfl11 hfa11 hpn11 hon11 hhp11
            · exact absurd c8 (by decide)
          · first | omega | exact absurd c52 c17 | exact absurd c17 c52
set_option maxRecDepth 100000 in
theorem sX8_product {G : q_G} {T : q_T} {P : q_P} {m n : Nat} {B : Nat → Int} {f : Nat} (hS : q_SM T P m) (hSA : q_A G m) (ih0 : q_CE G T P m n B f 0 YX8_factor (fun o => 9 + 3 * (3 - o))) (ihL : q_LE G T P m n B f 2 YX8_product 4 (fun o => 9 + 3 * (3 - o) + 1)) : q_CE G T P m n B (f + 1) 1 YX8_product (fun o => 9 + 3 * (3 - o) + 1) := by
  intro sz I L Q s t o r hB hp hfl hop ho hcd hx hne k0 k1
  show qC G (9 + 3 * (3 - o) + 1) _ _ _ _ _ _ _ _ _ _
  refine qC_of (by decide +kernel) rfl rfl (Nat.le_of_ble_eq_true rfl) (fun F hF _ _ => ?_)
  have hn6 := hB.2.1
  have hx2 := hx
  rw [g_ex_1] at hx2
  refine q_aload_n hF 0 rfl rfl dX8_product_0 ?_
  refine q_callV (kc := 0) (ks := 0) (mc' := 0) (ms' := 0) (h' := 9 + 3 * (3 - o)) (st := []) hF vl_RX8_210 rfl [] rfl rfl hS.t0 (by omega) (Nat.le_of_ble_eq_true rfl) dX8_product_1 ?_
  refine ih0 _ _ _ _ _ _ o (g_ex B n f 0 o s.p) hB (show s.p ≤ n by omega) hfl (show s.op = ((o : Nat) : Int) by omega) (by omega) (show 2 * s.cd + 3 ≤ 3 * s.p by omega) rfl (fun e => hne (by rw [← hx2]; rw [e]; rfl)) (fun p1 z1 e1 => ?_) (fun w1 x1 s1 t1 e1 hw1 hfl1 hfa1 hpn1 hon1 hhp1 => ?_)
  · have far1 := g_far_of hB (by decide) (show s.p ≤ n by omega) e1
    have fan1 := far1.1
    have faj1 := far1.2
    rw [if_neg (by decide)] at faj1
    refine ihL _ _ _ _ _ _ _ _ _ _ o (g_ex B n f 2 o p1) hF (Nat.le_refl _) hB (show p1 ≤ n by omega) hfl hop ho (show 2 * (s.cd + g_el z1) + 2 ≤ 3 * p1 by omega) rfl (fun e => hne (by rw [← hx2, e1, g_bd_k]; rw [e]; rfl)) (fun p2 z2 e2 => ?_) (fun w2 x2 s2 t2 e2 hw2 hfl2 hfa2 hpn2 hon2 hhp2 => ?_)
    · refine q_Qeq (k0 p2 (z1 ++ z2) (by rw [← hx2, e1, g_bd_k]; rw [e2, g_bd_k])) ?_ ?_
      · show q_ps I m (g_mk p2 s.fl s.fa (s.cd + g_el (z1 ++ z2)) s.op s.on s.hp) = q_ps I m (g_mk p2 s.fl s.fa (s.cd + g_el z1 + g_el z2) s.op s.on s.hp)
        rw [show s.cd + g_el (z1 ++ z2) = s.cd + g_el z1 + g_el z2 from by rw [g_el_app]; omega]
      · rw [g_app_encs, show 139 + s.cd + g_el z1 = 139 + (s.cd + g_el z1) from by omega]
    · exact k1 w2 x2 _ _ (by rw [← hx2, e1, g_bd_k]; rw [e2, g_bd_e]) hw2 hfl2 hfa2 hpn2 hon2 hhp2
  · have her1 : s1.fl ≠ 0 := by omega
    have hrf1 : -2147483648 ≤ s1.fl ∧ s1.fl < 2147483648 := by omega
    refine q_aload_n hF 0 rfl rfl dX8_product_4 ?_
    refine q_callV (kc := 0) (ks := 0) (mc' := 0) (ms' := 0) (h' := 0) (st := []) hF vl_RX8_95 rfl [] rfl rfl hS.t0 (by omega) (Nat.le_of_ble_eq_true rfl) dX8_product_5 ?_
    refine mX8_fine0 hS her1 (show -2147483648 ≤ s1.fl ∧ s1.fl < 2147483648 by first | decide | omega | assumption) ?_
    refine q_ifeq hF (by decide) dX8_product_8 (fun c8 => ?_) (fun c8 => ?_)
    · refine q_return hF rfl dX8_product_68 ?_
      show Q (.inl none) sz T (q_ps I m s1) (q_row L (m + 4) t1) P
      exact k1 w1 x1 _ _ (by rw [← hx2, e1, g_bd_e]) hw1 hfl1 hfa1 hpn1 hon1 hhp1
    · exact absurd c8 (by decide)
set_option maxRecDepth 100000 in
theorem sX8_sumL {G : q_G} {T : q_T} {P : q_P} {m n : Nat} {B : Nat → Int} {f : Nat} (hS : q_SM T P m) (hSA : q_A G m) (ih1 : q_CE G T P m n B f 1 YX8_product (fun o => 9 + 3 * (3 - o) + 1)) (ihL : q_LE G T P m n B f 4 YX8_sum 4 (fun o => 9 + 3 * (3 - o) + 2)) : q_LE G T P m n B (f + 1) 4 YX8_sum 4 (fun o => 9 + 3 * (3 - o) + 2) := by
  intro F h kc ks sz I L Q s t o r hF hh hB hp hfl hop ho hcd hx hne k0 k1
  have hn6 := hB.2.1
  have hh9 : 9 + 3 * (3 - o) + 2 ≤ h := hh
  refine q_aload_n hF 0 rfl rfl dX8_sum_4 ?_
  refine q_callV (kc := kc) (ks := ks) (mc' := 0) (ms' := 0) (h' := 0) (st := []) hF vl_RX8_95 rfl [] rfl rfl hS.t0 (by omega) (Nat.le_of_ble_eq_true rfl) dX8_sum_5 ?_
  refine mX8_fineA hS hfl ?_
  refine q_ifeq hF (by decide) dX8_sum_8 (fun c8 => ?_) (fun c8 => ?_)
  · exact absurd c8 (by decide)
  · obtain ⟨q, hsk⟩ : ∃ q, g_sk B n s.p = q := ⟨_, rfl⟩
    have hq := g_sk_r (B := B) hp
    rw [hsk] at hq
    have hqq : g_sk B n q = q := by rw [← hsk]; exact g_sk_sk hp
    have hx2 : g_smL B n (g_ex B n f) o q = r := by rw [← hx, g_ex_4, hsk]
    refine q_aload_n hF 0 rfl rfl dX8_sum_11 ?_
    refine q_callV (kc := kc) (ks := ks) (mc' := 0) (ms' := 0) (h' := 1) (st := []) hF vl_RX8_78 rfl [] rfl rfl hS.t0 (by omega) (Nat.le_of_ble_eq_true rfl) dX8_sum_12 ?_
    refine mX8_herePQ (B := B) (n := n) hS hSA hB (show s.p ≤ n by omega) hsk ?_
    show qX G F Q kc ks 15 [(0, .ref m)] [qI (g_bt B n q)] sz T (q_ps I m (g_mk q s.fl s.fa s.cd s.op s.on s.hp)) (q_row L (m + 4) t) P
    refine q_bipush hF (n := 43) rfl dX8_sum_15 ?_
    refine q_icmpeq hF (g_bt_32 hB _) (by decide) dX8_sum_17 (fun c17 => ?_) (fun c17 => ?_)
    · have hqn := g_bt_in (B := B) (n := n) (k := q) (by omega)
      refine q_aload_n hF 0 rfl rfl dX8_sum_29 ?_
      refine q_callV (kc := kc) (ks := ks) (mc' := 0) (ms' := 0) (h' := 1) (st := []) hF vl_RX8_78 rfl [] rfl rfl hS.t0 (by omega) (Nat.le_of_ble_eq_true rfl) dX8_sum_30 ?_
      refine mX8_herePQ (B := B) (n := n) hS hSA hB (show q ≤ n by omega) hqq ?_
      show qX G F Q kc ks 33 [(0, .ref m)] [qI (g_bt B n q)] sz T (q_ps I m (g_mk q s.fl s.fa s.cd s.op s.on s.hp)) (q_row L (m + 4) t) P
      refine q_istore_n hF (ls' := [(1, qI (g_bt B n q)), (0, .ref m)]) rfl (by decide) rfl dX8_sum_33 ?_
      refine q_aload_n hF 1 rfl rfl dX8_sum_34 ?_
      refine q_dup hF rfl dX8_sum_35 ?_
      refine q_getIv hF (z := (q : Int)) fl_RX8_65 hS.t0 q_ps_4 dX8_sum_36 ?_
      refine q_iconst hF dX8_sum_39 ?_
      refine q_iadd hF dX8_sum_40 ?_
      refine q_putI hF fl_RX8_65 hS.t0 hSA dX8_sum_41 ?_
      rw [q_ps_w4 (x := 1 + q) (by omega)]
      refine q_aload_n hF 1 rfl rfl dX8_sum_44 ?_
      refine q_callV (kc := kc) (ks := ks) (mc' := 0) (ms' := 0) (h' := 9 + 3 * (3 - o) + 1) (st := []) hF vl_RX8_217 rfl [] rfl rfl hS.t0 (by omega) (Nat.le_of_ble_eq_true rfl) dX8_sum_45 ?_
      refine ih1 _ _ _ _ _ _ o (g_ex B n f 1 o (1 + q)) hB (show 1 + q ≤ n by omega) hfl (show s.op = ((o : Nat) : Int) by omega) (by omega) (show 2 * s.cd + 3 ≤ 3 * (1 + q) by omega) rfl (fun e => hne (by rw [← hx2, g_smL, if_pos (by omega)]; rw [e]; rfl)) (fun p4 z4 e4 => ?_) (fun w4 x4 s4 t4 e4 hw4 hfl4 hfa4 hpn4 hon4 hhp4 => ?_)
      · have far4 := g_far_of hB (by decide) (show 1 + q ≤ n by omega) e4
        have fan4 := far4.1
        have faj4 := far4.2
        rw [if_neg (by decide)] at faj4
        refine q_aload_n hF 1 rfl rfl dX8_sum_48 ?_
        refine q_iload_n hF 0 rfl rfl dX8_sum_49 ?_
        refine q_bipush hF (n := 43) rfl dX8_sum_50 ?_
        refine q_icmpne hF (g_bt_32 hB _) (by decide) dX8_sum_52 (fun c52 => ?_) (fun c52 => ?_)
        · first | omega | exact absurd c52 c17 | exact absurd c17 c52
        · refine q_bipush hF (n := 6) rfl dX8_sum_55 ?_
          refine q_goto hF dX8_sum_57 ?_
          refine q_callV (kc := kc) (ks := ks) (mc' := 0) (ms' := 0) (h' := 1) (st := []) hF vl_RX8_197 rfl [qI 6] rfl rfl hS.t0 (by omega) (Nat.le_of_ble_eq_true rfl) dX8_sum_62 ?_
          refine mX8_tellsP hS hSA (by omega) (show (s.cd + g_el z4) < 900 by omega) hfl ?_
          show qX G F Q kc ks 65 [(1, qI (g_bt B n q)), (0, .ref m)] [] sz T (q_ps I m (g_mk p4 s.fl s.fa (1 + (s.cd + g_el z4)) s.op s.on s.hp)) (q_row L (m + 4) (g_up (g_app t (139 + s.cd) (g_encs z4)) (139 + (s.cd + g_el z4)) 6)) P
          refine q_goto hF dX8_sum_65 ?_
          refine q_sub [1] rfl ?_
          refine ihL _ _ _ _ _ _ _ _ _ _ o (g_ex B n f 4 o p4) hF hh hB (show p4 ≤ n by omega) hfl hop ho (show 2 * (1 + (s.cd + g_el z4)) + 2 ≤ 3 * p4 by omega) rfl (fun e => hne (by rw [← hx2, g_smL, if_pos (by omega), e4, g_bd_k]; rw [e]; rfl)) (fun p6 z6 e6 => ?_) (fun w6 x6 s6 t6 e6 hw6 hfl6 hfa6 hpn6 hon6 hhp6 => ?_)
          · refine q_Qeq (k0 p6 (z4 ++ (-5) :: z6) (by rw [← hx2, g_smL, if_pos (by omega), e4, g_bd_k]; rw [e6, g_bd_k, if_pos c52])) ?_ ?_
            · show q_ps I m (g_mk p6 s.fl s.fa (s.cd + g_el (z4 ++ (-5) :: z6)) s.op s.on s.hp) = q_ps I m (g_mk p6 s.fl s.fa (1 + (s.cd + g_el z4) + g_el z6) s.op s.on s.hp)
              rw [show s.cd + g_el (z4 ++ (-5) :: z6) = 1 + (s.cd + g_el z4) + g_el z6 from by rw [g_el_app, g_el_neg (by decide)]; omega]
            · rw [g_app_encs, g_app_neg (by decide), show 139 + s.cd + g_el z4 + 1 = 139 + (1 + (s.cd + g_el z4)) from by omega, show 139 + s.cd + g_el z4 = 139 + (s.cd + g_el z4) from by omega]; rfl
          · exact k1 w6 x6 _ _ (by rw [← hx2, g_smL, if_pos (by omega), e4, g_bd_k]; rw [e6, g_bd_e]) hw6 hfl6 hfa6 hpn6 hon6 hhp6
      · have her4 : s4.fl ≠ 0 := by omega
        have hrf4 : -2147483648 ≤ s4.fl ∧ s4.fl < 2147483648 := by omega
        refine q_aload_n hF 1 rfl rfl dX8_sum_48 ?_
        refine q_iload_n hF 0 rfl rfl dX8_sum_49 ?_
        refine q_bipush hF (n := 43) rfl dX8_sum_50 ?_
        refine q_icmpne hF (g_bt_32 hB _) (by decide) dX8_sum_52 (fun c52 => ?_) (fun c52 => ?_)
        · first | omega | exact absurd c52 c17 | exact absurd c17 c52
        · refine q_bipush hF (n := 6) rfl dX8_sum_55 ?_
          refine q_goto hF dX8_sum_57 ?_
          refine q_callV (kc := kc) (ks := ks) (mc' := 0) (ms' := 0) (h' := 1) (st := []) hF vl_RX8_197 rfl [qI 6] rfl rfl hS.t0 (by omega) (Nat.le_of_ble_eq_true rfl) dX8_sum_62 ?_
          refine mX8_tells0 hS hSA her4 (show -2147483648 ≤ s4.fl ∧ s4.fl < 2147483648 by first | decide | omega | assumption) ?_
          refine q_goto hF dX8_sum_65 ?_
          refine q_aload_n hF 1 rfl rfl dX8_sum_4 ?_
          refine q_callV (kc := kc) (ks := ks) (mc' := 0) (ms' := 0) (h' := 0) (st := []) hF vl_RX8_95 rfl [] rfl rfl hS.t0 (by omega) (Nat.le_of_ble_eq_true rfl) dX8_sum_5 ?_
          refine mX8_fine0 hS her4 (show -2147483648 ≤ s4.fl ∧ s4.fl < 2147483648 by first | decide | omega | assumption) ?_
          refine q_ifeq hF (by decide) dX8_sum_8 (fun c8 => ?_) (fun c8 => ?_)
          · refine q_return hF rfl dX8_sum_68 ?_
            show Q (.inl none) sz T (q_ps I m s4) (q_row L (m + 4) t4) P
            exact k1 w4 x4 _ _ (by rw [← hx2, g_smL, if_pos (by omega), e4, g_bd_e]) hw4 hfl4 hfa4 hpn4 hon4 hhp4
          · exact absurd c8 (by decide)
    · refine q_aload_n hF 0 rfl rfl dX8_sum_20 ?_
      refine q_callV (kc := kc) (ks := ks) (mc' := 0) (ms' := 0) (h' := 1) (st := []) hF vl_RX8_78 rfl [] rfl rfl hS.t0 (by omega) (Nat.le_of_ble_eq_true rfl) dX8_sum_21 ?_
      refine mX8_herePQ (B := B) (n := n) hS hSA hB (show q ≤ n by omega) hqq ?_
      show qX G F Q kc ks 24 [(0, .ref m)] [qI (g_bt B n q)] sz T (q_ps I m (g_mk q s.fl s.fa s.cd s.op s.on s.hp)) (q_row L (m + 4) t) P
      refine q_bipush hF (n := 45) rfl dX8_sum_24 ?_
      refine q_icmpne hF (g_bt_32 hB _) (by decide) dX8_sum_26 (fun c26 => ?_) (fun c26 => ?_)
      · refine q_return hF rfl dX8_sum_68 ?_
        show Q (.inl none) sz T (q_ps I m (g_mk q s.fl s.fa s.cd s.op s.on s.hp)) (q_row L (m + 4) t) P
        refine q_Qeq (k0 q ([]) (by rw [← hx2, g_smL, if_neg (by omega)])) ?_ ?_
        · rw [show s.cd + g_el ([]) = s.cd from by (try rw [g_el_app]); (try rw [g_el_app]); (try rw [g_el_app]); (try rw [g_el_app]); (try rw [g_el_neg (by decide)]); (try rw [g_el_pos (by omega)]); (try rw [g_el_nil]); omega]
        · rfl
      · have hqn := g_bt_in (B := B) (n := n) (k := q) (by omega)
        refine q_aload_n hF 0 rfl rfl dX8_sum_29 ?_
        refine q_callV (kc := kc) (ks := ks) (mc' := 0) (ms' := 0) (h' := 1) (st := []) hF vl_RX8_78 rfl [] rfl rfl hS.t0 (by omega) (Nat.le_of_ble_eq_true rfl) dX8_sum_30 ?_
        refine mX8_herePQ (B := B) (n := n) hS hSA hB (show q ≤ n by omega) hqq ?_
        show qX G F Q kc ks 33 [(0, .ref m)] [qI (g_bt B n q)] sz T (q_ps I m (g_mk q s.fl s.fa s.cd s.op s.on s.hp)) (q_row L (m + 4) t) P
        refine q_istore_n hF (ls' := [(1, qI (g_bt B n q)), (0, .ref m)]) rfl (by decide) rfl dX8_sum_33 ?_
        refine q_aload_n hF 1 rfl rfl dX8_sum_34 ?_
        refine q_dup hF rfl dX8_sum_35 ?_
        refine q_getIv hF (z := (q : Int)) fl_RX8_65 hS.t0 q_ps_4 dX8_sum_36 ?_
        refine q_iconst hF dX8_sum_39 ?_
        refine q_iadd hF dX8_sum_40 ?_
        refine q_putI hF fl_RX8_65 hS.t0 hSA dX8_sum_41 ?_
        rw [q_ps_w4 (x := 1 + q) (by omega)]
        refine q_aload_n hF 1 rfl rfl dX8_sum_44 ?_
        refine q_callV (kc := kc) (ks := ks) (mc' := 0) (ms' := 0) (h' := 9 + 3 * (3 - o) + 1) (st := []) hF vl_RX8_217 rfl [] rfl rfl hS.t0 (by omega) (Nat.le_of_ble_eq_true rfl) dX8_sum_45 ?_
        refine ih1 _ _ _ _ _ _ o (g_ex B n f 1 o (1 + q)) hB (show 1 + q ≤ n by omega) hfl (show s.op = ((o : Nat) : Int) by omega) (by omega) (show 2 * s.cd + 3 ≤ 3 * (1 + q) by omega) rfl (fun e => hne (by rw [← hx2, g_smL, if_pos (by omega)]; rw [e]; rfl)) (fun p11 z11 e11 => ?_) (fun w11 x11 s11 t11 e11 hw11 hfl11 hfa11 hpn11 hon11 hhp11 => ?_)
        · have far11 := g_far_of hB (by decide) (show 1 + q ≤ n by omega) e11
          have fan11 := far11.1
          have faj11 := far11.2
          rw [if_neg (by decide)] at faj11
          refine q_aload_n hF 1 rfl rfl dX8_sum_48 ?_
          refine q_iload_n hF 0 rfl rfl dX8_sum_49 ?_
          refine q_bipush hF (n := 43) rfl dX8_sum_50 ?_
          refine q_icmpne hF (g_bt_32 hB _) (by decide) dX8_sum_52 (fun c52 => ?_) (fun c52 => ?_)
          · refine q_bipush hF (n := 7) rfl dX8_sum_60 ?_
            refine q_callV (kc := kc) (ks := ks) (mc' := 0) (ms' := 0) (h' := 1) (st := []) hF vl_RX8_197 rfl [qI 7] rfl rfl hS.t0 (by omega) (Nat.le_of_ble_eq_true rfl) dX8_sum_62 ?_
            refine mX8_tellsP hS hSA (by omega) (show (s.cd + g_el z11) < 900 by omega) hfl ?_
            show qX G F Q kc ks 65 [(1, qI (g_bt B n q)), (0, .ref m)] [] sz T (q_ps I m (g_mk p11 s.fl s.fa (1 + (s.cd + g_el z11)) s.op s.on s.hp)) (q_row L (m + 4) (g_up (g_app t (139 + s.cd) (g_encs z11)) (139 + (s.cd + g_el z11)) 7)) P
            refine q_goto hF dX8_sum_65 ?_
            refine q_sub [1] rfl ?_
            refine ihL _ _ _ _ _ _ _ _ _ _ o (g_ex B n f 4 o p11) hF hh hB (show p11 ≤ n by omega) hfl hop ho (show 2 * (1 + (s.cd + g_el z11)) + 2 ≤ 3 * p11 by omega) rfl (fun e => hne (by rw [← hx2, g_smL, if_pos (by omega), e11, g_bd_k]; rw [e]; rfl)) (fun p13 z13 e13 => ?_) (fun w13 x13 s13 t13 e13 hw13 hfl13 hfa13 hpn13 hon13 hhp13 => ?_)
            · refine q_Qeq (k0 p13 (z11 ++ (-6) :: z13) (by rw [← hx2, g_smL, if_pos (by omega), e11, g_bd_k]; rw [e13, g_bd_k, if_neg c52])) ?_ ?_
              · show q_ps I m (g_mk p13 s.fl s.fa (s.cd + g_el (z11 ++ (-6) :: z13)) s.op s.on s.hp) = q_ps I m (g_mk p13 s.fl s.fa (1 + (s.cd + g_el z11) + g_el z13) s.op s.on s.hp)
                rw [show s.cd + g_el (z11 ++ (-6) :: z13) = 1 + (s.cd + g_el z11) + g_el z13 from by rw [g_el_app, g_el_neg (by decide)]; omega]
              · rw [g_app_encs, g_app_neg (by decide), show 139 + s.cd + g_el z11 + 1 = 139 + (1 + (s.cd + g_el z11)) from by omega, show 139 + s.cd + g_el z11 = 139 + (s.cd + g_el z11) from by omega]; rfl
            · exact k1 w13 x13 _ _ (by rw [← hx2, g_smL, if_pos (by omega), e11, g_bd_k]; rw [e13, g_bd_e]) hw13 hfl13 hfa13 hpn13 hon13 hhp13
          · first | omega | exact absurd c52 c17 | exact absurd c17 c52
        · have her11 : s11.fl ≠ 0 := by omega
          have hrf11 : -2147483648 ≤ s11.fl ∧ s11.fl < 2147483648 := by omega
          refine q_aload_n hF 1 rfl rfl dX8_sum_48 ?_
          refine q_iload_n hF 0 rfl rfl dX8_sum_49 ?_
          refine q_bipush hF (n := 43) rfl dX8_sum_50 ?_
          refine q_icmpne hF (g_bt_32 hB _) (by decide) dX8_sum_52 (fun c52 => ?_) (fun c52 => ?_)
          · refine q_bipush hF (n := 7) rfl dX8_sum_60 ?_
            refine q_callV (kc := kc) (ks := ks) (mc' := 0) (ms' := 0) (h' := 1) (st := []) hF vl_RX8_197 rfl [qI 7] rfl rfl hS.t0 (by omega) (Nat.le_of_ble_eq_true rfl) dX8_sum_62 ?_
            refine mX8_tells0 hS hSA her11 (show -2147483648 ≤ s11.fl ∧ s11.fl < 2147483648 by first | decide | omega | assumption) ?_
            refine q_goto hF dX8_sum_65 ?_
            refine q_aload_n hF 1 rfl rfl dX8_sum_4 ?_
            refine q_callV (kc := kc) (ks := ks) (mc' := 0) (ms' := 0) (h' := 0) (st := []) hF vl_RX8_95 rfl [] rfl rfl hS.t0 (by omega) (Nat.le_of_ble_eq_true rfl) dX8_sum_5 ?_
            refine mX8_fine0 hS her11 (show -2147483648 ≤ s11.fl ∧ s11.fl < 2147483648 by first | decide | omega | assumption) ?_
            refine q_ifeq hF (by decide) dX8_sum_8 (fun c8 => ?_) (fun c8 => ?_)
            · refine q_return hF rfl dX8_sum_68 ?_
              show Q (.inl none) sz T (q_ps I m s11) (q_row L (m + 4) t11) P
              exact k1 w11 x11 _ _ (by rw [← hx2, g_smL, if_pos (by omega), e11, g_bd_e]) hw11 hfl11 hfa11 hpn11 hon11 hhp11
            · exact absurd c8 (by decide)
          · first | omega | exact absurd c52 c17 | exact absurd c17 c52
set_option maxRecDepth 100000 in
theorem sX8_sum {G : q_G} {T : q_T} {P : q_P} {m n : Nat} {B : Nat → Int} {f : Nat} (hS : q_SM T P m) (hSA : q_A G m) (ih1 : q_CE G T P m n B f 1 YX8_product (fun o => 9 + 3 * (3 - o) + 1)) (ihL : q_LE G T P m n B f 4 YX8_sum 4 (fun o => 9 + 3 * (3 - o) + 2)) : q_CE G T P m n B (f + 1) 3 YX8_sum (fun o => 9 + 3 * (3 - o) + 2) := by
  intro sz I L Q s t o r hB hp hfl hop ho hcd hx hne k0 k1
  show qC G (9 + 3 * (3 - o) + 2) _ _ _ _ _ _ _ _ _ _
  refine qC_of (by decide +kernel) rfl rfl (Nat.le_of_ble_eq_true rfl) (fun F hF _ _ => ?_)
  have hn6 := hB.2.1
  have hx2 := hx
  rw [g_ex_3] at hx2
  refine q_aload_n hF 0 rfl rfl dX8_sum_0 ?_
  refine q_callV (kc := 0) (ks := 0) (mc' := 0) (ms' := 0) (h' := 9 + 3 * (3 - o) + 1) (st := []) hF vl_RX8_217 rfl [] rfl rfl hS.t0 (by omega) (Nat.le_of_ble_eq_true rfl) dX8_sum_1 ?_
  refine ih1 _ _ _ _ _ _ o (g_ex B n f 1 o s.p) hB (show s.p ≤ n by omega) hfl (show s.op = ((o : Nat) : Int) by omega) (by omega) (show 2 * s.cd + 3 ≤ 3 * s.p by omega) rfl (fun e => hne (by rw [← hx2]; rw [e]; rfl)) (fun p1 z1 e1 => ?_) (fun w1 x1 s1 t1 e1 hw1 hfl1 hfa1 hpn1 hon1 hhp1 => ?_)
  · have far1 := g_far_of hB (by decide) (show s.p ≤ n by omega) e1
    have fan1 := far1.1
    have faj1 := far1.2
    rw [if_neg (by decide)] at faj1
    refine ihL _ _ _ _ _ _ _ _ _ _ o (g_ex B n f 4 o p1) hF (Nat.le_refl _) hB (show p1 ≤ n by omega) hfl hop ho (show 2 * (s.cd + g_el z1) + 2 ≤ 3 * p1 by omega) rfl (fun e => hne (by rw [← hx2, e1, g_bd_k]; rw [e]; rfl)) (fun p2 z2 e2 => ?_) (fun w2 x2 s2 t2 e2 hw2 hfl2 hfa2 hpn2 hon2 hhp2 => ?_)
    · refine q_Qeq (k0 p2 (z1 ++ z2) (by rw [← hx2, e1, g_bd_k]; rw [e2, g_bd_k])) ?_ ?_
      · show q_ps I m (g_mk p2 s.fl s.fa (s.cd + g_el (z1 ++ z2)) s.op s.on s.hp) = q_ps I m (g_mk p2 s.fl s.fa (s.cd + g_el z1 + g_el z2) s.op s.on s.hp)
        rw [show s.cd + g_el (z1 ++ z2) = s.cd + g_el z1 + g_el z2 from by rw [g_el_app]; omega]
      · rw [g_app_encs, show 139 + s.cd + g_el z1 = 139 + (s.cd + g_el z1) from by omega]
    · exact k1 w2 x2 _ _ (by rw [← hx2, e1, g_bd_k]; rw [e2, g_bd_e]) hw2 hfl2 hfa2 hpn2 hon2 hhp2
  · have her1 : s1.fl ≠ 0 := by omega
    have hrf1 : -2147483648 ≤ s1.fl ∧ s1.fl < 2147483648 := by omega
    refine q_aload_n hF 0 rfl rfl dX8_sum_4 ?_
    refine q_callV (kc := 0) (ks := 0) (mc' := 0) (ms' := 0) (h' := 0) (st := []) hF vl_RX8_95 rfl [] rfl rfl hS.t0 (by omega) (Nat.le_of_ble_eq_true rfl) dX8_sum_5 ?_
    refine mX8_fine0 hS her1 (show -2147483648 ≤ s1.fl ∧ s1.fl < 2147483648 by first | decide | omega | assumption) ?_
    refine q_ifeq hF (by decide) dX8_sum_8 (fun c8 => ?_) (fun c8 => ?_)
    · refine q_return hF rfl dX8_sum_68 ?_
      show Q (.inl none) sz T (q_ps I m s1) (q_row L (m + 4) t1) P
      exact k1 w1 x1 _ _ (by rw [← hx2, e1, g_bd_e]) hw1 hfl1 hfa1 hpn1 hon1 hhp1
    · exact absurd c8 (by decide)
theorem sX8_all {G : q_G} {T : q_T} {P : q_P} {m n : Nat} {B : Nat → Int} (hS : q_SM T P m) (hSA : q_A G m) : ∀ f : Nat, q_CE G T P m n B f 0 YX8_factor (fun o => 9 + 3 * (3 - o)) ∧ q_CE G T P m n B f 1 YX8_product (fun o => 9 + 3 * (3 - o) + 1) ∧ q_CE G T P m n B f 3 YX8_sum (fun o => 9 + 3 * (3 - o) + 2) ∧ q_LE G T P m n B f 2 YX8_product 4 (fun o => 9 + 3 * (3 - o) + 1) ∧ q_LE G T P m n B f 4 YX8_sum 4 (fun o => 9 + 3 * (3 - o) + 2)
  | 0 => ⟨fun sz I L Q s t o r hB hp hfl hop ho hcd hx hne k0 k1 => absurd hx.symm hne, fun sz I L Q s t o r hB hp hfl hop ho hcd hx hne k0 k1 => absurd hx.symm hne, fun sz I L Q s t o r hB hp hfl hop ho hcd hx hne k0 k1 => absurd hx.symm hne, fun F h kc ks sz I L Q s t o r hF hh hB hp hfl hop ho hcd hx hne k0 k1 => absurd hx.symm hne, fun F h kc ks sz I L Q s t o r hF hh hB hp hfl hop ho hcd hx hne k0 k1 => absurd hx.symm hne⟩
  | f + 1 => by
    obtain ⟨i0, i1, i3, i2, i4⟩ := sX8_all hS hSA f
    exact ⟨sX8_factor hS hSA i0 i3, sX8_product hS hSA i0 i2, sX8_sum hS hSA i1 i4, sX8_productL hS hSA i0 i2, sX8_sumL hS hSA i1 i4⟩
