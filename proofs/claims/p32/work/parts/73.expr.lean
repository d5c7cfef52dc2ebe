/-! an expression, parsed: its codes, or its fault -/
abbrev g_Re : Type := (Nat × List Int) ⊕ (Int × Nat)
abbrev g_Re.ok (p : Nat) (cs : List Int) : g_Re := .inl (p, cs)
abbrev g_Re.er (w : Int) (x : Nat) : g_Re := .inr (w, x)
def g_Re.bd (r : g_Re) (f : Nat → List Int → g_Re) : g_Re := match r with
  | .inl c => f c.1 c.2
  | .inr e => .inr e
theorem g_bd_k (p : Nat) (cs : List Int) (f : Nat → List Int → g_Re) : (g_Re.ok p cs).bd f = f p cs := rfl
theorem g_bd_e (w : Int) (x : Nat) (f : Nat → List Int → g_Re) : (g_Re.er w x).bd f = g_Re.er w x := rfl
def g_mst (B : Nat → Int) (n i p : Nat) : g_Re := if g_isW B n i (g_sk B n p) then g_Re.ok (g_len i + g_sk B n p) [] else g_Re.er 1 (g_sk B n p)
def g_sig (B : Nat → Int) (n : Nat) (c : Int) (p : Nat) : g_Re := if g_bt B n (g_sk B n p) = c then g_Re.ok (1 + g_sk B n p) [] else g_Re.er 1 (g_sk B n p)
def g_facB (B : Nat → Int) (n : Nat) (R : Nat → Nat → Nat → g_Re) (o q : Nat) : g_Re :=
  if o = 3 then g_Re.er 5 q else (R 3 (o + 1) (1 + q)).bd fun p1 c1 => (g_sig B n 41 p1).bd fun p2 _ => g_Re.ok p2 c1
def g_facM (B : Nat → Int) (n : Nat) (R : Nat → Nat → Nat → g_Re) (o q : Nat) : g_Re :=
  if g_bt B n q = 40 then (if o = 3 then g_Re.er 5 q else (R 3 (o + 1) (1 + q)).bd fun p1 c1 => (g_sig B n 44 p1).bd fun p2 _ => (R 3 (o + 1) p2).bd fun p3 c2 => (g_sig B n 41 p3).bd fun p4 _ => g_Re.ok p4 (c1 ++ c2 ++ [-9])) else g_Re.er 1 q
def g_facI (B : Nat → Int) (n : Nat) (R : Nat → Nat → Nat → g_Re) (o q : Nat) : g_Re :=
  if o = 3 then g_Re.er 5 q else (R 0 (o + 1) (g_len 45 + q)).bd fun p1 c1 => (g_mst B n 46 p1).bd fun p2 _ => (R 0 (o + 1) p2).bd fun p3 c2 => (g_mst B n 47 p3).bd fun p4 _ => (R 0 (o + 1) p4).bd fun p5 c3 => (g_mst B n 48 p5).bd fun p6 _ => (R 0 (o + 1) p6).bd fun p7 c4 => g_Re.ok p7 (c1 ++ c2 ++ c3 ++ c4 ++ [-10])
/-- a factor that stands at q -/
def g_fac (B : Nat → Int) (n : Nat) (R : Nat → Nat → Nat → g_Re) (o q : Nat) : g_Re :=
  if g_dg (g_bt B n q) then (if g_nv B n q 0 ≤ 999999 then g_Re.ok (g_nd B n q) [g_nv B n q 0] else g_Re.er 2 q)
  else if g_isW B n 35 q then g_Re.ok (g_len 35 + q) [-1]
  else if g_isW B n 36 q then g_Re.ok (g_len 36 + q) [-2]
  else if g_isW B n 37 q then g_Re.ok (g_len 37 + q) [-3]
  else if g_isW B n 38 q then g_Re.ok (g_len 38 + q) [-4]
  else if g_bt B n q = 40 then g_facB B n R o q
  else if g_isW B n 44 q then g_facM B n R o (g_sk B n (g_len 44 + q))
  else if g_isW B n 45 q then g_facI B n R o q
  else g_Re.er 1 q
def g_prL (B : Nat → Int) (n : Nat) (R : Nat → Nat → Nat → g_Re) (o q : Nat) : g_Re :=
  if g_bt B n q = 42 ∨ g_bt B n q = 47 then (R 0 o (1 + q)).bd fun p1 c1 => (R 2 o p1).bd fun p2 c2 => g_Re.ok p2 (c1 ++ (if g_bt B n q = 42 then -7 else -8) :: c2) else g_Re.ok q []
def g_smL (B : Nat → Int) (n : Nat) (R : Nat → Nat → Nat → g_Re) (o q : Nat) : g_Re :=
  if g_bt B n q = 43 ∨ g_bt B n q = 45 then (R 1 o (1 + q)).bd fun p1 c1 => (R 4 o p1).bd fun p2 c2 => g_Re.ok p2 (c1 ++ (if g_bt B n q = 43 then -5 else -6) :: c2) else g_Re.ok q []
/-- 0 a factor, 1 a product, 2 the rest of a product, 3 a sum, 4 the rest of a sum; o brackets stand open -/
def g_ex (B : Nat → Int) (n : Nat) : Nat → Nat → Nat → Nat → g_Re
  | 0, _, _, _ => g_Re.er 0 0
  | f + 1, k, o, p =>
    if k = 0 then g_fac B n (g_ex B n f) o (g_sk B n p)
    else if k = 1 then (g_ex B n f 0 o p).bd fun p1 c1 => (g_ex B n f 2 o p1).bd fun p2 c2 => g_Re.ok p2 (c1 ++ c2)
    else if k = 2 then g_prL B n (g_ex B n f) o (g_sk B n p)
    else if k = 3 then (g_ex B n f 1 o p).bd fun p1 c1 => (g_ex B n f 4 o p1).bd fun p2 c2 => g_Re.ok p2 (c1 ++ c2)
    else g_smL B n (g_ex B n f) o (g_sk B n p)
theorem g_bd_ok {r : g_Re} {f : Nat → List Int → g_Re} {p : Nat} {cs : List Int} (h : r.bd f = g_Re.ok p cs) : ∃ p1 c1, r = g_Re.ok p1 c1 ∧ f p1 c1 = g_Re.ok p cs := by
  cases r with
  | inl c => exact ⟨c.1, c.2, rfl, h⟩
  | inr e => exact absurd h (by simp [g_Re.bd])
def g_enc (c : Int) : List Int := if 0 ≤ c then [1, c] else [1 - c]
def g_encs : List Int → List Int
  | [] => []
  | c :: cs => g_enc c ++ g_encs cs
def g_el (cs : List Int) : Nat := (g_encs cs).length
theorem g_encs_app (a b : List Int) : g_encs (a ++ b) = g_encs a ++ g_encs b := by
  induction a with
  | nil => rfl
  | cons c cs ih => show g_enc c ++ g_encs (cs ++ b) = (g_enc c ++ g_encs cs) ++ g_encs b; rw [ih, List.append_assoc]
theorem g_el_app (a b : List Int) : g_el (a ++ b) = g_el a + g_el b := by unfold g_el; rw [g_encs_app, List.length_append]
theorem g_el_neg {c : Int} (h : c < 0) (cs : List Int) : g_el (c :: cs) = 1 + g_el cs := by
  show (g_enc c ++ g_encs cs).length = _
  unfold g_enc
  rw [if_neg (by omega)]
  show (g_encs cs).length + 1 = _
  unfold g_el; omega
theorem g_el_pos {c : Int} (h : 0 ≤ c) (cs : List Int) : g_el (c :: cs) = 2 + g_el cs := by
  show (g_enc c ++ g_encs cs).length = _
  unfold g_enc
  rw [if_pos h]
  show (g_encs cs).length + 1 + 1 = _
  unfold g_el; omega
theorem g_el_nil : g_el [] = 0 := rfl
def g_app (t : Nat → Int) (k : Nat) : List Int → (Nat → Int)
  | [] => t
  | x :: xs => g_app (g_up t k x) (k + 1) xs
theorem g_app_app (a b : List Int) : ∀ (t : Nat → Int) (k : Nat), g_app t k (a ++ b) = g_app (g_app t k a) (k + a.length) b := by
  induction a with
  | nil => intro t k; rfl
  | cons x xs ih => intro t k; show g_app (g_up t k x) (k + 1) (xs ++ b) = _; rw [ih]; show _ = g_app (g_app (g_up t k x) (k + 1) xs) (k + (xs.length + 1)) b; rw [show k + (xs.length + 1) = k + 1 + xs.length by omega]
theorem g_app_encs (a b : List Int) (t : Nat → Int) (k : Nat) : g_app t k (g_encs (a ++ b)) = g_app (g_app t k (g_encs a)) (k + g_el a) (g_encs b) := by rw [g_encs_app, g_app_app]; rfl
theorem g_isW_n {B : Nat → Int} {n i q : Nat} (hl : 0 < g_len i) (hc : ∀ k, k < g_len i → g_ch i k ≠ -1) (h : g_isW B n i q) : g_len i + q ≤ n := by
  have h1 := h.1 (g_len i - 1) (by omega)
  have h2 := hc (g_len i - 1) (by omega)
  have h3 := g_bt_in (B := B) (n := n) (k := q + (g_len i - 1)) (by rw [h1]; exact h2)
  omega
theorem g_nd_gt {B : Nat → Int} {n q : Nat} (hq : q ≤ n) (h : g_dg (g_bt B n q)) : q + 1 ≤ g_nd B n q ∧ g_nd B n q ≤ n := by
  have h2 : q < n := g_bt_in (B := B) (by have := h.1; omega)
  rw [g_nd_s h]
  have := g_nd_r (B := B) (n := n) (k := 1 + q) (by omega)
  omega
/-- how far a part of an expression goes, and how many codes it is -/
def g_far (n k p p' : Nat) (cs : List Int) : Prop := p' ≤ n ∧ (if k = 2 ∨ k = 4 then p ≤ p' ∧ 2 * g_el cs ≤ 3 * (p' - p) else p + 1 ≤ p' ∧ 2 * g_el cs ≤ 3 * (p' - p) + 1)
theorem g_sig_ok {B : Nat → Int} {n p p' : Nat} {c : Int} {cs : List Int} (hc : c ≠ -1) (hp : p ≤ n) (h : g_sig B n c p = g_Re.ok p' cs) : p + 1 ≤ p' ∧ p' ≤ n := by
  unfold g_sig at h
  have hq := g_sk_r (B := B) hp
  by_cases e : g_bt B n (g_sk B n p) = c
  · rw [if_pos e] at h
    have := g_bt_in (B := B) (n := n) (k := g_sk B n p) (by rw [e]; exact hc)
    cases h; omega
  · rw [if_neg e] at h; cases h
theorem g_mst_ok {B : Nat → Int} {n i p p' : Nat} {cs : List Int} (hw : ∀ q, g_isW B n i q → g_len i + q ≤ n) (hl : 0 < g_len i) (hp : p ≤ n) (h : g_mst B n i p = g_Re.ok p' cs) : p + 1 ≤ p' ∧ p' ≤ n := by
  unfold g_mst at h
  have hq := g_sk_r (B := B) hp
  by_cases e : g_isW B n i (g_sk B n p)
  · rw [if_pos e] at h
    have := hw _ e
    cases h; omega
  · rw [if_neg e] at h; cases h
theorem g_ex_far {B : Nat → Int} {n : Nat} (hB : ∀ k, 0 ≤ B k) (hw : ∀ i q, i < 76 → g_isW B n i q → 1 ≤ g_len i ∧ g_len i + q ≤ n) (hl : ∀ i, i < 76 → 1 ≤ g_len i) : ∀ f k o p p' cs, k < 5 → p ≤ n → g_ex B n f k o p = g_Re.ok p' cs → g_far n k p p' cs
  | 0, _, _, _, _, _, _, _, h => by cases h
  | f + 1, k, o, p, p', cs, hk, hp, h => by
    have ih := g_ex_far hB hw hl f
    have hq := g_sk_r (B := B) hp
    unfold g_ex at h
    rcases (show k = 0 ∨ k = 1 ∨ k = 2 ∨ k = 3 ∨ k = 4 by omega) with rfl | rfl | rfl | rfl | rfl
    · rw [if_pos rfl] at h
      unfold g_fac at h
      generalize g_sk B n p = q at hq h
      by_cases c1 : g_dg (g_bt B n q)
      · rw [if_pos c1] at h
        by_cases c2 : g_nv B n q 0 ≤ 999999
        · rw [if_pos c2] at h
          have h3 := g_nd_gt hq.2 c1
          have h4 := g_nv_r (B := B) (n := n) _ q 0 (Nat.lt_succ_self _) (by decide) (by decide)
          cases h
          refine ⟨h3.2, ?_⟩
          rw [if_neg (by decide), g_el_pos h4.1, g_el_nil]
          omega
        · rw [if_neg c2] at h; cases h
      rw [if_neg c1] at h
      by_cases w1 : g_isW B n 35 q
      · rw [if_pos w1] at h; have := hw 35 q (by decide) w1; cases h; refine ⟨this.2, ?_⟩; rw [if_neg (by decide), g_el_neg (by decide), g_el_nil]; omega
      rw [if_neg w1] at h
      by_cases w1 : g_isW B n 36 q
      · rw [if_pos w1] at h; have := hw 36 q (by decide) w1; cases h; refine ⟨this.2, ?_⟩; rw [if_neg (by decide), g_el_neg (by decide), g_el_nil]; omega
      rw [if_neg w1] at h
      by_cases w1 : g_isW B n 37 q
      · rw [if_pos w1] at h; have := hw 37 q (by decide) w1; cases h; refine ⟨this.2, ?_⟩; rw [if_neg (by decide), g_el_neg (by decide), g_el_nil]; omega
      rw [if_neg w1] at h
      by_cases w1 : g_isW B n 38 q
      · rw [if_pos w1] at h; have := hw 38 q (by decide) w1; cases h; refine ⟨this.2, ?_⟩; rw [if_neg (by decide), g_el_neg (by decide), g_el_nil]; omega
      rw [if_neg w1] at h
      by_cases b1 : g_bt B n q = 40
      · rw [if_pos b1] at h
        have hqn := g_bt_in (B := B) (n := n) (k := q) (by rw [b1]; decide)
        unfold g_facB at h
        by_cases o3 : o = 3
        · rw [if_pos o3] at h; cases h
        rw [if_neg o3] at h
        obtain ⟨p1, c1', e1, h⟩ := g_bd_ok h
        obtain ⟨p2, c2', e2, h⟩ := g_bd_ok h
        have i1 := ih _ _ _ _ _ (by decide) (by omega) e1
        have i2 := g_sig_ok (by decide) i1.1 e2
        have i3 := i1.2
        rw [if_neg (by decide)] at i3
        cases h
        refine ⟨i2.2, ?_⟩
        rw [if_neg (by decide)]
        omega
      rw [if_neg b1] at h
      by_cases w2 : g_isW B n 44 q
      · rw [if_pos w2] at h
        have hw2 := hw 44 q (by decide) w2
        have hq2 := g_sk_r (B := B) hw2.2
        generalize g_sk B n (g_len 44 + q) = q2 at hq2 h
        unfold g_facM at h
        by_cases b1 : g_bt B n q2 = 40
        · rw [if_pos b1] at h
          have hqn := g_bt_in (B := B) (n := n) (k := q2) (by rw [b1]; decide)
          by_cases o3 : o = 3
          · rw [if_pos o3] at h; cases h
          rw [if_neg o3] at h
          obtain ⟨p1, c1', e1, h⟩ := g_bd_ok h
          obtain ⟨p2, c2', e2, h⟩ := g_bd_ok h
          obtain ⟨p3, c3', e3, h⟩ := g_bd_ok h
          obtain ⟨p4, c4', e4, h⟩ := g_bd_ok h
          have i1 := ih _ _ _ _ _ (by decide) (by omega) e1
          have i2 := g_sig_ok (by decide) i1.1 e2
          have i3 := ih _ _ _ _ _ (by decide) i2.2 e3
          have i4 := g_sig_ok (by decide) i3.1 e4
          have j1 := i1.2
          have j3 := i3.2
          rw [if_neg (by decide)] at j1 j3
          cases h
          refine ⟨i4.2, ?_⟩
          rw [if_neg (by decide), g_el_app, g_el_app, g_el_neg (by decide), g_el_nil]
          omega
        · rw [if_neg b1] at h; cases h
      rw [if_neg w2] at h
      by_cases w3 : g_isW B n 45 q
      · rw [if_pos w3] at h
        have hw3 := hw 45 q (by decide) w3
        unfold g_facI at h
        by_cases o3 : o = 3
        · rw [if_pos o3] at h; cases h
        rw [if_neg o3] at h
        obtain ⟨p1, c1', e1, h⟩ := g_bd_ok h
        obtain ⟨p2, c2', e2, h⟩ := g_bd_ok h
        obtain ⟨p3, c3', e3, h⟩ := g_bd_ok h
        obtain ⟨p4, c4', e4, h⟩ := g_bd_ok h
        obtain ⟨p5, c5', e5, h⟩ := g_bd_ok h
        obtain ⟨p6, c6', e6, h⟩ := g_bd_ok h
        obtain ⟨p7, c7', e7, h⟩ := g_bd_ok h
        have i1 := ih _ _ _ _ _ (by decide) hw3.2 e1
        have i2 := g_mst_ok (fun q h => (hw 46 q (by decide) h).2) (hl 46 (by decide)) i1.1 e2
        have i3 := ih _ _ _ _ _ (by decide) i2.2 e3
        have i4 := g_mst_ok (fun q h => (hw 47 q (by decide) h).2) (hl 47 (by decide)) i3.1 e4
        have i5 := ih _ _ _ _ _ (by decide) i4.2 e5
        have i6 := g_mst_ok (fun q h => (hw 48 q (by decide) h).2) (hl 48 (by decide)) i5.1 e6
        have i7 := ih _ _ _ _ _ (by decide) i6.2 e7
        have j1 := i1.2
        have j3 := i3.2
        have j5 := i5.2
        have j7 := i7.2
        rw [if_neg (by decide)] at j1 j3 j5 j7
        cases h
        refine ⟨i7.1, ?_⟩
        rw [if_neg (by decide), g_el_app, g_el_app, g_el_app, g_el_app, g_el_neg (by decide), g_el_nil]
        omega
      · rw [if_neg w3] at h; cases h
    · rw [if_neg (by decide), if_pos rfl] at h
      obtain ⟨p1, c1', e1, h⟩ := g_bd_ok h
      obtain ⟨p2, c2', e2, h⟩ := g_bd_ok h
      have i1 := ih _ _ _ _ _ (by decide) hp e1
      have i2 := ih _ _ _ _ _ (by decide) i1.1 e2
      have j1 := i1.2
      have j2 := i2.2
      rw [if_neg (by decide)] at j1
      rw [if_pos (by decide)] at j2
      cases h
      refine ⟨i2.1, ?_⟩
      rw [if_neg (by decide), g_el_app]
      omega
    · rw [if_neg (by decide), if_neg (by decide), if_pos rfl] at h
      unfold g_prL at h
      generalize g_sk B n p = q at hq h
      by_cases b1 : g_bt B n q = 42 ∨ g_bt B n q = 47
      · rw [if_pos b1] at h
        have hqn := g_bt_in (B := B) (n := n) (k := q) (by omega)
        obtain ⟨p1, c1', e1, h⟩ := g_bd_ok h
        obtain ⟨p2, c2', e2, h⟩ := g_bd_ok h
        have i1 := ih _ _ _ _ _ (by decide) (by omega) e1
        have i2 := ih _ _ _ _ _ (by decide) i1.1 e2
        have j1 := i1.2
        have j2 := i2.2
        rw [if_neg (by decide)] at j1
        rw [if_pos (by decide)] at j2
        cases h
        refine ⟨i2.1, ?_⟩
        rw [if_pos (by decide), g_el_app, g_el_neg (by split <;> decide)]
        omega
      · rw [if_neg b1] at h
        cases h
        refine ⟨hq.2, ?_⟩
        rw [if_pos (by decide), g_el_nil]
        omega
    · rw [if_neg (by decide), if_neg (by decide), if_neg (by decide), if_pos rfl] at h
      obtain ⟨p1, c1', e1, h⟩ := g_bd_ok h
      obtain ⟨p2, c2', e2, h⟩ := g_bd_ok h
      have i1 := ih _ _ _ _ _ (by decide) hp e1
      have i2 := ih _ _ _ _ _ (by decide) i1.1 e2
      have j1 := i1.2
      have j2 := i2.2
      rw [if_neg (by decide)] at j1
      rw [if_pos (by decide)] at j2
      cases h
      refine ⟨i2.1, ?_⟩
      rw [if_neg (by decide), g_el_app]
      omega
    · rw [if_neg (by decide), if_neg (by decide), if_neg (by decide), if_neg (by decide)] at h
      unfold g_smL at h
      generalize g_sk B n p = q at hq h
      by_cases b1 : g_bt B n q = 43 ∨ g_bt B n q = 45
      · rw [if_pos b1] at h
        have hqn := g_bt_in (B := B) (n := n) (k := q) (by omega)
        obtain ⟨p1, c1', e1, h⟩ := g_bd_ok h
        obtain ⟨p2, c2', e2, h⟩ := g_bd_ok h
        have i1 := ih _ _ _ _ _ (by decide) (by omega) e1
        have i2 := ih _ _ _ _ _ (by decide) i1.1 e2
        have j1 := i1.2
        have j2 := i2.2
        rw [if_neg (by decide)] at j1
        rw [if_pos (by decide)] at j2
        cases h
        refine ⟨i2.1, ?_⟩
        rw [if_pos (by decide), g_el_app, g_el_neg (by split <;> decide)]
        omega
      · rw [if_neg b1] at h
        cases h
        refine ⟨hq.2, ?_⟩
        rw [if_pos (by decide), g_el_nil]
        omega
theorem g_ex_0 {B : Nat → Int} {n f o p : Nat} : g_ex B n (f + 1) 0 o p = g_fac B n (g_ex B n f) o (g_sk B n p) := by
  rw [g_ex, if_pos rfl]
theorem g_ex_1 {B : Nat → Int} {n f o p : Nat} : g_ex B n (f + 1) 1 o p = (g_ex B n f 0 o p).bd fun p1 c1 => (g_ex B n f 2 o p1).bd fun p2 c2 => .ok p2 (c1 ++ c2) := by
  rw [g_ex, if_neg (by decide), if_pos rfl]
theorem g_ex_2 {B : Nat → Int} {n f o p : Nat} : g_ex B n (f + 1) 2 o p = g_prL B n (g_ex B n f) o (g_sk B n p) := by
  rw [g_ex, if_neg (by decide), if_neg (by decide), if_pos rfl]
theorem g_ex_3 {B : Nat → Int} {n f o p : Nat} : g_ex B n (f + 1) 3 o p = (g_ex B n f 1 o p).bd fun p1 c1 => (g_ex B n f 4 o p1).bd fun p2 c2 => .ok p2 (c1 ++ c2) := by
  rw [g_ex, if_neg (by decide), if_neg (by decide), if_neg (by decide), if_pos rfl]
theorem g_ex_4 {B : Nat → Int} {n f o p : Nat} : g_ex B n (f + 1) 4 o p = g_smL B n (g_ex B n f) o (g_sk B n p) := by
  rw [g_ex, if_neg (by decide), if_neg (by decide), if_neg (by decide), if_neg (by decide)]
theorem g_app_neg {c : Int} (h : c < 0) (cs : List Int) (t : Nat → Int) (k : Nat) : g_app t k (g_encs (c :: cs)) = g_app (g_up t k (1 - c)) (k + 1) (g_encs cs) := by
  show g_app t k (g_enc c ++ g_encs cs) = _
  unfold g_enc
  rw [if_neg (by omega)]
  rfl
theorem g_app_pos {c : Int} (h : 0 ≤ c) (cs : List Int) (t : Nat → Int) (k : Nat) : g_app t k (g_encs (c :: cs)) = g_app (g_up (g_up t k 1) (k + 1) c) (k + 1 + 1) (g_encs cs) := by
  show g_app t k (g_enc c ++ g_encs cs) = _
  unfold g_enc
  rw [if_pos h]
  rfl
theorem g_app_nil (t : Nat → Int) (k : Nat) : g_app t k (g_encs []) = t := rfl
theorem g_words_ok : ∀ i, i < 76 → 1 ≤ g_len i := by decide +kernel
theorem g_far_of {I : q_I} {m n : Nat} {B : Nat → Int} (hB : q_BT I m B n) {f k o p p' : Nat} {cs : List Int} (hk : k < 5) (hp : p ≤ n) (h : g_ex B n f k o p = .ok p' cs) : g_far n k p p' cs :=
  g_ex_far (fun k => (hB.2.2.2 k).1) (fun i q hi hw => ⟨g_words_ok i hi, g_isW_n (g_words_ok i hi) (fun k hk => by have := g_ch_r hi hk; omega) hw⟩) g_words_ok f k o p p' cs hk hp h
theorem q_Qeq {Q : q_Q} {a : Option Value ⊕ String} {sz : Nat} {T : q_T} {P : q_P} {I I' L L' : q_I} (h : Q a sz T I L P) (h1 : I = I') (h2 : L = L') : Q a sz T I' L' P := by subst h1 h2; exact h