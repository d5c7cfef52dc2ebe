/-! codes: the reference's, read back; how high a stack they want -/
/-- codes from a stack of d values on, none of them above 28 before a code, to one that P holds of -/
def g_run2 (P : Nat → Prop) : List Int → Nat → Prop
  | [], d => P d
  | c :: cs, d => (-10 ≤ c ∧ c ≤ 999999 ∧ d ≤ 28) ∧ (if -4 ≤ c then g_run2 P cs (d + 1) else if -9 ≤ c then 2 ≤ d ∧ g_run2 P cs (d - 1) else 4 ≤ d ∧ g_run2 P cs (d - 3))
theorem g_run2_app {P : Nat → Prop} : ∀ (xs ys : List Int) (d : Nat), g_run2 (fun d' => g_run2 P ys d') xs d → g_run2 P (xs ++ ys) d
  | [], _, _, h => h
  | c :: xs, ys, d, h => by
    refine ⟨h.1, ?_⟩
    have h2 := h.2
    by_cases e1 : -4 ≤ c
    · rw [if_pos e1] at h2; rw [if_pos e1]; exact g_run2_app xs ys _ h2
    · rw [if_neg e1] at h2; rw [if_neg e1]
      by_cases e2 : -9 ≤ c
      · rw [if_pos e2] at h2; rw [if_pos e2]; exact ⟨h2.1, g_run2_app xs ys _ h2.2⟩
      · rw [if_neg e2] at h2; rw [if_neg e2]; exact ⟨h2.1, g_run2_app xs ys _ h2.2⟩
theorem g_run2_mono {P P' : Nat → Prop} (hP : ∀ d, P d → P' d) : ∀ (xs : List Int) (d : Nat), g_run2 P xs d → g_run2 P' xs d
  | [], _, h => hP _ h
  | c :: xs, d, h => by
    refine ⟨h.1, ?_⟩
    have h2 := h.2
    by_cases e1 : -4 ≤ c
    · rw [if_pos e1] at h2; rw [if_pos e1]; exact g_run2_mono hP xs _ h2
    · rw [if_neg e1] at h2; rw [if_neg e1]
      by_cases e2 : -9 ≤ c
      · rw [if_pos e2] at h2; rw [if_pos e2]; exact ⟨h2.1, g_run2_mono hP xs _ h2.2⟩
      · rw [if_neg e2] at h2; rw [if_neg e2]; exact ⟨h2.1, g_run2_mono hP xs _ h2.2⟩
theorem g_run2_wf : ∀ (xs : List Int) (d : Nat), g_run2 (fun d => d = 1) xs d → g_wf xs d
  | [], _, h => h
  | c :: xs, d, h => by
    refine ⟨h.1.1, h.1.2.1, ?_⟩
    have h2 := h.2
    by_cases e1 : -4 ≤ c
    · rw [if_pos e1] at h2; rw [if_pos e1]; exact g_run2_wf xs _ h2
    · rw [if_neg e1] at h2; rw [if_neg e1]
      by_cases e2 : -9 ≤ c
      · rw [if_pos e2] at h2; rw [if_pos e2]; exact ⟨h2.1, g_run2_wf xs _ h2.2⟩
      · rw [if_neg e2] at h2; rw [if_neg e2]; exact ⟨h2.1, g_run2_wf xs _ h2.2⟩
theorem g_run2_mx {P : Nat → Prop} : ∀ (xs : List Int) (d : Nat), g_run2 P xs d → g_mx xs d
  | [], _, _ => trivial
  | c :: xs, d, h => by
    refine ⟨h.1.2.2, ?_⟩
    have h2 := h.2
    by_cases e1 : -4 ≤ c
    · rw [if_pos e1] at h2; rw [if_pos e1]; exact g_run2_mx xs _ h2
    · rw [if_neg e1] at h2; rw [if_neg e1]
      by_cases e2 : -9 ≤ c
      · rw [if_pos e2] at h2; rw [if_pos e2]; exact g_run2_mx xs _ h2.2
      · rw [if_neg e2] at h2; rw [if_neg e2]; exact g_run2_mx xs _ h2.2
theorem g_run2_c {P : Nat → Prop} : ∀ (xs : List Int) (d : Nat), g_run2 P xs d → ∀ x, x ∈ xs → -10 ≤ x
  | [], _, _, _, h => by cases h
  | c :: xs, d, h, x, hx => by
    rcases List.mem_cons.mp hx with rfl | hx
    · exact h.1.1
    · have h2 := h.2
      by_cases e1 : -4 ≤ c
      · rw [if_pos e1] at h2; exact g_run2_c xs _ h2 x hx
      · rw [if_neg e1] at h2
        by_cases e2 : -9 ≤ c
        · rw [if_pos e2] at h2; exact g_run2_c xs _ h2.2 x hx
        · rw [if_neg e2] at h2; exact g_run2_c xs _ h2.2 x hx
/-- one code -/
theorem g_run2_1 {P : Nat → Prop} {c : Int} {d : Nat} (hc : 0 ≤ c + 4 ∧ c ≤ 999999) (hd : d ≤ 28) (h : P (d + 1)) : g_run2 P [c] d := ⟨⟨by omega, hc.2, hd⟩, by rw [if_pos (by omega)]; exact h⟩
theorem g_run2_2 {P : Nat → Prop} {c : Int} {xs : List Int} {d : Nat} (hc : -9 ≤ c ∧ c ≤ -5) (hd : 2 ≤ d ∧ d ≤ 28) (h : g_run2 P xs (d - 1)) : g_run2 P (c :: xs) d := ⟨⟨by omega, by omega, hd.2⟩, by rw [if_neg (by omega), if_pos hc.1]; exact ⟨hd.1, h⟩⟩
theorem g_run2_4 {P : Nat → Prop} {xs : List Int} {d : Nat} (hd : 4 ≤ d ∧ d ≤ 28) (h : g_run2 P xs (d - 3)) : g_run2 P (-10 :: xs) d := ⟨⟨by decide, by decide, hd.2⟩, by rw [if_neg (by decide), if_neg (by decide)]; exact ⟨hd.1, h⟩⟩
/-- how high a stack may be before a part of an expression -/
def g_al (k o d : Nat) : Prop := if k = 0 then d ≤ 18 + 3 * o else if k = 1 then d ≤ 17 + 3 * o else if k = 2 then 1 ≤ d ∧ d ≤ 18 + 3 * o else if k = 3 then d ≤ 16 + 3 * o else 1 ≤ d ∧ d ≤ 17 + 3 * o
def g_to (k d : Nat) : Nat := if k = 2 ∨ k = 4 then d else d + 1
theorem g_mst_nil {B : Nat → Int} {n i p p' : Nat} {cs : List Int} (h : g_mst B n i p = g_Re.ok p' cs) : cs = [] := by
  unfold g_mst at h; split at h <;> cases h; rfl
theorem g_sig_nil {B : Nat → Int} {n p p' : Nat} {c : Int} {cs : List Int} (h : g_sig B n c p = g_Re.ok p' cs) : cs = [] := by
  unfold g_sig at h; split at h <;> cases h; rfl
theorem g_ex_run {B : Nat → Int} {n : Nat} : ∀ f k o p p' cs, k < 5 → o ≤ 3 → g_ex B n f k o p = g_Re.ok p' cs → ∀ d, g_al k o d → g_run2 (fun d' => d' = g_to k d) cs d
  | 0, _, _, _, _, _, _, _, h => by cases h
  | f + 1, k, o, p, p', cs, hk, ho, h => by
    have ih := fun k o p p' cs => g_ex_run (B := B) (n := n) f k o p p' cs
    intro d hd
    rcases (show k = 0 ∨ k = 1 ∨ k = 2 ∨ k = 3 ∨ k = 4 by omega) with rfl | rfl | rfl | rfl | rfl
    · rw [g_ex_0] at h
      have hd : d ≤ 18 + 3 * o := hd
      show g_run2 (fun d' => d' = d + 1) cs d
      unfold g_fac at h
      generalize g_sk B n p = q at h
      split at h
      · split at h
        · have h4 := g_nv_r (B := B) (n := n) _ q 0 (Nat.lt_succ_self _) (by decide) (by decide)
          cases h
          exact g_run2_1 (by omega) (by omega) rfl
        · cases h
      split at h
      · cases h; exact g_run2_1 (by decide) (by omega) rfl
      split at h
      · cases h; exact g_run2_1 (by decide) (by omega) rfl
      split at h
      · cases h; exact g_run2_1 (by decide) (by omega) rfl
      split at h
      · cases h; exact g_run2_1 (by decide) (by omega) rfl
      split at h
      · unfold g_facB at h
        split at h
        · cases h
        obtain ⟨p1, c1, e1, h⟩ := g_bd_ok h
        obtain ⟨p2, c2, e2, h⟩ := g_bd_ok h
        cases h
        exact ih 3 (o + 1) _ _ _ (by decide) (by omega) e1 d (show d ≤ 16 + 3 * (o + 1) by omega)
      split at h
      · unfold g_facM at h
        split at h
        · split at h
          · cases h
          obtain ⟨p1, c1, e1, h⟩ := g_bd_ok h
          obtain ⟨p2, c2, e2, h⟩ := g_bd_ok h
          obtain ⟨p3, c3, e3, h⟩ := g_bd_ok h
          obtain ⟨p4, c4, e4, h⟩ := g_bd_ok h
          cases h
          refine g_run2_app _ _ _ (g_run2_app _ _ _ (g_run2_mono (fun d1 h1 => ?_) _ _ (ih 3 (o + 1) _ _ _ (by decide) (by omega) e1 d (show d ≤ 16 + 3 * (o + 1) by omega))))
          subst h1
          refine g_run2_mono (fun d2 h2 => ?_) _ _ (ih 3 (o + 1) _ _ _ (by decide) (by omega) e3 (d + 1) (show d + 1 ≤ 16 + 3 * (o + 1) by omega))
          subst h2
          exact g_run2_2 (by decide) (show 2 ≤ d + 1 + 1 ∧ d + 1 + 1 ≤ 28 by omega) rfl
        · cases h
      split at h
      · unfold g_facI at h
        split at h
        · cases h
        obtain ⟨p1, c1, e1, h⟩ := g_bd_ok h
        obtain ⟨p2, c2, e2, h⟩ := g_bd_ok h
        obtain ⟨p3, c3, e3, h⟩ := g_bd_ok h
        obtain ⟨p4, c4, e4, h⟩ := g_bd_ok h
        obtain ⟨p5, c5, e5, h⟩ := g_bd_ok h
        obtain ⟨p6, c6, e6, h⟩ := g_bd_ok h
        obtain ⟨p7, c7, e7, h⟩ := g_bd_ok h
        cases h
        refine g_run2_app _ _ _ (g_run2_app _ _ _ (g_run2_app _ _ _ (g_run2_app _ _ _ (g_run2_mono (fun d1 h1 => ?_) _ _ (ih 0 (o + 1) _ _ _ (by decide) (by omega) e1 d (show d ≤ 18 + 3 * (o + 1) by omega))))))
        subst h1
        refine g_run2_mono (fun d2 h2 => ?_) _ _ (ih 0 (o + 1) _ _ _ (by decide) (by omega) e3 (d + 1) (show d + 1 ≤ 18 + 3 * (o + 1) by omega))
        subst h2
        refine g_run2_mono (fun d3 h3 => ?_) _ _ (ih 0 (o + 1) _ _ _ (by decide) (by omega) e5 (d + 2) (show d + 2 ≤ 18 + 3 * (o + 1) by omega))
        subst h3
        refine g_run2_mono (fun d4 h4 => ?_) _ _ (ih 0 (o + 1) _ _ _ (by decide) (by omega) e7 (d + 3) (show d + 3 ≤ 18 + 3 * (o + 1) by omega))
        subst h4
        exact g_run2_4 (show 4 ≤ d + 3 + 1 ∧ d + 3 + 1 ≤ 28 by omega) rfl
      · cases h
    · rw [g_ex_1] at h
      have hd : d ≤ 17 + 3 * o := hd
      obtain ⟨p1, c1, e1, h⟩ := g_bd_ok h
      obtain ⟨p2, c2, e2, h⟩ := g_bd_ok h
      cases h
      refine g_run2_app _ _ _ (g_run2_mono (fun d1 h1 => ?_) _ _ (ih 0 o _ _ _ (by decide) ho e1 d (show d ≤ 18 + 3 * o by omega)))
      subst h1
      exact ih 2 o _ _ _ (by decide) ho e2 (d + 1) (show 1 ≤ d + 1 ∧ d + 1 ≤ 18 + 3 * o by omega)
    · rw [g_ex_2] at h
      have hd : 1 ≤ d ∧ d ≤ 18 + 3 * o := hd
      unfold g_prL at h
      split at h
      · obtain ⟨p1, c1, e1, h⟩ := g_bd_ok h
        obtain ⟨p2, c2, e2, h⟩ := g_bd_ok h
        cases h
        refine g_run2_app _ _ _ (g_run2_mono (fun d1 h1 => ?_) _ _ (ih 0 o _ _ _ (by decide) ho e1 d (show d ≤ 18 + 3 * o by omega)))
        subst h1
        refine g_run2_2 (by split <;> decide) (show 2 ≤ d + 1 ∧ d + 1 ≤ 28 by omega) ?_
        exact ih 2 o _ _ _ (by decide) ho e2 d (show 1 ≤ d ∧ d ≤ 18 + 3 * o by omega)
      · cases h; exact (rfl : d = g_to 2 d)
    · rw [g_ex_3] at h
      have hd : d ≤ 16 + 3 * o := hd
      obtain ⟨p1, c1, e1, h⟩ := g_bd_ok h
      obtain ⟨p2, c2, e2, h⟩ := g_bd_ok h
      cases h
      refine g_run2_app _ _ _ (g_run2_mono (fun d1 h1 => ?_) _ _ (ih 1 o _ _ _ (by decide) ho e1 d (show d ≤ 17 + 3 * o by omega)))
      subst h1
      exact ih 4 o _ _ _ (by decide) ho e2 (d + 1) (show 1 ≤ d + 1 ∧ d + 1 ≤ 17 + 3 * o by omega)
    · rw [g_ex_4] at h
      have hd : 1 ≤ d ∧ d ≤ 17 + 3 * o := hd
      unfold g_smL at h
      split at h
      · obtain ⟨p1, c1, e1, h⟩ := g_bd_ok h
        obtain ⟨p2, c2, e2, h⟩ := g_bd_ok h
        cases h
        refine g_run2_app _ _ _ (g_run2_mono (fun d1 h1 => ?_) _ _ (ih 1 o _ _ _ (by decide) ho e1 d (show d ≤ 17 + 3 * o by omega)))
        subst h1
        refine g_run2_2 (by split <;> decide) (show 2 ≤ d + 1 ∧ d + 1 ≤ 28 by omega) ?_
        exact ih 4 o _ _ _ (by decide) ho e2 d (show 1 ≤ d ∧ d ≤ 17 + 3 * o by omega)
      · cases h; exact (rfl : d = g_to 4 d)
/-- the cells from k on hold the list -/
def g_at (t : Nat → Int) : Nat → List Int → Prop
  | _, [] => True
  | k, x :: xs => t k = x ∧ g_at t (k + 1) xs
theorem g_app_lo : ∀ (xs : List Int) (t : Nat → Int) (i k : Nat), k < i → g_app t i xs k = t k
  | [], _, _, _, _ => rfl
  | x :: xs, t, i, k, h => by
    show g_app (g_up t i x) (i + 1) xs k = t k
    rw [g_app_lo xs _ _ _ (by omega)]
    exact g_up_n _ _ (by omega)
theorem g_app_hi : ∀ (xs : List Int) (t : Nat → Int) (i k : Nat), i + xs.length ≤ k → g_app t i xs k = t k
  | [], _, _, _, _ => rfl
  | x :: xs, t, i, k, h => by
    have h : i + (xs.length + 1) ≤ k := h
    show g_app (g_up t i x) (i + 1) xs k = t k
    rw [g_app_hi xs _ _ _ (by omega)]
    exact g_up_n _ _ (by omega)
theorem g_at_app : ∀ (xs : List Int) (t : Nat → Int) (k : Nat), g_at (g_app t k xs) k xs
  | [], _, _ => trivial
  | x :: xs, t, k => ⟨by show g_app (g_up t k x) (k + 1) xs k = x; rw [g_app_lo _ _ _ _ (by omega), g_up_s], g_at_app xs _ _⟩
theorem g_at_ext {t t' : Nat → Int} : ∀ (xs : List Int) (k : Nat), (∀ i, k ≤ i → i < k + xs.length → t' i = t i) → g_at t k xs → g_at t' k xs
  | [], _, _, _ => trivial
  | x :: xs, k, h, ha => ⟨(h k (Nat.le_refl _) (by show k < k + (xs.length + 1); omega)).trans ha.1, g_at_ext xs (k + 1) (fun i h1 h2 => h i (by omega) (by show i < k + (xs.length + 1); omega)) ha.2⟩
theorem g_dec_encs {t : Nat → Int} : ∀ (cs : List Int) (f s : Nat), (∀ c, c ∈ cs → -10 ≤ c) → g_el cs < f → g_at t (139 + s) (g_encs cs) → g_dec t f s (s + g_el cs) = cs
  | [], f, s, _, hf, _ => by
    cases f with
    | zero => rfl
    | succ f => unfold g_dec; rw [if_neg (by show ¬ s < s + 0; omega)]
  | c :: cs, f, s, hc, hf, ha => by
    have hc0 := hc c List.mem_cons_self
    have hcs : ∀ x, x ∈ cs → -10 ≤ x := fun x hx => hc x (List.mem_cons_of_mem _ hx)
    cases f with
    | zero => exact absurd hf (Nat.not_lt_zero _)
    | succ f =>
      by_cases e : 0 ≤ c
      · rw [g_el_pos e] at hf ⊢
        have ha2 : g_at t (139 + s) (1 :: c :: g_encs cs) := by
          have : g_encs (c :: cs) = 1 :: c :: g_encs cs := by show g_enc c ++ g_encs cs = _; unfold g_enc; rw [if_pos e]; rfl
          rw [← this]; exact ha
        obtain ⟨a1, a2, a3⟩ := ha2
        unfold g_dec
        rw [if_pos (by omega), if_pos a1, show (140 + s : Nat) = 139 + s + 1 by omega, a2, if_pos ⟨by omega, e⟩, show s + (2 + g_el cs) = (s + 2) + g_el cs by omega, g_dec_encs cs f (s + 2) hcs (by omega) (by rw [show 139 + (s + 2) = 139 + s + 1 + 1 by omega]; exact a3)]
      · rw [g_el_neg (by omega)] at hf ⊢
        have ha2 : g_at t (139 + s) ((1 - c) :: g_encs cs) := by
          have : g_encs (c :: cs) = (1 - c) :: g_encs cs := by show g_enc c ++ g_encs cs = _; unfold g_enc; rw [if_neg e]; rfl
          rw [← this]; exact ha
        obtain ⟨a1, a3⟩ := ha2
        unfold g_dec
        rw [if_pos (by omega), a1, if_neg (by omega), if_pos (by omega), show s + (1 + g_el cs) = (s + 1) + g_el cs by omega, g_dec_encs cs f (s + 1) hcs (by omega) (by rw [show 139 + (s + 1) = 139 + s + 1 by omega]; exact a3), show 1 - (1 - c) = c by omega]
/-- what is read back does not depend on other cells -/
theorem g_dec_ext {t t' : Nat → Int} {e : Nat} : ∀ (f s : Nat), (∀ i, s ≤ i → i < e → t' (139 + i) = t (139 + i)) → g_dec t' f s e = g_dec t f s e
  | 0, _, _ => rfl
  | f + 1, s, h => by
    unfold g_dec
    by_cases c : s < e
    · rw [if_pos c, if_pos c, h s (Nat.le_refl _) c]
      by_cases c1 : t (139 + s) = 1
      · rw [if_pos c1, if_pos c1, g_dec_ext f (s + 2) (fun i h1 h2 => h i (by omega) h2)]
        by_cases c2 : s + 1 < e
        · rw [show (140 + s : Nat) = 139 + (s + 1) by omega, h (s + 1) (by omega) c2]
        · rw [if_neg (fun x => c2 x.1), if_neg (fun x => c2 x.1)]
      · rw [if_neg c1, if_neg c1, g_dec_ext f (s + 1) (fun i h1 h2 => h i (by omega) h2)]
    · rw [if_neg c, if_neg c]
theorem g_lst_app : ∀ (cs : List Int) (C : Nat → Int) (k : Nat), g_lst (g_app C k cs) cs.length k = cs
  | [], _, _ => rfl
  | c :: cs, C, k => by
    show g_app (g_up C k c) (k + 1) cs k :: g_lst (g_app (g_up C k c) (k + 1) cs) cs.length (k + 1) = _
    rw [g_lst_app cs, g_app_lo _ _ _ _ (by omega), g_up_s]
