/-! months, account by account: each is left as its own run leaves it -/
theorem g_goes_closed {r : Nat → Int} {a : Nat} {nx : Int} (h : ¬ (r (1043 + 12 * a) = 0 ∨ r (1043 + 12 * a) = 1)) : g_goes r a nx = (0, r) := by
  unfold g_goes; rw [if_neg h]
theorem g_month_1 {r : Nat → Int} (hz : g_Zr r) (hv : g_VR r) : (g_month r).2 1 = r 1 := by
  have hm := hv.1.many
  have hm2 := hv.1.month
  have q3 := (g_accs_z (nx := r 2 + 1) (r 1).toNat 0 hz (by rw [show r 2 + 1 - 1 = r 2 by omega]; exact hv) (by omega) (by omega)).2.2.1
  rw [show (g_month r).2 = g_up (g_accs (r 2 + 1) (r 1).toNat 0 r).2 2 ((g_accs (r 2 + 1) (r 1).toNat 0 r).2 2 + 1) from rfl, g_up_n _ _ (by omega)]; exact q3
theorem g_month_2 {r : Nat → Int} (hz : g_Zr r) (hv : g_VR r) : (g_month r).2 2 = r 2 + 1 := by
  have hm := hv.1.many
  have hm2 := hv.1.month
  have q3 := (g_accs_z (nx := r 2 + 1) (r 1).toNat 0 hz (by rw [show r 2 + 1 - 1 = r 2 by omega]; exact hv) (by omega) (by omega)).2.2.2
  rw [show (g_month r).2 = g_up (g_accs (r 2 + 1) (r 1).toNat 0 r).2 2 ((g_accs (r 2 + 1) (r 1).toNat 0 r).2 2 + 1) from rfl, g_up_s, q3]
theorem g_months_closed {c : Nat} : ∀ (n : Nat) {r : Nat → Int}, g_Zr r → g_VR r → (c : Int) < r 1 → ¬ (r (1043 + 12 * c) = 0 ∨ r (1043 + 12 * c) = 1) → ∀ k, 1039 + 12 * c ≤ k → k ≤ 1050 + 12 * c → (g_months n r).2 k = r k
  | 0, _, _, _, _, _, _, _, _ => rfl
  | n + 1, r, hz, hv, hc, ho, k, k1, k2 => by
    rw [g_months_s]
    by_cases h2 : r 2 < 6000
    · rw [if_pos h2]
      have q := g_month_z hz hv h2
      have e := g_month_at hv hc
      rw [g_goes_closed ho] at e
      exact (g_months_closed n q.1 q.2 (by rw [g_month_1 hz hv]; exact hc) (by rw [e _ (by omega) (by omega)]; exact ho) k k1 k2).trans (e k k1 k2)
    · rw [if_neg h2]
/-- what a run from row s tells of months from row r: the account's cells, and whether it was handed over -/
def g_ag (r : Nat → Int) (c : Nat) (x : Int × (Nat → Int)) (y : Nat → Int) : Prop := (∀ k, 1039 + 12 * c ≤ k → k ≤ 1050 + 12 * c → x.2 k = y k) ∧ (x.1 ≠ -1 ↔ (r (1043 + 12 * c) = 0 ∨ r (1043 + 12 * c) = 1) ∧ y (1043 + 12 * c) = 2)
theorem g_run_at {c : Nat} {M N : Int} : ∀ (n k : Nat) {r s : Nat → Int}, g_Zr r → g_VR r → g_VM s 0 (r 2) → (c : Int) < r 1 → s 1 = r 1 → g_same r s → (∀ k, 1039 + 12 * c ≤ k → k ≤ 1050 + 12 * c → s k = r k) → M + k = r 2 + 1 → (n : Int) + k = N + 1 → 1 ≤ k → g_ag r c (g_run M N c n k s) (g_months n r).2
  | 0, k, r, s, _, _, _, _, _, _, hk, _, _, _ => by
    refine ⟨hk, ?_⟩
    show (-1 : Int) ≠ -1 ↔ _
    constructor
    · intro h; exact absurd rfl h
    · rintro ⟨h1, h2⟩
      have h2 : r (1043 + 12 * c) = 2 := h2
      omega
  | n + 1, k, r, s, hz, hv, hs, hc, h1, hsm, hk, hM, hN, hk1 => by
    have hm := hv.1.many
    have hm2 := hv.1.month
    rw [g_months_s, g_run_s]
    by_cases h2 : r 2 < 6000
    · rw [if_pos h2, if_pos ⟨by omega, by omega⟩, hM]
      have q := g_month_z hz hv h2
      have hA := hv.2.1 c hc
      have gi := g_goes_ind (nx := r 2 + 1) hv.1 (by omega) hA hsm hv.1.rows.1 hs.1.rows.1 hk
      have ga := g_month_at hv hc
      have g1 := g_month_1 hz hv
      have g2 := g_month_2 hz hv
      have hcell : ∀ k, 1039 + 12 * c ≤ k → k ≤ 1050 + 12 * c → (g_goes s c (r 2 + 1)).2 k = (g_month r).2 k := fun k k1 k2 => (gi.2 k k1 k2).trans (ga k k1 k2).symm
      have hst : s (1043 + 12 * c) = r (1043 + 12 * c) := hk _ (by omega) (by omega)
      have hone := hs.one (a := c) (by rw [h1]; exact hc) (by omega)
      have hs1 : (g_goes s c (r 2 + 1)).2 1 = s 1 := g_goes_n hs.1.rows.1 (by omega) (by omega) (by omega) (by omega) (by omega) (by omega)
      have hsm2 : g_same (g_month r).2 (g_goes s c (r 2 + 1)).2 := fun k q => (g_goes_same hs.1.rows.1 k q).trans ((hsm k q).trans (g_month_same hv k q).symm)
      by_cases ho : r (1043 + 12 * c) = 0 ∨ r (1043 + 12 * c) = 1
      · have hb := g_goes_book (r := s) (a := c) (nx := r 2 + 1) (by omega) hs.1.rows.1 (by rw [hst]; exact ho)
        rcases hb with ⟨b1, b2, -, -⟩ | ⟨b1, b2, -⟩
        · rw [if_neg (by rw [b1]; decide)]
          have ih := g_run_at n (k + 1) (M := M) (N := N) q.1 q.2 (s := (g_goes s c (r 2 + 1)).2) (by rw [g2]; exact hone) (by rw [g1]; exact hc) (by rw [hs1, g1]; exact h1) hsm2 hcell (by omega) (by omega) (by omega)
          refine ⟨ih.1, ih.2.trans ?_⟩
          have hop := g_goes_op (r := s) (a := c) (nx := r 2 + 1) (by rw [hst]; exact ho)
          rw [hcell _ (by omega) (by omega)] at hop b2
          constructor
          · rintro ⟨-, y⟩; exact ⟨ho, y⟩
          · rintro ⟨-, y⟩; exact ⟨by omega, y⟩
        · rw [if_pos b1]
          rw [hcell _ (by omega) (by omega)] at b2
          have hcl := g_months_closed (c := c) n q.1 q.2 (by rw [g1]; exact hc) (by omega)
          refine ⟨fun k k1 k2 => (hcell k k1 k2).trans (hcl k k1 k2).symm, ?_⟩
          constructor
          · intro _; exact ⟨ho, (hcl _ (by omega) (by omega)).trans b2⟩
          · intro _ e
            have e : (k : Int) = -1 := e
            omega
      · have hgc := g_goes_closed (r := s) (a := c) (nx := r 2 + 1) (by rw [hst]; exact ho)
        rw [hgc, if_neg (by decide : ¬ (0 : Int) = 1)]
        rw [hgc] at hcell hone hs1 hsm2
        have ih := g_run_at n (k + 1) (M := M) (N := N) q.1 q.2 (s := s) (by rw [g2]; exact hone) (by rw [g1]; exact hc) (by rw [g1]; exact h1) hsm2 hcell (by omega) (by omega) (by omega)
        refine ⟨ih.1, ih.2.trans ?_⟩
        have e3 : (g_month r).2 (1043 + 12 * c) = r (1043 + 12 * c) := (hcell _ (by omega) (by omega)).symm.trans hst
        rw [e3]
    · rw [if_neg h2, if_neg (by omega)]
      refine ⟨hk, ?_⟩
      constructor
      · intro h; exact absurd rfl h
      · rintro ⟨y1, y2⟩
        have y2 : r (1043 + 12 * c) = 2 := y2
        omega
/-! .. and what is handed over is what the accounts' own runs hand over -/
def g_hc (l : Int) (r x : Nat → Int) (c : Nat) : Int := if (r (1043 + 12 * c) = 0 ∨ r (1043 + 12 * c) = 1) ∧ x (1043 + 12 * c) = 2 ∧ (l = -1 ∨ x (1047 + 12 * c) = l) then x (1042 + 12 * c) else 0
def g_D (l : Int) (r x : Nat → Int) : Prop := x 1 = r 1 ∧ r 6 ≤ x 6 ∧ (∀ k, 1183 ≤ k → k < 1183 + 5 * (r 6).toNat → x k = r k) ∧
  (∀ c : Nat, (c : Int) < r 1 → (¬ (r (1043 + 12 * c) = 0 ∨ r (1043 + 12 * c) = 1) → ∀ k, 1039 + 12 * c ≤ k → k ≤ 1050 + 12 * c → x k = r k) ∧ ((r (1043 + 12 * c) = 0 ∨ r (1043 + 12 * c) = 1) → x (1043 + 12 * c) = 0 ∨ x (1043 + 12 * c) = 1 ∨ x (1043 + 12 * c) = 2)) ∧
  g_sum (fun j => g_aheadC x l ((r 6).toNat + j)) ((x 6).toNat - (r 6).toNat) = g_sum (g_hc l r x) (r 1).toNat
theorem g_sum_0 {f : Nat → Int} : ∀ n : Nat, (∀ i : Nat, i < n → f i = 0) → g_sum f n = 0
  | 0, _ => rfl
  | n + 1, h => by rw [g_sum_s, g_sum_0 n (fun i hi => h i (by omega)), h n (by omega)]; rfl
theorem g_sum_add (f g : Nat → Int) : ∀ n : Nat, g_sum (fun i => f i + g i) n = g_sum f n + g_sum g n
  | 0 => rfl
  | n + 1 => by rw [g_sum_s, g_sum_s, g_sum_s, g_sum_add f g n]; omega
theorem g_sum_app (f : Nat → Int) (a : Nat) : ∀ b : Nat, g_sum f (a + b) = g_sum f a + g_sum (fun j => f (a + j)) b
  | 0 => by rw [Nat.add_zero]; exact (Int.add_zero _).symm
  | b + 1 => by rw [← Nat.add_assoc, g_sum_s, g_sum_s, g_sum_app f a b]; omega
theorem g_D.rf (l : Int) (r : Nat → Int) : g_D l r r := by
  refine ⟨rfl, Int.le_refl _, fun _ _ _ => rfl, fun c _ => ⟨fun _ _ _ _ => rfl, fun h => by omega⟩, ?_⟩
  rw [Nat.sub_self]
  refine (g_sum_0 _ (fun i _ => ?_)).symm
  unfold g_hc
  rw [if_neg (by omega)]
theorem g_D.tr {l : Int} {r x y : Nat → Int} (h6 : 0 ≤ r 6) (h : g_D l r x) (h' : g_D l x y) : g_D l r y := by
  obtain ⟨a1, a2, a3, a4, a5⟩ := h
  obtain ⟨b1, b2, b3, b4, b5⟩ := h'
  refine ⟨b1.trans a1, by omega, fun k k1 k2 => (b3 k k1 (by omega)).trans (a3 k k1 k2), fun c hc => ⟨fun ho k k1 k2 => ?_, fun ho => ?_⟩, ?_⟩
  · have q := (a4 c hc).1 ho
    rw [(b4 c (by rw [a1]; exact hc)).1 (by rw [q _ (by omega) (by omega)]; exact ho) k k1 k2]; exact q k k1 k2
  · have q := (a4 c hc).2 ho
    rcases q with q | q | q
    · exact (b4 c (by rw [a1]; exact hc)).2 (Or.inl q)
    · exact (b4 c (by rw [a1]; exact hc)).2 (Or.inr q)
    · rw [(b4 c (by rw [a1]; exact hc)).1 (by omega) _ (by omega) (by omega)]; exact Or.inr (Or.inr q)
  · rw [show (y 6).toNat - (r 6).toNat = ((x 6).toNat - (r 6).toNat) + ((y 6).toNat - (x 6).toNat) by omega, g_sum_app]
    rw [a1] at b5
    have e1 : g_sum (fun j => g_aheadC y l ((r 6).toNat + j)) ((x 6).toNat - (r 6).toNat) = g_sum (fun j => g_aheadC x l ((r 6).toNat + j)) ((x 6).toNat - (r 6).toNat) := g_sum_ext _ (fun j hj => by
      unfold g_aheadC
      rw [b3 (1185 + 5 * ((r 6).toNat + j)) (by omega) (by omega), b3 (1186 + 5 * ((r 6).toNat + j)) (by omega) (by omega)])
    have e2 : g_sum (fun j => g_aheadC y l ((r 6).toNat + ((x 6).toNat - (r 6).toNat + j))) ((y 6).toNat - (x 6).toNat) = g_sum (fun j => g_aheadC y l ((x 6).toNat + j)) ((y 6).toNat - (x 6).toNat) := g_sum_ext _ (fun j hj => by
      rw [show (r 6).toNat + ((x 6).toNat - (r 6).toNat + j) = (x 6).toNat + j by omega])
    rw [e1, e2, a5, b5, ← g_sum_add]
    refine g_sum_ext _ (fun c hc => ?_)
    have A := a4 c (by omega)
    have B := b4 c (by rw [a1]; omega)
    unfold g_hc
    by_cases ho : r (1043 + 12 * c) = 0 ∨ r (1043 + 12 * c) = 1
    · have q := A.2 ho
      by_cases hx : x (1043 + 12 * c) = 2
      · have q2 := B.1 (by omega)
        rw [q2 (1043 + 12 * c) (by omega) (by omega), q2 (1047 + 12 * c) (by omega) (by omega), q2 (1042 + 12 * c) (by omega) (by omega), if_neg (c := (x (1043 + 12 * c) = 0 ∨ x (1043 + 12 * c) = 1) ∧ _) (by omega), Int.add_zero]
      · have hx2 : x (1043 + 12 * c) = 0 ∨ x (1043 + 12 * c) = 1 := by omega
        rw [if_neg (c := (r (1043 + 12 * c) = 0 ∨ r (1043 + 12 * c) = 1) ∧ x (1043 + 12 * c) = 2 ∧ _) (fun e => hx e.2.1), Int.zero_add]
        by_cases c1 : y (1043 + 12 * c) = 2 ∧ (l = -1 ∨ y (1047 + 12 * c) = l)
        · rw [if_pos ⟨hx2, c1⟩, if_pos ⟨ho, c1⟩]
        · rw [if_neg (fun e => c1 e.2), if_neg (fun e => c1 e.2)]
    · have q := A.1 ho (1043 + 12 * c) (by omega) (by omega)
      rw [if_neg (fun e => ho e.1), if_neg (fun e => by rw [q] at e; exact ho e.1), if_neg (fun e => ho e.1)]
      rfl
theorem g_D.goes {l : Int} {r : Nat → Int} {a : Nat} {nx : Int} (ha : (a : Int) < r 1) (h12 : r 1 ≤ 12) (h6 : 0 ≤ r 6) : g_D l r (g_goes r a nx).2 := by
  by_cases ho : r (1043 + 12 * a) = 0 ∨ r (1043 + 12 * a) = 1
  · have e1 := g_goes_n (r := r) (a := a) (k := 1) (nx := nx) h6 (by omega) (by omega) (by omega) (by omega) (by omega) (by omega)
    have hop := g_goes_op (r := r) (a := a) (nx := nx) ho
    have en : ∀ c : Nat, (c : Int) < r 1 → c ≠ a → ∀ k, 1039 + 12 * c ≤ k → k ≤ 1050 + 12 * c → (g_goes r a nx).2 k = r k := fun c hc hn k k1 k2 => g_goes_n h6 (by omega) (by omega) (by omega) (by omega) (by omega) (by omega)
    have hcl : ∀ c : Nat, (c : Int) < r 1 → (¬ (r (1043 + 12 * c) = 0 ∨ r (1043 + 12 * c) = 1) → ∀ k, 1039 + 12 * c ≤ k → k ≤ 1050 + 12 * c → (g_goes r a nx).2 k = r k) ∧ ((r (1043 + 12 * c) = 0 ∨ r (1043 + 12 * c) = 1) → (g_goes r a nx).2 (1043 + 12 * c) = 0 ∨ (g_goes r a nx).2 (1043 + 12 * c) = 1 ∨ (g_goes r a nx).2 (1043 + 12 * c) = 2) := fun c hc => by
      by_cases e : c = a
      · subst e; exact ⟨fun q => absurd ho q, fun _ => hop⟩
      · refine ⟨fun _ => en c hc e, fun q => ?_⟩
        rw [en c hc e _ (by omega) (by omega)]; omega
    have hz : ∀ c : Nat, c < (r 1).toNat → c ≠ a → g_hc l r (g_goes r a nx).2 c = 0 := fun c hc e => by
      unfold g_hc
      rw [en c (by omega) e (1043 + 12 * c) (by omega) (by omega), if_neg (by omega)]
    rcases g_goes_book (r := r) (a := a) (nx := nx) (by omega) h6 ho with ⟨b1, b2, b3, b4⟩ | ⟨b1, b2, b3, b4, b5, b6, b7, b8, b9, b10⟩
    · refine ⟨e1, by omega, fun k k1 _ => b4 k k1, hcl, ?_⟩
      rw [b3, Nat.sub_self]
      refine (g_sum_0 _ (fun c hc => ?_)).symm
      by_cases e : c = a
      · subst e; unfold g_hc; rw [if_neg (fun q => b2 q.2.1)]
      · exact hz c hc e
    · refine ⟨e1, by omega, fun k k1 k2 => b4 k k1 k2, hcl, ?_⟩
      rw [b3, show (r 6 + 1).toNat - (r 6).toNat = 0 + 1 by omega, g_sum_s, show g_sum (fun j => g_aheadC (g_goes r a nx).2 l ((r 6).toNat + j)) 0 = 0 from rfl,
        g_sum_up (f := fun _ => 0) (g := g_hc l r (g_goes r a nx).2) (a := a) (d := g_hc l r (g_goes r a nx).2 a) (by rw [Int.zero_add]) _ (by omega) (fun c hc e => hz c hc e), g_sum_0 (f := fun _ => 0) _ (fun _ _ => rfl)]
      congr 1
      unfold g_aheadC g_hc
      rw [show (r 6).toNat + 0 = (r 6).toNat from rfl, b7, b8]
      by_cases c1 : l = -1 ∨ (g_goes r a nx).2 (1047 + 12 * a) = l
      · rw [if_pos c1, if_pos ⟨ho, b2, c1⟩]
      · rw [if_neg c1, if_neg (fun e => c1 e.2.2)]
  · rw [g_goes_closed ho]; exact g_D.rf l r
theorem g_D.up2 {l : Int} {r x : Nat → Int} {v : Int} (h : g_D l r x) : g_D l r (g_up x 2 v) := by
  obtain ⟨a1, a2, a3, a4, a5⟩ := h
  have e1 : g_up x 2 v 1 = x 1 := g_up_n _ _ (by omega)
  have e6 : g_up x 2 v 6 = x 6 := g_up_n _ _ (by omega)
  refine ⟨by rw [e1]; exact a1, by rw [e6]; exact a2, fun k k1 k2 => by rw [g_up_n _ _ (by omega)]; exact a3 k k1 k2, fun c hc => ⟨fun ho k k1 k2 => by rw [g_up_n _ _ (by omega)]; exact (a4 c hc).1 ho k k1 k2, fun ho => by rw [g_up_n _ _ (by omega)]; exact (a4 c hc).2 ho⟩, ?_⟩
  rw [e6]
  have q1 : g_sum (fun j => g_aheadC (g_up x 2 v) l ((r 6).toNat + j)) ((x 6).toNat - (r 6).toNat) = g_sum (fun j => g_aheadC x l ((r 6).toNat + j)) ((x 6).toNat - (r 6).toNat) := g_sum_ext _ (fun j hj => by
    unfold g_aheadC
    rw [g_up_n _ _ (by omega), g_up_n _ _ (by omega)])
  have q2 : g_sum (g_hc l r (g_up x 2 v)) (r 1).toNat = g_sum (g_hc l r x) (r 1).toNat := g_sum_ext _ (fun c hc => by
    unfold g_hc
    rw [g_up_n _ _ (by omega), g_up_n _ _ (by omega), g_up_n _ _ (by omega)])
  rw [q1, q2]; exact a5
theorem g_accs_D {l nx : Int} : ∀ (n a : Nat) {r : Nat → Int}, g_VM r a (nx - 1) → 1 ≤ nx → (a + n : Nat) = r 1 → g_D l r (g_accs nx n a r).2
  | 0, _, r, _, _, _ => g_D.rf l r
  | n + 1, a, r, hv, hn, he => by
    have hm := hv.1.many
    have hr := hv.1.rows
    have e1 := g_goes_n (r := r) (a := a) (k := 1) (nx := nx) hr.1 (by omega) (by omega) (by omega) (by omega) (by omega) (by omega)
    have h1 := hv.goes (a := a) (by omega) (by omega)
    rw [show nx - 1 + 1 = nx by omega] at h1
    rw [g_accs_s]
    exact (g_D.goes (nx := nx) (by omega) hm.2 hr.1).tr hr.1 (g_accs_D n (a + 1) h1 hn (by rw [e1]; omega))
theorem g_month_D {l : Int} {r : Nat → Int} (hv : g_VR r) : g_D l r (g_month r).2 := by
  have hm := hv.1.many
  have hm2 := hv.1.month
  have q := g_accs_D (l := l) (nx := r 2 + 1) (r 1).toNat 0 (by rw [show r 2 + 1 - 1 = r 2 by omega]; exact hv) (by omega) (by omega)
  rw [show (g_month r).2 = g_up (g_accs (r 2 + 1) (r 1).toNat 0 r).2 2 ((g_accs (r 2 + 1) (r 1).toNat 0 r).2 2 + 1) from rfl]
  exact q.up2
theorem g_months_D {l : Int} : ∀ (n : Nat) {r : Nat → Int}, g_Zr r → g_VR r → g_D l r (g_months n r).2
  | 0, r, _, _ => g_D.rf l r
  | n + 1, r, hz, hv => by
    rw [g_months_s]
    by_cases h2 : r 2 < 6000
    · rw [if_pos h2]
      have q := g_month_z hz hv h2
      exact (g_month_D hv).tr hv.1.rows.1 (g_months_D n q.1 q.2)
    · rw [if_neg h2]; exact g_D.rf l r
/-- what one account's run hands over to land l -/
def g_rh (r : Nat → Int) (l : Int) (n c : Nat) : Int := if (g_run (r 2) (n : Int) c n 1 r).1 ≠ -1 ∧ (l = -1 ∨ (g_run (r 2) (n : Int) c n 1 r).2 (1047 + 12 * c) = l) then (g_run (r 2) (n : Int) c n 1 r).2 (1042 + 12 * c) else 0
theorem g_run_months {r : Nat → Int} (hz : g_Zr r) (hv : g_VR r) {c : Nat} (hc : (c : Int) < r 1) (n : Nat) : g_ag r c (g_run (r 2) (n : Int) c n 1 r) (g_months n r).2 :=
  g_run_at n 1 hz hv hv hc rfl (g_same.rf r) (fun _ _ _ => rfl) (by omega) (by omega) (by omega)
theorem g_ahead_sum {r : Nat → Int} (hz : g_Zr r) (hv : g_VR r) (l : Int) (n : Nat) : g_ahead r l n = g_sum (g_rh r l n) (r 1).toNat := by
  have hD := (g_months_D (l := l) n hz hv).2.2.2.2
  unfold g_ahead
  rw [hD]
  refine g_sum_ext _ (fun c hc => ?_)
  have q := g_run_months hz hv (c := c) (by omega) n
  unfold g_hc g_rh
  rw [q.1 (1047 + 12 * c) (by omega) (by omega), q.1 (1042 + 12 * c) (by omega) (by omega)]
  by_cases c1 : (g_run (r 2) (n : Int) c n 1 r).1 ≠ -1 ∧ (l = -1 ∨ (g_months n r).2 (1047 + 12 * c) = l)
  · rw [if_pos c1, if_pos ⟨(q.2.mp c1.1).1, (q.2.mp c1.1).2, c1.2⟩]
  · rw [if_neg c1, if_neg (fun e => c1 ⟨q.2.mpr ⟨e.1, e.2.1⟩, e.2.2⟩)]
theorem g_letters_sum {r : Nat → Int} (hz : g_Zr r) (hv : g_VR r) (hs : g_SL r) (n : Nat) : (g_months n r).2 7 - r 7 = g_sum (fun c => (g_run (r 2) (n : Int) c n 1 r).2 (1046 + 12 * c) - r (1046 + 12 * c)) (r 1).toNat := by
  have q := g_months_SL n hs hz hv
  unfold g_SL at q hs
  rw [g_months_hd n hz hv] at q
  rw [q, hs]
  have e : g_sum (fun c => (g_run (r 2) (n : Int) c n 1 r).2 (1046 + 12 * c) - r (1046 + 12 * c)) (r 1).toNat + g_sum (fun i => r (1046 + 12 * i)) (r 1).toNat = g_sum (fun i => (g_months n r).2 (1046 + 12 * i)) (r 1).toNat := by
    rw [← g_sum_add]
    refine g_sum_ext _ (fun c hc => ?_)
    have q := (g_run_months hz hv (c := c) (by omega) n).1 (1046 + 12 * c) (by omega) (by omega)
    omega
  omega
