/-! the class: what a text told, all lines read -/
section
variable {M : q_I} {u : Nat}
theorem q_tld_1 : q_tld M u u 1 = M u 1 := by
  unfold q_tld q_pd; rw [if_neg (by omega)]; split <;> simp [q_tl2, q_tl1, u2]
theorem q_tld_3 : q_tld M u u 3 = if M u 3 = -1 then 3 else M u 3 := by
  unfold q_tld q_pd; rw [if_neg (by omega)]; by_cases c : M u 7 = 0 <;> simp [c, q_tl2, q_tl1, u2]
theorem q_tld_4 : q_tld M u u 4 = if M u 4 = -1 then 0 else M u 4 := by
  unfold q_tld q_pd; rw [if_neg (by omega)]; by_cases c : M u 7 = 0 <;> simp [c, q_tl2, q_tl1, u2]
theorem q_tld_5 : q_tld M u u 5 = if M u 5 = -1 ∧ 0 < M u 1 then 0 else M u 5 := by
  unfold q_tld q_pd; rw [if_neg (by omega)]; by_cases c : M u 7 = 0 <;> simp [c, q_tl2, q_tl1, u2]
theorem q_tld_7 : q_tld M u u 7 = if M u 7 = 0 then 3 else M u 7 := by
  unfold q_tld q_pd; rw [if_neg (by omega)]; by_cases c : M u 7 = 0 <;> simp [c, q_tl2, q_tl1, u2]
theorem q_tld_11 : q_tld M u u 11 = M u 11 := by
  unfold q_tld q_pd; rw [if_neg (by omega)]; by_cases c : M u 7 = 0 <;> simp [c, q_tl2, q_tl1, u2]
theorem q_tld_hi {q k : Nat} (h : u + 4 ≤ q) : q_tld M u q k = M q k := by
  unfold q_tld q_pd; rw [if_neg (by omega)]
  split
  · unfold q_tl2 q_tl1
    rw [u2_a _ _ (by omega), u2_a _ _ (by omega), u2_a _ _ (by omega), u2_a _ _ (by omega), u2_a _ _ (by omega), u2_a _ _ (by omega), u2_a _ _ (by omega), u2_a _ _ (by omega), u2_a _ _ (by omega)]
  · unfold q_tl1
    rw [u2_a _ _ (by omega), u2_a _ _ (by omega), u2_a _ _ (by omega)]
theorem q_tld_p {k : Nat} (hk : k < 5) : q_tld M u (u + 2) k = if M (u + 2) k = -1 then 0 else M (u + 2) k := by
  have e : (if M u 7 = 0 then q_tl2 M u else q_tl1 M u) (u + 2) k = M (u + 2) k := by
    split
    · unfold q_tl2 q_tl1
      rw [u2_a _ _ (by omega), u2_a _ _ (by omega), u2_a _ _ (by omega), u2_a _ _ (by omega), u2_a _ _ (by omega), u2_a _ _ (by omega), u2_a _ _ (by omega), u2_a _ _ (by omega), u2_a _ _ (by omega)]
    · unfold q_tl1
      rw [u2_a _ _ (by omega), u2_a _ _ (by omega), u2_a _ _ (by omega)]
  unfold q_tld q_pd
  rw [e]
  by_cases c : M (u + 2) k = -1
  · rw [if_pos ⟨rfl, hk, c⟩, if_pos c]
  · rw [if_neg (fun x => c x.2.2), if_neg c]
theorem q_tld_o {k : Nat} (hk : k < 3) : q_tld M u (u + 3) k = if M u 7 = 0 then (k : Int) else M (u + 3) k := by
  unfold q_tld q_pd; rw [if_neg (by omega)]
  by_cases c : M u 7 = 0
  · rw [if_pos c, if_pos c]
    rcases (show k = 0 ∨ k = 1 ∨ k = 2 by omega) with rfl | rfl | rfl <;> simp [q_tl2, q_tl1, u2]
  · rw [if_neg c, if_neg c]
    unfold q_tl1
    rw [u2_a _ _ (by omega), u2_a _ _ (by omega), u2_a _ _ (by omega)]
end
theorem q_LL.rr {I : q_I} {C t : Nat → Int} {a u j kk : Nat} {nu fl pl : Int} {s : g_PS} (h : q_LL I C u t kk s) (ha : a < u) (hkk : kk ≤ 600) (hcd : s.cd ≤ 900) (h0 : t 0 ≠ 0) : q_RR (q_tld (q_xs I a u j nu fl pl kk C) u) u (g_zap t) ∧ g_V0 (g_zap t) ∧ g_fresh (g_zap t) ∧ g_Zr (g_zap t) := by
  obtain ⟨h1, ⟨hon, b0, b1, b2, b3⟩, h3, h4, h5⟩ := h
  obtain ⟨d1, d2, d3⟩ := h1
  have z : ∀ k, k < 1243 → g_zap t k = t k := fun k hk => if_pos hk
  have eu : ∀ k, k ≠ 11 → q_xs I a u j nu fl pl kk C u k = I u k := fun k hk => q_xs_u ha hk
  have en : ∀ q k, u < q → q ≠ u + 6 → q_xs I a u j nu fl pl kk C q k = I q k := fun q k h1 h2 => q_xs_n (by omega)
  have hdec : ∀ q : Nat, q < 25 → 0 < t (90 + 2 * q) → g_dec (g_zap t) 901 (t (89 + 2 * q)).toNat (t (90 + 2 * q)).toNat = g_dec t 901 (t (89 + 2 * q)).toNat (t (90 + 2 * q)).toNat := fun q hq hp => by
    have := ((h4 q hq).2 hp).1
    exact g_dec_ext _ _ (fun i h1 h2 => z _ (by omega))
  refine ⟨⟨?_, ?_, ?_, ?_, ?_, ?_, ?_, ?_, ?_, ?_, ?_, ?_⟩, ?_, ?_, ?_⟩
  · rw [q_tld_1, eu _ (by decide), z _ (by decide)]; exact d1
  · rw [q_tld_3, eu _ (by decide), z _ (by decide)]; rcases b0 with b | b
    · rw [if_neg (by omega)]; exact b.2.1
    · rw [if_pos b.2.1]; exact b.2.2.symm
  · rw [q_tld_4, eu _ (by decide), z _ (by decide)]; rcases b1 with b | b
    · rw [if_neg (by omega)]; exact b.2.1
    · rw [if_pos b.2.1]; exact b.2.2.symm
  · rw [q_tld_5, eu _ (by decide), eu _ (by decide), z _ (by decide)]; rcases b2 with b | b
    · rw [if_neg (by omega)]; exact b.2.1
    · rw [if_pos ⟨b.2.1, by omega⟩]; exact b.2.2.symm
  · rw [q_tld_7, eu _ (by decide), z _ (by decide)]; rcases b3 with b | b
    · rw [if_neg (by have := b.2.1; have := b.2.2.1; omega)]; exact b.2.1
    · rw [if_pos b.2.1]; exact b.2.2.1.symm
  · intro k hk
    rw [q_tld_p hk, en _ _ (by omega) (by omega), z _ (by omega)]
    rcases h3.2 k hk with b | b
    · rw [if_neg (by omega)]; exact b.2.1
    · rw [if_pos b.2.1]; exact b.2.2.symm
  · intro k hk
    rw [z 8 (by decide)] at hk
    rcases b3 with b | b
    · have := b.2.2.1
      rw [q_tld_o (by omega), eu _ (by decide), en _ _ (by omega) (by omega), z _ (by omega), if_neg (by have := b.2.1; omega)]
      exact b.2.2.2.2 k hk
    · have := b.2.2
      rw [q_tld_o (by omega), eu _ (by decide), z _ (by omega), if_pos b.2.1]
      rcases (show k = 0 ∨ k = 1 ∨ k = 2 by omega) with rfl | rfl | rfl
      · exact this.2.1.symm
      · exact this.2.2.1.symm
      · exact this.2.2.2.symm
  · intro l hl
    rw [z 0 (by decide)] at hl
    rw [q_tld_hi (by omega), q_tld_hi (by omega), q_tld_hi (by omega), q_tld_hi (by omega), q_tld_hi (by omega), en _ _ (by omega) (by omega), en _ _ (by omega) (by omega), en _ _ (by omega) (by omega), en _ _ (by omega) (by omega), en _ _ (by omega) (by omega), z _ (by omega), z _ (by omega), z _ (by omega), z _ (by omega), z _ (by omega)]
    exact (d3 l hl).1
  · intro l k hl hk
    rw [z 0 (by decide)] at hl
    rw [z _ (by omega)] at hk
    have q := (d3 l hl).2.1.2.2.2.2
    rw [q_tld_hi (by omega), en _ _ (by omega) (by omega), z _ (by omega)]
    exact ((d3 l hl).2.2 k hk).1
  · intro q hq hp
    rw [z _ (by omega)] at hp
    rw [q_tld_hi (by omega), en _ _ (by omega) (by omega)]
    exact ((h4 q hq).1 hp).2
  · intro q hq hp
    rw [z _ (by omega)] at hp
    obtain ⟨-, -, s9, e9, cs, c1, c2, c3, c4, c5, c6, c7, c8⟩ := (h4 q hq).2 hp
    rw [z _ (by omega), z _ (by omega), hdec q hq hp]
    refine ⟨s9, e9, ?_, ?_, c3, by omega, ?_, by rw [c6]; exact c8⟩
    · rw [q_tld_hi (by omega), en _ _ (by omega) (by omega)]; exact c1
    · rw [q_tld_hi (by omega), en _ _ (by omega) (by omega)]; exact c2
    · rw [c6, ← c5]
      exact g_lst_ext _ _ (fun i _ _ => (q_tld_hi (by omega)).trans (q_xs_C ha))
  · rw [q_tld_11, q_xs_11 ha]
    refine ⟨by omega, by omega, fun q hq hp => ?_⟩
    rw [z _ (by omega)] at hp
    obtain ⟨-, -, s9, e9, cs, c1, c2, c3, c4, -⟩ := (h4 q hq).2 hp
    rw [q_tld_hi (by omega), en _ _ (by omega) (by omega), c2]; omega
  · obtain ⟨f1, f2, f6, f7, f17, f35⟩ := h5
    refine ⟨?_, ?_, ?_, ?_, ?_, ?_, ?_, ?_, fun k hk => ?_, fun k hk => ?_, fun l hl => ?_, fun q hq => ?_, fun q hq hp => ?_⟩
    · rw [z _ (by decide)]; exact d2
    · rw [z _ (by decide), f1]; decide
    · rw [z _ (by decide), f2]; decide
    · rw [z _ (by decide)]; rcases b0 with b | b <;> omega
    · rw [z _ (by decide)]; rcases b1 with b | b <;> omega
    · rw [z _ (by decide), z _ (by decide)]; rcases b2 with b | b <;> omega
    · rw [z _ (by decide), f6]; decide
    · rw [z _ (by decide)]; rcases b3 with b | b
      · have := b.2.2.1; omega
      · have := b.2.2.1; omega
    · rw [z _ (by omega)]; rcases b3 with b | b
      · exact b.2.2.2.1 k hk
      · have := b.2.2
        rcases (show k = 0 ∨ k = 1 ∨ k = 2 by omega) with rfl | rfl | rfl
        · show 0 ≤ t 9 ∧ t 9 ≤ 2; omega
        · show 0 ≤ t 10 ∧ t 10 ≤ 2; omega
        · show 0 ≤ t 11 ∧ t 11 ≤ 2; omega
    · rw [z _ (by omega)]; rcases h3.2 k hk with b | b <;> omega
    · rw [z 0 (by decide)] at hl
      rw [z _ (by omega), z _ (by omega), z _ (by omega), z _ (by omega), z _ (by omega)]
      exact (d3 l hl).2.1
    · rw [z _ (by omega)]
      by_cases c : 0 < t (90 + 2 * q)
      · have := ((h4 q hq).2 c).1; omega
      · have := ((h4 q hq).1 c).1; omega
    · rw [z _ (by omega)] at hp
      obtain ⟨x1, x2, s9, e9, cs, c1, c2, c3, c4, c5, c6, c7, c8⟩ := (h4 q hq).2 hp
      rw [z _ (by omega), z _ (by omega), z _ (by decide), hdec q hq hp, c6]
      exact ⟨⟨x1.1, x1.2.1⟩, x2, c7⟩
  · exact h5.tr (fun x hx => z _ (by omega)) (fun l hl => ⟨z _ (by omega), z _ (by omega)⟩)
  · intro k hk; exact if_neg (by omega)
/-- the draft as it is cleared -/
theorem q_clr_fl {I : q_I} {q n : Nat} {v : Int} {q2 k : Nat} (h : q2 ≠ q) : q_fl I q n v q2 k = I q2 k := by
  unfold q_fl; rw [if_neg (fun x => h x.1)]
theorem q_LL_0 {I : q_I} {C : Nat → Int} {u : Nat} {o : Int} (h1 : I u 1 = 0) (h3 : I u 3 = -1) (h4 : I u 4 = -1) (h5 : I u 5 = -1) (h7 : I u 7 = 0) (hp : ∀ k, k < 5 → I (u + 2) k = -1) (hl : ∀ k, k < 25 → I (u + 4) k = -1) : q_LL I C u g_begin 0 (g_mk 0 0 (-1) 0 o 0 0) := by
  have hb : ∀ k, k ≠ 3 → k ≠ 8 → k ≠ 9 → k ≠ 10 → k ≠ 11 → g_begin k = 0 := fun k a b c d e => by
    unfold g_begin
    rw [g_up_n _ _ e, g_up_n _ _ d, g_up_n _ _ c, g_up_n _ _ b, g_up_n _ _ a]
  have n0 : ¬ g_bq 0 0 := g_bq_0 0 (by decide)
  have n1 : ¬ g_bq 0 1 := g_bq_0 1 (by decide)
  have n2 : ¬ g_bq 0 2 := g_bq_0 2 (by decide)
  have n3 : ¬ g_bq 0 3 := g_bq_0 3 (by decide)
  have e0 : g_begin 0 = 0 := hb 0 (by decide) (by decide) (by decide) (by decide) (by decide)
  refine ⟨⟨by rw [h1, e0], by omega, fun l hl => by omega⟩, ⟨(show (0 : Int) ≤ 0 ∧ (0 : Int) < 16 by decide), Or.inr ⟨n0, h3, by decide⟩, Or.inr ⟨n1, h4, by decide⟩, Or.inr ⟨n2, h5, by decide⟩, Or.inr ⟨n3, h7, by decide, by decide, by decide, by decide⟩⟩, ⟨(show (0 : Int) ≤ 0 ∧ (0 : Int) < 32 by decide), fun k hk => Or.inr ⟨g_bq_0 k hk, hp k hk, hb _ (by omega) (by omega) (by omega) (by omega) (by omega)⟩⟩, fun q hq => ?_, ?_⟩
  · have e := hb (90 + 2 * q) (by omega) (by omega) (by omega) (by omega) (by omega)
    exact ⟨fun _ => ⟨e, hl q hq⟩, fun h => by omega⟩
  · exact ⟨hb _ (by decide) (by decide) (by decide) (by decide) (by decide), hb _ (by decide) (by decide) (by decide) (by decide) (by decide), hb _ (by decide) (by decide) (by decide) (by decide) (by decide), hb _ (by decide) (by decide) (by decide) (by decide) (by decide), fun k a b => hb _ (by omega) (by omega) (by omega) (by omega) (by omega), fun l hl => ⟨hb _ (by omega) (by omega) (by omega) (by omega) (by omega), hb _ (by omega) (by omega) (by omega) (by omega) (by omega)⟩⟩
/-- a row only just told stands -/
theorem g_fresh_VR {r : Nat → Int} (hv : g_V0 r) (hf : g_fresh r) : g_VR r ∧ g_RW r ∧ g_SL r := by
  have h1 := hf.1
  have h6 := hf.2.2.1
  have h7 := hf.2.2.2.1
  refine ⟨⟨hv, fun i hi => by omega, by rw [h6, h1]; rfl⟩, fun k hk => by omega, ?_⟩
  show r 7 = g_sum (fun i => r (1046 + 12 * i)) (r 1).toNat
  rw [h7, h1]; rfl
