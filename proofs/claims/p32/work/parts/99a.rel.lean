/-! the class's draft against the reference's row, as a text is read -/
/-- bit b is set -/
abbrev g_bq (x b : Int) : Prop := g_and (g_shr x b) 1 = 1
theorem g_bq_a1 : ∀ x : Nat, x < 32 → ∀ b : Nat, b < 5 → 0 ≤ g_or (x : Int) (g_shl 1 (b : Int)) ∧ g_or (x : Int) (g_shl 1 (b : Int)) < 32 := by decide +kernel
theorem g_bq_a2 : ∀ x : Nat, x < 16 → ∀ b : Nat, b < 4 → g_or (x : Int) (g_shl 1 (b : Int)) < 16 := by decide +kernel
theorem g_bq_a3 : ∀ x : Nat, x < 32 → ∀ b : Nat, b < 5 → ∀ b' : Nat, b' < 5 → decide (g_bq (g_or (x : Int) (g_shl 1 (b : Int))) (b' : Int)) = decide (b' = b ∨ g_bq (x : Int) (b' : Int)) := by decide +kernel
theorem g_bq_all (x : Nat) (hx : x < 32) (b : Nat) (hb : b < 5) : (0 ≤ g_or (x : Int) (g_shl 1 (b : Int)) ∧ g_or (x : Int) (g_shl 1 (b : Int)) < 32) ∧ (b < 4 → x < 16 → g_or (x : Int) (g_shl 1 (b : Int)) < 16) ∧ ∀ b' : Nat, b' < 5 → (g_bq (g_or (x : Int) (g_shl 1 (b : Int))) (b' : Int) ↔ b' = b ∨ g_bq (x : Int) (b' : Int)) :=
  ⟨g_bq_a1 x hx b hb, fun h1 h2 => g_bq_a2 x h2 b h1, fun b' h => decide_eq_decide.mp (g_bq_a3 x hx b hb b' h)⟩
theorem g_bq_0 : ∀ b : Nat, b < 5 → ¬ g_bq 0 (b : Int) := by decide +kernel
theorem g_bq_or {x : Int} (hx : 0 ≤ x ∧ x < 32) {b b' : Nat} (hb : b < 5) (hb' : b' < 5) : g_bq (g_or x (g_shl 1 (b : Int))) (b' : Int) ↔ b' = b ∨ g_bq x (b' : Int) := by
  obtain ⟨n, rfl⟩ : ∃ n : Nat, x = (n : Int) := ⟨x.toNat, by omega⟩
  exact (g_bq_all n (by omega) b hb).2.2 b' hb'
theorem g_bq_r {x : Int} (hx : 0 ≤ x ∧ x < 32) {b : Nat} (hb : b < 5) : 0 ≤ g_or x (g_shl 1 (b : Int)) ∧ g_or x (g_shl 1 (b : Int)) < 32 := by
  obtain ⟨n, rfl⟩ : ∃ n : Nat, x = (n : Int) := ⟨x.toNat, by omega⟩
  exact (g_bq_all n (by omega) b hb).1
theorem g_bq_r4 {x : Int} (hx : 0 ≤ x ∧ x < 16) {b : Nat} (hb : b < 4) : 0 ≤ g_or x (g_shl 1 (b : Int)) ∧ g_or x (g_shl 1 (b : Int)) < 16 := by
  obtain ⟨n, rfl⟩ : ∃ n : Nat, x = (n : Int) := ⟨x.toNat, by omega⟩
  exact ⟨(g_bq_all n (by omega) b (by omega)).1.1, (g_bq_all n (by omega) b (by omega)).2.1 hb (by omega)⟩
/-- lands -/
def q_D1 (I : q_I) (u : Nat) (t : Nat → Int) : Prop := I u 1 = t 0 ∧ (0 ≤ t 0 ∧ t 0 ≤ 5) ∧
  (∀ l : Nat, (l : Int) < t 0 → (I (u + 8 + 2 * l) 1 = t (30 + 13 * l) ∧ I (u + 8 + 2 * l) 2 = t (31 + 13 * l) ∧ I (u + 8 + 2 * l) 3 = t (32 + 13 * l) ∧ I (u + 8 + 2 * l) 4 = t (33 + 13 * l) ∧ I (u + 8 + 2 * l) 5 = t (34 + 13 * l)) ∧
    ((0 ≤ t (31 + 13 * l) ∧ t (31 + 13 * l) ≤ 11) ∧ (0 ≤ t (32 + 13 * l) ∧ t (32 + 13 * l) ≤ 9999) ∧ (0 ≤ t (33 + 13 * l) ∧ t (33 + 13 * l) ≤ 999) ∧ (1 ≤ t (34 + 13 * l) ∧ t (34 + 13 * l) ≤ 50) ∧ (1 ≤ t (30 + 13 * l) ∧ t (30 + 13 * l) ≤ 6)) ∧
    (∀ j : Nat, (j : Int) < t (30 + 13 * l) → I (u + 9 + 2 * l) j = t (24 + 13 * l + j) ∧ 0 ≤ t (24 + 13 * l + j) ∧ t (24 + 13 * l + j) ≤ 255))
/-- wait, letter, home, order -/
def q_D2 (I : q_I) (u : Nat) (t : Nat → Int) (on : Int) : Prop := (0 ≤ on ∧ on < 16) ∧
  ((g_bq on 0 ∧ I u 3 = t 3 ∧ 0 ≤ t 3 ∧ t 3 ≤ 60) ∨ (¬ g_bq on 0 ∧ I u 3 = -1 ∧ t 3 = 3)) ∧
  ((g_bq on 1 ∧ I u 4 = t 4 ∧ 0 ≤ t 4 ∧ t 4 ≤ 999) ∨ (¬ g_bq on 1 ∧ I u 4 = -1 ∧ t 4 = 0)) ∧
  ((g_bq on 2 ∧ I u 5 = t 5 ∧ 0 ≤ t 5 ∧ t 5 < t 0) ∨ (¬ g_bq on 2 ∧ I u 5 = -1 ∧ t 5 = 0)) ∧
  ((g_bq on 3 ∧ I u 7 = t 8 ∧ (1 ≤ t 8 ∧ t 8 ≤ 3) ∧ (∀ k : Nat, k < 3 → 0 ≤ t (9 + k) ∧ t (9 + k) ≤ 2) ∧ ∀ k : Nat, (k : Int) < t 8 → I (u + 3) k = t (9 + k)) ∨ (¬ g_bq on 3 ∧ I u 7 = 0 ∧ t 8 = 3 ∧ t 9 = 0 ∧ t 10 = 1 ∧ t 11 = 2))
/-- pays -/
def q_D3 (I : q_I) (u : Nat) (t : Nat → Int) (hp : Int) : Prop := (0 ≤ hp ∧ hp < 32) ∧ ∀ k : Nat, k < 5 → (g_bq hp (k : Int) ∧ I (u + 2) k = t (12 + k) ∧ 0 ≤ t (12 + k) ∧ t (12 + k) ≤ 999) ∨ (¬ g_bq hp (k : Int) ∧ I (u + 2) k = -1 ∧ t (12 + k) = 0)
/-- laws -/
def q_D4 (I : q_I) (C : Nat → Int) (u : Nat) (t : Nat → Int) (kk cd : Nat) : Prop := ∀ q : Nat, q < 25 → (¬ 0 < t (90 + 2 * q) → t (90 + 2 * q) = 0 ∧ I (u + 4) q = -1) ∧
  (0 < t (90 + 2 * q) → (0 ≤ t (89 + 2 * q) ∧ t (89 + 2 * q) ≤ t (90 + 2 * q) ∧ t (90 + 2 * q) ≤ (cd : Int)) ∧ (q : Int) % 5 < t 0 ∧
    ∃ (s e : Nat) (cs : List Int), I (u + 4) q = (s : Int) ∧ I (u + 5) q = (e : Int) ∧ s ≤ e ∧ e ≤ kk ∧ g_lst C (e - s) s = cs ∧ g_dec t 901 (t (89 + 2 * q)).toNat (t (90 + 2 * q)).toNat = cs ∧ g_wf cs 0 ∧ g_mx cs 0)
theorem q_D1.tr {I I' : q_I} {u : Nat} {t t' : Nat → Int} (h : q_D1 I u t) (h1 : I' u 1 = I u 1) (h2 : ∀ q k, u + 8 ≤ q → q < u + 18 → I' q k = I q k) (h3 : t' 0 = t 0) (h4 : ∀ k, 24 ≤ k → k < 89 → t' k = t k) : q_D1 I' u t' := by
  obtain ⟨a, b, c⟩ := h
  refine ⟨by rw [h1, h3, a], by rw [h3]; exact b, fun l hl => ?_⟩
  rw [h3] at hl
  have hl5 : l < 5 := by omega
  obtain ⟨c1, c2, c3⟩ := c l hl
  rw [h2 _ _ (by omega) (by omega), h2 _ _ (by omega) (by omega), h2 _ _ (by omega) (by omega), h2 _ _ (by omega) (by omega), h2 _ _ (by omega) (by omega), h4 _ (by omega) (by omega), h4 _ (by omega) (by omega), h4 _ (by omega) (by omega), h4 _ (by omega) (by omega), h4 _ (by omega) (by omega)]
  refine ⟨c1, c2, fun j hj => ?_⟩
  rw [h2 _ _ (by omega) (by omega), h4 _ (by omega) (by omega)]
  exact c3 j hj
theorem q_D2.tr {I I' : q_I} {u : Nat} {t t' : Nat → Int} {on : Int} (h : q_D2 I u t on) (h1 : ∀ k, k = 3 ∨ k = 4 ∨ k = 5 ∨ k = 7 → I' u k = I u k) (h2 : ∀ k, I' (u + 3) k = I (u + 3) k) (h3 : t 0 ≤ t' 0) (h4 : ∀ k, 3 ≤ k → k < 12 → k ≠ 6 → k ≠ 7 → t' k = t k) : q_D2 I' u t' on := by
  obtain ⟨a, b, c, d, e⟩ := h
  refine ⟨a, ?_, ?_, ?_, ?_⟩
  · rw [h1 3 (by decide), h4 3 (by decide) (by decide) (by decide) (by decide)]; exact b
  · rw [h1 4 (by decide), h4 4 (by decide) (by decide) (by decide) (by decide)]; exact c
  · rw [h1 5 (by decide), h4 5 (by decide) (by decide) (by decide) (by decide)]
    rcases d with ⟨d1, d2, d3, d4⟩ | d
    · exact Or.inl ⟨d1, d2, d3, by omega⟩
    · exact Or.inr d
  · rw [h1 7 (by decide), h4 8 (by decide) (by decide) (by decide) (by decide), h4 9 (by decide) (by decide) (by decide) (by decide), h4 10 (by decide) (by decide) (by decide) (by decide), h4 11 (by decide) (by decide) (by decide) (by decide)]
    rcases e with ⟨e1, e2, e3, e4, e5⟩ | e
    · refine Or.inl ⟨e1, e2, e3, fun k hk => ?_, fun k hk => ?_⟩
      · rw [h4 (9 + k) (by omega) (by omega) (by omega) (by omega)]; exact e4 k hk
      · rw [h2, h4 (9 + k) (by omega) (by omega) (by omega) (by omega)]; exact e5 k hk
    · exact Or.inr e
theorem q_D3.tr {I I' : q_I} {u : Nat} {t t' : Nat → Int} {hp : Int} (h : q_D3 I u t hp) (h1 : ∀ k, k < 5 → I' (u + 2) k = I (u + 2) k) (h2 : ∀ k, 12 ≤ k → k < 17 → t' k = t k) : q_D3 I' u t' hp := by
  refine ⟨h.1, fun k hk => ?_⟩
  rw [h1 k hk, h2 _ (by omega) (by omega)]
  exact h.2 k hk
theorem q_D4.tr {I I' : q_I} {u kk kk' cd cd' : Nat} {t t' C C' : Nat → Int} (h : q_D4 I C u t kk cd) (h4 : ∀ k, k < 25 → I' (u + 4) k = I (u + 4) k) (h5 : ∀ k, k < 25 → I' (u + 5) k = I (u + 5) k) (h6 : ∀ k, k < kk → C' k = C k) (h0 : t 0 ≤ t' 0) (ht : ∀ k, 89 ≤ k → k < 139 + cd → t' k = t k) (hk : kk ≤ kk') (hc : cd ≤ cd') : q_D4 I' C' u t' kk' cd' := by
  intro q hq
  rw [h4 q hq, h5 q hq, ht (90 + 2 * q) (by omega) (by omega), ht (89 + 2 * q) (by omega) (by omega)]
  refine ⟨(h q hq).1, fun hp => ?_⟩
  obtain ⟨a, b, s, e, cs, c1, c2, c3, c4, c5, c6, c7, c8⟩ := (h q hq).2 hp
  refine ⟨⟨a.1, a.2.1, by omega⟩, by omega, s, e, cs, c1, c2, c3, by omega, ?_, ?_, c7, c8⟩
  · rw [g_lst_ext (e - s) s (fun i h1 h2 => h6 i (by omega))]; exact c5
  · rw [g_dec_ext _ _ (fun i h1 h2 => ht _ (by omega) (by omega))]; exact c6
/-- a land told -/
theorem q_D1.add {I I' : q_I} {u l : Nat} {t t' : Nat → Int} (h : q_D1 I u t) (hl : t 0 = (l : Int)) (hl5 : l < 5) (h1 : I' u 1 = I u 1 + 1) (h3 : t' 0 = t 0 + 1)
    (h2 : ∀ l' : Nat, l' < l → ∀ k, I' (u + 8 + 2 * l') k = I (u + 8 + 2 * l') k ∧ I' (u + 9 + 2 * l') k = I (u + 9 + 2 * l') k) (h4 : ∀ k, 24 ≤ k → k < 24 + 13 * l → t' k = t k)
    (hf : (I' (u + 8 + 2 * l) 1 = t' (30 + 13 * l) ∧ I' (u + 8 + 2 * l) 2 = t' (31 + 13 * l) ∧ I' (u + 8 + 2 * l) 3 = t' (32 + 13 * l) ∧ I' (u + 8 + 2 * l) 4 = t' (33 + 13 * l) ∧ I' (u + 8 + 2 * l) 5 = t' (34 + 13 * l)) ∧
      ((0 ≤ t' (31 + 13 * l) ∧ t' (31 + 13 * l) ≤ 11) ∧ (0 ≤ t' (32 + 13 * l) ∧ t' (32 + 13 * l) ≤ 9999) ∧ (0 ≤ t' (33 + 13 * l) ∧ t' (33 + 13 * l) ≤ 999) ∧ (1 ≤ t' (34 + 13 * l) ∧ t' (34 + 13 * l) ≤ 50) ∧ (1 ≤ t' (30 + 13 * l) ∧ t' (30 + 13 * l) ≤ 6)) ∧
      (∀ j : Nat, (j : Int) < t' (30 + 13 * l) → I' (u + 9 + 2 * l) j = t' (24 + 13 * l + j) ∧ 0 ≤ t' (24 + 13 * l + j) ∧ t' (24 + 13 * l + j) ≤ 255)) : q_D1 I' u t' := by
  obtain ⟨a, b, c⟩ := h
  refine ⟨by omega, by omega, fun l' hl' => ?_⟩
  by_cases e : l' = l
  · subst e; exact hf
  · have hlt : l' < l := by omega
    obtain ⟨c1, c2, c3⟩ := c l' (by omega)
    rw [(h2 l' hlt _).1, (h2 l' hlt _).1, (h2 l' hlt _).1, (h2 l' hlt _).1, (h2 l' hlt _).1, h4 (30 + 13 * l') (by omega) (by omega), h4 (31 + 13 * l') (by omega) (by omega), h4 (32 + 13 * l') (by omega) (by omega), h4 (33 + 13 * l') (by omega) (by omega), h4 (34 + 13 * l') (by omega) (by omega)]
    refine ⟨c1, c2, fun j hj => ?_⟩
    rw [(h2 l' hlt _).2, h4 _ (by omega) (by omega)]
    exact c3 j hj
/-- a law told -/
theorem q_D4.add {I I' : q_I} {u kk kk' cd cd' q0 : Nat} {t t' C C' : Nat → Int} {cs : List Int} (h : q_D4 I C u t kk cd) (hq0 : q0 < 25) (hcd : 0 < cd') (hcc : cd ≤ cd') (h4 : ∀ k, k < 25 → k ≠ q0 → I' (u + 4) k = I (u + 4) k) (h5 : ∀ k, k < 25 → k ≠ q0 → I' (u + 5) k = I (u + 5) k) (h6 : ∀ k, k < kk → C' k = C k) (h0 : t 0 = t' 0) (ht : ∀ k, 89 ≤ k → k < 139 + cd → k ≠ 89 + 2 * q0 → k ≠ 90 + 2 * q0 → t' k = t k) (hk : kk ≤ kk')
    (hl : (q0 : Int) % 5 < t 0) (e4 : I' (u + 4) q0 = (kk : Int)) (e5 : I' (u + 5) q0 = (kk' : Int)) (ec : g_lst C' (kk' - kk) kk = cs) (es : t' (89 + 2 * q0) = (cd : Int)) (ee : t' (90 + 2 * q0) = (cd' : Int)) (ed : g_dec t' 901 cd cd' = cs) (hw : g_wf cs 0) (hm : g_mx cs 0) : q_D4 I' C' u t' kk' cd' := by
  intro q hq
  by_cases e : q = q0
  · subst e
    rw [es, ee]
    refine ⟨fun h => by omega, fun _ => ⟨by omega, by omega, kk, kk', cs, e4, e5, hk, Nat.le_refl _, ec, ?_, hw, hm⟩⟩
    exact ed
  · rw [h4 q hq e, h5 q hq e, ht (90 + 2 * q) (by omega) (by omega) (by omega) (by omega), ht (89 + 2 * q) (by omega) (by omega) (by omega) (by omega)]
    refine ⟨(h q hq).1, fun hp => ?_⟩
    obtain ⟨a, b, s, e, cs, c1, c2, c3, c4, c5, c6, c7, c8⟩ := (h q hq).2 hp
    refine ⟨⟨a.1, a.2.1, by omega⟩, by omega, s, e, cs, c1, c2, c3, by omega, ?_, ?_, c7, c8⟩
    · rw [g_lst_ext (e - s) s (fun i h1 h2 => h6 i (by omega))]; exact c5
    · rw [g_dec_ext _ _ (fun i h1 h2 => ht _ (by omega) (by omega) (by omega) (by omega))]; exact c6
/-- pays told of kind k -/
theorem q_D3.set {I I' : q_I} {u k : Nat} {t t' : Nat → Int} {hp v : Int} (h : q_D3 I u t hp) (hk : k < 5) (h1 : ∀ j, j < 5 → j ≠ k → I' (u + 2) j = I (u + 2) j) (h2 : ∀ j, 12 ≤ j → j < 17 → j ≠ 12 + k → t' j = t j) (e1 : I' (u + 2) k = v) (e2 : t' (12 + k) = v) (hv : 0 ≤ v ∧ v ≤ 999) : q_D3 I' u t' (g_or hp (g_shl 1 (k : Int))) := by
  refine ⟨g_bq_r h.1 hk, fun j hj => ?_⟩
  rw [g_bq_or h.1 hk hj]
  by_cases e : j = k
  · subst e; exact Or.inl ⟨Or.inl rfl, by rw [e1, e2], by omega, by omega⟩
  · rw [h1 j hj e, h2 _ (by omega) (by omega) (by omega)]
    rcases h.2 j hj with ⟨a, b⟩ | ⟨a, b⟩
    · exact Or.inl ⟨Or.inr a, b⟩
    · exact Or.inr ⟨fun x => x.elim e a, b⟩
/-- one of wait, letter, home told -/
theorem q_D2.set {I I' : q_I} {u b : Nat} {t t' : Nat → Int} {on v : Int} (h : q_D2 I u t on) (hb : b < 3) (h1 : ∀ k, k = 3 ∨ k = 4 ∨ k = 5 ∨ k = 7 → k ≠ 3 + b → I' u k = I u k) (h2 : ∀ k, I' (u + 3) k = I (u + 3) k) (h3 : t' 0 = t 0) (h4 : ∀ k, 3 ≤ k → k < 12 → k ≠ 6 → k ≠ 7 → k ≠ 3 + b → t' k = t k) (e1 : I' u (3 + b) = v) (e2 : t' (3 + b) = v) (hv : 0 ≤ v ∧ (b = 0 → v ≤ 60) ∧ (b = 1 → v ≤ 999) ∧ (b = 2 → v < t 0)) : q_D2 I' u t' (g_or on (g_shl 1 (b : Int))) := by
  obtain ⟨a, hb0, hb1, hb2, hb3⟩ := h
  have a32 : 0 ≤ on ∧ on < 32 := by omega
  have bq : ∀ b' : Nat, b' < 5 → (g_bq (g_or on (g_shl 1 (b : Int))) (b' : Int) ↔ b' = b ∨ g_bq on (b' : Int)) := fun b' h => g_bq_or a32 (by omega) h
  have bn : ∀ b' : Nat, b' < 5 → b' ≠ b → (g_bq (g_or on (g_shl 1 (b : Int))) (b' : Int) ↔ g_bq on (b' : Int)) := fun b' h e => (bq b' h).trans ⟨fun x => x.resolve_left e, Or.inr⟩
  have n0 : b ≠ 0 → (g_bq (g_or on (g_shl 1 (b : Int))) 0 ↔ g_bq on 0) := fun e => bn 0 (by decide) (fun x => e x.symm)
  have n1 : b ≠ 1 → (g_bq (g_or on (g_shl 1 (b : Int))) 1 ↔ g_bq on 1) := fun e => bn 1 (by decide) (fun x => e x.symm)
  have n2 : b ≠ 2 → (g_bq (g_or on (g_shl 1 (b : Int))) 2 ↔ g_bq on 2) := fun e => bn 2 (by decide) (fun x => e x.symm)
  have n3 : (g_bq (g_or on (g_shl 1 (b : Int))) 3 ↔ g_bq on 3) := bn 3 (by decide) (by omega)
  have yes : g_bq (g_or on (g_shl 1 (b : Int))) (b : Int) := (bq b (by omega)).mpr (Or.inl rfl)
  refine ⟨g_bq_r4 a (by omega), ?_, ?_, ?_, ?_⟩
  · by_cases e : b = 0
    · subst e; exact Or.inl ⟨yes, e1.trans e2.symm, by rw [show t' 3 = v from e2]; exact ⟨hv.1, hv.2.1 rfl⟩⟩
    · rw [n0 e, h1 3 (by decide) (by omega), h4 3 (by decide) (by decide) (by decide) (by decide) (by omega)]; exact hb0
  · by_cases e : b = 1
    · subst e; exact Or.inl ⟨yes, e1.trans e2.symm, by rw [show t' 4 = v from e2]; exact ⟨hv.1, hv.2.2.1 rfl⟩⟩
    · rw [n1 e, h1 4 (by decide) (by omega), h4 4 (by decide) (by decide) (by decide) (by decide) (by omega)]; exact hb1
  · by_cases e : b = 2
    · subst e; exact Or.inl ⟨yes, e1.trans e2.symm, by rw [show t' 5 = v from e2, h3]; exact ⟨hv.1, hv.2.2.2 rfl⟩⟩
    · rw [n2 e, h1 5 (by decide) (by omega), h4 5 (by decide) (by decide) (by decide) (by decide) (by omega), h3]; exact hb2
  · rw [n3, h1 7 (by decide) (by omega), h4 8 (by decide) (by decide) (by decide) (by decide) (by omega), h4 9 (by decide) (by decide) (by decide) (by decide) (by omega), h4 10 (by decide) (by decide) (by decide) (by decide) (by omega), h4 11 (by decide) (by decide) (by decide) (by decide) (by omega)]
    rcases hb3 with ⟨c1, c2, c3, c4, c5⟩ | c
    · refine Or.inl ⟨c1, c2, c3, fun k hk => ?_, fun k hk => ?_⟩
      · rw [h4 (9 + k) (by omega) (by omega) (by omega) (by omega) (by omega)]; exact c4 k hk
      · rw [h2, h4 (9 + k) (by omega) (by omega) (by omega) (by omega) (by omega)]; exact c5 k hk
    · exact Or.inr c
/-- the order told -/
theorem q_D2.ord {I I' : q_I} {u : Nat} {t t' : Nat → Int} {on : Int} (h : q_D2 I u t on) (h1 : ∀ k, k = 3 ∨ k = 4 ∨ k = 5 → I' u k = I u k) (h3 : t' 0 = t 0) (h4 : ∀ k, 3 ≤ k → k < 6 → t' k = t k) (e : I' u 7 = t' 8 ∧ (1 ≤ t' 8 ∧ t' 8 ≤ 3) ∧ (∀ k : Nat, k < 3 → 0 ≤ t' (9 + k) ∧ t' (9 + k) ≤ 2) ∧ ∀ k : Nat, (k : Int) < t' 8 → I' (u + 3) k = t' (9 + k)) : q_D2 I' u t' (g_or on (g_shl 1 3)) := by
  obtain ⟨a, hb0, hb1, hb2, hb3⟩ := h
  have a32 : 0 ≤ on ∧ on < 32 := by omega
  have bn : ∀ b' : Nat, b' < 3 → (g_bq (g_or on (g_shl 1 3)) (b' : Int) ↔ g_bq on (b' : Int)) := fun b' h => (g_bq_or a32 (b := 3) (by decide) (by omega)).trans ⟨fun x => x.resolve_left (by omega), Or.inr⟩
  have n0 : (g_bq (g_or on (g_shl 1 3)) 0 ↔ g_bq on 0) := bn 0 (by decide)
  have n1 : (g_bq (g_or on (g_shl 1 3)) 1 ↔ g_bq on 1) := bn 1 (by decide)
  have n2 : (g_bq (g_or on (g_shl 1 3)) 2 ↔ g_bq on 2) := bn 2 (by decide)
  refine ⟨g_bq_r4 a (b := 3) (by decide), ?_, ?_, ?_, Or.inl ⟨(g_bq_or a32 (b := 3) (b' := 3) (by decide) (by decide)).mpr (Or.inl rfl), e⟩⟩
  · rw [n0, h1 3 (by decide), h4 3 (by decide) (by decide)]; exact hb0
  · rw [n1, h1 4 (by decide), h4 4 (by decide) (by decide)]; exact hb1
  · rw [n2, h1 5 (by decide), h4 5 (by decide) (by decide), h3]; exact hb2
/-- what must hold of the draft where a fault ends the reading -/
def q_WK (I : q_I) (u : Nat) : Prop := (∀ k, k = 1 ∨ k = 3 ∨ k = 4 ∨ k = 5 ∨ k = 7 → -2147483648 ≤ I u k ∧ I u k < 2147483648) ∧ ∀ k, k < 5 → -2147483648 ≤ I (u + 2) k ∧ I (u + 2) k < 2147483648
theorem q_WK.w {I : q_I} {u : Nat} (h : q_WK I u) {q i : Nat} {v : Int} (hv : -2147483648 ≤ v ∧ v < 2147483648) : q_WK (u2 I q i v) u := by
  refine ⟨fun k hk => ?_, fun k hk => ?_⟩
  · unfold u2; split
    · exact hv
    · exact h.1 k hk
  · unfold u2; split
    · exact hv
    · exact h.2 k hk
theorem q_WK.of {I : q_I} {u : Nat} {t : Nat → Int} {on hp : Int} (h1 : q_D1 I u t) (h2 : q_D2 I u t on) (h3 : q_D3 I u t hp) : q_WK I u := by
  obtain ⟨-, a, b, c, d⟩ := h2
  have e := h1.1
  have e2 := h1.2.1
  refine ⟨fun k hk => ?_, fun k hk => ?_⟩
  · rcases hk with rfl | rfl | rfl | rfl | rfl
    · omega
    · rcases a with a | a <;> omega
    · rcases b with a | a <;> omega
    · rcases c with a | a <;> omega
    · rcases d with ⟨-, a, b, -⟩ | a <;> omega
  · rcases h3.2 k hk with a | a <;> omega
theorem q_WK.tr {I I' : q_I} {u : Nat} (h : q_WK I u) (h1 : ∀ k, I' u k = I u k) (h2 : ∀ k, I' (u + 2) k = I (u + 2) k) : q_WK I' u := ⟨fun k hk => by rw [h1]; exact h.1 k hk, fun k hk => by rw [h2]; exact h.2 k hk⟩
/-- only the draft's cells differ -/
def q_FR (u : Nat) (I' I : q_I) : Prop := ∀ q k, ¬ (u ≤ q ∧ q < u + 18) → I' q k = I q k
theorem q_FR.r (u : Nat) (I : q_I) : q_FR u I I := fun _ _ _ => rfl
theorem q_FR.w {u : Nat} {I' I : q_I} (h : q_FR u I' I) {q i : Nat} {v : Int} (hq : u ≤ q ∧ q < u + 18) : q_FR u (u2 I' q i v) I := fun q2 k hk => (u2_a _ _ (fun e => hk (by rw [e]; exact hq))).trans (h q2 k hk)
theorem q_FR.t {u : Nat} {I1 I2 I3 : q_I} (h : q_FR u I1 I2) (h2 : q_FR u I2 I3) : q_FR u I1 I3 := fun q k hk => (h q k hk).trans (h2 q k hk)
