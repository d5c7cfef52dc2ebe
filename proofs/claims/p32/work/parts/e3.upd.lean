/-! the law's own bank: one account changed; a row written -/
def q_Wk (k n : Nat) (ρ : Nat → Nat) (q : Nat) : Prop := q = k ∨ q = k + 17 ∨ q = k + 18 ∨ q = k + 19 ∨ ∃ j, j < n ∧ q = ρ j
def q_Fr (W : Nat → Prop) (sz sz' : Nat) (T : q_T) (I L : q_I) (P : q_P) (T' : q_T) (I' L' : q_I) (P' : q_P) : Prop := sz ≤ sz' ∧ (∀ q, q < sz → T' q = T q) ∧ (∀ q j, q < sz → ¬ W q → I' q j = I q j) ∧ (∀ q j, q < sz → ¬ W q → L' q j = L q j) ∧ (∀ q j, q < sz → ¬ W q → P' q j = P q j)
def q_Ex (E : Nat → Prop) (sz sz' : Nat) : Nat → Prop := fun q => E q ∨ (sz ≤ q ∧ q < sz')
theorem q_Fr.rfl' {W : Nat → Prop} {sz : Nat} {T : q_T} {I L : q_I} {P : q_P} : q_Fr W sz sz T I L P T I L P := ⟨Nat.le_refl _, fun _ _ => rfl, fun _ _ _ _ => rfl, fun _ _ _ _ => rfl, fun _ _ _ _ => rfl⟩
theorem q_Fr.tr {W W' : Nat → Prop} {s1 s2 s3 : Nat} {T T1 T2 : q_T} {I L I1 L1 I2 L2 : q_I} {P P1 P2 : q_P} (h : q_Fr W s1 s2 T I L P T1 I1 L1 P1) (h2 : q_Fr W' s2 s3 T1 I1 L1 P1 T2 I2 L2 P2) (hw : ∀ q, q < s1 → W' q → W q) : q_Fr W s1 s3 T I L P T2 I2 L2 P2 := by
  obtain ⟨a1, a2, a3, a4, a5⟩ := h
  obtain ⟨b1, b2, b3, b4, b5⟩ := h2
  exact ⟨by omega, fun q hq => (b2 q (by omega)).trans (a2 q hq), fun q j hq hn => (b3 q j (by omega) (fun z => hn (hw q hq z))).trans (a3 q j hq hn), fun q j hq hn => (b4 q j (by omega) (fun z => hn (hw q hq z))).trans (a4 q j hq hn), fun q j hq hn => (b5 q j (by omega) (fun z => hn (hw q hq z))).trans (a5 q j hq hn)⟩
section
variable {E : Nat → Prop} {T T' : q_T} {I L I' L' : q_I} {P P' : q_P} {k v n w m i sz : Nat} {ρ σ : Nat → Nat} {r r' : Nat → Int}
/-- account i, the books, the month and the letters sent are new; the rules and the rows as they were -/
theorem q_OW.upd (h : q_OW E T I L P k v n ρ w m σ r) (hv : g_V0 r) (hs : g_same r r') (hi : i < n) (h1 : r' 1 = r 1) (h6 : r' 6 = r 6) (hacc : ∀ j x, j < n → j ≠ i → 1039 + 12 * j ≤ x → x ≤ 1050 + 12 * j → r' x = r x) (hrow : ∀ x, 1183 ≤ x → r' x = r x)
    (hI : ∀ q j, q ≠ ρ i → (q = k → j ≠ 11 ∧ j ≠ 8) → I' q j = I q j) (hL : ∀ q j, q ≠ ρ i → q ≠ k + 17 → q ≠ k + 18 → q ≠ k + 19 → L' q j = L q j) (hA : q_OA I' L' (ρ i) r' i) (hmo : I' k 8 = r' 2) (hse : I' k 11 = r' 7) (hb4 : ∀ x, x < 4 → L' (k + 17) x = r' (17 + x)) (hb6 : L' (k + 17) 6 = r' 23) (hpd : ∀ l, l < 5 → L' (k + 18) l = r' (35 + 13 * l)) (hps : ∀ l, l < 5 → L' (k + 19) l = r' (36 + 13 * l)) : q_OW E T I' L' P k v n ρ w m σ r' := by
  have M := h.om
  have O := h.ot
  have nk : k ≠ ρ i := q_Tne O.t0 (M.ta i hi) (by intro z; cases z)
  have na : ∀ q x, T q = some (.inr x) → q ≠ ρ i ∧ q ≠ k := fun q x hq => ⟨q_Tne hq (M.ta i hi) (by intro z; cases z), q_Tne hq O.t0 (by intro z; cases z)⟩
  have nn0 : ∀ j, j < n → j ≠ i → ρ j ≠ ρ i := fun j hj hn => M.dj j i hj hi hn
  have nr : ∀ j, j < n → ρ j ≠ k ∧ ρ j ≠ k + 17 ∧ ρ j ≠ k + 18 ∧ ρ j ≠ k + 19 := fun j hj => ⟨q_Tne (M.ta j hj) O.t0 (by intro z; cases z), q_Tne (M.ta j hj) O.t17 (by intro z; cases z), q_Tne (M.ta j hj) O.t18 (by intro z; cases z), q_Tne (M.ta j hj) O.t19 (by intro z; cases z)⟩
  refine ⟨O, h.ek, (h.rr.mv O h.ek (fun _ x => x) (fun _ _ => rfl) ⟨hI _ _ nk (by omega), hI _ _ nk (by omega), hI _ _ nk (by omega), hI _ _ nk (by omega)⟩ rfl (fun q x _ hq j => hI q j (na q _ hq).1 (fun e => absurd e (na q _ hq).2)) (fun _ _ _ _ _ => rfl)).row hv hs, ?_⟩
  refine ⟨hmo, hse, M.pv, M.tv, M.ev, h1.trans M.nn, M.pa, M.ta, M.ea, fun j hj => ?_, M.dj, M.pw, M.tw, M.ew, h6.trans M.mm, M.pr, M.tr, M.er, fun j x hj hx => ?_, hb4, hb6, hpd, hps⟩
  · by_cases e : j = i
    · subst e; exact hA
    · have hn := nn0 j hj e
      obtain ⟨x1, x2, x3, x4⟩ := nr j hj
      exact ((M.ac j hj).mv (fun x => hI _ x hn (fun z => absurd z x1)) (hL _ _ hn x2 x3 x4)).row (fun x a b => hacc j x hj e a b)
  · rw [hI _ _ (na _ _ (M.tr j hj)).1 (fun z => absurd z (na _ _ (M.tr j hj)).2), hrow _ (by omega)]
    exact M.ro j x hj hx
/-- an account handed over: a row more, in new arrays -/
theorem q_OW.hand {l : Nat} {nx : Int} (h : q_OW E T I L P k v n ρ w m σ r) (hE : ∀ q, E q → q < sz) (hv : g_V0 r) (hi : i < n) (hm : m ≤ 12) (hn12 : n ≤ 12)
    (hI : ∀ q j, q < sz → q ≠ ρ i → I' q j = I q j) (hI2 : ∀ j, j ≠ 4 → j ≠ 8 → j ≠ 10 → j ≠ 11 → I' (ρ i) j = I (ρ i) j) (hI4 : I' (ρ i) 4 = 2) (hI8 : I' (ρ i) 8 = (l : Int)) (hI10 : I' (ρ i) 10 = nx) (hI11 : I' (ρ i) 11 = q_b (r (1042 + 12 * i) < r (32 + 13 * l)))
    (hw0 : I' (sz + 1) 0 = nx) (hw1 : I' (sz + 1) 1 = (i : Int)) (hw2 : I' (sz + 1) 2 = (l : Int)) (hw3 : I' (sz + 1) 3 = r (1042 + 12 * i)) (hw4 : I' (sz + 1) 4 = q_b (r (1042 + 12 * i) < r (32 + 13 * l)))
    (hP : ∀ q j, q < sz → (q = k → j ≠ 10) → P' q j = P q j) (hk10 : P' k 10 = some sz) (hP2 : ∀ j, j < m → P' sz j = some (σ j)) (hP3 : P' sz m = some (sz + 1)) :
    q_OW (q_Ex E sz (sz + 2)) (q_upT (q_upT T sz (.inr (6, m + 1))) (sz + 1) (.inr (0, 5))) I' L P' k v n ρ sz (m + 1) (fun j => if j < m then σ j else sz + 1) (g_ha r i (l : Int) nx) := by
  have M := h.om
  have O := h.ot
  have hl := hv.lands
  have hEx : ∀ q, E q → q_Ex E sz (sz + 2) q := fun q hq => Or.inl hq
  have hT : ∀ q, E q → (q_upT (q_upT T sz (.inr (6, m + 1))) (sz + 1) (.inr (0, 5))) q = T q := fun q hq => by
    have := hE q hq
    rw [q_upT_n _ _ (by omega), q_upT_n _ _ (by omega)]
  have hkE := h.ek k (Nat.le_refl _) (by omega)
  have hks := hE k hkE
  have nk : k ≠ ρ i := q_Tne O.t0 (M.ta i hi) (by intro z; cases z)
  have na : ∀ q x, T q = some (.inr x) → q ≠ ρ i ∧ q ≠ k := fun q x hq => ⟨q_Tne hq (M.ta i hi) (by intro z; cases z), q_Tne hq O.t0 (by intro z; cases z)⟩
  have h6 : (0 : Int) ≤ r 6 := by have := M.mm; omega
  have hlo : ∀ x, x < 1183 → x ≠ 6 → x ≠ 1043 + 12 * i → x ≠ 1047 + 12 * i → x ≠ 1049 + 12 * i → x ≠ 1050 + 12 * i → g_ha r i (l : Int) nx x = r x := fun x a b c d e f => g_ha_n r h6 a b c d e f
  have hs : g_same r (g_ha r i (l : Int) nx) := fun x hx => by unfold g_rc at hx; exact hlo x (by omega) (by omega) (by omega) (by omega) (by omega) (by omega)
  have hp : (1183 + 5 * r 6).toNat = 1183 + 5 * m := by rw [M.mm]; omega
  have hgr : ∀ x, 1183 ≤ x → g_ha r i (l : Int) nx x = if x = 1183 + 5 * m then nx else if x = 1184 + 5 * m then (i : Int) else if x = 1185 + 5 * m then (l : Int) else if x = 1186 + 5 * m then r (1042 + 12 * i) else if x = 1187 + 5 * m then (if r (1042 + 12 * i) < r (32 + 13 * l) then 1 else 0) else r x := fun x hx => by
    unfold g_ha
    skip
    rw [hp, Int.toNat_natCast]
    rw [g_up_n _ _ (by omega), g_up_n _ _ (by omega), g_up_n _ _ (by omega), g_up_n _ _ (by omega), g_up_n _ _ (by omega)]
    unfold g_up
    by_cases c0 : x = 1183 + 5 * m
    · rw [if_neg (by omega), if_neg (by omega), if_neg (by omega), if_neg (by omega), if_pos c0, if_pos c0]
    · by_cases c1 : x = 1184 + 5 * m
      · rw [if_neg (by omega), if_neg (by omega), if_neg (by omega), if_pos (by omega), if_neg c0, if_pos c1]
      · by_cases c2 : x = 1185 + 5 * m
        · rw [if_neg (by omega), if_neg (by omega), if_pos (by omega), if_neg c0, if_neg c1, if_pos c2]
        · by_cases c3 : x = 1186 + 5 * m
          · rw [if_neg (by omega), if_pos (by omega), if_neg c0, if_neg c1, if_neg c2, if_pos c3]
          · by_cases c4 : x = 1187 + 5 * m
            · rw [if_pos (by omega), if_neg c0, if_neg c1, if_neg c2, if_neg c3, if_pos c4]
            · rw [if_neg (by omega), if_neg (by omega), if_neg (by omega), if_neg (by omega), if_neg (by omega), if_neg c0, if_neg c1, if_neg c2, if_neg c3, if_neg c4]
  have hg6 : g_ha r i (l : Int) nx 6 = r 6 + 1 := by
    unfold g_ha
    skip
    rw [g_up_n _ _ (by omega), g_up_n _ _ (by omega), g_up_n _ _ (by omega), g_up_n _ _ (by omega), g_up_s]
  have lt : ∀ q, E q → q < sz := hE
  refine ⟨O.mv (fun q a b => hT q (h.ek q a b)) (fun q j a b c d => hP q j (lt q (h.ek q a b)) (fun z => (c z).2.2)), fun q a b => hEx q (h.ek q a b), (h.rr.mv O h.ek hEx hT ⟨hI _ _ hks nk, hI _ _ hks nk, hI _ _ hks nk, hI _ _ hks nk⟩ (hP _ _ hks (by omega)) (fun q x hq ht j => hI q j (lt q hq) (na q _ ht).1) (fun q x hq ht j => hP q j (lt q hq) (fun z => absurd z (na q _ ht).2))).row hv hs, ?_⟩
  have tk : ∀ j, j < n → ρ j ≠ k := fun j hj => q_Tne (M.ta j hj) O.t0 (by intro z; cases z)
  refine ⟨(hI _ _ hks nk).trans (M.mo.trans (hlo 2 (by omega) (by omega) (by omega) (by omega) (by omega) (by omega)).symm), (hI _ _ hks nk).trans (M.se.trans (hlo 7 (by omega) (by omega) (by omega) (by omega) (by omega) (by omega)).symm), (hP _ _ hks (by omega)).trans M.pv, (hT _ M.ev).trans M.tv, hEx _ M.ev, (hlo 1 (by omega) (by omega) (by omega) (by omega) (by omega) (by omega)).trans M.nn, fun j hj => (hP _ _ (lt _ M.ev) (fun z => absurd z (na _ _ M.tv).2)).trans (M.pa j hj), fun j hj => (hT _ (M.ea j hj)).trans (M.ta j hj), fun j hj => hEx _ (M.ea j hj), fun j hj => ?_, M.dj, hk10, (q_upT_n _ _ (by omega)).trans (q_upT_s _ _ _), Or.inr ⟨Nat.le_refl _, by omega⟩, by rw [hg6, M.mm]; omega, fun j hj => ?_, fun j hj => ?_, fun j hj => ?_, fun j x hj hx => ?_, fun x hx => (M.b4 x hx).trans (hlo _ (by omega) (by omega) (by omega) (by omega) (by omega) (by omega)).symm, M.b6.trans (hlo _ (by omega) (by omega) (by omega) (by omega) (by omega) (by omega)).symm, fun x hx => (M.pd x hx).trans (hlo _ (by omega) (by omega) (by omega) (by omega) (by omega) (by omega)).symm, fun x hx => (M.ps x hx).trans (hlo _ (by omega) (by omega) (by omega) (by omega) (by omega) (by omega)).symm⟩
  · by_cases e : j = i
    · subst e
      have A := M.ac j hj
      exact ⟨(hI2 _ (by decide) (by decide) (by decide) (by decide)).trans (A.kd.trans (hlo _ (by omega) (by omega) (by omega) (by omega) (by omega) (by omega)).symm), (hI2 _ (by decide) (by decide) (by decide) (by decide)).trans (A.ad.trans (hlo _ (by omega) (by omega) (by omega) (by omega) (by omega) (by omega)).symm), (hI2 _ (by decide) (by decide) (by decide) (by decide)).trans (A.bi.trans (hlo _ (by omega) (by omega) (by omega) (by omega) (by omega) (by omega)).symm), A.ce.trans (hlo _ (by omega) (by omega) (by omega) (by omega) (by omega) (by omega)).symm, hI4.trans (g_ha_t _ _ _ _).symm, (hI2 _ (by decide) (by decide) (by decide) (by decide)).trans (A.ag.trans (hlo _ (by omega) (by omega) (by omega) (by omega) (by omega) (by omega)).symm), (hI2 _ (by decide) (by decide) (by decide) (by decide)).trans (A.si.trans (hlo _ (by omega) (by omega) (by omega) (by omega) (by omega) (by omega)).symm), (hI2 _ (by decide) (by decide) (by decide) (by decide)).trans (A.le.trans (hlo _ (by omega) (by omega) (by omega) (by omega) (by omega) (by omega)).symm), hI8.trans (g_ha_h _ _ _ _).symm, (hI2 _ (by decide) (by decide) (by decide) (by decide)).trans (A.la.trans (hlo _ (by omega) (by omega) (by omega) (by omega) (by omega) (by omega)).symm), hI10.trans (g_ha_d _ _ _ _).symm, hI11.trans (by rw [g_ha_m, Int.toNat_natCast])⟩
    · have hn := M.dj j i hj hi e
      exact ((M.ac j hj).mv (fun x => hI _ x (lt _ (M.ea j hj)) hn) rfl).row (fun x a b => hlo x (by omega) (by omega) (by omega) (by omega) (by omega) (by omega))
  · dsimp only
    by_cases e : j < m
    · rw [if_pos e]; exact hP2 j e
    · rw [if_neg e, show j = m by omega]; exact hP3
  · dsimp only
    by_cases e : j < m
    · rw [if_pos e]; exact (hT _ (M.er j e)).trans (M.tr j e)
    · rw [if_neg e]; exact q_upT_s _ _ _
  · dsimp only
    by_cases e : j < m
    · rw [if_pos e]; exact hEx _ (M.er j e)
    · rw [if_neg e]; exact Or.inr ⟨by omega, by omega⟩
  · dsimp only
    rw [hgr _ (by omega)]
    by_cases e : j < m
    · rw [if_pos e, hI _ _ (lt _ (M.er j e)) (na _ _ (M.tr j e)).1, M.ro j x e hx, if_neg (by omega), if_neg (by omega), if_neg (by omega), if_neg (by omega), if_neg (by omega)]
    · rw [if_neg e]
      obtain rfl : j = m := by omega
      rcases (show x = 0 ∨ x = 1 ∨ x = 2 ∨ x = 3 ∨ x = 4 by omega) with rfl | rfl | rfl | rfl | rfl
      · rw [if_pos (by omega)]; exact hw0
      · rw [if_neg (by omega), if_pos (by omega)]; exact hw1
      · rw [if_neg (by omega), if_neg (by omega), if_pos (by omega)]; exact hw2
      · rw [if_neg (by omega), if_neg (by omega), if_neg (by omega), if_pos (by omega)]; exact hw3
      · rw [if_neg (by omega), if_neg (by omega), if_neg (by omega), if_neg (by omega), if_pos (by omega)]; exact hw4
end
/-- references laid down one by one -/
def q_fP (P : q_P) (a c : Nat) (σ : Nat → Nat) : q_P := fun q j => if q = a ∧ j < c then some (σ j) else P q j
theorem q_fP_n (P : q_P) {a c q j : Nat} (σ : Nat → Nat) (h : q ≠ a) : q_fP P a c σ q j = P q j := if_neg (fun z => h z.1)
theorem q_fP_t (P : q_P) {a c j : Nat} (σ : Nat → Nat) (h : j < c) : q_fP P a c σ a j = some (σ j) := if_pos ⟨rfl, h⟩
theorem q_fP_0 (P : q_P) (a : Nat) (σ : Nat → Nat) : q_fP P a 0 σ = P := by funext q j; unfold q_fP; rw [if_neg (by omega)]
theorem q_fP_s (P : q_P) (a c : Nat) (σ : Nat → Nat) : u2 (q_fP P a c σ) a c (some (σ c)) = q_fP P a (1 + c) σ := by
  funext q j
  unfold u2 q_fP
  by_cases e1 : q = a
  · by_cases e2 : j = c
    · subst e1 e2; rw [if_pos ⟨rfl, rfl⟩, if_pos ⟨rfl, by omega⟩]
    · rw [if_neg (fun z => e2 z.2)]
      by_cases e3 : j < c
      · rw [if_pos ⟨e1, e3⟩, if_pos ⟨e1, by omega⟩]
      · rw [if_neg (fun z => e3 z.2), if_neg (fun z => absurd z.2 (by omega))]
  · rw [if_neg (fun z => e1 z.1), if_neg (fun z => e1 z.1), if_neg (fun z => e1 z.1)]
