/-! acts: what they keep -/
def g_cap : Nat → Int
  | 0 => 3055000
  | u + 1 => g_cap u + g_cap u * 999 / 120000
theorem g_cap_s (u : Nat) : g_cap (u + 1) = g_cap u + g_cap u * 999 / 120000 := rfl
theorem g_cap_0 : ∀ u, 0 ≤ g_cap u
  | 0 => by decide
  | u + 1 => by have := g_cap_0 u; rw [g_cap_s]; omega
theorem g_cap_m : ∀ (k u : Nat), g_cap u ≤ g_cap (u + k)
  | 0, u => Int.le_refl _
  | k + 1, u => by
    have h := g_cap_m k u
    have h0 := g_cap_0 (u + k)
    show g_cap u ≤ g_cap (u + k + 1)
    rw [g_cap_s]; omega
set_option maxRecDepth 100000 in
theorem g_cap_330 : g_cap 330 ≤ 100000000 := by decide +kernel
theorem g_cap_le {u v : Nat} (h : u ≤ v) : g_cap u ≤ g_cap v := by
  obtain ⟨k, rfl⟩ : ∃ k, v = u + k := ⟨v - u, by omega⟩
  exact g_cap_m k u
def q_Cap (r : Nat → Int) (e : Int) : Prop := ∀ i : Nat, (i : Int) < r 1 → r (1042 + 12 * i) + e ≤ g_cap (r 2).toNat
theorem g_goes_cents {r : Nat → Int} {a : Nat} {nx b : Int} (ha : a < 12) (hv : g_V0 r) (hVA : g_VA r a b) : (g_goes r a nx).2 (1042 + 12 * a) ≤ r (1042 + 12 * a) + r (1042 + 12 * a) * 999 / 120000 := by
  have h1 := hVA.cents
  have h2 := hVA.kind
  have h3 := (g_int_r hv hVA).2
  have hp := hv.pays (r (1039 + 12 * a)).toNat (by omega)
  have hmul : r (1042 + 12 * a) * r (12 + (r (1039 + 12 * a)).toNat) ≤ r (1042 + 12 * a) * 999 := Int.mul_le_mul_of_nonneg_left hp.2 h1.1
  have hi : g_int r a ≤ r (1042 + 12 * a) * 999 / 120000 := by
    unfold g_int
    rw [Int.tdiv_eq_ediv_of_nonneg h3.1]
    omega
  have hc : g_r1 r a (1042 + 12 * a) ≤ r (1042 + 12 * a) + r (1042 + 12 * a) * 999 / 120000 := by rw [g_r1_c]; omega
  have hw : ∀ nx, g_wr (g_r1 r a) a nx (1042 + 12 * a) ≤ g_r1 r a (1042 + 12 * a) := fun nx => by
    rw [g_wr_c]
    have e4 : g_r1 r a 4 = r 4 := g_r1_n r (by omega) (by omega) (by omega) (by omega)
    have := hv.cost
    have h0 := (g_int_r hv hVA).1
    rw [e4, g_r1_c]
    omega
  have h6 : 0 ≤ g_r1 r a 6 := by rw [g_r1_n r (by omega) (by omega) (by omega) (by omega)]; exact hv.rows.1
  unfold g_goes
  split
  · split
    · exact hc
    · split
      · dsimp only
        split
        · exact Int.le_trans (hw nx) hc
        · exact hc
      · split
        · exact hc
        · dsimp only
          rw [g_ha_n _ h6 (by omega) (by omega) (by omega) (by omega) (by omega) (by omega)]
          exact hc
  · dsimp only
    omega
theorem q_Cap.month {r : Nat → Int} {e : Int} (h : q_Cap r e) (he : 0 ≤ e) (hz : g_Zr r) (hv : g_VR r) : q_Cap (g_month r).2 e := fun i hi => by
  rw [g_month_1 hz hv] at hi
  have hVA := hv.2.1 i hi
  rw [if_neg (Nat.not_lt_zero i)] at hVA
  have h1 := h i hi
  have hc := hVA.cents
  have hm := hv.1.month
  rw [g_month_at hv hi _ (by omega) (by omega), g_month_2 hz hv, show (r 2 + 1).toNat = (r 2).toNat + 1 by omega, g_cap_s]
  have h2 := g_goes_cents (nx := r 2 + 1) (by have := hv.1.many; omega) hv.1 hVA
  omega
theorem q_Cap.months {e : Int} (he : 0 ≤ e) : ∀ (N : Nat) {r : Nat → Int}, q_Cap r e → g_Zr r → g_VR r → r 2 + N ≤ 6000 → q_Cap (g_months N r).2 e ∧ (g_months N r).2 2 = r 2 + N
  | 0, r, h, _, _, _ => ⟨h, (Int.add_zero _).symm⟩
  | N + 1, r, h, hz, hv, hb => by
    rw [g_months_s, if_pos (by omega)]
    have hm := g_month_z hz hv (by omega)
    have h2 := g_month_2 hz hv
    have x := q_Cap.months he N (h.month he hz hv) hm.1 hm.2 (by rw [h2]; omega)
    exact ⟨x.1, by show (g_months N (g_month r).2).2 2 = _; rw [x.2, h2]; omega⟩
theorem g_months_same : ∀ (N : Nat) {r : Nat → Int}, g_Zr r → g_VR r → g_same r (g_months N r).2
  | 0, r, _, _ => g_same.rf r
  | N + 1, r, hz, hv => by
    rw [g_months_s]
    split
    · rename_i h2
      have hm := g_month_z hz hv h2
      intro x hx
      exact (g_months_same N hm.1 hm.2 x hx).trans (g_month_same hv x hx)
    · exact g_same.rf r
theorem e_nms.same {r r' : Nat → Int} {L : Nat} (h : e_nms r L) (hL : L ≤ 5) (hs : g_same r r') : e_nms r' L := fun j hj => by
  have h6 := e_len6 j (by omega)
  obtain ⟨h1, h2⟩ := h j hj
  exact ⟨(hs _ (by unfold g_rc; omega)).trans h1, fun k hk => (hs _ (by unfold g_rc; omega)).trans (h2 k hk)⟩
/-- the two banks as they stand -/
def q_JW (b d a0 was l9 tp : Nat) (B : Nat → Int) (T : q_T) (I L : q_I) (P : q_P) (sz bk : Nat) (R : Nat → Nat → Int) (k n : Nat) (ρ : Nat → Nat) (x : Nat) : Prop := ∃ (E : Nat → Prop) (v w m : Nat) (σ : Nat → Nat), q_CE T b bk tp B R I L P ∧ q_OW E T I L P k v n ρ w m σ (R 0) ∧ (∀ q, E q → a0 ≤ q ∧ q < sz ∧ q ≠ was) ∧ I d 0 = (x : Int) ∧ T d = some (.inl 8) ∧ q_F0 sz I L P ∧ T was = some (.inr (9, 16)) ∧ R 0 0 = (l9 : Int) ∧ e_nms (R 0) l9
/-- a bank laid by -/
def q_Sd (a0 was l9 : Nat) (T : q_T) (I L : q_I) (P : q_P) (sz : Nat) (W : Nat → Prop) (K : Nat) (r : Nat → Int) : Prop := ∃ (E : Nat → Prop) (v n w m : Nat) (ρ σ : Nat → Nat), q_OW E T I L P K v n ρ w m σ r ∧ (∀ q, E q → a0 ≤ q ∧ q < sz ∧ q ≠ was ∧ ¬ W q) ∧ r 0 = (l9 : Int) ∧ e_nms r l9 ∧ 1 ≤ r 1
/-- behind an act -/
def q_PA (b d a0 was l9 tp : Nat) (B : Nat → Int) (T : q_T) (I L : q_I) (P : q_P) (sz bk : Nat) (R : Nat → Nat → Int) (k n : Nat) (ρ : Nat → Nat) (c : Nat) (T' : q_T) (I' L' : q_I) (P' : q_P) (sz' bk' : Nat) (R' : Nat → Nat → Int) (n' : Nat) (ρ' : Nat → Nat) (x' : Nat) (is : Int) : Prop := q_JW b d a0 was l9 tp B T' I' L' P' sz' bk' R' k n' ρ' x' ∧ q_FO b d (q_Wk k n ρ) sz sz' T I L P T' I' L' P' ∧ ((∀ j, j < n → ρ' j = ρ j) ∧ ∀ j, n ≤ j → j < n' → sz ≤ ρ' j) ∧ ((is = 1 ∧ bk' = g_nb bk ∧ ∃ r', R' = g_Rn R bk r') ∨ (is = 0 ∧ bk' = bk ∧ R' = R)) ∧ q_Cap (R' 0) (5000 * (10 - (c : Int))) ∧ R' 0 2 ≤ 30 * ((c : Int) + 1) ∧ (n ≤ n' ∧ n' ≤ 12) ∧ d_safe (10 - c) (12 - n') x' = true
section
variable {b d a0 was l9 tp sz bk k n c v w m : Nat} {B : Nat → Int} {T : q_T} {I L : q_I} {P : q_P} {R : Nat → Nat → Int} {ρ σ : Nat → Nat} {E : Nat → Prop}
theorem q_Cap.mono {r r' : Nat → Int} {e e' : Int} (h : q_Cap r e) (h1 : r' 1 = r 1) (h2 : r' 2 = r 2) (hc : ∀ i : Nat, (i : Int) < r 1 → r' (1042 + 12 * i) + e' ≤ r (1042 + 12 * i) + e) : q_Cap r' e' := fun i hi => by
  rw [h1] at hi
  rw [h2]
  exact Int.le_trans (hc i hi) (h i hi)
/-- an act refused: only the draws have gone on -/
theorem q_JW.ref {sz' x' : Nat} {I' : q_I} (hE' : q_CE T b bk tp B R I' L P) (hW : q_OW E T I L P k v n ρ w m σ (R 0)) (hEr : ∀ q, E q → a0 ≤ q ∧ q < sz ∧ q ≠ was) (hx : I' d 0 = (x' : Int)) (hTd : T d = some (.inl 8)) (hZ : q_F0 sz I L P) (hTw : T was = some (.inr (9, 16))) (hl9 : R 0 0 = (l9 : Int)) (hnm : e_nms (R 0) l9) (hL : b + 452 ≤ d ∧ d < a0 ∧ a0 ≤ sz) (hs : sz ≤ sz') (hI : ∀ q j, (q < b ∨ b + 452 ≤ q) → q ≠ d → I' q j = I q j) (hcap : q_Cap (R 0) (5000 * (11 - (c : Int)))) (hc : c < 11) (hmo : R 0 2 ≤ 30 * (c : Int)) (hn : n ≤ 12) (hsf : d_safe (10 - c) (12 - n) x' = true) : q_PA b d a0 was l9 tp B T I L P sz bk R k n ρ c T I' L P sz' bk R n ρ x' 0 := by
  refine ⟨⟨E, v, w, m, σ, hE', hW.mv (fun _ z => z) (fun _ _ => rfl) (fun q j hq => hI q j (by have := hEr q hq; omega) (by have := hEr q hq; omega)) (fun _ _ _ => rfl) (fun _ _ _ => rfl), fun q hq => by have := hEr q hq; omega, hx, hTd, fun q j hq => ⟨(hI q j (by omega) (by omega)).trans (hZ q j (by omega)).1, (hZ q j (by omega)).2⟩, hTw, hl9, hnm⟩, ⟨⟨hs, fun _ _ => rfl, fun q j _ hw => hI q j (Or.inr (by have : ¬ q < b + 452 := fun z => hw (Or.inl z); omega)) (fun z => hw (Or.inr (Or.inl z))), fun _ _ _ _ => rfl, fun _ _ _ _ => rfl⟩, fun q j hq => hI q j (Or.inl hq) (by omega)⟩, ⟨fun _ _ => rfl, fun j h1 h2 => absurd h1 (by omega)⟩, Or.inr ⟨rfl, rfl, rfl⟩, hcap.mono rfl rfl (fun i _ => by omega), by omega, ⟨Nat.le_refl _, hn⟩, hsf⟩
/-- an act taken: one account of each changed -/
theorem q_JW.act {i x' : Nat} {M N I' L' : q_I} {P9 : q_P} {r' : Nat → Int} (hE' : q_CE T b (g_nb bk) tp B (g_Rn R bk r') M N P9) (hO : q_Ou b I L P M N P9) (hW : q_OW E T I L P k v n ρ w m σ (R 0)) (hEr : ∀ q, E q → a0 ≤ q ∧ q < sz ∧ q ≠ was) (hx : I' d 0 = (x' : Int)) (hTd : T d = some (.inl 8)) (hZ : q_F0 sz I L P) (hTw : T was = some (.inr (9, 16))) (hl9 : R 0 0 = (l9 : Int)) (hl3 : l9 ≤ 3) (hnm : e_nms (R 0) l9) (hLy : b + 452 ≤ d ∧ d < a0 ∧ a0 ≤ sz) (hv : g_V0 (R 0)) (hi : i < n)
    (hI : ∀ q j, q ≠ ρ i → I' q j = M q j) (hLL : ∀ q j, q ≠ ρ i → q ≠ k + 17 → q ≠ k + 18 → q ≠ k + 19 → L' q j = N q j) (hA : q_OA I' L' (ρ i) r' i) (hs : g_same (R 0) r') (h1 : r' 1 = R 0 1) (h2 : r' 2 = R 0 2) (h6 : r' 6 = R 0 6) (h7 : r' 7 = R 0 7) (hacc : ∀ j x, j < n → j ≠ i → 1039 + 12 * j ≤ x → x ≤ 1050 + 12 * j → r' x = R 0 x) (hrow : ∀ x, 1183 ≤ x → r' x = R 0 x)
    (hb4 : ∀ x, x < 4 → L' (k + 17) x = r' (17 + x)) (hb6 : L' (k + 17) 6 = r' 23) (hpd : ∀ l, l < 5 → L' (k + 18) l = r' (35 + 13 * l)) (hps : ∀ l, l < 5 → L' (k + 19) l = r' (36 + 13 * l))
    (hcap : q_Cap (R 0) (5000 * (11 - (c : Int)))) (hcc : r' (1042 + 12 * i) ≤ R 0 (1042 + 12 * i) + 5000) (hc : c < 11) (hmo : R 0 2 ≤ 30 * (c : Int)) (hn : n ≤ 12) (hsf : d_safe (10 - c) (12 - n) x' = true) : q_PA b d a0 was l9 tp B T I L P sz bk R k n ρ c T I' L' P9 sz (g_nb bk) (g_Rn R bk r') n ρ x' 1 := by
  have M0 := hW.om
  have O0 := hW.ot
  have hρ := hEr _ (M0.ea i hi)
  have hkE := fun y (a : k ≤ y) (c : y < k + 20) => hEr y (hW.ek y a c)
  have hk0 := hkE k (by omega) (by omega)
  have hk17 := hkE (k + 17) (by omega) (by omega)
  have hk18 := hkE (k + 18) (by omega) (by omega)
  have hk19 := hkE (k + 19) (by omega) (by omega)
  have nk : k ≠ ρ i := q_Tne O0.t0 (M0.ta i hi) (by intro z; cases z)
  have hWM : q_OW E T M N P9 k v n ρ w m σ (R 0) := hW.mv (fun _ z => z) (fun _ _ => rfl) (fun q j hq => hO.1 q j (by have := hEr q hq; omega)) (fun q j hq => hO.2.1 q j (by have := hEr q hq; omega)) (fun q j hq => hO.2.2 q j (by have := hEr q hq; omega))
  have hW' : q_OW E T I' L' P9 k v n ρ w m σ r' := hWM.upd hv hs hi h1 h6 hacc hrow (fun q j hq _ => hI q j hq) hLL hA ((hI _ _ nk).trans (hWM.om.mo.trans h2.symm)) ((hI _ _ nk).trans (hWM.om.se.trans h7.symm)) hb4 hb6 hpd hps
  have hCE : q_CE T b (g_nb bk) tp B (g_Rn R bk r') I' L' P9 := hE'.mv (fun _ _ _ => rfl) (fun q j a c => hI q j (by omega)) (fun q j a c => hLL q j (by omega) (by omega) (by omega) (by omega)) (fun _ _ _ _ => rfl)
  have h0 : r' 0 = R 0 0 := hs 0 (by unfold g_rc; omega)
  refine ⟨⟨E, v, w, m, σ, hCE, hW', hEr, hx, hTd, fun q j hq => ⟨(hI q j (by omega)).trans ((hO.1 q j (by omega)).trans (hZ q j hq).1), (hLL q j (by omega) (by omega) (by omega) (by omega)).trans ((hO.2.1 q j (by omega)).trans (hZ q j hq).2.1), (hO.2.2 q j (by omega)).trans (hZ q j hq).2.2⟩, hTw, h0.trans hl9, hnm.same (by omega) hs⟩, ⟨⟨Nat.le_refl _, fun _ _ => rfl, fun q j hq hw => ?_, fun q j hq hw => ?_, fun q j hq hw => hO.2.2 q j (by have : ¬ q < b + 452 := fun z => hw (Or.inl z); omega)⟩, fun q j hq => (hI q j (by omega)).trans (hO.1 q j (Or.inl hq))⟩, ⟨fun _ _ => rfl, fun j a c => absurd a (by omega)⟩, Or.inl ⟨rfl, rfl, r', rfl⟩, hcap.mono h1 h2 (fun j hj => ?_), by show r' 2 ≤ _; omega, ⟨Nat.le_refl _, hn⟩, hsf⟩
  · have w1 : ¬ q < b + 452 := fun z => hw (Or.inl z)
    exact (hI q j (fun z => hw (Or.inr (Or.inr (Or.inr (Or.inr (Or.inr (Or.inr ⟨i, hi, z⟩)))))))).trans (hO.1 q j (by omega))
  · have w1 : ¬ q < b + 452 := fun z => hw (Or.inl z)
    exact (hLL q j (fun z => hw (Or.inr (Or.inr (Or.inr (Or.inr (Or.inr (Or.inr ⟨i, hi, z⟩))))))) (fun z => hw (Or.inr (Or.inr (Or.inr (Or.inl z))))) (fun z => hw (Or.inr (Or.inr (Or.inr (Or.inr (Or.inl z)))))) (fun z => hw (Or.inr (Or.inr (Or.inr (Or.inr (Or.inr (Or.inl z)))))))).trans (hO.2.1 q j (by omega))
  · show r' (1042 + 12 * j) + _ ≤ _
    have hnn := M0.nn
    by_cases e : j = i
    · subst e; omega
    · rw [hacc j _ (by omega) e (by omega) (by omega)]; omega
/-- what is laid by stands behind an act -/
theorem q_Sd.mv {sz' K n' : Nat} {T' : q_T} {I' L' : q_I} {P' : q_P} {ρ' : Nat → Nat} {r : Nat → Int} (h : q_Sd a0 was l9 T I L P sz (q_Wk k n ρ) K r) (hF : q_FO b d (q_Wk k n ρ) sz sz' T I L P T' I' L' P') (hL : b + 452 ≤ d ∧ d < a0) (hρ : (∀ j, j < n → ρ' j = ρ j) ∧ ∀ j, n ≤ j → j < n' → sz ≤ ρ' j) : q_Sd a0 was l9 T' I' L' P' sz' (q_Wk k n' ρ') K r := by
  obtain ⟨E, v, n2, w, m, ρ2, σ2, h1, h2, h3, h4⟩ := h
  have hw : ∀ q, E q → ¬ (q < b + 452 ∨ q = d ∨ q_Wk k n ρ q) := fun q hq z => by
    have := h2 q hq
    rcases z with z | z | z
    · omega
    · omega
    · exact this.2.2.2 z
  refine ⟨E, v, n2, w, m, ρ2, σ2, h1.mv (fun _ z => z) (fun q hq => hF.1.2.1 q (h2 q hq).2.1) (fun q j hq => hF.1.2.2.1 q j (h2 q hq).2.1 (hw q hq)) (fun q j hq => hF.1.2.2.2.1 q j (h2 q hq).2.1 (hw q hq)) (fun q j hq => hF.1.2.2.2.2 q j (h2 q hq).2.1 (hw q hq)), fun q hq => ?_, h3, h4⟩
  have hb := h2 q hq
  have := hF.1.1
  refine ⟨hb.1, by omega, hb.2.2.1, fun z => ?_⟩
  rcases z with z | z | z | z | ⟨j, hj, z⟩
  · exact hb.2.2.2 (Or.inl z)
  · exact hb.2.2.2 (Or.inr (Or.inl z))
  · exact hb.2.2.2 (Or.inr (Or.inr (Or.inl z)))
  · exact hb.2.2.2 (Or.inr (Or.inr (Or.inr (Or.inl z))))
  · by_cases c : j < n
    · exact hb.2.2.2 (Or.inr (Or.inr (Or.inr (Or.inr ⟨j, c, z.trans (hρ.1 j c)⟩))))
    · have := hρ.2 j (by omega) hj; omega
end
