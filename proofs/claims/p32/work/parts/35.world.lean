/-! the class: the world -/
theorem g_sum_up {f g : Nat → Int} {a : Nat} {d : Int} (h1 : g a = f a + d) : ∀ n : Nat, a < n → (∀ i : Nat, i < n → i ≠ a → g i = f i) → g_sum g n = g_sum f n + d
  | 0, h0, _ => absurd h0 (Nat.not_lt_zero _)
  | n + 1, h0, h => by
    rw [g_sum_s, g_sum_s]
    by_cases e : a = n
    · subst e
      rw [g_sum_ext a (fun i hi => h i (by omega) (by omega)), h1]
      omega
    · rw [g_sum_up h1 n (by omega) (fun i hi hn => h i (by omega) hn), h n (by omega) (fun q => e q.symm)]
      omega
/-- what a month of an account leaves in the list -/
theorem g_goes_book {r : Nat → Int} {a : Nat} {nx : Int} (ha : a < 12) (h6 : 0 ≤ r 6) (ho : r (1043 + 12 * a) = 0 ∨ r (1043 + 12 * a) = 1) :
    ((g_goes r a nx).1 = 0 ∧ (g_goes r a nx).2 (1043 + 12 * a) ≠ 2 ∧ (g_goes r a nx).2 6 = r 6 ∧ ∀ k, 1183 ≤ k → (g_goes r a nx).2 k = r k) ∨
    ((g_goes r a nx).1 = 1 ∧ (g_goes r a nx).2 (1043 + 12 * a) = 2 ∧ (g_goes r a nx).2 6 = r 6 + 1 ∧ (∀ k, 1183 ≤ k → k < 1183 + 5 * (r 6).toNat → (g_goes r a nx).2 k = r k) ∧
      (g_goes r a nx).2 (1183 + 5 * (r 6).toNat) = nx ∧ (g_goes r a nx).2 (1184 + 5 * (r 6).toNat) = (a : Int) ∧ (g_goes r a nx).2 (1185 + 5 * (r 6).toNat) = (g_goes r a nx).2 (1047 + 12 * a) ∧ (g_goes r a nx).2 (1186 + 5 * (r 6).toNat) = (g_goes r a nx).2 (1042 + 12 * a) ∧ (g_goes r a nx).2 (1187 + 5 * (r 6).toNat) = (g_goes r a nx).2 (1049 + 12 * a) ∧ (g_goes r a nx).2 (1050 + 12 * a) = nx) := by
  have q6 : g_r1 r a 6 = r 6 := g_r1_n _ (by omega) (by omega) (by omega) (by omega)
  have qt : g_r1 r a (1043 + 12 * a) = r (1043 + 12 * a) := g_r1_n _ (by omega) (by omega) (by omega) (by omega)
  rcases g_goes_cases r a nx with ⟨c, -⟩ | ⟨-, e⟩ | ⟨-, e⟩ | ⟨c, -, e⟩
  · exact absurd ho c
  · refine Or.inl ?_
    rw [e]
    exact ⟨rfl, by show g_r1 r a _ ≠ 2; omega, q6, fun k hk => g_r1_n _ (by omega) (by omega) (by omega) (by omega)⟩
  · refine Or.inl ?_
    rw [e]
    refine ⟨rfl, ?_, ?_, fun k hk => ?_⟩
    · show g_wr _ _ _ _ ≠ 2
      rw [g_wr_t]; decide
    · exact (g_wr_n _ (by omega) (by omega) (by omega) (by omega) (by omega) (by omega)).trans q6
    · exact (g_wr_n _ (by omega) (by omega) (by omega) (by omega) (by omega) (by omega)).trans (g_r1_n _ (by omega) (by omega) (by omega) (by omega))
  · refine Or.inr ?_
    obtain ⟨j, hj⟩ : ∃ j : Nat, r 6 = (j : Int) := ⟨(r 6).toNat, by omega⟩
    have ej : (1183 + 5 * (j : Int)).toNat = 1183 + 5 * j := by omega
    rw [hj] at q6
    rw [e, hj, Int.toNat_natCast]
    obtain ⟨l, hl⟩ : ∃ l, l = g_bel (g_r1 r a) a := ⟨_, rfl⟩
    rw [← hl]
    dsimp only
    have hc : g_ha (g_r1 r a) a l nx (1042 + 12 * a) = g_r1 r a (1042 + 12 * a) := g_ha_n _ (by omega) (by omega) (by omega) (by omega) (by omega) (by omega) (by omega)
    refine ⟨rfl, g_ha_t _ _ _ _, ?_, fun k k1 k2 => ?_, ?_, ?_, ?_, ?_, ?_, g_ha_d _ _ _ _⟩
    · unfold g_ha
      rw [g_up_n _ _ (by omega), g_up_n _ _ (by omega), g_up_n _ _ (by omega), g_up_n _ _ (by omega), g_up_s, q6]
    · unfold g_ha; simp only [q6, ej]
      rw [g_up_n _ _ (by omega), g_up_n _ _ (by omega), g_up_n _ _ (by omega), g_up_n _ _ (by omega), g_up_n _ _ (by omega), g_up_n _ _ (by omega), g_up_n _ _ (by omega), g_up_n _ _ (by omega), g_up_n _ _ (by omega), g_up_n _ _ (by omega)]
      exact g_r1_n _ (by omega) (by omega) (by omega) (by omega)
    · unfold g_ha; simp only [q6, ej]
      rw [g_up_n _ _ (by omega), g_up_n _ _ (by omega), g_up_n _ _ (by omega), g_up_n _ _ (by omega), g_up_n _ _ (by omega), g_up_n _ _ (by omega), g_up_n _ _ (by omega), g_up_n _ _ (by omega), g_up_n _ _ (by omega), g_up_s]
    · unfold g_ha; simp only [q6, ej]
      rw [g_up_n _ _ (by omega), g_up_n _ _ (by omega), g_up_n _ _ (by omega), g_up_n _ _ (by omega), g_up_n _ _ (by omega), g_up_n _ _ (by omega), g_up_n _ _ (by omega), g_up_n _ _ (by omega), show 1184 + 5 * j = 1183 + 5 * j + 1 by omega, g_up_s]
    · rw [g_ha_h]
      unfold g_ha; simp only [q6, ej]
      rw [g_up_n _ _ (by omega), g_up_n _ _ (by omega), g_up_n _ _ (by omega), g_up_n _ _ (by omega), g_up_n _ _ (by omega), g_up_n _ _ (by omega), g_up_n _ _ (by omega), show 1185 + 5 * j = 1183 + 5 * j + 2 by omega, g_up_s]
    · rw [hc]
      unfold g_ha; simp only [q6, ej]
      rw [g_up_n _ _ (by omega), g_up_n _ _ (by omega), g_up_n _ _ (by omega), g_up_n _ _ (by omega), g_up_n _ _ (by omega), g_up_n _ _ (by omega), show 1186 + 5 * j = 1183 + 5 * j + 3 by omega, g_up_s]
    · rw [g_ha_m]
      unfold g_ha; simp only [q6, ej]
      rw [g_up_n _ _ (by omega), g_up_n _ _ (by omega), g_up_n _ _ (by omega), g_up_n _ _ (by omega), g_up_n _ _ (by omega), show 1187 + 5 * j = 1183 + 5 * j + 4 by omega, g_up_s]
      rfl
theorem q_AR.ext {I I' : q_I} {o : Nat} {r r' : Nat → Int} {a : Nat} (h : q_AR I o r a) (hI : ∀ k, I' o k = I o k) (hs : ∀ k, 1039 + 12 * a ≤ k → k ≤ 1050 + 12 * a → r' k = r k) : q_AR I' o r' a := by
  unfold q_AR
  rw [hI, hI, hI, hI, hI, hI, hI, hI, hI, hI, hI, hI, hs (1039 + 12 * a) (by omega) (by omega), hs (1040 + 12 * a) (by omega) (by omega), hs (1041 + 12 * a) (by omega) (by omega), hs (1042 + 12 * a) (by omega) (by omega), hs (1043 + 12 * a) (by omega) (by omega), hs (1044 + 12 * a) (by omega) (by omega), hs (1045 + 12 * a) (by omega) (by omega), hs (1046 + 12 * a) (by omega) (by omega), hs (1047 + 12 * a) (by omega) (by omega), hs (1048 + 12 * a) (by omega) (by omega), hs (1049 + 12 * a) (by omega) (by omega), hs (1050 + 12 * a) (by omega) (by omega)]
  exact h
def q_SW (T : q_T) (P : q_P) (w : Nat) : Prop := (T w = some (.inl 5)) ∧ (P w 0 = some (w + 1)) ∧ (q_SR T P (w + 1)) ∧ (P w 1 = some (w + 19)) ∧ (T (w + 19) = some (.inr (3, 12))) ∧ (∀ i : Nat, i < 12 → P (w + 19) i = some (w + 35 + i)) ∧ (∀ i : Nat, i < 12 → T (w + 35 + i) = some (.inl 0)) ∧ (P w 4 = some (w + 20)) ∧ (T (w + 20) = some (.inr (6, 12))) ∧ (∀ k : Nat, k < 12 → P (w + 20) k = some (w + 21 + k)) ∧ (∀ k : Nat, k < 12 → T (w + 21 + k) = some (.inr (0, 5))) ∧ (P w 6 = some (w + 33)) ∧ (T (w + 33) = some (.inr (1, 5))) ∧ (P w 7 = some (w + 34)) ∧ (T (w + 34) = some (.inr (1, 5)))
theorem q_SW.t0 {T : q_T} {P : q_P} {w : Nat} (h : q_SW T P w) : T w = some (.inl 5) := h.1
theorem q_SW.p0 {T : q_T} {P : q_P} {w : Nat} (h : q_SW T P w) : P w 0 = some (w + 1) := h.2.1
theorem q_SW.ru {T : q_T} {P : q_P} {w : Nat} (h : q_SW T P w) : q_SR T P (w + 1) := h.2.2.1
theorem q_SW.p1 {T : q_T} {P : q_P} {w : Nat} (h : q_SW T P w) : P w 1 = some (w + 19) := h.2.2.2.1
theorem q_SW.t19 {T : q_T} {P : q_P} {w : Nat} (h : q_SW T P w) : T (w + 19) = some (.inr (3, 12)) := h.2.2.2.2.1
theorem q_SW.pa {T : q_T} {P : q_P} {w : Nat} (h : q_SW T P w) : ∀ i : Nat, i < 12 → P (w + 19) i = some (w + 35 + i) := h.2.2.2.2.2.1
theorem q_SW.ta {T : q_T} {P : q_P} {w : Nat} (h : q_SW T P w) : ∀ i : Nat, i < 12 → T (w + 35 + i) = some (.inl 0) := h.2.2.2.2.2.2.1
theorem q_SW.p4 {T : q_T} {P : q_P} {w : Nat} (h : q_SW T P w) : P w 4 = some (w + 20) := h.2.2.2.2.2.2.2.1
theorem q_SW.t20 {T : q_T} {P : q_P} {w : Nat} (h : q_SW T P w) : T (w + 20) = some (.inr (6, 12)) := h.2.2.2.2.2.2.2.2.1
theorem q_SW.pk {T : q_T} {P : q_P} {w : Nat} (h : q_SW T P w) : ∀ k : Nat, k < 12 → P (w + 20) k = some (w + 21 + k) := h.2.2.2.2.2.2.2.2.2.1
theorem q_SW.tk {T : q_T} {P : q_P} {w : Nat} (h : q_SW T P w) : ∀ k : Nat, k < 12 → T (w + 21 + k) = some (.inr (0, 5)) := h.2.2.2.2.2.2.2.2.2.2.1
theorem q_SW.p6 {T : q_T} {P : q_P} {w : Nat} (h : q_SW T P w) : P w 6 = some (w + 33) := h.2.2.2.2.2.2.2.2.2.2.2.1
theorem q_SW.t33 {T : q_T} {P : q_P} {w : Nat} (h : q_SW T P w) : T (w + 33) = some (.inr (1, 5)) := h.2.2.2.2.2.2.2.2.2.2.2.2.1
theorem q_SW.p7 {T : q_T} {P : q_P} {w : Nat} (h : q_SW T P w) : P w 7 = some (w + 34) := h.2.2.2.2.2.2.2.2.2.2.2.2.2.1
theorem q_SW.t34 {T : q_T} {P : q_P} {w : Nat} (h : q_SW T P w) : T (w + 34) = some (.inr (1, 5)) := h.2.2.2.2.2.2.2.2.2.2.2.2.2.2
def q_WR (I : q_I) (L : q_I) (w : Nat) (r : Nat → Int) (mo : Int) : Prop := (I w 2 = r 1) ∧ (I w 3 = mo) ∧ (I w 5 = r 6) ∧ (g_sum (fun i => L (w + 35 + i) 16) (r 1).toNat = r 23) ∧ (q_RR I (w + 1) r) ∧ (∀ i : Nat, (i : Int) < r 1 → q_AR I (w + 35 + i) r i) ∧ (∀ k j : Nat, (k : Int) < r 6 → j < 5 → I (w + 21 + k) j = r (1183 + 5 * k + j)) ∧ (∀ l : Nat, l < 5 → L (w + 33) l = r (35 + 13 * l)) ∧ (∀ l : Nat, l < 5 → L (w + 34) l = r (36 + 13 * l)) ∧ (g_sum (fun i => L (w + 35 + i) 12) (r 1).toNat = r 17) ∧ (g_sum (fun i => L (w + 35 + i) 13) (r 1).toNat = r 18) ∧ (g_sum (fun i => L (w + 35 + i) 14) (r 1).toNat = r 19) ∧ (g_sum (fun i => L (w + 35 + i) 15) (r 1).toNat = r 20)
theorem q_WR.cnt {I : q_I} {L : q_I} {w : Nat} {r : Nat → Int} {mo : Int} (h : q_WR I L w r mo) : I w 2 = r 1 := h.1
theorem q_WR.mon {I : q_I} {L : q_I} {w : Nat} {r : Nat → Int} {mo : Int} (h : q_WR I L w r mo) : I w 3 = mo := h.2.1
theorem q_WR.rows {I : q_I} {L : q_I} {w : Nat} {r : Nat → Int} {mo : Int} (h : q_WR I L w r mo) : I w 5 = r 6 := h.2.2.1
theorem q_WR.cl {I : q_I} {L : q_I} {w : Nat} {r : Nat → Int} {mo : Int} (h : q_WR I L w r mo) : g_sum (fun i => L (w + 35 + i) 16) (r 1).toNat = r 23 := h.2.2.2.1
theorem q_WR.ru {I : q_I} {L : q_I} {w : Nat} {r : Nat → Int} {mo : Int} (h : q_WR I L w r mo) : q_RR I (w + 1) r := h.2.2.2.2.1
theorem q_WR.acc {I : q_I} {L : q_I} {w : Nat} {r : Nat → Int} {mo : Int} (h : q_WR I L w r mo) : ∀ i : Nat, (i : Int) < r 1 → q_AR I (w + 35 + i) r i := h.2.2.2.2.2.1
theorem q_WR.book {I : q_I} {L : q_I} {w : Nat} {r : Nat → Int} {mo : Int} (h : q_WR I L w r mo) : ∀ k j : Nat, (k : Int) < r 6 → j < 5 → I (w + 21 + k) j = r (1183 + 5 * k + j) := h.2.2.2.2.2.2.1
theorem q_WR.paid {I : q_I} {L : q_I} {w : Nat} {r : Nat → Int} {mo : Int} (h : q_WR I L w r mo) : ∀ l : Nat, l < 5 → L (w + 33) l = r (35 + 13 * l) := h.2.2.2.2.2.2.2.1
theorem q_WR.pass {I : q_I} {L : q_I} {w : Nat} {r : Nat → Int} {mo : Int} (h : q_WR I L w r mo) : ∀ l : Nat, l < 5 → L (w + 34) l = r (36 + 13 * l) := h.2.2.2.2.2.2.2.2.1
theorem q_WR.s17 {I : q_I} {L : q_I} {w : Nat} {r : Nat → Int} {mo : Int} (h : q_WR I L w r mo) : g_sum (fun i => L (w + 35 + i) 12) (r 1).toNat = r 17 := h.2.2.2.2.2.2.2.2.2.1
theorem q_WR.s18 {I : q_I} {L : q_I} {w : Nat} {r : Nat → Int} {mo : Int} (h : q_WR I L w r mo) : g_sum (fun i => L (w + 35 + i) 13) (r 1).toNat = r 18 := h.2.2.2.2.2.2.2.2.2.2.1
theorem q_WR.s19 {I : q_I} {L : q_I} {w : Nat} {r : Nat → Int} {mo : Int} (h : q_WR I L w r mo) : g_sum (fun i => L (w + 35 + i) 14) (r 1).toNat = r 19 := h.2.2.2.2.2.2.2.2.2.2.2.1
theorem q_WR.s20 {I : q_I} {L : q_I} {w : Nat} {r : Nat → Int} {mo : Int} (h : q_WR I L w r mo) : g_sum (fun i => L (w + 35 + i) 15) (r 1).toNat = r 20 := h.2.2.2.2.2.2.2.2.2.2.2.2
theorem q_WR.goes {M N I' L' : q_I} {w i : Nat} {R : Nat → Int} {mo nx : Int} (h : q_WR M N w R mo) (hv : g_V0 R) (hi : (i : Int) < R 1)
    (f1 : ∀ q k, w < q → q < w + 21 → I' q k = M q k) (f2 : I' w 2 = M w 2) (f3 : I' w 3 = M w 3) (f5 : I' w 5 = (g_goes R i nx).2 6)
    (fa : ∀ j k : Nat, j < 12 → j ≠ i → I' (w + 35 + j) k = M (w + 35 + j) k)
    (hb : ∀ k j : Nat, (k : Int) < (g_goes R i nx).2 6 → j < 5 → I' (w + 21 + k) j = (g_goes R i nx).2 (1183 + 5 * k + j))
    (fL : ∀ q k, q ≠ w + 35 + i → q ≠ w + 8 → L' q k = N q k) (hA : q_AR I' (w + 35 + i) (g_goes R i nx).2 i)
    (l12 : L' (w + 35 + i) 12 = N (w + 35 + i) 12) (l13 : L' (w + 35 + i) 13 = N (w + 35 + i) 13 + ((g_goes R i nx).2 18 - R 18)) (l14 : L' (w + 35 + i) 14 = N (w + 35 + i) 14) (l15 : L' (w + 35 + i) 15 = N (w + 35 + i) 15 + ((g_goes R i nx).2 20 - R 20)) (l16 : L' (w + 35 + i) 16 = N (w + 35 + i) 16) : q_WR I' L' w (g_goes R i nx).2 mo := by
  have hm := hv.many
  have hr := hv.rows
  have hl := hv.lands
  have gn : ∀ k, k < 1183 → k ≠ 6 → k ≠ 7 → k ≠ 18 → k ≠ 20 → k < 1042 + 12 * i ∨ 1050 + 12 * i < k → (g_goes R i nx).2 k = R k := fun k => g_goes_n hr.1
  have e1 := gn 1 (by omega) (by omega) (by omega) (by omega) (by omega) (by omega)
  refine ⟨?_, ?_, f5, ?_, ?_, fun j hj => ?_, hb, fun l hl5 => ?_, fun l hl5 => ?_, ?_, ?_, ?_, ?_⟩
  · rw [f2, e1]; exact h.cnt
  · rw [f3]; exact h.mon
  · rw [e1, gn 23 (by omega) (by omega) (by omega) (by omega) (by omega) (by omega), ← h.cl]
    refine g_sum_ext _ (fun j hj => ?_)
    by_cases e : j = i
    · subst e; exact l16
    · exact fL _ _ (by omega) (by omega)
  · exact h.ru.ext hv (fun q k x y => f1 q k (by omega) (by omega)) (g_goes_same hr.1)
  · rw [e1] at hj
    by_cases e : j = i
    · subst e; exact hA
    · exact (h.acc j hj).ext (fun k => fa j k (by omega) e) (fun k k1 k2 => gn k (by omega) (by omega) (by omega) (by omega) (by omega) (by omega))
  · rw [fL _ _ (by omega) (by omega), gn (35 + 13 * l) (by omega) (by omega) (by omega) (by omega) (by omega) (by omega)]; exact h.paid l hl5
  · rw [fL _ _ (by omega) (by omega), gn (36 + 13 * l) (by omega) (by omega) (by omega) (by omega) (by omega) (by omega)]; exact h.pass l hl5
  · rw [e1, gn 17 (by omega) (by omega) (by omega) (by omega) (by omega) (by omega), ← h.s17]
    refine g_sum_ext _ (fun j hj => ?_)
    by_cases e : j = i
    · subst e; exact l12
    · exact fL _ _ (by omega) (by omega)
  · rw [e1, g_sum_up (f := fun i => N (w + 35 + i) 13) (a := i) l13 _ (by omega) (fun j hj hn => fL _ _ (by omega) (by omega)), h.s18]; omega
  · rw [e1, gn 19 (by omega) (by omega) (by omega) (by omega) (by omega) (by omega), ← h.s19]
    refine g_sum_ext _ (fun j hj => ?_)
    by_cases e : j = i
    · subst e; exact l14
    · exact fL _ _ (by omega) (by omega)
  · rw [e1, g_sum_up (f := fun i => N (w + 35 + i) 15) (a := i) l15 _ (by omega) (fun j hj hn => fL _ _ (by omega) (by omega)), h.s20]; omega
set_option maxRecDepth 100000 in
theorem mX0_isWithBankR {G : q_G} {sz : Nat} {T : q_T} {I L : q_I} {P : q_P} {Q : q_Q} {o : Nat} {a : Nat} {r : Nat → Int} (hO : T o = some (.inl 0)) (hAR : q_AR I o r a) (hst : 0 ≤ r (1043 + 12 * a) ∧ r (1043 + 12 * a) ≤ 4) (k0 : Q (.inl (some (qI (q_b (r (1043 + 12 * a) = 0 ∨ r (1043 + 12 * a) = 1))))) sz T I L P) : qC G 0 0 0 YX0_isWithBank [.ref o] sz T I L P Q := by
  refine qC_of (by decide +kernel) rfl rfl (Nat.le_of_ble_eq_true rfl) (fun F hF _ _ => ?_)
  refine q_aload_n hF 0 rfl rfl dX0_isWithBank_0 ?_
  refine q_getIv hF (z := r (1043 + 12 * a)) fl_RX0_24 hO hAR.state dX0_isWithBank_1 ?_
  refine q_ifeq hF (by omega) dX0_isWithBank_4 (fun c4 => ?_) (fun c4 => ?_)
  · refine q_iconst hF dX0_isWithBank_15 ?_
    refine q_goto hF dX0_isWithBank_16 ?_
    refine q_zreturn hF (by decide) rfl dX0_isWithBank_20 ?_
    rw [q_b_t (c := r (1043 + 12 * a) = 0 ∨ r (1043 + 12 * a) = 1) (by omega)] at k0; exact k0
  · refine q_aload_n hF 0 rfl rfl dX0_isWithBank_7 ?_
    refine q_getIv hF (z := r (1043 + 12 * a)) fl_RX0_24 hO hAR.state dX0_isWithBank_8 ?_
    refine q_iconst hF dX0_isWithBank_11 ?_
    refine q_icmpne hF (by omega) (by decide) dX0_isWithBank_12 (fun c12 => ?_) (fun c12 => ?_)
    · refine q_iconst hF dX0_isWithBank_19 ?_
      refine q_zreturn hF (by decide) rfl dX0_isWithBank_20 ?_
      rw [q_b_f (c := r (1043 + 12 * a) = 0 ∨ r (1043 + 12 * a) = 1) (by omega)] at k0; exact k0
    · refine q_iconst hF dX0_isWithBank_15 ?_
      refine q_goto hF dX0_isWithBank_16 ?_
      refine q_zreturn hF (by decide) rfl dX0_isWithBank_20 ?_
      rw [q_b_t (c := r (1043 + 12 * a) = 0 ∨ r (1043 + 12 * a) = 1) (by omega)] at k0; exact k0
set_option maxRecDepth 100000 in
theorem mX6_writeRow {G : q_G} {sz : Nat} {T : q_T} {I L : q_I} {P : q_P} {Q : q_Q} {w : Nat} {av : Int} {o : Nat} {k : Nat} (hW : q_SW T P w) (hWA : q_A G w) (hO : T o = some (.inl 0)) (hk : I w 5 = (k : Int)) (hk2 : k < 12) (hz : I o 11 = 0 ∨ I o 11 = 1) (hsep : o < w + 21 ∨ w + 33 ≤ o) (k0 : (k : Int) < 12 → Q (.inl none) sz T (u2 (u2 (u2 (u2 (u2 (u2 I (w + 21 + k) 0 (I o 10)) (w + 21 + k) 1 av) (w + 21 + k) 2 (I o 9)) (w + 21 + k) 3 (I o 3)) (w + 21 + k) 4 (I o 11)) w 5 ((k : Int) + 1)) L P) : qC G 0 0 0 YX6_writeRow [.ref w, qI av, .ref o] sz T I L P Q := by
  refine qC_of (by decide +kernel) rfl rfl (Nat.le_of_ble_eq_true rfl) (fun F hF _ _ => ?_)
  refine q_aload_n hF 0 rfl rfl dX6_writeRow_0 ?_
  refine q_getIv hF (z := (k : Int)) fl_RX6_48 hW.t0 hk dX6_writeRow_1 ?_
  refine q_bipush hF (n := 12) rfl dX6_writeRow_4 ?_
  refine q_icmpge hF (by omega) (by decide) dX6_writeRow_6 (fun c6 => ?_) (fun c6 => ?_)
  · omega
  · refine q_aload_n hF 0 rfl rfl dX6_writeRow_9 ?_
    refine q_getA hF fl_RX6_26 rfl hW.t0 hW.p4 dX6_writeRow_10 ?_
    refine q_aload_n hF 0 rfl rfl dX6_writeRow_13 ?_
    refine q_getIv hF (z := (k : Int)) fl_RX6_48 hW.t0 hk dX6_writeRow_14 ?_
    refine q_aaloadv hF (b := w + 21 + k) k hW.t20 (by decide) rfl (by omega) (by decide) (hW.pk _ (by omega)) dX6_writeRow_17 ?_
    refine q_astore_n hF (ls' := [(3, .ref (w + 21 + k)), (0, .ref w), (1, qI av), (2, .ref o)]) rfl (by decide) rfl dX6_writeRow_18 ?_
    refine q_aload_n hF 0 rfl rfl dX6_writeRow_19 ?_
    refine q_iconst hF dX6_writeRow_20 ?_
    refine q_aload_n hF 3 rfl rfl dX6_writeRow_21 ?_
    refine q_getIv hF (z := I o 10) fl_RX6_75 hO rfl dX6_writeRow_22 ?_
    refine q_iastorev hF (n := 5) 0 (hW.tk _ (by omega)) (q_Ale hWA (by omega)) rfl (by decide) (by decide) dX6_writeRow_25 ?_
    refine q_aload_n hF 0 rfl rfl dX6_writeRow_26 ?_
    refine q_iconst hF dX6_writeRow_27 ?_
    refine q_iload_n hF 2 rfl rfl dX6_writeRow_28 ?_
    refine q_iastorev hF (n := 5) 1 (hW.tk _ (by omega)) (q_Ale hWA (by omega)) rfl (by decide) (by decide) dX6_writeRow_29 ?_
    refine q_aload_n hF 0 rfl rfl dX6_writeRow_30 ?_
    refine q_iconst hF dX6_writeRow_31 ?_
    refine q_aload_n hF 3 rfl rfl dX6_writeRow_32 ?_
    refine q_getIv hF (z := I o 9) fl_RX6_78 hO ((u2_k _ _ (by decide)).trans (u2_k _ _ (by decide))) dX6_writeRow_33 ?_
    refine q_iastorev hF (n := 5) 2 (hW.tk _ (by omega)) (q_Ale hWA (by omega)) rfl (by decide) (by decide) dX6_writeRow_36 ?_
    refine q_aload_n hF 0 rfl rfl dX6_writeRow_37 ?_
    refine q_iconst hF dX6_writeRow_38 ?_
    refine q_aload_n hF 3 rfl rfl dX6_writeRow_39 ?_
    refine q_getIv hF (z := I o 3) fl_RX6_81 hO ((u2_k _ _ (by decide)).trans ((u2_k _ _ (by decide)).trans (u2_k _ _ (by decide)))) dX6_writeRow_40 ?_
    refine q_iastorev hF (n := 5) 3 (hW.tk _ (by omega)) (q_Ale hWA (by omega)) rfl (by decide) (by decide) dX6_writeRow_43 ?_
    refine q_aload_n hF 0 rfl rfl dX6_writeRow_44 ?_
    refine q_iconst hF dX6_writeRow_45 ?_
    have hJ46 : qX G F Q 0 0 58 [(3, .ref (w + 21 + k)), (0, .ref w), (1, qI av), (2, .ref o)] [qI (I o 11), qI 4, .ref (w + 21 + k)] sz T (u2 (u2 (u2 (u2 I (w + 21 + k) 0 (I o 10)) (w + 21 + k) 1 av) (w + 21 + k) 2 (I o 9)) (w + 21 + k) 3 (I o 3)) L P := by
      refine q_iastorev hF (n := 5) 4 (hW.tk _ (by omega)) (q_Ale hWA (by omega)) rfl (by decide) (by decide) dX6_writeRow_58 ?_
      refine q_aload_n hF 1 rfl rfl dX6_writeRow_59 ?_
      refine q_dup hF rfl dX6_writeRow_60 ?_
      refine q_getIv hF (z := (k : Int)) fl_RX6_48 hW.t0 ((u2_k _ _ (by decide)).trans ((u2_k _ _ (by decide)).trans ((u2_k _ _ (by decide)).trans ((u2_k _ _ (by decide)).trans ((u2_k _ _ (by decide)).trans hk))))) dX6_writeRow_61 ?_
      refine q_iconst hF dX6_writeRow_64 ?_
      refine q_iadd hF dX6_writeRow_65 ?_
      refine q_putI hF fl_RX6_48 hW.t0 hWA dX6_writeRow_66 ?_
      refine q_return hF rfl dX6_writeRow_69 ?_
      exact k0 c6
    refine q_aload_n hF 3 rfl rfl dX6_writeRow_46 ?_
    refine q_getZv hF (z := I o 11) fl_RX6_84 hO ((u2_k _ _ (by decide)).trans ((u2_k _ _ (by decide)).trans ((u2_k _ _ (by decide)).trans (u2_k _ _ (by decide))))) dX6_writeRow_47 ?_
    refine q_ifeq hF (by omega) dX6_writeRow_50 (fun c50 => ?_) (fun c50 => ?_)
    · refine q_iconst hF dX6_writeRow_57 ?_
      rw [show (I o 11) = 0 from by omega] at hJ46; exact hJ46
    · refine q_iconst hF dX6_writeRow_53 ?_
      refine q_goto hF dX6_writeRow_54 ?_
      rw [show (I o 11) = 1 from by omega] at hJ46; exact hJ46
