/-! the class: one account of the world is changed -/
theorem q_WR.upd {M N I' L' : q_I} {w i : Nat} {R X : Nat → Int} {mo : Int} (h : q_WR M N w R mo) (hv : g_V0 R) (hi : (i : Int) < R 1)
    (hs : g_same R X) (x1 : X 1 = R 1) (x6 : X 6 = R 6) (xk : ∀ k, 1039 ≤ k → k < 1039 + 12 * i ∨ 1050 + 12 * i < k → X k = R k)
    (f1 : ∀ q k, q ≠ w + 35 + i → I' q k = M q k) (hA : q_AR I' (w + 35 + i) X i) (pd : ∀ l : Nat, l < 5 → L' (w + 33) l = X (35 + 13 * l)) (ps : ∀ l : Nat, l < 5 → L' (w + 34) l = X (36 + 13 * l))
    (fa : ∀ j k : Nat, j < 12 → j ≠ i → L' (w + 35 + j) k = N (w + 35 + j) k)
    (l12 : L' (w + 35 + i) 12 = N (w + 35 + i) 12 + (X 17 - R 17)) (l13 : L' (w + 35 + i) 13 = N (w + 35 + i) 13 + (X 18 - R 18)) (l14 : L' (w + 35 + i) 14 = N (w + 35 + i) 14 + (X 19 - R 19)) (l15 : L' (w + 35 + i) 15 = N (w + 35 + i) 15 + (X 20 - R 20)) (l16 : L' (w + 35 + i) 16 = N (w + 35 + i) 16 + (X 23 - R 23)) : q_WR I' L' w X mo := by
  have hm := hv.many
  have hr := hv.rows
  refine ⟨?_, ?_, ?_, ?_, ?_, fun j hj => ?_, fun k j hk hj => ?_, pd, ps, ?_, ?_, ?_, ?_⟩
  · rw [f1 _ _ (by omega), x1]; exact h.cnt
  · rw [f1 _ _ (by omega)]; exact h.mon
  · rw [f1 _ _ (by omega), x6]; exact h.rows
  · rw [x1, g_sum_up (f := fun i => N (w + 35 + i) 16) (a := i) l16 _ (by omega) (fun j hj hn => fa j _ (by omega) hn), h.cl]; omega
  · exact h.ru.ext hv (fun q k x y => f1 q k (by omega)) hs
  · rw [x1] at hj
    by_cases e : j = i
    · subst e; exact hA
    · exact (h.acc j hj).ext (fun k => f1 _ k (by omega)) (fun k k1 k2 => xk k (by omega) (by omega))
  · rw [x6] at hk
    rw [f1 _ _ (by omega), xk _ (by omega) (by omega)]; exact h.book k j hk hj
  · rw [x1, g_sum_up (f := fun i => N (w + 35 + i) 12) (a := i) l12 _ (by omega) (fun j hj hn => fa j _ (by omega) hn), h.s17]; omega
  · rw [x1, g_sum_up (f := fun i => N (w + 35 + i) 13) (a := i) l13 _ (by omega) (fun j hj hn => fa j _ (by omega) hn), h.s18]; omega
  · rw [x1, g_sum_up (f := fun i => N (w + 35 + i) 14) (a := i) l14 _ (by omega) (fun j hj hn => fa j _ (by omega) hn), h.s19]; omega
  · rw [x1, g_sum_up (f := fun i => N (w + 35 + i) 15) (a := i) l15 _ (by omega) (fun j hj hn => fa j _ (by omega) hn), h.s20]; omega
/-- the relation is of the world's own region alone -/
theorem q_WR.fr {I L I' L' : q_I} {w : Nat} {r : Nat → Int} {mo : Int} (h : q_WR I L w r mo) (hv : g_V0 r) (fI : ∀ q k, w ≤ q → q < w + 47 → I' q k = I q k) (fL : ∀ q k, w ≤ q → q < w + 47 → q ≠ w + 8 → L' q k = L q k) : q_WR I' L' w r mo := by
  have hm := hv.many
  have hr := hv.rows
  refine ⟨by rw [fI _ _ (by omega) (by omega)]; exact h.cnt, by rw [fI _ _ (by omega) (by omega)]; exact h.mon, by rw [fI _ _ (by omega) (by omega)]; exact h.rows, ?_, h.ru.ext hv (fun q k x y => fI q k (by omega) (by omega)) (g_same.rf r), fun j hj => (h.acc j hj).ext (fun k => fI _ k (by omega) (by omega)) (fun _ _ _ => rfl), fun k j hk hj => by rw [fI _ _ (by omega) (by omega)]; exact h.book k j hk hj, fun l hl => by rw [fL _ _ (by omega) (by omega) (by omega)]; exact h.paid l hl, fun l hl => by rw [fL _ _ (by omega) (by omega) (by omega)]; exact h.pass l hl, ?_, ?_, ?_, ?_⟩
  · rw [← h.cl]; exact g_sum_ext _ (fun j hj => fL _ _ (by omega) (by omega) (by omega))
  · rw [← h.s17]; exact g_sum_ext _ (fun j hj => fL _ _ (by omega) (by omega) (by omega))
  · rw [← h.s18]; exact g_sum_ext _ (fun j hj => fL _ _ (by omega) (by omega) (by omega))
  · rw [← h.s19]; exact g_sum_ext _ (fun j hj => fL _ _ (by omega) (by omega) (by omega))
  · rw [← h.s20]; exact g_sum_ext _ (fun j hj => fL _ _ (by omega) (by omega) (by omega))
/-! letters sent: the row's own count is the sum over its accounts -/
def g_SL (r : Nat → Int) : Prop := r 7 = g_sum (fun i => r (1046 + 12 * i)) (r 1).toNat
theorem g_SL.ext {r x : Nat → Int} (h : g_SL r) (h7 : x 7 = r 7) (h1 : x 1 = r 1) (hk : ∀ i : Nat, (i : Int) < r 1 → x (1046 + 12 * i) = r (1046 + 12 * i)) : g_SL x := by
  unfold g_SL
  rw [h7, h1, h]
  exact g_sum_ext _ (fun i hi => (hk i (by omega)).symm)
theorem g_SL.goes {r : Nat → Int} (h : g_SL r) {a : Nat} {nx : Int} (h6 : 0 ≤ r 6) (ha : (a : Int) < r 1) (h12 : r 1 ≤ 12) : g_SL (g_goes r a nx).2 := by
  have e1 := g_goes_n (r := r) (a := a) (k := 1) (nx := nx) h6 (by omega) (by omega) (by omega) (by omega) (by omega) (by omega)
  have r7 : g_r1 r a 7 = r 7 := g_r1_n _ (by omega) (by omega) (by omega) (by omega)
  have rw_ : ∀ i, g_r1 r a (1046 + 12 * i) = r (1046 + 12 * i) := fun i => g_r1_n _ (by omega) (by omega) (by omega) (by omega)
  have r11 : g_r1 r a 1 = r 1 := g_r1_n _ (by omega) (by omega) (by omega) (by omega)
  rcases g_goes_cases r a nx with ⟨-, e⟩ | ⟨-, e⟩ | ⟨-, e⟩ | ⟨-, -, e⟩
  · rw [e]; exact h
  · rw [e]; exact h.ext r7 r11 (fun i _ => rw_ i)
  · rw [e] at e1 ⊢
    show g_SL (g_wr (g_r1 r a) a nx)
    have w7 : g_wr (g_r1 r a) a nx 7 = r 7 + 1 := by
      unfold g_wr
      rw [g_up_s, r7]
    have e1 : g_wr (g_r1 r a) a nx 1 = r 1 := e1
    unfold g_SL
    rw [w7, e1, g_sum_up (f := fun i => r (1046 + 12 * i)) (g := fun i => g_wr (g_r1 r a) a nx (1046 + 12 * i)) (a := a) (d := 1) (by rw [g_wr_w, rw_]) _ (by omega) (fun i hi hn => by rw [g_wr_n _ (by omega) (by omega) (by omega) (by omega) (by omega) (by omega), rw_]), ← h]
  · rw [e]
    have q6 : g_r1 r a 6 = r 6 := g_r1_n _ (by omega) (by omega) (by omega) (by omega)
    exact h.ext ((g_ha_n _ (by omega) (by omega) (by omega) (by omega) (by omega) (by omega) (by omega)).trans r7) ((g_ha_n _ (by omega) (by omega) (by omega) (by omega) (by omega) (by omega) (by omega)).trans r11) (fun i hi => (g_ha_n _ (by omega) (by omega) (by omega) (by omega) (by omega) (by omega) (by omega)).trans (rw_ i))
