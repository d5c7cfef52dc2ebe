/-! constructors -/
def g_new : Nat → Int := g_up g_begin 5 (-1)
theorem q_upTm_h (T : q_T) (sz t n t2 k : Nat) : q_upTm T sz t n t2 k sz = some (.inr (t, n)) := if_pos rfl
theorem q_upTm_i (T : q_T) {sz t n t2 k q : Nat} (h : sz + 1 ≤ q ∧ q < sz + 1 + n) : q_upTm T sz t n t2 k q = some (.inr (t2, k)) := by
  unfold q_upTm; rw [if_neg (by omega), if_pos h]
theorem q_upTm_n (T : q_T) {sz t n t2 k q : Nat} (h : q < sz ∨ sz + 1 + n ≤ q) : q_upTm T sz t n t2 k q = T q := by
  unfold q_upTm; rw [if_neg (by omega), if_neg (by omega)]
theorem q_upPm_i (P : q_P) {sz n j : Nat} (h : j < n) : q_upPm P sz n sz j = some (sz + 1 + j) := if_pos ⟨rfl, h⟩
theorem q_upPm_n (P : q_P) {sz n q j : Nat} (h : q ≠ sz) : q_upPm P sz n q j = P q j := if_neg (fun e => h e.1)
theorem q_SR.mvT {T T' : q_T} {P P' : q_P} {u : Nat} (h : q_SR T P u) (hT : ∀ q, u ≤ q → q < u + 18 → T' q = T q) (hP : ∀ q k, u ≤ q → q < u + 18 → P' q k = P q k) : q_SR T' P' u :=
  q_SR.mv ⟨(hT _ (by omega) (by omega)).trans h.t0, h.p0, (hT _ (by omega) (by omega)).trans h.t1, h.p2, (hT _ (by omega) (by omega)).trans h.t2, h.p6, (hT _ (by omega) (by omega)).trans h.t3, h.p8, (hT _ (by omega) (by omega)).trans h.t4, h.p9, (hT _ (by omega) (by omega)).trans h.t5, h.p10, (hT _ (by omega) (by omega)).trans h.t6, h.p12, (hT _ (by omega) (by omega)).trans h.t7, h.pl, fun l hl => (hT _ (by omega) (by omega)).trans (h.tl l hl), h.pn, fun l hl => (hT _ (by omega) (by omega)).trans (h.tn l hl)⟩ hP
theorem q_SW.mvT {T T' : q_T} {P P' : q_P} {w : Nat} (h : q_SW T P w) (hT : ∀ q, w ≤ q → q < w + 47 → T' q = T q) (hP : ∀ q k, w ≤ q → q < w + 47 → P' q k = P q k) : q_SW T' P' w :=
  q_SW.mv ⟨(hT _ (by omega) (by omega)).trans h.t0, h.p0, h.ru.mvT (fun q h1 h2 => hT q (by omega) (by omega)) (fun _ _ _ _ => rfl), h.p1, (hT _ (by omega) (by omega)).trans h.t19, h.pa, fun i hi => (hT _ (by omega) (by omega)).trans (h.ta i hi), h.p4, (hT _ (by omega) (by omega)).trans h.t20, h.pk, fun k hk => (hT _ (by omega) (by omega)).trans (h.tk k hk), h.p6, (hT _ (by omega) (by omega)).trans h.t33, h.p7, (hT _ (by omega) (by omega)).trans h.t34⟩ hP
theorem g_new_law (k : Nat) (h : 30 ≤ k) : g_new k = 0 := by
  unfold g_new g_begin g_up
  rw [if_neg (by omega), if_neg (by omega), if_neg (by omega), if_neg (by omega), if_neg (by omega), if_neg (by omega)]
theorem q_clr_7 (I : q_I) (u : Nat) : q_clr I u u 7 = 0 := by
  unfold q_clr
  rw [q_fl_a _ _ (by omega), q_fl_a _ _ (by omega), q_fl_a _ _ (by omega)]
  simp [u2]
theorem q_clr_x (I : q_I) (u : Nat) {j : Nat} : q_clr I u u j = (u2 (u2 (u2 (u2 (u2 (u2 I u 1 0) u 3 (-1)) u 4 (-1)) u 5 (-1)) u 7 0) u 11 0) u j := by
  unfold q_clr
  rw [q_fl_a _ _ (by omega), q_fl_a _ _ (by omega), q_fl_a _ _ (by omega)]
theorem q_clr_f (I : q_I) (u : Nat) {q j : Nat} (h : q < u ∨ u + 6 ≤ q) : q_clr I u q j = I q j := by
  unfold q_clr
  rw [q_fl_a _ _ (by omega), q_fl_a _ _ (by omega), q_fl_a _ _ (by omega), u2_a _ _ (by omega), u2_a _ _ (by omega), u2_a _ _ (by omega), u2_a _ _ (by omega), u2_a _ _ (by omega), u2_a _ _ (by omega)]
theorem q_clr_3 (I : q_I) (u : Nat) {j : Nat} : q_clr I u (u + 3) j = I (u + 3) j := by
  unfold q_clr
  rw [q_fl_a _ _ (by omega), q_fl_a _ _ (by omega), q_fl_a _ _ (by omega), u2_a _ _ (by omega), u2_a _ _ (by omega), u2_a _ _ (by omega), u2_a _ _ (by omega), u2_a _ _ (by omega), u2_a _ _ (by omega)]
theorem q_tl1_f (I : q_I) (u : Nat) {q j : Nat} (h : q ≠ u) : q_tl1 I u q j = I q j := by
  unfold q_tl1
  rw [u2_a _ _ h, u2_a _ _ h, u2_a _ _ h]
theorem q_tl2_f (I : q_I) (u : Nat) {q j : Nat} (h : q ≠ u) (h3 : q ≠ u + 3) : q_tl2 I u q j = I q j := by
  unfold q_tl2
  rw [u2_a _ _ h, u2_a _ _ h3, u2_a _ _ h, u2_a _ _ h3, u2_a _ _ h, u2_a _ _ h3, q_tl1_f I u h]
theorem q_tl2_3 (I : q_I) (u : Nat) {j : Nat} (h : j < 3) : q_tl2 I u (u + 3) j = (j : Int) := by
  unfold q_tl2
  rcases (show j = 0 ∨ j = 1 ∨ j = 2 by omega) with rfl | rfl | rfl <;> simp [u2]
theorem q_tld_f (I : q_I) (u : Nat) {q j : Nat} (h : q ≠ u) (h2 : q ≠ u + 2) (h3 : q ≠ u + 3) : q_tld I u q j = I q j := by
  unfold q_tld
  rw [q_pd_a _ _ h2]
  split
  · exact q_tl2_f I u h h3
  · exact q_tl1_f I u h
theorem q_new_RR {I : q_I} {u : Nat} (hz : ∀ q j, u ≤ q → I q j = 0) : q_RR (q_tld (q_clr I u) u) u g_new := by
  have e0 : ∀ j, q_tld (q_clr I u) u u j = q_tl2 (q_clr I u) u u j := fun j => by
    unfold q_tld
    rw [q_pd_a _ _ (by omega), if_pos (q_clr_7 I u)]
  have e1 : ∀ j, j ≠ 7 → q_tl2 (q_clr I u) u u j = q_tl1 (q_clr I u) u u j := fun j hj => by
    unfold q_tl2
    rw [u2_k _ _ hj, u2_a _ _ (by omega), u2_k _ _ hj, u2_a _ _ (by omega), u2_k _ _ hj, u2_a _ _ (by omega)]
  have c1 : q_clr I u u 1 = 0 := by rw [q_clr_x]; simp [u2]
  have c3 : q_clr I u u 3 = -1 := by rw [q_clr_x]; simp [u2]
  have c4 : q_clr I u u 4 = -1 := by rw [q_clr_x]; simp [u2]
  have c5 : q_clr I u u 5 = -1 := by rw [q_clr_x]; simp [u2]
  have c11 : q_clr I u u 11 = 0 := by rw [q_clr_x]; simp [u2]
  refine ⟨?_, ?_, ?_, ?_, ?_, ?_, ?_, ?_, ?_, ?_, ?_, ?_⟩
  · rw [e0, e1 _ (by decide)]; unfold q_tl1; rw [u2_k _ _ (by decide), u2_k _ _ (by decide), u2_k _ _ (by decide), c1]; rfl
  · rw [e0, e1 _ (by decide)]; unfold q_tl1; rw [u2_k _ _ (by decide), u2_k _ _ (by decide), u2_s, c3, if_pos rfl]; rfl
  · rw [e0, e1 _ (by decide)]; unfold q_tl1; rw [u2_k _ _ (by decide), u2_s, c4, if_pos rfl]; rfl
  · rw [e0, e1 _ (by decide)]; unfold q_tl1; rw [u2_s, c5, c1, if_neg (by omega)]; rfl
  · rw [e0]; unfold q_tl2; rw [u2_s]; rfl
  · intro k hk
    unfold q_tld
    rw [q_pd_t _ _ hk, if_pos (q_clr_7 I u), q_tl2_f _ _ (by omega) (by omega)]
    have : q_clr I u (u + 2) k = -1 := by
      unfold q_clr
      rw [q_fl_a _ _ (by omega), q_fl_a _ _ (by omega), q_fl_t _ _ hk]
    rw [this, if_pos rfl]
    rcases (show k = 0 ∨ k = 1 ∨ k = 2 ∨ k = 3 ∨ k = 4 by omega) with rfl | rfl | rfl | rfl | rfl <;> rfl
  · intro k hk
    have hk : (k : Int) < 3 := hk
    unfold q_tld
    rw [q_pd_a _ _ (by omega), if_pos (q_clr_7 I u), q_tl2_3 _ _ (by omega)]
    rcases (show k = 0 ∨ k = 1 ∨ k = 2 by omega) with rfl | rfl | rfl <;> rfl
  · intro l hl
    have hl : (l : Int) < 0 := hl
    omega
  · intro l j hl
    have hl : (l : Int) < 0 := hl
    omega
  · intro q hq _
    rw [q_tld_f _ _ (by omega) (by omega) (by omega)]
    unfold q_clr
    rw [q_fl_a _ _ (by omega), q_fl_t _ _ hq]
  · intro q hq h
    rw [g_new_law _ (by omega)] at h
    omega
  · refine ⟨?_, ?_, fun q hq h => ?_⟩
    · rw [e0, e1 _ (by decide)]; unfold q_tl1; rw [u2_k _ _ (by decide), u2_k _ _ (by decide), u2_k _ _ (by decide), c11]; decide
    · rw [e0, e1 _ (by decide)]; unfold q_tl1; rw [u2_k _ _ (by decide), u2_k _ _ (by decide), u2_k _ _ (by decide), c11]; decide
    · rw [g_new_law _ (by omega)] at h
      omega
theorem q_tldclr_f {I : q_I} {u q j : Nat} (h : q < u ∨ u + 6 ≤ q) : q_tld (q_clr I u) u q j = I q j := by
  rw [q_tld_f _ _ (by omega) (by omega) (by omega), q_clr_f _ _ h]
set_option maxRecDepth 100000 in
theorem mX2_init {G : q_G} {T : q_T} {I L : q_I} {P : q_P} {Q : q_Q} {a : Nat} (hT : T a = some (.inl 2)) (hA : q_A G a) (hZ : q_F0 a I L P) (k0 : Q (.inl none) (a + 2) (q_upT T (a + 1) (.inr (0, 6))) I L (u2 P a 0 (some (a + 1)))) : qC G 0 1 6 YX2_init [.ref a] (a + 1) T I L P Q := by
  refine qC_of (by decide +kernel) rfl rfl (Nat.le_of_ble_eq_true rfl) (fun F hF _ _ => ?_)
  refine q_aload_n hF 0 rfl rfl dX2_init_0 ?_
  refine q_objInit hF (q_mem 91 (by decide +kernel) rfl) (q_mem 71 (by decide +kernel) rfl) (q_mem 72 (by decide +kernel) rfl) (Nat.le_of_ble_eq_true rfl) dX2_init_1 ?_
  refine q_aload_n hF 0 rfl rfl dX2_init_4 ?_
  refine q_bipush hF (n := 6) rfl dX2_init_5 ?_
  refine q_newaI hF (s' := a + 2) (kc := 0) (ks := 0) (n := 6) (q_mem 124 (by decide +kernel) rfl) (fun j => (hZ _ _ (by omega)).1) (fun j => (hZ _ _ (by omega)).2.1) dX2_init_7 rfl ?_
  refine q_putF hF fl_RX2_9 rfl rfl rfl rfl ((q_upT_n _ _ (by omega)).trans hT) hA dX2_init_9 ?_
  refine q_return hF rfl dX2_init_12 ?_
  exact k0
set_option maxRecDepth 100000 in
theorem mX4_init {G : q_G} {T : q_T} {I L : q_I} {P : q_P} {Q : q_Q} {u : Nat} (hT : T u = some (.inl 4)) (hA : q_A G u) (hZ : q_F0 u I L P) (k0 : ∀ (T9 : q_T) (I9 : q_I) (P9 : q_P), q_ex u (u + 18) T I L P T9 I9 L P9 → q_SR T9 P9 u → q_RR I9 u g_new → Q (.inl none) (u + 18) T9 I9 L P9) : qC G 3 17 755 YX4_init [.ref u] (u + 1) T I L P Q := by
  refine qC_of (by decide +kernel) rfl rfl (Nat.le_of_ble_eq_true rfl) (fun F hF _ _ => ?_)
  refine q_aload_n hF 0 rfl rfl dX4_init_0 ?_
  refine q_objInit hF (q_mem 84 (by decide +kernel) rfl) (q_mem 71 (by decide +kernel) rfl) (q_mem 72 (by decide +kernel) rfl) (Nat.le_of_ble_eq_true rfl) dX4_init_1 ?_
  refine q_aload_n hF 0 rfl rfl dX4_init_4 ?_
  refine q_iconst hF dX4_init_5 ?_
  refine q_newr hF (s' := u + 2) (kc := 16) (ks := 750) (t := 2) (n := 5) rfl (by decide) (by decide) (q_mem 85 (by decide +kernel) rfl) q_aO2 (by decide) (fun j => (hZ _ _ (by omega)).2.2) dX4_init_6 rfl ?_
  refine q_putF hF fl_RX4_11 rfl rfl rfl rfl ((q_upT_n _ _ (by omega)).trans hT) hA dX4_init_9 ?_
  refine q_aload_n hF 0 rfl rfl dX4_init_12 ?_
  refine q_iconst hF dX4_init_13 ?_
  refine q_newaI hF (s' := u + 3) (kc := 15) (ks := 745) (n := 5) (q_mem 124 (by decide +kernel) rfl) (fun j => (hZ _ _ (by omega)).1) (fun j => (hZ _ _ (by omega)).2.1) dX4_init_14 rfl ?_
  refine q_putF hF fl_RX4_17 rfl rfl rfl rfl ((q_upT_n _ _ (by omega)).trans ((q_upT_n _ _ (by omega)).trans hT)) hA dX4_init_16 ?_
  refine q_aload_n hF 0 rfl rfl dX4_init_19 ?_
  refine q_iconst hF dX4_init_20 ?_
  refine q_newaI hF (s' := u + 4) (kc := 14) (ks := 742) (n := 3) (q_mem 124 (by decide +kernel) rfl) (fun j => (hZ _ _ (by omega)).1) (fun j => (hZ _ _ (by omega)).2.1) dX4_init_21 rfl ?_
  refine q_putF hF fl_RX4_21 rfl rfl rfl rfl ((q_upT_n _ _ (by omega)).trans ((q_upT_n _ _ (by omega)).trans ((q_upT_n _ _ (by omega)).trans hT))) hA dX4_init_23 ?_
  refine q_aload_n hF 0 rfl rfl dX4_init_26 ?_
  refine q_bipush hF (n := 25) rfl dX4_init_27 ?_
  refine q_newaI hF (s' := u + 5) (kc := 13) (ks := 717) (n := 25) (q_mem 124 (by decide +kernel) rfl) (fun j => (hZ _ _ (by omega)).1) (fun j => (hZ _ _ (by omega)).2.1) dX4_init_29 rfl ?_
  refine q_putF hF fl_RX4_24 rfl rfl rfl rfl ((q_upT_n _ _ (by omega)).trans ((q_upT_n _ _ (by omega)).trans ((q_upT_n _ _ (by omega)).trans ((q_upT_n _ _ (by omega)).trans hT)))) hA dX4_init_31 ?_
  refine q_aload_n hF 0 rfl rfl dX4_init_34 ?_
  refine q_bipush hF (n := 25) rfl dX4_init_35 ?_
  refine q_newaI hF (s' := u + 6) (kc := 12) (ks := 692) (n := 25) (q_mem 124 (by decide +kernel) rfl) (fun j => (hZ _ _ (by omega)).1) (fun j => (hZ _ _ (by omega)).2.1) dX4_init_37 rfl ?_
  refine q_putF hF fl_RX4_27 rfl rfl rfl rfl ((q_upT_n _ _ (by omega)).trans ((q_upT_n _ _ (by omega)).trans ((q_upT_n _ _ (by omega)).trans ((q_upT_n _ _ (by omega)).trans ((q_upT_n _ _ (by omega)).trans hT))))) hA dX4_init_39 ?_
  refine q_aload_n hF 0 rfl rfl dX4_init_42 ?_
  refine q_sipush hF (n := 600) rfl dX4_init_43 ?_
  refine q_newaI hF (s' := u + 7) (kc := 11) (ks := 92) (n := 600) (q_mem 124 (by decide +kernel) rfl) (fun j => (hZ _ _ (by omega)).1) (fun j => (hZ _ _ (by omega)).2.1) dX4_init_46 rfl ?_
  refine q_putF hF fl_RX4_30 rfl rfl rfl rfl ((q_upT_n _ _ (by omega)).trans ((q_upT_n _ _ (by omega)).trans ((q_upT_n _ _ (by omega)).trans ((q_upT_n _ _ (by omega)).trans ((q_upT_n _ _ (by omega)).trans ((q_upT_n _ _ (by omega)).trans hT)))))) hA dX4_init_48 ?_
  refine q_aload_n hF 0 rfl rfl dX4_init_51 ?_
  refine q_bipush hF (n := 32) rfl dX4_init_52 ?_
  refine q_newaL hF (s' := u + 8) (kc := 10) (ks := 60) (n := 32) (q_mem 125 (by decide +kernel) rfl) (fun j => (hZ _ _ (by omega)).1) (fun j => (hZ _ _ (by omega)).2.1) dX4_init_54 rfl ?_
  refine q_putF hF fl_RX4_33 rfl rfl rfl rfl ((q_upT_n _ _ (by omega)).trans ((q_upT_n _ _ (by omega)).trans ((q_upT_n _ _ (by omega)).trans ((q_upT_n _ _ (by omega)).trans ((q_upT_n _ _ (by omega)).trans ((q_upT_n _ _ (by omega)).trans ((q_upT_n _ _ (by omega)).trans hT))))))) hA dX4_init_56 ?_
  refine q_iconst hF dX4_init_59 ?_
  refine q_istore_n hF (ls' := [(1, qI 0), (0, .ref u)]) rfl (by decide) rfl dX4_init_60 ?_
  refine q_iload_n hF 0 rfl rfl dX4_init_61 ?_
  refine q_iconst hF dX4_init_62 ?_
  refine q_icmpge hF (by decide) (by decide) dX4_init_63 (fun c63 => ?_) (fun c63 => ?_)
  · exact absurd c63 (by decide)
  · refine q_aload_n hF 1 rfl rfl dX4_init_66 ?_
    refine q_getA hF fl_RX4_11 rfl ((q_upT_n _ _ (by omega)).trans ((q_upT_n _ _ (by omega)).trans ((q_upT_n _ _ (by omega)).trans ((q_upT_n _ _ (by omega)).trans ((q_upT_n _ _ (by omega)).trans ((q_upT_n _ _ (by omega)).trans ((q_upT_n _ _ (by omega)).trans hT))))))) ((u2_k _ _ (by decide)).trans ((u2_k _ _ (by decide)).trans ((u2_k _ _ (by decide)).trans ((u2_k _ _ (by decide)).trans ((u2_k _ _ (by decide)).trans ((u2_k _ _ (by decide)).trans (u2_s _ _ _ _))))))) dX4_init_67 ?_
    refine q_iload_n hF 0 rfl rfl dX4_init_70 ?_
    refine q_newo hF (s' := u + 9) (kc := 9) (ks := 54) (ci := 2) (N := 6) ⟨_, rfl, rfl, (q_mem 85 (by decide +kernel) rfl), (q_mem 87 (by decide +kernel) rfl), (q_mem 43 (by decide +kernel) rfl)⟩ (fun j => (hZ _ _ (by omega)).1) (fun j => (hZ _ _ (by omega)).2.1) (fun j => ((u2_a _ _ (by omega)).trans ((u2_a _ _ (by omega)).trans ((u2_a _ _ (by omega)).trans ((u2_a _ _ (by omega)).trans ((u2_a _ _ (by omega)).trans ((u2_a _ _ (by omega)).trans ((u2_a _ _ (by omega)).trans (hZ _ _ (by omega)).2.2)))))))) dX4_init_71 rfl ?_
    refine q_dup hF rfl dX4_init_74 ?_
    refine q_callC (kc := 8) (ks := 48) (mc' := 1) (ms' := 6) (h' := 0) (st := [.ref (u + 8), qI 0, .ref (u + 1)]) hF cl_RX4_37 rfl [] rfl rfl (by decide) (Nat.le_of_ble_eq_true rfl) dX4_init_75 ?_
    refine mX2_init (q_upT_s _ _ _) (q_Ale hA (by omega)) (fun q j hq => ⟨(hZ _ _ (by omega)).1, (hZ _ _ (by omega)).2.1, ((u2_a _ _ (by omega)).trans ((u2_a _ _ (by omega)).trans ((u2_a _ _ (by omega)).trans ((u2_a _ _ (by omega)).trans ((u2_a _ _ (by omega)).trans ((u2_a _ _ (by omega)).trans ((u2_a _ _ (by omega)).trans (hZ _ _ (by omega)).2.2)))))))⟩) ?_
    refine q_aastorev hF (n := 5) (ci := 2) 0 ((q_upT_n _ _ (by omega)).trans ((q_upT_n _ _ (by omega)).trans ((q_upT_n _ _ (by omega)).trans ((q_upT_n _ _ (by omega)).trans ((q_upT_n _ _ (by omega)).trans ((q_upT_n _ _ (by omega)).trans ((q_upT_n _ _ (by omega)).trans ((q_upT_n _ _ (by omega)).trans (q_upT_s _ _ _))))))))) ((q_upT_n _ _ (by omega)).trans (q_upT_s _ _ _)) rfl rfl (q_Ale hA (by omega)) rfl (by decide) (by decide) dX4_init_78 ?_
    show qX G F Q 8 48 79 [(1, qI 0), (0, .ref u)] [] (u + 10) (q_upT (q_upT (q_upT (q_upT (q_upT (q_upT (q_upT (q_upT (q_upT T (u + 1) (.inr (2, 5))) (u + 2) (.inr (0, 5))) (u + 3) (.inr (0, 3))) (u + 4) (.inr (0, 25))) (u + 5) (.inr (0, 25))) (u + 6) (.inr (0, 600))) (u + 7) (.inr (1, 32))) (u + 8) (.inl 2)) (u + 9) (.inr (0, 6))) I L (u2 (u2 (u2 (u2 (u2 (u2 (u2 (u2 (u2 P u 0 (some (u + 1))) u 2 (some (u + 2))) u 6 (some (u + 3))) u 8 (some (u + 4))) u 9 (some (u + 5))) u 10 (some (u + 6))) u 12 (some (u + 7))) (u + 8) 0 (some (u + 9))) (u + 1) 0 (some (u + 8)))
    refine q_iinc hF (z' := 1) (ls' := [(1, qI 1), (0, .ref u)]) 0 rfl (by first | rfl | omega) (by decide) rfl dX4_init_79 ?_
    refine q_goto hF dX4_init_82 ?_
    refine q_iload_n hF 0 rfl rfl dX4_init_61 ?_
    refine q_iconst hF dX4_init_62 ?_
    refine q_icmpge hF (by decide) (by decide) dX4_init_63 (fun c63 => ?_) (fun c63 => ?_)
    · exact absurd c63 (by decide)
    · refine q_aload_n hF 1 rfl rfl dX4_init_66 ?_
      refine q_getA hF fl_RX4_11 rfl ((q_upT_n _ _ (by omega)).trans ((q_upT_n _ _ (by omega)).trans ((q_upT_n _ _ (by omega)).trans ((q_upT_n _ _ (by omega)).trans ((q_upT_n _ _ (by omega)).trans ((q_upT_n _ _ (by omega)).trans ((q_upT_n _ _ (by omega)).trans ((q_upT_n _ _ (by omega)).trans ((q_upT_n _ _ (by omega)).trans hT))))))))) ((u2_a _ _ (by omega)).trans ((u2_a _ _ (by omega)).trans ((u2_k _ _ (by decide)).trans ((u2_k _ _ (by decide)).trans ((u2_k _ _ (by decide)).trans ((u2_k _ _ (by decide)).trans ((u2_k _ _ (by decide)).trans ((u2_k _ _ (by decide)).trans (u2_s _ _ _ _))))))))) dX4_init_67 ?_
      refine q_iload_n hF 0 rfl rfl dX4_init_70 ?_
      refine q_newo hF (s' := u + 11) (kc := 7) (ks := 42) (ci := 2) (N := 6) ⟨_, rfl, rfl, (q_mem 85 (by decide +kernel) rfl), (q_mem 87 (by decide +kernel) rfl), (q_mem 43 (by decide +kernel) rfl)⟩ (fun j => (hZ _ _ (by omega)).1) (fun j => (hZ _ _ (by omega)).2.1) (fun j => ((u2_a _ _ (by omega)).trans ((u2_a _ _ (by omega)).trans ((u2_a _ _ (by omega)).trans ((u2_a _ _ (by omega)).trans ((u2_a _ _ (by omega)).trans ((u2_a _ _ (by omega)).trans ((u2_a _ _ (by omega)).trans ((u2_a _ _ (by omega)).trans ((u2_a _ _ (by omega)).trans (hZ _ _ (by omega)).2.2)))))))))) dX4_init_71 rfl ?_
      refine q_dup hF rfl dX4_init_74 ?_
      refine q_callC (kc := 6) (ks := 36) (mc' := 1) (ms' := 6) (h' := 0) (st := [.ref (u + 10), qI 1, .ref (u + 1)]) hF cl_RX4_37 rfl [] rfl rfl (by decide) (Nat.le_of_ble_eq_true rfl) dX4_init_75 ?_
      refine mX2_init (q_upT_s _ _ _) (q_Ale hA (by omega)) (fun q j hq => ⟨(hZ _ _ (by omega)).1, (hZ _ _ (by omega)).2.1, ((u2_a _ _ (by omega)).trans ((u2_a _ _ (by omega)).trans ((u2_a _ _ (by omega)).trans ((u2_a _ _ (by omega)).trans ((u2_a _ _ (by omega)).trans ((u2_a _ _ (by omega)).trans ((u2_a _ _ (by omega)).trans ((u2_a _ _ (by omega)).trans ((u2_a _ _ (by omega)).trans (hZ _ _ (by omega)).2.2)))))))))⟩) ?_
      refine q_aastorev hF (n := 5) (ci := 2) 1 ((q_upT_n _ _ (by omega)).trans ((q_upT_n _ _ (by omega)).trans ((q_upT_n _ _ (by omega)).trans ((q_upT_n _ _ (by omega)).trans ((q_upT_n _ _ (by omega)).trans ((q_upT_n _ _ (by omega)).trans ((q_upT_n _ _ (by omega)).trans ((q_upT_n _ _ (by omega)).trans ((q_upT_n _ _ (by omega)).trans ((q_upT_n _ _ (by omega)).trans (q_upT_s _ _ _))))))))))) ((q_upT_n _ _ (by omega)).trans (q_upT_s _ _ _)) rfl rfl (q_Ale hA (by omega)) rfl (by decide) (by decide) dX4_init_78 ?_
      show qX G F Q 6 36 79 [(1, qI 1), (0, .ref u)] [] (u + 12) (q_upT (q_upT (q_upT (q_upT (q_upT (q_upT (q_upT (q_upT (q_upT (q_upT (q_upT T (u + 1) (.inr (2, 5))) (u + 2) (.inr (0, 5))) (u + 3) (.inr (0, 3))) (u + 4) (.inr (0, 25))) (u + 5) (.inr (0, 25))) (u + 6) (.inr (0, 600))) (u + 7) (.inr (1, 32))) (u + 8) (.inl 2)) (u + 9) (.inr (0, 6))) (u + 10) (.inl 2)) (u + 11) (.inr (0, 6))) I L (u2 (u2 (u2 (u2 (u2 (u2 (u2 (u2 (u2 (u2 (u2 P u 0 (some (u + 1))) u 2 (some (u + 2))) u 6 (some (u + 3))) u 8 (some (u + 4))) u 9 (some (u + 5))) u 10 (some (u + 6))) u 12 (some (u + 7))) (u + 8) 0 (some (u + 9))) (u + 1) 0 (some (u + 8))) (u + 10) 0 (some (u + 11))) (u + 1) 1 (some (u + 10)))
      refine q_iinc hF (z' := 2) (ls' := [(1, qI 2), (0, .ref u)]) 0 rfl (by first | rfl | omega) (by decide) rfl dX4_init_79 ?_
      refine q_goto hF dX4_init_82 ?_
      refine q_iload_n hF 0 rfl rfl dX4_init_61 ?_
      refine q_iconst hF dX4_init_62 ?_
      refine q_icmpge hF (by decide) (by decide) dX4_init_63 (fun c63 => ?_) (fun c63 => ?_)
      · exact absurd c63 (by decide)
      · refine q_aload_n hF 1 rfl rfl dX4_init_66 ?_
        refine q_getA hF fl_RX4_11 rfl ((q_upT_n _ _ (by omega)).trans ((q_upT_n _ _ (by omega)).trans ((q_upT_n _ _ (by omega)).trans ((q_upT_n _ _ (by omega)).trans ((q_upT_n _ _ (by omega)).trans ((q_upT_n _ _ (by omega)).trans ((q_upT_n _ _ (by omega)).trans ((q_upT_n _ _ (by omega)).trans ((q_upT_n _ _ (by omega)).trans ((q_upT_n _ _ (by omega)).trans ((q_upT_n _ _ (by omega)).trans hT))))))))))) ((u2_k _ _ (by decide)).trans ((u2_a _ _ (by omega)).trans ((u2_a _ _ (by omega)).trans ((u2_a _ _ (by omega)).trans ((u2_k _ _ (by decide)).trans ((u2_k _ _ (by decide)).trans ((u2_k _ _ (by decide)).trans ((u2_k _ _ (by decide)).trans ((u2_k _ _ (by decide)).trans ((u2_k _ _ (by decide)).trans (u2_s _ _ _ _))))))))))) dX4_init_67 ?_
        refine q_iload_n hF 0 rfl rfl dX4_init_70 ?_
        refine q_newo hF (s' := u + 13) (kc := 5) (ks := 30) (ci := 2) (N := 6) ⟨_, rfl, rfl, (q_mem 85 (by decide +kernel) rfl), (q_mem 87 (by decide +kernel) rfl), (q_mem 43 (by decide +kernel) rfl)⟩ (fun j => (hZ _ _ (by omega)).1) (fun j => (hZ _ _ (by omega)).2.1) (fun j => ((u2_a _ _ (by omega)).trans ((u2_a _ _ (by omega)).trans ((u2_a _ _ (by omega)).trans ((u2_a _ _ (by omega)).trans ((u2_a _ _ (by omega)).trans ((u2_a _ _ (by omega)).trans ((u2_a _ _ (by omega)).trans ((u2_a _ _ (by omega)).trans ((u2_a _ _ (by omega)).trans ((u2_a _ _ (by omega)).trans ((u2_a _ _ (by omega)).trans (hZ _ _ (by omega)).2.2)))))))))))) dX4_init_71 rfl ?_
        refine q_dup hF rfl dX4_init_74 ?_
        refine q_callC (kc := 4) (ks := 24) (mc' := 1) (ms' := 6) (h' := 0) (st := [.ref (u + 12), qI 2, .ref (u + 1)]) hF cl_RX4_37 rfl [] rfl rfl (by decide) (Nat.le_of_ble_eq_true rfl) dX4_init_75 ?_
        refine mX2_init (q_upT_s _ _ _) (q_Ale hA (by omega)) (fun q j hq => ⟨(hZ _ _ (by omega)).1, (hZ _ _ (by omega)).2.1, ((u2_a _ _ (by omega)).trans ((u2_a _ _ (by omega)).trans ((u2_a _ _ (by omega)).trans ((u2_a _ _ (by omega)).trans ((u2_a _ _ (by omega)).trans ((u2_a _ _ (by omega)).trans ((u2_a _ _ (by omega)).trans ((u2_a _ _ (by omega)).trans ((u2_a _ _ (by omega)).trans ((u2_a _ _ (by omega)).trans ((u2_a _ _ (by omega)).trans (hZ _ _ (by omega)).2.2)))))))))))⟩) ?_
        refine q_aastorev hF (n := 5) (ci := 2) 2 ((q_upT_n _ _ (by omega)).trans ((q_upT_n _ _ (by omega)).trans ((q_upT_n _ _ (by omega)).trans ((q_upT_n _ _ (by omega)).trans ((q_upT_n _ _ (by omega)).trans ((q_upT_n _ _ (by omega)).trans ((q_upT_n _ _ (by omega)).trans ((q_upT_n _ _ (by omega)).trans ((q_upT_n _ _ (by omega)).trans ((q_upT_n _ _ (by omega)).trans ((q_upT_n _ _ (by omega)).trans ((q_upT_n _ _ (by omega)).trans (q_upT_s _ _ _))))))))))))) ((q_upT_n _ _ (by omega)).trans (q_upT_s _ _ _)) rfl rfl (q_Ale hA (by omega)) rfl (by decide) (by decide) dX4_init_78 ?_
        show qX G F Q 4 24 79 [(1, qI 2), (0, .ref u)] [] (u + 14) (q_upT (q_upT (q_upT (q_upT (q_upT (q_upT (q_upT (q_upT (q_upT (q_upT (q_upT (q_upT (q_upT T (u + 1) (.inr (2, 5))) (u + 2) (.inr (0, 5))) (u + 3) (.inr (0, 3))) (u + 4) (.inr (0, 25))) (u + 5) (.inr (0, 25))) (u + 6) (.inr (0, 600))) (u + 7) (.inr (1, 32))) (u + 8) (.inl 2)) (u + 9) (.inr (0, 6))) (u + 10) (.inl 2)) (u + 11) (.inr (0, 6))) (u + 12) (.inl 2)) (u + 13) (.inr (0, 6))) I L (u2 (u2 (u2 (u2 (u2 (u2 (u2 (u2 (u2 (u2 (u2 (u2 (u2 P u 0 (some (u + 1))) u 2 (some (u + 2))) u 6 (some (u + 3))) u 8 (some (u + 4))) u 9 (some (u + 5))) u 10 (some (u + 6))) u 12 (some (u + 7))) (u + 8) 0 (some (u + 9))) (u + 1) 0 (some (u + 8))) (u + 10) 0 (some (u + 11))) (u + 1) 1 (some (u + 10))) (u + 12) 0 (some (u + 13))) (u + 1) 2 (some (u + 12)))
        refine q_iinc hF (z' := 3) (ls' := [(1, qI 3), (0, .ref u)]) 0 rfl (by first | rfl | omega) (by decide) rfl dX4_init_79 ?_
        refine q_goto hF dX4_init_82 ?_
        refine q_iload_n hF 0 rfl rfl dX4_init_61 ?_
        refine q_iconst hF dX4_init_62 ?_
        refine q_icmpge hF (by decide) (by decide) dX4_init_63 (fun c63 => ?_) (fun c63 => ?_)
        · exact absurd c63 (by decide)
        · refine q_aload_n hF 1 rfl rfl dX4_init_66 ?_
          refine q_getA hF fl_RX4_11 rfl ((q_upT_n _ _ (by omega)).trans ((q_upT_n _ _ (by omega)).trans ((q_upT_n _ _ (by omega)).trans ((q_upT_n _ _ (by omega)).trans ((q_upT_n _ _ (by omega)).trans ((q_upT_n _ _ (by omega)).trans ((q_upT_n _ _ (by omega)).trans ((q_upT_n _ _ (by omega)).trans ((q_upT_n _ _ (by omega)).trans ((q_upT_n _ _ (by omega)).trans ((q_upT_n _ _ (by omega)).trans ((q_upT_n _ _ (by omega)).trans ((q_upT_n _ _ (by omega)).trans hT))))))))))))) ((u2_k _ _ (by decide)).trans ((u2_a _ _ (by omega)).trans ((u2_k _ _ (by decide)).trans ((u2_a _ _ (by omega)).trans ((u2_a _ _ (by omega)).trans ((u2_a _ _ (by omega)).trans ((u2_k _ _ (by decide)).trans ((u2_k _ _ (by decide)).trans ((u2_k _ _ (by decide)).trans ((u2_k _ _ (by decide)).trans ((u2_k _ _ (by decide)).trans ((u2_k _ _ (by decide)).trans (u2_s _ _ _ _))))))))))))) dX4_init_67 ?_
          refine q_iload_n hF 0 rfl rfl dX4_init_70 ?_
          refine q_newo hF (s' := u + 15) (kc := 3) (ks := 18) (ci := 2) (N := 6) ⟨_, rfl, rfl, (q_mem 85 (by decide +kernel) rfl), (q_mem 87 (by decide +kernel) rfl), (q_mem 43 (by decide +kernel) rfl)⟩ (fun j => (hZ _ _ (by omega)).1) (fun j => (hZ _ _ (by omega)).2.1) (fun j => ((u2_a _ _ (by omega)).trans ((u2_a _ _ (by omega)).trans ((u2_a _ _ (by omega)).trans ((u2_a _ _ (by omega)).trans ((u2_a _ _ (by omega)).trans ((u2_a _ _ (by omega)).trans ((u2_a _ _ (by omega)).trans ((u2_a _ _ (by omega)).trans ((u2_a _ _ (by omega)).trans ((u2_a _ _ (by omega)).trans ((u2_a _ _ (by omega)).trans ((u2_a _ _ (by omega)).trans ((u2_a _ _ (by omega)).trans (hZ _ _ (by omega)).2.2)))))))))))))) dX4_init_71 rfl ?_
          refine q_dup hF rfl dX4_init_74 ?_
          refine q_callC (kc := 2) (ks := 12) (mc' := 1) (ms' := 6) (h' := 0) (st := [.ref (u + 14), qI 3, .ref (u + 1)]) hF cl_RX4_37 rfl [] rfl rfl (by decide) (Nat.le_of_ble_eq_true rfl) dX4_init_75 ?_
          refine mX2_init (q_upT_s _ _ _) (q_Ale hA (by omega)) (fun q j hq => ⟨(hZ _ _ (by omega)).1, (hZ _ _ (by omega)).2.1, ((u2_a _ _ (by omega)).trans ((u2_a _ _ (by omega)).trans ((u2_a _ _ (by omega)).trans ((u2_a _ _ (by omega)).trans ((u2_a _ _ (by omega)).trans ((u2_a _ _ (by omega)).trans ((u2_a _ _ (by omega)).trans ((u2_a _ _ (by omega)).trans ((u2_a _ _ (by omega)).trans ((u2_a _ _ (by omega)).trans ((u2_a _ _ (by omega)).trans ((u2_a _ _ (by omega)).trans ((u2_a _ _ (by omega)).trans (hZ _ _ (by omega)).2.2)))))))))))))⟩) ?_
          refine q_aastorev hF (n := 5) (ci := 2) 3 ((q_upT_n _ _ (by omega)).trans ((q_upT_n _ _ (by omega)).trans ((q_upT_n _ _ (by omega)).trans ((q_upT_n _ _ (by omega)).trans ((q_upT_n _ _ (by omega)).trans ((q_upT_n _ _ (by omega)).trans ((q_upT_n _ _ (by omega)).trans ((q_upT_n _ _ (by omega)).trans ((q_upT_n _ _ (by omega)).trans ((q_upT_n _ _ (by omega)).trans ((q_upT_n _ _ (by omega)).trans ((q_upT_n _ _ (by omega)).trans ((q_upT_n _ _ (by omega)).trans ((q_upT_n _ _ (by omega)).trans (q_upT_s _ _ _))))))))))))))) ((q_upT_n _ _ (by omega)).trans (q_upT_s _ _ _)) rfl rfl (q_Ale hA (by omega)) rfl (by decide) (by decide) dX4_init_78 ?_
          show qX G F Q 2 12 79 [(1, qI 3), (0, .ref u)] [] (u + 16) (q_upT (q_upT (q_upT (q_upT (q_upT (q_upT (q_upT (q_upT (q_upT (q_upT (q_upT (q_upT (q_upT (q_upT (q_upT T (u + 1) (.inr (2, 5))) (u + 2) (.inr (0, 5))) (u + 3) (.inr (0, 3))) (u + 4) (.inr (0, 25))) (u + 5) (.inr (0, 25))) (u + 6) (.inr (0, 600))) (u + 7) (.inr (1, 32))) (u + 8) (.inl 2)) (u + 9) (.inr (0, 6))) (u + 10) (.inl 2)) (u + 11) (.inr (0, 6))) (u + 12) (.inl 2)) (u + 13) (.inr (0, 6))) (u + 14) (.inl 2)) (u + 15) (.inr (0, 6))) I L (u2 (u2 (u2 (u2 (u2 (u2 (u2 (u2 (u2 (u2 (u2 (u2 (u2 (u2 (u2 P u 0 (some (u + 1))) u 2 (some (u + 2))) u 6 (some (u + 3))) u 8 (some (u + 4))) u 9 (some (u + 5))) u 10 (some (u + 6))) u 12 (some (u + 7))) (u + 8) 0 (some (u + 9))) (u + 1) 0 (some (u + 8))) (u + 10) 0 (some (u + 11))) (u + 1) 1 (some (u + 10))) (u + 12) 0 (some (u + 13))) (u + 1) 2 (some (u + 12))) (u + 14) 0 (some (u + 15))) (u + 1) 3 (some (u + 14)))
          refine q_iinc hF (z' := 4) (ls' := [(1, qI 4), (0, .ref u)]) 0 rfl (by first | rfl | omega) (by decide) rfl dX4_init_79 ?_
          refine q_goto hF dX4_init_82 ?_
          refine q_iload_n hF 0 rfl rfl dX4_init_61 ?_
          refine q_iconst hF dX4_init_62 ?_
          refine q_icmpge hF (by decide) (by decide) dX4_init_63 (fun c63 => ?_) (fun c63 => ?_)
          · exact absurd c63 (by decide)
          · refine q_aload_n hF 1 rfl rfl dX4_init_66 ?_
            refine q_getA hF fl_RX4_11 rfl ((q_upT_n _ _ (by omega)).trans ((q_upT_n _ _ (by omega)).trans ((q_upT_n _ _ (by omega)).trans ((q_upT_n _ _ (by omega)).trans ((q_upT_n _ _ (by omega)).trans ((q_upT_n _ _ (by omega)).trans ((q_upT_n _ _ (by omega)).trans ((q_upT_n _ _ (by omega)).trans ((q_upT_n _ _ (by omega)).trans ((q_upT_n _ _ (by omega)).trans ((q_upT_n _ _ (by omega)).trans ((q_upT_n _ _ (by omega)).trans ((q_upT_n _ _ (by omega)).trans ((q_upT_n _ _ (by omega)).trans ((q_upT_n _ _ (by omega)).trans hT))))))))))))))) ((u2_k _ _ (by decide)).trans ((u2_a _ _ (by omega)).trans ((u2_k _ _ (by decide)).trans ((u2_a _ _ (by omega)).trans ((u2_k _ _ (by decide)).trans ((u2_a _ _ (by omega)).trans ((u2_a _ _ (by omega)).trans ((u2_a _ _ (by omega)).trans ((u2_k _ _ (by decide)).trans ((u2_k _ _ (by decide)).trans ((u2_k _ _ (by decide)).trans ((u2_k _ _ (by decide)).trans ((u2_k _ _ (by decide)).trans ((u2_k _ _ (by decide)).trans (u2_s _ _ _ _))))))))))))))) dX4_init_67 ?_
            refine q_iload_n hF 0 rfl rfl dX4_init_70 ?_
            refine q_newo hF (s' := u + 17) (kc := 1) (ks := 6) (ci := 2) (N := 6) ⟨_, rfl, rfl, (q_mem 85 (by decide +kernel) rfl), (q_mem 87 (by decide +kernel) rfl), (q_mem 43 (by decide +kernel) rfl)⟩ (fun j => (hZ _ _ (by omega)).1) (fun j => (hZ _ _ (by omega)).2.1) (fun j => ((u2_a _ _ (by omega)).trans ((u2_a _ _ (by omega)).trans ((u2_a _ _ (by omega)).trans ((u2_a _ _ (by omega)).trans ((u2_a _ _ (by omega)).trans ((u2_a _ _ (by omega)).trans ((u2_a _ _ (by omega)).trans ((u2_a _ _ (by omega)).trans ((u2_a _ _ (by omega)).trans ((u2_a _ _ (by omega)).trans ((u2_a _ _ (by omega)).trans ((u2_a _ _ (by omega)).trans ((u2_a _ _ (by omega)).trans ((u2_a _ _ (by omega)).trans ((u2_a _ _ (by omega)).trans (hZ _ _ (by omega)).2.2)))))))))))))))) dX4_init_71 rfl ?_
            refine q_dup hF rfl dX4_init_74 ?_
            refine q_callC (kc := 0) (ks := 0) (mc' := 1) (ms' := 6) (h' := 0) (st := [.ref (u + 16), qI 4, .ref (u + 1)]) hF cl_RX4_37 rfl [] rfl rfl (by decide) (Nat.le_of_ble_eq_true rfl) dX4_init_75 ?_
            refine mX2_init (q_upT_s _ _ _) (q_Ale hA (by omega)) (fun q j hq => ⟨(hZ _ _ (by omega)).1, (hZ _ _ (by omega)).2.1, ((u2_a _ _ (by omega)).trans ((u2_a _ _ (by omega)).trans ((u2_a _ _ (by omega)).trans ((u2_a _ _ (by omega)).trans ((u2_a _ _ (by omega)).trans ((u2_a _ _ (by omega)).trans ((u2_a _ _ (by omega)).trans ((u2_a _ _ (by omega)).trans ((u2_a _ _ (by omega)).trans ((u2_a _ _ (by omega)).trans ((u2_a _ _ (by omega)).trans ((u2_a _ _ (by omega)).trans ((u2_a _ _ (by omega)).trans ((u2_a _ _ (by omega)).trans ((u2_a _ _ (by omega)).trans (hZ _ _ (by omega)).2.2)))))))))))))))⟩) ?_
            refine q_aastorev hF (n := 5) (ci := 2) 4 ((q_upT_n _ _ (by omega)).trans ((q_upT_n _ _ (by omega)).trans ((q_upT_n _ _ (by omega)).trans ((q_upT_n _ _ (by omega)).trans ((q_upT_n _ _ (by omega)).trans ((q_upT_n _ _ (by omega)).trans ((q_upT_n _ _ (by omega)).trans ((q_upT_n _ _ (by omega)).trans ((q_upT_n _ _ (by omega)).trans ((q_upT_n _ _ (by omega)).trans ((q_upT_n _ _ (by omega)).trans ((q_upT_n _ _ (by omega)).trans ((q_upT_n _ _ (by omega)).trans ((q_upT_n _ _ (by omega)).trans ((q_upT_n _ _ (by omega)).trans ((q_upT_n _ _ (by omega)).trans (q_upT_s _ _ _))))))))))))))))) ((q_upT_n _ _ (by omega)).trans (q_upT_s _ _ _)) rfl rfl (q_Ale hA (by omega)) rfl (by decide) (by decide) dX4_init_78 ?_
            show qX G F Q 0 0 79 [(1, qI 4), (0, .ref u)] [] (u + 18) (q_upT (q_upT (q_upT (q_upT (q_upT (q_upT (q_upT (q_upT (q_upT (q_upT (q_upT (q_upT (q_upT (q_upT (q_upT (q_upT (q_upT T (u + 1) (.inr (2, 5))) (u + 2) (.inr (0, 5))) (u + 3) (.inr (0, 3))) (u + 4) (.inr (0, 25))) (u + 5) (.inr (0, 25))) (u + 6) (.inr (0, 600))) (u + 7) (.inr (1, 32))) (u + 8) (.inl 2)) (u + 9) (.inr (0, 6))) (u + 10) (.inl 2)) (u + 11) (.inr (0, 6))) (u + 12) (.inl 2)) (u + 13) (.inr (0, 6))) (u + 14) (.inl 2)) (u + 15) (.inr (0, 6))) (u + 16) (.inl 2)) (u + 17) (.inr (0, 6))) I L (u2 (u2 (u2 (u2 (u2 (u2 (u2 (u2 (u2 (u2 (u2 (u2 (u2 (u2 (u2 (u2 (u2 P u 0 (some (u + 1))) u 2 (some (u + 2))) u 6 (some (u + 3))) u 8 (some (u + 4))) u 9 (some (u + 5))) u 10 (some (u + 6))) u 12 (some (u + 7))) (u + 8) 0 (some (u + 9))) (u + 1) 0 (some (u + 8))) (u + 10) 0 (some (u + 11))) (u + 1) 1 (some (u + 10))) (u + 12) 0 (some (u + 13))) (u + 1) 2 (some (u + 12))) (u + 14) 0 (some (u + 15))) (u + 1) 3 (some (u + 14))) (u + 16) 0 (some (u + 17))) (u + 1) 4 (some (u + 16)))
            refine q_iinc hF (z' := 5) (ls' := [(1, qI 5), (0, .ref u)]) 0 rfl (by first | rfl | omega) (by decide) rfl dX4_init_79 ?_
            refine q_goto hF dX4_init_82 ?_
            refine q_iload_n hF 0 rfl rfl dX4_init_61 ?_
            refine q_iconst hF dX4_init_62 ?_
            refine q_icmpge hF (by decide) (by decide) dX4_init_63 (fun c63 => ?_) (fun c63 => ?_)
            · skip
              have hU : q_SR (q_upT (q_upT (q_upT (q_upT (q_upT (q_upT (q_upT (q_upT (q_upT (q_upT (q_upT (q_upT (q_upT (q_upT (q_upT (q_upT (q_upT T (u + 1) (.inr (2, 5))) (u + 2) (.inr (0, 5))) (u + 3) (.inr (0, 3))) (u + 4) (.inr (0, 25))) (u + 5) (.inr (0, 25))) (u + 6) (.inr (0, 600))) (u + 7) (.inr (1, 32))) (u + 8) (.inl 2)) (u + 9) (.inr (0, 6))) (u + 10) (.inl 2)) (u + 11) (.inr (0, 6))) (u + 12) (.inl 2)) (u + 13) (.inr (0, 6))) (u + 14) (.inl 2)) (u + 15) (.inr (0, 6))) (u + 16) (.inl 2)) (u + 17) (.inr (0, 6))) (u2 (u2 (u2 (u2 (u2 (u2 (u2 (u2 (u2 (u2 (u2 (u2 (u2 (u2 (u2 (u2 (u2 P u 0 (some (u + 1))) u 2 (some (u + 2))) u 6 (some (u + 3))) u 8 (some (u + 4))) u 9 (some (u + 5))) u 10 (some (u + 6))) u 12 (some (u + 7))) (u + 8) 0 (some (u + 9))) (u + 1) 0 (some (u + 8))) (u + 10) 0 (some (u + 11))) (u + 1) 1 (some (u + 10))) (u + 12) 0 (some (u + 13))) (u + 1) 2 (some (u + 12))) (u + 14) 0 (some (u + 15))) (u + 1) 3 (some (u + 14))) (u + 16) 0 (some (u + 17))) (u + 1) 4 (some (u + 16))) u := by
                refine ⟨?_, ?_, ?_, ?_, ?_, ?_, ?_, ?_, ?_, ?_, ?_, ?_, ?_, ?_, ?_, ?_, ?_, ?_, ?_⟩
                · exact ((q_upT_n _ _ (by omega)).trans ((q_upT_n _ _ (by omega)).trans ((q_upT_n _ _ (by omega)).trans ((q_upT_n _ _ (by omega)).trans ((q_upT_n _ _ (by omega)).trans ((q_upT_n _ _ (by omega)).trans ((q_upT_n _ _ (by omega)).trans ((q_upT_n _ _ (by omega)).trans ((q_upT_n _ _ (by omega)).trans ((q_upT_n _ _ (by omega)).trans ((q_upT_n _ _ (by omega)).trans ((q_upT_n _ _ (by omega)).trans ((q_upT_n _ _ (by omega)).trans ((q_upT_n _ _ (by omega)).trans ((q_upT_n _ _ (by omega)).trans ((q_upT_n _ _ (by omega)).trans ((q_upT_n _ _ (by omega)).trans hT)))))))))))))))))
                · exact ((u2_k _ _ (by decide)).trans ((u2_a _ _ (by omega)).trans ((u2_k _ _ (by decide)).trans ((u2_a _ _ (by omega)).trans ((u2_k _ _ (by decide)).trans ((u2_a _ _ (by omega)).trans ((u2_k _ _ (by decide)).trans ((u2_a _ _ (by omega)).trans ((u2_a _ _ (by omega)).trans ((u2_a _ _ (by omega)).trans ((u2_k _ _ (by decide)).trans ((u2_k _ _ (by decide)).trans ((u2_k _ _ (by decide)).trans ((u2_k _ _ (by decide)).trans ((u2_k _ _ (by decide)).trans ((u2_k _ _ (by decide)).trans (u2_s _ _ _ _)))))))))))))))))
                · exact ((q_upT_n _ _ (by omega)).trans ((q_upT_n _ _ (by omega)).trans ((q_upT_n _ _ (by omega)).trans ((q_upT_n _ _ (by omega)).trans ((q_upT_n _ _ (by omega)).trans ((q_upT_n _ _ (by omega)).trans ((q_upT_n _ _ (by omega)).trans ((q_upT_n _ _ (by omega)).trans ((q_upT_n _ _ (by omega)).trans ((q_upT_n _ _ (by omega)).trans ((q_upT_n _ _ (by omega)).trans ((q_upT_n _ _ (by omega)).trans ((q_upT_n _ _ (by omega)).trans ((q_upT_n _ _ (by omega)).trans ((q_upT_n _ _ (by omega)).trans ((q_upT_n _ _ (by omega)).trans (q_upT_s _ _ _)))))))))))))))))
                · exact ((u2_k _ _ (by decide)).trans ((u2_k _ _ (by decide)).trans ((u2_k _ _ (by decide)).trans ((u2_k _ _ (by decide)).trans ((u2_a _ _ (by omega)).trans ((u2_k _ _ (by decide)).trans ((u2_k _ _ (by decide)).trans ((u2_k _ _ (by decide)).trans ((u2_k _ _ (by decide)).trans ((u2_k _ _ (by decide)).trans ((u2_k _ _ (by decide)).trans ((u2_k _ _ (by decide)).trans ((u2_k _ _ (by decide)).trans ((u2_k _ _ (by decide)).trans ((u2_k _ _ (by decide)).trans (u2_s _ _ _ _))))))))))))))))
                · exact ((q_upT_n _ _ (by omega)).trans ((q_upT_n _ _ (by omega)).trans ((q_upT_n _ _ (by omega)).trans ((q_upT_n _ _ (by omega)).trans ((q_upT_n _ _ (by omega)).trans ((q_upT_n _ _ (by omega)).trans ((q_upT_n _ _ (by omega)).trans ((q_upT_n _ _ (by omega)).trans ((q_upT_n _ _ (by omega)).trans ((q_upT_n _ _ (by omega)).trans ((q_upT_n _ _ (by omega)).trans ((q_upT_n _ _ (by omega)).trans ((q_upT_n _ _ (by omega)).trans ((q_upT_n _ _ (by omega)).trans ((q_upT_n _ _ (by omega)).trans (q_upT_s _ _ _))))))))))))))))
                · exact ((u2_k _ _ (by decide)).trans ((u2_k _ _ (by decide)).trans ((u2_k _ _ (by decide)).trans ((u2_k _ _ (by decide)).trans ((u2_k _ _ (by decide)).trans ((u2_k _ _ (by decide)).trans ((u2_k _ _ (by decide)).trans ((u2_k _ _ (by decide)).trans ((u2_k _ _ (by decide)).trans ((u2_k _ _ (by decide)).trans ((u2_k _ _ (by decide)).trans ((u2_k _ _ (by decide)).trans ((u2_k _ _ (by decide)).trans ((u2_k _ _ (by decide)).trans (u2_s _ _ _ _)))))))))))))))
                · exact ((q_upT_n _ _ (by omega)).trans ((q_upT_n _ _ (by omega)).trans ((q_upT_n _ _ (by omega)).trans ((q_upT_n _ _ (by omega)).trans ((q_upT_n _ _ (by omega)).trans ((q_upT_n _ _ (by omega)).trans ((q_upT_n _ _ (by omega)).trans ((q_upT_n _ _ (by omega)).trans ((q_upT_n _ _ (by omega)).trans ((q_upT_n _ _ (by omega)).trans ((q_upT_n _ _ (by omega)).trans ((q_upT_n _ _ (by omega)).trans ((q_upT_n _ _ (by omega)).trans ((q_upT_n _ _ (by omega)).trans (q_upT_s _ _ _)))))))))))))))
                · exact ((u2_k _ _ (by decide)).trans ((u2_k _ _ (by decide)).trans ((u2_k _ _ (by decide)).trans ((u2_k _ _ (by decide)).trans ((u2_k _ _ (by decide)).trans ((u2_k _ _ (by decide)).trans ((u2_k _ _ (by decide)).trans ((u2_k _ _ (by decide)).trans ((u2_k _ _ (by decide)).trans ((u2_k _ _ (by decide)).trans ((u2_k _ _ (by decide)).trans ((u2_k _ _ (by decide)).trans ((u2_k _ _ (by decide)).trans (u2_s _ _ _ _))))))))))))))
                · exact ((q_upT_n _ _ (by omega)).trans ((q_upT_n _ _ (by omega)).trans ((q_upT_n _ _ (by omega)).trans ((q_upT_n _ _ (by omega)).trans ((q_upT_n _ _ (by omega)).trans ((q_upT_n _ _ (by omega)).trans ((q_upT_n _ _ (by omega)).trans ((q_upT_n _ _ (by omega)).trans ((q_upT_n _ _ (by omega)).trans ((q_upT_n _ _ (by omega)).trans ((q_upT_n _ _ (by omega)).trans ((q_upT_n _ _ (by omega)).trans ((q_upT_n _ _ (by omega)).trans (q_upT_s _ _ _))))))))))))))
                · exact ((u2_k _ _ (by decide)).trans ((u2_k _ _ (by decide)).trans ((u2_k _ _ (by decide)).trans ((u2_k _ _ (by decide)).trans ((u2_k _ _ (by decide)).trans ((u2_k _ _ (by decide)).trans ((u2_k _ _ (by decide)).trans ((u2_k _ _ (by decide)).trans ((u2_k _ _ (by decide)).trans ((u2_k _ _ (by decide)).trans ((u2_k _ _ (by decide)).trans ((u2_k _ _ (by decide)).trans (u2_s _ _ _ _)))))))))))))
                · exact ((q_upT_n _ _ (by omega)).trans ((q_upT_n _ _ (by omega)).trans ((q_upT_n _ _ (by omega)).trans ((q_upT_n _ _ (by omega)).trans ((q_upT_n _ _ (by omega)).trans ((q_upT_n _ _ (by omega)).trans ((q_upT_n _ _ (by omega)).trans ((q_upT_n _ _ (by omega)).trans ((q_upT_n _ _ (by omega)).trans ((q_upT_n _ _ (by omega)).trans ((q_upT_n _ _ (by omega)).trans ((q_upT_n _ _ (by omega)).trans (q_upT_s _ _ _)))))))))))))
                · exact ((u2_k _ _ (by decide)).trans ((u2_k _ _ (by decide)).trans ((u2_k _ _ (by decide)).trans ((u2_k _ _ (by decide)).trans ((u2_k _ _ (by decide)).trans ((u2_k _ _ (by decide)).trans ((u2_k _ _ (by decide)).trans ((u2_k _ _ (by decide)).trans ((u2_k _ _ (by decide)).trans ((u2_k _ _ (by decide)).trans ((u2_k _ _ (by decide)).trans (u2_s _ _ _ _))))))))))))
                · exact ((q_upT_n _ _ (by omega)).trans ((q_upT_n _ _ (by omega)).trans ((q_upT_n _ _ (by omega)).trans ((q_upT_n _ _ (by omega)).trans ((q_upT_n _ _ (by omega)).trans ((q_upT_n _ _ (by omega)).trans ((q_upT_n _ _ (by omega)).trans ((q_upT_n _ _ (by omega)).trans ((q_upT_n _ _ (by omega)).trans ((q_upT_n _ _ (by omega)).trans ((q_upT_n _ _ (by omega)).trans (q_upT_s _ _ _))))))))))))
                · exact ((u2_k _ _ (by decide)).trans ((u2_k _ _ (by decide)).trans ((u2_k _ _ (by decide)).trans ((u2_k _ _ (by decide)).trans ((u2_k _ _ (by decide)).trans ((u2_k _ _ (by decide)).trans ((u2_k _ _ (by decide)).trans ((u2_k _ _ (by decide)).trans ((u2_k _ _ (by decide)).trans ((u2_k _ _ (by decide)).trans (u2_s _ _ _ _)))))))))))
                · exact ((q_upT_n _ _ (by omega)).trans ((q_upT_n _ _ (by omega)).trans ((q_upT_n _ _ (by omega)).trans ((q_upT_n _ _ (by omega)).trans ((q_upT_n _ _ (by omega)).trans ((q_upT_n _ _ (by omega)).trans ((q_upT_n _ _ (by omega)).trans ((q_upT_n _ _ (by omega)).trans ((q_upT_n _ _ (by omega)).trans ((q_upT_n _ _ (by omega)).trans (q_upT_s _ _ _)))))))))))
                · exact (fun l hl => by
                    rcases (show l = 0 ∨ l = 1 ∨ l = 2 ∨ l = 3 ∨ l = 4 by omega) with rfl | rfl | rfl | rfl | rfl
                    · exact ((u2_k _ _ (by decide)).trans ((u2_a _ _ (by omega)).trans ((u2_k _ _ (by decide)).trans ((u2_a _ _ (by omega)).trans ((u2_k _ _ (by decide)).trans ((u2_a _ _ (by omega)).trans ((u2_k _ _ (by decide)).trans ((u2_a _ _ (by omega)).trans (u2_s _ _ _ _)))))))))
                    · exact ((u2_k _ _ (by decide)).trans ((u2_k _ _ (by decide)).trans ((u2_k _ _ (by decide)).trans ((u2_k _ _ (by decide)).trans ((u2_k _ _ (by decide)).trans ((u2_k _ _ (by decide)).trans (u2_s _ _ _ _)))))))
                    · exact ((u2_k _ _ (by decide)).trans ((u2_k _ _ (by decide)).trans ((u2_k _ _ (by decide)).trans ((u2_k _ _ (by decide)).trans (u2_s _ _ _ _)))))
                    · exact ((u2_k _ _ (by decide)).trans ((u2_k _ _ (by decide)).trans (u2_s _ _ _ _)))
                    · exact (u2_s _ _ _ _)
                    )
                · exact (fun l hl => by
                    rcases (show l = 0 ∨ l = 1 ∨ l = 2 ∨ l = 3 ∨ l = 4 by omega) with rfl | rfl | rfl | rfl | rfl
                    · exact ((q_upT_n _ _ (by omega)).trans ((q_upT_n _ _ (by omega)).trans ((q_upT_n _ _ (by omega)).trans ((q_upT_n _ _ (by omega)).trans ((q_upT_n _ _ (by omega)).trans ((q_upT_n _ _ (by omega)).trans ((q_upT_n _ _ (by omega)).trans ((q_upT_n _ _ (by omega)).trans ((q_upT_n _ _ (by omega)).trans (q_upT_s _ _ _))))))))))
                    · exact ((q_upT_n _ _ (by omega)).trans ((q_upT_n _ _ (by omega)).trans ((q_upT_n _ _ (by omega)).trans ((q_upT_n _ _ (by omega)).trans ((q_upT_n _ _ (by omega)).trans ((q_upT_n _ _ (by omega)).trans ((q_upT_n _ _ (by omega)).trans (q_upT_s _ _ _))))))))
                    · exact ((q_upT_n _ _ (by omega)).trans ((q_upT_n _ _ (by omega)).trans ((q_upT_n _ _ (by omega)).trans ((q_upT_n _ _ (by omega)).trans ((q_upT_n _ _ (by omega)).trans (q_upT_s _ _ _))))))
                    · exact ((q_upT_n _ _ (by omega)).trans ((q_upT_n _ _ (by omega)).trans ((q_upT_n _ _ (by omega)).trans (q_upT_s _ _ _))))
                    · exact ((q_upT_n _ _ (by omega)).trans (q_upT_s _ _ _))
                    )
                · exact (fun l hl => by
                    rcases (show l = 0 ∨ l = 1 ∨ l = 2 ∨ l = 3 ∨ l = 4 by omega) with rfl | rfl | rfl | rfl | rfl
                    · exact ((u2_k _ _ (by decide)).trans ((u2_a _ _ (by omega)).trans ((u2_k _ _ (by decide)).trans ((u2_a _ _ (by omega)).trans ((u2_k _ _ (by decide)).trans ((u2_a _ _ (by omega)).trans ((u2_k _ _ (by decide)).trans ((u2_a _ _ (by omega)).trans ((u2_a _ _ (by omega)).trans (u2_s _ _ _ _))))))))))
                    · exact ((u2_k _ _ (by decide)).trans ((u2_a _ _ (by omega)).trans ((u2_k _ _ (by decide)).trans ((u2_a _ _ (by omega)).trans ((u2_k _ _ (by decide)).trans ((u2_a _ _ (by omega)).trans ((u2_k _ _ (by decide)).trans (u2_s _ _ _ _))))))))
                    · exact ((u2_k _ _ (by decide)).trans ((u2_a _ _ (by omega)).trans ((u2_k _ _ (by decide)).trans ((u2_a _ _ (by omega)).trans ((u2_k _ _ (by decide)).trans (u2_s _ _ _ _))))))
                    · exact ((u2_k _ _ (by decide)).trans ((u2_a _ _ (by omega)).trans ((u2_k _ _ (by decide)).trans (u2_s _ _ _ _))))
                    · exact ((u2_k _ _ (by decide)).trans (u2_s _ _ _ _))
                    )
                · exact (fun l hl => by
                    rcases (show l = 0 ∨ l = 1 ∨ l = 2 ∨ l = 3 ∨ l = 4 by omega) with rfl | rfl | rfl | rfl | rfl
                    · exact ((q_upT_n _ _ (by omega)).trans ((q_upT_n _ _ (by omega)).trans ((q_upT_n _ _ (by omega)).trans ((q_upT_n _ _ (by omega)).trans ((q_upT_n _ _ (by omega)).trans ((q_upT_n _ _ (by omega)).trans ((q_upT_n _ _ (by omega)).trans ((q_upT_n _ _ (by omega)).trans (q_upT_s _ _ _)))))))))
                    · exact ((q_upT_n _ _ (by omega)).trans ((q_upT_n _ _ (by omega)).trans ((q_upT_n _ _ (by omega)).trans ((q_upT_n _ _ (by omega)).trans ((q_upT_n _ _ (by omega)).trans ((q_upT_n _ _ (by omega)).trans (q_upT_s _ _ _)))))))
                    · exact ((q_upT_n _ _ (by omega)).trans ((q_upT_n _ _ (by omega)).trans ((q_upT_n _ _ (by omega)).trans ((q_upT_n _ _ (by omega)).trans (q_upT_s _ _ _)))))
                    · exact ((q_upT_n _ _ (by omega)).trans ((q_upT_n _ _ (by omega)).trans (q_upT_s _ _ _)))
                    · exact (q_upT_s _ _ _)
                    )
              refine q_aload_n hF 1 rfl rfl dX4_init_85 ?_
              refine q_callV (kc := 0) (ks := 0) (mc' := 0) (ms' := 0) (h' := 0) (st := []) hF vl_RX4_38 rfl [] rfl rfl ((q_upT_n _ _ (by omega)).trans ((q_upT_n _ _ (by omega)).trans ((q_upT_n _ _ (by omega)).trans ((q_upT_n _ _ (by omega)).trans ((q_upT_n _ _ (by omega)).trans ((q_upT_n _ _ (by omega)).trans ((q_upT_n _ _ (by omega)).trans ((q_upT_n _ _ (by omega)).trans ((q_upT_n _ _ (by omega)).trans ((q_upT_n _ _ (by omega)).trans ((q_upT_n _ _ (by omega)).trans ((q_upT_n _ _ (by omega)).trans ((q_upT_n _ _ (by omega)).trans ((q_upT_n _ _ (by omega)).trans ((q_upT_n _ _ (by omega)).trans ((q_upT_n _ _ (by omega)).trans ((q_upT_n _ _ (by omega)).trans hT))))))))))))))))) (by decide) (Nat.le_of_ble_eq_true rfl) dX4_init_86 ?_
              refine mX4_clear hU hA ?_
              refine q_aload_n hF 1 rfl rfl dX4_init_89 ?_
              refine q_callV (kc := 0) (ks := 0) (mc' := 0) (ms' := 0) (h' := 2) (st := []) hF vl_RX4_41 rfl [] rfl rfl ((q_upT_n _ _ (by omega)).trans ((q_upT_n _ _ (by omega)).trans ((q_upT_n _ _ (by omega)).trans ((q_upT_n _ _ (by omega)).trans ((q_upT_n _ _ (by omega)).trans ((q_upT_n _ _ (by omega)).trans ((q_upT_n _ _ (by omega)).trans ((q_upT_n _ _ (by omega)).trans ((q_upT_n _ _ (by omega)).trans ((q_upT_n _ _ (by omega)).trans ((q_upT_n _ _ (by omega)).trans ((q_upT_n _ _ (by omega)).trans ((q_upT_n _ _ (by omega)).trans ((q_upT_n _ _ (by omega)).trans ((q_upT_n _ _ (by omega)).trans ((q_upT_n _ _ (by omega)).trans ((q_upT_n _ _ (by omega)).trans hT))))))))))))))))) (by decide) (Nat.le_of_ble_eq_true rfl) dX4_init_90 ?_
              refine mX4_tellTheUntold hU hA (by rw [q_clr_x]; simp [u2]) (by rw [q_clr_x]; simp [u2]) (by rw [q_clr_x]; simp [u2]) (by rw [q_clr_x]; simp [u2]) (by rw [q_clr_x]; simp [u2]) (fun k hk => by
          have e : q_clr I u (u + 2) k = -1 := by
            unfold q_clr; rw [q_fl_a _ _ (by omega), q_fl_a _ _ (by omega), q_fl_t _ _ hk]
          rw [e]; decide) ?_
              refine q_return hF rfl dX4_init_93 ?_
              exact k0 _ _ _ ⟨fun q hq => ((q_upT_n _ _ (by omega)).trans ((q_upT_n _ _ (by omega)).trans ((q_upT_n _ _ (by omega)).trans ((q_upT_n _ _ (by omega)).trans ((q_upT_n _ _ (by omega)).trans ((q_upT_n _ _ (by omega)).trans ((q_upT_n _ _ (by omega)).trans ((q_upT_n _ _ (by omega)).trans ((q_upT_n _ _ (by omega)).trans ((q_upT_n _ _ (by omega)).trans ((q_upT_n _ _ (by omega)).trans ((q_upT_n _ _ (by omega)).trans ((q_upT_n _ _ (by omega)).trans ((q_upT_n _ _ (by omega)).trans ((q_upT_n _ _ (by omega)).trans ((q_upT_n _ _ (by omega)).trans (q_upT_n _ _ (by omega)))))))))))))))))), fun q j hq => ⟨q_tldclr_f (by omega), rfl, ((u2_a _ _ (by omega)).trans ((u2_a _ _ (by omega)).trans ((u2_a _ _ (by omega)).trans ((u2_a _ _ (by omega)).trans ((u2_a _ _ (by omega)).trans ((u2_a _ _ (by omega)).trans ((u2_a _ _ (by omega)).trans ((u2_a _ _ (by omega)).trans ((u2_a _ _ (by omega)).trans ((u2_a _ _ (by omega)).trans ((u2_a _ _ (by omega)).trans ((u2_a _ _ (by omega)).trans ((u2_a _ _ (by omega)).trans ((u2_a _ _ (by omega)).trans ((u2_a _ _ (by omega)).trans ((u2_a _ _ (by omega)).trans (u2_a _ _ (by omega))))))))))))))))))⟩, fun q j hq => ⟨(q_tldclr_f (by omega)).trans (hZ _ _ (by omega)).1, (hZ _ _ (by omega)).2.1, ((u2_a _ _ (by omega)).trans ((u2_a _ _ (by omega)).trans ((u2_a _ _ (by omega)).trans ((u2_a _ _ (by omega)).trans ((u2_a _ _ (by omega)).trans ((u2_a _ _ (by omega)).trans ((u2_a _ _ (by omega)).trans ((u2_a _ _ (by omega)).trans ((u2_a _ _ (by omega)).trans ((u2_a _ _ (by omega)).trans ((u2_a _ _ (by omega)).trans ((u2_a _ _ (by omega)).trans ((u2_a _ _ (by omega)).trans ((u2_a _ _ (by omega)).trans ((u2_a _ _ (by omega)).trans ((u2_a _ _ (by omega)).trans ((u2_a _ _ (by omega)).trans (hZ _ _ (by omega)).2.2)))))))))))))))))⟩⟩ hU (q_new_RR (fun q j hq => (hZ q j hq).1))
            · exact absurd c63 (by decide)
