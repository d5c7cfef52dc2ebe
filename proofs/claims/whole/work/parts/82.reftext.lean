/-! the reference: a text -/
def g_zap (f : Nat → Int) : Nat → Int := fun k => if k < 1243 then f k else 0
theorem g_zap_lt {f : Nat → Int} {k : Nat} (h : k < 1243) : g_zap f k = f k := if_pos h
theorem arrV_lt (c : ClassId) (N : Nat) {f g : Nat → Value} (h : ∀ j, j < N → f j = g j) : arrV c N f = arrV c N g := by
  unfold arrV
  congr 2
  funext j
  exact h j.val j.isLt
/-- behind the end of a row nothing is said -/
theorem q_zap {G : q_G} {F : q_F} {Q : q_Q} {kc ks pc : Nat} {ls : List (Nat × Value)} {st : List Value} {sz : Nat} {T : q_T} {I L : q_I} {P : q_P} {r : Nat} {f : Nat → Int} (hT : T r = some (.inr (1, 1243))) (k : qX G F Q kc ks pc ls st sz T I (q_row L r (g_zap f)) P) : qX G F Q kc ks pc ls st sz T I (q_row L r f) P := by
  obtain ⟨p, l, e, R, s, m, args, below, meth, c, mc, ms⟩ := F
  intro H locs cells slots lsA z1 z2 z3 z4 z5 z6
  refine k H locs cells slots lsA z1 (fun a kd hk => ?_) z3 z4 z5 z6
  by_cases e : a = r
  · subst e
    cases hT.symm.trans hk
    obtain ⟨h8, h9⟩ := z2 a _ hT
    refine ⟨h8, h9.trans (congrArg some (arrV_lt _ _ (fun j hj => ?_)))⟩
    show qL (q_row L a f a j) = qL (q_row L a (g_zap f) a j)
    rw [q_row_s, q_row_s, g_zap_lt hj]
  · exact (z2 a _ hk).kept rfl (fun _ => rfl) (fun j => by rw [q_row_n _ _ e, q_row_n _ _ e]) (fun _ => rfl)
theorem q_ps_ini {I : q_I} {m : Nat} : u2 (u2 (u2 (u2 (u2 (u2 I m 4 0) m 6 0) m 7 (-1)) m 16 0) m 17 0) m 14 0 = q_ps I m (g_mk 0 0 (-1) 0 (I m 15) 0 0) := by
  funext q k
  unfold q_ps q_pz
  by_cases e : q = m
  · subst e
    by_cases e1 : k = 14
    · subst e1; simp [u2]
    by_cases e2 : k = 17
    · subst e2; simp [u2]
    by_cases e3 : k = 16
    · subst e3; simp [u2]
    by_cases e4 : k = 7
    · subst e4; simp [u2]
    by_cases e5 : k = 6
    · subst e5; simp [u2]
    by_cases e6 : k = 4
    · subst e6; simp [u2]
    by_cases e7 : k = 15
    · subst e7; simp [u2]
    rw [u2_k _ _ e1, u2_k _ _ e2, u2_k _ _ e3, u2_k _ _ e4, u2_k _ _ e5, u2_k _ _ e6, if_pos rfl, if_neg e6, if_neg e5, if_neg e4, if_neg e1, if_neg e7, if_neg e3, if_neg e2]
  · rw [u2_a _ _ e, u2_a _ _ e, u2_a _ _ e, u2_a _ _ e, u2_a _ _ e, u2_a _ _ e, if_neg e]
theorem q_ps_b5 {I : q_I} {m : Nat} {s : g_PS} {v : Int} : u2 (q_ps I m s) m 5 v = q_ps (u2 I m 5 v) m s := by
  funext q k
  unfold u2 q_ps q_pz
  by_cases e1 : q = m <;> by_cases e4 : k = 5 <;> simp_all
theorem g_begin_TR : g_TR g_begin := by
  refine ⟨fun k hk => ?_, by decide, by decide⟩
  unfold g_begin g_up
  (repeat' split) <;> first | decide | (show (-2147483648 : Int) ≤ 0 ∧ (0 : Int) < 2147483648; decide)
/-- a text that cannot be: its number of bytes -/
theorem mX8_text0 {G : q_G} {sz : Nat} {T : q_T} {I L : q_I} {P : q_P} {Q : q_Q} {m tp : Nat} {nn : Int} (hS : q_SM T P m) (hSA : q_A G m) (htp : I m 2 = (tp : Int)) (ht6 : tp ≤ 600) (hnn : -2147483648 ≤ nn ∧ nn < 2147483648) (hn : ¬ (0 ≤ nn ∧ nn ≤ (tp : Int))) (k1 : Q (.inl (some (qI 0))) sz T (u2 (u2 (u2 I m 0 0) m 0 1) (m + 1) 1 ((I (m + 1) 1) + 1)) L P) : qC G 25 0 0 YX8_text [.ref m, qI nn] sz T I L P Q := by
  refine qC_of (by decide +kernel) rfl rfl (Nat.le_of_ble_eq_true rfl) (fun F hF _ _ => ?_)
  refine q_aload_n hF 0 rfl rfl dX8_text_0 ?_
  refine q_iconst hF dX8_text_1 ?_
  refine q_putI hF fl_RX8_52 hS.t0 hSA dX8_text_2 ?_
  refine q_aload_n hF 0 rfl rfl dX8_text_5 ?_
  refine q_iload_n hF 1 rfl rfl dX8_text_6 ?_
  refine q_i2l hF hnn dX8_text_7 ?_
  refine q_lconst hF (z := 0) rfl dX8_text_8 ?_
  refine q_aload_n hF 0 rfl rfl dX8_text_9 ?_
  refine q_getIv hF (z := (tp : Int)) fl_RX8_55 hS.t0 ((u2_k _ _ (by decide)).trans htp) dX8_text_10 ?_
  refine q_i2l hF (by omega) dX8_text_13 ?_
  refine q_callS (kc := 0) (ks := 0) (mc' := 0) (ms' := 0) (h' := 0) (st := [.ref m]) hF sl_RX8_123 rfl [qL nn, qL 0, qL (tp : Int)] rfl rfl (by decide) (Nat.le_of_ble_eq_true rfl) dX8_text_14 ?_
  refine mX8_in (by omega) (by decide) (by omega) ?_
  refine q_ifne_b hF dX8_text_17 (fun c17 => ?_) (fun c17 => ?_)
  · exact absurd c17 hn
  · refine q_iconst hF dX8_text_20 ?_
    refine q_goto hF dX8_text_21 ?_
    refine q_iconst hF dX8_text_25 ?_
    refine q_iconst hF dX8_text_26 ?_
    refine q_callV (kc := 0) (ks := 0) (mc' := 0) (ms' := 0) (h' := 0) (st := []) hF vl_RX8_251 rfl [qI 1, qI 1, qI 1] rfl rfl hS.t0 (by decide) (Nat.le_of_ble_eq_true rfl) dX8_text_27 ?_
    refine mX8_bad1 (j := 1) hS hSA (u2_s _ _ _ _) (by omega) rfl (by decide) ?_
    rw [show (u2 I m 0 0) (m + 1) 1 = I (m + 1) 1 from (u2_a _ _ (by omega))]
    refine q_ifeq hF (by decide) dX8_text_30 (fun c30 => ?_) (fun c30 => ?_)
    · exact absurd c30 (by decide)
    · refine q_iconst hF dX8_text_33 ?_
      refine q_ireturn hF rfl dX8_text_34 ?_
      exact k1
/-- what text makes of n bytes -/
def g_text (B : Nat → Int) (n : Nat) (o : Int) : g_Rl := match g_lines B n 4000 (n + 1) (g_mk 0 0 (-1) 0 o 0 0) g_begin with
  | .inl c => if c.2 0 = 0 then g_Rl.er 7 n else .inl c
  | .inr e => .inr e
theorem mX8_text {G : q_G} {sz : Nat} {T : q_T} {I L : q_I} {P : q_P} {Q : q_Q} {m tp n bk : Nat} {B : Nat → Int} (hS : q_SM T P m) (hSA : q_A G m) (htp : I m 2 = (tp : Int)) (ht6 : tp ≤ 600) (hn : n ≤ tp) (hBk : ∀ k, k < n → I (m + 2) k = B k) (hBr : ∀ k, 0 ≤ B k ∧ B k ≤ 255) (hb : I m 13 = (bk : Int)) (hbk : bk ≤ 8) (hz : q_Z0 L m)
    (k0 : ∀ s' t' L' I', g_text B n (I m 15) = .ok s' t' → (∀ q k, q ≠ m → I' q k = I q k) → I' m 0 = 0 → I' m 2 = 0 → I' m 5 = -1 → I' m 13 = (g_nb bk : Int) → g_Rm (q_row L (m + 4) (g_zap t')) L' m bk → Q (.inl (some (qI (t' 0)))) sz T I' (q_row L' (m + 3) (g_zap t')) P)
    (k1 : ∀ (w : Int) (x : Nat) (t' : Nat → Int) (I' : q_I), g_text B n (I m 15) = .er w x → (1 ≤ w ∧ w ≤ 7) → (∀ q k, q ≠ m → I' q k = I q k) → I' m 0 = 0 → I' m 2 = 0 → I' m 5 = (x : Int) → I' m 13 = I m 13 → Q (.inl (some (qI (w - 10)))) sz T I' (q_row L (m + 4) (g_zap t')) P) : qC G 25 0 0 YX8_text [.ref m, qI (n : Int)] sz T I L P Q := by
  refine qC_of (by decide +kernel) rfl rfl (Nat.le_of_ble_eq_true rfl) (fun F hF _ _ => ?_)
  refine q_aload_n hF 0 rfl rfl dX8_text_0 ?_
  refine q_iconst hF dX8_text_1 ?_
  refine q_putI hF fl_RX8_52 hS.t0 hSA dX8_text_2 ?_
  refine q_aload_n hF 0 rfl rfl dX8_text_5 ?_
  refine q_iload_n hF 1 rfl rfl dX8_text_6 ?_
  refine q_i2l hF (by omega) dX8_text_7 ?_
  refine q_lconst hF (z := 0) rfl dX8_text_8 ?_
  refine q_aload_n hF 0 rfl rfl dX8_text_9 ?_
  refine q_getIv hF (z := (tp : Int)) fl_RX8_55 hS.t0 ((u2_k _ _ (by decide)).trans htp) dX8_text_10 ?_
  refine q_i2l hF (by omega) dX8_text_13 ?_
  refine q_callS (kc := 0) (ks := 0) (mc' := 0) (ms' := 0) (h' := 0) (st := [.ref m]) hF sl_RX8_123 rfl [qL (n : Int), qL 0, qL (tp : Int)] rfl rfl (by decide) (Nat.le_of_ble_eq_true rfl) dX8_text_14 ?_
  refine mX8_in (by omega) (by decide) (by omega) ?_
  refine q_ifne_b hF dX8_text_17 (fun c17 => ?_) (fun c17 => ?_)
  · refine q_iconst hF dX8_text_24 ?_
    refine q_iconst hF dX8_text_25 ?_
    refine q_iconst hF dX8_text_26 ?_
    refine q_callV (kc := 0) (ks := 0) (mc' := 0) (ms' := 0) (h' := 0) (st := []) hF vl_RX8_251 rfl [qI 0, qI 1, qI 1] rfl rfl hS.t0 (by decide) (Nat.le_of_ble_eq_true rfl) dX8_text_27 ?_
    refine mX8_bad0 hS hSA (u2_s _ _ _ _) ?_
    refine q_ifeq hF (by decide) dX8_text_30 (fun c30 => ?_) (fun c30 => absurd rfl c30)
    refine q_aload_n hF 0 rfl rfl dX8_text_35 ?_
    refine q_iconst hF dX8_text_36 ?_
    refine q_putI hF fl_RX8_55 hS.t0 hSA dX8_text_37 ?_
    refine q_aload_n hF 0 rfl rfl dX8_text_40 ?_
    refine q_iload_n hF 1 rfl rfl dX8_text_41 ?_
    refine q_putI hF fl_RX8_62 hS.t0 hSA dX8_text_42 ?_
    refine q_aload_n hF 0 rfl rfl dX8_text_45 ?_
    refine q_iconst hF dX8_text_46 ?_
    refine q_putI hF fl_RX8_65 hS.t0 hSA dX8_text_47 ?_
    refine q_aload_n hF 0 rfl rfl dX8_text_50 ?_
    refine q_iconst hF dX8_text_51 ?_
    refine q_putI hF fl_RX8_72 hS.t0 hSA dX8_text_52 ?_
    refine q_aload_n hF 0 rfl rfl dX8_text_55 ?_
    refine q_iconst hF dX8_text_56 ?_
    refine q_putI hF fl_RX8_75 hS.t0 hSA dX8_text_57 ?_
    refine q_aload_n hF 0 rfl rfl dX8_text_60 ?_
    refine q_iconst hF dX8_text_61 ?_
    refine q_putI hF fl_RX8_232 hS.t0 hSA dX8_text_62 ?_
    refine q_aload_n hF 0 rfl rfl dX8_text_65 ?_
    refine q_iconst hF dX8_text_66 ?_
    refine q_putI hF fl_RX8_229 hS.t0 hSA dX8_text_67 ?_
    refine q_aload_n hF 0 rfl rfl dX8_text_70 ?_
    refine q_iconst hF dX8_text_71 ?_
    refine q_putI hF fl_RX8_190 hS.t0 hSA dX8_text_72 ?_
    refine q_aload_n hF 0 rfl rfl dX8_text_75 ?_
    refine q_getA hF fl_RX8_24 rfl hS.t0 hS.p10 dX8_text_76 ?_
    refine q_callS (kc := 0) (ks := 0) (mc' := 0) (ms' := 0) (h' := 0) (st := []) hF sl_RX8_44 rfl [.ref (m + 4)] rfl rfl (by decide) (Nat.le_of_ble_eq_true rfl) dX8_text_79 ?_
    refine mX8_begins hS.t4 (q_Ale hSA (by omega)) (fun k hk => hz _ _ (by omega) (by omega) hk) ?_
    obtain ⟨J, hJ⟩ : ∃ J : q_I, J = u2 (u2 (u2 I m 0 0) m 2 0) m 3 (n : Int) := ⟨_, rfl⟩
    have j0 : J m 0 = 0 := by rw [hJ, u2_k _ _ (by decide), u2_k _ _ (by decide), u2_s]
    have j2 : J m 2 = 0 := by rw [hJ, u2_k _ _ (by decide), u2_s]
    have j3 : J m 3 = (n : Int) := by rw [hJ, u2_s]
    have j13 : J m 13 = I m 13 := by rw [hJ, u2_k _ _ (by decide), u2_k _ _ (by decide), u2_k _ _ (by decide)]
    have j15 : J m 15 = I m 15 := by rw [hJ, u2_k _ _ (by decide), u2_k _ _ (by decide), u2_k _ _ (by decide)]
    have jo : ∀ q k, q ≠ m → J q k = I q k := fun q k h => by rw [hJ, u2_a _ _ h, u2_a _ _ h, u2_a _ _ h]
    have hB : q_BT J m B n := ⟨j3, by omega, fun k hk => (jo _ _ (by omega)).trans (hBk k hk), hBr⟩
    rw [← hJ, q_ps_ini, j15]
    -- the end with a fault
    have tail1 : ∀ (w : Int) (x : Nat) (s1 : g_PS) (t1 : Nat → Int), g_text B n (I m 15) = .er w x → (1 ≤ w ∧ w ≤ 7) → s1.fl = w → s1.fa = (x : Int) → qX G F Q 0 0 132 [(0, .ref m), (1, qI (n : Int))] [] sz T (q_ps J m s1) (q_row L (m + 4) t1) P := by
      intro w x s1 t1 hg hw hfl hfa
      refine q_zap hS.t4 ?_
      refine q_aload_n hF 0 rfl rfl dX8_text_132 ?_
      refine q_aload_n hF 0 rfl rfl dX8_text_133 ?_
      refine q_getIv hF (z := s1.fa) fl_RX8_75 hS.t0 q_ps_7 dX8_text_134 ?_
      refine q_putI hF fl_RX8_13 hS.t0 hSA dX8_text_137 ?_
      rw [q_ps_b5]
      refine q_aload_n hF 0 rfl rfl dX8_text_140 ?_
      refine q_callV (kc := 0) (ks := 0) (mc' := 0) (ms' := 0) (h' := 0) (st := []) hF vl_RX8_95 rfl [] rfl rfl hS.t0 (by decide) (Nat.le_of_ble_eq_true rfl) dX8_text_141 ?_
      refine mX8_fine0 hS (by omega) (by omega) ?_
      refine q_ifne hF (by decide) dX8_text_144 (fun c => absurd rfl c) (fun _ => ?_)
      refine q_aload_n hF 0 rfl rfl dX8_text_147 ?_
      refine q_getIv hF (z := w) fl_RX8_72 hS.t0 (q_ps_6.trans hfl) dX8_text_148 ?_
      refine q_bipush hF (n := 10) rfl dX8_text_151 ?_
      refine q_isub hF dX8_text_153 ?_
      refine q_ireturn hF rfl dX8_text_154 ?_
      refine k1 w x _ _ hg hw (fun q k h => ?_) ?_ ?_ ?_ ?_
      · rw [q_ps_a h, u2_a _ _ h]; exact jo q k h
      · rw [q_ps_k (by decide), u2_k _ _ (by decide)]; exact j0
      · rw [q_ps_k (by decide), u2_k _ _ (by decide)]; exact j2
      · rw [q_ps_k (by decide), u2_s]; exact hfa
      · rw [q_ps_k (by decide), u2_k _ _ (by decide)]; exact j13
    refine lX8_text (f := 4000) hF (by decide) hS hSA hB (sX8_all hS hSA 4000).2.2.1 (g_fuel_of hB) (n + 1) (g_mk 0 0 (-1) 0 (I m 15) 0 0) g_begin _ (Nat.zero_le _) rfl rfl (by show 2 * 0 ≤ 3 * 0; omega) g_begin_TR (by show n - 0 < n + 1; omega) rfl (fun s1 t1 e hfl hfa hpn ht => ?_) (fun w x s1 t1 e hw hfl hfa hpn => ?_)
    · refine q_aload_n hF 0 rfl rfl dX8_text_104 ?_
      refine q_callV (kc := 0) (ks := 0) (mc' := 0) (ms' := 0) (h' := 0) (st := []) hF vl_RX8_95 rfl [] rfl rfl hS.t0 (by decide) (Nat.le_of_ble_eq_true rfl) dX8_text_105 ?_
      refine mX8_fineA hS hfl ?_
      refine q_ifeq hF (by decide) dX8_text_108 (fun c => absurd c (by decide)) (fun _ => ?_)
      refine q_aload_n hF 0 rfl rfl dX8_text_111 ?_
      refine q_getA hF fl_RX8_24 rfl hS.t0 hS.p10 dX8_text_112 ?_
      refine q_iconst hF dX8_text_115 ?_
      refine q_laloadv hF (z := t1 0) (n := 1243) 0 hS.t4 rfl (by decide) (by decide) (q_row_s _ _ _ _) dX8_text_116 ?_
      refine q_lconst hF (z := 0) rfl dX8_text_117 ?_
      refine q_cmpne hF (by have := ht.2; omega) (by decide) dX8_text_118 dX8_text_119 (fun c9 => ?_) (fun c9 => ?_)
      · have hg : g_text B n (I m 15) = .ok s1 t1 := by unfold g_text; rw [e]; exact if_neg c9
        refine q_zap hS.t4 ?_
        refine q_aload_n hF 0 rfl rfl dX8_text_132 ?_
        refine q_aload_n hF 0 rfl rfl dX8_text_133 ?_
        refine q_getIv hF (z := s1.fa) fl_RX8_75 hS.t0 q_ps_7 dX8_text_134 ?_
        refine q_putI hF fl_RX8_13 hS.t0 hSA dX8_text_137 ?_
        rw [q_ps_b5]
        refine q_aload_n hF 0 rfl rfl dX8_text_140 ?_
        refine q_callV (kc := 0) (ks := 0) (mc' := 0) (ms' := 0) (h' := 0) (st := []) hF vl_RX8_95 rfl [] rfl rfl hS.t0 (by decide) (Nat.le_of_ble_eq_true rfl) dX8_text_141 ?_
        refine mX8_fineA hS hfl ?_
        refine q_ifne hF (by decide) dX8_text_144 (fun _ => ?_) (fun c => absurd c (by decide))
        refine q_aload_n hF 0 rfl rfl dX8_text_155 ?_
        refine q_callV (kc := 0) (ks := 0) (mc' := 0) (ms' := 0) (h' := 2) (st := []) hF vl_RX8_258 rfl [] rfl rfl hS.t0 (by decide) (Nat.le_of_ble_eq_true rfl) dX8_text_156 ?_
        have hz4 : q_Z0 (q_row L (m + 4) (g_zap t1)) m := fun q k h1 h2 h3 => by
          by_cases e4 : q = m + 4
          · subst e4; rw [q_row_s]; exact if_neg (by omega)
          · rw [q_row_n _ _ e4]; exact hz q k h1 h2 h3
        refine mX8_remembers (bk := bk) hS hSA ((q_ps_k (by decide)).trans ((u2_k _ _ (by decide)).trans (j13.trans hb))) hbk hz4 (fun L1 hRm => ?_)
        refine q_aload_n hF 0 rfl rfl dX8_text_159 ?_
        refine q_getA hF fl_RX8_24 rfl hS.t0 hS.p10 dX8_text_160 ?_
        refine q_aload_n hF 0 rfl rfl dX8_text_163 ?_
        refine q_getA hF fl_RX8_20 rfl hS.t0 hS.p9 dX8_text_164 ?_
        refine q_callS (kc := 0) (ks := 0) (mc' := 0) (ms' := 0) (h' := 1) (st := []) hF sl_RX8_261 rfl [.ref (m + 4), .ref (m + 3)] rfl rfl (by decide) (Nat.le_of_ble_eq_true rfl) dX8_text_167 ?_
        refine mX8_copies hS.t4 hS.t3 (q_Ale hSA (by omega)) (by omega) ?_
        have e4 : L1 (m + 4) = g_zap t1 := by
          funext k
          rw [hRm.1 (m + 4) k (Or.inl (by omega)), q_row_s]
        have hcp : cpL L1 (m + 4) (m + 3) 1243 = q_row L1 (m + 3) (g_zap t1) := by
          funext q k
          by_cases eq : q = m + 3
          · subst eq
            rw [q_row_s]
            by_cases ek : k < 1243
            · rw [cpL_to _ _ _ ek, e4]
            · have hzz : L1 (m + 3) k = 0 := hRm.2.2 (m + 3) k (by omega) (by omega) (by omega)
              rw [show cpL L1 (m + 4) (m + 3) 1243 (m + 3) k = L1 (m + 3) k from if_neg (fun h => ek h.2), hzz]
              exact (if_neg ek).symm
          · rw [cpL_ne _ _ _ eq, q_row_n _ _ eq]
        rw [hcp]
        refine q_aload_n hF 0 rfl rfl dX8_text_170 ?_
        refine q_callV (kc := 0) (ks := 0) (mc' := 0) (ms' := 0) (h' := 0) (st := []) hF vl_RX8_265 rfl [] rfl rfl hS.t0 (by decide) (Nat.le_of_ble_eq_true rfl) dX8_text_171 ?_
        refine mX8_lands hS ?_
        refine q_ireturn hF rfl dX8_text_174 ?_
        rw [q_row_s, g_zap_lt (by decide)]
        refine k0 s1 t1 L1 _ hg (fun q k h => ?_) ?_ ?_ ?_ ?_ hRm
        · rw [u2_a _ _ h, q_ps_a h, u2_a _ _ h]; exact jo q k h
        · rw [u2_k _ _ (by decide), q_ps_k (by decide), u2_k _ _ (by decide)]; exact j0
        · rw [u2_k _ _ (by decide), q_ps_k (by decide), u2_k _ _ (by decide)]; exact j2
        · rw [u2_k _ _ (by decide), q_ps_k (by decide), u2_s]; exact hfa
        · rw [u2_s]
      · have hg : g_text B n (I m 15) = .er 7 n := by unfold g_text; rw [e]; exact if_pos c9
        refine q_aload_n hF 0 rfl rfl dX8_text_122 ?_
        refine q_bipush hF (n := 7) rfl dX8_text_123 ?_
        refine q_aload_n hF 0 rfl rfl dX8_text_125 ?_
        refine q_getIv hF (z := (n : Int)) fl_RX8_62 hS.t0 ((q_ps_k (by decide)).trans j3) dX8_text_126 ?_
        refine q_callV (kc := 0) (ks := 0) (mc' := 0) (ms' := 0) (h' := 0) (st := []) hF vl_RX8_106 rfl [qI 7, qI (n : Int)] rfl rfl hS.t0 (by decide) (Nat.le_of_ble_eq_true rfl) dX8_text_129 ?_
        refine mX8_wrongA hS hSA hfl ?_
        exact tail1 7 n _ _ hg (by decide) rfl rfl
    · have hg : g_text B n (I m 15) = .er w x := by unfold g_text; rw [e]
      refine q_aload_n hF 0 rfl rfl dX8_text_104 ?_
      refine q_callV (kc := 0) (ks := 0) (mc' := 0) (ms' := 0) (h' := 0) (st := []) hF vl_RX8_95 rfl [] rfl rfl hS.t0 (by decide) (Nat.le_of_ble_eq_true rfl) dX8_text_105 ?_
      refine mX8_fine0 hS (by omega) (by omega) ?_
      refine q_ifeq hF (by decide) dX8_text_108 (fun _ => ?_) (fun c => absurd rfl c)
      exact tail1 w x _ _ hg hw hfl hfa
  · exact absurd c17 (by omega)
