/-! the class: a line; all lines -/
theorem g_BT_any {B : Nat → Int} {n : Nat} (hn : n ≤ 600) (hB : ∀ k, 0 ≤ B k ∧ B k ≤ 255) : q_BT (fun q k => if q = 0 then (n : Int) else B k) 0 B n := ⟨rfl, hn, fun _ _ => rfl, hB⟩
/-- what a text comes to when all its lines are read -/
def g_fin (n : Nat) (r : g_Rl) : g_Rl := match r with
  | .inl c => if c.2 0 = 0 then g_Rl.er 7 n else .inl c
  | .inr e => .inr e
theorem g_text_fin (B : Nat → Int) (n : Nat) (o : Int) : g_text B n o = g_fin n (g_lines B n 4000 (n + 1) (g_mk 0 0 (-1) 0 o 0 0) g_begin) := by
  unfold g_text g_fin
  cases g_lines B n 4000 (n + 1) (g_mk 0 0 (-1) 0 o 0 0) g_begin <;> rfl
theorem g_fin_k {n : Nat} {s : g_PS} {t : Nat → Int} (h : t 0 ≠ 0) : g_fin n (g_Rl.ok s t) = g_Rl.ok s t := if_neg h
theorem g_fin_7 {n : Nat} {s : g_PS} {t : Nat → Int} (h : t 0 = 0) : g_fin n (g_Rl.ok s t) = g_Rl.er 7 n := if_pos h
theorem g_fin_e {n : Nat} {w : Int} {x : Nat} : g_fin n (g_Rl.er w x) = g_Rl.er w x := rfl
theorem q_tld_lo (I : q_I) {u q k : Nat} (h : q < u) : q_tld I u q k = I q k := by
  unfold q_tld q_pd
  rw [if_neg (fun x => by omega)]
  split
  · unfold q_tl2 q_tl1
    rw [u2_a _ _ (by omega), u2_a _ _ (by omega), u2_a _ _ (by omega), u2_a _ _ (by omega), u2_a _ _ (by omega), u2_a _ _ (by omega), u2_a _ _ (by omega), u2_a _ _ (by omega), u2_a _ _ (by omega)]
  · unfold q_tl1
    rw [u2_a _ _ (by omega), u2_a _ _ (by omega), u2_a _ _ (by omega)]
set_option maxRecDepth 100000 in
theorem xX3_readLine {G : q_G} {T : q_T} {P : q_P} {a u by_ c N : Nat} {B : Nat → Int} {S E : Nat → Nat} {s : g_PS} {t : Nat → Int} {f : Nat} (hfu : ∀ p, p ≤ N → g_ex B N f 3 0 p ≠ .er 0 0) (hfar : ∀ p p' cs, p ≤ N → g_ex B N f 3 0 p = .ok p' cs → g_far N 3 p p' cs) : ∀ (j : Nat), 2 * s.cd ≤ 3 * S j → q_XL G T P a u by_ c N B S E YX3_readLine 16 [] j s t (g_lnB B N f s t (S j)) := by
  intro j hcd sz I L Q nu pl kk C hX hLL hj hkk k0 k1
  have hc6 : c ≤ 600 := by have := hX.O.tk.1; have := hX.O.n6; omega
  have hXau := hX.au
  have hXsep := hX.sep
  have hXlt : a < u := by omega
  obtain ⟨hD1, hD2, hD3, hD4, hfr⟩ := hLL
  have hW := q_WK.of hD1 hD2 hD3
  have hD1b := hD1.2.1
  have hN6 := hX.O.n6
  have wq3 : I u 3 = -1 ↔ ¬ g_bq s.on 0 := ⟨fun x => by
    rcases hD2.2.1 with h | h
    · omega
    · exact h.1, fun x => by
    rcases hD2.2.1 with h | h
    · exact absurd h.1 x
    · exact h.2.1⟩
  have wq4 : I u 4 = -1 ↔ ¬ g_bq s.on 1 := ⟨fun x => by
    rcases hD2.2.2.1 with h | h
    · omega
    · exact h.1, fun x => by
    rcases hD2.2.2.1 with h | h
    · exact absurd h.1 x
    · exact h.2.1⟩
  have wq5 : I u 5 = -1 ↔ ¬ g_bq s.on 2 := ⟨fun x => by
    rcases hD2.2.2.2.1 with h | h
    · omega
    · exact h.1, fun x => by
    rcases hD2.2.2.2.1 with h | h
    · exact absurd h.1 x
    · exact h.2.1⟩
  have wq7 : I u 7 = 0 ↔ ¬ g_bq s.on 3 := ⟨fun x => by
    rcases hD2.2.2.2.2 with h | h
    · have := h.2.1; have := h.2.2.1; omega
    · exact h.1, fun x => by
    rcases hD2.2.2.2.2 with h | h
    · exact absurd h.1 x
    · exact h.2.1⟩
  have hLL : q_LL I C u t kk s := ⟨hD1, hD2, hD3, hD4, hfr⟩
  generalize hr : (g_lnB B N f s t (S j)) = r at k0 k1
  show qC G 16 0 0 YX3_readLine [.ref a] sz T (q_xs I a u j nu 0 pl kk C) L P Q
  refine qC_of (by decide +kernel) rfl rfl (Nat.le_of_ble_eq_true rfl) (fun F hF _ _ => ?_)
  refine q_aload_n hF 0 rfl rfl dX3_readLine_0 ?_
  refine q_getA hF fl_RX3_33 rfl hX.D.t0 hX.D.p4 dX3_readLine_1 ?_
  refine q_aload_n hF 0 rfl rfl dX3_readLine_4 ?_
  refine q_getIv hF (z := (j : Int)) fl_RX3_37 hX.D.t0 q_xs_5 dX3_readLine_5 ?_
  refine q_aaloadRv hF (r := (g_wo B (S j) (E j)).map (q_E G)) j hX.D.t4 (by decide) rfl (by omega) (by decide) (hX.O.wo _ (by omega)) dX3_readLine_8 ?_
  refine q_getsE hF (i := 0) (by decide) (q_mem 1197 (by decide +kernel) rfl) dX3_readLine_9 ?_
  refine q_acmpne hF (rx := (g_wo B (S j) (E j)).map (q_E G)) (ry := some (q_E G 0)) dX3_readLine_12 (fun c12 => ?_) (fun c12 => ?_)
  · have w0 : g_wo B (S j) (E j) ≠ some 0 := fun h => c12 ((q_wo_eq hF (by decide)).mpr h)
    refine q_aload_n hF 0 rfl rfl dX3_readLine_20 ?_
    refine q_getsE hF (i := 1) (by decide) (q_mem 1232 (by decide +kernel) rfl) dX3_readLine_21 ?_
    refine q_callV (kc := 0) (ks := 0) (mc' := 0) (ms' := 0) (h' := 0) (st := []) hF vl_RX3_105 rfl [.ref (q_E G 1)] rfl rfl hX.D.t0 (by omega) (Nat.le_of_ble_eq_true rfl) dX3_readLine_24 ?_
    refine xX3_takeWord hX (by omega) (by decide) (fun c1 => ?_) (fun j1 hj1 c1 s1 => ?_)
    · refine q_ifeq hF (by decide) dX3_readLine_27 (fun c27 => ?_) (fun c27 => ?_)
      · refine q_aload_n hF 0 rfl rfl dX3_readLine_35 ?_
        refine q_getsE hF (i := 2) (by decide) (q_mem 1311 (by decide +kernel) rfl) dX3_readLine_36 ?_
        refine q_callV (kc := 0) (ks := 0) (mc' := 0) (ms' := 0) (h' := 0) (st := []) hF vl_RX3_105 rfl [.ref (q_E G 2)] rfl rfl hX.D.t0 (by omega) (Nat.le_of_ble_eq_true rfl) dX3_readLine_39 ?_
        refine xX3_takeWord hX (by omega) (by decide) (fun c2 => ?_) (fun j2 hj2 c2 s2 => ?_)
        · refine q_ifeq hF (by decide) dX3_readLine_42 (fun c42 => ?_) (fun c42 => ?_)
          · refine q_aload_n hF 0 rfl rfl dX3_readLine_50 ?_
            refine q_getA hF fl_RX3_18 rfl hX.D.t0 hX.P7 dX3_readLine_51 ?_
            refine q_getIv hF (z := I u 3) fl_RX3_118 hX.U.t0 (q_xs_u hXlt (by decide)) dX3_readLine_54 ?_
            refine q_iconst hF dX3_readLine_57 ?_
            refine q_icmpne hF (hW.1 _ (by decide)) (by decide) dX3_readLine_58 (fun c58 => ?_) (fun c58 => ?_)
            · refine q_aload_n hF 0 rfl rfl dX3_readLine_76 ?_
              refine q_getA hF fl_RX3_18 rfl hX.D.t0 hX.P7 dX3_readLine_77 ?_
              refine q_getIv hF (z := I u 4) fl_RX3_127 hX.U.t0 (q_xs_u hXlt (by decide)) dX3_readLine_80 ?_
              refine q_iconst hF dX3_readLine_83 ?_
              refine q_icmpne hF (hW.1 _ (by decide)) (by decide) dX3_readLine_84 (fun c84 => ?_) (fun c84 => ?_)
              · refine q_aload_n hF 0 rfl rfl dX3_readLine_102 ?_
                refine q_getA hF fl_RX3_18 rfl hX.D.t0 hX.P7 dX3_readLine_103 ?_
                refine q_getIv hF (z := I u 5) fl_RX3_136 hX.U.t0 (q_xs_u hXlt (by decide)) dX3_readLine_106 ?_
                refine q_iconst hF dX3_readLine_109 ?_
                refine q_icmpne hF (hW.1 _ (by decide)) (by decide) dX3_readLine_110 (fun c110 => ?_) (fun c110 => ?_)
                · refine q_aload_n hF 0 rfl rfl dX3_readLine_128 ?_
                  refine q_getA hF fl_RX3_18 rfl hX.D.t0 hX.P7 dX3_readLine_129 ?_
                  refine q_getIv hF (z := I u 7) fl_RX3_145 hX.U.t0 (q_xs_u hXlt (by decide)) dX3_readLine_132 ?_
                  refine q_ifne hF (hW.1 _ (by decide)) dX3_readLine_135 (fun c135 => ?_) (fun c135 => ?_)
                  · refine q_iconst hF dX3_readLine_159 ?_
                    refine q_zreturn hF (by decide) rfl dX3_readLine_160 ?_
                    rw [g_lnB_none hX.O.tk hj w0 c1 c2 (fun h => c58 (wq3.mpr h.2)) (fun h => c84 (wq4.mpr h.2)) (fun h => c110 (wq5.mpr h.2)) (fun h => c135 (wq7.mpr h.2))] at hr
                    exact k1 1 (S j) _ _ _ _ _ _ _ hr.symm (q_FR.r u I) (hW) (Or.inl ⟨rfl, rfl, rfl⟩) (by omega)
                  · refine q_aload_n hF 0 rfl rfl dX3_readLine_138 ?_
                    refine q_getsE hF (i := 6) (by decide) (q_mem 1335 (by decide +kernel) rfl) dX3_readLine_139 ?_
                    refine q_callV (kc := 0) (ks := 0) (mc' := 0) (ms' := 0) (h' := 0) (st := []) hF vl_RX3_105 rfl [.ref (q_E G 6)] rfl rfl hX.D.t0 (by omega) (Nat.le_of_ble_eq_true rfl) dX3_readLine_142 ?_
                    refine xX3_takeWord hX (by omega) (by decide) (fun c3 => ?_) (fun j3 hj3 c3 s3 => ?_)
                    · refine q_ifeq hF (by decide) dX3_readLine_145 (fun c145 => ?_) (fun c145 => ?_)
                      · refine q_iconst hF dX3_readLine_159 ?_
                        refine q_zreturn hF (by decide) rfl dX3_readLine_160 ?_
                        rw [g_lnB_none hX.O.tk hj w0 c1 c2 (fun h => c58 (wq3.mpr h.2)) (fun h => c84 (wq4.mpr h.2)) (fun h => c110 (wq5.mpr h.2)) (fun h => c3 h.1)] at hr
                        exact k1 1 (S j) _ _ _ _ _ _ _ hr.symm (q_FR.r u I) (hW) (Or.inl ⟨rfl, rfl, rfl⟩) (by omega)
                      · exact absurd c145 (by decide)
                    · refine q_ifeq hF (by decide) dX3_readLine_145 (fun c145 => ?_) (fun c145 => ?_)
                      · exact absurd c145 (by decide)
                      · skip
                        refine q_aload_n hF 0 rfl rfl dX3_readLine_148 ?_
                        refine q_callV (kc := 0) (ks := 0) (mc' := 0) (ms' := 0) (h' := 1) (st := []) hF vl_RX3_151 rfl [] rfl rfl hX.D.t0 (by omega) (Nat.le_of_ble_eq_true rfl) dX3_readLine_149 ?_
                        refine xX3_readOrder (s := g_mk (E j) s.fl s.fa s.cd s.op s.on s.hp) j3 (wq7.mp c135) _ _ _ _ _ _ _ _ hX hLL (by omega) (by omega) (fun s4 t4 I4 j4 n4 kq4 C4 e4 f4 L4 h4 => ?_) (fun w4 x4 I4 j4 n4 f4 p4 kq4 C4 e4 r4 W4 b4 h4 => ?_)
                        · refine q_ifeq hF (by decide) dX3_readLine_152 (fun c152 => ?_) (fun c152 => ?_)
                          · exact absurd c152 (by decide)
                          · refine q_iconst hF dX3_readLine_155 ?_
                            refine q_goto hF dX3_readLine_156 ?_
                            refine q_zreturn hF (by decide) rfl dX3_readLine_160 ?_
                            exact k0 _ _ _ _ _ _ _ (by rw [← hr, g_lnB_order hX.O.tk hj c3 (wq7.mp c135), show j + 1 = j3 by omega]; exact e4) f4 L4 (by omega)
                        · refine q_ifeq hF (by decide) dX3_readLine_152 (fun c152 => ?_) (fun c152 => ?_)
                          · refine q_iconst hF dX3_readLine_159 ?_
                            refine q_zreturn hF (by decide) rfl dX3_readLine_160 ?_
                            exact k1 _ _ _ _ _ _ _ _ _ (by rw [← hr, g_lnB_order hX.O.tk hj c3 (wq7.mp c135), show j + 1 = j3 by omega]; exact e4) r4 W4 b4 (by omega)
                          · exact absurd c152 (by decide)
                · refine q_aload_n hF 0 rfl rfl dX3_readLine_113 ?_
                  refine q_getsE hF (i := 5) (by decide) (q_mem 1329 (by decide +kernel) rfl) dX3_readLine_114 ?_
                  refine q_callV (kc := 0) (ks := 0) (mc' := 0) (ms' := 0) (h' := 0) (st := []) hF vl_RX3_105 rfl [.ref (q_E G 5)] rfl rfl hX.D.t0 (by omega) (Nat.le_of_ble_eq_true rfl) dX3_readLine_117 ?_
                  refine xX3_takeWord hX (by omega) (by decide) (fun c5 => ?_) (fun j5 hj5 c5 s5 => ?_)
                  · refine q_ifeq hF (by decide) dX3_readLine_120 (fun c120 => ?_) (fun c120 => ?_)
                    · refine q_aload_n hF 0 rfl rfl dX3_readLine_128 ?_
                      refine q_getA hF fl_RX3_18 rfl hX.D.t0 hX.P7 dX3_readLine_129 ?_
                      refine q_getIv hF (z := I u 7) fl_RX3_145 hX.U.t0 (q_xs_u hXlt (by decide)) dX3_readLine_132 ?_
                      refine q_ifne hF (hW.1 _ (by decide)) dX3_readLine_135 (fun c135 => ?_) (fun c135 => ?_)
                      · refine q_iconst hF dX3_readLine_159 ?_
                        refine q_zreturn hF (by decide) rfl dX3_readLine_160 ?_
                        rw [g_lnB_none hX.O.tk hj w0 c1 c2 (fun h => c58 (wq3.mpr h.2)) (fun h => c84 (wq4.mpr h.2)) (fun h => c5 h.1) (fun h => c135 (wq7.mpr h.2))] at hr
                        exact k1 1 (S j) _ _ _ _ _ _ _ hr.symm (q_FR.r u I) (hW) (Or.inl ⟨rfl, rfl, rfl⟩) (by omega)
                      · refine q_aload_n hF 0 rfl rfl dX3_readLine_138 ?_
                        refine q_getsE hF (i := 6) (by decide) (q_mem 1335 (by decide +kernel) rfl) dX3_readLine_139 ?_
                        refine q_callV (kc := 0) (ks := 0) (mc' := 0) (ms' := 0) (h' := 0) (st := []) hF vl_RX3_105 rfl [.ref (q_E G 6)] rfl rfl hX.D.t0 (by omega) (Nat.le_of_ble_eq_true rfl) dX3_readLine_142 ?_
                        refine xX3_takeWord hX (by omega) (by decide) (fun c6 => ?_) (fun j6 hj6 c6 s6 => ?_)
                        · refine q_ifeq hF (by decide) dX3_readLine_145 (fun c145 => ?_) (fun c145 => ?_)
                          · refine q_iconst hF dX3_readLine_159 ?_
                            refine q_zreturn hF (by decide) rfl dX3_readLine_160 ?_
                            rw [g_lnB_none hX.O.tk hj w0 c1 c2 (fun h => c58 (wq3.mpr h.2)) (fun h => c84 (wq4.mpr h.2)) (fun h => c5 h.1) (fun h => c6 h.1)] at hr
                            exact k1 1 (S j) _ _ _ _ _ _ _ hr.symm (q_FR.r u I) (hW) (Or.inl ⟨rfl, rfl, rfl⟩) (by omega)
                          · exact absurd c145 (by decide)
                        · refine q_ifeq hF (by decide) dX3_readLine_145 (fun c145 => ?_) (fun c145 => ?_)
                          · exact absurd c145 (by decide)
                          · skip
                            refine q_aload_n hF 0 rfl rfl dX3_readLine_148 ?_
                            refine q_callV (kc := 0) (ks := 0) (mc' := 0) (ms' := 0) (h' := 1) (st := []) hF vl_RX3_151 rfl [] rfl rfl hX.D.t0 (by omega) (Nat.le_of_ble_eq_true rfl) dX3_readLine_149 ?_
                            refine xX3_readOrder (s := g_mk (E j) s.fl s.fa s.cd s.op s.on s.hp) j6 (wq7.mp c135) _ _ _ _ _ _ _ _ hX hLL (by omega) (by omega) (fun s7 t7 I7 j7 n7 kq7 C7 e7 f7 L7 h7 => ?_) (fun w7 x7 I7 j7 n7 f7 p7 kq7 C7 e7 r7 W7 b7 h7 => ?_)
                            · refine q_ifeq hF (by decide) dX3_readLine_152 (fun c152 => ?_) (fun c152 => ?_)
                              · exact absurd c152 (by decide)
                              · refine q_iconst hF dX3_readLine_155 ?_
                                refine q_goto hF dX3_readLine_156 ?_
                                refine q_zreturn hF (by decide) rfl dX3_readLine_160 ?_
                                exact k0 _ _ _ _ _ _ _ (by rw [← hr, g_lnB_order hX.O.tk hj c6 (wq7.mp c135), show j + 1 = j6 by omega]; exact e7) f7 L7 (by omega)
                            · refine q_ifeq hF (by decide) dX3_readLine_152 (fun c152 => ?_) (fun c152 => ?_)
                              · refine q_iconst hF dX3_readLine_159 ?_
                                refine q_zreturn hF (by decide) rfl dX3_readLine_160 ?_
                                exact k1 _ _ _ _ _ _ _ _ _ (by rw [← hr, g_lnB_order hX.O.tk hj c6 (wq7.mp c135), show j + 1 = j6 by omega]; exact e7) r7 W7 b7 (by omega)
                              · exact absurd c152 (by decide)
                    · exact absurd c120 (by decide)
                  · refine q_ifeq hF (by decide) dX3_readLine_120 (fun c120 => ?_) (fun c120 => ?_)
                    · exact absurd c120 (by decide)
                    · skip
                      refine q_aload_n hF 0 rfl rfl dX3_readLine_123 ?_
                      refine q_callV (kc := 0) (ks := 0) (mc' := 0) (ms' := 0) (h' := 3) (st := []) hF vl_RX3_142 rfl [] rfl rfl hX.D.t0 (by omega) (Nat.le_of_ble_eq_true rfl) dX3_readLine_124 ?_
                      refine xX3_readHome (s := s) j5 _ _ _ _ _ _ _ _ hX hLL (by omega) (by omega) (fun s8 t8 I8 j8 n8 kq8 C8 e8 f8 L8 h8 => ?_) (fun w8 x8 I8 j8 n8 f8 p8 kq8 C8 e8 r8 W8 b8 h8 => ?_)
                      · refine q_zreturn hF (by decide) rfl dX3_readLine_127 ?_
                        exact k0 _ _ _ _ _ _ _ (by rw [← hr, g_lnB_home hX.O.tk hj c5 (wq5.mp c110), show j + 1 = j5 by omega]; exact e8) f8 L8 (by omega)
                      · refine q_zreturn hF (by decide) rfl dX3_readLine_127 ?_
                        exact k1 _ _ _ _ _ _ _ _ _ (by rw [← hr, g_lnB_home hX.O.tk hj c5 (wq5.mp c110), show j + 1 = j5 by omega]; exact e8) r8 W8 b8 (by omega)
              · refine q_aload_n hF 0 rfl rfl dX3_readLine_87 ?_
                refine q_getsE hF (i := 4) (by decide) (q_mem 1323 (by decide +kernel) rfl) dX3_readLine_88 ?_
                refine q_callV (kc := 0) (ks := 0) (mc' := 0) (ms' := 0) (h' := 0) (st := []) hF vl_RX3_105 rfl [.ref (q_E G 4)] rfl rfl hX.D.t0 (by omega) (Nat.le_of_ble_eq_true rfl) dX3_readLine_91 ?_
                refine xX3_takeWord hX (by omega) (by decide) (fun c9 => ?_) (fun j9 hj9 c9 s9 => ?_)
                · refine q_ifeq hF (by decide) dX3_readLine_94 (fun c94 => ?_) (fun c94 => ?_)
                  · refine q_aload_n hF 0 rfl rfl dX3_readLine_102 ?_
                    refine q_getA hF fl_RX3_18 rfl hX.D.t0 hX.P7 dX3_readLine_103 ?_
                    refine q_getIv hF (z := I u 5) fl_RX3_136 hX.U.t0 (q_xs_u hXlt (by decide)) dX3_readLine_106 ?_
                    refine q_iconst hF dX3_readLine_109 ?_
                    refine q_icmpne hF (hW.1 _ (by decide)) (by decide) dX3_readLine_110 (fun c110 => ?_) (fun c110 => ?_)
                    · refine q_aload_n hF 0 rfl rfl dX3_readLine_128 ?_
                      refine q_getA hF fl_RX3_18 rfl hX.D.t0 hX.P7 dX3_readLine_129 ?_
                      refine q_getIv hF (z := I u 7) fl_RX3_145 hX.U.t0 (q_xs_u hXlt (by decide)) dX3_readLine_132 ?_
                      refine q_ifne hF (hW.1 _ (by decide)) dX3_readLine_135 (fun c135 => ?_) (fun c135 => ?_)
                      · refine q_iconst hF dX3_readLine_159 ?_
                        refine q_zreturn hF (by decide) rfl dX3_readLine_160 ?_
                        rw [g_lnB_none hX.O.tk hj w0 c1 c2 (fun h => c58 (wq3.mpr h.2)) (fun h => c9 h.1) (fun h => c110 (wq5.mpr h.2)) (fun h => c135 (wq7.mpr h.2))] at hr
                        exact k1 1 (S j) _ _ _ _ _ _ _ hr.symm (q_FR.r u I) (hW) (Or.inl ⟨rfl, rfl, rfl⟩) (by omega)
                      · refine q_aload_n hF 0 rfl rfl dX3_readLine_138 ?_
                        refine q_getsE hF (i := 6) (by decide) (q_mem 1335 (by decide +kernel) rfl) dX3_readLine_139 ?_
                        refine q_callV (kc := 0) (ks := 0) (mc' := 0) (ms' := 0) (h' := 0) (st := []) hF vl_RX3_105 rfl [.ref (q_E G 6)] rfl rfl hX.D.t0 (by omega) (Nat.le_of_ble_eq_true rfl) dX3_readLine_142 ?_
                        refine xX3_takeWord hX (by omega) (by decide) (fun c10 => ?_) (fun j10 hj10 c10 s10 => ?_)
                        · refine q_ifeq hF (by decide) dX3_readLine_145 (fun c145 => ?_) (fun c145 => ?_)
                          · refine q_iconst hF dX3_readLine_159 ?_
                            refine q_zreturn hF (by decide) rfl dX3_readLine_160 ?_
                            rw [g_lnB_none hX.O.tk hj w0 c1 c2 (fun h => c58 (wq3.mpr h.2)) (fun h => c9 h.1) (fun h => c110 (wq5.mpr h.2)) (fun h => c10 h.1)] at hr
                            exact k1 1 (S j) _ _ _ _ _ _ _ hr.symm (q_FR.r u I) (hW) (Or.inl ⟨rfl, rfl, rfl⟩) (by omega)
                          · exact absurd c145 (by decide)
                        · refine q_ifeq hF (by decide) dX3_readLine_145 (fun c145 => ?_) (fun c145 => ?_)
                          · exact absurd c145 (by decide)
                          · skip
                            refine q_aload_n hF 0 rfl rfl dX3_readLine_148 ?_
                            refine q_callV (kc := 0) (ks := 0) (mc' := 0) (ms' := 0) (h' := 1) (st := []) hF vl_RX3_151 rfl [] rfl rfl hX.D.t0 (by omega) (Nat.le_of_ble_eq_true rfl) dX3_readLine_149 ?_
                            refine xX3_readOrder (s := g_mk (E j) s.fl s.fa s.cd s.op s.on s.hp) j10 (wq7.mp c135) _ _ _ _ _ _ _ _ hX hLL (by omega) (by omega) (fun s11 t11 I11 j11 n11 kq11 C11 e11 f11 L11 h11 => ?_) (fun w11 x11 I11 j11 n11 f11 p11 kq11 C11 e11 r11 W11 b11 h11 => ?_)
                            · refine q_ifeq hF (by decide) dX3_readLine_152 (fun c152 => ?_) (fun c152 => ?_)
                              · exact absurd c152 (by decide)
                              · refine q_iconst hF dX3_readLine_155 ?_
                                refine q_goto hF dX3_readLine_156 ?_
                                refine q_zreturn hF (by decide) rfl dX3_readLine_160 ?_
                                exact k0 _ _ _ _ _ _ _ (by rw [← hr, g_lnB_order hX.O.tk hj c10 (wq7.mp c135), show j + 1 = j10 by omega]; exact e11) f11 L11 (by omega)
                            · refine q_ifeq hF (by decide) dX3_readLine_152 (fun c152 => ?_) (fun c152 => ?_)
                              · refine q_iconst hF dX3_readLine_159 ?_
                                refine q_zreturn hF (by decide) rfl dX3_readLine_160 ?_
                                exact k1 _ _ _ _ _ _ _ _ _ (by rw [← hr, g_lnB_order hX.O.tk hj c10 (wq7.mp c135), show j + 1 = j10 by omega]; exact e11) r11 W11 b11 (by omega)
                              · exact absurd c152 (by decide)
                    · refine q_aload_n hF 0 rfl rfl dX3_readLine_113 ?_
                      refine q_getsE hF (i := 5) (by decide) (q_mem 1329 (by decide +kernel) rfl) dX3_readLine_114 ?_
                      refine q_callV (kc := 0) (ks := 0) (mc' := 0) (ms' := 0) (h' := 0) (st := []) hF vl_RX3_105 rfl [.ref (q_E G 5)] rfl rfl hX.D.t0 (by omega) (Nat.le_of_ble_eq_true rfl) dX3_readLine_117 ?_
                      refine xX3_takeWord hX (by omega) (by decide) (fun c12 => ?_) (fun j12 hj12 c12 s12 => ?_)
                      · refine q_ifeq hF (by decide) dX3_readLine_120 (fun c120 => ?_) (fun c120 => ?_)
                        · refine q_aload_n hF 0 rfl rfl dX3_readLine_128 ?_
                          refine q_getA hF fl_RX3_18 rfl hX.D.t0 hX.P7 dX3_readLine_129 ?_
                          refine q_getIv hF (z := I u 7) fl_RX3_145 hX.U.t0 (q_xs_u hXlt (by decide)) dX3_readLine_132 ?_
                          refine q_ifne hF (hW.1 _ (by decide)) dX3_readLine_135 (fun c135 => ?_) (fun c135 => ?_)
                          · refine q_iconst hF dX3_readLine_159 ?_
                            refine q_zreturn hF (by decide) rfl dX3_readLine_160 ?_
                            rw [g_lnB_none hX.O.tk hj w0 c1 c2 (fun h => c58 (wq3.mpr h.2)) (fun h => c9 h.1) (fun h => c12 h.1) (fun h => c135 (wq7.mpr h.2))] at hr
                            exact k1 1 (S j) _ _ _ _ _ _ _ hr.symm (q_FR.r u I) (hW) (Or.inl ⟨rfl, rfl, rfl⟩) (by omega)
                          · refine q_aload_n hF 0 rfl rfl dX3_readLine_138 ?_
                            refine q_getsE hF (i := 6) (by decide) (q_mem 1335 (by decide +kernel) rfl) dX3_readLine_139 ?_
                            refine q_callV (kc := 0) (ks := 0) (mc' := 0) (ms' := 0) (h' := 0) (st := []) hF vl_RX3_105 rfl [.ref (q_E G 6)] rfl rfl hX.D.t0 (by omega) (Nat.le_of_ble_eq_true rfl) dX3_readLine_142 ?_
                            refine xX3_takeWord hX (by omega) (by decide) (fun c13 => ?_) (fun j13 hj13 c13 s13 => ?_)
                            · refine q_ifeq hF (by decide) dX3_readLine_145 (fun c145 => ?_) (fun c145 => ?_)
                              · refine q_iconst hF dX3_readLine_159 ?_
                                refine q_zreturn hF (by decide) rfl dX3_readLine_160 ?_
                                rw [g_lnB_none hX.O.tk hj w0 c1 c2 (fun h => c58 (wq3.mpr h.2)) (fun h => c9 h.1) (fun h => c12 h.1) (fun h => c13 h.1)] at hr
                                exact k1 1 (S j) _ _ _ _ _ _ _ hr.symm (q_FR.r u I) (hW) (Or.inl ⟨rfl, rfl, rfl⟩) (by omega)
                              · exact absurd c145 (by decide)
                            · refine q_ifeq hF (by decide) dX3_readLine_145 (fun c145 => ?_) (fun c145 => ?_)
                              · exact absurd c145 (by decide)
                              · skip
                                refine q_aload_n hF 0 rfl rfl dX3_readLine_148 ?_
                                refine q_callV (kc := 0) (ks := 0) (mc' := 0) (ms' := 0) (h' := 1) (st := []) hF vl_RX3_151 rfl [] rfl rfl hX.D.t0 (by omega) (Nat.le_of_ble_eq_true rfl) dX3_readLine_149 ?_
                                refine xX3_readOrder (s := g_mk (E j) s.fl s.fa s.cd s.op s.on s.hp) j13 (wq7.mp c135) _ _ _ _ _ _ _ _ hX hLL (by omega) (by omega) (fun s14 t14 I14 j14 n14 kq14 C14 e14 f14 L14 h14 => ?_) (fun w14 x14 I14 j14 n14 f14 p14 kq14 C14 e14 r14 W14 b14 h14 => ?_)
                                · refine q_ifeq hF (by decide) dX3_readLine_152 (fun c152 => ?_) (fun c152 => ?_)
                                  · exact absurd c152 (by decide)
                                  · refine q_iconst hF dX3_readLine_155 ?_
                                    refine q_goto hF dX3_readLine_156 ?_
                                    refine q_zreturn hF (by decide) rfl dX3_readLine_160 ?_
                                    exact k0 _ _ _ _ _ _ _ (by rw [← hr, g_lnB_order hX.O.tk hj c13 (wq7.mp c135), show j + 1 = j13 by omega]; exact e14) f14 L14 (by omega)
                                · refine q_ifeq hF (by decide) dX3_readLine_152 (fun c152 => ?_) (fun c152 => ?_)
                                  · refine q_iconst hF dX3_readLine_159 ?_
                                    refine q_zreturn hF (by decide) rfl dX3_readLine_160 ?_
                                    exact k1 _ _ _ _ _ _ _ _ _ (by rw [← hr, g_lnB_order hX.O.tk hj c13 (wq7.mp c135), show j + 1 = j13 by omega]; exact e14) r14 W14 b14 (by omega)
                                  · exact absurd c152 (by decide)
                        · exact absurd c120 (by decide)
                      · refine q_ifeq hF (by decide) dX3_readLine_120 (fun c120 => ?_) (fun c120 => ?_)
                        · exact absurd c120 (by decide)
                        · skip
                          refine q_aload_n hF 0 rfl rfl dX3_readLine_123 ?_
                          refine q_callV (kc := 0) (ks := 0) (mc' := 0) (ms' := 0) (h' := 3) (st := []) hF vl_RX3_142 rfl [] rfl rfl hX.D.t0 (by omega) (Nat.le_of_ble_eq_true rfl) dX3_readLine_124 ?_
                          refine xX3_readHome (s := s) j12 _ _ _ _ _ _ _ _ hX hLL (by omega) (by omega) (fun s15 t15 I15 j15 n15 kq15 C15 e15 f15 L15 h15 => ?_) (fun w15 x15 I15 j15 n15 f15 p15 kq15 C15 e15 r15 W15 b15 h15 => ?_)
                          · refine q_zreturn hF (by decide) rfl dX3_readLine_127 ?_
                            exact k0 _ _ _ _ _ _ _ (by rw [← hr, g_lnB_home hX.O.tk hj c12 (wq5.mp c110), show j + 1 = j12 by omega]; exact e15) f15 L15 (by omega)
                          · refine q_zreturn hF (by decide) rfl dX3_readLine_127 ?_
                            exact k1 _ _ _ _ _ _ _ _ _ (by rw [← hr, g_lnB_home hX.O.tk hj c12 (wq5.mp c110), show j + 1 = j12 by omega]; exact e15) r15 W15 b15 (by omega)
                  · exact absurd c94 (by decide)
                · refine q_ifeq hF (by decide) dX3_readLine_94 (fun c94 => ?_) (fun c94 => ?_)
                  · exact absurd c94 (by decide)
                  · skip
                    refine q_aload_n hF 0 rfl rfl dX3_readLine_97 ?_
                    refine q_callV (kc := 0) (ks := 0) (mc' := 0) (ms' := 0) (h' := 2) (st := []) hF vl_RX3_133 rfl [] rfl rfl hX.D.t0 (by omega) (Nat.le_of_ble_eq_true rfl) dX3_readLine_98 ?_
                    refine xX3_readLetter (s := s) (E j) j9 (by have := g_TK_le hX.O.tk hj; omega) s9.2.2 _ _ _ _ _ _ _ _ hX hLL (by omega) (by omega) (fun s16 t16 I16 j16 n16 kq16 C16 e16 f16 L16 h16 => ?_) (fun w16 x16 I16 j16 n16 f16 p16 kq16 C16 e16 r16 W16 b16 h16 => ?_)
                    · refine q_zreturn hF (by decide) rfl dX3_readLine_101 ?_
                      exact k0 _ _ _ _ _ _ _ (by rw [← hr, g_lnB_letter hX.O.tk hj c9 (wq4.mp c84)]; exact e16) f16 L16 (by omega)
                    · refine q_zreturn hF (by decide) rfl dX3_readLine_101 ?_
                      exact k1 _ _ _ _ _ _ _ _ _ (by rw [← hr, g_lnB_letter hX.O.tk hj c9 (wq4.mp c84)]; exact e16) r16 W16 b16 (by omega)
            · refine q_aload_n hF 0 rfl rfl dX3_readLine_61 ?_
              refine q_getsE hF (i := 3) (by decide) (q_mem 1317 (by decide +kernel) rfl) dX3_readLine_62 ?_
              refine q_callV (kc := 0) (ks := 0) (mc' := 0) (ms' := 0) (h' := 0) (st := []) hF vl_RX3_105 rfl [.ref (q_E G 3)] rfl rfl hX.D.t0 (by omega) (Nat.le_of_ble_eq_true rfl) dX3_readLine_65 ?_
              refine xX3_takeWord hX (by omega) (by decide) (fun c17 => ?_) (fun j17 hj17 c17 s17 => ?_)
              · refine q_ifeq hF (by decide) dX3_readLine_68 (fun c68 => ?_) (fun c68 => ?_)
                · refine q_aload_n hF 0 rfl rfl dX3_readLine_76 ?_
                  refine q_getA hF fl_RX3_18 rfl hX.D.t0 hX.P7 dX3_readLine_77 ?_
                  refine q_getIv hF (z := I u 4) fl_RX3_127 hX.U.t0 (q_xs_u hXlt (by decide)) dX3_readLine_80 ?_
                  refine q_iconst hF dX3_readLine_83 ?_
                  refine q_icmpne hF (hW.1 _ (by decide)) (by decide) dX3_readLine_84 (fun c84 => ?_) (fun c84 => ?_)
                  · refine q_aload_n hF 0 rfl rfl dX3_readLine_102 ?_
                    refine q_getA hF fl_RX3_18 rfl hX.D.t0 hX.P7 dX3_readLine_103 ?_
                    refine q_getIv hF (z := I u 5) fl_RX3_136 hX.U.t0 (q_xs_u hXlt (by decide)) dX3_readLine_106 ?_
                    refine q_iconst hF dX3_readLine_109 ?_
                    refine q_icmpne hF (hW.1 _ (by decide)) (by decide) dX3_readLine_110 (fun c110 => ?_) (fun c110 => ?_)
                    · refine q_aload_n hF 0 rfl rfl dX3_readLine_128 ?_
                      refine q_getA hF fl_RX3_18 rfl hX.D.t0 hX.P7 dX3_readLine_129 ?_
                      refine q_getIv hF (z := I u 7) fl_RX3_145 hX.U.t0 (q_xs_u hXlt (by decide)) dX3_readLine_132 ?_
                      refine q_ifne hF (hW.1 _ (by decide)) dX3_readLine_135 (fun c135 => ?_) (fun c135 => ?_)
                      · refine q_iconst hF dX3_readLine_159 ?_
                        refine q_zreturn hF (by decide) rfl dX3_readLine_160 ?_
                        rw [g_lnB_none hX.O.tk hj w0 c1 c2 (fun h => c17 h.1) (fun h => c84 (wq4.mpr h.2)) (fun h => c110 (wq5.mpr h.2)) (fun h => c135 (wq7.mpr h.2))] at hr
                        exact k1 1 (S j) _ _ _ _ _ _ _ hr.symm (q_FR.r u I) (hW) (Or.inl ⟨rfl, rfl, rfl⟩) (by omega)
                      · refine q_aload_n hF 0 rfl rfl dX3_readLine_138 ?_
                        refine q_getsE hF (i := 6) (by decide) (q_mem 1335 (by decide +kernel) rfl) dX3_readLine_139 ?_
                        refine q_callV (kc := 0) (ks := 0) (mc' := 0) (ms' := 0) (h' := 0) (st := []) hF vl_RX3_105 rfl [.ref (q_E G 6)] rfl rfl hX.D.t0 (by omega) (Nat.le_of_ble_eq_true rfl) dX3_readLine_142 ?_
                        refine xX3_takeWord hX (by omega) (by decide) (fun c18 => ?_) (fun j18 hj18 c18 s18 => ?_)
                        · refine q_ifeq hF (by decide) dX3_readLine_145 (fun c145 => ?_) (fun c145 => ?_)
                          · refine q_iconst hF dX3_readLine_159 ?_
                            refine q_zreturn hF (by decide) rfl dX3_readLine_160 ?_
                            rw [g_lnB_none hX.O.tk hj w0 c1 c2 (fun h => c17 h.1) (fun h => c84 (wq4.mpr h.2)) (fun h => c110 (wq5.mpr h.2)) (fun h => c18 h.1)] at hr
                            exact k1 1 (S j) _ _ _ _ _ _ _ hr.symm (q_FR.r u I) (hW) (Or.inl ⟨rfl, rfl, rfl⟩) (by omega)
                          · exact absurd c145 (by decide)
                        · refine q_ifeq hF (by decide) dX3_readLine_145 (fun c145 => ?_) (fun c145 => ?_)
                          · exact absurd c145 (by decide)
                          · skip
                            refine q_aload_n hF 0 rfl rfl dX3_readLine_148 ?_
                            refine q_callV (kc := 0) (ks := 0) (mc' := 0) (ms' := 0) (h' := 1) (st := []) hF vl_RX3_151 rfl [] rfl rfl hX.D.t0 (by omega) (Nat.le_of_ble_eq_true rfl) dX3_readLine_149 ?_
                            refine xX3_readOrder (s := g_mk (E j) s.fl s.fa s.cd s.op s.on s.hp) j18 (wq7.mp c135) _ _ _ _ _ _ _ _ hX hLL (by omega) (by omega) (fun s19 t19 I19 j19 n19 kq19 C19 e19 f19 L19 h19 => ?_) (fun w19 x19 I19 j19 n19 f19 p19 kq19 C19 e19 r19 W19 b19 h19 => ?_)
                            · refine q_ifeq hF (by decide) dX3_readLine_152 (fun c152 => ?_) (fun c152 => ?_)
                              · exact absurd c152 (by decide)
                              · refine q_iconst hF dX3_readLine_155 ?_
                                refine q_goto hF dX3_readLine_156 ?_
                                refine q_zreturn hF (by decide) rfl dX3_readLine_160 ?_
                                exact k0 _ _ _ _ _ _ _ (by rw [← hr, g_lnB_order hX.O.tk hj c18 (wq7.mp c135), show j + 1 = j18 by omega]; exact e19) f19 L19 (by omega)
                            · refine q_ifeq hF (by decide) dX3_readLine_152 (fun c152 => ?_) (fun c152 => ?_)
                              · refine q_iconst hF dX3_readLine_159 ?_
                                refine q_zreturn hF (by decide) rfl dX3_readLine_160 ?_
                                exact k1 _ _ _ _ _ _ _ _ _ (by rw [← hr, g_lnB_order hX.O.tk hj c18 (wq7.mp c135), show j + 1 = j18 by omega]; exact e19) r19 W19 b19 (by omega)
                              · exact absurd c152 (by decide)
                    · refine q_aload_n hF 0 rfl rfl dX3_readLine_113 ?_
                      refine q_getsE hF (i := 5) (by decide) (q_mem 1329 (by decide +kernel) rfl) dX3_readLine_114 ?_
                      refine q_callV (kc := 0) (ks := 0) (mc' := 0) (ms' := 0) (h' := 0) (st := []) hF vl_RX3_105 rfl [.ref (q_E G 5)] rfl rfl hX.D.t0 (by omega) (Nat.le_of_ble_eq_true rfl) dX3_readLine_117 ?_
                      refine xX3_takeWord hX (by omega) (by decide) (fun c20 => ?_) (fun j20 hj20 c20 s20 => ?_)
                      · refine q_ifeq hF (by decide) dX3_readLine_120 (fun c120 => ?_) (fun c120 => ?_)
                        · refine q_aload_n hF 0 rfl rfl dX3_readLine_128 ?_
                          refine q_getA hF fl_RX3_18 rfl hX.D.t0 hX.P7 dX3_readLine_129 ?_
                          refine q_getIv hF (z := I u 7) fl_RX3_145 hX.U.t0 (q_xs_u hXlt (by decide)) dX3_readLine_132 ?_
                          refine q_ifne hF (hW.1 _ (by decide)) dX3_readLine_135 (fun c135 => ?_) (fun c135 => ?_)
                          · refine q_iconst hF dX3_readLine_159 ?_
                            refine q_zreturn hF (by decide) rfl dX3_readLine_160 ?_
                            rw [g_lnB_none hX.O.tk hj w0 c1 c2 (fun h => c17 h.1) (fun h => c84 (wq4.mpr h.2)) (fun h => c20 h.1) (fun h => c135 (wq7.mpr h.2))] at hr
                            exact k1 1 (S j) _ _ _ _ _ _ _ hr.symm (q_FR.r u I) (hW) (Or.inl ⟨rfl, rfl, rfl⟩) (by omega)
                          · refine q_aload_n hF 0 rfl rfl dX3_readLine_138 ?_
                            refine q_getsE hF (i := 6) (by decide) (q_mem 1335 (by decide +kernel) rfl) dX3_readLine_139 ?_
                            refine q_callV (kc := 0) (ks := 0) (mc' := 0) (ms' := 0) (h' := 0) (st := []) hF vl_RX3_105 rfl [.ref (q_E G 6)] rfl rfl hX.D.t0 (by omega) (Nat.le_of_ble_eq_true rfl) dX3_readLine_142 ?_
                            refine xX3_takeWord hX (by omega) (by decide) (fun c21 => ?_) (fun j21 hj21 c21 s21 => ?_)
                            · refine q_ifeq hF (by decide) dX3_readLine_145 (fun c145 => ?_) (fun c145 => ?_)
                              · refine q_iconst hF dX3_readLine_159 ?_
                                refine q_zreturn hF (by decide) rfl dX3_readLine_160 ?_
                                rw [g_lnB_none hX.O.tk hj w0 c1 c2 (fun h => c17 h.1) (fun h => c84 (wq4.mpr h.2)) (fun h => c20 h.1) (fun h => c21 h.1)] at hr
                                exact k1 1 (S j) _ _ _ _ _ _ _ hr.symm (q_FR.r u I) (hW) (Or.inl ⟨rfl, rfl, rfl⟩) (by omega)
                              · exact absurd c145 (by decide)
                            · refine q_ifeq hF (by decide) dX3_readLine_145 (fun c145 => ?_) (fun c145 => ?_)
                              · exact absurd c145 (by decide)
                              · skip
                                refine q_aload_n hF 0 rfl rfl dX3_readLine_148 ?_
                                refine q_callV (kc := 0) (ks := 0) (mc' := 0) (ms' := 0) (h' := 1) (st := []) hF vl_RX3_151 rfl [] rfl rfl hX.D.t0 (by omega) (Nat.le_of_ble_eq_true rfl) dX3_readLine_149 ?_
                                refine xX3_readOrder (s := g_mk (E j) s.fl s.fa s.cd s.op s.on s.hp) j21 (wq7.mp c135) _ _ _ _ _ _ _ _ hX hLL (by omega) (by omega) (fun s22 t22 I22 j22 n22 kq22 C22 e22 f22 L22 h22 => ?_) (fun w22 x22 I22 j22 n22 f22 p22 kq22 C22 e22 r22 W22 b22 h22 => ?_)
                                · refine q_ifeq hF (by decide) dX3_readLine_152 (fun c152 => ?_) (fun c152 => ?_)
                                  · exact absurd c152 (by decide)
                                  · refine q_iconst hF dX3_readLine_155 ?_
                                    refine q_goto hF dX3_readLine_156 ?_
                                    refine q_zreturn hF (by decide) rfl dX3_readLine_160 ?_
                                    exact k0 _ _ _ _ _ _ _ (by rw [← hr, g_lnB_order hX.O.tk hj c21 (wq7.mp c135), show j + 1 = j21 by omega]; exact e22) f22 L22 (by omega)
                                · refine q_ifeq hF (by decide) dX3_readLine_152 (fun c152 => ?_) (fun c152 => ?_)
                                  · refine q_iconst hF dX3_readLine_159 ?_
                                    refine q_zreturn hF (by decide) rfl dX3_readLine_160 ?_
                                    exact k1 _ _ _ _ _ _ _ _ _ (by rw [← hr, g_lnB_order hX.O.tk hj c21 (wq7.mp c135), show j + 1 = j21 by omega]; exact e22) r22 W22 b22 (by omega)
                                  · exact absurd c152 (by decide)
                        · exact absurd c120 (by decide)
                      · refine q_ifeq hF (by decide) dX3_readLine_120 (fun c120 => ?_) (fun c120 => ?_)
                        · exact absurd c120 (by decide)
                        · skip
                          refine q_aload_n hF 0 rfl rfl dX3_readLine_123 ?_
                          refine q_callV (kc := 0) (ks := 0) (mc' := 0) (ms' := 0) (h' := 3) (st := []) hF vl_RX3_142 rfl [] rfl rfl hX.D.t0 (by omega) (Nat.le_of_ble_eq_true rfl) dX3_readLine_124 ?_
                          refine xX3_readHome (s := s) j20 _ _ _ _ _ _ _ _ hX hLL (by omega) (by omega) (fun s23 t23 I23 j23 n23 kq23 C23 e23 f23 L23 h23 => ?_) (fun w23 x23 I23 j23 n23 f23 p23 kq23 C23 e23 r23 W23 b23 h23 => ?_)
                          · refine q_zreturn hF (by decide) rfl dX3_readLine_127 ?_
                            exact k0 _ _ _ _ _ _ _ (by rw [← hr, g_lnB_home hX.O.tk hj c20 (wq5.mp c110), show j + 1 = j20 by omega]; exact e23) f23 L23 (by omega)
                          · refine q_zreturn hF (by decide) rfl dX3_readLine_127 ?_
                            exact k1 _ _ _ _ _ _ _ _ _ (by rw [← hr, g_lnB_home hX.O.tk hj c20 (wq5.mp c110), show j + 1 = j20 by omega]; exact e23) r23 W23 b23 (by omega)
                  · refine q_aload_n hF 0 rfl rfl dX3_readLine_87 ?_
                    refine q_getsE hF (i := 4) (by decide) (q_mem 1323 (by decide +kernel) rfl) dX3_readLine_88 ?_
                    refine q_callV (kc := 0) (ks := 0) (mc' := 0) (ms' := 0) (h' := 0) (st := []) hF vl_RX3_105 rfl [.ref (q_E G 4)] rfl rfl hX.D.t0 (by omega) (Nat.le_of_ble_eq_true rfl) dX3_readLine_91 ?_
                    refine xX3_takeWord hX (by omega) (by decide) (fun c24 => ?_) (fun j24 hj24 c24 s24 => ?_)
                    · refine q_ifeq hF (by decide) dX3_readLine_94 (fun c94 => ?_) (fun c94 => ?_)
                      · refine q_aload_n hF 0 rfl rfl dX3_readLine_102 ?_
                        refine q_getA hF fl_RX3_18 rfl hX.D.t0 hX.P7 dX3_readLine_103 ?_
                        refine q_getIv hF (z := I u 5) fl_RX3_136 hX.U.t0 (q_xs_u hXlt (by decide)) dX3_readLine_106 ?_
                        refine q_iconst hF dX3_readLine_109 ?_
                        refine q_icmpne hF (hW.1 _ (by decide)) (by decide) dX3_readLine_110 (fun c110 => ?_) (fun c110 => ?_)
                        · refine q_aload_n hF 0 rfl rfl dX3_readLine_128 ?_
                          refine q_getA hF fl_RX3_18 rfl hX.D.t0 hX.P7 dX3_readLine_129 ?_
                          refine q_getIv hF (z := I u 7) fl_RX3_145 hX.U.t0 (q_xs_u hXlt (by decide)) dX3_readLine_132 ?_
                          refine q_ifne hF (hW.1 _ (by decide)) dX3_readLine_135 (fun c135 => ?_) (fun c135 => ?_)
                          · refine q_iconst hF dX3_readLine_159 ?_
                            refine q_zreturn hF (by decide) rfl dX3_readLine_160 ?_
                            rw [g_lnB_none hX.O.tk hj w0 c1 c2 (fun h => c17 h.1) (fun h => c24 h.1) (fun h => c110 (wq5.mpr h.2)) (fun h => c135 (wq7.mpr h.2))] at hr
                            exact k1 1 (S j) _ _ _ _ _ _ _ hr.symm (q_FR.r u I) (hW) (Or.inl ⟨rfl, rfl, rfl⟩) (by omega)
                          · refine q_aload_n hF 0 rfl rfl dX3_readLine_138 ?_
                            refine q_getsE hF (i := 6) (by decide) (q_mem 1335 (by decide +kernel) rfl) dX3_readLine_139 ?_
                            refine q_callV (kc := 0) (ks := 0) (mc' := 0) (ms' := 0) (h' := 0) (st := []) hF vl_RX3_105 rfl [.ref (q_E G 6)] rfl rfl hX.D.t0 (by omega) (Nat.le_of_ble_eq_true rfl) dX3_readLine_142 ?_
                            refine xX3_takeWord hX (by omega) (by decide) (fun c25 => ?_) (fun j25 hj25 c25 s25 => ?_)
                            · refine q_ifeq hF (by decide) dX3_readLine_145 (fun c145 => ?_) (fun c145 => ?_)
                              · refine q_iconst hF dX3_readLine_159 ?_
                                refine q_zreturn hF (by decide) rfl dX3_readLine_160 ?_
                                rw [g_lnB_none hX.O.tk hj w0 c1 c2 (fun h => c17 h.1) (fun h => c24 h.1) (fun h => c110 (wq5.mpr h.2)) (fun h => c25 h.1)] at hr
                                exact k1 1 (S j) _ _ _ _ _ _ _ hr.symm (q_FR.r u I) (hW) (Or.inl ⟨rfl, rfl, rfl⟩) (by omega)
                              · exact absurd c145 (by decide)
                            · refine q_ifeq hF (by decide) dX3_readLine_145 (fun c145 => ?_) (fun c145 => ?_)
                              · exact absurd c145 (by decide)
                              · skip
                                refine q_aload_n hF 0 rfl rfl dX3_readLine_148 ?_
                                refine q_callV (kc := 0) (ks := 0) (mc' := 0) (ms' := 0) (h' := 1) (st := []) hF vl_RX3_151 rfl [] rfl rfl hX.D.t0 (by omega) (Nat.le_of_ble_eq_true rfl) dX3_readLine_149 ?_
                                refine xX3_readOrder (s := g_mk (E j) s.fl s.fa s.cd s.op s.on s.hp) j25 (wq7.mp c135) _ _ _ _ _ _ _ _ hX hLL (by omega) (by omega) (fun s26 t26 I26 j26 n26 kq26 C26 e26 f26 L26 h26 => ?_) (fun w26 x26 I26 j26 n26 f26 p26 kq26 C26 e26 r26 W26 b26 h26 => ?_)
                                · refine q_ifeq hF (by decide) dX3_readLine_152 (fun c152 => ?_) (fun c152 => ?_)
                                  · exact absurd c152 (by decide)
                                  · refine q_iconst hF dX3_readLine_155 ?_
                                    refine q_goto hF dX3_readLine_156 ?_
                                    refine q_zreturn hF (by decide) rfl dX3_readLine_160 ?_
                                    exact k0 _ _ _ _ _ _ _ (by rw [← hr, g_lnB_order hX.O.tk hj c25 (wq7.mp c135), show j + 1 = j25 by omega]; exact e26) f26 L26 (by omega)
                                · refine q_ifeq hF (by decide) dX3_readLine_152 (fun c152 => ?_) (fun c152 => ?_)
                                  · refine q_iconst hF dX3_readLine_159 ?_
                                    refine q_zreturn hF (by decide) rfl dX3_readLine_160 ?_
                                    exact k1 _ _ _ _ _ _ _ _ _ (by rw [← hr, g_lnB_order hX.O.tk hj c25 (wq7.mp c135), show j + 1 = j25 by omega]; exact e26) r26 W26 b26 (by omega)
                                  · exact absurd c152 (by decide)
                        · refine q_aload_n hF 0 rfl rfl dX3_readLine_113 ?_
                          refine q_getsE hF (i := 5) (by decide) (q_mem 1329 (by decide +kernel) rfl) dX3_readLine_114 ?_
                          refine q_callV (kc := 0) (ks := 0) (mc' := 0) (ms' := 0) (h' := 0) (st := []) hF vl_RX3_105 rfl [.ref (q_E G 5)] rfl rfl hX.D.t0 (by omega) (Nat.le_of_ble_eq_true rfl) dX3_readLine_117 ?_
                          refine xX3_takeWord hX (by omega) (by decide) (fun c27 => ?_) (fun j27 hj27 c27 s27 => ?_)
                          · refine q_ifeq hF (by decide) dX3_readLine_120 (fun c120 => ?_) (fun c120 => ?_)
                            · refine q_aload_n hF 0 rfl rfl dX3_readLine_128 ?_
                              refine q_getA hF fl_RX3_18 rfl hX.D.t0 hX.P7 dX3_readLine_129 ?_
                              refine q_getIv hF (z := I u 7) fl_RX3_145 hX.U.t0 (q_xs_u hXlt (by decide)) dX3_readLine_132 ?_
                              refine q_ifne hF (hW.1 _ (by decide)) dX3_readLine_135 (fun c135 => ?_) (fun c135 => ?_)
                              · refine q_iconst hF dX3_readLine_159 ?_
                                refine q_zreturn hF (by decide) rfl dX3_readLine_160 ?_
                                rw [g_lnB_none hX.O.tk hj w0 c1 c2 (fun h => c17 h.1) (fun h => c24 h.1) (fun h => c27 h.1) (fun h => c135 (wq7.mpr h.2))] at hr
                                exact k1 1 (S j) _ _ _ _ _ _ _ hr.symm (q_FR.r u I) (hW) (Or.inl ⟨rfl, rfl, rfl⟩) (by omega)
                              · refine q_aload_n hF 0 rfl rfl dX3_readLine_138 ?_
                                refine q_getsE hF (i := 6) (by decide) (q_mem 1335 (by decide +kernel) rfl) dX3_readLine_139 ?_
                                refine q_callV (kc := 0) (ks := 0) (mc' := 0) (ms' := 0) (h' := 0) (st := []) hF vl_RX3_105 rfl [.ref (q_E G 6)] rfl rfl hX.D.t0 (by omega) (Nat.le_of_ble_eq_true rfl) dX3_readLine_142 ?_
                                refine xX3_takeWord hX (by omega) (by decide) (fun c28 => ?_) (fun j28 hj28 c28 s28 => ?_)
                                · refine q_ifeq hF (by decide) dX3_readLine_145 (fun c145 => ?_) (fun c145 => ?_)
                                  · refine q_iconst hF dX3_readLine_159 ?_
                                    refine q_zreturn hF (by decide) rfl dX3_readLine_160 ?_
                                    rw [g_lnB_none hX.O.tk hj w0 c1 c2 (fun h => c17 h.1) (fun h => c24 h.1) (fun h => c27 h.1) (fun h => c28 h.1)] at hr
                                    exact k1 1 (S j) _ _ _ _ _ _ _ hr.symm (q_FR.r u I) (hW) (Or.inl ⟨rfl, rfl, rfl⟩) (by omega)
                                  · exact absurd c145 (by decide)
                                · refine q_ifeq hF (by decide) dX3_readLine_145 (fun c145 => ?_) (fun c145 => ?_)
                                  · exact absurd c145 (by decide)
                                  · skip
                                    refine q_aload_n hF 0 rfl rfl dX3_readLine_148 ?_
                                    refine q_callV (kc := 0) (ks := 0) (mc' := 0) (ms' := 0) (h' := 1) (st := []) hF vl_RX3_151 rfl [] rfl rfl hX.D.t0 (by omega) (Nat.le_of_ble_eq_true rfl) dX3_readLine_149 ?_
                                    refine xX3_readOrder (s := g_mk (E j) s.fl s.fa s.cd s.op s.on s.hp) j28 (wq7.mp c135) _ _ _ _ _ _ _ _ hX hLL (by omega) (by omega) (fun s29 t29 I29 j29 n29 kq29 C29 e29 f29 L29 h29 => ?_) (fun w29 x29 I29 j29 n29 f29 p29 kq29 C29 e29 r29 W29 b29 h29 => ?_)
                                    · refine q_ifeq hF (by decide) dX3_readLine_152 (fun c152 => ?_) (fun c152 => ?_)
                                      · exact absurd c152 (by decide)
                                      · refine q_iconst hF dX3_readLine_155 ?_
                                        refine q_goto hF dX3_readLine_156 ?_
                                        refine q_zreturn hF (by decide) rfl dX3_readLine_160 ?_
                                        exact k0 _ _ _ _ _ _ _ (by rw [← hr, g_lnB_order hX.O.tk hj c28 (wq7.mp c135), show j + 1 = j28 by omega]; exact e29) f29 L29 (by omega)
                                    · refine q_ifeq hF (by decide) dX3_readLine_152 (fun c152 => ?_) (fun c152 => ?_)
                                      · refine q_iconst hF dX3_readLine_159 ?_
                                        refine q_zreturn hF (by decide) rfl dX3_readLine_160 ?_
                                        exact k1 _ _ _ _ _ _ _ _ _ (by rw [← hr, g_lnB_order hX.O.tk hj c28 (wq7.mp c135), show j + 1 = j28 by omega]; exact e29) r29 W29 b29 (by omega)
                                      · exact absurd c152 (by decide)
                            · exact absurd c120 (by decide)
                          · refine q_ifeq hF (by decide) dX3_readLine_120 (fun c120 => ?_) (fun c120 => ?_)
                            · exact absurd c120 (by decide)
                            · skip
                              refine q_aload_n hF 0 rfl rfl dX3_readLine_123 ?_
                              refine q_callV (kc := 0) (ks := 0) (mc' := 0) (ms' := 0) (h' := 3) (st := []) hF vl_RX3_142 rfl [] rfl rfl hX.D.t0 (by omega) (Nat.le_of_ble_eq_true rfl) dX3_readLine_124 ?_
                              refine xX3_readHome (s := s) j27 _ _ _ _ _ _ _ _ hX hLL (by omega) (by omega) (fun s30 t30 I30 j30 n30 kq30 C30 e30 f30 L30 h30 => ?_) (fun w30 x30 I30 j30 n30 f30 p30 kq30 C30 e30 r30 W30 b30 h30 => ?_)
                              · refine q_zreturn hF (by decide) rfl dX3_readLine_127 ?_
                                exact k0 _ _ _ _ _ _ _ (by rw [← hr, g_lnB_home hX.O.tk hj c27 (wq5.mp c110), show j + 1 = j27 by omega]; exact e30) f30 L30 (by omega)
                              · refine q_zreturn hF (by decide) rfl dX3_readLine_127 ?_
                                exact k1 _ _ _ _ _ _ _ _ _ (by rw [← hr, g_lnB_home hX.O.tk hj c27 (wq5.mp c110), show j + 1 = j27 by omega]; exact e30) r30 W30 b30 (by omega)
                      · exact absurd c94 (by decide)
                    · refine q_ifeq hF (by decide) dX3_readLine_94 (fun c94 => ?_) (fun c94 => ?_)
                      · exact absurd c94 (by decide)
                      · skip
                        refine q_aload_n hF 0 rfl rfl dX3_readLine_97 ?_
                        refine q_callV (kc := 0) (ks := 0) (mc' := 0) (ms' := 0) (h' := 2) (st := []) hF vl_RX3_133 rfl [] rfl rfl hX.D.t0 (by omega) (Nat.le_of_ble_eq_true rfl) dX3_readLine_98 ?_
                        refine xX3_readLetter (s := s) (E j) j24 (by have := g_TK_le hX.O.tk hj; omega) s24.2.2 _ _ _ _ _ _ _ _ hX hLL (by omega) (by omega) (fun s31 t31 I31 j31 n31 kq31 C31 e31 f31 L31 h31 => ?_) (fun w31 x31 I31 j31 n31 f31 p31 kq31 C31 e31 r31 W31 b31 h31 => ?_)
                        · refine q_zreturn hF (by decide) rfl dX3_readLine_101 ?_
                          exact k0 _ _ _ _ _ _ _ (by rw [← hr, g_lnB_letter hX.O.tk hj c24 (wq4.mp c84)]; exact e31) f31 L31 (by omega)
                        · refine q_zreturn hF (by decide) rfl dX3_readLine_101 ?_
                          exact k1 _ _ _ _ _ _ _ _ _ (by rw [← hr, g_lnB_letter hX.O.tk hj c24 (wq4.mp c84)]; exact e31) r31 W31 b31 (by omega)
                · exact absurd c68 (by decide)
              · refine q_ifeq hF (by decide) dX3_readLine_68 (fun c68 => ?_) (fun c68 => ?_)
                · exact absurd c68 (by decide)
                · skip
                  refine q_aload_n hF 0 rfl rfl dX3_readLine_71 ?_
                  refine q_callV (kc := 0) (ks := 0) (mc' := 0) (ms' := 0) (h' := 2) (st := []) hF vl_RX3_124 rfl [] rfl rfl hX.D.t0 (by omega) (Nat.le_of_ble_eq_true rfl) dX3_readLine_72 ?_
                  refine xX3_readWait (s := s) (E j) j17 (by have := g_TK_le hX.O.tk hj; omega) s17.2.2 _ _ _ _ _ _ _ _ hX hLL (by omega) (by omega) (fun s32 t32 I32 j32 n32 kq32 C32 e32 f32 L32 h32 => ?_) (fun w32 x32 I32 j32 n32 f32 p32 kq32 C32 e32 r32 W32 b32 h32 => ?_)
                  · refine q_zreturn hF (by decide) rfl dX3_readLine_75 ?_
                    exact k0 _ _ _ _ _ _ _ (by rw [← hr, g_lnB_wait hX.O.tk hj c17 (wq3.mp c58)]; exact e32) f32 L32 (by omega)
                  · refine q_zreturn hF (by decide) rfl dX3_readLine_75 ?_
                    exact k1 _ _ _ _ _ _ _ _ _ (by rw [← hr, g_lnB_wait hX.O.tk hj c17 (wq3.mp c58)]; exact e32) r32 W32 b32 (by omega)
          · exact absurd c42 (by decide)
        · refine q_ifeq hF (by decide) dX3_readLine_42 (fun c42 => ?_) (fun c42 => ?_)
          · exact absurd c42 (by decide)
          · skip
            refine q_aload_n hF 0 rfl rfl dX3_readLine_45 ?_
            refine q_callV (kc := 0) (ks := 0) (mc' := 0) (ms' := 0) (h' := 2) (st := []) hF vl_RX3_115 rfl [] rfl rfl hX.D.t0 (by omega) (Nat.le_of_ble_eq_true rfl) dX3_readLine_46 ?_
            refine xX3_readPays (s := g_mk (E j) s.fl s.fa s.cd s.op s.on s.hp) j2 _ _ _ _ _ _ _ _ hX hLL (by omega) (by omega) (fun s33 t33 I33 j33 n33 kq33 C33 e33 f33 L33 h33 => ?_) (fun w33 x33 I33 j33 n33 f33 p33 kq33 C33 e33 r33 W33 b33 h33 => ?_)
            · refine q_zreturn hF (by decide) rfl dX3_readLine_49 ?_
              exact k0 _ _ _ _ _ _ _ (by rw [← hr, g_lnB_pays hX.O.tk hj c2, show j + 1 = j2 by omega]; exact e33) f33 L33 (by omega)
            · refine q_zreturn hF (by decide) rfl dX3_readLine_49 ?_
              exact k1 _ _ _ _ _ _ _ _ _ (by rw [← hr, g_lnB_pays hX.O.tk hj c2, show j + 1 = j2 by omega]; exact e33) r33 W33 b33 (by omega)
      · exact absurd c27 (by decide)
    · refine q_ifeq hF (by decide) dX3_readLine_27 (fun c27 => ?_) (fun c27 => ?_)
      · exact absurd c27 (by decide)
      · have hS1 : S j ≤ S j1 := by rw [s1.2.2]; have q1 := g_TK_le hX.O.tk hj; have q2 := g_sk_r (B := B) (n := N) (k := E j) (by omega); omega
        refine q_aload_n hF 0 rfl rfl dX3_readLine_30 ?_
        refine q_callV (kc := 0) (ks := 0) (mc' := 0) (ms' := 0) (h' := 15) (st := []) hF vl_RX3_109 rfl [] rfl rfl hX.D.t0 (by omega) (Nat.le_of_ble_eq_true rfl) dX3_readLine_31 ?_
        refine xX3_readLaw (s := g_mk (E j) s.fl s.fa s.cd s.op s.on s.hp) hfu hfar j1 (by show 2 * s.cd ≤ 3 * S j1; omega) _ _ _ _ _ _ _ _ hX hLL (by omega) (by omega) (fun s34 t34 I34 j34 n34 kq34 C34 e34 f34 L34 h34 => ?_) (fun w34 x34 I34 j34 n34 f34 p34 kq34 C34 e34 r34 W34 b34 h34 => ?_)
        · refine q_zreturn hF (by decide) rfl dX3_readLine_34 ?_
          exact k0 _ _ _ _ _ _ _ (by rw [← hr, g_lnB_sleep hX.O.tk hj c1, show j + 1 = j1 by omega]; exact e34) f34 L34 (by omega)
        · refine q_zreturn hF (by decide) rfl dX3_readLine_34 ?_
          exact k1 _ _ _ _ _ _ _ _ _ (by rw [← hr, g_lnB_sleep hX.O.tk hj c1, show j + 1 = j1 by omega]; exact e34) r34 W34 b34 (by omega)
  · have w0 := (q_wo_eq hF (by decide)).mp c12
    refine q_aload_n hF 0 rfl rfl dX3_readLine_15 ?_
    refine q_callV (kc := 0) (ks := 0) (mc' := 0) (ms' := 0) (h' := 3) (st := []) hF vl_RX3_99 rfl [] rfl rfl hX.D.t0 (by omega) (Nat.le_of_ble_eq_true rfl) dX3_readLine_16 ?_
    refine xX3_readLand (s := g_mk (E j) s.fl s.fa s.cd s.op s.on s.hp) j w0 _ _ _ _ _ _ _ _ hX hLL (by omega) (by omega) (fun s35 t35 I35 j35 n35 kq35 C35 e35 f35 L35 h35 => ?_) (fun w35 x35 I35 j35 n35 f35 p35 kq35 C35 e35 r35 W35 b35 h35 => ?_)
    · refine q_zreturn hF (by decide) rfl dX3_readLine_19 ?_
      exact k0 _ _ _ _ _ _ _ (by rw [← hr, g_lnB_land hX.O.tk hj w0]; exact e35) f35 L35 (by omega)
    · refine q_zreturn hF (by decide) rfl dX3_readLine_19 ?_
      exact k1 _ _ _ _ _ _ _ _ _ (by rw [← hr, g_lnB_land hX.O.tk hj w0]; exact e35) r35 W35 b35 (by omega)
theorem xX4_tell {G : q_G} {T : q_T} {I L : q_I} {P : q_P} {Q : q_Q} {sz a u by_ c N : Nat} {B : Nat → Int} {S E : Nat → Nat} {j kk : Nat} {nu fl pl : Int} {C : Nat → Int} (hX : q_XE G T I P a u by_ c N B S E) (hW : q_WK I u) (k0 : Q (.inl none) sz T (q_tld (q_xs I a u j nu fl pl kk C) u) L P) : qC G 2 0 0 YX4_tellTheUntold [.ref u] sz T (q_xs I a u j nu fl pl kk C) L P Q := by
  have ha : a < u := by have := hX.au; omega
  have e : ∀ k, k ≠ 11 → q_xs I a u j nu fl pl kk C u k = I u k := fun k hk => q_xs_u ha hk
  refine mX4_tellTheUntold hX.U hX.UA (by rw [e _ (by decide)]; exact hW.1 1 (by decide)) (by rw [e _ (by decide)]; exact hW.1 3 (by decide)) (by rw [e _ (by decide)]; exact hW.1 4 (by decide)) (by rw [e _ (by decide)]; exact hW.1 5 (by decide)) (by rw [e _ (by decide)]; exact hW.1 7 (by decide)) (fun k hk => by rw [q_xs_n (by omega)]; exact hW.2 k hk) k0
set_option maxRecDepth 100000 in
theorem eX3_read1 {G : q_G} {T : q_T} {P : q_P} {a u by_ c N : Nat} {B : Nat → Int} {S E : Nat → Nat} {F : q_F} {h kc ks sz : Nat} {I L : q_I} {Q : q_Q} {nn ii nu fl pl : Int} {j kk : Nat} {C : Nat → Int} (hF : q_ok G F YX3_read h) (hh : 3 ≤ h) (hX : q_XE G T I P a u by_ c N B S E) (hj : j ≤ c) (hW : q_WK I u) (k1 : ∀ nu, Q (.inl (some (qI 1))) sz T (q_tld (q_xs I a u j nu 1 (S j : Int) kk C) u) L P) : qX G F Q kc ks 90 [(3, qI ii), (2, qI 0), (0, .ref a), (1, qI nn)] [] sz T (q_xs I a u j nu 0 pl kk C) L P := by
  have hc6 : c ≤ 600 := by have := hX.O.tk.1; have := hX.O.n6; omega
  have hXau := hX.au
  have hXsep := hX.sep
  have hXlt : a < u := by omega
  refine q_iload_n hF 1 rfl rfl dX3_read_90 ?_
  refine q_ifne hF (by decide) dX3_read_91 (fun c91 => ?_) (fun c91 => ?_)
  · exact absurd c91 (by decide)
  · refine q_aload_n hF 2 rfl rfl dX3_read_94 ?_
    refine q_getIv hF (z := 0) fl_RX3_41 hX.D.t0 q_xs_8 dX3_read_95 ?_
    refine q_ifne hF (by decide) dX3_read_98 (fun c98 => ?_) (fun c98 => ?_)
    · exact absurd c98 (by decide)
    · refine q_aload_n hF 2 rfl rfl dX3_read_101 ?_
      refine q_iconst hF dX3_read_102 ?_
      refine q_callV (kc := kc) (ks := ks) (mc' := 0) (ms' := 0) (h' := 0) (st := []) hF vl_RX3_68 rfl [qI 1] rfl rfl hX.D.t0 (by omega) (Nat.le_of_ble_eq_true rfl) dX3_read_103 ?_
      refine xX3_fail hX (by omega) ?_
      refine q_pop hF rfl dX3_read_106 ?_
      refine q_aload_n hF 2 rfl rfl dX3_read_107 ?_
      refine q_getIv hF (z := 1) fl_RX3_41 hX.D.t0 q_xs_8 dX3_read_108 ?_
      refine q_ifne hF (by decide) dX3_read_111 (fun c111 => ?_) (fun c111 => ?_)
      · refine q_aload_n hF 2 rfl rfl dX3_read_131 ?_
        refine q_getA hF fl_RX3_18 rfl hX.D.t0 hX.P7 dX3_read_132 ?_
        refine q_callV (kc := kc) (ks := ks) (mc' := 0) (ms' := 0) (h' := 2) (st := []) hF vl_RX3_74 rfl [] rfl rfl hX.U.t0 (by omega) (Nat.le_of_ble_eq_true rfl) dX3_read_135 ?_
        refine xX4_tell hX hW ?_
        refine q_aload_n hF 2 rfl rfl dX3_read_138 ?_
        refine q_getIv hF (z := 1) fl_RX3_41 hX.D.t0 ((q_tld_lo _ hXlt).trans q_xs_8) dX3_read_139 ?_
        refine q_ireturn hF rfl dX3_read_142 ?_
        exact k1 _
      · exact absurd c111 (by decide)
set_option maxRecDepth 100000 in
theorem eX3_read2 {G : q_G} {T : q_T} {P : q_P} {a u by_ c N : Nat} {B : Nat → Int} {S E : Nat → Nat} {F : q_F} {h kc ks sz : Nat} {I L : q_I} {Q : q_Q} {nn ii nu fl pl : Int} {j kk : Nat} {C : Nat → Int} (hF : q_ok G F YX3_read h) (hh : 3 ≤ h) (hX : q_XE G T I P a u by_ c N B S E) (hj : j ≤ c) (hW : q_WK I u) (hfl : fl ≠ 0) (hflr : -2147483648 ≤ fl ∧ fl < 2147483648) (k1 : Q (.inl (some (qI fl))) sz T (q_tld (q_xs I a u j nu fl pl kk C) u) L P) : qX G F Q kc ks 90 [(3, qI ii), (2, qI 0), (0, .ref a), (1, qI nn)] [] sz T (q_xs I a u j nu fl pl kk C) L P := by
  have hc6 : c ≤ 600 := by have := hX.O.tk.1; have := hX.O.n6; omega
  have hXau := hX.au
  have hXsep := hX.sep
  have hXlt : a < u := by omega
  refine q_iload_n hF 1 rfl rfl dX3_read_90 ?_
  refine q_ifne hF (by decide) dX3_read_91 (fun c91 => ?_) (fun c91 => ?_)
  · exact absurd c91 (by decide)
  · refine q_aload_n hF 2 rfl rfl dX3_read_94 ?_
    refine q_getIv hF (z := fl) fl_RX3_41 hX.D.t0 q_xs_8 dX3_read_95 ?_
    refine q_ifne hF (by omega) dX3_read_98 (fun c98 => ?_) (fun c98 => ?_)
    · refine q_aload_n hF 2 rfl rfl dX3_read_107 ?_
      refine q_getIv hF (z := fl) fl_RX3_41 hX.D.t0 q_xs_8 dX3_read_108 ?_
      refine q_ifne hF (by omega) dX3_read_111 (fun c111 => ?_) (fun c111 => ?_)
      · refine q_aload_n hF 2 rfl rfl dX3_read_131 ?_
        refine q_getA hF fl_RX3_18 rfl hX.D.t0 hX.P7 dX3_read_132 ?_
        refine q_callV (kc := kc) (ks := ks) (mc' := 0) (ms' := 0) (h' := 2) (st := []) hF vl_RX3_74 rfl [] rfl rfl hX.U.t0 (by omega) (Nat.le_of_ble_eq_true rfl) dX3_read_135 ?_
        refine xX4_tell hX hW ?_
        refine q_aload_n hF 2 rfl rfl dX3_read_138 ?_
        refine q_getIv hF (z := fl) fl_RX3_41 hX.D.t0 ((q_tld_lo _ hXlt).trans q_xs_8) dX3_read_139 ?_
        refine q_ireturn hF rfl dX3_read_142 ?_
        exact k1
      · first | omega | exact absurd c111 c98 | exact absurd c98 c111
    · omega
set_option maxRecDepth 100000 in
theorem eX3_read3 {G : q_G} {T : q_T} {P : q_P} {a u by_ c N : Nat} {B : Nat → Int} {S E : Nat → Nat} {F : q_F} {h kc ks sz : Nat} {I L : q_I} {Q : q_Q} {nn ii nu fl pl : Int} {j kk : Nat} {C : Nat → Int} (hF : q_ok G F YX3_read h) (hh : 3 ≤ h) (hX : q_XE G T I P a u by_ c N B S E) (hj : j ≤ c) {t : Nat → Int} (hD1 : q_D1 I u t) (hW : q_WK I u) (k0 : t 0 ≠ 0 → Q (.inl (some (qI 0))) sz T (q_tld (q_xs I a u j nu 0 pl kk C) u) L P) (k1 : t 0 = 0 → Q (.inl (some (qI 7))) sz T (q_tld (q_xs I a u j nu 7 (S j : Int) kk C) u) L P) : qX G F Q kc ks 90 [(3, qI ii), (2, qI 1), (0, .ref a), (1, qI nn)] [] sz T (q_xs I a u j nu 0 pl kk C) L P := by
  have hc6 : c ≤ 600 := by have := hX.O.tk.1; have := hX.O.n6; omega
  have hXau := hX.au
  have hXsep := hX.sep
  have hXlt : a < u := by omega
  refine q_iload_n hF 1 rfl rfl dX3_read_90 ?_
  refine q_ifne hF (by decide) dX3_read_91 (fun c91 => ?_) (fun c91 => ?_)
  · refine q_aload_n hF 2 rfl rfl dX3_read_107 ?_
    refine q_getIv hF (z := 0) fl_RX3_41 hX.D.t0 q_xs_8 dX3_read_108 ?_
    refine q_ifne hF (by decide) dX3_read_111 (fun c111 => ?_) (fun c111 => ?_)
    · exact absurd c111 (by decide)
    · refine q_aload_n hF 2 rfl rfl dX3_read_114 ?_
      refine q_getA hF fl_RX3_18 rfl hX.D.t0 hX.P7 dX3_read_115 ?_
      refine q_getIv hF (z := t 0) fl_RX3_71 hX.U.t0 ((q_xs_u hXlt (by decide)).trans hD1.1) dX3_read_118 ?_
      refine q_ifne hF (by have := hD1.2.1; omega) dX3_read_121 (fun c121 => ?_) (fun c121 => ?_)
      · refine q_aload_n hF 2 rfl rfl dX3_read_131 ?_
        refine q_getA hF fl_RX3_18 rfl hX.D.t0 hX.P7 dX3_read_132 ?_
        refine q_callV (kc := kc) (ks := ks) (mc' := 0) (ms' := 0) (h' := 2) (st := []) hF vl_RX3_74 rfl [] rfl rfl hX.U.t0 (by omega) (Nat.le_of_ble_eq_true rfl) dX3_read_135 ?_
        refine xX4_tell hX hW ?_
        refine q_aload_n hF 2 rfl rfl dX3_read_138 ?_
        refine q_getIv hF (z := 0) fl_RX3_41 hX.D.t0 ((q_tld_lo _ hXlt).trans q_xs_8) dX3_read_139 ?_
        refine q_ireturn hF rfl dX3_read_142 ?_
        exact k0 c121
      · refine q_aload_n hF 2 rfl rfl dX3_read_124 ?_
        refine q_bipush hF (n := 7) rfl dX3_read_125 ?_
        refine q_callV (kc := kc) (ks := ks) (mc' := 0) (ms' := 0) (h' := 0) (st := []) hF vl_RX3_68 rfl [qI 7] rfl rfl hX.D.t0 (by omega) (Nat.le_of_ble_eq_true rfl) dX3_read_127 ?_
        refine xX3_fail hX (by omega) ?_
        refine q_pop hF rfl dX3_read_130 ?_
        refine q_aload_n hF 2 rfl rfl dX3_read_131 ?_
        refine q_getA hF fl_RX3_18 rfl hX.D.t0 hX.P7 dX3_read_132 ?_
        refine q_callV (kc := kc) (ks := ks) (mc' := 0) (ms' := 0) (h' := 2) (st := []) hF vl_RX3_74 rfl [] rfl rfl hX.U.t0 (by omega) (Nat.le_of_ble_eq_true rfl) dX3_read_135 ?_
        refine xX4_tell hX hW ?_
        refine q_aload_n hF 2 rfl rfl dX3_read_138 ?_
        refine q_getIv hF (z := 7) fl_RX3_41 hX.D.t0 ((q_tld_lo _ hXlt).trans q_xs_8) dX3_read_139 ?_
        refine q_ireturn hF rfl dX3_read_142 ?_
        exact k1 c121
  · exact absurd c91 (by decide)
theorem xX3_bad {G : q_G} {T : q_T} {P : q_P} {a u by_ c N : Nat} {B : Nat → Int} {S E : Nat → Nat} {F : q_F} {h kc ks sz : Nat} {I L : q_I} {Q : q_Q} {nn ii nu fl pl w : Int} {j kk x : Nat} {C : Nat → Int} (hF : q_ok G F YX3_read h) (hh : 3 ≤ h) (hX : q_XE G T I P a u by_ c N B S E) (hj : j ≤ c) (hW : q_WK I u) (hb : g_bad w x fl pl (S j)) (k1 : ∀ nu, (1 ≤ w ∧ w ≤ 7) → Q (.inl (some (qI w))) sz T (q_tld (q_xs I a u j nu w (x : Int) kk C) u) L P) : qX G F Q kc ks 90 [(3, qI ii), (2, qI 0), (0, .ref a), (1, qI nn)] [] sz T (q_xs I a u j nu fl pl kk C) L P := by
  rcases hb with ⟨rfl, rfl, rfl⟩ | ⟨rfl, hw, rfl⟩
  · exact eX3_read1 (fl := 0) hF hh hX hj hW (fun nu => k1 nu (by decide))
  · exact eX3_read2 hF hh hX hj hW (by omega) (by omega) (k1 _ hw)
set_option maxRecDepth 100000 in
theorem xX3_out {G : q_G} {T : q_T} {P : q_P} {a : Nat}  {F : q_F} {h kc ks sz i : Nat} {M L : q_I} {Q : q_Q} {nn : Int} (hF : q_ok G F YX3_read h) (hi : i ≤ 100000) (k : qX G F Q kc ks 90 [(3, qI (i : Int)), (2, qI 0), (0, .ref a), (1, qI nn)] [] sz T M L P) : qX G F Q kc ks 36 [(3, qI (i : Int)), (2, qI 0), (0, .ref a), (1, qI nn)] [] sz T M L P := by
  refine q_iload_n hF 0 rfl rfl dX3_read_36 ?_
  refine q_sipush hF (n := 600) rfl dX3_read_37 ?_
  refine q_icmpgt hF (by omega) (by decide) dX3_read_40 (fun c40 => ?_) (fun c40 => ?_)
  · exact k
  · refine q_iload_n hF 1 rfl rfl dX3_read_43 ?_
    refine q_ifeq hF (by decide) dX3_read_44 (fun c44 => ?_) (fun c44 => ?_)
    · exact k
    · exact absurd c44 (by decide)
set_option maxRecDepth 100000 in
theorem lX3_read {G : q_G} {T : q_T} {P : q_P} {a u by_ c N : Nat} {B : Nat → Int} {S E : Nat → Nat} {F : q_F} {h kc ks sz : Nat} {I0 L : q_I} {Q : q_Q} {pl nn : Int} {r : g_Rl} (hF : q_ok G F YX3_read h) (hh : 17 ≤ h) (k0 : ∀ s' t' I' j' nu' kk' C', r = .ok s' t' → q_FR u I' I0 → q_LL I' C' u t' kk' s' → kk' ≤ 600 → s'.cd ≤ 900 → t' 0 ≠ 0 → Q (.inl (some (qI 0))) sz T (q_tld (q_xs I' a u j' nu' 0 pl kk' C') u) L P) (k1 : ∀ w x I' j' nu' kk' C', r = .er w x → (1 ≤ w ∧ w ≤ 7) → q_FR u I' I0 → Q (.inl (some (qI w))) sz T (q_tld (q_xs I' a u j' nu' w (x : Int) kk' C') u) L P) : ∀ (w i j kk : Nat) (s : g_PS) (t : Nat → Int) (I : q_I) (nu : Int) (C : Nat → Int), N - s.p < w → i ≤ j → j ≤ c → kk ≤ j → s.p ≤ N → S j = g_sk B N s.p → s.fl = 0 → s.fa = -1 → 2 * s.cd ≤ 3 * s.p → g_TR t → q_XE G T I P a u by_ c N B S E → q_LL I C u t kk s → q_FR u I I0 → g_fin N (g_lines B N 4000 w s t) = r → qX G F Q kc ks 36 [(3, qI (i : Int)), (2, qI 1), (0, .ref a), (1, qI nn)] [] sz T (q_xs I a u j nu 0 pl kk C) L P := by
  intro w
  induction w with
  | zero => intro i j kk s t I nu C hn; exact absurd hn (Nat.not_lt_zero _)
  | succ w ih =>
    intro i j kk s t I nu C hn hij hj hkk hp hS hfl hfa hcd hTR hX hLL hF0 hr
    have hc6 : c ≤ 600 := by have := hX.O.tk.1; have := hX.O.n6; omega
    have hXau := hX.au
    have hXsep := hX.sep
    have hXlt : a < u := by omega
    have hN6 := hX.O.n6
    have hBT := g_BT_any (B := B) (n := N) hN6 hX.O.br
    have hfu := g_fuel_of hBT
    have hfar : ∀ p p' cs, p ≤ N → g_ex B N 4000 3 0 p = .ok p' cs → g_far N 3 p p' cs := fun p p' cs h e => g_far_of hBT (by decide) h e
    have hskr := g_sk_r (B := B) (n := N) hp
    rw [← hS] at hskr
    have hqq : g_sk B N (S j) = S j := by rw [hS]; exact g_sk_sk hp
    let sa : g_PS := g_mk (S j) s.fl s.fa s.cd s.op s.on s.hp
    have hsaq : g_sk B N sa.p = S j := hqq
    have hsap : sa.p ≤ N := (by show S j ≤ N; omega)
    have hsaf : sa.fl = 0 ∧ sa.fa = -1 := ⟨hfl, hfa⟩
    have hsac : 2 * sa.cd ≤ 3 * sa.p := (by show 2 * s.cd ≤ 3 * S j; omega)
    have hLL1 : q_LL I C u t kk sa := hLL
    obtain ⟨hD1, hD2, hD3, hD4, hfr⟩ := hLL
    have hW := q_WK.of hD1 hD2 hD3
    refine q_iload_n hF 0 rfl rfl dX3_read_36 ?_
    refine q_sipush hF (n := 600) rfl dX3_read_37 ?_
    refine q_icmpgt hF (by omega) (by decide) dX3_read_40 (fun c40 => ?_) (fun c40 => ?_)
    · omega
    · refine q_iload_n hF 1 rfl rfl dX3_read_43 ?_
      refine q_ifeq hF (by decide) dX3_read_44 (fun c44 => ?_) (fun c44 => ?_)
      · exact absurd c44 (by decide)
      · refine q_aload_n hF 2 rfl rfl dX3_read_47 ?_
        refine q_getA hF fl_RX3_22 rfl hX.D.t0 hX.D.p1 dX3_read_48 ?_
        refine q_aload_n hF 2 rfl rfl dX3_read_51 ?_
        refine q_getIv hF (z := (j : Int)) fl_RX3_37 hX.D.t0 q_xs_5 dX3_read_52 ?_
        refine q_ialoadv hF (z := g_so B N (S j)) (n := 601) j hX.D.t1 rfl (by omega) (by decide) ((hX.O.xs hX.au).so _ (by omega)) dX3_read_55 ?_
        refine q_sipush hF (n := 258) rfl dX3_read_56 ?_
        refine q_icmpeq hF (by have := g_so_r hX.O.br (g_TK_le hX.O.tk (show j ≤ c by omega)).1; omega) (by decide) dX3_read_59 (fun c59 => ?_) (fun c59 => ?_)
        · refine q_sub [0, 1, 2, 3] rfl ?_
          have hSN : S j = N := (g_so_end hX.O.br (g_TK_le hX.O.tk hj).1).mp c59
          have hg : g_lines B N 4000 (w + 1) s t = g_Rl.ok (g_mk (S j) s.fl s.fa s.cd s.op s.on s.hp) t := by
            have := g_lines_e (B := B) (n := N) (f := 4000) (w := w) (s := s) (t := t) (by rw [← hS, hSN, g_bt_n])
            rw [← hS] at this; exact this
          rw [hg] at hr
          refine eX3_read3 (fl := 0) hF (by omega) hX hj hD1 hW (fun h0 => ?_) (fun h0 => ?_)
          · rw [g_fin_k h0] at hr
            exact k0 _ _ _ _ _ _ _ hr.symm hF0 hLL1 (by omega) (by show s.cd ≤ 900; omega) h0
          · rw [g_fin_7 h0, ← hSN] at hr
            exact k1 _ _ _ _ nu _ _ hr.symm (by decide) hF0
        · have hne1 : g_bt B N (S j) ≠ -1 := fun h9 => by
            have hlt : ¬ S j < N := fun h10 => by
              have q := hX.O.br (S j)
              rw [show g_bt B N (S j) = B (S j) from if_pos h10] at h9; omega
            exact c59 ((g_so_end hX.O.br (g_TK_le hX.O.tk hj).1).mpr (by have := (g_TK_le hX.O.tk hj).1; omega))
          refine q_aload_n hF 2 rfl rfl dX3_read_62 ?_
          refine q_callV (kc := kc) (ks := ks) (mc' := 0) (ms' := 0) (h' := 16) (st := []) hF vl_RX3_60 rfl [] rfl rfl hX.D.t0 (by omega) (Nat.le_of_ble_eq_true rfl) dX3_read_63 ?_
          refine xX3_readLine (s := sa) hfu hfar j (by show 2 * s.cd ≤ 3 * S j; omega) _ _ _ _ _ _ _ _ hX hLL1 (by omega) (by omega) (fun s1 t1 I1 j1 n1 kq1 C1 e1 f1 L1 h1 => ?_) (fun w1 x1 I1 j1 n1 f1 p1 kq1 C1 e1 r1 W1 b1 h1 => ?_)
          · have hX1 := hX.fr f1
            refine q_ifeq hF (by decide) dX3_read_66 (fun c66 => ?_) (fun c66 => ?_)
            · exact absurd c66 (by decide)
            · refine q_aload_n hF 2 rfl rfl dX3_read_69 ?_
              refine q_bipush hF (n := 59) rfl dX3_read_70 ?_
              refine q_callV (kc := kc) (ks := ks) (mc' := 0) (ms' := 0) (h' := 0) (st := []) hF vl_RX3_64 rfl [qI 59] rfl rfl hX.D.t0 (by omega) (Nat.le_of_ble_eq_true rfl) dX3_read_72 ?_
              refine xX3_takeSign hX1 (by omega) (by decide) (fun c2 => ?_) (fun j2 hj2 c2 s2 => ?_)
              · refine q_ifeq hF (by decide) dX3_read_75 (fun c75 => ?_) (fun c75 => ?_)
                · refine q_iconst hF dX3_read_82 ?_
                  refine q_istore_n hF (ls' := [(2, qI 0), (3, qI (i : Int)), (0, .ref a), (1, qI nn)]) rfl (by decide) rfl dX3_read_83 ?_
                  refine q_iinc hF (z' := ((1 + i : Nat) : Int)) (ls' := [(3, qI ((1 + i : Nat) : Int)), (2, qI 0), (0, .ref a), (1, qI nn)]) 1 rfl (by first | rfl | omega) (by decide) rfl dX3_read_84 ?_
                  refine q_goto hF dX3_read_87 ?_
                  refine q_sub [0, 1, 2, 3] rfl ?_
                  refine xX3_out hF (i := 1 + i) (by omega) ?_
                  refine q_sub [0, 1, 2, 3] rfl ?_
                  have ea := g_after_er (B := B) (n := N) (s := s1) (t := t1) (by rw [← h1.2.2.2.1]; exact c2)
                  rw [← h1.2.2.2.1] at ea
                  have el : g_line B N 4000 sa t = .er 1 (S j1) := by unfold g_line; rw [hsaq, e1]; exact ea
                  have hg : g_lines B N 4000 (w + 1) s t = .er 1 (S j1) := g_lines_x (by rw [← hS]; exact hne1) (by rw [← hS]; exact el)
                  rw [hg, g_fin_e] at hr
                  exact xX3_bad hF (by omega) hX1 (by omega) (q_WK.of L1.1 L1.2.1 L1.2.2.1) (Or.inl ⟨rfl, rfl, rfl⟩) (fun nu9 hw9 => k1 _ _ _ _ nu9 _ _ hr.symm hw9 (q_FR.t f1 hF0))
                · exact absurd c75 (by decide)
              · refine q_ifeq hF (by decide) dX3_read_75 (fun c75 => ?_) (fun c75 => ?_)
                · exact absurd c75 (by decide)
                · refine q_iconst hF dX3_read_78 ?_
                  refine q_goto hF dX3_read_79 ?_
                  refine q_istore_n hF (ls' := [(2, qI 1), (3, qI (i : Int)), (0, .ref a), (1, qI nn)]) rfl (by decide) rfl dX3_read_83 ?_
                  refine q_iinc hF (z' := ((1 + i : Nat) : Int)) (ls' := [(3, qI ((1 + i : Nat) : Int)), (2, qI 1), (0, .ref a), (1, qI nn)]) 1 rfl (by first | rfl | omega) (by decide) rfl dX3_read_84 ?_
                  refine q_goto hF dX3_read_87 ?_
                  refine q_sub [0, 1, 2, 3] rfl ?_
                  have ea := g_after_ok (B := B) (n := N) (s := s1) (t := t1) (by rw [← h1.2.2.2.1]; exact c2)
                  rw [← h1.2.2.2.1] at ea
                  have el : g_line B N 4000 sa t = .ok (g_mk (1 + S j1) s1.fl s1.fa s1.cd s1.op s1.on s1.hp) t1 := by unfold g_line; rw [hsaq, e1]; exact ea
                  have iv := g_line_iv hBT (g_hB hBT) g_len3 hfar hsap hsaf hsac hTR el
                  have ivp := iv.2.1
                  have ivl := iv.2.2.1.2
                  have hg : g_lines B N 4000 (w + 1) s t = g_lines B N 4000 w (g_mk (1 + S j1) s1.fl s1.fa s1.cd s1.op s1.on s1.hp) t1 := g_lines_k (by rw [← hS]; exact hne1) (by rw [← hS]; exact el)
                  exact ih (1 + i) j2 _ (g_mk (1 + S j1) s1.fl s1.fa s1.cd s1.op s1.on s1.hp) t1 _ _ _ (by have ivl : S j + 1 ≤ 1 + S j1 := ivl; have ivp : 1 + S j1 ≤ N := ivp; show N - (1 + S j1) < w; omega) (by omega) (by omega) (by omega) ivp s2.2.2 iv.1.1 iv.1.2 iv.2.2.1.1 iv.2.2.2 hX1 L1 (q_FR.t f1 hF0) (by rw [← hr, hg])
          · have hX1 := hX.fr r1
            refine q_ifeq hF (by decide) dX3_read_66 (fun c66 => ?_) (fun c66 => ?_)
            · refine q_iconst hF dX3_read_82 ?_
              refine q_istore_n hF (ls' := [(2, qI 0), (3, qI (i : Int)), (0, .ref a), (1, qI nn)]) rfl (by decide) rfl dX3_read_83 ?_
              refine q_iinc hF (z' := ((1 + i : Nat) : Int)) (ls' := [(3, qI ((1 + i : Nat) : Int)), (2, qI 0), (0, .ref a), (1, qI nn)]) 1 rfl (by first | rfl | omega) (by decide) rfl dX3_read_84 ?_
              refine q_goto hF dX3_read_87 ?_
              refine q_sub [0, 1, 2, 3] rfl ?_
              refine xX3_out hF (i := 1 + i) (by omega) ?_
              refine q_sub [0, 1, 2, 3] rfl ?_
              have ea : g_after B N (g_Rl.er w1 x1) = g_Rl.er w1 x1 := rfl
              have el : g_line B N 4000 sa t = .er w1 x1 := by unfold g_line; rw [hsaq, e1]; rfl
              have hg : g_lines B N 4000 (w + 1) s t = .er w1 x1 := g_lines_x (by rw [← hS]; exact hne1) (by rw [← hS]; exact el)
              rw [hg, g_fin_e] at hr
              exact xX3_bad hF (by omega) hX1 (by omega) W1 b1 (fun nu9 hw9 => k1 _ _ _ _ nu9 _ _ hr.symm hw9 (q_FR.t r1 hF0))
            · exact absurd c66 (by decide)
