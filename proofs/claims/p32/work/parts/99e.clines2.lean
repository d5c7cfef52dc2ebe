/-! the class: law, land, order -/
theorem g_el_ne {cs : List Int} (h : cs ≠ []) : 0 < g_el cs := by
  cases cs with
  | nil => exact absurd rfl h
  | cons c cs =>
    by_cases e : 0 ≤ c
    · rw [g_el_pos e]; omega
    · rw [g_el_neg (by omega)]; omega
/-- a law told by both -/
theorem g_law_told {B : Nat → Int} {N f p p' cd : Nat} {cs : List Int} {t t' : Nat → Int} (h : g_ex B N f 3 0 p = .ok p' cs) (he : g_el cs < 901) (ht : ∀ k, 139 ≤ k → t' k = g_app t (139 + cd) (g_encs cs) k) : 0 < g_el cs ∧ g_dec t' 901 cd (cd + g_el cs) = cs ∧ g_wf cs 0 ∧ g_mx cs 0 := by
  have hr := g_ex_run f 3 0 p p' cs (by decide) (by decide) h 0 (show 0 ≤ 16 + 3 * 0 by decide)
  have hw := g_run2_wf _ _ hr
  refine ⟨g_el_ne (fun e => by rw [e] at hw; exact absurd hw (show ¬ (0 = 1) by decide)), g_dec_encs cs 901 cd (g_run2_c _ _ hr) he (g_at_ext _ _ (fun i h1 h2 => ht i (by omega)) (g_at_app _ _ _)), hw, g_run2_mx _ _ hr⟩
theorem g_ul3 {ul : List Nat} (hn : ul.Nodup) (hx : ∀ x, x ∈ ul → x < 3) (hl : ul.length = 3) {o : Nat} (ho : o < 3) : o ∈ ul := by
  match ul, hl with
  | [x, y, z], _ =>
    have h1 := hx x (by simp)
    have h2 := hx y (by simp)
    have h3 := hx z (by simp)
    simp only [List.nodup_cons, List.mem_cons, List.not_mem_nil, not_or, or_false] at hn
    simp only [List.mem_cons, List.not_mem_nil, or_false]
    omega
set_option maxRecDepth 100000 in
theorem xX3_readLaw {G : q_G} {T : q_T} {P : q_P} {a u by_ c N : Nat} {B : Nat → Int} {S E : Nat → Nat} {s : g_PS} {t : Nat → Int} {f : Nat} (hfu : ∀ p, p ≤ N → g_ex B N f 3 0 p ≠ .er 0 0) (hfar : ∀ p p' cs, p ≤ N → g_ex B N f 3 0 p = .ok p' cs → g_far N 3 p p' cs) : ∀ (j : Nat), 2 * s.cd ≤ 3 * S j → q_XL G T P a u by_ c N B S E YX3_readLaw 15 [] j s t (g_rdSleep B N f s t (S j)) := by
  intro j hcd sz I L Q nu pl kk C hX hLL hj hkk k0 k1
  have hc6 : c ≤ 600 := by have := hX.O.tk.1; have := hX.O.n6; omega
  have hXau := hX.au
  have hXsep := hX.sep
  have hXlt : a < u := by omega
  obtain ⟨hD1, hD2, hD3, hD4, hfr⟩ := hLL
  have hW := q_WK.of hD1 hD2 hD3
  have hD1b := hD1.2.1
  have hN6 := hX.O.n6
  generalize hr : (g_rdSleep B N f s t (S j)) = r at k0 k1
  show qC G 15 0 0 YX3_readLaw [.ref a] sz T (q_xs I a u j nu 0 pl kk C) L P Q
  refine qC_of (by decide +kernel) rfl rfl (Nat.le_of_ble_eq_true rfl) (fun F hF _ _ => ?_)
  refine q_aload_n hF 0 rfl rfl dX3_readLaw_0 ?_
  refine q_callV (kc := 0) (ks := 0) (mc' := 0) (ms' := 0) (h' := 0) (st := []) hF vl_RX3_187 rfl [] rfl rfl hX.D.t0 (by omega) (Nat.le_of_ble_eq_true rfl) dX3_readLaw_1 ?_
  refine xX3_kindInHand hX (by omega) ?_
  refine q_istore_n hF (ls' := [(1, qI (g_kd (g_wo B (S j) (E j)))), (0, .ref a)]) rfl (by decide) rfl dX3_readLaw_4 ?_
  refine q_iload_n hF 0 rfl rfl dX3_readLaw_5 ?_
  refine q_iconst hF dX3_readLaw_6 ?_
  refine q_icmpne hF (by have := g_kd_r (g_wo B (S j) (E j)) (fun x h => g_wo_lt h); omega) (by decide) dX3_readLaw_7 (fun c7 => ?_) (fun c7 => ?_)
  · obtain ⟨k, hk5, hwk, hkd⟩ := g_kd_y (fun x h => g_wo_lt h) c7
    rw [hkd]
    rw [g_rdSleep_y hX.O.tk hj hk5 hwk] at hr
    unfold g_rdS at hr
    have hwe := g_wo_end hX.O.tk hj hwk
    refine q_aload_n hF 1 rfl rfl dX3_readLaw_12 ?_
    refine q_callV (kc := 0) (ks := 0) (mc' := 0) (ms' := 0) (h' := 0) (st := []) hF vl_RX3_92 rfl [] rfl rfl hX.D.t0 (by omega) (Nat.le_of_ble_eq_true rfl) dX3_readLaw_13 ?_
    refine xX3_step hX (by omega) (fun j2 hj2 => ?_)
    rw [show j + 1 = j2 by omega] at hr
    refine q_aload_n hF 1 rfl rfl dX3_readLaw_16 ?_
    refine q_callV (kc := 0) (ks := 0) (mc' := 0) (ms' := 0) (h' := 2) (st := []) hF vl_RX3_191 rfl [] rfl rfl hX.D.t0 (by omega) (Nat.le_of_ble_eq_true rfl) dX3_readLaw_17 ?_
    refine xX3_toldLandInHand hX hD1 (by omega) (fun c3 => ?_) (fun c3 d3 => ?_) (fun l3 c3 s3 d3 q3 => ?_)
    · refine q_istore_n hF (ls' := [(2, qI (-1)), (1, qI (k : Int)), (0, .ref a)]) rfl (by decide) rfl dX3_readLaw_20 ?_
      refine q_iload_n hF 0 rfl rfl dX3_readLaw_21 ?_
      refine q_iconst hF dX3_readLaw_22 ?_
      refine q_icmpne hF (by decide) (by decide) dX3_readLaw_23 (fun c23 => ?_) (fun c23 => ?_)
      · exact absurd c23 (by decide)
      · refine q_iconst hF dX3_readLaw_26 ?_
        refine q_zreturn hF (by decide) rfl dX3_readLaw_27 ?_
        rw [if_neg c3] at hr
        exact k1 1 (S j2) _ _ _ _ _ _ _ hr.symm (q_FR.r u I) (hW) (Or.inl ⟨rfl, rfl, rfl⟩) (by omega)
    · refine q_istore_n hF (ls' := [(2, qI (-1)), (1, qI (k : Int)), (0, .ref a)]) rfl (by decide) rfl dX3_readLaw_20 ?_
      refine q_iload_n hF 0 rfl rfl dX3_readLaw_21 ?_
      refine q_iconst hF dX3_readLaw_22 ?_
      refine q_icmpne hF (by decide) (by decide) dX3_readLaw_23 (fun c23 => ?_) (fun c23 => ?_)
      · exact absurd c23 (by decide)
      · refine q_iconst hF dX3_readLaw_26 ?_
        refine q_zreturn hF (by decide) rfl dX3_readLaw_27 ?_
        rw [if_pos c3, if_pos d3] at hr
        exact k1 3 (S j2) _ _ _ _ _ _ _ hr.symm (q_FR.r u I) (hW) (Or.inr ⟨rfl, by decide, rfl⟩) (by omega)
    · refine q_istore_n hF (ls' := [(2, qI (l3 : Int)), (1, qI (k : Int)), (0, .ref a)]) rfl (by decide) rfl dX3_readLaw_20 ?_
      refine q_iload_n hF 0 rfl rfl dX3_readLaw_21 ?_
      refine q_iconst hF dX3_readLaw_22 ?_
      refine q_icmpne hF (by omega) (by decide) dX3_readLaw_23 (fun c23 => ?_) (fun c23 => ?_)
      · rw [if_pos c3, if_neg (show ¬ (g_lnd B N t (S j2) (g_nl B N (S j2)) = -1) by omega), d3, show (89 + 2 * (5 * (k : Int) + (l3 : Int)) + 1).toNat = 90 + 2 * (5 * k + l3) by omega, show (89 + 2 * (5 * (k : Int) + (l3 : Int))).toNat = 89 + 2 * (5 * k + l3) by omega] at hr
        refine q_aload_n hF 2 rfl rfl dX3_readLaw_28 ?_
        refine q_getA hF fl_RX3_18 rfl hX.D.t0 hX.P7 dX3_readLaw_29 ?_
        refine q_iload_n hF 1 rfl rfl dX3_readLaw_32 ?_
        refine q_iload_n hF 0 rfl rfl dX3_readLaw_33 ?_
        refine q_callV (kc := 0) (ks := 0) (mc' := 0) (ms' := 0) (h' := 1) (st := []) hF vl_RX3_194 rfl [qI (k : Int), qI (l3 : Int)] rfl rfl hX.U.t0 (by omega) (Nat.le_of_ble_eq_true rfl) dX3_readLaw_34 ?_
        refine xX4_takes (kd := k) (l := l3) hX hD1 hD4 (by omega) (by omega) (by omega) (fun c4 => ?_) (fun c4 => ?_)
        · refine q_ifeq hF (by decide) dX3_readLaw_37 (fun c37 => ?_) (fun c37 => ?_)
          · rw [if_neg c4] at hr
            refine q_aload_n hF 2 rfl rfl dX3_readLaw_47 ?_
            refine q_callV (kc := 0) (ks := 0) (mc' := 0) (ms' := 0) (h' := 0) (st := []) hF vl_RX3_92 rfl [] rfl rfl hX.D.t0 (by omega) (Nat.le_of_ble_eq_true rfl) dX3_readLaw_48 ?_
            refine xX3_step hX (by omega) (fun j5 hj5 => ?_)
            refine q_aload_n hF 2 rfl rfl dX3_readLaw_51 ?_
            refine q_getA hF fl_RX3_18 rfl hX.D.t0 hX.P7 dX3_readLaw_52 ?_
            refine q_getIv hF (z := (kk : Int)) fl_RX3_197 hX.U.t0 (q_xs_11 hXlt) dX3_readLaw_55 ?_
            refine q_istore_n hF (ls' := [(3, qI (kk : Int)), (2, qI (l3 : Int)), (1, qI (k : Int)), (0, .ref a)]) rfl (by decide) rfl dX3_readLaw_58 ?_
            have hS2 : S j5 = g_sk B N (g_nl B N (S j2) + S j2) := by rw [hj5, s3.2.2.1, s3.2.1]
            have hle1 := g_TK_le hX.O.tk (show j2 ≤ c by omega)
            have hle0 := g_TK_le hX.O.tk hj
            have hlej : S j2 = g_sk B N (E j) := by rw [hj2, hwe.2.2.1]
            have hskr := g_sk_r (B := B) (n := N) (k := E j) (by omega)
            have hl26 := (g_ri_all (18 + k) (by omega)).2.1
            have hl27 := (g_ri_all (18 + k) (by omega)).1
            refine q_aload_n hF 3 rfl rfl dX3_readLaw_59 ?_
            refine q_iconst hF dX3_readLaw_60 ?_
            refine q_callV (kc := 0) (ks := 0) (mc' := 0) (ms' := 0) (h' := 5 + 3 * (3 - 0)) (st := []) hF vl_RX3_200 rfl [qI 0] rfl rfl hX.D.t0 (by omega) (Nat.le_of_ble_eq_true rfl) dX3_readLaw_61 ?_
            refine xX3_sum hX f 0 (g_nl B N (S j2) + S j2) j5 (by decide) (by omega) hS2 _ _ _ _ _ _ _ (by omega) (by omega) (hfu _ (by omega)) (fun p6 z6 j6 n6 e6 h6 => ?_) (fun w6 x6 j6 n6 fl6 pl6 kk6 C6 e6 b6 h6 => ?_)
            · have hfa := hfar _ _ _ (show g_nl B N (S j2) + S j2 ≤ N by omega) e6
              have hfa1 := hfa.1
              have hfa2 := hfa.2
              rw [if_neg (by decide)] at hfa2
              have hex := e6
              rw [e6, g_bl_k] at hr
              refine q_ifne hF (by decide) dX3_readLaw_64 (fun c64 => ?_) (fun c64 => ?_)
              · refine q_aload_n hF 3 rfl rfl dX3_readLaw_69 ?_
                refine q_getA hF fl_RX3_18 rfl hX.D.t0 hX.P7 dX3_readLaw_70 ?_
                refine q_iload_n hF 2 rfl rfl dX3_readLaw_73 ?_
                refine q_iload_n hF 1 rfl rfl dX3_readLaw_74 ?_
                refine q_iload_n hF 0 rfl rfl dX3_readLaw_75 ?_
                refine q_callV (kc := 0) (ks := 0) (mc' := 0) (ms' := 0) (h' := 1) (st := []) hF vl_RX3_203 rfl [qI (k : Int), qI (l3 : Int), qI (kk : Int)] rfl rfl hX.U.t0 (by omega) (Nat.le_of_ble_eq_true rfl) dX3_readLaw_76 ?_
                refine xX4_addLaw (kd := k) (l := l3) hX hD1 hk5 (by omega) ?_
                refine q_iconst hF dX3_readLaw_79 ?_
                refine q_zreturn hF (by decide) rfl dX3_readLaw_80 ?_
                obtain ⟨I2, hI2⟩ : ∃ I2 : q_I, I2 = u2 (u2 I (u + 4) (5 * k + l3) (kk : Int)) (u + 5) (5 * k + l3) ((kk + z6.length : Nat) : Int) := ⟨_, rfl⟩
                rw [← hI2]
                have fI : ∀ q k, q ≠ u + 4 → q ≠ u + 5 → I2 q k = I q k := fun q k h1 h2 => by rw [hI2, u2_a _ _ h2, u2_a _ _ h1]
                have f4 : ∀ k9, k9 ≠ (5 * k + l3) → I2 (u + 4) k9 = I (u + 4) k9 := fun k9 h => by rw [hI2, u2_a _ _ (by omega), u2_k _ _ h]
                have f5 : ∀ k9, k9 ≠ (5 * k + l3) → I2 (u + 5) k9 = I (u + 5) k9 := fun k9 h => by rw [hI2, u2_k _ _ h, u2_a _ _ (by omega)]
                have f4e : I2 (u + 4) (5 * k + l3) = (kk : Int) := by rw [hI2, u2_a _ _ (by omega), u2_s]
                have f5e : I2 (u + 5) (5 * k + l3) = ((kk + z6.length : Nat) : Int) := by rw [hI2, u2_s]
                obtain ⟨t2, ht2⟩ : ∃ t2 : Nat → Int, t2 = g_up (g_up (g_app t (139 + s.cd) (g_encs z6)) (89 + 2 * (5 * k + l3)) (s.cd : Int)) (90 + 2 * (5 * k + l3)) ((s.cd + g_el z6 : Nat) : Int) := ⟨_, rfl⟩
                rw [← ht2] at hr
                have g1 : ∀ k9, k9 < 139 + s.cd → k9 ≠ 89 + 2 * (5 * k + l3) → k9 ≠ 90 + 2 * (5 * k + l3) → t2 k9 = t k9 := fun k9 h1 h2 h3 => by rw [ht2, g_up_n _ _ h3, g_up_n _ _ h2, g_app_lo _ _ _ _ h1]
                have g2 : ∀ k9, 139 ≤ k9 → t2 k9 = g_app t (139 + s.cd) (g_encs z6) k9 := fun k9 h1 => by rw [ht2, g_up_n _ _ (by omega), g_up_n _ _ (by omega)]
                obtain ⟨a1, a2, a3, a4⟩ := g_law_told hex (by omega) g2
                refine k0 _ t2 I2 j6 _ _ _ hr.symm (fun q k9 h => fI q k9 (by omega) (by omega)) ⟨?_, ?_, ?_, ?_, ?_⟩ ⟨by omega, by omega, (by show p6 ≤ N; omega), (by show S j6 = g_sk B N p6; omega), by omega⟩
                · exact hD1.tr (fI _ _ (by omega) (by omega)) (fun q k9 h1 h2 => fI _ _ (by omega) (by omega)) (g1 _ (by omega) (by omega) (by omega)) (fun k9 h1 h2 => g1 _ (by omega) (by omega) (by omega))
                · exact hD2.tr (fun k9 h => fI _ _ (by omega) (by omega)) (fun k9 => fI _ _ (by omega) (by omega)) (by rw [g1 _ (by omega) (by omega) (by omega)]; exact Int.le_refl _) (fun k9 h1 h2 h3 h4 => g1 _ (by omega) (by omega) (by omega))
                · exact hD3.tr (fun k9 h => fI _ _ (by omega) (by omega)) (fun k9 h1 h2 => g1 _ (by omega) (by omega) (by omega))
                · exact hD4.add (q0 := (5 * k + l3)) (cd' := s.cd + g_el z6) (kk' := kk + z6.length) (by omega) (by omega) (by omega) (fun k9 h1 h2 => f4 k9 h2) (fun k9 h1 h2 => f5 k9 h2) (fun k9 h => g_app_lo _ _ _ _ h) (g1 _ (by omega) (by omega) (by omega)).symm (fun k9 h1 h2 h3 h4 => g1 k9 h2 h3 h4) (by omega) (by omega) f4e f5e (by rw [show kk + z6.length - kk = z6.length by omega]; exact g_lst_app _ _ _) (by rw [ht2, g_up_n _ _ (by omega), g_up_s]) (by rw [ht2, g_up_s]) a2 a3 a4
                · exact hfr.tr (fun x hx => g1 _ (by omega) (by omega) (by omega)) (fun l9 hl => ⟨g1 _ (by omega) (by omega) (by omega), g1 _ (by omega) (by omega) (by omega)⟩)
              · exact absurd c64 (by decide)
            · rw [e6, g_bl_e] at hr
              refine q_ifne hF (by decide) dX3_readLaw_64 (fun c64 => ?_) (fun c64 => ?_)
              · exact absurd c64 (by decide)
              · refine q_iconst hF dX3_readLaw_67 ?_
                refine q_zreturn hF (by decide) rfl dX3_readLaw_68 ?_
                exact k1 w6 x6 _ _ _ _ _ _ _ hr.symm (q_FR.r u I) hW b6 (by omega)
          · exact absurd c37 (by decide)
        · refine q_ifeq hF (by decide) dX3_readLaw_37 (fun c37 => ?_) (fun c37 => ?_)
          · exact absurd c37 (by decide)
          · refine q_aload_n hF 2 rfl rfl dX3_readLaw_40 ?_
            refine q_bipush hF (n := 6) rfl dX3_readLaw_41 ?_
            refine q_callV (kc := 0) (ks := 0) (mc' := 0) (ms' := 0) (h' := 0) (st := []) hF vl_RX3_68 rfl [qI 6] rfl rfl hX.D.t0 (by omega) (Nat.le_of_ble_eq_true rfl) dX3_readLaw_43 ?_
            refine xX3_fail hX (by omega) ?_
            refine q_zreturn hF (by decide) rfl dX3_readLaw_46 ?_
            rw [if_pos c4] at hr
            exact k1 6 (S j2) _ _ _ _ _ _ _ hr.symm (q_FR.r u I) (hW) (Or.inr ⟨rfl, by decide, rfl⟩) (by omega)
      · refine q_iconst hF dX3_readLaw_26 ?_
        refine q_zreturn hF (by decide) rfl dX3_readLaw_27 ?_
        omega
  · refine q_iconst hF dX3_readLaw_10 ?_
    refine q_zreturn hF (by decide) rfl dX3_readLaw_11 ?_
    rw [g_rdSleep_n hX.O.tk hj (g_kd_n c7)] at hr
    exact k1 1 (S j) _ _ _ _ _ _ _ hr.symm (q_FR.r u I) (hW) (Or.inl ⟨rfl, rfl, rfl⟩) (by omega)
set_option maxRecDepth 100000 in
theorem xX3_readLand {G : q_G} {T : q_T} {P : q_P} {a u by_ c N : Nat} {B : Nat → Int} {S E : Nat → Nat} {s : g_PS} {t : Nat → Int} : ∀ (j : Nat), g_wo B (S j) (E j) = some 0 → q_XL G T P a u by_ c N B S E YX3_readLand 3 [] j s t (g_rdLand B N s t (t 0).toNat (S j) (S (j + 1))) := by
  intro j hw0 sz I L Q nu pl kk C hX hLL hj hkk k0 k1
  have hc6 : c ≤ 600 := by have := hX.O.tk.1; have := hX.O.n6; omega
  have hXau := hX.au
  have hXsep := hX.sep
  have hXlt : a < u := by omega
  obtain ⟨hD1, hD2, hD3, hD4, hfr⟩ := hLL
  have hW := q_WK.of hD1 hD2 hD3
  have hD1b := hD1.2.1
  obtain ⟨l, hl⟩ : ∃ l : Nat, t 0 = (l : Int) := ⟨(t 0).toNat, by omega⟩
  have hlu : I u 1 = (l : Int) := hD1.1.trans hl
  generalize hr : (g_rdLand B N s t (t 0).toNat (S j) (S (j + 1))) = r at k0 k1
  rw [show (t 0).toNat = l by omega] at hr
  unfold g_rdLand at hr
  show qC G 3 0 0 YX3_readLand [.ref a] sz T (q_xs I a u j nu 0 pl kk C) L P Q
  refine qC_of (by decide +kernel) rfl rfl (Nat.le_of_ble_eq_true rfl) (fun F hF _ _ => ?_)
  refine q_aload_n hF 0 rfl rfl dX3_readLand_0 ?_
  refine q_getA hF fl_RX3_18 rfl hX.D.t0 hX.P7 dX3_readLand_1 ?_
  refine q_getIv hF (z := (l : Int)) fl_RX3_71 hX.U.t0 ((q_xs_u hXlt (by decide)).trans hlu) dX3_readLand_4 ?_
  refine q_iconst hF dX3_readLand_7 ?_
  refine q_icmplt hF (by omega) (by decide) dX3_readLand_8 (fun c8 => ?_) (fun c8 => ?_)
  · rw [if_neg (by omega)] at hr
    have hwe := g_wo_end hX.O.tk hj hw0
    refine q_aload_n hF 0 rfl rfl dX3_readLand_17 ?_
    refine q_callV (kc := 0) (ks := 0) (mc' := 0) (ms' := 0) (h' := 0) (st := []) hF vl_RX3_92 rfl [] rfl rfl hX.D.t0 (by omega) (Nat.le_of_ble_eq_true rfl) dX3_readLand_18 ?_
    refine xX3_step hX (by omega) (fun j1 hj1 => ?_)
    rw [show j + 1 = j1 by omega] at hr
    refine q_aload_n hF 0 rfl rfl dX3_readLand_21 ?_
    refine q_callV (kc := 0) (ks := 0) (mc' := 0) (ms' := 0) (h' := 0) (st := []) hF vl_RX3_154 rfl [] rfl rfl hX.D.t0 (by omega) (Nat.le_of_ble_eq_true rfl) dX3_readLand_22 ?_
    refine xX3_isName hX (by omega) (fun c2 => ?_) (fun c2 s2 => ?_)
    · refine q_ifne hF (by decide) dX3_readLand_25 (fun c25 => ?_) (fun c25 => ?_)
      · exact absurd c25 (by decide)
      · refine q_iconst hF dX3_readLand_28 ?_
        refine q_zreturn hF (by decide) rfl dX3_readLand_29 ?_
        rw [if_neg c2] at hr
        exact k1 1 (S j1) _ _ _ _ _ _ _ hr.symm (q_FR.r u I) (hW) (Or.inl ⟨rfl, rfl, rfl⟩) (by omega)
    · refine q_ifne hF (by decide) dX3_readLand_25 (fun c25 => ?_) (fun c25 => ?_)
      · have hnm := c2
        rw [if_pos c2] at hr
        refine q_aload_n hF 0 rfl rfl dX3_readLand_30 ?_
        refine q_getA hF fl_RX3_18 rfl hX.D.t0 hX.P7 dX3_readLand_31 ?_
        refine q_aload_n hF 0 rfl rfl dX3_readLand_34 ?_
        refine q_getA hF fl_RX3_9 rfl hX.D.t0 hX.P0 dX3_readLand_35 ?_
        refine q_aload_n hF 0 rfl rfl dX3_readLand_38 ?_
        refine q_getA hF fl_RX3_25 rfl hX.D.t0 hX.D.p2 dX3_readLand_39 ?_
        refine q_aload_n hF 0 rfl rfl dX3_readLand_42 ?_
        refine q_getIv hF (z := (j1 : Int)) fl_RX3_37 hX.D.t0 q_xs_5 dX3_readLand_43 ?_
        refine q_ialoadv hF (z := (S j1 : Int)) (n := 601) j1 hX.D.t2 rfl (by omega) (by decide) ((hX.O.xs hX.au).st _ (by omega)) dX3_readLand_46 ?_
        refine q_aload_n hF 0 rfl rfl dX3_readLand_47 ?_
        refine q_getA hF fl_RX3_28 rfl hX.D.t0 hX.D.p3 dX3_readLand_48 ?_
        refine q_aload_n hF 0 rfl rfl dX3_readLand_51 ?_
        refine q_getIv hF (z := (j1 : Int)) fl_RX3_37 hX.D.t0 q_xs_5 dX3_readLand_52 ?_
        refine q_ialoadv hF (z := (E j1 : Int)) (n := 601) j1 hX.D.t3 rfl (by omega) (by decide) ((hX.O.xs hX.au).en _ (by omega)) dX3_readLand_55 ?_
        refine q_callV (kc := 0) (ks := 0) (mc' := 0) (ms' := 0) (h' := 1) (st := []) hF vl_RX3_157 rfl [.ref by_, qI (S j1 : Int), qI (E j1 : Int)] rfl rfl hX.U.t0 (by omega) (Nat.le_of_ble_eq_true rfl) dX3_readLand_56 ?_
        refine xX4_landCalled hX hD1 (by omega) s2.2.1 s2.2.2.2 ?_
        refine q_iconst hF dX3_readLand_59 ?_
        refine q_icmpeq hF (by have q := g_lndF_r (B := B) (n := N) (t := t) (q := S j1) (c := g_nl B N (S j1)) 6 0; change -1 ≤ g_lnd B N t (S j1) (g_nl B N (S j1)) ∧ (g_lnd B N t (S j1) (g_nl B N (S j1)) = -1 ∨ g_lnd B N t (S j1) (g_nl B N (S j1)) < t 0) at q; omega) (by decide) dX3_readLand_60 (fun c60 => ?_) (fun c60 => ?_)
        · rw [if_pos c60] at hr
          refine q_aload_n hF 0 rfl rfl dX3_readLand_69 ?_
          refine q_getA hF fl_RX3_18 rfl hX.D.t0 hX.P7 dX3_readLand_70 ?_
          refine q_getA hF fl_RX3_161 rfl hX.U.t0 hX.U.p0 dX3_readLand_73 ?_
          refine q_aload_n hF 0 rfl rfl dX3_readLand_76 ?_
          refine q_getA hF fl_RX3_18 rfl hX.D.t0 hX.P7 dX3_readLand_77 ?_
          refine q_getIv hF (z := (l : Int)) fl_RX3_71 hX.U.t0 ((q_xs_u hXlt (by decide)).trans hlu) dX3_readLand_80 ?_
          refine q_aaloadv hF (b := u + 8 + 2 * l) l hX.U.t1 (by decide) rfl (by omega) (by decide) (hX.U.pl _ (by omega)) dX3_readLand_83 ?_
          refine q_astore_n hF (ls' := [(1, .ref (u + 8 + 2 * l)), (0, .ref a)]) rfl (by decide) rfl dX3_readLand_84 ?_
          refine q_aload_n hF 0 rfl rfl dX3_readLand_85 ?_
          refine q_aload_n hF 1 rfl rfl dX3_readLand_86 ?_
          refine q_getA hF fl_RX3_9 rfl hX.D.t0 hX.P0 dX3_readLand_87 ?_
          refine q_aload_n hF 1 rfl rfl dX3_readLand_90 ?_
          refine q_getA hF fl_RX3_25 rfl hX.D.t0 hX.D.p2 dX3_readLand_91 ?_
          refine q_aload_n hF 1 rfl rfl dX3_readLand_94 ?_
          refine q_getIv hF (z := (j1 : Int)) fl_RX3_37 hX.D.t0 q_xs_5 dX3_readLand_95 ?_
          refine q_ialoadv hF (z := (S j1 : Int)) (n := 601) j1 hX.D.t2 rfl (by omega) (by decide) ((hX.O.xs hX.au).st _ (by omega)) dX3_readLand_98 ?_
          refine q_aload_n hF 1 rfl rfl dX3_readLand_99 ?_
          refine q_getA hF fl_RX3_28 rfl hX.D.t0 hX.D.p3 dX3_readLand_100 ?_
          refine q_aload_n hF 1 rfl rfl dX3_readLand_103 ?_
          refine q_getIv hF (z := (j1 : Int)) fl_RX3_37 hX.D.t0 q_xs_5 dX3_readLand_104 ?_
          refine q_ialoadv hF (z := (E j1 : Int)) (n := 601) j1 hX.D.t3 rfl (by omega) (by decide) ((hX.O.xs hX.au).en _ (by omega)) dX3_readLand_107 ?_
          refine q_callV (kc := 0) (ks := 0) (mc' := 0) (ms' := 0) (h' := 0) (st := []) hF vl_RX3_165 rfl [.ref by_, qI (S j1 : Int), qI (E j1 : Int)] rfl rfl (hX.U.tl _ (by omega)) (by omega) (Nat.le_of_ble_eq_true rfl) dX3_readLand_108 ?_
          refine xX2_call hX (by omega) (show l < 5 by omega) (len := g_nl B N (S j1)) (by omega) s2.2.2.2 (fun J4 hJ4 => ?_)
          have hJo : ∀ q k, q ≠ u + 8 + 2 * l → q ≠ u + 9 + 2 * l → J4 q k = I q k := fun q k h1 h2 => by rw [hJ4]; exact q_nc_o ⟨h1, by omega⟩
          have hJu : J4 u 1 = (l : Int) := (hJo _ _ (by omega) (by omega)).trans hlu
          have hFJ : q_FR u J4 I := fun q k h => hJo q k (by omega) (by omega)
          have hWJ : q_WK J4 u := hW.tr (fun k => hJo _ _ (by omega) (by omega)) (fun k => hJo _ _ (by omega) (by omega))
          have hXJ := hX.fr hFJ
          refine q_aload_n hF 1 rfl rfl dX3_readLand_111 ?_
          refine q_callV (kc := 0) (ks := 0) (mc' := 0) (ms' := 0) (h' := 0) (st := []) hF vl_RX3_92 rfl [] rfl rfl hX.D.t0 (by omega) (Nat.le_of_ble_eq_true rfl) dX3_readLand_112 ?_
          refine xX3_step hXJ (by omega) (fun j5 hj5 => ?_)
          have hSn0 : S j5 = g_sk B N (g_nl B N (S j1) + S j1) := by rw [hj5, s2.2.2.1, s2.2.1]
          refine q_aload_n hF 1 rfl rfl dX3_readLand_115 ?_
          refine q_iconst hF dX3_readLand_116 ?_
          refine q_bipush hF (n := 11) rfl dX3_readLand_117 ?_
          refine q_callV (kc := 0) (ks := 0) (mc' := 0) (ms' := 0) (h' := 1) (st := []) hF vl_RX3_171 rfl [qI 0, qI 11] rfl rfl hX.D.t0 (by omega) (Nat.le_of_ble_eq_true rfl) dX3_readLand_119 ?_
          refine xX3_takeNumber hXJ (by omega) (by decide) (fun c6 => ?_) (fun j6 hj6 c6 r6 s6 => ?_) (fun c6 r6 => ?_)
          · refine q_ifne hF (by decide) dX3_readLand_122 (fun c122 => ?_) (fun c122 => ?_)
            · exact absurd c122 (by decide)
            · refine q_iconst hF dX3_readLand_125 ?_
              refine q_zreturn hF (by decide) rfl dX3_readLand_126 ?_
              rw [g_nu_1 hSn0 c6] at hr
              exact k1 1 (S j5) _ _ _ _ _ _ _ hr.symm hFJ (hWJ) (Or.inl ⟨rfl, rfl, rfl⟩) (by omega)
          · refine q_ifne hF (by decide) dX3_readLand_122 (fun c122 => ?_) (fun c122 => ?_)
            · rw [g_nu_y hSn0 c6 r6] at hr
              have hSn1 : S j6 = g_sk B N (g_nd B N (S j5)) := s6.2.2
              refine q_aload_n hF 0 rfl rfl dX3_readLand_127 ?_
              refine q_aload_n hF 1 rfl rfl dX3_readLand_128 ?_
              refine q_getIv hF (z := g_nv B N (S j5) 0) fl_RX3_88 hX.D.t0 q_xs_6 dX3_readLand_129 ?_
              refine q_putI hF fl_RX3_175 (hX.U.tl _ (by omega)) (q_Ale hX.A (by omega)) dX3_readLand_132 ?_
              rw [q_xs_o (by omega)]
              have hX7 := hXJ.w (q := u + 8 + 2 * l) (i := 2) (v := g_nv B N (S j5) 0) (by omega)
              refine q_aload_n hF 1 rfl rfl dX3_readLand_135 ?_
              refine q_iconst hF dX3_readLand_136 ?_
              refine q_sipush hF (n := 9999) rfl dX3_readLand_137 ?_
              refine q_callV (kc := 0) (ks := 0) (mc' := 0) (ms' := 0) (h' := 1) (st := []) hF vl_RX3_171 rfl [qI 0, qI 9999] rfl rfl hX.D.t0 (by omega) (Nat.le_of_ble_eq_true rfl) dX3_readLand_140 ?_
              refine xX3_takeNumber hX7 (by omega) (by decide) (fun c8 => ?_) (fun j8 hj8 c8 r8 s8 => ?_) (fun c8 r8 => ?_)
              · refine q_ifne hF (by decide) dX3_readLand_143 (fun c143 => ?_) (fun c143 => ?_)
                · exact absurd c143 (by decide)
                · refine q_iconst hF dX3_readLand_146 ?_
                  refine q_zreturn hF (by decide) rfl dX3_readLand_147 ?_
                  rw [g_nu_1 hSn1 c8] at hr
                  exact k1 1 (S j6) _ _ _ _ _ _ _ hr.symm (hFJ.w (by omega)) ((hWJ.w (by omega))) (Or.inl ⟨rfl, rfl, rfl⟩) (by omega)
              · refine q_ifne hF (by decide) dX3_readLand_143 (fun c143 => ?_) (fun c143 => ?_)
                · rw [g_nu_y hSn1 c8 r8] at hr
                  have hSn2 : S j8 = g_sk B N (g_nd B N (S j6)) := s8.2.2
                  refine q_aload_n hF 0 rfl rfl dX3_readLand_148 ?_
                  refine q_aload_n hF 1 rfl rfl dX3_readLand_149 ?_
                  refine q_getIv hF (z := g_nv B N (S j6) 0) fl_RX3_88 hX.D.t0 q_xs_6 dX3_readLand_150 ?_
                  refine q_putI hF fl_RX3_178 (hX.U.tl _ (by omega)) (q_Ale hX.A (by omega)) dX3_readLand_153 ?_
                  rw [q_xs_o (by omega)]
                  have hX9 := hX7.w (q := u + 8 + 2 * l) (i := 3) (v := g_nv B N (S j6) 0) (by omega)
                  refine q_aload_n hF 1 rfl rfl dX3_readLand_156 ?_
                  refine q_iconst hF dX3_readLand_157 ?_
                  refine q_sipush hF (n := 999) rfl dX3_readLand_158 ?_
                  refine q_callV (kc := 0) (ks := 0) (mc' := 0) (ms' := 0) (h' := 1) (st := []) hF vl_RX3_171 rfl [qI 0, qI 999] rfl rfl hX.D.t0 (by omega) (Nat.le_of_ble_eq_true rfl) dX3_readLand_161 ?_
                  refine xX3_takeNumber hX9 (by omega) (by decide) (fun c10 => ?_) (fun j10 hj10 c10 r10 s10 => ?_) (fun c10 r10 => ?_)
                  · refine q_ifne hF (by decide) dX3_readLand_164 (fun c164 => ?_) (fun c164 => ?_)
                    · exact absurd c164 (by decide)
                    · refine q_iconst hF dX3_readLand_167 ?_
                      refine q_zreturn hF (by decide) rfl dX3_readLand_168 ?_
                      rw [g_nu_1 hSn2 c10] at hr
                      exact k1 1 (S j8) _ _ _ _ _ _ _ hr.symm ((hFJ.w (by omega)).w (by omega)) (((hWJ.w (by omega)).w (by omega))) (Or.inl ⟨rfl, rfl, rfl⟩) (by omega)
                  · refine q_ifne hF (by decide) dX3_readLand_164 (fun c164 => ?_) (fun c164 => ?_)
                    · rw [g_nu_y hSn2 c10 r10] at hr
                      have hSn3 : S j10 = g_sk B N (g_nd B N (S j8)) := s10.2.2
                      refine q_aload_n hF 0 rfl rfl dX3_readLand_169 ?_
                      refine q_aload_n hF 1 rfl rfl dX3_readLand_170 ?_
                      refine q_getIv hF (z := g_nv B N (S j8) 0) fl_RX3_88 hX.D.t0 q_xs_6 dX3_readLand_171 ?_
                      refine q_putI hF fl_RX3_181 (hX.U.tl _ (by omega)) (q_Ale hX.A (by omega)) dX3_readLand_174 ?_
                      rw [q_xs_o (by omega)]
                      have hX11 := hX9.w (q := u + 8 + 2 * l) (i := 4) (v := g_nv B N (S j8) 0) (by omega)
                      refine q_aload_n hF 1 rfl rfl dX3_readLand_177 ?_
                      refine q_iconst hF dX3_readLand_178 ?_
                      refine q_bipush hF (n := 50) rfl dX3_readLand_179 ?_
                      refine q_callV (kc := 0) (ks := 0) (mc' := 0) (ms' := 0) (h' := 1) (st := []) hF vl_RX3_171 rfl [qI 1, qI 50] rfl rfl hX.D.t0 (by omega) (Nat.le_of_ble_eq_true rfl) dX3_readLand_181 ?_
                      refine xX3_takeNumber hX11 (by omega) (by decide) (fun c12 => ?_) (fun j12 hj12 c12 r12 s12 => ?_) (fun c12 r12 => ?_)
                      · refine q_ifne hF (by decide) dX3_readLand_184 (fun c184 => ?_) (fun c184 => ?_)
                        · exact absurd c184 (by decide)
                        · refine q_iconst hF dX3_readLand_187 ?_
                          refine q_zreturn hF (by decide) rfl dX3_readLand_188 ?_
                          rw [g_nu_1 hSn3 c12] at hr
                          exact k1 1 (S j10) _ _ _ _ _ _ _ hr.symm (((hFJ.w (by omega)).w (by omega)).w (by omega)) ((((hWJ.w (by omega)).w (by omega)).w (by omega))) (Or.inl ⟨rfl, rfl, rfl⟩) (by omega)
                      · refine q_ifne hF (by decide) dX3_readLand_184 (fun c184 => ?_) (fun c184 => ?_)
                        · rw [g_nu_y hSn3 c12 r12] at hr
                          have hSn4 : S j12 = g_sk B N (g_nd B N (S j10)) := s12.2.2
                          refine q_aload_n hF 0 rfl rfl dX3_readLand_189 ?_
                          refine q_aload_n hF 1 rfl rfl dX3_readLand_190 ?_
                          refine q_getIv hF (z := g_nv B N (S j10) 0) fl_RX3_88 hX.D.t0 q_xs_6 dX3_readLand_191 ?_
                          refine q_putI hF fl_RX3_184 (hX.U.tl _ (by omega)) (q_Ale hX.A (by omega)) dX3_readLand_194 ?_
                          rw [q_xs_o (by omega)]
                          have hX13 := hX11.w (q := u + 8 + 2 * l) (i := 5) (v := g_nv B N (S j10) 0) (by omega)
                          refine q_aload_n hF 1 rfl rfl dX3_readLand_197 ?_
                          refine q_getA hF fl_RX3_18 rfl hX.D.t0 hX.P7 dX3_readLand_198 ?_
                          refine q_dup hF rfl dX3_readLand_201 ?_
                          refine q_getIv hF (z := (l : Int)) fl_RX3_71 hX.U.t0 ((q_xs_u hXlt (by decide)).trans ((u2_k _ _ (by decide)).trans ((u2_k _ _ (by decide)).trans ((u2_k _ _ (by decide)).trans ((u2_k _ _ (by decide)).trans hJu))))) dX3_readLand_202 ?_
                          refine q_iconst hF dX3_readLand_205 ?_
                          refine q_iadd hF dX3_readLand_206 ?_
                          refine q_putI hF fl_RX3_71 hX.U.t0 hX.UA dX3_readLand_207 ?_
                          rw [q_xs_o (by omega)]
                          have hX14 := hX13.w (q := u) (i := 1) (v := (l : Int) + 1) (by omega)
                          refine q_iconst hF dX3_readLand_210 ?_
                          refine q_zreturn hF (by decide) rfl dX3_readLand_211 ?_
                          obtain ⟨I5, hI5⟩ : ∃ I5 : q_I, I5 = u2 (u2 (u2 (u2 (u2 J4 (u + 8 + 2 * l) 2 (g_nv B N (S j5) 0)) (u + 8 + 2 * l) 3 (g_nv B N (S j6) 0)) (u + 8 + 2 * l) 4 (g_nv B N (S j8) 0)) (u + 8 + 2 * l) 5 (g_nv B N (S j10) 0)) u 1 ((l : Int) + 1) := ⟨_, rfl⟩
                          rw [← hI5]
                          have f1 : I5 (u + 8 + 2 * l) 1 = ((g_nl B N (S j1) : Nat) : Int) := by rw [hI5, u2_a _ _ (by omega), u2_k _ _ (by decide), u2_k _ _ (by decide), u2_k _ _ (by decide), u2_k _ _ (by decide), hJ4, q_nc_1]
                          have f2 : I5 (u + 8 + 2 * l) 2 = g_nv B N (S j5) 0 := by rw [hI5, u2_a _ _ (by omega), u2_k _ _ (by decide), u2_k _ _ (by decide), u2_k _ _ (by decide), u2_s]
                          have f3 : I5 (u + 8 + 2 * l) 3 = g_nv B N (S j6) 0 := by rw [hI5, u2_a _ _ (by omega), u2_k _ _ (by decide), u2_k _ _ (by decide), u2_s]
                          have f4 : I5 (u + 8 + 2 * l) 4 = g_nv B N (S j8) 0 := by rw [hI5, u2_a _ _ (by omega), u2_k _ _ (by decide), u2_s]
                          have f5 : I5 (u + 8 + 2 * l) 5 = g_nv B N (S j10) 0 := by rw [hI5, u2_a _ _ (by omega), u2_s]
                          have fu : I5 u 1 = (l : Int) + 1 := by rw [hI5, u2_s]
                          have fo : ∀ q k, q ≠ u ∨ k ≠ 1 → q ≠ (u + 8 + 2 * l) → q ≠ u + 9 + 2 * l → I5 q k = I q k := fun q k h0 h1 h2 => by
                            rw [hI5, show ∀ M v, u2 M u 1 v q k = M q k from fun M v => if_neg (fun x => h0.elim (fun y => y x.1) (fun y => y x.2)), u2_a _ _ h1, u2_a _ _ h1, u2_a _ _ h1, u2_a _ _ h1]
                            exact hJo q k h1 h2
                          have fn : ∀ k, k < g_nl B N (S j1) → I5 (u + 9 + 2 * l) k = B (S j1 + k) := fun k hk => by
                            rw [hI5, u2_a _ _ (by omega), u2_a _ _ (by omega), u2_a _ _ (by omega), u2_a _ _ (by omega), u2_a _ _ (by omega), hJ4, show u + 9 + 2 * l = u + 8 + 2 * l + 1 by omega, q_nc_n hk]
                          obtain ⟨t5, ht5⟩ : ∃ t5 : Nat → Int, t5 = g_up (g_t1 (g_nms B N t l (S j1) (g_nl B N (S j1))) l (g_nl B N (S j1)) (g_nv B N (S j5) 0) (g_nv B N (S j6) 0) (g_nv B N (S j8) 0) (g_nv B N (S j10) 0)) 0 (g_t1 (g_nms B N t l (S j1) (g_nl B N (S j1))) l (g_nl B N (S j1)) (g_nv B N (S j5) 0) (g_nv B N (S j6) 0) (g_nv B N (S j8) 0) (g_nv B N (S j10) 0) 0 + 1) := ⟨_, rfl⟩
                          rw [← ht5] at hr
                          have g0 : t5 0 = (l : Int) + 1 := by rw [ht5, g_up_s]; unfold g_t1; rw [g_up_n _ _ (by omega), g_up_n _ _ (by omega), g_up_n _ _ (by omega), g_up_n _ _ (by omega), g_up_n _ _ (by omega), g_nms_lo (by omega), hl]
                          have g1 : t5 (30 + 13 * l) = ((g_nl B N (S j1) : Nat) : Int) := by rw [ht5, g_up_n _ _ (by omega)]; unfold g_t1; rw [g_up_n _ _ (by omega), g_up_n _ _ (by omega), g_up_n _ _ (by omega), g_up_n _ _ (by omega), g_up_s]
                          have g2 : t5 (31 + 13 * l) = g_nv B N (S j5) 0 := by rw [ht5, g_up_n _ _ (by omega)]; unfold g_t1; rw [g_up_n _ _ (by omega), g_up_n _ _ (by omega), g_up_n _ _ (by omega), g_up_s]
                          have g3 : t5 (32 + 13 * l) = g_nv B N (S j6) 0 := by rw [ht5, g_up_n _ _ (by omega)]; unfold g_t1; rw [g_up_n _ _ (by omega), g_up_n _ _ (by omega), g_up_s]
                          have g4 : t5 (33 + 13 * l) = g_nv B N (S j8) 0 := by rw [ht5, g_up_n _ _ (by omega)]; unfold g_t1; rw [g_up_n _ _ (by omega), g_up_s]
                          have g5 : t5 (34 + 13 * l) = g_nv B N (S j10) 0 := by rw [ht5, g_up_n _ _ (by omega)]; unfold g_t1; rw [g_up_s]
                          have gn : ∀ k, k < g_nl B N (S j1) → t5 (24 + 13 * l + k) = g_bt B N (S j1 + k) := fun k hk => by rw [ht5, g_up_n _ _ (by omega)]; unfold g_t1; rw [g_up_n _ _ (by omega), g_up_n _ _ (by omega), g_up_n _ _ (by omega), g_up_n _ _ (by omega), g_up_n _ _ (by omega)]; unfold g_nms; rw [if_pos (by omega), show S j1 + (24 + 13 * l + k - (24 + 13 * l)) = S j1 + k by omega]
                          have go : ∀ k, k ≠ 0 → (k < 24 + 13 * l ∨ 35 + 13 * l ≤ k) → t5 k = t k := fun k h1 h2 => by rw [ht5, g_up_n _ _ h1]; unfold g_t1; rw [g_up_n _ _ (by omega), g_up_n _ _ (by omega), g_up_n _ _ (by omega), g_up_n _ _ (by omega), g_up_n _ _ (by omega)]; unfold g_nms; rw [if_neg (by omega)]
                          have hle1 := g_TK_le hX.O.tk (show j1 ≤ c by omega)
                          have hnm1 := hnm.1
                          have hbn : ∀ k, k < g_nl B N (S j1) → g_bt B N (S j1 + k) = B (S j1 + k) ∧ 0 ≤ B (S j1 + k) ∧ B (S j1 + k) ≤ 255 := fun k hk => ⟨if_pos (by omega), hX.O.br _⟩
                          have hnd := g_TK_le hX.O.tk (show j10 ≤ c by omega)
                          have hnd2 := (g_nu_end hX.O.tk (show j10 ≤ c by omega) c12).2.1
                          refine k0 _ t5 I5 j12 _ _ _ hr.symm (fun q k h => fo q k (by omega) (by omega) (by omega)) ⟨?_, ?_, ?_, ?_, ?_⟩ ⟨by omega, by omega, by show g_nd B N (S j10) ≤ N; omega, hSn4, by omega⟩
                          · refine hD1.add hl (by omega) (by omega) (by omega) (fun l' hl' k => ⟨fo _ _ (by omega) (by omega) (by omega), fo _ _ (by omega) (by omega) (by omega)⟩) (fun k h1 h2 => go k (by omega) (by omega)) ⟨⟨by rw [f1, g1], by rw [f2, g2], by rw [f3, g3], by rw [f4, g4], by rw [f5, g5]⟩, by omega, fun k hk => ?_⟩
                            rw [g1] at hk
                            have q := hbn k (by omega)
                            rw [fn k (by omega), gn k (by omega), q.1]
                            exact ⟨rfl, q.2⟩
                          · exact hD2.tr (fun k h => fo _ _ (by omega) (by omega) (by omega)) (fun k => fo _ _ (by omega) (by omega) (by omega)) (by omega) (fun k h1 h2 h3 h4 => go _ (by omega) (by omega))
                          · exact hD3.tr (fun k h => fo _ _ (by omega) (by omega) (by omega)) (fun k h1 h2 => go _ (by omega) (by omega))
                          · exact hD4.tr (fun k h => fo _ _ (by omega) (by omega) (by omega)) (fun k h => fo _ _ (by omega) (by omega) (by omega)) (fun k h => rfl) (by omega) (fun k h1 h2 => go _ (by omega) (by omega)) (Nat.le_refl _) (Nat.le_refl _)
                          · exact hfr.tr (fun x hx => go _ (by omega) (by omega)) (fun l9 hl9 => ⟨go _ (by omega) (by omega), go _ (by omega) (by omega)⟩)
                        · exact absurd c184 (by decide)
                      · refine q_ifne hF (by decide) dX3_readLand_184 (fun c184 => ?_) (fun c184 => ?_)
                        · exact absurd c184 (by decide)
                        · refine q_iconst hF dX3_readLand_187 ?_
                          refine q_zreturn hF (by decide) rfl dX3_readLand_188 ?_
                          rw [g_nu_2 hSn3 c12 r12] at hr
                          exact k1 2 (S j10) _ _ _ _ _ _ _ hr.symm (((hFJ.w (by omega)).w (by omega)).w (by omega)) ((((hWJ.w (by omega)).w (by omega)).w (by omega))) (Or.inr ⟨rfl, by decide, rfl⟩) (by omega)
                    · exact absurd c164 (by decide)
                  · refine q_ifne hF (by decide) dX3_readLand_164 (fun c164 => ?_) (fun c164 => ?_)
                    · exact absurd c164 (by decide)
                    · refine q_iconst hF dX3_readLand_167 ?_
                      refine q_zreturn hF (by decide) rfl dX3_readLand_168 ?_
                      rw [g_nu_2 hSn2 c10 r10] at hr
                      exact k1 2 (S j8) _ _ _ _ _ _ _ hr.symm ((hFJ.w (by omega)).w (by omega)) (((hWJ.w (by omega)).w (by omega))) (Or.inr ⟨rfl, by decide, rfl⟩) (by omega)
                · exact absurd c143 (by decide)
              · refine q_ifne hF (by decide) dX3_readLand_143 (fun c143 => ?_) (fun c143 => ?_)
                · exact absurd c143 (by decide)
                · refine q_iconst hF dX3_readLand_146 ?_
                  refine q_zreturn hF (by decide) rfl dX3_readLand_147 ?_
                  rw [g_nu_2 hSn1 c8 r8] at hr
                  exact k1 2 (S j6) _ _ _ _ _ _ _ hr.symm (hFJ.w (by omega)) ((hWJ.w (by omega))) (Or.inr ⟨rfl, by decide, rfl⟩) (by omega)
            · exact absurd c122 (by decide)
          · refine q_ifne hF (by decide) dX3_readLand_122 (fun c122 => ?_) (fun c122 => ?_)
            · exact absurd c122 (by decide)
            · refine q_iconst hF dX3_readLand_125 ?_
              refine q_zreturn hF (by decide) rfl dX3_readLand_126 ?_
              rw [g_nu_2 hSn0 c6 r6] at hr
              exact k1 2 (S j5) _ _ _ _ _ _ _ hr.symm hFJ (hWJ) (Or.inr ⟨rfl, by decide, rfl⟩) (by omega)
        · rw [if_neg c60] at hr
          refine q_aload_n hF 0 rfl rfl dX3_readLand_63 ?_
          refine q_iconst hF dX3_readLand_64 ?_
          refine q_callV (kc := 0) (ks := 0) (mc' := 0) (ms' := 0) (h' := 0) (st := []) hF vl_RX3_68 rfl [qI 3] rfl rfl hX.D.t0 (by omega) (Nat.le_of_ble_eq_true rfl) dX3_readLand_65 ?_
          refine xX3_fail hX (by omega) ?_
          refine q_zreturn hF (by decide) rfl dX3_readLand_68 ?_
          exact k1 3 (S j1) _ _ _ _ _ _ _ hr.symm (q_FR.r u I) (hW) (Or.inr ⟨rfl, by decide, rfl⟩) (by omega)
      · exact absurd c25 (by decide)
  · rw [if_pos (by omega)] at hr
    refine q_aload_n hF 0 rfl rfl dX3_readLand_11 ?_
    refine q_iconst hF dX3_readLand_12 ?_
    refine q_callV (kc := 0) (ks := 0) (mc' := 0) (ms' := 0) (h' := 0) (st := []) hF vl_RX3_68 rfl [qI 4] rfl rfl hX.D.t0 (by omega) (Nat.le_of_ble_eq_true rfl) dX3_readLand_13 ?_
    refine xX3_fail hX (by omega) ?_
    refine q_zreturn hF (by decide) rfl dX3_readLand_16 ?_
    exact k1 4 (S j) _ _ _ _ _ _ _ hr.symm (q_FR.r u I) (hW) (Or.inr ⟨rfl, by decide, rfl⟩) (by omega)
set_option maxRecDepth 100000 in
theorem lX3_readOrder {G : q_G} {T : q_T} {P : q_P} {a u by_ c N : Nat} {B : Nat → Int} {S E : Nat → Nat} {s : g_PS} {t : Nat → Int} {F : q_F} {h kc ks sz : Nat} {I L : q_I} {Q : q_Q} {pl : Int} {kk j0 : Nat} {C : Nat → Int} {r : g_Rl} (hF : q_ok G F YX3_readOrder h) (hh : 1 ≤ h) (hLL : q_LL I C u t kk s) (k0 : ∀ s' t' I' j' nu' kk' C', r = .ok s' t' → q_FR u I' I → q_LL I' C' u t' kk' s' → (j0 ≤ j' ∧ j' ≤ c ∧ s'.p ≤ N ∧ S j' = g_sk B N s'.p ∧ kk' ≤ j') → Q (.inl (some (qI 1))) sz T (q_xs I' a u j' nu' 0 pl kk' C') L P) (k1 : ∀ w x I' j' nu' fl' pl' kk' C', r = .er w x → q_FR u I' I → q_WK I' u → g_bad w x fl' pl' (S j') → j' ≤ c → Q (.inl (some (qI 0))) sz T (q_xs I' a u j' nu' fl' pl' kk' C') L P) : ∀ (n f : Nat) (ul : List Nat) (tt : Nat → Int) (J : q_I) (j : Nat) (nu : Int), f < n → f + ul.length = 3 → j0 ≤ j ∧ j ≤ c → ul.length ≤ j → ul.Nodup → (∀ x, x ∈ ul → x < 3) → q_XE G T J P a u by_ c N B S E → J u 7 = (ul.length : Int) → (∀ k, k < ul.length → J (u + 3) k = tt (9 + k)) → (∀ k, k < ul.length → 0 ≤ J (u + 3) k ∧ J (u + 3) k ≤ 2) → (∀ o, o < 3 → (o ∈ ul ↔ ∃ k, k < ul.length ∧ J (u + 3) k = (o : Int))) → (∀ q k, (q ≠ u ∨ k ≠ 7) → q ≠ u + 3 → J q k = I q k) → (∀ k, k < 3 → 0 ≤ tt (9 + k) ∧ tt (9 + k) ≤ 2) → (∀ k, (k < 9 ∨ 12 ≤ k) → tt k = t k) → g_rdO B N (g_mk s.p s.fl s.fa s.cd s.op (g_or s.on (g_shl 1 3)) s.hp) (f + 1) tt ul (S j) = r → kk ≤ j → qX G F Q kc ks 28 [(1, qI (ul.length : Int)), (0, .ref a)] [] sz T (q_xs J a u j nu 0 pl kk C) L P := by
  intro n
  induction n with
  | zero => intro _ _ _ _ _ _ hn; exact absurd hn (Nat.not_lt_zero _)
  | succ n ih =>
    intro f ul tt J j nu hn hfl hj0 hlj hnd hx3 hX hJ7 hJc hJr hJm hJo htr hto hr hkk
    have hc6 : c ≤ 600 := by have := hX.O.tk.1; have := hX.O.n6; omega
    have hXau := hX.au
    have hXsep := hX.sep
    have hXlt : a < u := by omega
    obtain ⟨hD1, hD2, hD3, hD4, hfr⟩ := hLL
    have hW := q_WK.of hD1 hD2 hD3
    have hD1b := hD1.2.1
    have hj : j ≤ c := hj0.2
    have hFJ : q_FR u J I := fun q k h => hJo q k (by omega) (by omega)
    have hWJ : q_WK J u := ⟨fun k hk => by
      by_cases e : k = 7
      · subst e; rw [hJ7]; omega
      · rw [hJo _ _ (Or.inr e) (by omega)]; exact hW.1 k hk, fun k hk => by rw [hJo _ _ (by omega) (by omega)]; exact hW.2 k hk⟩
    refine q_aload_n hF 1 rfl rfl dX3_readOrder_28 ?_
    refine q_callV (kc := kc) (ks := ks) (mc' := 0) (ms' := 0) (h' := 0) (st := []) hF vl_RX3_210 rfl [] rfl rfl hX.D.t0 (by omega) (Nat.le_of_ble_eq_true rfl) dX3_readOrder_29 ?_
    refine xX3_orderInHand hX (by omega) ?_
    refine q_istore_n hF (ls' := [(2, qI (g_ord (g_wo B (S j) (E j)))), (1, qI (ul.length : Int)), (0, .ref a)]) rfl (by decide) rfl dX3_readOrder_32 ?_
    refine q_iload_n hF 0 rfl rfl dX3_readOrder_33 ?_
    refine q_iconst hF dX3_readOrder_34 ?_
    refine q_icmpeq hF (by have : -1 ≤ g_ord (g_wo B (S j) (E j)) ∧ g_ord (g_wo B (S j) (E j)) ≤ 2 := by { unfold g_ord; (repeat' split) <;> decide }; omega) (by decide) dX3_readOrder_35 (fun c35 => ?_) (fun c35 => ?_)
    · refine q_iconst hF dX3_readOrder_49 ?_
      refine q_zreturn hF (by decide) rfl dX3_readOrder_50 ?_
      rw [g_rdO_n hX.O.tk hj c35] at hr
      exact k1 1 (S j) _ _ _ _ _ _ _ hr.symm hFJ hWJ (Or.inl ⟨rfl, rfl, rfl⟩) (by omega)
    · obtain ⟨o, i, ho, hi, hwi, hoo, hri⟩ := g_ord_y c35
      rw [hoo]
      rw [g_rdO_y hX.O.tk hj ho hi hwi hri] at hr
      unfold g_rdO1 at hr
      have hwe := g_wo_end hX.O.tk hj hwi
      refine q_aload_n hF 2 rfl rfl dX3_readOrder_38 ?_
      refine q_getA hF fl_RX3_18 rfl hX.D.t0 hX.P7 dX3_readOrder_39 ?_
      refine q_iload_n hF 0 rfl rfl dX3_readOrder_42 ?_
      refine q_callV (kc := kc) (ks := ks) (mc' := 0) (ms' := 0) (h' := 0) (st := []) hF vl_RX3_213 rfl [qI (o : Int)] rfl rfl hX.U.t0 (by omega) (Nat.le_of_ble_eq_true rfl) dX3_readOrder_43 ?_
      refine xX4_isInOrder hX hJ7 (by omega) (fun k hk => by have := hJr k hk; omega) (by omega) (fun k2 hk2 c2 => ?_) (fun c2 => ?_)
      · refine q_ifeq hF (by decide) dX3_readOrder_46 (fun c46 => ?_) (fun c46 => ?_)
        · exact absurd c46 (by decide)
        · refine q_iconst hF dX3_readOrder_49 ?_
          refine q_zreturn hF (by decide) rfl dX3_readOrder_50 ?_
          rw [if_pos ((hJm o ho).mpr ⟨k2, hk2, c2⟩)] at hr
          exact k1 1 (S j) _ _ _ _ _ _ _ hr.symm hFJ hWJ (Or.inl ⟨rfl, rfl, rfl⟩) (by omega)
      · refine q_ifeq hF (by decide) dX3_readOrder_46 (fun c46 => ?_) (fun c46 => ?_)
        · have hnot : ¬ o ∈ ul := fun h => by
            obtain ⟨k, hk, e⟩ := (hJm o ho).mp h
            exact c2 k hk e
          rw [if_neg hnot] at hr
          have hl3 : ul.length < 3 := by
            by_cases x : ul.length < 3
            · exact x
            · exact absurd (g_ul3 hnd hx3 (by omega) ho) hnot
          refine q_aload_n hF 2 rfl rfl dX3_readOrder_51 ?_
          refine q_getA hF fl_RX3_18 rfl hX.D.t0 hX.P7 dX3_readOrder_52 ?_
          refine q_iload_n hF 0 rfl rfl dX3_readOrder_55 ?_
          refine q_callV (kc := kc) (ks := ks) (mc' := 0) (ms' := 0) (h' := 0) (st := []) hF vl_RX3_216 rfl [qI (o : Int)] rfl rfl hX.U.t0 (by omega) (Nat.le_of_ble_eq_true rfl) dX3_readOrder_56 ?_
          refine xX4_addToOrder hX hJ7 (by omega) ?_
          have hX2 := (hX.w (q := u + 3) (i := ul.length) (v := (o : Int)) (by omega)).w (q := u) (i := 7) (v := (ul.length : Int) + 1) (by omega)
          refine q_aload_n hF 2 rfl rfl dX3_readOrder_59 ?_
          refine q_callV (kc := kc) (ks := ks) (mc' := 0) (ms' := 0) (h' := 0) (st := []) hF vl_RX3_92 rfl [] rfl rfl hX.D.t0 (by omega) (Nat.le_of_ble_eq_true rfl) dX3_readOrder_60 ?_
          refine xX3_step hX2 (by omega) (fun j4 hj4 => ?_)
          have hS1 : S j4 = g_sk B N (E j) := by rw [hj4, hwe.2.2.1]
          rw [← hS1] at hr
          refine q_iinc hF (z' := ((1 + ul.length : Nat) : Int)) (ls' := [(1, qI ((1 + ul.length : Nat) : Int)), (2, qI (o : Int)), (0, .ref a)]) 1 rfl (by first | rfl | omega) (by decide) rfl dX3_readOrder_63 ?_
          refine q_goto hF dX3_readOrder_66 ?_
          refine q_iload_n hF 0 rfl rfl dX3_readOrder_2 ?_
          refine q_sipush hF (n := 600) rfl dX3_readOrder_3 ?_
          refine q_icmpgt hF (by omega) (by decide) dX3_readOrder_6 (fun c6 => ?_) (fun c6 => ?_)
          · omega
          · refine q_iload_n hF 0 rfl rfl dX3_readOrder_9 ?_
            refine q_ifeq hF (by omega) dX3_readOrder_10 (fun c10 => ?_) (fun c10 => ?_)
            · omega
            · refine q_aload_n hF 2 rfl rfl dX3_readOrder_13 ?_
              refine q_getA hF fl_RX3_22 rfl hX.D.t0 hX.D.p1 dX3_readOrder_14 ?_
              refine q_aload_n hF 2 rfl rfl dX3_readOrder_17 ?_
              refine q_getIv hF (z := (j4 : Int)) fl_RX3_37 hX.D.t0 q_xs_5 dX3_readOrder_18 ?_
              refine q_ialoadv hF (z := g_so B N (S j4)) (n := 601) j4 hX.D.t1 rfl (by omega) (by decide) ((hX2.O.xs hX.au).so _ (by omega)) dX3_readOrder_21 ?_
              refine q_sipush hF (n := 256) rfl dX3_readOrder_22 ?_
              refine q_icmpne hF (by have := g_so_r hX.O.br (g_TK_le hX.O.tk (show j4 ≤ c by omega)).1; omega) (by decide) dX3_readOrder_25 (fun c25 => ?_) (fun c25 => ?_)
              · refine q_iconst hF dX3_readOrder_69 ?_
                refine q_zreturn hF (by decide) rfl dX3_readOrder_70 ?_
                have hsm : ¬ g_sm (g_bt B N (S j4)) := fun h => c25 ((g_so_sm hX.O.br (g_TK_le hX.O.tk (show j4 ≤ c by omega)).1).mpr h)
                rw [if_neg hsm] at hr
                obtain ⟨J2, hJ2⟩ : ∃ J2 : q_I, J2 = u2 (u2 J (u + 3) ul.length (o : Int)) u 7 ((ul.length : Int) + 1) := ⟨_, rfl⟩
                rw [← hJ2]
                have m7 : J2 u 7 = ((ul.length + 1 : Nat) : Int) := by rw [hJ2, u2_s]; omega
                have m3 : J2 (u + 3) ul.length = (o : Int) := by rw [hJ2, u2_a _ _ (by omega), u2_s]
                have m3o : ∀ k, k ≠ ul.length → J2 (u + 3) k = J (u + 3) k := fun k h => by rw [hJ2, u2_a _ _ (by omega), u2_k _ _ h]
                have mo : ∀ q k, (q ≠ u ∨ k ≠ 7) → q ≠ u + 3 → J2 q k = J q k := fun q k h1 h2 => by
                  rw [hJ2, show ∀ M v, u2 M u 7 v q k = M q k from fun M v => if_neg (fun x => h1.elim (fun y => y x.1) (fun y => y x.2)), u2_a _ _ h2]
                have tt2r : ∀ k, k < 3 → 0 ≤ g_up tt (9 + ul.length) (o : Int) (9 + k) ∧ g_up tt (9 + ul.length) (o : Int) (9 + k) ≤ 2 := fun k hk => by
                  unfold g_up; split
                  · omega
                  · exact htr k hk
                have tt2c : ∀ k, k < ul.length + 1 → J2 (u + 3) k = g_up tt (9 + ul.length) (o : Int) (9 + k) := fun k hk => by
                  by_cases e : k = ul.length
                  · subst e; rw [m3, g_up_s]
                  · rw [m3o k e, g_up_n _ _ (by omega)]; exact hJc k (by omega)
                have tt2o : ∀ k, (k < 9 ∨ 12 ≤ k) → g_up tt (9 + ul.length) (o : Int) k = t k := fun k h => by rw [g_up_n _ _ (by omega)]; exact hto k h
                have mI : ∀ q k, (q ≠ u ∨ k ≠ 7) → q ≠ u + 3 → J2 q k = I q k := fun q k h1 h2 => (mo q k h1 h2).trans (hJo q k h1 h2)
                obtain ⟨t2, ht2⟩ : ∃ t2 : Nat → Int, t2 = g_up (g_up tt (9 + ul.length) (o : Int)) 8 ((ul.length + 1 : Nat) : Int) := ⟨_, rfl⟩
                rw [← ht2] at hr
                have t8 : t2 8 = ((ul.length + 1 : Nat) : Int) := by rw [ht2, g_up_s]
                have t9 : ∀ k, k ≠ 8 → t2 k = g_up tt (9 + ul.length) (o : Int) k := fun k h => by rw [ht2, g_up_n _ _ h]
                have to : ∀ k, (k < 8 ∨ 12 ≤ k) → t2 k = t k := fun k h => by rw [t9 k (by omega)]; exact tt2o k (by omega)
                have hle := g_TK_le hX.O.tk (show j4 ≤ c by omega)
                refine k0 _ t2 J2 j4 _ _ _ hr.symm (fun q k h => mI q k (by omega) (by omega)) ⟨?_, ?_, ?_, ?_, ?_⟩ ⟨by omega, by omega, by show S j4 ≤ N; omega, by show S j4 = g_sk B N (S j4); rw [hS1]; exact (g_sk_sk (by have := g_TK_le hX.O.tk hj; omega)).symm, by omega⟩
                · exact hD1.tr (mI _ _ (by omega) (by omega)) (fun q k h1 h2 => mI _ _ (by omega) (by omega)) (to _ (by omega)) (fun k h1 h2 => to _ (by omega))
                · exact hD2.ord (fun k h => mI _ _ (by omega) (by omega)) (to _ (by omega)) (fun k h1 h2 => to _ (by omega)) ⟨by rw [m7, t8], by omega, fun k hk => by rw [t9 _ (by omega)]; exact tt2r k hk, fun k hk => by rw [t9 _ (by omega)]; exact tt2c k (by omega)⟩
                · exact hD3.tr (fun k h => mI _ _ (by omega) (by omega)) (fun k h1 h2 => to _ (by omega))
                · exact hD4.tr (fun k h => mI _ _ (by omega) (by omega)) (fun k h => mI _ _ (by omega) (by omega)) (fun k h => rfl) (by rw [to _ (by omega)]; exact Int.le_refl _) (fun k h1 h2 => to _ (by omega)) (Nat.le_refl _) (Nat.le_refl _)
                · exact hfr.tr (fun x hx => to _ (by omega)) (fun l9 hl => ⟨to _ (by omega), to _ (by omega)⟩)
              · refine q_sub [0, 2] rfl ?_
                rw [show 1 + ul.length = (o :: ul).length from Nat.add_comm _ _]
                have hsm := (g_so_sm hX.O.br (show S j4 ≤ N from (g_TK_le hX.O.tk (show j4 ≤ c by omega)).1)).mp c25
                rw [if_pos hsm] at hr
                obtain ⟨J2, hJ2⟩ : ∃ J2 : q_I, J2 = u2 (u2 J (u + 3) ul.length (o : Int)) u 7 ((ul.length : Int) + 1) := ⟨_, rfl⟩
                rw [← hJ2]
                have m7 : J2 u 7 = ((ul.length + 1 : Nat) : Int) := by rw [hJ2, u2_s]; omega
                have m3 : J2 (u + 3) ul.length = (o : Int) := by rw [hJ2, u2_a _ _ (by omega), u2_s]
                have m3o : ∀ k, k ≠ ul.length → J2 (u + 3) k = J (u + 3) k := fun k h => by rw [hJ2, u2_a _ _ (by omega), u2_k _ _ h]
                have mo : ∀ q k, (q ≠ u ∨ k ≠ 7) → q ≠ u + 3 → J2 q k = J q k := fun q k h1 h2 => by
                  rw [hJ2, show ∀ M v, u2 M u 7 v q k = M q k from fun M v => if_neg (fun x => h1.elim (fun y => y x.1) (fun y => y x.2)), u2_a _ _ h2]
                have tt2r : ∀ k, k < 3 → 0 ≤ g_up tt (9 + ul.length) (o : Int) (9 + k) ∧ g_up tt (9 + ul.length) (o : Int) (9 + k) ≤ 2 := fun k hk => by
                  unfold g_up; split
                  · omega
                  · exact htr k hk
                have tt2c : ∀ k, k < ul.length + 1 → J2 (u + 3) k = g_up tt (9 + ul.length) (o : Int) (9 + k) := fun k hk => by
                  by_cases e : k = ul.length
                  · subst e; rw [m3, g_up_s]
                  · rw [m3o k e, g_up_n _ _ (by omega)]; exact hJc k (by omega)
                have tt2o : ∀ k, (k < 9 ∨ 12 ≤ k) → g_up tt (9 + ul.length) (o : Int) k = t k := fun k h => by rw [g_up_n _ _ (by omega)]; exact hto k h
                have mI : ∀ q k, (q ≠ u ∨ k ≠ 7) → q ≠ u + 3 → J2 q k = I q k := fun q k h1 h2 => (mo q k h1 h2).trans (hJo q k h1 h2)
                obtain ⟨f2, rfl⟩ : ∃ f2, f = f2 + 1 := ⟨f - 1, by omega⟩
                refine ih f2 (o :: ul) (g_up tt (9 + ul.length) (o : Int)) J2 j4 _ (by omega) (by show f2 + (ul.length + 1) = 3; omega) (by omega) (by show ul.length + 1 ≤ j4; omega) (List.nodup_cons.mpr ⟨hnot, hnd⟩) (fun x hx => by
                  rcases List.mem_cons.mp hx with rfl | hx
                  · exact ho
                  · exact hx3 x hx) (by rw [hJ2]; exact hX2) m7 (fun k hk => by have hk : k < ul.length + 1 := hk; exact tt2c k hk) (fun k hk => by have hk : k < ul.length + 1 := hk; have := tt2c k hk; have := tt2r k (by omega); omega) (fun o9 ho9 => ?_) mI tt2r tt2o hr (by omega)
                constructor
                · intro h
                  rcases List.mem_cons.mp h with rfl | h
                  · exact ⟨ul.length, Nat.lt_succ_self _, m3⟩
                  · obtain ⟨k, hk, e⟩ := (hJm o9 ho9).mp h
                    exact ⟨k, Nat.lt_succ_of_lt hk, by rw [m3o k (by omega)]; exact e⟩
                · rintro ⟨k, hk, e⟩
                  have hk : k < ul.length + 1 := hk
                  by_cases e2 : k = ul.length
                  · rw [e2, m3] at e
                    exact List.mem_cons.mpr (Or.inl (by omega))
                  · rw [m3o k e2] at e
                    exact List.mem_cons.mpr (Or.inr ((hJm o9 ho9).mpr ⟨k, by omega, e⟩))
        · exact absurd c46 (by decide)
set_option maxRecDepth 100000 in
theorem xX3_readOrder {G : q_G} {T : q_T} {P : q_P} {a u by_ c N : Nat} {B : Nat → Int} {S E : Nat → Nat} {s : g_PS} {t : Nat → Int} : ∀ (j : Nat), ¬ g_bq s.on 3 → q_XL G T P a u by_ c N B S E YX3_readOrder 1 [] j s t (g_rdO B N (g_mk s.p s.fl s.fa s.cd s.op (g_or s.on (g_shl 1 3)) s.hp) 4 t [] (S j)) := by
  intro j hb sz I L Q nu pl kk C hX hLL hj hkk k0 k1
  have hc6 : c ≤ 600 := by have := hX.O.tk.1; have := hX.O.n6; omega
  have hXau := hX.au
  have hXsep := hX.sep
  have hXlt : a < u := by omega
  obtain ⟨hD1, hD2, hD3, hD4, hfr⟩ := hLL
  have hW := q_WK.of hD1 hD2 hD3
  have hD1b := hD1.2.1
  obtain ⟨h7, h911⟩ : I u 7 = ((([] : List Nat).length : Nat) : Int) ∧ ∀ k, k < 3 → 0 ≤ t (9 + k) ∧ t (9 + k) ≤ 2 := by
    rcases hD2.2.2.2.2 with h | ⟨_, h7, h8, h9, h10, h11⟩
    · exact absurd h.1 hb
    · refine ⟨h7, fun k hk => ?_⟩
      rcases (show k = 0 ∨ k = 1 ∨ k = 2 by omega) with rfl | rfl | rfl
      · show 0 ≤ t 9 ∧ t 9 ≤ 2; omega
      · show 0 ≤ t 10 ∧ t 10 ≤ 2; omega
      · show 0 ≤ t 11 ∧ t 11 ≤ 2; omega
  generalize hr : (g_rdO B N (g_mk s.p s.fl s.fa s.cd s.op (g_or s.on (g_shl 1 3)) s.hp) 4 t [] (S j)) = r at k0 k1
  show qC G 1 0 0 YX3_readOrder [.ref a] sz T (q_xs I a u j nu 0 pl kk C) L P Q
  refine qC_of (by decide +kernel) rfl rfl (Nat.le_of_ble_eq_true rfl) (fun F hF _ _ => ?_)
  refine q_iconst hF dX3_readOrder_0 ?_
  refine q_istore_n hF (ls' := [(1, qI 0), (0, .ref a)]) rfl (by decide) rfl dX3_readOrder_1 ?_
  refine q_iload_n hF 0 rfl rfl dX3_readOrder_2 ?_
  refine q_sipush hF (n := 600) rfl dX3_readOrder_3 ?_
  refine q_icmpgt hF (by decide) (by decide) dX3_readOrder_6 (fun c6 => ?_) (fun c6 => ?_)
  · exact absurd c6 (by decide)
  · refine q_iload_n hF 0 rfl rfl dX3_readOrder_9 ?_
    refine q_ifeq hF (by decide) dX3_readOrder_10 (fun c10 => ?_) (fun c10 => ?_)
    · refine q_sub [0, 1] rfl ?_
      exact lX3_readOrder (j0 := j) hF (by decide) ⟨hD1, hD2, hD3, hD4, hfr⟩ k0 k1 4 3 [] t I j nu (by decide) rfl ⟨Nat.le_refl _, hj⟩ (Nat.zero_le _) List.nodup_nil (fun x hx => (by cases hx)) hX h7 (fun k hk => absurd hk (Nat.not_lt_zero _)) (fun k hk => absurd hk (Nat.not_lt_zero _)) (fun o ho => ⟨fun h => (by cases h), fun h => h.elim (fun k hk => absurd hk.1 (Nat.not_lt_zero _))⟩) (fun _ _ _ _ => rfl) h911 (fun _ _ => rfl) hr hkk
    · exact absurd c10 (by decide)
