/-! a bank drawn and told: lands, laws of sleep, what kinds pay -/
theorem e_st_lo {k l cd : Nat} {cs : List Int} {t : Nat → Int} {x : Nat} (h : x < 139) (h1 : x ≠ 89 + 2 * (5 * k + l)) (h2 : x ≠ 90 + 2 * (5 * k + l)) : e_st k l cs cd t x = t x := by
  unfold e_st
  rw [g_up_n _ _ h2, g_up_n _ _ h1, g_app_lo _ _ _ _ (by omega)]

set_option maxRecDepth 100000 in
theorem lL_lands {G : q_G} {F : q_F} {h : Nat} {Q : q_Q} {kc ks sz : Nat} {T : q_T} {b bk ta d K l9 : Nat} {R : Nat → Nat → Int} {T0 : q_T} {I0 : q_I} {P0 : q_P} {pF : Nat × Nat} {L : q_I} (hF : q_ok G F YL_drawn h) (h6 : 6 ≤ h) (hA : q_A G b) (hL1 : b + 452 ≤ ta) (hL2 : ta < d) (hL3 : d < K) (hl9 : 1 ≤ l9 ∧ l9 ≤ 3) (k0 : ∀ (sz9 : Nat) (T9 : q_T) (I9 : q_I) (P9 : q_P) (t : Nat → Int) (bs : List Nat), bs.length ≤ 87 → (∀ x, 89 ≤ x → x < 139 → t x = 0) → q_DW b bk R ta d L K l9 T0 I0 P0 T9 I9 P9 sz9 0 l9 0 0 t bs pF → qX G F Q kc ks 164 [(3, .ref K), (0, .ref b), (1, .ref ta), (2, .ref d)] [] sz9 T9 I9 L P9) : ∀ (n : Nat) (l : Nat) (sz9 : Nat) (T9 : q_T) (I9 : q_I) (P9 : q_P) (t : Nat → Int) (bs : List Nat) (p : Nat × Nat), l9 - l < n → l ≤ l9 → q_DW b bk R ta d L K l9 T0 I0 P0 T9 I9 P9 sz9 0 l 0 0 t bs p → bs.length ≤ 29 * l → (∀ x, 89 ≤ x → x < 139 → t x = 0) → f_lns (l9 - l) p = pF → qX G F Q (kc + (l9 - l)) (ks + 4 * (l9 - l)) 22 [(4, qI (l : Int)), (3, .ref K), (0, .ref b), (1, .ref ta), (2, .ref d)] [] sz9 T9 I9 L P9 := by
  intro n
  induction n with
  | zero => intro l sz9 T9 I9 P9 t bs p hn; exact absurd hn (Nat.not_lt_zero _)
  | succ n ih =>
    intro l sz9 T9 I9 P9 t bs p hn hl hW hbl hz hk
    obtain ⟨hB, hx, hD, hPT, hm0, hnm, hfr, hTd⟩ := hW
    have hL4 := hD.s20
    obtain ⟨q49, q50, q51, q52, q53, q54, q55, q56, q57, q58, q59, q60, q61, q62⟩ := e_lens
    have hn6 : l < 5 → g_len (68 + l) ≤ 6 := e_len6 l
    refine q_iload hF 0 rfl dL_drawn_22 ?_
    refine q_aload_n hF 1 rfl rfl dL_drawn_24 ?_
    refine q_getIv hF (z := (l9 : Int)) fl_RL_150 hD.ot.t0 hD.ln dL_drawn_25 ?_
    refine q_icmpge hF (by omega) (by omega) dL_drawn_28 (fun c28 => ?_) (fun c28 => ?_)
    · have el : l = l9 := by omega
      subst el
      rw [Nat.sub_self] at hk
      have hk2 : p = pF := hk
      subst hk2
      refine q_sub [1, 2, 3, 4] rfl ?_
      exact qX.room (kc := kc) (ks := ks) (by omega) (by omega) (k0 _ _ _ _ _ _ (by omega) hz ⟨hB, hx, hD, hPT, hm0, hnm, hfr, hTd⟩)
    · refine q_iconst hF dL_drawn_31 ?_
      refine qX.room (kc := (kc + (l9 - (l + 1))) + 1) (ks := (ks + 4 * (l9 - (l + 1))) + 4) (by omega) (by omega) ?_
      refine q_newaI hF (s' := sz9 + 1) (kc := (kc + (l9 - (l + 1)))) (ks := (ks + 4 * (l9 - (l + 1)))) (n := 4) (q_mem 124 (by decide +kernel) rfl) (fun j => (hD.z _ _ (Nat.le_refl _)).1) (fun j => (hD.z _ _ (Nat.le_refl _)).2.1) dL_drawn_32 rfl ?_
      refine q_dup hF rfl dL_drawn_34 ?_
      refine q_iconst hF dL_drawn_35 ?_
      refine q_aload_n hF 4 rfl rfl dL_drawn_36 ?_
      refine q_bipush hF (n := 12) rfl dL_drawn_37 ?_
      refine q_callV (kc := (kc + (l9 - (l + 1)))) (ks := (ks + 4 * (l9 - (l + 1)))) (mc' := 0) (ms' := 0) (h' := 0) (st := [qI 0, .ref sz9, .ref sz9]) hF vl_RL_145 rfl [qI 12] rfl rfl ((q_upT_n _ _ (by omega)).trans hTd) (by omega) (Nat.le_of_ble_eq_true rfl) dL_drawn_39 ?_
      refine mX9_of (m := 12) ((q_upT_n _ _ (by omega)).trans hTd) (q_Ale hA (by omega)) (x := p.2) hx (by omega) (fun v_1 c39_0_1 c39_1_1 => ?_)
      refine q_iastorev hF (n := 4) 0 (q_upT_s _ _ _) (q_Ale hA (by omega)) rfl (by decide) (by decide) dL_drawn_42 ?_
      refine q_dup hF rfl dL_drawn_43 ?_
      refine q_iconst hF dL_drawn_44 ?_
      refine q_aload_n hF 4 rfl rfl dL_drawn_45 ?_
      refine q_iconst hF dL_drawn_46 ?_
      refine q_callV (kc := (kc + (l9 - (l + 1)))) (ks := (ks + 4 * (l9 - (l + 1)))) (mc' := 0) (ms' := 0) (h' := 0) (st := [qI 1, .ref sz9, .ref sz9]) hF vl_RL_145 rfl [qI 3] rfl rfl ((q_upT_n _ _ (by omega)).trans hTd) (by omega) (Nat.le_of_ble_eq_true rfl) dL_drawn_47 ?_
      refine mX9_of (m := 3) ((q_upT_n _ _ (by omega)).trans hTd) (q_Ale hA (by omega)) (x := d_nx p.2) ((u2_a _ _ (by omega)).trans (u2_s _ _ _ _)) (by omega) (fun v_2 c47_0_2 c47_1_2 => ?_)
      refine q_aload_n hF 4 rfl rfl dL_drawn_50 ?_
      refine q_sipush hF (n := 3000) rfl dL_drawn_51 ?_
      refine q_callV (kc := (kc + (l9 - (l + 1)))) (ks := (ks + 4 * (l9 - (l + 1)))) (mc' := 0) (ms' := 0) (h' := 0) (st := [qI (v_2 : Int), qI 1, .ref sz9, .ref sz9]) hF vl_RL_145 rfl [qI 3000] rfl rfl ((q_upT_n _ _ (by omega)).trans hTd) (by omega) (Nat.le_of_ble_eq_true rfl) dL_drawn_54 ?_
      refine mX9_of (m := 3000) ((q_upT_n _ _ (by omega)).trans hTd) (q_Ale hA (by omega)) (x := d_nx (d_nx p.2)) (u2_s _ _ _ _) (by omega) (fun v_3 c54_0_3 c54_1_3 => ?_)
      obtain ⟨w, hw, hwb⟩ : ∃ w : Nat, (v_2 : Int) * (v_3 : Int) = (w : Int) ∧ w ≤ 5998 := ⟨v_2 * v_3, (Int.natCast_mul v_2 v_3).symm, by have := Nat.mul_le_mul (show v_2 ≤ 2 by omega) (show v_3 ≤ 2999 by omega); omega⟩
      refine q_imul hF dL_drawn_57 ?_
      rw [hw]
      refine q_iastorev hF (n := 4) 1 (q_upT_s _ _ _) (q_Ale hA (by omega)) rfl (by decide) (by decide) dL_drawn_58 ?_
      refine q_dup hF rfl dL_drawn_59 ?_
      refine q_iconst hF dL_drawn_60 ?_
      refine q_aload_n hF 4 rfl rfl dL_drawn_61 ?_
      refine q_sipush hF (n := 999) rfl dL_drawn_62 ?_
      refine q_callV (kc := (kc + (l9 - (l + 1)))) (ks := (ks + 4 * (l9 - (l + 1)))) (mc' := 0) (ms' := 0) (h' := 0) (st := [qI 2, .ref sz9, .ref sz9]) hF vl_RL_145 rfl [qI 999] rfl rfl ((q_upT_n _ _ (by omega)).trans hTd) (by omega) (Nat.le_of_ble_eq_true rfl) dL_drawn_65 ?_
      refine mX9_of (m := 999) ((q_upT_n _ _ (by omega)).trans hTd) (q_Ale hA (by omega)) (x := d_nx (d_nx (d_nx p.2))) ((u2_k _ _ (by decide)).trans (u2_s _ _ _ _)) (by omega) (fun v_4 c65_0_4 c65_1_4 => ?_)
      refine q_iastorev hF (n := 4) 2 (q_upT_s _ _ _) (q_Ale hA (by omega)) rfl (by decide) (by decide) dL_drawn_68 ?_
      refine q_dup hF rfl dL_drawn_69 ?_
      refine q_iconst hF dL_drawn_70 ?_
      refine q_iconst hF dL_drawn_71 ?_
      refine q_aload_n hF 4 rfl rfl dL_drawn_72 ?_
      refine q_iconst hF dL_drawn_73 ?_
      refine q_callV (kc := (kc + (l9 - (l + 1)))) (ks := (ks + 4 * (l9 - (l + 1)))) (mc' := 0) (ms' := 0) (h' := 0) (st := [qI 1, qI 3, .ref sz9, .ref sz9]) hF vl_RL_145 rfl [qI 3] rfl rfl ((q_upT_n _ _ (by omega)).trans hTd) (by omega) (Nat.le_of_ble_eq_true rfl) dL_drawn_74 ?_
      refine mX9_of (m := 3) ((q_upT_n _ _ (by omega)).trans hTd) (q_Ale hA (by omega)) (x := d_nx (d_nx (d_nx (d_nx p.2)))) ((u2_k _ _ (by decide)).trans (u2_s _ _ _ _)) (by omega) (fun v_5 c74_0_5 c74_1_5 => ?_)
      refine q_iadd hF dL_drawn_77 ?_
      refine q_iastorev hF (n := 4) 3 (q_upT_s _ _ _) (q_Ale hA (by omega)) rfl (by decide) (by decide) dL_drawn_78 ?_
      refine q_astore hF (ls' := [(5, .ref sz9), (4, qI (l : Int)), (3, .ref K), (0, .ref b), (1, .ref ta), (2, .ref d)]) (by decide) rfl dL_drawn_79 ?_
      refine q_aload_n hF 3 rfl rfl dL_drawn_81 ?_
      refine q_aload_n hF 4 rfl rfl dL_drawn_82 ?_
      refine q_iload hF 1 rfl dL_drawn_83 ?_
      refine q_iconst hF dL_drawn_85 ?_
      refine q_irem hF (by omega) (by decide) (by decide) dL_drawn_86 ?_
      refine q_ifne hF (by rw [Int.tmod_eq_emod_of_nonneg (by omega)]; omega) dL_drawn_87 (fun c87 => ?_) (fun c87 => ?_)
      · refine q_ldcK hF (i := 51) (by decide) rfl rfl dL_drawn_95 ?_
        refine q_callS (kc := (kc + (l9 - (l + 1)))) (ks := (ks + 4 * (l9 - (l + 1)))) (mc' := 0) (ms' := 0) (h' := 4) (st := []) hF sl_RL_134 rfl [.ref b, .ref ta, .ref (q_KS G 51)] rfl rfl (by omega) (Nat.le_of_ble_eq_true rfl) dL_drawn_97 ?_
        refine mL_tell hA (q_Ale hA (by omega)) (hB.mv (fun q a c => ((q_upT_n _ _ (by omega)).trans rfl)) (fun q k a c => ((u2_a _ _ (by omega)).trans ((u2_a _ _ (by omega)).trans ((u2_a _ _ (by omega)).trans ((u2_a _ _ (by omega)).trans ((u2_a _ _ (by omega)).trans ((u2_a _ _ (by omega)).trans ((u2_a _ _ (by omega)).trans ((u2_a _ _ (by omega)).trans ((u2_a _ _ (by omega)).trans rfl)))))))))) (fun _ _ _ _ => rfl) (fun q k a c => rfl)) (by omega) (by (try simp only [List.length_append, g_sts_len, g_dg9_len, g_nb9_len, List.length_nil]); omega) (fun I9_6 c97_0_6 c97_1_6 => ?_)
        refine q_aload_n hF 3 rfl rfl dL_drawn_100 ?_
        refine q_aload_n hF 4 rfl rfl dL_drawn_101 ?_
        refine q_getsSa (a := 81) hF (by decide) (q_mem 1130 (by decide +kernel) rfl) dL_drawn_102 ?_
        refine q_iload hF 1 rfl dL_drawn_105 ?_
        refine q_aldSa hF (a := 81) (by decide) l rfl (by show l < 5; omega) (by omega) dL_drawn_107 ?_
        show qX G F Q (kc + (l9 - (l + 1))) (ks + 4 * (l9 - (l + 1))) 108 [(5, .ref sz9), (4, qI (l : Int)), (3, .ref K), (0, .ref b), (1, .ref ta), (2, .ref d)] [.ref (q_KS G (68 + l)), .ref ta, .ref b] (sz9 + 1) (q_upT T9 sz9 (.inr (0, 4))) I9_6 L P9
        refine q_callS (kc := (kc + (l9 - (l + 1)))) (ks := (ks + 4 * (l9 - (l + 1)))) (mc' := 0) (ms' := 0) (h' := 4) (st := []) hF sl_RL_134 rfl [.ref b, .ref ta, .ref (q_KS G (68 + l))] rfl rfl (by omega) (Nat.le_of_ble_eq_true rfl) dL_drawn_108 ?_
        refine mL_tell hA (q_Ale hA (by omega)) c97_0_6 (by omega) (by have := e_len6 l (by omega); (try simp only [List.length_append, g_sts_len, g_dg9_len, g_nb9_len, List.length_nil]); omega) (fun I9_7 c108_0_7 c108_1_7 => ?_)
        refine q_iconst hF dL_drawn_111 ?_
        refine q_istore hF (ls' := [(6, qI 0), (5, .ref sz9), (4, qI (l : Int)), (3, .ref K), (0, .ref b), (1, .ref ta), (2, .ref d)]) (by decide) rfl dL_drawn_112 ?_
        refine q_iload hF 0 rfl dL_drawn_114 ?_
        refine q_iconst hF dL_drawn_116 ?_
        refine q_icmpge hF (by decide) (by decide) dL_drawn_117 (fun c117 => ?_) (fun c117 => ?_)
        · exact absurd c117 (by decide)
        · refine q_aload_n hF 3 rfl rfl dL_drawn_120 ?_
          refine q_getA hF fl_RL_162 rfl ((q_upT_n _ _ (by omega)).trans hD.ot.t0) hD.ot.p1 dL_drawn_121 ?_
          refine q_iload hF 2 rfl dL_drawn_124 ?_
          refine q_aaloadv hF (b := K + 2 + l) l ((q_upT_n _ _ (by omega)).trans hD.ot.t1) (by decide) rfl (by omega) (by decide) (hD.ot.pl l (by omega)) dL_drawn_126 ?_
          refine q_iload hF 0 rfl dL_drawn_127 ?_
          refine q_aload hF 1 rfl dL_drawn_129 ?_
          refine q_iload hF 0 rfl dL_drawn_131 ?_
          refine q_ialoadv hF (z := (v_1 : Int)) (n := 4) 0 (q_upT_s _ _ _) rfl (by decide) (by decide) ((c108_1_7 _ _ (by omega) (by omega)).trans ((c97_1_6 _ _ (by omega) (by omega)).trans ((u2_k _ _ (by decide)).trans ((u2_a _ _ (by omega)).trans ((u2_k _ _ (by decide)).trans ((u2_a _ _ (by omega)).trans ((u2_k _ _ (by decide)).trans ((u2_a _ _ (by omega)).trans ((u2_a _ _ (by omega)).trans (u2_s _ _ _ _)))))))))) dL_drawn_133 ?_
          refine q_iastorev hF (n := 4) 0 ((q_upT_n _ _ (by omega)).trans (hD.ot.tl l (by omega))) (q_Ale hA (by omega)) rfl (by decide) (by decide) dL_drawn_134 ?_
          refine q_aload_n hF 4 rfl rfl dL_drawn_135 ?_
          refine q_aload_n hF 5 rfl rfl dL_drawn_136 ?_
          refine q_aload hF 1 rfl dL_drawn_137 ?_
          refine q_iload hF 0 rfl dL_drawn_139 ?_
          refine q_ialoadv hF (z := (v_1 : Int)) (n := 4) 0 (q_upT_s _ _ _) rfl (by decide) (by decide) ((u2_a _ _ (by omega)).trans ((c108_1_7 _ _ (by omega) (by omega)).trans ((c97_1_6 _ _ (by omega) (by omega)).trans ((u2_k _ _ (by decide)).trans ((u2_a _ _ (by omega)).trans ((u2_k _ _ (by decide)).trans ((u2_a _ _ (by omega)).trans ((u2_k _ _ (by decide)).trans ((u2_a _ _ (by omega)).trans ((u2_a _ _ (by omega)).trans (u2_s _ _ _ _))))))))))) dL_drawn_141 ?_
          refine q_callS (kc := (kc + (l9 - (l + 1)))) (ks := (ks + 4 * (l9 - (l + 1)))) (mc' := 0) (ms' := 0) (h' := 5) (st := []) hF sl_RL_165 rfl [.ref b, .ref ta, qI (v_1 : Int)] rfl rfl (by omega) (Nat.le_of_ble_eq_true rfl) dL_drawn_142 ?_
          refine mL_number (v := v_1) hA (q_Ale hA (by omega)) (c108_0_7.mv (fun q a c => rfl) (fun q k a c => ((u2_a _ _ (by omega)).trans rfl)) (fun _ _ _ _ => rfl) (fun q k a c => rfl)) (by omega) (by have := (g_dge_lt v_1).2.2.2.2; have := e_len6 l (by omega); (try simp only [List.length_append, g_sts_len, g_dg9_len, g_nb9_len, List.length_nil]); omega) (fun I9_8 c142_0_8 c142_1_8 => ?_)
          refine q_iinc hF (z' := 1) (ls' := [(6, qI 1), (5, .ref sz9), (4, qI (l : Int)), (3, .ref K), (0, .ref b), (1, .ref ta), (2, .ref d)]) 0 rfl (by first | rfl | omega) (by decide) rfl dL_drawn_145 ?_
          refine q_goto hF dL_drawn_148 ?_
          refine q_iload hF 0 rfl dL_drawn_114 ?_
          refine q_iconst hF dL_drawn_116 ?_
          refine q_icmpge hF (by decide) (by decide) dL_drawn_117 (fun c117 => ?_) (fun c117 => ?_)
          · exact absurd c117 (by decide)
          · refine q_aload_n hF 3 rfl rfl dL_drawn_120 ?_
            refine q_getA hF fl_RL_162 rfl ((q_upT_n _ _ (by omega)).trans hD.ot.t0) hD.ot.p1 dL_drawn_121 ?_
            refine q_iload hF 2 rfl dL_drawn_124 ?_
            refine q_aaloadv hF (b := K + 2 + l) l ((q_upT_n _ _ (by omega)).trans hD.ot.t1) (by decide) rfl (by omega) (by decide) (hD.ot.pl l (by omega)) dL_drawn_126 ?_
            refine q_iload hF 0 rfl dL_drawn_127 ?_
            refine q_aload hF 1 rfl dL_drawn_129 ?_
            refine q_iload hF 0 rfl dL_drawn_131 ?_
            refine q_ialoadv hF (z := (w : Int)) (n := 4) 1 (q_upT_s _ _ _) rfl (by decide) (by decide) ((c142_1_8 _ _ (by omega) (by omega)).trans ((u2_k _ _ (by decide)).trans ((c108_1_7 _ _ (by omega) (by omega)).trans ((c97_1_6 _ _ (by omega) (by omega)).trans ((u2_k _ _ (by decide)).trans ((u2_k _ _ (by decide)).trans ((u2_k _ _ (by decide)).trans ((u2_k _ _ (by decide)).trans (u2_s _ _ _ _))))))))) dL_drawn_133 ?_
            refine q_iastorev hF (n := 4) 1 ((q_upT_n _ _ (by omega)).trans (hD.ot.tl l (by omega))) (q_Ale hA (by omega)) rfl (by decide) (by decide) dL_drawn_134 ?_
            refine q_aload_n hF 4 rfl rfl dL_drawn_135 ?_
            refine q_aload_n hF 5 rfl rfl dL_drawn_136 ?_
            refine q_aload hF 1 rfl dL_drawn_137 ?_
            refine q_iload hF 0 rfl dL_drawn_139 ?_
            refine q_ialoadv hF (z := (w : Int)) (n := 4) 1 (q_upT_s _ _ _) rfl (by decide) (by decide) ((u2_a _ _ (by omega)).trans ((c142_1_8 _ _ (by omega) (by omega)).trans ((u2_k _ _ (by decide)).trans ((c108_1_7 _ _ (by omega) (by omega)).trans ((c97_1_6 _ _ (by omega) (by omega)).trans ((u2_k _ _ (by decide)).trans ((u2_k _ _ (by decide)).trans ((u2_k _ _ (by decide)).trans ((u2_k _ _ (by decide)).trans (u2_s _ _ _ _)))))))))) dL_drawn_141 ?_
            refine q_callS (kc := (kc + (l9 - (l + 1)))) (ks := (ks + 4 * (l9 - (l + 1)))) (mc' := 0) (ms' := 0) (h' := 5) (st := []) hF sl_RL_165 rfl [.ref b, .ref ta, qI (w : Int)] rfl rfl (by omega) (Nat.le_of_ble_eq_true rfl) dL_drawn_142 ?_
            refine mL_number (v := w) hA (q_Ale hA (by omega)) (c142_0_8.mv (fun q a c => rfl) (fun q k a c => ((u2_a _ _ (by omega)).trans rfl)) (fun _ _ _ _ => rfl) (fun q k a c => rfl)) (by omega) (by have := (g_dge_lt v_1).2.2.2.2; have := (g_dge_lt w).2.2.2.2; have := e_len6 l (by omega); (try simp only [List.length_append, g_sts_len, g_dg9_len, g_nb9_len, List.length_nil]); omega) (fun I9_9 c142_0_9 c142_1_9 => ?_)
            refine q_iinc hF (z' := 2) (ls' := [(6, qI 2), (5, .ref sz9), (4, qI (l : Int)), (3, .ref K), (0, .ref b), (1, .ref ta), (2, .ref d)]) 0 rfl (by first | rfl | omega) (by decide) rfl dL_drawn_145 ?_
            refine q_goto hF dL_drawn_148 ?_
            refine q_iload hF 0 rfl dL_drawn_114 ?_
            refine q_iconst hF dL_drawn_116 ?_
            refine q_icmpge hF (by decide) (by decide) dL_drawn_117 (fun c117 => ?_) (fun c117 => ?_)
            · exact absurd c117 (by decide)
            · refine q_aload_n hF 3 rfl rfl dL_drawn_120 ?_
              refine q_getA hF fl_RL_162 rfl ((q_upT_n _ _ (by omega)).trans hD.ot.t0) hD.ot.p1 dL_drawn_121 ?_
              refine q_iload hF 2 rfl dL_drawn_124 ?_
              refine q_aaloadv hF (b := K + 2 + l) l ((q_upT_n _ _ (by omega)).trans hD.ot.t1) (by decide) rfl (by omega) (by decide) (hD.ot.pl l (by omega)) dL_drawn_126 ?_
              refine q_iload hF 0 rfl dL_drawn_127 ?_
              refine q_aload hF 1 rfl dL_drawn_129 ?_
              refine q_iload hF 0 rfl dL_drawn_131 ?_
              refine q_ialoadv hF (z := (v_4 : Int)) (n := 4) 2 (q_upT_s _ _ _) rfl (by decide) (by decide) ((c142_1_9 _ _ (by omega) (by omega)).trans ((u2_k _ _ (by decide)).trans ((c142_1_8 _ _ (by omega) (by omega)).trans ((u2_k _ _ (by decide)).trans ((c108_1_7 _ _ (by omega) (by omega)).trans ((c97_1_6 _ _ (by omega) (by omega)).trans ((u2_k _ _ (by decide)).trans ((u2_k _ _ (by decide)).trans (u2_s _ _ _ _))))))))) dL_drawn_133 ?_
              refine q_iastorev hF (n := 4) 2 ((q_upT_n _ _ (by omega)).trans (hD.ot.tl l (by omega))) (q_Ale hA (by omega)) rfl (by decide) (by decide) dL_drawn_134 ?_
              refine q_aload_n hF 4 rfl rfl dL_drawn_135 ?_
              refine q_aload_n hF 5 rfl rfl dL_drawn_136 ?_
              refine q_aload hF 1 rfl dL_drawn_137 ?_
              refine q_iload hF 0 rfl dL_drawn_139 ?_
              refine q_ialoadv hF (z := (v_4 : Int)) (n := 4) 2 (q_upT_s _ _ _) rfl (by decide) (by decide) ((u2_a _ _ (by omega)).trans ((c142_1_9 _ _ (by omega) (by omega)).trans ((u2_k _ _ (by decide)).trans ((c142_1_8 _ _ (by omega) (by omega)).trans ((u2_k _ _ (by decide)).trans ((c108_1_7 _ _ (by omega) (by omega)).trans ((c97_1_6 _ _ (by omega) (by omega)).trans ((u2_k _ _ (by decide)).trans ((u2_k _ _ (by decide)).trans (u2_s _ _ _ _)))))))))) dL_drawn_141 ?_
              refine q_callS (kc := (kc + (l9 - (l + 1)))) (ks := (ks + 4 * (l9 - (l + 1)))) (mc' := 0) (ms' := 0) (h' := 5) (st := []) hF sl_RL_165 rfl [.ref b, .ref ta, qI (v_4 : Int)] rfl rfl (by omega) (Nat.le_of_ble_eq_true rfl) dL_drawn_142 ?_
              refine mL_number (v := v_4) hA (q_Ale hA (by omega)) (c142_0_9.mv (fun q a c => rfl) (fun q k a c => ((u2_a _ _ (by omega)).trans rfl)) (fun _ _ _ _ => rfl) (fun q k a c => rfl)) (by omega) (by have := (g_dge_lt v_1).2.2.2.2; have := (g_dge_lt w).2.2.2.2; have := (g_dge_lt v_4).2.2.2.2; have := e_len6 l (by omega); (try simp only [List.length_append, g_sts_len, g_dg9_len, g_nb9_len, List.length_nil]); omega) (fun I9_10 c142_0_10 c142_1_10 => ?_)
              refine q_iinc hF (z' := 3) (ls' := [(6, qI 3), (5, .ref sz9), (4, qI (l : Int)), (3, .ref K), (0, .ref b), (1, .ref ta), (2, .ref d)]) 0 rfl (by first | rfl | omega) (by decide) rfl dL_drawn_145 ?_
              refine q_goto hF dL_drawn_148 ?_
              refine q_iload hF 0 rfl dL_drawn_114 ?_
              refine q_iconst hF dL_drawn_116 ?_
              refine q_icmpge hF (by decide) (by decide) dL_drawn_117 (fun c117 => ?_) (fun c117 => ?_)
              · exact absurd c117 (by decide)
              · refine q_aload_n hF 3 rfl rfl dL_drawn_120 ?_
                refine q_getA hF fl_RL_162 rfl ((q_upT_n _ _ (by omega)).trans hD.ot.t0) hD.ot.p1 dL_drawn_121 ?_
                refine q_iload hF 2 rfl dL_drawn_124 ?_
                refine q_aaloadv hF (b := K + 2 + l) l ((q_upT_n _ _ (by omega)).trans hD.ot.t1) (by decide) rfl (by omega) (by decide) (hD.ot.pl l (by omega)) dL_drawn_126 ?_
                refine q_iload hF 0 rfl dL_drawn_127 ?_
                refine q_aload hF 1 rfl dL_drawn_129 ?_
                refine q_iload hF 0 rfl dL_drawn_131 ?_
                refine q_ialoadv hF (z := 1 + (v_5 : Int)) (n := 4) 3 (q_upT_s _ _ _) rfl (by decide) (by decide) ((c142_1_10 _ _ (by omega) (by omega)).trans ((u2_k _ _ (by decide)).trans ((c142_1_9 _ _ (by omega) (by omega)).trans ((u2_k _ _ (by decide)).trans ((c142_1_8 _ _ (by omega) (by omega)).trans ((u2_k _ _ (by decide)).trans ((c108_1_7 _ _ (by omega) (by omega)).trans ((c97_1_6 _ _ (by omega) (by omega)).trans (u2_s _ _ _ _))))))))) dL_drawn_133 ?_
                refine q_iastorev hF (n := 4) 3 ((q_upT_n _ _ (by omega)).trans (hD.ot.tl l (by omega))) (q_Ale hA (by omega)) rfl (by decide) (by decide) dL_drawn_134 ?_
                refine q_aload_n hF 4 rfl rfl dL_drawn_135 ?_
                refine q_aload_n hF 5 rfl rfl dL_drawn_136 ?_
                refine q_aload hF 1 rfl dL_drawn_137 ?_
                refine q_iload hF 0 rfl dL_drawn_139 ?_
                refine q_ialoadv hF (z := 1 + (v_5 : Int)) (n := 4) 3 (q_upT_s _ _ _) rfl (by decide) (by decide) ((u2_a _ _ (by omega)).trans ((c142_1_10 _ _ (by omega) (by omega)).trans ((u2_k _ _ (by decide)).trans ((c142_1_9 _ _ (by omega) (by omega)).trans ((u2_k _ _ (by decide)).trans ((c142_1_8 _ _ (by omega) (by omega)).trans ((u2_k _ _ (by decide)).trans ((c108_1_7 _ _ (by omega) (by omega)).trans ((c97_1_6 _ _ (by omega) (by omega)).trans (u2_s _ _ _ _)))))))))) dL_drawn_141 ?_
                refine q_callS (kc := (kc + (l9 - (l + 1)))) (ks := (ks + 4 * (l9 - (l + 1)))) (mc' := 0) (ms' := 0) (h' := 5) (st := []) hF sl_RL_165 rfl [.ref b, .ref ta, qI (1 + (v_5 : Int))] rfl rfl (by omega) (Nat.le_of_ble_eq_true rfl) dL_drawn_142 ?_
                refine mL_number (v := 1 + v_5) hA (q_Ale hA (by omega)) (c142_0_10.mv (fun q a c => rfl) (fun q k a c => ((u2_a _ _ (by omega)).trans rfl)) (fun _ _ _ _ => rfl) (fun q k a c => rfl)) (by omega) (by have := (g_dge_lt v_1).2.2.2.2; have := (g_dge_lt w).2.2.2.2; have := (g_dge_lt v_4).2.2.2.2; have := (g_dge_lt (1 + v_5)).2.2.2.2; have := e_len6 l (by omega); (try simp only [List.length_append, g_sts_len, g_dg9_len, g_nb9_len, List.length_nil]); omega) (fun I9_11 c142_0_11 c142_1_11 => ?_)
                refine q_iinc hF (z' := 4) (ls' := [(6, qI 4), (5, .ref sz9), (4, qI (l : Int)), (3, .ref K), (0, .ref b), (1, .ref ta), (2, .ref d)]) 0 rfl (by first | rfl | omega) (by decide) rfl dL_drawn_145 ?_
                refine q_goto hF dL_drawn_148 ?_
                refine q_iload hF 0 rfl dL_drawn_114 ?_
                refine q_iconst hF dL_drawn_116 ?_
                refine q_icmpge hF (by decide) (by decide) dL_drawn_117 (fun c117 => ?_) (fun c117 => ?_)
                · refine q_aload_n hF 4 rfl rfl dL_drawn_151 ?_
                  refine q_aload_n hF 5 rfl rfl dL_drawn_152 ?_
                  refine q_ldcK hF (i := 52) (by decide) rfl rfl dL_drawn_153 ?_
                  refine q_callS (kc := (kc + (l9 - (l + 1)))) (ks := (ks + 4 * (l9 - (l + 1)))) (mc' := 0) (ms' := 0) (h' := 4) (st := []) hF sl_RL_134 rfl [.ref b, .ref ta, .ref (q_KS G 52)] rfl rfl (by omega) (Nat.le_of_ble_eq_true rfl) dL_drawn_155 ?_
                  refine mL_tell hA (q_Ale hA (by omega)) c142_0_11 (by omega) (by have := (g_dge_lt v_1).2.2.2.2; have := (g_dge_lt w).2.2.2.2; have := (g_dge_lt v_4).2.2.2.2; have := (g_dge_lt (1 + v_5)).2.2.2.2; have := e_len6 l (by omega); (try simp only [List.length_append, g_sts_len, g_dg9_len, g_nb9_len, List.length_nil]); omega) (fun I9_12 c155_0_12 c155_1_12 => ?_)
                  refine q_iinc hF (z' := ((1 + l : Nat) : Int)) (ls' := [(4, qI ((1 + l : Nat) : Int)), (6, qI 4), (5, .ref sz9), (3, .ref K), (0, .ref b), (1, .ref ta), (2, .ref d)]) 2 rfl (by first | rfl | omega) (by decide) rfl dL_drawn_158 ?_
                  refine q_goto hF dL_drawn_161 ?_
                  refine q_sub [0, 3, 4, 5, 6] rfl ?_
                  have hlt : l < l9 := by omega
                  have hlen := e_lnd_len (l := l) (v1 := v_1) (v2 := w) (v3 := v_4) (v4 := (1 + v_5)) (by omega) (by omega) (by omega) (by omega) (by omega)
                  have hmod := c87
                  rw [Int.tmod_eq_emod_of_nonneg (by omega)] at hmod
                  have hv9 : ∀ i, i < 4 → (I9_12) (K + 2 + l) i = ((if i = 0 then v_1 else if i = 1 then w else if i = 2 then v_4 else (1 + v_5) : Nat) : Int) := fun i hi => by
                    rcases (show i = 0 ∨ i = 1 ∨ i = 2 ∨ i = 3 by omega) with rfl | rfl | rfl | rfl
                    · exact ((c155_1_12 _ _ (by omega) (by omega)).trans ((c142_1_11 _ _ (by omega) (by omega)).trans ((u2_k _ _ (by decide)).trans ((c142_1_10 _ _ (by omega) (by omega)).trans ((u2_k _ _ (by decide)).trans ((c142_1_9 _ _ (by omega) (by omega)).trans ((u2_k _ _ (by decide)).trans ((c142_1_8 _ _ (by omega) (by omega)).trans (u2_s _ _ _ _)))))))))
                    · exact ((c155_1_12 _ _ (by omega) (by omega)).trans ((c142_1_11 _ _ (by omega) (by omega)).trans ((u2_k _ _ (by decide)).trans ((c142_1_10 _ _ (by omega) (by omega)).trans ((u2_k _ _ (by decide)).trans ((c142_1_9 _ _ (by omega) (by omega)).trans (u2_s _ _ _ _)))))))
                    · exact ((c155_1_12 _ _ (by omega) (by omega)).trans ((c142_1_11 _ _ (by omega) (by omega)).trans ((u2_k _ _ (by decide)).trans ((c142_1_10 _ _ (by omega) (by omega)).trans (u2_s _ _ _ _)))))
                    · exact (((c155_1_12 _ _ (by omega) (by omega)).trans ((c142_1_11 _ _ (by omega) (by omega)).trans (u2_s _ _ _ _)))).trans (by show (1 : Int) + (v_5 : Int) = ((1 + v_5 : Nat) : Int); omega)
                  rw [show l9 - l = (l9 - (l + 1)) + 1 by omega] at hk
                  rw [Nat.add_comm 1 l]
                  exact ih (l + 1) _ _ _ _ (e_lt l v_1 w v_4 (1 + v_5) t) (bs ++ e_lnd l v_1 w v_4 (1 + v_5)) (f_5 p) (by omega) (by omega) ⟨c155_0_12.bs (by unfold e_lnd; rw [if_neg (by omega)]; simp only [List.append_assoc]), ((c155_1_12 _ _ (by omega) (by omega)).trans ((c142_1_11 _ _ (by omega) (by omega)).trans ((u2_k _ _ (by decide)).trans ((c142_1_10 _ _ (by omega) (by omega)).trans ((u2_k _ _ (by decide)).trans ((c142_1_9 _ _ (by omega) (by omega)).trans ((u2_k _ _ (by decide)).trans ((c142_1_8 _ _ (by omega) (by omega)).trans ((u2_a _ _ (by omega)).trans ((c108_1_7 _ _ (by omega) (by omega)).trans ((c97_1_6 _ _ (by omega) (by omega)).trans ((u2_k _ _ (by decide)).trans (u2_s _ _ _ _))))))))))))), hD.land (l := l) hm0 (by omega) (fun q a c => ((q_upT_n _ _ (by omega)).trans rfl)) (fun q j a c e => ((c155_1_12 _ _ (by omega) (by omega)).trans ((c142_1_11 _ _ (by omega) (by omega)).trans ((u2_a _ _ (by omega)).trans ((c142_1_10 _ _ (by omega) (by omega)).trans ((u2_a _ _ (by omega)).trans ((c142_1_9 _ _ (by omega) (by omega)).trans ((u2_a _ _ (by omega)).trans ((c142_1_8 _ _ (by omega) (by omega)).trans ((u2_a _ _ (by omega)).trans ((c108_1_7 _ _ (by omega) (by omega)).trans ((c97_1_6 _ _ (by omega) (by omega)).trans ((u2_a _ _ (by omega)).trans ((u2_a _ _ (by omega)).trans ((u2_a _ _ (by omega)).trans ((u2_a _ _ (by omega)).trans ((u2_a _ _ (by omega)).trans ((u2_a _ _ (by omega)).trans ((u2_a _ _ (by omega)).trans ((u2_a _ _ (by omega)).trans ((u2_a _ _ (by omega)).trans rfl))))))))))))))))))))) (fun i hi => hv9 i hi), hPT.ln (e_land (by omega) hm0 hnm (by omega) (by omega) (by omega) (by omega)) hlen.1, (g_up_s _ _ _).trans (by omega), e_lt_nms (by omega) hnm, (fun q hq => ⟨((q_upT_n _ _ (by omega)).trans (hfr q hq).1), fun j => ⟨((c155_1_12 _ _ (by omega) (by omega)).trans ((c142_1_11 _ _ (by omega) (by omega)).trans ((u2_a _ _ (by omega)).trans ((c142_1_10 _ _ (by omega) (by omega)).trans ((u2_a _ _ (by omega)).trans ((c142_1_9 _ _ (by omega) (by omega)).trans ((u2_a _ _ (by omega)).trans ((c142_1_8 _ _ (by omega) (by omega)).trans ((u2_a _ _ (by omega)).trans ((c108_1_7 _ _ (by omega) (by omega)).trans ((c97_1_6 _ _ (by omega) (by omega)).trans ((u2_a _ _ (by omega)).trans ((u2_a _ _ (by omega)).trans ((u2_a _ _ (by omega)).trans ((u2_a _ _ (by omega)).trans ((u2_a _ _ (by omega)).trans ((u2_a _ _ (by omega)).trans ((u2_a _ _ (by omega)).trans ((u2_a _ _ (by omega)).trans ((u2_a _ _ (by omega)).trans ((hfr q hq).2 j).1)))))))))))))))))))), ((hfr q hq).2 j).2⟩⟩), (q_upT_n _ _ (by omega)).trans hTd⟩ (by rw [List.length_append]; omega) (fun x a c => (e_lt_n (by omega) (by omega) (by omega)).trans (hz x a c)) hk
                · exact absurd c117 (by decide)
      · refine q_ldcK hF (i := 50) (by decide) rfl rfl dL_drawn_90 ?_
        refine q_goto hF dL_drawn_92 ?_
        refine q_callS (kc := (kc + (l9 - (l + 1)))) (ks := (ks + 4 * (l9 - (l + 1)))) (mc' := 0) (ms' := 0) (h' := 4) (st := []) hF sl_RL_134 rfl [.ref b, .ref ta, .ref (q_KS G 50)] rfl rfl (by omega) (Nat.le_of_ble_eq_true rfl) dL_drawn_97 ?_
        refine mL_tell hA (q_Ale hA (by omega)) (hB.mv (fun q a c => ((q_upT_n _ _ (by omega)).trans rfl)) (fun q k a c => ((u2_a _ _ (by omega)).trans ((u2_a _ _ (by omega)).trans ((u2_a _ _ (by omega)).trans ((u2_a _ _ (by omega)).trans ((u2_a _ _ (by omega)).trans ((u2_a _ _ (by omega)).trans ((u2_a _ _ (by omega)).trans ((u2_a _ _ (by omega)).trans ((u2_a _ _ (by omega)).trans rfl)))))))))) (fun _ _ _ _ => rfl) (fun q k a c => rfl)) (by omega) (by (try simp only [List.length_append, g_sts_len, g_dg9_len, g_nb9_len, List.length_nil]); omega) (fun I9_13 c97_0_13 c97_1_13 => ?_)
        refine q_aload_n hF 3 rfl rfl dL_drawn_100 ?_
        refine q_aload_n hF 4 rfl rfl dL_drawn_101 ?_
        refine q_getsSa (a := 81) hF (by decide) (q_mem 1130 (by decide +kernel) rfl) dL_drawn_102 ?_
        refine q_iload hF 1 rfl dL_drawn_105 ?_
        refine q_aldSa hF (a := 81) (by decide) l rfl (by show l < 5; omega) (by omega) dL_drawn_107 ?_
        show qX G F Q (kc + (l9 - (l + 1))) (ks + 4 * (l9 - (l + 1))) 108 [(5, .ref sz9), (4, qI (l : Int)), (3, .ref K), (0, .ref b), (1, .ref ta), (2, .ref d)] [.ref (q_KS G (68 + l)), .ref ta, .ref b] (sz9 + 1) (q_upT T9 sz9 (.inr (0, 4))) I9_13 L P9
        refine q_callS (kc := (kc + (l9 - (l + 1)))) (ks := (ks + 4 * (l9 - (l + 1)))) (mc' := 0) (ms' := 0) (h' := 4) (st := []) hF sl_RL_134 rfl [.ref b, .ref ta, .ref (q_KS G (68 + l))] rfl rfl (by omega) (Nat.le_of_ble_eq_true rfl) dL_drawn_108 ?_
        refine mL_tell hA (q_Ale hA (by omega)) c97_0_13 (by omega) (by have := e_len6 l (by omega); (try simp only [List.length_append, g_sts_len, g_dg9_len, g_nb9_len, List.length_nil]); omega) (fun I9_14 c108_0_14 c108_1_14 => ?_)
        refine q_iconst hF dL_drawn_111 ?_
        refine q_istore hF (ls' := [(6, qI 0), (5, .ref sz9), (4, qI (l : Int)), (3, .ref K), (0, .ref b), (1, .ref ta), (2, .ref d)]) (by decide) rfl dL_drawn_112 ?_
        refine q_iload hF 0 rfl dL_drawn_114 ?_
        refine q_iconst hF dL_drawn_116 ?_
        refine q_icmpge hF (by decide) (by decide) dL_drawn_117 (fun c117 => ?_) (fun c117 => ?_)
        · exact absurd c117 (by decide)
        · refine q_aload_n hF 3 rfl rfl dL_drawn_120 ?_
          refine q_getA hF fl_RL_162 rfl ((q_upT_n _ _ (by omega)).trans hD.ot.t0) hD.ot.p1 dL_drawn_121 ?_
          refine q_iload hF 2 rfl dL_drawn_124 ?_
          refine q_aaloadv hF (b := K + 2 + l) l ((q_upT_n _ _ (by omega)).trans hD.ot.t1) (by decide) rfl (by omega) (by decide) (hD.ot.pl l (by omega)) dL_drawn_126 ?_
          refine q_iload hF 0 rfl dL_drawn_127 ?_
          refine q_aload hF 1 rfl dL_drawn_129 ?_
          refine q_iload hF 0 rfl dL_drawn_131 ?_
          refine q_ialoadv hF (z := (v_1 : Int)) (n := 4) 0 (q_upT_s _ _ _) rfl (by decide) (by decide) ((c108_1_14 _ _ (by omega) (by omega)).trans ((c97_1_13 _ _ (by omega) (by omega)).trans ((u2_k _ _ (by decide)).trans ((u2_a _ _ (by omega)).trans ((u2_k _ _ (by decide)).trans ((u2_a _ _ (by omega)).trans ((u2_k _ _ (by decide)).trans ((u2_a _ _ (by omega)).trans ((u2_a _ _ (by omega)).trans (u2_s _ _ _ _)))))))))) dL_drawn_133 ?_
          refine q_iastorev hF (n := 4) 0 ((q_upT_n _ _ (by omega)).trans (hD.ot.tl l (by omega))) (q_Ale hA (by omega)) rfl (by decide) (by decide) dL_drawn_134 ?_
          refine q_aload_n hF 4 rfl rfl dL_drawn_135 ?_
          refine q_aload_n hF 5 rfl rfl dL_drawn_136 ?_
          refine q_aload hF 1 rfl dL_drawn_137 ?_
          refine q_iload hF 0 rfl dL_drawn_139 ?_
          refine q_ialoadv hF (z := (v_1 : Int)) (n := 4) 0 (q_upT_s _ _ _) rfl (by decide) (by decide) ((u2_a _ _ (by omega)).trans ((c108_1_14 _ _ (by omega) (by omega)).trans ((c97_1_13 _ _ (by omega) (by omega)).trans ((u2_k _ _ (by decide)).trans ((u2_a _ _ (by omega)).trans ((u2_k _ _ (by decide)).trans ((u2_a _ _ (by omega)).trans ((u2_k _ _ (by decide)).trans ((u2_a _ _ (by omega)).trans ((u2_a _ _ (by omega)).trans (u2_s _ _ _ _))))))))))) dL_drawn_141 ?_
          refine q_callS (kc := (kc + (l9 - (l + 1)))) (ks := (ks + 4 * (l9 - (l + 1)))) (mc' := 0) (ms' := 0) (h' := 5) (st := []) hF sl_RL_165 rfl [.ref b, .ref ta, qI (v_1 : Int)] rfl rfl (by omega) (Nat.le_of_ble_eq_true rfl) dL_drawn_142 ?_
          refine mL_number (v := v_1) hA (q_Ale hA (by omega)) (c108_0_14.mv (fun q a c => rfl) (fun q k a c => ((u2_a _ _ (by omega)).trans rfl)) (fun _ _ _ _ => rfl) (fun q k a c => rfl)) (by omega) (by have := (g_dge_lt v_1).2.2.2.2; have := e_len6 l (by omega); (try simp only [List.length_append, g_sts_len, g_dg9_len, g_nb9_len, List.length_nil]); omega) (fun I9_15 c142_0_15 c142_1_15 => ?_)
          refine q_iinc hF (z' := 1) (ls' := [(6, qI 1), (5, .ref sz9), (4, qI (l : Int)), (3, .ref K), (0, .ref b), (1, .ref ta), (2, .ref d)]) 0 rfl (by first | rfl | omega) (by decide) rfl dL_drawn_145 ?_
          refine q_goto hF dL_drawn_148 ?_
          refine q_iload hF 0 rfl dL_drawn_114 ?_
          refine q_iconst hF dL_drawn_116 ?_
          refine q_icmpge hF (by decide) (by decide) dL_drawn_117 (fun c117 => ?_) (fun c117 => ?_)
          · exact absurd c117 (by decide)
          · refine q_aload_n hF 3 rfl rfl dL_drawn_120 ?_
            refine q_getA hF fl_RL_162 rfl ((q_upT_n _ _ (by omega)).trans hD.ot.t0) hD.ot.p1 dL_drawn_121 ?_
            refine q_iload hF 2 rfl dL_drawn_124 ?_
            refine q_aaloadv hF (b := K + 2 + l) l ((q_upT_n _ _ (by omega)).trans hD.ot.t1) (by decide) rfl (by omega) (by decide) (hD.ot.pl l (by omega)) dL_drawn_126 ?_
            refine q_iload hF 0 rfl dL_drawn_127 ?_
            refine q_aload hF 1 rfl dL_drawn_129 ?_
            refine q_iload hF 0 rfl dL_drawn_131 ?_
            refine q_ialoadv hF (z := (w : Int)) (n := 4) 1 (q_upT_s _ _ _) rfl (by decide) (by decide) ((c142_1_15 _ _ (by omega) (by omega)).trans ((u2_k _ _ (by decide)).trans ((c108_1_14 _ _ (by omega) (by omega)).trans ((c97_1_13 _ _ (by omega) (by omega)).trans ((u2_k _ _ (by decide)).trans ((u2_k _ _ (by decide)).trans ((u2_k _ _ (by decide)).trans ((u2_k _ _ (by decide)).trans (u2_s _ _ _ _))))))))) dL_drawn_133 ?_
            refine q_iastorev hF (n := 4) 1 ((q_upT_n _ _ (by omega)).trans (hD.ot.tl l (by omega))) (q_Ale hA (by omega)) rfl (by decide) (by decide) dL_drawn_134 ?_
            refine q_aload_n hF 4 rfl rfl dL_drawn_135 ?_
            refine q_aload_n hF 5 rfl rfl dL_drawn_136 ?_
            refine q_aload hF 1 rfl dL_drawn_137 ?_
            refine q_iload hF 0 rfl dL_drawn_139 ?_
            refine q_ialoadv hF (z := (w : Int)) (n := 4) 1 (q_upT_s _ _ _) rfl (by decide) (by decide) ((u2_a _ _ (by omega)).trans ((c142_1_15 _ _ (by omega) (by omega)).trans ((u2_k _ _ (by decide)).trans ((c108_1_14 _ _ (by omega) (by omega)).trans ((c97_1_13 _ _ (by omega) (by omega)).trans ((u2_k _ _ (by decide)).trans ((u2_k _ _ (by decide)).trans ((u2_k _ _ (by decide)).trans ((u2_k _ _ (by decide)).trans (u2_s _ _ _ _)))))))))) dL_drawn_141 ?_
            refine q_callS (kc := (kc + (l9 - (l + 1)))) (ks := (ks + 4 * (l9 - (l + 1)))) (mc' := 0) (ms' := 0) (h' := 5) (st := []) hF sl_RL_165 rfl [.ref b, .ref ta, qI (w : Int)] rfl rfl (by omega) (Nat.le_of_ble_eq_true rfl) dL_drawn_142 ?_
            refine mL_number (v := w) hA (q_Ale hA (by omega)) (c142_0_15.mv (fun q a c => rfl) (fun q k a c => ((u2_a _ _ (by omega)).trans rfl)) (fun _ _ _ _ => rfl) (fun q k a c => rfl)) (by omega) (by have := (g_dge_lt v_1).2.2.2.2; have := (g_dge_lt w).2.2.2.2; have := e_len6 l (by omega); (try simp only [List.length_append, g_sts_len, g_dg9_len, g_nb9_len, List.length_nil]); omega) (fun I9_16 c142_0_16 c142_1_16 => ?_)
            refine q_iinc hF (z' := 2) (ls' := [(6, qI 2), (5, .ref sz9), (4, qI (l : Int)), (3, .ref K), (0, .ref b), (1, .ref ta), (2, .ref d)]) 0 rfl (by first | rfl | omega) (by decide) rfl dL_drawn_145 ?_
            refine q_goto hF dL_drawn_148 ?_
            refine q_iload hF 0 rfl dL_drawn_114 ?_
            refine q_iconst hF dL_drawn_116 ?_
            refine q_icmpge hF (by decide) (by decide) dL_drawn_117 (fun c117 => ?_) (fun c117 => ?_)
            · exact absurd c117 (by decide)
            · refine q_aload_n hF 3 rfl rfl dL_drawn_120 ?_
              refine q_getA hF fl_RL_162 rfl ((q_upT_n _ _ (by omega)).trans hD.ot.t0) hD.ot.p1 dL_drawn_121 ?_
              refine q_iload hF 2 rfl dL_drawn_124 ?_
              refine q_aaloadv hF (b := K + 2 + l) l ((q_upT_n _ _ (by omega)).trans hD.ot.t1) (by decide) rfl (by omega) (by decide) (hD.ot.pl l (by omega)) dL_drawn_126 ?_
              refine q_iload hF 0 rfl dL_drawn_127 ?_
              refine q_aload hF 1 rfl dL_drawn_129 ?_
              refine q_iload hF 0 rfl dL_drawn_131 ?_
              refine q_ialoadv hF (z := (v_4 : Int)) (n := 4) 2 (q_upT_s _ _ _) rfl (by decide) (by decide) ((c142_1_16 _ _ (by omega) (by omega)).trans ((u2_k _ _ (by decide)).trans ((c142_1_15 _ _ (by omega) (by omega)).trans ((u2_k _ _ (by decide)).trans ((c108_1_14 _ _ (by omega) (by omega)).trans ((c97_1_13 _ _ (by omega) (by omega)).trans ((u2_k _ _ (by decide)).trans ((u2_k _ _ (by decide)).trans (u2_s _ _ _ _))))))))) dL_drawn_133 ?_
              refine q_iastorev hF (n := 4) 2 ((q_upT_n _ _ (by omega)).trans (hD.ot.tl l (by omega))) (q_Ale hA (by omega)) rfl (by decide) (by decide) dL_drawn_134 ?_
              refine q_aload_n hF 4 rfl rfl dL_drawn_135 ?_
              refine q_aload_n hF 5 rfl rfl dL_drawn_136 ?_
              refine q_aload hF 1 rfl dL_drawn_137 ?_
              refine q_iload hF 0 rfl dL_drawn_139 ?_
              refine q_ialoadv hF (z := (v_4 : Int)) (n := 4) 2 (q_upT_s _ _ _) rfl (by decide) (by decide) ((u2_a _ _ (by omega)).trans ((c142_1_16 _ _ (by omega) (by omega)).trans ((u2_k _ _ (by decide)).trans ((c142_1_15 _ _ (by omega) (by omega)).trans ((u2_k _ _ (by decide)).trans ((c108_1_14 _ _ (by omega) (by omega)).trans ((c97_1_13 _ _ (by omega) (by omega)).trans ((u2_k _ _ (by decide)).trans ((u2_k _ _ (by decide)).trans (u2_s _ _ _ _)))))))))) dL_drawn_141 ?_
              refine q_callS (kc := (kc + (l9 - (l + 1)))) (ks := (ks + 4 * (l9 - (l + 1)))) (mc' := 0) (ms' := 0) (h' := 5) (st := []) hF sl_RL_165 rfl [.ref b, .ref ta, qI (v_4 : Int)] rfl rfl (by omega) (Nat.le_of_ble_eq_true rfl) dL_drawn_142 ?_
              refine mL_number (v := v_4) hA (q_Ale hA (by omega)) (c142_0_16.mv (fun q a c => rfl) (fun q k a c => ((u2_a _ _ (by omega)).trans rfl)) (fun _ _ _ _ => rfl) (fun q k a c => rfl)) (by omega) (by have := (g_dge_lt v_1).2.2.2.2; have := (g_dge_lt w).2.2.2.2; have := (g_dge_lt v_4).2.2.2.2; have := e_len6 l (by omega); (try simp only [List.length_append, g_sts_len, g_dg9_len, g_nb9_len, List.length_nil]); omega) (fun I9_17 c142_0_17 c142_1_17 => ?_)
              refine q_iinc hF (z' := 3) (ls' := [(6, qI 3), (5, .ref sz9), (4, qI (l : Int)), (3, .ref K), (0, .ref b), (1, .ref ta), (2, .ref d)]) 0 rfl (by first | rfl | omega) (by decide) rfl dL_drawn_145 ?_
              refine q_goto hF dL_drawn_148 ?_
              refine q_iload hF 0 rfl dL_drawn_114 ?_
              refine q_iconst hF dL_drawn_116 ?_
              refine q_icmpge hF (by decide) (by decide) dL_drawn_117 (fun c117 => ?_) (fun c117 => ?_)
              · exact absurd c117 (by decide)
              · refine q_aload_n hF 3 rfl rfl dL_drawn_120 ?_
                refine q_getA hF fl_RL_162 rfl ((q_upT_n _ _ (by omega)).trans hD.ot.t0) hD.ot.p1 dL_drawn_121 ?_
                refine q_iload hF 2 rfl dL_drawn_124 ?_
                refine q_aaloadv hF (b := K + 2 + l) l ((q_upT_n _ _ (by omega)).trans hD.ot.t1) (by decide) rfl (by omega) (by decide) (hD.ot.pl l (by omega)) dL_drawn_126 ?_
                refine q_iload hF 0 rfl dL_drawn_127 ?_
                refine q_aload hF 1 rfl dL_drawn_129 ?_
                refine q_iload hF 0 rfl dL_drawn_131 ?_
                refine q_ialoadv hF (z := 1 + (v_5 : Int)) (n := 4) 3 (q_upT_s _ _ _) rfl (by decide) (by decide) ((c142_1_17 _ _ (by omega) (by omega)).trans ((u2_k _ _ (by decide)).trans ((c142_1_16 _ _ (by omega) (by omega)).trans ((u2_k _ _ (by decide)).trans ((c142_1_15 _ _ (by omega) (by omega)).trans ((u2_k _ _ (by decide)).trans ((c108_1_14 _ _ (by omega) (by omega)).trans ((c97_1_13 _ _ (by omega) (by omega)).trans (u2_s _ _ _ _))))))))) dL_drawn_133 ?_
                refine q_iastorev hF (n := 4) 3 ((q_upT_n _ _ (by omega)).trans (hD.ot.tl l (by omega))) (q_Ale hA (by omega)) rfl (by decide) (by decide) dL_drawn_134 ?_
                refine q_aload_n hF 4 rfl rfl dL_drawn_135 ?_
                refine q_aload_n hF 5 rfl rfl dL_drawn_136 ?_
                refine q_aload hF 1 rfl dL_drawn_137 ?_
                refine q_iload hF 0 rfl dL_drawn_139 ?_
                refine q_ialoadv hF (z := 1 + (v_5 : Int)) (n := 4) 3 (q_upT_s _ _ _) rfl (by decide) (by decide) ((u2_a _ _ (by omega)).trans ((c142_1_17 _ _ (by omega) (by omega)).trans ((u2_k _ _ (by decide)).trans ((c142_1_16 _ _ (by omega) (by omega)).trans ((u2_k _ _ (by decide)).trans ((c142_1_15 _ _ (by omega) (by omega)).trans ((u2_k _ _ (by decide)).trans ((c108_1_14 _ _ (by omega) (by omega)).trans ((c97_1_13 _ _ (by omega) (by omega)).trans (u2_s _ _ _ _)))))))))) dL_drawn_141 ?_
                refine q_callS (kc := (kc + (l9 - (l + 1)))) (ks := (ks + 4 * (l9 - (l + 1)))) (mc' := 0) (ms' := 0) (h' := 5) (st := []) hF sl_RL_165 rfl [.ref b, .ref ta, qI (1 + (v_5 : Int))] rfl rfl (by omega) (Nat.le_of_ble_eq_true rfl) dL_drawn_142 ?_
                refine mL_number (v := 1 + v_5) hA (q_Ale hA (by omega)) (c142_0_17.mv (fun q a c => rfl) (fun q k a c => ((u2_a _ _ (by omega)).trans rfl)) (fun _ _ _ _ => rfl) (fun q k a c => rfl)) (by omega) (by have := (g_dge_lt v_1).2.2.2.2; have := (g_dge_lt w).2.2.2.2; have := (g_dge_lt v_4).2.2.2.2; have := (g_dge_lt (1 + v_5)).2.2.2.2; have := e_len6 l (by omega); (try simp only [List.length_append, g_sts_len, g_dg9_len, g_nb9_len, List.length_nil]); omega) (fun I9_18 c142_0_18 c142_1_18 => ?_)
                refine q_iinc hF (z' := 4) (ls' := [(6, qI 4), (5, .ref sz9), (4, qI (l : Int)), (3, .ref K), (0, .ref b), (1, .ref ta), (2, .ref d)]) 0 rfl (by first | rfl | omega) (by decide) rfl dL_drawn_145 ?_
                refine q_goto hF dL_drawn_148 ?_
                refine q_iload hF 0 rfl dL_drawn_114 ?_
                refine q_iconst hF dL_drawn_116 ?_
                refine q_icmpge hF (by decide) (by decide) dL_drawn_117 (fun c117 => ?_) (fun c117 => ?_)
                · refine q_aload_n hF 4 rfl rfl dL_drawn_151 ?_
                  refine q_aload_n hF 5 rfl rfl dL_drawn_152 ?_
                  refine q_ldcK hF (i := 52) (by decide) rfl rfl dL_drawn_153 ?_
                  refine q_callS (kc := (kc + (l9 - (l + 1)))) (ks := (ks + 4 * (l9 - (l + 1)))) (mc' := 0) (ms' := 0) (h' := 4) (st := []) hF sl_RL_134 rfl [.ref b, .ref ta, .ref (q_KS G 52)] rfl rfl (by omega) (Nat.le_of_ble_eq_true rfl) dL_drawn_155 ?_
                  refine mL_tell hA (q_Ale hA (by omega)) c142_0_18 (by omega) (by have := (g_dge_lt v_1).2.2.2.2; have := (g_dge_lt w).2.2.2.2; have := (g_dge_lt v_4).2.2.2.2; have := (g_dge_lt (1 + v_5)).2.2.2.2; have := e_len6 l (by omega); (try simp only [List.length_append, g_sts_len, g_dg9_len, g_nb9_len, List.length_nil]); omega) (fun I9_19 c155_0_19 c155_1_19 => ?_)
                  refine q_iinc hF (z' := ((1 + l : Nat) : Int)) (ls' := [(4, qI ((1 + l : Nat) : Int)), (6, qI 4), (5, .ref sz9), (3, .ref K), (0, .ref b), (1, .ref ta), (2, .ref d)]) 2 rfl (by first | rfl | omega) (by decide) rfl dL_drawn_158 ?_
                  refine q_goto hF dL_drawn_161 ?_
                  refine q_sub [0, 3, 4, 5, 6] rfl ?_
                  have hlt : l < l9 := by omega
                  have hlen := e_lnd_len (l := l) (v1 := v_1) (v2 := w) (v3 := v_4) (v4 := (1 + v_5)) (by omega) (by omega) (by omega) (by omega) (by omega)
                  have hmod := c87
                  rw [Int.tmod_eq_emod_of_nonneg (by omega)] at hmod
                  have hv9 : ∀ i, i < 4 → (I9_19) (K + 2 + l) i = ((if i = 0 then v_1 else if i = 1 then w else if i = 2 then v_4 else (1 + v_5) : Nat) : Int) := fun i hi => by
                    rcases (show i = 0 ∨ i = 1 ∨ i = 2 ∨ i = 3 by omega) with rfl | rfl | rfl | rfl
                    · exact ((c155_1_19 _ _ (by omega) (by omega)).trans ((c142_1_18 _ _ (by omega) (by omega)).trans ((u2_k _ _ (by decide)).trans ((c142_1_17 _ _ (by omega) (by omega)).trans ((u2_k _ _ (by decide)).trans ((c142_1_16 _ _ (by omega) (by omega)).trans ((u2_k _ _ (by decide)).trans ((c142_1_15 _ _ (by omega) (by omega)).trans (u2_s _ _ _ _)))))))))
                    · exact ((c155_1_19 _ _ (by omega) (by omega)).trans ((c142_1_18 _ _ (by omega) (by omega)).trans ((u2_k _ _ (by decide)).trans ((c142_1_17 _ _ (by omega) (by omega)).trans ((u2_k _ _ (by decide)).trans ((c142_1_16 _ _ (by omega) (by omega)).trans (u2_s _ _ _ _)))))))
                    · exact ((c155_1_19 _ _ (by omega) (by omega)).trans ((c142_1_18 _ _ (by omega) (by omega)).trans ((u2_k _ _ (by decide)).trans ((c142_1_17 _ _ (by omega) (by omega)).trans (u2_s _ _ _ _)))))
                    · exact (((c155_1_19 _ _ (by omega) (by omega)).trans ((c142_1_18 _ _ (by omega) (by omega)).trans (u2_s _ _ _ _)))).trans (by show (1 : Int) + (v_5 : Int) = ((1 + v_5 : Nat) : Int); omega)
                  rw [show l9 - l = (l9 - (l + 1)) + 1 by omega] at hk
                  rw [Nat.add_comm 1 l]
                  exact ih (l + 1) _ _ _ _ (e_lt l v_1 w v_4 (1 + v_5) t) (bs ++ e_lnd l v_1 w v_4 (1 + v_5)) (f_5 p) (by omega) (by omega) ⟨c155_0_19.bs (by unfold e_lnd; rw [if_pos (by omega)]; simp only [List.append_assoc]), ((c155_1_19 _ _ (by omega) (by omega)).trans ((c142_1_18 _ _ (by omega) (by omega)).trans ((u2_k _ _ (by decide)).trans ((c142_1_17 _ _ (by omega) (by omega)).trans ((u2_k _ _ (by decide)).trans ((c142_1_16 _ _ (by omega) (by omega)).trans ((u2_k _ _ (by decide)).trans ((c142_1_15 _ _ (by omega) (by omega)).trans ((u2_a _ _ (by omega)).trans ((c108_1_14 _ _ (by omega) (by omega)).trans ((c97_1_13 _ _ (by omega) (by omega)).trans ((u2_k _ _ (by decide)).trans (u2_s _ _ _ _))))))))))))), hD.land (l := l) hm0 (by omega) (fun q a c => ((q_upT_n _ _ (by omega)).trans rfl)) (fun q j a c e => ((c155_1_19 _ _ (by omega) (by omega)).trans ((c142_1_18 _ _ (by omega) (by omega)).trans ((u2_a _ _ (by omega)).trans ((c142_1_17 _ _ (by omega) (by omega)).trans ((u2_a _ _ (by omega)).trans ((c142_1_16 _ _ (by omega) (by omega)).trans ((u2_a _ _ (by omega)).trans ((c142_1_15 _ _ (by omega) (by omega)).trans ((u2_a _ _ (by omega)).trans ((c108_1_14 _ _ (by omega) (by omega)).trans ((c97_1_13 _ _ (by omega) (by omega)).trans ((u2_a _ _ (by omega)).trans ((u2_a _ _ (by omega)).trans ((u2_a _ _ (by omega)).trans ((u2_a _ _ (by omega)).trans ((u2_a _ _ (by omega)).trans ((u2_a _ _ (by omega)).trans ((u2_a _ _ (by omega)).trans ((u2_a _ _ (by omega)).trans ((u2_a _ _ (by omega)).trans rfl))))))))))))))))))))) (fun i hi => hv9 i hi), hPT.ln (e_land (by omega) hm0 hnm (by omega) (by omega) (by omega) (by omega)) hlen.1, (g_up_s _ _ _).trans (by omega), e_lt_nms (by omega) hnm, (fun q hq => ⟨((q_upT_n _ _ (by omega)).trans (hfr q hq).1), fun j => ⟨((c155_1_19 _ _ (by omega) (by omega)).trans ((c142_1_18 _ _ (by omega) (by omega)).trans ((u2_a _ _ (by omega)).trans ((c142_1_17 _ _ (by omega) (by omega)).trans ((u2_a _ _ (by omega)).trans ((c142_1_16 _ _ (by omega) (by omega)).trans ((u2_a _ _ (by omega)).trans ((c142_1_15 _ _ (by omega) (by omega)).trans ((u2_a _ _ (by omega)).trans ((c108_1_14 _ _ (by omega) (by omega)).trans ((c97_1_13 _ _ (by omega) (by omega)).trans ((u2_a _ _ (by omega)).trans ((u2_a _ _ (by omega)).trans ((u2_a _ _ (by omega)).trans ((u2_a _ _ (by omega)).trans ((u2_a _ _ (by omega)).trans ((u2_a _ _ (by omega)).trans ((u2_a _ _ (by omega)).trans ((u2_a _ _ (by omega)).trans ((u2_a _ _ (by omega)).trans ((hfr q hq).2 j).1)))))))))))))))))))), ((hfr q hq).2 j).2⟩⟩), (q_upT_n _ _ (by omega)).trans hTd⟩ (by rw [List.length_append]; omega) (fun x a c => (e_lt_n (by omega) (by omega) (by omega)).trans (hz x a c)) hk
                · exact absurd c117 (by decide)
