/-! the law's loop -/
theorem q_TB.nil {T : q_T} {b bk ta : Nat} {B : Nat → Int} {R : Nat → Nat → Int} {I L : q_I} {P : q_P} (h : q_CE T b bk 0 B R I L P) (hT : T ta = some (.inr (0, 8))) (hb : b + 452 ≤ ta) (hI : ∀ j, I ta j = 0) : q_TB T b bk R I L P ta [] := ⟨hT, hb, fun k => by show ([] : List Nat).getD k 0 < 128; rw [List.getD_nil]; decide, hI 0, fun j _ => (hI _).trans (g_wd4_0 (Nat.zero_le _)).symm, B, h, fun k hk => absurd hk (Nat.not_lt_zero k)⟩

set_option maxRecDepth 100000 in
theorem law_loop {G : q_G} {F : q_F} {h : Nat} {Q : q_Q} {kc ks sz : Nat} {T : q_T} {b00 b0 nS : Nat} {X : Nat → Int}  (hF : q_ok G F YL_law h) (h9 : 30 ≤ h) (hA : q_A G b00) (hS : q_sx G F b0 nS X) (hnS : nS ≤ 3000) (hQ : ∀ (sz : Nat) (T : q_T) (I L : q_I) (P : q_P), Q (.inl (some (qI 1))) sz T I L P) : ∀ (n : Nat) (i : Nat) (sz9 : Nat) (T8 : q_T) (I8 L8 : q_I) (P8 : q_P), 4 - i < n → i ≤ 4 → q_F0 sz9 I8 L8 P8 → b00 ≤ sz9 → qX G F Q (kc + 20000 * (4 - i)) (ks + 200000 * (4 - i)) 4 [(2, qI (i : Int)), (1, qI 1), (0, .ref b0)] [] sz9 T8 I8 L8 P8 := by
  intro n
  induction n with
  | zero => intro i sz9 T8 I8 L8 P8 hn; exact absurd hn (Nat.not_lt_zero _)
  | succ n ih =>
    intro i sz9 T8 I8 L8 P8 hn hi hZ hs9
    refine q_iload_n hF 0 rfl rfl dL_law_4 ?_
    refine q_aload_n hF 2 rfl rfl dL_law_5 ?_
    refine q_slen hF hS dL_law_6 ?_
    refine q_icmpge hF (by omega) (by omega) dL_law_7 (fun c7 => ?_) (fun c7 => ?_)
    · refine q_iload_n hF 1 rfl rfl dL_law_1233 ?_
      refine q_zreturn hF (by decide) rfl dL_law_1234 ?_
      exact hQ _ _ _ _ _
    · refine q_iload_n hF 0 rfl rfl dL_law_10 ?_
      refine q_iconst hF dL_law_11 ?_
      refine q_icmpge hF (by omega) (by decide) dL_law_12 (fun c12 => ?_) (fun c12 => ?_)
      · refine q_iload_n hF 1 rfl rfl dL_law_1233 ?_
        refine q_zreturn hF (by decide) rfl dL_law_1234 ?_
        exact hQ _ _ _ _ _
      · refine q_iload_n hF 1 rfl rfl dL_law_15 ?_
        refine q_ifeq hF (by decide) dL_law_16 (fun c16 => ?_) (fun c16 => ?_)
        · exact absurd c16 (by decide)
        · have hAb : q_A G sz9 := q_Ale hA hs9
          refine qX.room (kc := kc + 20000 * (4 - (i + 1)) + 20000) (ks := ks + 200000 * (4 - (i + 1)) + 200000) (by omega) (by omega) ?_
          refine q_newo hF (s' := sz9 + 1) (kc := kc + 20000 * (4 - (i + 1)) + 19999) (ks := ks + 200000 * (4 - (i + 1)) + 199990) (ci := 6) (N := 10) ⟨_, rfl, rfl, (q_mem 65 (by decide +kernel) rfl), (q_mem 66 (by decide +kernel) rfl), (q_mem 40 (by decide +kernel) rfl)⟩ (fun j => (hZ _ _ (by omega)).1) (fun j => (hZ _ _ (by omega)).2.1) (fun j => (hZ _ _ (by omega)).2.2) dL_law_19 rfl ?_
          refine q_dup hF rfl dL_law_22 ?_
          refine q_callC (kc := kc + 20000 * (4 - (i + 1)) + 19548) (ks := ks + 200000 * (4 - (i + 1)) + 186501) (mc' := 451) (ms' := 13489) (h' := 5) (st := [.ref sz9]) hF cl_RL_320 rfl [] rfl rfl (by omega) (Nat.le_of_ble_eq_true rfl) dL_law_23 ?_
          refine mX7_initz (q_upT_s _ _ _) hAb hZ (fun T9 I9 P9 c23_0 c23_1 c23_2 c23_3 c23_4 c23_5 c23_6 c23_7 c23_8 c23_9 c23_10 => ?_)
          have hST := c23_1
          have hF9 := c23_0.2.2
          have hE0 : q_CE T9 sz9 0 0 (fun _ => 0) (fun _ => g_new) I9 L8 P9 := q_CE.start c23_1 c23_2 c23_3 c23_4 c23_5 c23_6 c23_7 c23_8 c23_9 c23_10 (fun j => (hZ _ _ (by omega)).2.1)
          refine q_astore_n hF (ls' := [(3, .ref sz9), (2, qI (i : Int)), (1, qI 1), (0, .ref b0)]) rfl (by decide) rfl dL_law_26 ?_
          refine q_bipush hF (n := 8) rfl dL_law_27 ?_
          refine q_newaI hF (s' := sz9 + 453) (kc := kc + 20000 * (4 - (i + 1)) + 19547) (ks := ks + 200000 * (4 - (i + 1)) + 186493) (n := 8) (q_mem 124 (by decide +kernel) rfl) (fun j => (hF9 _ _ (by omega)).1) (fun j => (hZ _ _ (by omega)).2.1) dL_law_29 rfl ?_
          refine q_astore hF (ls' := [(4, .ref (sz9 + 452)), (3, .ref sz9), (2, qI (i : Int)), (1, qI 1), (0, .ref b0)]) (by decide) rfl dL_law_31 ?_
          refine q_newo hF (s' := sz9 + 454) (kc := kc + 20000 * (4 - (i + 1)) + 19546) (ks := ks + 200000 * (4 - (i + 1)) + 186492) (ci := 8) (N := 1) ⟨_, rfl, rfl, (q_mem 427 (by decide +kernel) rfl), (q_mem 428 (by decide +kernel) rfl), (q_mem 47 (by decide +kernel) rfl)⟩ (fun j => (hF9 _ _ (by omega)).1) (fun j => (hZ _ _ (by omega)).2.1) (fun j => (hF9 _ _ (by omega)).2.2) dL_law_33 rfl ?_
          refine q_dup hF rfl dL_law_36 ?_
          refine q_aload_n hF 4 rfl rfl dL_law_37 ?_
          refine q_iload_n hF 2 rfl rfl dL_law_38 ?_
          refine q_sld hF hS (i := i) rfl (by omega) (by omega) dL_law_39 ?_
          obtain ⟨x, hx32, hxq⟩ := q_seed (X i) (hS.r i)
          rw [hxq]
          refine q_callC (kc := kc + 20000 * (4 - (i + 1)) + 19546) (ks := ks + 200000 * (4 - (i + 1)) + 186492) (mc' := 0) (ms' := 0) (h' := 1) (st := [.ref (sz9 + 453)]) hF cl_RL_321 rfl [qI (x : Int)] rfl rfl (by omega) (Nat.le_of_ble_eq_true rfl) dL_law_40 ?_
          refine mX9_init (q_upT_s _ _ _) (q_Ale hAb (by omega)) ?_
          refine q_astore hF (ls' := [(5, .ref (sz9 + 453)), (4, .ref (sz9 + 452)), (3, .ref sz9), (2, qI (i : Int)), (1, qI 1), (0, .ref b0)]) (by decide) rfl dL_law_43 ?_
          have hT1 : ∀ q, q < sz9 + 452 → (q_upT (q_upT T9 (sz9 + 452) (.inr (0, 8))) (sz9 + 453) (.inl 8)) q = T9 q := fun q hq => (q_upT_n _ _ (by omega)).trans (q_upT_n _ _ (by omega))
          have hI1 : ∀ q j, q ≠ sz9 + 453 → (u2 I9 (sz9 + 453) 0 (x : Int)) q j = I9 q j := fun q j hq => u2_a _ _ hq
          have hx1 : (u2 I9 (sz9 + 453) 0 (x : Int)) (sz9 + 453) 0 = (x : Int) := u2_s _ _ _ _
          have hTa1 : (q_upT (q_upT T9 (sz9 + 452) (.inr (0, 8))) (sz9 + 453) (.inl 8)) (sz9 + 452) = some (.inr (0, 8)) := ((q_upT_n _ _ (by omega)).trans (q_upT_s _ _ _))
          have hTd1 : (q_upT (q_upT T9 (sz9 + 452) (.inr (0, 8))) (sz9 + 453) (.inl 8)) (sz9 + 453) = some (.inl 8) := q_upT_s _ _ _
          have hE1 : q_CE (q_upT (q_upT T9 (sz9 + 452) (.inr (0, 8))) (sz9 + 453) (.inl 8)) sz9 0 0 (fun _ => 0) (fun _ => g_new) (u2 I9 (sz9 + 453) 0 (x : Int)) L8 P9 := hE0.mv (fun q a e => hT1 q (by omega)) (fun q j a e => hI1 q j (by omega)) (fun _ _ _ _ => rfl) (fun _ _ _ _ => rfl)
          have hTb1 : (q_upT (q_upT T9 (sz9 + 452) (.inr (0, 8))) (sz9 + 453) (.inl 8)) sz9 = some (.inl 6) := (hT1 _ (by omega)).trans hST.t0
          generalize hTg : q_upT (q_upT T9 (sz9 + 452) (.inr (0, 8))) (sz9 + 453) (.inl 8) = T1 at *
          generalize hIg : u2 I9 (sz9 + 453) 0 (x : Int) = I1 at *
          refine q_aload_n hF 2 rfl rfl dL_law_45 ?_
          refine q_iconst hF dL_law_46 ?_
          refine q_callSH (kc := kc + 20000 * (4 - (i + 1)) + 19545) (ks := ks + 200000 * (4 - (i + 1)) + 186486) (mc' := 1) (ms' := 6) (h' := 4) (st := []) hF sl_RL_241 rfl [.ref sz9, qI 0] rfl rfl (by omega) (Nat.le_of_ble_eq_true rfl) dL_law_47 ?_
          refine a_told (v := 0) hAb hE1 (by decide) rfl ?_
          refine q_ifne hF (by decide) dL_law_50 (fun c50 => ?_) (fun c50 => ?_)
          · exact absurd c50 (by decide)
          · refine q_aload_n hF 2 rfl rfl dL_law_53 ?_
            refine q_iconst hF dL_law_54 ?_
            refine q_callSH (kc := kc + 20000 * (4 - (i + 1)) + 19544) (ks := ks + 200000 * (4 - (i + 1)) + 186480) (mc' := 1) (ms' := 6) (h' := 4) (st := []) hF sl_RL_241 rfl [.ref sz9, qI 5] rfl rfl (by omega) (Nat.le_of_ble_eq_true rfl) dL_law_55 ?_
            refine a_told (v := -1) hAb hE1 (by decide) rfl ?_
            refine q_iconst hF dL_law_58 ?_
            refine q_icmpne_s hF (a := -1) dL_law_59 ?_
            refine q_aload_n hF 2 rfl rfl dL_law_62 ?_
            refine q_iconst hF dL_law_63 ?_
            refine q_iconst hF dL_law_64 ?_
            refine q_iconst hF dL_law_65 ?_
            refine q_iconst hF dL_law_66 ?_
            refine q_callSH (kc := kc + 20000 * (4 - (i + 1)) + 19543) (ks := ks + 200000 * (4 - (i + 1)) + 186474) (mc' := 1) (ms' := 6) (h' := 5) (st := []) hF sl_RL_238 rfl [.ref sz9, qI 0, qI 0, qI (-1), qI 5] rfl rfl (by omega) (Nat.le_of_ble_eq_true rfl) dL_law_67 ?_
            refine a_open0 hAb hE1 (by decide) (by decide) (by decide) (by decide) (fun z => by rcases z.1 with y | y; omega; exact absurd y.2 (show ¬ (0 : Int) < g_new 0 by decide)) (fun s2 I2 c67_0 c67_1 c67_2 => ?_)
            refine q_ldc hF (n := -2000000096) (q_mem 789 (by decide +kernel) rfl) dL_law_70 ?_
            refine q_icmpne_s hF (a := -2000000096) dL_law_72 ?_
            refine q_aload_n hF 2 rfl rfl dL_law_75 ?_
            refine q_callV (kc := kc + 20000 * (4 - (i + 1)) + 19543) (ks := ks + 200000 * (4 - (i + 1)) + 186474) (mc' := 0) (ms' := 0) (h' := 0) (st := []) hF vl_RL_324 rfl [] rfl rfl hTb1 (by omega) (Nat.le_of_ble_eq_true rfl) dL_law_76 ?_
            refine a_undo0 hAb c67_1 rfl ?_
            refine q_iconst hF dL_law_79 ?_
            refine q_icmpne_s hF (a := -1) dL_law_80 ?_
            refine q_aload_n hF 2 rfl rfl dL_law_83 ?_
            refine q_iconst hF dL_law_84 ?_
            refine q_callSH (kc := kc + 20000 * (4 - (i + 1)) + 19542) (ks := ks + 200000 * (4 - (i + 1)) + 186468) (mc' := 1) (ms' := 6) (h' := 7) (st := []) hF sl_RL_311 rfl [.ref sz9, qI 4] rfl rfl (by omega) (Nat.le_of_ble_eq_true rfl) dL_law_85 ?_
            refine a_books (v := 0) hAb c67_1 (by decide) rfl ?_
            refine q_lconst hF (z := 0) rfl dL_law_88 ?_
            refine q_cmpne_s hF (a := 0) dL_law_89 dL_law_90 ?_
            refine q_aload_n hF 2 rfl rfl dL_law_93 ?_
            refine q_iconst hF dL_law_94 ?_
            refine q_iconst hF dL_law_95 ?_
            refine q_iconst hF dL_law_96 ?_
            refine q_callSH (kc := kc + 20000 * (4 - (i + 1)) + 19541) (ks := ks + 200000 * (4 - (i + 1)) + 186462) (mc' := 1) (ms' := 6) (h' := 8) (st := []) hF sl_RL_327 rfl [.ref sz9, qI 1, qI 1, qI 0] rfl rfl (by omega) (Nat.le_of_ble_eq_true rfl) dL_law_97 ?_
            refine a_rescue hAb c67_1 rfl (fun I3 L3 c97_0 c97_1 => ?_)
            refine q_lconst hF (z := 0) rfl dL_law_100 ?_
            refine q_cmpne_s hF (a := 0) dL_law_101 dL_law_102 ?_
            refine q_iconst hF dL_law_105 ?_
            refine q_goto hF dL_law_106 ?_
            refine q_istore_n hF (ls' := [(1, qI 1), (5, .ref (sz9 + 453)), (4, .ref (sz9 + 452)), (3, .ref sz9), (2, qI (i : Int)), (0, .ref b0)]) rfl (by decide) rfl dL_law_110 ?_
            have ho3 := c67_2.tr c97_1
            have hx3 : I3 (sz9 + 453) 0 = (x : Int) := (ho3.1 _ _ (by omega)).trans hx1
            have hta0 : ∀ j, I3 (sz9 + 452) j = 0 := fun j => (ho3.1 _ _ (by omega)).trans ((hI1 _ _ (by omega)).trans (hF9 _ _ (by omega)).1)
            have hZ3 : q_F0 s2 I3 L3 P9 := fun q j hq => ⟨(ho3.1 _ _ (by omega)).trans ((hI1 _ _ (by omega)).trans (hF9 _ _ (by omega)).1), (ho3.2.1 _ _ (by omega)).trans (hF9 _ _ (by omega)).2.1, (hF9 _ _ (by omega)).2.2⟩
            refine q_aload_n hF 3 rfl rfl dL_law_111 ?_
            refine q_aload hF 2 rfl dL_law_112 ?_
            refine q_aload hF 1 rfl dL_law_114 ?_
            refine q_callS (kc := kc + 20000 * (4 - (i + 1)) + 19501) (ks := ks + 200000 * (4 - (i + 1)) + 186062) (mc' := 40) (ms' := 400) (h' := 22) (st := []) hF sl_RL_330 rfl [.ref sz9, .ref (sz9 + 452), .ref (sz9 + 453)] rfl rfl (by omega) (Nat.le_of_ble_eq_true rfl) dL_law_116 ?_
            refine mL_drawn (x := x) hAb (q_TB.nil c97_0 hTa1 (by omega) hta0) hx3 (by omega) (by omega) (by omega) hTd1 hZ3 (fun T4 B4 M4 N4 P4 s4 r4 c116_0 c116_1 c116_2 c116_3 c116_4 c116_5 c116_6 c116_7 c116_8 => ?_)
            refine q_astore hF (ls' := [(6, .ref s2), (1, qI 1), (5, .ref (sz9 + 453)), (4, .ref (sz9 + 452)), (3, .ref sz9), (2, qI (i : Int)), (0, .ref b0)]) (by decide) rfl dL_law_119 ?_
            refine q_aload hF 0 rfl dL_law_121 ?_
            refine q_ifnonnull hF (r := some s2) dL_law_123 (fun c123 => ?_) (fun c123 => ?_)
            · refine q_iconst hF dL_law_128 ?_
              refine q_istore hF (ls' := [(7, qI 0), (6, .ref s2), (1, qI 1), (5, .ref (sz9 + 453)), (4, .ref (sz9 + 452)), (3, .ref sz9), (2, qI (i : Int)), (0, .ref b0)]) (by decide) rfl dL_law_129 ?_
              refine q_sub [0, 1, 3, 4, 5, 6, 2, 7] rfl ?_
              obtain ⟨l9, hl3, hl0, hnm4⟩ := c116_8
              obtain ⟨hv4, hf4, hz4⟩ := c116_1
              have hJ4 : q_J0 sz9 (sz9 + 453) s2 l9 T4 M4 N4 P4 s4 (g_Rn (fun _ => g_new) 0 r4) s2 0 (f_all x).2 := ⟨B4, _, _, _, _, _, _, c116_2, c116_4, fun q hq => hq, c116_3, c116_7, c116_5, hl0, hnm4, fun j hj => absurd hj (by have e : g_Rn (fun _ => g_new) 0 r4 0 1 = 0 := hf4.1; rw [e]; omega), hf4.2.1, by omega⟩
              refine qX.room (kc := (kc + 20000 * (4 - (i + 1)) + 14800) + 3 * (3 - 0)) (ks := (ks + 200000 * (4 - (i + 1)) + 113000) + 60 * (3 - 0)) (by omega) (by omega) ?_
              refine lL_open3 (sz := 0) (T := T4) (a0 := s2) (xF := (f_fin x).2) hF (by omega) hAb hl3 ⟨by omega, by omega⟩ ?_ _ 0 s4 T4 M4 N4 P4 _ _ (Nat.lt_succ_self _) (Nat.zero_le _) hJ4 rfl
              intro sz6 T6 I6 L6 P6 R6 hJ6
              refine lL_rest (kc := kc + 20000 * (4 - (i + 1))) (ks := ks + 200000 * (4 - (i + 1))) hF (by omega) hAb hl3 ⟨by omega, by omega⟩ (f_fin_safe hx32) hJ6 ?_
              intro s7 T7 I7 L7 P7 hZ7 hs7
              refine q_iinc hF (z' := ((1 + i : Nat) : Int)) (ls' := [(2, qI ((1 + i : Nat) : Int)), (1, qI 1), (0, .ref b0)]) 0 rfl (by first | rfl | omega) (by decide) rfl dL_law_1227 ?_
              refine q_goto hF dL_law_1230 ?_
              rw [Nat.add_comm 1 i]
              exact ih (i + 1) s7 T7 I7 L7 P7 (by omega) (by omega) hZ7 (by omega)
            · cases c123
