/-! a bank drawn and told: kinds -/

set_option maxRecDepth 100000 in
theorem lL_kl {G : q_G} {F : q_F} {h : Nat} {Q : q_Q} {kc ks sz : Nat} {T : q_T} {b bk ta d K l9 c hp B0 lwF : Nat} {R : Nat → Nat → Int} {T0 : q_T} {I0 : q_I} {P0 : q_P} {pF : Nat × Nat} {L : q_I} (hF : q_ok G F YL_drawn h) (h6 : 6 ≤ h) (hA : q_A G b) (hL1 : b + 452 ≤ ta) (hL2 : ta < d) (hL3 : d < K) (hl9 : 1 ≤ l9 ∧ l9 ≤ 3) (hc5 : c < 5) (hB0 : B0 ≤ 180) (k0 : ∀ (sz9 : Nat) (T9 : q_T) (I9 : q_I) (P9 : q_P) (cd : Nat) (t : Nat → Int) (bs : List Nat), bs.length ≤ B0 + 75 * lwF → lwF ≤ 4 → (∀ i j : Nat, i < 5 → j < 5 → (c < i) → t (90 + 2 * (5 * i + j)) = 0) → q_DW b bk R ta d L K l9 T0 I0 P0 T9 I9 P9 sz9 cd l9 0 hp t bs pF → qX G F Q kc ks 415 [(5, qI (c : Int)), (4, qI (lwF : Int)), (3, .ref K), (0, .ref b), (1, .ref ta), (2, .ref d)] [] sz9 T9 I9 L P9) : ∀ (n : Nat) (l : Nat) (lw : Nat) (sz9 : Nat) (T9 : q_T) (I9 : q_I) (P9 : q_P) (cd : Nat) (t : Nat → Int) (bs : List Nat) (p : Nat × Nat), l9 - l < n → l ≤ l9 → q_DW b bk R ta d L K l9 T0 I0 P0 T9 I9 P9 sz9 cd l9 0 hp t bs p → lw ≤ 4 → bs.length ≤ B0 + 75 * lw → (∀ i j : Nat, i < 5 → j < 5 → (c < i ∨ (i = c ∧ l ≤ j)) → t (90 + 2 * (5 * i + j)) = 0) → f_kl (l9 - l) lw p = (lwF, pF) → qX G F Q (kc + (l9 - l)) (ks + 4 * (l9 - l)) 179 [(6, qI (l : Int)), (5, qI (c : Int)), (4, qI (lw : Int)), (3, .ref K), (0, .ref b), (1, .ref ta), (2, .ref d)] [] sz9 T9 I9 L P9 := by
  intro n
  induction n with
  | zero => intro l lw sz9 T9 I9 P9 cd t bs p hn; exact absurd hn (Nat.not_lt_zero _)
  | succ n ih =>
    intro l lw sz9 T9 I9 P9 cd t bs p hn hl hW hlw hbl hz hk
    obtain ⟨hB, hx, hD, hPT, hm0, hnm, hfr, hTd⟩ := hW
    have hL4 := hD.s20
    obtain ⟨q49, q50, q51, q52, q53, q54, q55, q56, q57, q58, q59, q60, q61, q62⟩ := e_lens
    refine q_iload hF 0 rfl dL_drawn_179 ?_
    refine q_aload_n hF 3 rfl rfl dL_drawn_181 ?_
    refine q_getIv hF (z := (l9 : Int)) fl_RL_150 hD.ot.t0 hD.ln dL_drawn_182 ?_
    refine q_icmpge hF (by omega) (by omega) dL_drawn_185 (fun c185 => ?_) (fun c185 => ?_)
    · have el : l = l9 := by omega
      rw [el, Nat.sub_self] at hk
      have hk1 : lw = lwF := congrArg Prod.fst hk
      have hk2 : p = pF := congrArg Prod.snd hk
      subst hk1
      subst hk2
      refine q_sub [1, 2, 3, 4, 5, 6] rfl ?_
      exact qX.room (kc := kc) (ks := ks) (by omega) (by omega) (k0 _ _ _ _ _ _ _ hbl hlw (fun i j a c' e => hz i j a c' (Or.inl e)) ⟨hB, hx, hD, hPT, hm0, hnm, hfr, hTd⟩)
    · refine q_aload_n hF 6 rfl rfl dL_drawn_188 ?_
      refine q_iconst hF dL_drawn_189 ?_
      refine q_callV (kc := (kc + (l9 - l))) (ks := (ks + 4 * (l9 - l))) (mc' := 0) (ms' := 0) (h' := 0) (st := []) hF vl_RL_145 rfl [qI 3] rfl rfl hTd (by omega) (Nat.le_of_ble_eq_true rfl) dL_drawn_190 ?_
      refine mX9_of (m := 3) hTd (q_Ale hA (by omega)) (x := p.2) hx (by omega) (fun v_1 c190_0_1 c190_1_1 => ?_)
      refine q_ifeq hF (by omega) dL_drawn_193 (fun c193 => ?_) (fun c193 => ?_)
      · refine q_iinc hF (z' := ((1 + l : Nat) : Int)) (ls' := [(6, qI ((1 + l : Nat) : Int)), (5, qI (c : Int)), (4, qI (lw : Int)), (3, .ref K), (0, .ref b), (1, .ref ta), (2, .ref d)]) 0 rfl (by first | rfl | omega) (by decide) rfl dL_drawn_409 ?_
        refine q_goto hF dL_drawn_412 ?_
        rw [show l9 - l = (l9 - (l + 1)) + 1 by omega, f_kl_s, if_pos (by show d_nx p.2 / 65536 % 3 = 0 ∨ lw = 4; omega)] at hk
        rw [Nat.add_comm 1 l]
        refine qX.room (kc := kc + (l9 - (l + 1))) (ks := ks + 4 * (l9 - (l + 1))) (by omega) (by omega) ?_
        exact ih (l + 1) lw _ _ _ _ cd t bs (f_p p) (by omega) (by omega) ⟨(hB.mv (fun q a c => rfl) (fun q k a c => ((u2_a _ _ (by omega)).trans rfl)) (fun _ _ _ _ => rfl) (fun q k a c => rfl)), (u2_s _ _ _ _), hD.hi (fun q j hq => ((u2_a _ _ (by omega)).trans rfl)), hPT, hm0, hnm, (fun q hq => ⟨(hfr q hq).1, fun j => ⟨((u2_a _ _ (by omega)).trans ((hfr q hq).2 j).1), ((hfr q hq).2 j).2⟩⟩), hTd⟩ hlw hbl (fun i j a c' e => hz i j a c' (by omega)) hk
      · refine q_iload hF 2 rfl dL_drawn_196 ?_
        refine q_iconst hF dL_drawn_198 ?_
        refine q_icmpne hF (by omega) (by decide) dL_drawn_199 (fun c199 => ?_) (fun c199 => ?_)
        · refine q_iinc hF (z' := ((1 + lw : Nat) : Int)) (ls' := [(4, qI ((1 + lw : Nat) : Int)), (6, qI (l : Int)), (5, qI (c : Int)), (3, .ref K), (0, .ref b), (1, .ref ta), (2, .ref d)]) 2 rfl (by first | rfl | omega) (by decide) rfl dL_drawn_205 ?_
          refine q_iconst hF dL_drawn_208 ?_
          refine qX.room (kc := (kc + (l9 - (l + 1))) + 1) (ks := (ks + 4 * (l9 - (l + 1))) + 4) (by omega) (by omega) ?_
          refine q_newaI hF (s' := sz9 + 1) (kc := (kc + (l9 - (l + 1)))) (ks := (ks + 4 * (l9 - (l + 1)))) (n := 4) (q_mem 124 (by decide +kernel) rfl) (fun j => ((u2_a _ _ (by omega)).trans (hD.z _ _ (Nat.le_refl _)).1)) (fun j => (hD.z _ _ (Nat.le_refl _)).2.1) dL_drawn_209 rfl ?_
          refine q_dup hF rfl dL_drawn_211 ?_
          refine q_iconst hF dL_drawn_212 ?_
          refine q_aload_n hF 6 rfl rfl dL_drawn_213 ?_
          refine q_bipush hF (n := 14) rfl dL_drawn_214 ?_
          refine q_callV (kc := (kc + (l9 - (l + 1)))) (ks := (ks + 4 * (l9 - (l + 1)))) (mc' := 0) (ms' := 0) (h' := 0) (st := [qI 0, .ref sz9, .ref sz9]) hF vl_RL_145 rfl [qI 14] rfl rfl ((q_upT_n _ _ (by omega)).trans hTd) (by omega) (Nat.le_of_ble_eq_true rfl) dL_drawn_216 ?_
          refine mX9_of (m := 14) ((q_upT_n _ _ (by omega)).trans hTd) (q_Ale hA (by omega)) (x := d_nx p.2) (u2_s _ _ _ _) (by omega) (fun v_2 c216_0_2 c216_1_2 => ?_)
          refine q_iastorev hF (n := 4) 0 (q_upT_s _ _ _) (q_Ale hA (by omega)) rfl (by decide) (by decide) dL_drawn_219 ?_
          refine q_dup hF rfl dL_drawn_220 ?_
          refine q_iconst hF dL_drawn_221 ?_
          refine q_aload_n hF 6 rfl rfl dL_drawn_222 ?_
          refine q_iconst hF dL_drawn_223 ?_
          refine q_callV (kc := (kc + (l9 - (l + 1)))) (ks := (ks + 4 * (l9 - (l + 1)))) (mc' := 0) (ms' := 0) (h' := 0) (st := [qI 1, .ref sz9, .ref sz9]) hF vl_RL_145 rfl [qI 4] rfl rfl ((q_upT_n _ _ (by omega)).trans hTd) (by omega) (Nat.le_of_ble_eq_true rfl) dL_drawn_224 ?_
          refine mX9_of (m := 4) ((q_upT_n _ _ (by omega)).trans hTd) (q_Ale hA (by omega)) (x := d_nx (d_nx p.2)) ((u2_a _ _ (by omega)).trans (u2_s _ _ _ _)) (by omega) (fun v_3 c224_0_3 c224_1_3 => ?_)
          refine q_iastorev hF (n := 4) 1 (q_upT_s _ _ _) (q_Ale hA (by omega)) rfl (by decide) (by decide) dL_drawn_227 ?_
          refine q_dup hF rfl dL_drawn_228 ?_
          refine q_iconst hF dL_drawn_229 ?_
          refine q_aload_n hF 6 rfl rfl dL_drawn_230 ?_
          refine q_iconst hF dL_drawn_231 ?_
          refine q_callV (kc := (kc + (l9 - (l + 1)))) (ks := (ks + 4 * (l9 - (l + 1)))) (mc' := 0) (ms' := 0) (h' := 0) (st := [qI 2, .ref sz9, .ref sz9]) hF vl_RL_145 rfl [qI 3] rfl rfl ((q_upT_n _ _ (by omega)).trans hTd) (by omega) (Nat.le_of_ble_eq_true rfl) dL_drawn_232 ?_
          refine mX9_of (m := 3) ((q_upT_n _ _ (by omega)).trans hTd) (q_Ale hA (by omega)) (x := d_nx (d_nx (d_nx p.2))) ((u2_k _ _ (by decide)).trans (u2_s _ _ _ _)) (by omega) (fun v_4 c232_0_4 c232_1_4 => ?_)
          refine q_ifne hF (by omega) dL_drawn_235 (fun c235 => ?_) (fun c235 => ?_)
          · refine q_iconst hF dL_drawn_249 ?_
            refine q_iastorev hF (n := 4) 2 (q_upT_s _ _ _) (q_Ale hA (by omega)) rfl (by decide) (by decide) dL_drawn_250 ?_
            refine q_dup hF rfl dL_drawn_251 ?_
            refine q_iconst hF dL_drawn_252 ?_
            refine q_aload_n hF 6 rfl rfl dL_drawn_253 ?_
            refine q_iconst hF dL_drawn_254 ?_
            refine q_callV (kc := (kc + (l9 - (l + 1)))) (ks := (ks + 4 * (l9 - (l + 1)))) (mc' := 0) (ms' := 0) (h' := 0) (st := [qI 3, .ref sz9, .ref sz9]) hF vl_RL_145 rfl [qI 2] rfl rfl ((q_upT_n _ _ (by omega)).trans hTd) (by omega) (Nat.le_of_ble_eq_true rfl) dL_drawn_255 ?_
            refine mX9_of (m := 2) ((q_upT_n _ _ (by omega)).trans hTd) (q_Ale hA (by omega)) (x := d_nx (d_nx (d_nx (d_nx p.2)))) ((u2_k _ _ (by decide)).trans (u2_s _ _ _ _)) (by omega) (fun v_5 c255_0_5 c255_1_5 => ?_)
            refine q_aload_n hF 6 rfl rfl dL_drawn_258 ?_
            refine q_sipush hF (n := 30000) rfl dL_drawn_259 ?_
            refine q_callV (kc := (kc + (l9 - (l + 1)))) (ks := (ks + 4 * (l9 - (l + 1)))) (mc' := 0) (ms' := 0) (h' := 0) (st := [qI (v_5 : Int), qI 3, .ref sz9, .ref sz9]) hF vl_RL_145 rfl [qI 30000] rfl rfl ((q_upT_n _ _ (by omega)).trans hTd) (by omega) (Nat.le_of_ble_eq_true rfl) dL_drawn_262 ?_
            refine mX9_of (m := 30000) ((q_upT_n _ _ (by omega)).trans hTd) (q_Ale hA (by omega)) (x := d_nx (d_nx (d_nx (d_nx (d_nx p.2))))) (u2_s _ _ _ _) (by omega) (fun v_6 c262_0_6 c262_1_6 => ?_)
            obtain ⟨w, hw, hwb⟩ : ∃ w : Nat, (v_5 : Int) * (v_6 : Int) = (w : Int) ∧ w ≤ 29999 := ⟨v_5 * v_6, (Int.natCast_mul v_5 v_6).symm, by have := Nat.mul_le_mul (show v_5 ≤ 1 by omega) (show v_6 ≤ 29999 by omega); omega⟩
            refine q_imul hF dL_drawn_265 ?_
            rw [hw]
            refine q_iastorev hF (n := 4) 3 (q_upT_s _ _ _) (q_Ale hA (by omega)) rfl (by decide) (by decide) dL_drawn_266 ?_
            refine q_astore hF (ls' := [(7, .ref sz9), (4, qI ((1 + lw : Nat) : Int)), (6, qI (l : Int)), (5, qI (c : Int)), (3, .ref K), (0, .ref b), (1, .ref ta), (2, .ref d)]) (by decide) rfl dL_drawn_267 ?_
            refine q_aload_n hF 4 rfl rfl dL_drawn_269 ?_
            refine q_getA hF fl_RL_170 rfl ((q_upT_n _ _ (by omega)).trans hD.ot.t0) hD.ot.p2 dL_drawn_270 ?_
            refine q_iload hF 3 rfl dL_drawn_273 ?_
            refine q_aaloadv hF (b := K + 8 + c) c ((q_upT_n _ _ (by omega)).trans hD.ot.t7) (by decide) rfl (by omega) (by decide) (hD.ot.ps c (by omega)) dL_drawn_275 ?_
            refine q_iload hF 2 rfl dL_drawn_276 ?_
            refine q_aload hF 0 rfl dL_drawn_278 ?_
            refine q_aastoreO hF (n := 5) (w := some sz9) l ((q_upT_n _ _ (by omega)).trans (hD.ot.ts c (by omega))) (fun b hb => by cases hb; exact ⟨_, (q_upT_s _ _ _)⟩) (q_Ale hA (by omega)) rfl (by omega) (by decide) dL_drawn_280 ?_
            have hs4 : v_2 < 14 ∧ v_3 < 4 ∧ 0 < 10 ∧ w < 30000 := ⟨by omega, by omega, by omega, by omega⟩
            have hs0 : (u2 (u2 (u2 (u2 (u2 (u2 (u2 (u2 (u2 (u2 I9 d 0 ((d_nx p.2 : Nat) : Int)) d 0 ((d_nx (d_nx p.2) : Nat) : Int)) sz9 0 (v_2 : Int)) d 0 ((d_nx (d_nx (d_nx p.2)) : Nat) : Int)) sz9 1 (v_3 : Int)) d 0 ((d_nx (d_nx (d_nx (d_nx p.2))) : Nat) : Int)) sz9 2 0) d 0 ((d_nx (d_nx (d_nx (d_nx (d_nx p.2)))) : Nat) : Int)) d 0 ((d_nx (d_nx (d_nx (d_nx (d_nx (d_nx p.2))))) : Nat) : Int)) sz9 3 (w : Int)) sz9 0 = (v_2 : Int) := ((u2_k _ _ (by decide)).trans ((u2_a _ _ (by omega)).trans ((u2_a _ _ (by omega)).trans ((u2_k _ _ (by decide)).trans ((u2_a _ _ (by omega)).trans ((u2_k _ _ (by decide)).trans ((u2_a _ _ (by omega)).trans (u2_s _ _ _ _))))))))
            have hs1 : (u2 (u2 (u2 (u2 (u2 (u2 (u2 (u2 (u2 (u2 I9 d 0 ((d_nx p.2 : Nat) : Int)) d 0 ((d_nx (d_nx p.2) : Nat) : Int)) sz9 0 (v_2 : Int)) d 0 ((d_nx (d_nx (d_nx p.2)) : Nat) : Int)) sz9 1 (v_3 : Int)) d 0 ((d_nx (d_nx (d_nx (d_nx p.2))) : Nat) : Int)) sz9 2 0) d 0 ((d_nx (d_nx (d_nx (d_nx (d_nx p.2)))) : Nat) : Int)) d 0 ((d_nx (d_nx (d_nx (d_nx (d_nx (d_nx p.2))))) : Nat) : Int)) sz9 3 (w : Int)) sz9 1 = (v_3 : Int) := ((u2_k _ _ (by decide)).trans ((u2_k _ _ (by decide)).trans ((u2_k _ _ (by decide)).trans ((u2_k _ _ (by decide)).trans ((u2_k _ _ (by decide)).trans (u2_s _ _ _ _))))))
            have hs2 : (u2 (u2 (u2 (u2 (u2 (u2 (u2 (u2 (u2 (u2 I9 d 0 ((d_nx p.2 : Nat) : Int)) d 0 ((d_nx (d_nx p.2) : Nat) : Int)) sz9 0 (v_2 : Int)) d 0 ((d_nx (d_nx (d_nx p.2)) : Nat) : Int)) sz9 1 (v_3 : Int)) d 0 ((d_nx (d_nx (d_nx (d_nx p.2))) : Nat) : Int)) sz9 2 0) d 0 ((d_nx (d_nx (d_nx (d_nx (d_nx p.2)))) : Nat) : Int)) d 0 ((d_nx (d_nx (d_nx (d_nx (d_nx (d_nx p.2))))) : Nat) : Int)) sz9 3 (w : Int)) sz9 2 = ((0 : Nat) : Int) := ((u2_k _ _ (by decide)).trans ((u2_k _ _ (by decide)).trans ((u2_k _ _ (by decide)).trans (u2_s _ _ _ _))))
            have hs3 : (u2 (u2 (u2 (u2 (u2 (u2 (u2 (u2 (u2 (u2 I9 d 0 ((d_nx p.2 : Nat) : Int)) d 0 ((d_nx (d_nx p.2) : Nat) : Int)) sz9 0 (v_2 : Int)) d 0 ((d_nx (d_nx (d_nx p.2)) : Nat) : Int)) sz9 1 (v_3 : Int)) d 0 ((d_nx (d_nx (d_nx (d_nx p.2))) : Nat) : Int)) sz9 2 0) d 0 ((d_nx (d_nx (d_nx (d_nx (d_nx p.2)))) : Nat) : Int)) d 0 ((d_nx (d_nx (d_nx (d_nx (d_nx (d_nx p.2))))) : Nat) : Int)) sz9 3 (w : Int)) sz9 3 = (w : Int) := (u2_s _ _ _ _)
            refine q_sub [0, 2, 3, 1, 4, 5, 6, 7] rfl ?_
            refine lL_line (K := K) (s := sz9) (s0 := v_2) (s1 := v_3) (s2 := 0) (s3 := w) hF h6 hA (hB.mv (fun q a c => ((q_upT_n _ _ (by omega)).trans rfl)) (fun q k a c => ((u2_a _ _ (by omega)).trans ((u2_a _ _ (by omega)).trans ((u2_a _ _ (by omega)).trans ((u2_a _ _ (by omega)).trans ((u2_a _ _ (by omega)).trans ((u2_a _ _ (by omega)).trans ((u2_a _ _ (by omega)).trans ((u2_a _ _ (by omega)).trans ((u2_a _ _ (by omega)).trans ((u2_a _ _ (by omega)).trans rfl))))))))))) (fun _ _ _ _ => rfl) (fun q k a c => ((u2_a _ _ (by omega)).trans rfl))) hL1 (by omega) (q_upT_s _ _ _) hs0 hs1 hs2 hs3 hs4 hc5 (by omega) (by omega) (fun J cJ0 cJ1 => ?_)
            refine q_iinc hF (z' := ((1 + l : Nat) : Int)) (ls' := [(6, qI ((1 + l : Nat) : Int)), (7, .ref sz9), (5, qI (c : Int)), (4, qI ((1 + lw : Nat) : Int)), (3, .ref K), (0, .ref b), (1, .ref ta), (2, .ref d)]) 1 rfl (by first | rfl | omega) (by decide) rfl dL_drawn_409 ?_
            refine q_goto hF dL_drawn_412 ?_
            refine q_sub [0, 2, 3, 4, 5, 6, 7] rfl ?_
            have hlt : l < l9 := by omega
            have ef : f_law (f_p p) = f_p (f_p (f_p (f_p (f_p (f_p p))))) := by
              unfold f_law
              rw [if_neg (by show ¬ d_nx (d_nx (d_nx (d_nx p.2))) / 65536 % 3 = 0; omega)]
            have hlen := e_slp_len (k := c) (l := l) (s0 := v_2) (s1 := v_3) (s2 := 0) (s3 := w) hc5 (by omega) (by omega) (by omega) (by omega) (by omega)
            have hel := e_cds_el v_2 v_3 0 w
            rw [show l9 - l = (l9 - (l + 1)) + 1 by omega, f_kl_s, if_neg (by show ¬ (d_nx p.2 / 65536 % 3 = 0 ∨ lw = 4); omega)] at hk
            rw [Nat.add_comm 1 l, Nat.add_comm 1 lw]
            exact ih (l + 1) (lw + 1) _ _ _ _ (cd + g_el (e_cds v_2 v_3 0 w)) (e_st c l (e_cds v_2 v_3 0 w) cd t) (bs ++ e_slp c l v_2 v_3 0 w) (f_law (f_p p)) (by omega) (by omega) ⟨cJ0, by rw [ef]; exact ((cJ1 _ _ (by omega) (by omega)).trans ((u2_k _ _ (by decide)).trans (u2_s _ _ _ _))), (hD.law (k := c) (l := l) (I' := u2 (u2 (u2 (u2 (u2 (u2 (u2 (u2 (u2 (u2 I9 d 0 ((d_nx p.2 : Nat) : Int)) d 0 ((d_nx (d_nx p.2) : Nat) : Int)) sz9 0 (v_2 : Int)) d 0 ((d_nx (d_nx (d_nx p.2)) : Nat) : Int)) sz9 1 (v_3 : Int)) d 0 ((d_nx (d_nx (d_nx (d_nx p.2))) : Nat) : Int)) sz9 2 0) d 0 ((d_nx (d_nx (d_nx (d_nx (d_nx p.2)))) : Nat) : Int)) d 0 ((d_nx (d_nx (d_nx (d_nx (d_nx (d_nx p.2))))) : Nat) : Int)) sz9 3 (w : Int)) (T' := q_upT T9 sz9 (.inr (0, 4))) hc5 (by omega) hs4 (fun q a c => ((q_upT_n _ _ (by omega)).trans rfl)) (q_upT_s _ _ _) (fun q j a c => ((u2_a _ _ (by omega)).trans ((u2_a _ _ (by omega)).trans ((u2_a _ _ (by omega)).trans ((u2_a _ _ (by omega)).trans ((u2_a _ _ (by omega)).trans ((u2_a _ _ (by omega)).trans ((u2_a _ _ (by omega)).trans ((u2_a _ _ (by omega)).trans ((u2_a _ _ (by omega)).trans ((u2_a _ _ (by omega)).trans rfl))))))))))) ⟨hs0, hs1, hs2, hs3⟩).hi (fun q j hq => cJ1 _ _ (by omega) (by omega)), hPT.ln (e_sleep hc5 hlt (by omega) hm0 hnm (by rw [hz c l hc5 (by omega) (Or.inr ⟨rfl, Nat.le_refl _⟩)]; omega) (by omega) (by omega) (by omega) (by omega)) hlen.1, (e_st_lo (by omega) (by omega) (by omega)).trans hm0, hnm.mv (by omega) (fun x a c => e_st_lo (by omega) (by omega) (by omega)), (fun q hq => ⟨((q_upT_n _ _ (by omega)).trans (hfr q hq).1), fun j => ⟨((cJ1 _ _ (by omega) (by omega)).trans ((u2_a _ _ (by omega)).trans ((u2_a _ _ (by omega)).trans ((u2_a _ _ (by omega)).trans ((u2_a _ _ (by omega)).trans ((u2_a _ _ (by omega)).trans ((u2_a _ _ (by omega)).trans ((u2_a _ _ (by omega)).trans ((u2_a _ _ (by omega)).trans ((u2_a _ _ (by omega)).trans ((u2_a _ _ (by omega)).trans ((hfr q hq).2 j).1))))))))))), ((u2_a _ _ (by omega)).trans ((hfr q hq).2 j).2)⟩⟩), (q_upT_n _ _ (by omega)).trans hTd⟩ (by omega) (by rw [List.length_append]; omega) (fun i j a c' e => (e_st_lo (by omega) (by omega) (by omega)).trans (hz i j a c' (by omega))) hk
          · refine q_iconst hF dL_drawn_238 ?_
            refine q_aload_n hF 6 rfl rfl dL_drawn_239 ?_
            refine q_bipush hF (n := 9) rfl dL_drawn_240 ?_
            refine q_callV (kc := (kc + (l9 - (l + 1)))) (ks := (ks + 4 * (l9 - (l + 1)))) (mc' := 0) (ms' := 0) (h' := 0) (st := [qI 1, qI 2, .ref sz9, .ref sz9]) hF vl_RL_145 rfl [qI 9] rfl rfl ((q_upT_n _ _ (by omega)).trans hTd) (by omega) (Nat.le_of_ble_eq_true rfl) dL_drawn_242 ?_
            refine mX9_of (m := 9) ((q_upT_n _ _ (by omega)).trans hTd) (q_Ale hA (by omega)) (x := d_nx (d_nx (d_nx (d_nx p.2)))) (u2_s _ _ _ _) (by omega) (fun v_7 c242_0_7 c242_1_7 => ?_)
            refine q_iadd hF dL_drawn_245 ?_
            refine q_goto hF dL_drawn_246 ?_
            refine q_iastorev hF (n := 4) 2 (q_upT_s _ _ _) (q_Ale hA (by omega)) rfl (by decide) (by decide) dL_drawn_250 ?_
            refine q_dup hF rfl dL_drawn_251 ?_
            refine q_iconst hF dL_drawn_252 ?_
            refine q_aload_n hF 6 rfl rfl dL_drawn_253 ?_
            refine q_iconst hF dL_drawn_254 ?_
            refine q_callV (kc := (kc + (l9 - (l + 1)))) (ks := (ks + 4 * (l9 - (l + 1)))) (mc' := 0) (ms' := 0) (h' := 0) (st := [qI 3, .ref sz9, .ref sz9]) hF vl_RL_145 rfl [qI 2] rfl rfl ((q_upT_n _ _ (by omega)).trans hTd) (by omega) (Nat.le_of_ble_eq_true rfl) dL_drawn_255 ?_
            refine mX9_of (m := 2) ((q_upT_n _ _ (by omega)).trans hTd) (q_Ale hA (by omega)) (x := d_nx (d_nx (d_nx (d_nx (d_nx p.2))))) ((u2_k _ _ (by decide)).trans (u2_s _ _ _ _)) (by omega) (fun v_8 c255_0_8 c255_1_8 => ?_)
            refine q_aload_n hF 6 rfl rfl dL_drawn_258 ?_
            refine q_sipush hF (n := 30000) rfl dL_drawn_259 ?_
            refine q_callV (kc := (kc + (l9 - (l + 1)))) (ks := (ks + 4 * (l9 - (l + 1)))) (mc' := 0) (ms' := 0) (h' := 0) (st := [qI (v_8 : Int), qI 3, .ref sz9, .ref sz9]) hF vl_RL_145 rfl [qI 30000] rfl rfl ((q_upT_n _ _ (by omega)).trans hTd) (by omega) (Nat.le_of_ble_eq_true rfl) dL_drawn_262 ?_
            refine mX9_of (m := 30000) ((q_upT_n _ _ (by omega)).trans hTd) (q_Ale hA (by omega)) (x := d_nx (d_nx (d_nx (d_nx (d_nx (d_nx p.2)))))) (u2_s _ _ _ _) (by omega) (fun v_9 c262_0_9 c262_1_9 => ?_)
            obtain ⟨w, hw, hwb⟩ : ∃ w : Nat, (v_8 : Int) * (v_9 : Int) = (w : Int) ∧ w ≤ 29999 := ⟨v_8 * v_9, (Int.natCast_mul v_8 v_9).symm, by have := Nat.mul_le_mul (show v_8 ≤ 1 by omega) (show v_9 ≤ 29999 by omega); omega⟩
            refine q_imul hF dL_drawn_265 ?_
            rw [hw]
            refine q_iastorev hF (n := 4) 3 (q_upT_s _ _ _) (q_Ale hA (by omega)) rfl (by decide) (by decide) dL_drawn_266 ?_
            refine q_astore hF (ls' := [(7, .ref sz9), (4, qI ((1 + lw : Nat) : Int)), (6, qI (l : Int)), (5, qI (c : Int)), (3, .ref K), (0, .ref b), (1, .ref ta), (2, .ref d)]) (by decide) rfl dL_drawn_267 ?_
            refine q_aload_n hF 4 rfl rfl dL_drawn_269 ?_
            refine q_getA hF fl_RL_170 rfl ((q_upT_n _ _ (by omega)).trans hD.ot.t0) hD.ot.p2 dL_drawn_270 ?_
            refine q_iload hF 3 rfl dL_drawn_273 ?_
            refine q_aaloadv hF (b := K + 8 + c) c ((q_upT_n _ _ (by omega)).trans hD.ot.t7) (by decide) rfl (by omega) (by decide) (hD.ot.ps c (by omega)) dL_drawn_275 ?_
            refine q_iload hF 2 rfl dL_drawn_276 ?_
            refine q_aload hF 0 rfl dL_drawn_278 ?_
            refine q_aastoreO hF (n := 5) (w := some sz9) l ((q_upT_n _ _ (by omega)).trans (hD.ot.ts c (by omega))) (fun b hb => by cases hb; exact ⟨_, (q_upT_s _ _ _)⟩) (q_Ale hA (by omega)) rfl (by omega) (by decide) dL_drawn_280 ?_
            have hs4 : v_2 < 14 ∧ v_3 < 4 ∧ (1 + v_7) < 10 ∧ w < 30000 := ⟨by omega, by omega, by omega, by omega⟩
            have hs0 : (u2 (u2 (u2 (u2 (u2 (u2 (u2 (u2 (u2 (u2 (u2 I9 d 0 ((d_nx p.2 : Nat) : Int)) d 0 ((d_nx (d_nx p.2) : Nat) : Int)) sz9 0 (v_2 : Int)) d 0 ((d_nx (d_nx (d_nx p.2)) : Nat) : Int)) sz9 1 (v_3 : Int)) d 0 ((d_nx (d_nx (d_nx (d_nx p.2))) : Nat) : Int)) d 0 ((d_nx (d_nx (d_nx (d_nx (d_nx p.2)))) : Nat) : Int)) sz9 2 (1 + (v_7 : Int))) d 0 ((d_nx (d_nx (d_nx (d_nx (d_nx (d_nx p.2))))) : Nat) : Int)) d 0 ((d_nx (d_nx (d_nx (d_nx (d_nx (d_nx (d_nx p.2)))))) : Nat) : Int)) sz9 3 (w : Int)) sz9 0 = (v_2 : Int) := ((u2_k _ _ (by decide)).trans ((u2_a _ _ (by omega)).trans ((u2_a _ _ (by omega)).trans ((u2_k _ _ (by decide)).trans ((u2_a _ _ (by omega)).trans ((u2_a _ _ (by omega)).trans ((u2_k _ _ (by decide)).trans ((u2_a _ _ (by omega)).trans (u2_s _ _ _ _)))))))))
            have hs1 : (u2 (u2 (u2 (u2 (u2 (u2 (u2 (u2 (u2 (u2 (u2 I9 d 0 ((d_nx p.2 : Nat) : Int)) d 0 ((d_nx (d_nx p.2) : Nat) : Int)) sz9 0 (v_2 : Int)) d 0 ((d_nx (d_nx (d_nx p.2)) : Nat) : Int)) sz9 1 (v_3 : Int)) d 0 ((d_nx (d_nx (d_nx (d_nx p.2))) : Nat) : Int)) d 0 ((d_nx (d_nx (d_nx (d_nx (d_nx p.2)))) : Nat) : Int)) sz9 2 (1 + (v_7 : Int))) d 0 ((d_nx (d_nx (d_nx (d_nx (d_nx (d_nx p.2))))) : Nat) : Int)) d 0 ((d_nx (d_nx (d_nx (d_nx (d_nx (d_nx (d_nx p.2)))))) : Nat) : Int)) sz9 3 (w : Int)) sz9 1 = (v_3 : Int) := ((u2_k _ _ (by decide)).trans ((u2_k _ _ (by decide)).trans ((u2_k _ _ (by decide)).trans ((u2_k _ _ (by decide)).trans ((u2_k _ _ (by decide)).trans ((u2_k _ _ (by decide)).trans (u2_s _ _ _ _)))))))
            have hs2 : (u2 (u2 (u2 (u2 (u2 (u2 (u2 (u2 (u2 (u2 (u2 I9 d 0 ((d_nx p.2 : Nat) : Int)) d 0 ((d_nx (d_nx p.2) : Nat) : Int)) sz9 0 (v_2 : Int)) d 0 ((d_nx (d_nx (d_nx p.2)) : Nat) : Int)) sz9 1 (v_3 : Int)) d 0 ((d_nx (d_nx (d_nx (d_nx p.2))) : Nat) : Int)) d 0 ((d_nx (d_nx (d_nx (d_nx (d_nx p.2)))) : Nat) : Int)) sz9 2 (1 + (v_7 : Int))) d 0 ((d_nx (d_nx (d_nx (d_nx (d_nx (d_nx p.2))))) : Nat) : Int)) d 0 ((d_nx (d_nx (d_nx (d_nx (d_nx (d_nx (d_nx p.2)))))) : Nat) : Int)) sz9 3 (w : Int)) sz9 2 = (((1 + v_7) : Nat) : Int) := (((u2_k _ _ (by decide)).trans ((u2_k _ _ (by decide)).trans ((u2_k _ _ (by decide)).trans (u2_s _ _ _ _))))).trans (by show (1 : Int) + (v_7 : Int) = ((1 + v_7 : Nat) : Int); omega)
            have hs3 : (u2 (u2 (u2 (u2 (u2 (u2 (u2 (u2 (u2 (u2 (u2 I9 d 0 ((d_nx p.2 : Nat) : Int)) d 0 ((d_nx (d_nx p.2) : Nat) : Int)) sz9 0 (v_2 : Int)) d 0 ((d_nx (d_nx (d_nx p.2)) : Nat) : Int)) sz9 1 (v_3 : Int)) d 0 ((d_nx (d_nx (d_nx (d_nx p.2))) : Nat) : Int)) d 0 ((d_nx (d_nx (d_nx (d_nx (d_nx p.2)))) : Nat) : Int)) sz9 2 (1 + (v_7 : Int))) d 0 ((d_nx (d_nx (d_nx (d_nx (d_nx (d_nx p.2))))) : Nat) : Int)) d 0 ((d_nx (d_nx (d_nx (d_nx (d_nx (d_nx (d_nx p.2)))))) : Nat) : Int)) sz9 3 (w : Int)) sz9 3 = (w : Int) := (u2_s _ _ _ _)
            refine q_sub [0, 2, 3, 1, 4, 5, 6, 7] rfl ?_
            refine lL_line (K := K) (s := sz9) (s0 := v_2) (s1 := v_3) (s2 := (1 + v_7)) (s3 := w) hF h6 hA (hB.mv (fun q a c => ((q_upT_n _ _ (by omega)).trans rfl)) (fun q k a c => ((u2_a _ _ (by omega)).trans ((u2_a _ _ (by omega)).trans ((u2_a _ _ (by omega)).trans ((u2_a _ _ (by omega)).trans ((u2_a _ _ (by omega)).trans ((u2_a _ _ (by omega)).trans ((u2_a _ _ (by omega)).trans ((u2_a _ _ (by omega)).trans ((u2_a _ _ (by omega)).trans ((u2_a _ _ (by omega)).trans ((u2_a _ _ (by omega)).trans rfl)))))))))))) (fun _ _ _ _ => rfl) (fun q k a c => ((u2_a _ _ (by omega)).trans rfl))) hL1 (by omega) (q_upT_s _ _ _) hs0 hs1 hs2 hs3 hs4 hc5 (by omega) (by omega) (fun J cJ0 cJ1 => ?_)
            refine q_iinc hF (z' := ((1 + l : Nat) : Int)) (ls' := [(6, qI ((1 + l : Nat) : Int)), (7, .ref sz9), (5, qI (c : Int)), (4, qI ((1 + lw : Nat) : Int)), (3, .ref K), (0, .ref b), (1, .ref ta), (2, .ref d)]) 1 rfl (by first | rfl | omega) (by decide) rfl dL_drawn_409 ?_
            refine q_goto hF dL_drawn_412 ?_
            refine q_sub [0, 2, 3, 4, 5, 6, 7] rfl ?_
            have hlt : l < l9 := by omega
            have ef : f_law (f_p p) = f_p (f_p (f_p (f_p (f_p (f_p (f_p p)))))) := by
              unfold f_law
              rw [if_pos (by show d_nx (d_nx (d_nx (d_nx p.2))) / 65536 % 3 = 0; omega)]
            have hlen := e_slp_len (k := c) (l := l) (s0 := v_2) (s1 := v_3) (s2 := (1 + v_7)) (s3 := w) hc5 (by omega) (by omega) (by omega) (by omega) (by omega)
            have hel := e_cds_el v_2 v_3 (1 + v_7) w
            rw [show l9 - l = (l9 - (l + 1)) + 1 by omega, f_kl_s, if_neg (by show ¬ (d_nx p.2 / 65536 % 3 = 0 ∨ lw = 4); omega)] at hk
            rw [Nat.add_comm 1 l, Nat.add_comm 1 lw]
            exact ih (l + 1) (lw + 1) _ _ _ _ (cd + g_el (e_cds v_2 v_3 (1 + v_7) w)) (e_st c l (e_cds v_2 v_3 (1 + v_7) w) cd t) (bs ++ e_slp c l v_2 v_3 (1 + v_7) w) (f_law (f_p p)) (by omega) (by omega) ⟨cJ0, by rw [ef]; exact ((cJ1 _ _ (by omega) (by omega)).trans ((u2_k _ _ (by decide)).trans (u2_s _ _ _ _))), (hD.law (k := c) (l := l) (I' := u2 (u2 (u2 (u2 (u2 (u2 (u2 (u2 (u2 (u2 (u2 I9 d 0 ((d_nx p.2 : Nat) : Int)) d 0 ((d_nx (d_nx p.2) : Nat) : Int)) sz9 0 (v_2 : Int)) d 0 ((d_nx (d_nx (d_nx p.2)) : Nat) : Int)) sz9 1 (v_3 : Int)) d 0 ((d_nx (d_nx (d_nx (d_nx p.2))) : Nat) : Int)) d 0 ((d_nx (d_nx (d_nx (d_nx (d_nx p.2)))) : Nat) : Int)) sz9 2 (1 + (v_7 : Int))) d 0 ((d_nx (d_nx (d_nx (d_nx (d_nx (d_nx p.2))))) : Nat) : Int)) d 0 ((d_nx (d_nx (d_nx (d_nx (d_nx (d_nx (d_nx p.2)))))) : Nat) : Int)) sz9 3 (w : Int)) (T' := q_upT T9 sz9 (.inr (0, 4))) hc5 (by omega) hs4 (fun q a c => ((q_upT_n _ _ (by omega)).trans rfl)) (q_upT_s _ _ _) (fun q j a c => ((u2_a _ _ (by omega)).trans ((u2_a _ _ (by omega)).trans ((u2_a _ _ (by omega)).trans ((u2_a _ _ (by omega)).trans ((u2_a _ _ (by omega)).trans ((u2_a _ _ (by omega)).trans ((u2_a _ _ (by omega)).trans ((u2_a _ _ (by omega)).trans ((u2_a _ _ (by omega)).trans ((u2_a _ _ (by omega)).trans ((u2_a _ _ (by omega)).trans rfl)))))))))))) ⟨hs0, hs1, hs2, hs3⟩).hi (fun q j hq => cJ1 _ _ (by omega) (by omega)), hPT.ln (e_sleep hc5 hlt (by omega) hm0 hnm (by rw [hz c l hc5 (by omega) (Or.inr ⟨rfl, Nat.le_refl _⟩)]; omega) (by omega) (by omega) (by omega) (by omega)) hlen.1, (e_st_lo (by omega) (by omega) (by omega)).trans hm0, hnm.mv (by omega) (fun x a c => e_st_lo (by omega) (by omega) (by omega)), (fun q hq => ⟨((q_upT_n _ _ (by omega)).trans (hfr q hq).1), fun j => ⟨((cJ1 _ _ (by omega) (by omega)).trans ((u2_a _ _ (by omega)).trans ((u2_a _ _ (by omega)).trans ((u2_a _ _ (by omega)).trans ((u2_a _ _ (by omega)).trans ((u2_a _ _ (by omega)).trans ((u2_a _ _ (by omega)).trans ((u2_a _ _ (by omega)).trans ((u2_a _ _ (by omega)).trans ((u2_a _ _ (by omega)).trans ((u2_a _ _ (by omega)).trans ((u2_a _ _ (by omega)).trans ((hfr q hq).2 j).1)))))))))))), ((u2_a _ _ (by omega)).trans ((hfr q hq).2 j).2)⟩⟩), (q_upT_n _ _ (by omega)).trans hTd⟩ (by omega) (by rw [List.length_append]; omega) (fun i j a c' e => (e_st_lo (by omega) (by omega) (by omega)).trans (hz i j a c' (by omega))) hk
        · refine q_goto hF dL_drawn_202 ?_
          refine q_iinc hF (z' := ((1 + l : Nat) : Int)) (ls' := [(6, qI ((1 + l : Nat) : Int)), (5, qI (c : Int)), (4, qI (lw : Int)), (3, .ref K), (0, .ref b), (1, .ref ta), (2, .ref d)]) 0 rfl (by first | rfl | omega) (by decide) rfl dL_drawn_409 ?_
          refine q_goto hF dL_drawn_412 ?_
          rw [show l9 - l = (l9 - (l + 1)) + 1 by omega, f_kl_s, if_pos (by show d_nx p.2 / 65536 % 3 = 0 ∨ lw = 4; omega)] at hk
          rw [Nat.add_comm 1 l]
          refine qX.room (kc := kc + (l9 - (l + 1))) (ks := ks + 4 * (l9 - (l + 1))) (by omega) (by omega) ?_
          exact ih (l + 1) lw _ _ _ _ cd t bs (f_p p) (by omega) (by omega) ⟨(hB.mv (fun q a c => rfl) (fun q k a c => ((u2_a _ _ (by omega)).trans rfl)) (fun _ _ _ _ => rfl) (fun q k a c => rfl)), (u2_s _ _ _ _), hD.hi (fun q j hq => ((u2_a _ _ (by omega)).trans rfl)), hPT, hm0, hnm, (fun q hq => ⟨(hfr q hq).1, fun j => ⟨((u2_a _ _ (by omega)).trans ((hfr q hq).2 j).1), ((hfr q hq).2 j).2⟩⟩), hTd⟩ hlw hbl (fun i j a c' e => hz i j a c' (by omega)) hk

set_option maxRecDepth 100000 in
theorem lL_ks {G : q_G} {F : q_F} {h : Nat} {Q : q_Q} {kc ks sz : Nat} {T : q_T} {b bk ta d K l9 : Nat} {R : Nat → Nat → Int} {T0 : q_T} {I0 : q_I} {P0 : q_P} {pF : Nat × Nat} {L : q_I} (hF : q_ok G F YL_drawn h) (h6 : 6 ≤ h) (hA : q_A G b) (hL1 : b + 452 ≤ ta) (hL2 : ta < d) (hL3 : d < K) (hl9 : 1 ≤ l9 ∧ l9 ≤ 3) (k0 : ∀ (sz9 : Nat) (T9 : q_T) (I9 : q_I) (P9 : q_P) (cd hp : Nat) (t : Nat → Int) (bs : List Nat), bs.length ≤ 480 → q_DW b bk R ta d L K l9 T0 I0 P0 T9 I9 P9 sz9 cd l9 0 hp t bs pF → qX G F Q kc ks 480 [(3, .ref K), (0, .ref b), (1, .ref ta), (2, .ref d)] [] sz9 T9 I9 L P9) : ∀ (n : Nat) (c : Nat) (lw : Nat) (sz9 : Nat) (T9 : q_T) (I9 : q_I) (P9 : q_P) (cd : Nat) (hp : Nat) (t : Nat → Int) (bs : List Nat) (p : Nat × Nat), 5 - c < n → c ≤ 5 → q_DW b bk R ta d L K l9 T0 I0 P0 T9 I9 P9 sz9 cd l9 0 hp t bs p → hp < 2 ^ c → lw ≤ 4 → bs.length ≤ 87 + 17 * c + 75 * lw → (∀ i j : Nat, i < 5 → j < 5 → (c ≤ i) → t (90 + 2 * (5 * i + j)) = 0) → f_ks l9 (5 - c) lw p = pF → qX G F Q (kc + 3 * (5 - c)) (ks + 12 * (5 - c)) 170 [(5, qI (c : Int)), (4, qI (lw : Int)), (3, .ref K), (0, .ref b), (1, .ref ta), (2, .ref d)] [] sz9 T9 I9 L P9 := by
  intro n
  induction n with
  | zero => intro c lw sz9 T9 I9 P9 cd hp t bs p hn; exact absurd hn (Nat.not_lt_zero _)
  | succ n ih =>
    intro c lw sz9 T9 I9 P9 cd hp t bs p hn hc hW hhp hlw hbl hz hk
    have hW9 := hW
    obtain ⟨hB, hx, hD, hPT, hm0, hnm, hfr, hTd⟩ := hW9
    have hL4 := hD.s20
    obtain ⟨q49, q50, q51, q52, q53, q54, q55, q56, q57, q58, q59, q60, q61, q62⟩ := e_lens
    have hn7 : c < 5 → g_len (63 + c) ≤ 7 := e_len7 c
    refine q_iload hF 0 rfl dL_drawn_170 ?_
    refine q_iconst hF dL_drawn_172 ?_
    refine q_icmpge hF (by omega) (by decide) dL_drawn_173 (fun c173 => ?_) (fun c173 => ?_)
    · have ec : c = 5 := by omega
      rw [ec] at hk
      have hk2 : p = pF := hk
      subst hk2
      refine q_sub [2, 3, 4, 5] rfl ?_
      exact qX.room (kc := kc) (ks := ks) (by omega) (by omega) (k0 _ _ _ _ _ _ _ _ (by omega) hW)
    · refine q_iconst hF dL_drawn_176 ?_
      refine q_istore hF (ls' := [(6, qI 0), (5, qI (c : Int)), (4, qI (lw : Int)), (3, .ref K), (0, .ref b), (1, .ref ta), (2, .ref d)]) (by decide) rfl dL_drawn_177 ?_
      have hc5 : c < 5 := by omega
      rw [show 5 - c = (5 - (c + 1)) + 1 by omega, f_ks_s] at hk
      refine qX.room (kc := (kc + 3 * (5 - (c + 1))) + (l9 - 0)) (ks := (ks + 12 * (5 - (c + 1))) + 4 * (l9 - 0)) (by omega) (by omega) ?_
      refine lL_kl (sz := 0) (T := T) (B0 := 87 + 17 * c) (lwF := (f_kl l9 lw p).1) (pF := (f_kl l9 lw p).2) hF h6 hA hL1 hL2 hL3 hl9 hc5 (by omega) ?_ _ 0 lw sz9 T9 I9 P9 cd t bs p (Nat.lt_succ_self _) (Nat.zero_le _) hW hlw hbl (fun i j a c' e => hz i j a c' (by omega)) rfl
      generalize (f_kl l9 lw p).1 = lw2 at hk ⊢
      generalize (f_kl l9 lw p).2 = p2 at hk ⊢
      clear hW hbl hz hlw hnm hm0 hPT hD hx hB hfr hTd hL4
      clear t bs p I9 P9 T9 sz9 cd
      intro sz9 T9 I9 P9 cd t bs hbl hlw hz hW
      skip
      obtain ⟨hB, hx, hD, hPT, hm0, hnm, hfr, hTd⟩ := hW
      have hL4 := hD.s20
      refine q_aload_n hF 5 rfl rfl dL_drawn_415 ?_
      refine q_iconst hF dL_drawn_416 ?_
      refine q_callV (kc := (kc + 3 * (5 - (c + 1)))) (ks := (ks + 12 * (5 - (c + 1)))) (mc' := 0) (ms' := 0) (h' := 0) (st := []) hF vl_RL_145 rfl [qI 2] rfl rfl hTd (by omega) (Nat.le_of_ble_eq_true rfl) dL_drawn_417 ?_
      refine mX9_of (m := 2) hTd (q_Ale hA (by omega)) (x := p2.2) hx (by omega) (fun v_1 c417_0_1 c417_1_1 => ?_)
      refine q_ifne hF (by omega) dL_drawn_420 (fun c420 => ?_) (fun c420 => ?_)
      · refine q_iinc hF (z' := ((1 + c : Nat) : Int)) (ls' := [(5, qI ((1 + c : Nat) : Int)), (4, qI (lw2 : Int)), (3, .ref K), (0, .ref b), (1, .ref ta), (2, .ref d)]) 0 rfl (by first | rfl | omega) (by decide) rfl dL_drawn_474 ?_
        refine q_goto hF dL_drawn_477 ?_
        rw [Nat.add_comm 1 c]
        have ef : f_opt p2 = f_p p2 := if_neg (by show ¬ d_nx p2.2 / 65536 % 2 = 0; omega)
        exact ih (c + 1) lw2 _ _ _ _ cd hp t bs (f_opt p2) (by omega) (by omega) ⟨(hB.mv (fun q a c => rfl) (fun q k a c => ((u2_a _ _ (by omega)).trans rfl)) (fun _ _ _ _ => rfl) (fun q k a c => rfl)), by rw [ef]; exact (u2_s _ _ _ _), hD.hi (fun q j hq => ((u2_a _ _ (by omega)).trans rfl)), hPT, hm0, hnm, (fun q hq => ⟨(hfr q hq).1, fun j => ⟨((u2_a _ _ (by omega)).trans ((hfr q hq).2 j).1), ((hfr q hq).2 j).2⟩⟩), hTd⟩ (by rw [Nat.pow_succ]; omega) hlw (by omega) (fun i j a c' e => hz i j a c' (by omega)) hk
      · refine q_aload_n hF 2 rfl rfl dL_drawn_423 ?_
        refine q_getA hF fl_RL_186 rfl hD.ot.t0 hD.ot.p3 dL_drawn_424 ?_
        refine q_iload hF 0 rfl dL_drawn_427 ?_
        refine q_aload_n hF 5 rfl rfl dL_drawn_429 ?_
        refine q_sipush hF (n := 1000) rfl dL_drawn_430 ?_
        refine q_callV (kc := (kc + 3 * (5 - (c + 1)))) (ks := (ks + 12 * (5 - (c + 1)))) (mc' := 0) (ms' := 0) (h' := 0) (st := [qI (c : Int), .ref (K + 13)]) hF vl_RL_145 rfl [qI 1000] rfl rfl hTd (by omega) (Nat.le_of_ble_eq_true rfl) dL_drawn_433 ?_
        refine mX9_of (m := 1000) hTd (q_Ale hA (by omega)) (x := d_nx p2.2) (u2_s _ _ _ _) (by omega) (fun v_2 c433_0_2 c433_1_2 => ?_)
        refine q_iastorev hF (n := 5) c hD.ot.t13 (q_Ale hA (by omega)) rfl (by omega) (by decide) dL_drawn_436 ?_
        refine q_aload_n hF 3 rfl rfl dL_drawn_437 ?_
        refine q_aload_n hF 4 rfl rfl dL_drawn_438 ?_
        refine q_ldcK hF (i := 58) (by decide) rfl rfl dL_drawn_439 ?_
        refine q_callS (kc := (kc + 3 * (5 - (c + 1)))) (ks := (ks + 12 * (5 - (c + 1)))) (mc' := 0) (ms' := 0) (h' := 4) (st := []) hF sl_RL_134 rfl [.ref b, .ref ta, .ref (q_KS G 58)] rfl rfl (by omega) (Nat.le_of_ble_eq_true rfl) dL_drawn_441 ?_
        refine mL_tell hA (q_Ale hA (by omega)) (hB.mv (fun q a c => rfl) (fun q k a c => ((u2_a _ _ (by omega)).trans ((u2_a _ _ (by omega)).trans ((u2_a _ _ (by omega)).trans rfl)))) (fun _ _ _ _ => rfl) (fun q k a c => rfl)) (by omega) (by (try simp only [List.length_append, g_sts_len, g_dg9_len, g_nb9_len, List.length_nil]); omega) (fun I9_3 c441_0_3 c441_1_3 => ?_)
        refine q_aload_n hF 3 rfl rfl dL_drawn_444 ?_
        refine q_aload_n hF 4 rfl rfl dL_drawn_445 ?_
        refine q_getsSa (a := 80) hF (by decide) (q_mem 1142 (by decide +kernel) rfl) dL_drawn_446 ?_
        refine q_iload hF 0 rfl dL_drawn_449 ?_
        refine q_aldSa hF (a := 80) (by decide) c rfl (by show c < 5; omega) (by omega) dL_drawn_451 ?_
        show qX G F Q (kc + 3 * (5 - (c + 1))) (ks + 12 * (5 - (c + 1))) 452 [(5, qI (c : Int)), (4, qI (lw2 : Int)), (3, .ref K), (0, .ref b), (1, .ref ta), (2, .ref d)] [.ref (q_KS G (63 + c)), .ref ta, .ref b] sz9 T9 I9_3 L P9
        refine q_callS (kc := (kc + 3 * (5 - (c + 1)))) (ks := (ks + 12 * (5 - (c + 1)))) (mc' := 0) (ms' := 0) (h' := 4) (st := []) hF sl_RL_134 rfl [.ref b, .ref ta, .ref (q_KS G (63 + c))] rfl rfl (by omega) (Nat.le_of_ble_eq_true rfl) dL_drawn_452 ?_
        refine mL_tell hA (q_Ale hA (by omega)) c441_0_3 (by omega) (by have := e_len7 c (by omega); (try simp only [List.length_append, g_sts_len, g_dg9_len, g_nb9_len, List.length_nil]); omega) (fun I9_4 c452_0_4 c452_1_4 => ?_)
        refine q_aload_n hF 3 rfl rfl dL_drawn_455 ?_
        refine q_aload_n hF 4 rfl rfl dL_drawn_456 ?_
        refine q_aload_n hF 2 rfl rfl dL_drawn_457 ?_
        refine q_getA hF fl_RL_186 rfl hD.ot.t0 hD.ot.p3 dL_drawn_458 ?_
        refine q_iload hF 0 rfl dL_drawn_461 ?_
        refine q_ialoadv hF (z := (v_2 : Int)) (n := 5) c hD.ot.t13 rfl (by omega) (by decide) ((c452_1_4 _ _ (by omega) (by omega)).trans ((c441_1_3 _ _ (by omega) (by omega)).trans (u2_s _ _ _ _))) dL_drawn_463 ?_
        refine q_callS (kc := (kc + 3 * (5 - (c + 1)))) (ks := (ks + 12 * (5 - (c + 1)))) (mc' := 0) (ms' := 0) (h' := 5) (st := []) hF sl_RL_165 rfl [.ref b, .ref ta, qI (v_2 : Int)] rfl rfl (by omega) (Nat.le_of_ble_eq_true rfl) dL_drawn_464 ?_
        refine mL_number (v := v_2) hA (q_Ale hA (by omega)) c452_0_4 (by omega) (by have := (g_dge_lt v_2).2.2.2.2; have := e_len7 c (by omega); (try simp only [List.length_append, g_sts_len, g_dg9_len, g_nb9_len, List.length_nil]); omega) (fun I9_5 c464_0_5 c464_1_5 => ?_)
        refine q_aload_n hF 3 rfl rfl dL_drawn_467 ?_
        refine q_aload_n hF 4 rfl rfl dL_drawn_468 ?_
        refine q_ldcK hF (i := 52) (by decide) rfl rfl dL_drawn_469 ?_
        refine q_callS (kc := (kc + 3 * (5 - (c + 1)))) (ks := (ks + 12 * (5 - (c + 1)))) (mc' := 0) (ms' := 0) (h' := 4) (st := []) hF sl_RL_134 rfl [.ref b, .ref ta, .ref (q_KS G 52)] rfl rfl (by omega) (Nat.le_of_ble_eq_true rfl) dL_drawn_471 ?_
        refine mL_tell hA (q_Ale hA (by omega)) c464_0_5 (by omega) (by have := (g_dge_lt v_2).2.2.2.2; have := e_len7 c (by omega); (try simp only [List.length_append, g_sts_len, g_dg9_len, g_nb9_len, List.length_nil]); omega) (fun I9_6 c471_0_6 c471_1_6 => ?_)
        refine q_iinc hF (z' := ((1 + c : Nat) : Int)) (ls' := [(5, qI ((1 + c : Nat) : Int)), (4, qI (lw2 : Int)), (3, .ref K), (0, .ref b), (1, .ref ta), (2, .ref d)]) 0 rfl (by first | rfl | omega) (by decide) rfl dL_drawn_474 ?_
        refine q_goto hF dL_drawn_477 ?_
        rw [Nat.add_comm 1 c]
        have ef : f_opt p2 = f_p (f_p p2) := if_pos (by show d_nx p2.2 / 65536 % 2 = 0; omega)
        have hlen := e_pay_len (k := c) (v := v_2) hc5 (by omega)
        exact ih (c + 1) lw2 _ _ _ _ cd (hp + 2 ^ c) (g_up t (12 + c) (v_2 : Int)) (bs ++ e_pay c v_2) (f_opt p2) (by omega) (by omega) ⟨c471_0_6.bs (by unfold e_pay; simp only [List.append_assoc]), by rw [ef]; exact ((c471_1_6 _ _ (by omega) (by omega)).trans ((c464_1_5 _ _ (by omega) (by omega)).trans ((c452_1_4 _ _ (by omega) (by omega)).trans ((c441_1_3 _ _ (by omega) (by omega)).trans ((u2_a _ _ (by omega)).trans (u2_s _ _ _ _)))))), ((hD.hi (I' := u2 (u2 I9 d 0 ((d_nx p2.2 : Nat) : Int)) d 0 ((d_nx (d_nx p2.2) : Nat) : Int)) (fun q j hq => ((u2_a _ _ (by omega)).trans ((u2_a _ _ (by omega)).trans rfl)))).pays (k := c) (v := (v_2 : Int)) hc5).hi (fun q j hq => ((c471_1_6 _ _ (by omega) (by omega)).trans ((c464_1_5 _ _ (by omega) (by omega)).trans ((c452_1_4 _ _ (by omega) (by omega)).trans ((c441_1_3 _ _ (by omega) (by omega)).trans rfl))))), hPT.ln (e_pays hc5 (by omega) hhp) hlen.1, (g_up_n _ _ (by omega)).trans hm0, hnm.mv (by omega) (fun x a c' => g_up_n _ _ (by omega)), (fun q hq => ⟨(hfr q hq).1, fun j => ⟨((c471_1_6 _ _ (by omega) (by omega)).trans ((c464_1_5 _ _ (by omega) (by omega)).trans ((c452_1_4 _ _ (by omega) (by omega)).trans ((c441_1_3 _ _ (by omega) (by omega)).trans ((u2_a _ _ (by omega)).trans ((u2_a _ _ (by omega)).trans ((u2_a _ _ (by omega)).trans ((hfr q hq).2 j).1))))))), ((hfr q hq).2 j).2⟩⟩), hTd⟩ (by rw [Nat.pow_succ]; omega) hlw (by rw [List.length_append]; omega) (fun i j a c' e => (g_up_n _ _ (by omega)).trans (hz i j a c' (by omega))) hk
