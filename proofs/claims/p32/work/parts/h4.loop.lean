/-! the loop of acts: all -/
theorem q_FO.only {b d sz sz' : Nat} {W : Nat → Prop} {T T' : q_T} {I L I' L' : q_I} {P P' : q_P} (hs : sz ≤ sz') (hT : ∀ q, q < sz → T' q = T q) (hI : ∀ q j, q < sz → q ≠ d → I' q j = I q j) (hL : ∀ q j, q < sz → L' q j = L q j) (hP : ∀ q j, q < sz → P' q j = P q j) (hb : b ≤ d) (hd : d < sz) : q_FO b d W sz sz' T I L P T' I' L' P' := ⟨⟨hs, hT, fun q j hq hw => hI q j hq (fun z => hw (Or.inr (Or.inl z))), fun q j hq _ => hL q j hq, fun q j hq _ => hP q j hq⟩, fun q j hq => hI q j (by omega) (by omega)⟩

set_option maxRecDepth 100000 in
theorem lL_acts {G : q_G} {F : q_F} {h : Nat} {Q : q_Q} {kc ks sz : Nat} {T : q_T} {b d a0 was l9 tp k ta ii b0 : Nat} {B : Nat → Int}  (hF : q_ok G F YL_law h) (h9 : 30 ≤ h) (hA : q_A G b) (hl3 : 1 ≤ l9 ∧ l9 ≤ 3) (k0 : ∀ (dn sz9 : Nat) (T9 : q_T) (I9 L9 : q_I) (P9 : q_P) (bk : Nat) (R : Nat → Nat → Int) (n9 : Nat) (ρ : Nat → Nat) (x : Nat), q_AJ b d a0 was l9 tp B T9 I9 L9 P9 sz9 bk R k n9 ρ x 11 dn → qX G F Q kc ks 977 [(8, qI (dn : Int)), (7, .ref was), (6, .ref k), (5, .ref d), (4, .ref ta), (3, .ref b), (2, qI (ii : Int)), (1, qI 1), (0, .ref b0)] [] sz9 T9 I9 L9 P9) : ∀ (n : Nat) (c : Nat) (dn : Nat) (sz9 : Nat) (T9 : q_T) (I9 L9 : q_I) (P9 : q_P) (bk : Nat) (R : Nat → Nat → Int) (n9 : Nat) (ρ : Nat → Nat) (x : Nat), 11 - c < n → q_AJ b d a0 was l9 tp B T9 I9 L9 P9 sz9 bk R k n9 ρ x c dn → qX G F Q (kc + 1075 * (11 - c)) (ks + 8663 * (11 - c)) 188 [(9, qI (c : Int)), (8, qI (dn : Int)), (7, .ref was), (6, .ref k), (5, .ref d), (4, .ref ta), (3, .ref b), (2, qI (ii : Int)), (1, qI 1), (0, .ref b0)] [] sz9 T9 I9 L9 P9 := by
  intro n
  induction n with
  | zero => intro c dn sz9 T9 I9 L9 P9 bk R n9 ρ x hn; exact absurd hn (Nat.not_lt_zero _)
  | succ n ih =>
    intro c dn sz9 T9 I9 L9 P9 bk R n9 ρ x hn hJ
    have hJ0 := hJ
    obtain ⟨⟨E, v, w, m, σ, hE, hW, hEr, hx, hTd, hZ, hTw, hl9, hnm⟩, hlay, hcap, hmo, hn, hsafe, hbk, hdn, hc, hSv⟩ := hJ0
    have hO := hW.ot
    have hM := hW.om
    have hro := hE.ro 0 (Nat.zero_le _)
    have hkz := hEr k (hW.ek k (Nat.le_refl _) (by omega))
    have hWz : ∀ q, q_Wk k n9 ρ q → a0 ≤ q ∧ q < sz9 ∧ q ≠ was := fun q z => by
      rcases z with z | z | z | z | ⟨j, hj, z⟩
      · subst z; exact hkz
      · subst z; exact hEr _ (hW.ek _ (by omega) (by omega))
      · subst z; exact hEr _ (hW.ek _ (by omega) (by omega))
      · subst z; exact hEr _ (hW.ek _ (by omega) (by omega))
      · subst z; exact hEr _ (hM.ea j hj)
    have hwW : ¬ q_Wk k n9 ρ was := fun z => (hWz was z).2.2 rfl
    refine q_iload hF 0 rfl dL_law_188 ?_
    refine q_bipush hF (n := 11) rfl dL_law_190 ?_
    refine q_icmpge hF (by omega) (by decide) dL_law_192 (fun c192 => ?_) (fun c192 => ?_)
    · obtain rfl : c = 11 := by omega
      refine q_sub [1, 2, 3, 4, 5, 6, 7, 8, 9] rfl ?_
      exact qX.room (kc := kc) (ks := ks) (by omega) (by omega) (k0 dn sz9 T9 I9 L9 P9 bk R n9 ρ x hJ)
    · refine q_iload_n hF 8 rfl rfl dL_law_195 ?_
      refine q_ifeq hF (by decide) dL_law_196 (fun c196 => ?_) (fun c196 => ?_)
      · exact absurd c196 (by decide)
      · refine qX.room (kc := (kc + 1075 * (11 - (c + 1)) + 321) + 721 + 33) (ks := (ks + 8663 * (11 - (c + 1)) + 1926) + 6486 + 251) (by omega) (by omega) ?_
        refine q_aload hF 3 rfl dL_law_199 ?_
        refine q_callV (kc := (kc + 1075 * (11 - (c + 1)) + 321) + 721) (ks := (ks + 8663 * (11 - (c + 1)) + 1926) + 6486) (mc' := 33) (ms' := 251) (h' := 3) (st := []) hF vl_RL_342 rfl [] rfl rfl hO.t0 (by omega) (Nat.le_of_ble_eq_true rfl) dL_law_201 ?_
        refine mX10_copy hW (fun q hq => ⟨(hEr q hq).1, (hEr q hq).2.1⟩) (q_Ale hA (by omega)) (by omega) hZ hro.1 (fun T1 I1 L1 P1 c201_0 c201_1 c201_2 c201_3 c201_4 c201_5 => ?_)
        have hb452 : b + 452 ≤ sz9 := by omega
        have hE1 : q_CE T1 b bk tp B R I1 L1 P1 := hE.mv (fun q a e => c201_0 q (by omega)) (fun q j a e => c201_1 q j (by omega)) (fun q j a e => c201_2 q j (by omega)) (fun q j a e => c201_3 q j (by omega))
        have hW1 : q_OW E T1 I1 L1 P1 k v n9 ρ w m σ (R 0) := hW.mv (fun _ z => z) (fun q hq => c201_0 q (hEr q hq).2.1) (fun q j hq => c201_1 q j (hEr q hq).2.1) (fun q j hq => c201_2 q j (hEr q hq).2.1) (fun q j hq => c201_3 q j (hEr q hq).2.1)
        have hx1 : I1 d 0 = (x : Int) := (c201_1 d 0 (by omega)).trans hx
        have hTd1 : T1 d = some (.inl 8) := (c201_0 d (by omega)).trans hTd
        have hTw1 : T1 was = some (.inr (9, 16)) := (c201_0 was (by omega)).trans hTw
        have hEr1 : ∀ q, E q → a0 ≤ q ∧ q < sz9 + 21 + n9 ∧ q ≠ was := fun q hq => by have := hEr q hq; omega
        have hAh1 : q_Sd a0 was l9 T1 I1 L1 P1 (sz9 + 21 + n9) (q_Wk k n9 ρ) sz9 (R 0) := ⟨_, _, _, _, _, _, _, c201_5, fun q hq => by
          rcases hq with z | ⟨z1, z2⟩
          · exact ⟨by omega, by omega, by omega, fun z3 => by have := hWz q z3; omega⟩
          · exact ⟨(hEr q z1).1, by have := hEr q z1; omega, (hEr q z1).2.2, z2⟩, hl9, hnm, by have := hM.nn; omega⟩
        refine q_astore hF (ls' := [(10, .ref sz9), (9, qI (c : Int)), (8, qI (dn : Int)), (7, .ref was), (6, .ref k), (5, .ref d), (4, .ref ta), (3, .ref b), (2, qI (ii : Int)), (1, qI 1), (0, .ref b0)]) (by decide) rfl dL_law_204 ?_
        refine q_aload hF 5 rfl dL_law_206 ?_
        refine q_aload hF 4 rfl dL_law_208 ?_
        refine q_getA hF fl_RL_231 rfl hW1.ot.t0 hW1.om.pv dL_law_210 ?_
        refine q_alen hF (n := n9) hW1.om.tv dL_law_213 ?_
        refine q_callV (kc := (kc + 1075 * (11 - (c + 1)) + 321) + 721) (ks := (ks + 8663 * (11 - (c + 1)) + 1926) + 6486) (mc' := 0) (ms' := 0) (h' := 0) (st := []) hF vl_RL_145 rfl [qI (n9 : Int)] rfl rfl hTd1 (by omega) (Nat.le_of_ble_eq_true rfl) dL_law_214 ?_
        refine mX9_of (m := n9) hTd1 (q_Ale hA (by omega)) (x := x) hx1 (by omega) (fun v_1 c214_0_1 c214_1_1 => ?_)
        refine q_istore hF (ls' := [(11, qI (v_1 : Int)), (10, .ref sz9), (9, qI (c : Int)), (8, qI (dn : Int)), (7, .ref was), (6, .ref k), (5, .ref d), (4, .ref ta), (3, .ref b), (2, qI (ii : Int)), (1, qI 1), (0, .ref b0)]) (by decide) rfl dL_law_217 ?_
        refine q_aload hF 5 rfl dL_law_219 ?_
        refine q_getA hF fl_RL_231 rfl hW1.ot.t0 hW1.om.pv dL_law_221 ?_
        refine q_iload hF 0 rfl dL_law_224 ?_
        refine q_aaloadv hF (b := ρ v_1) v_1 hW1.om.tv (by decide) rfl (by omega) (by omega) (hW1.om.pa v_1 (by omega)) dL_law_226 ?_
        refine q_astore hF (ls' := [(12, .ref (ρ v_1)), (11, qI (v_1 : Int)), (10, .ref sz9), (9, qI (c : Int)), (8, qI (dn : Int)), (7, .ref was), (6, .ref k), (5, .ref d), (4, .ref ta), (3, .ref b), (2, qI (ii : Int)), (1, qI 1), (0, .ref b0)]) (by decide) rfl dL_law_227 ?_
        refine q_iconst hF dL_law_229 ?_
        refine q_istore hF (ls' := [(13, qI 1), (12, .ref (ρ v_1)), (11, qI (v_1 : Int)), (10, .ref sz9), (9, qI (c : Int)), (8, qI (dn : Int)), (7, .ref was), (6, .ref k), (5, .ref d), (4, .ref ta), (3, .ref b), (2, qI (ii : Int)), (1, qI 1), (0, .ref b0)]) (by decide) rfl dL_law_230 ?_
        refine q_aload hF 8 rfl dL_law_232 ?_
        refine q_bipush hF (n := 11) rfl dL_law_234 ?_
        refine q_callV (kc := (kc + 1075 * (11 - (c + 1)) + 321) + 721) (ks := (ks + 8663 * (11 - (c + 1)) + 1926) + 6486) (mc' := 0) (ms' := 0) (h' := 0) (st := []) hF vl_RL_145 rfl [qI 11] rfl rfl hTd1 (by omega) (Nat.le_of_ble_eq_true rfl) dL_law_236 ?_
        refine mX9_of (m := 11) hTd1 (q_Ale hA (by omega)) (x := d_nx x) (u2_s _ _ _ _) (by omega) (fun v_2 c236_0_2 c236_1_2 => ?_)
        refine q_istore hF (ls' := [(14, qI (v_2 : Int)), (13, qI 1), (12, .ref (ρ v_1)), (11, qI (v_1 : Int)), (10, .ref sz9), (9, qI (c : Int)), (8, qI (dn : Int)), (7, .ref was), (6, .ref k), (5, .ref d), (4, .ref ta), (3, .ref b), (2, qI (ii : Int)), (1, qI 1), (0, .ref b0)]) (by decide) rfl dL_law_239 ?_
        have hI2 : ∀ q j, q ≠ d → (u2 (u2 I1 d 0 ((d_nx x : Nat) : Int)) d 0 ((d_nx (d_nx x) : Nat) : Int)) q j = I1 q j := fun q j hq => (u2_a _ _ hq).trans (u2_a _ _ hq)
        have hx2 : (u2 (u2 I1 d 0 ((d_nx x : Nat) : Int)) d 0 ((d_nx (d_nx x) : Nat) : Int)) d 0 = ((d_nx (d_nx x) : Nat) : Int) := (u2_s _ _ _ _)
        have hE2 : q_CE T1 b bk tp B R (u2 (u2 I1 d 0 ((d_nx x : Nat) : Int)) d 0 ((d_nx (d_nx x) : Nat) : Int)) L1 P1 := hE1.mv (fun _ _ _ => rfl) (fun q j a e => hI2 q j (by omega)) (fun _ _ _ _ => rfl) (fun _ _ _ _ => rfl)
        have hFO : q_FO b d (q_Wk k n9 ρ) sz9 (sz9 + 21 + n9) T9 I9 L9 P9 T1 (u2 (u2 I1 d 0 ((d_nx x : Nat) : Int)) d 0 ((d_nx (d_nx x) : Nat) : Int)) L1 P1 := q_FO.only (by omega) c201_0 (fun q j hq hd => (hI2 q j hd).trans (c201_1 q j hq)) c201_2 c201_3 (by omega) (by omega)
        have hFO2 : q_FO b d (q_Wk k n9 ρ) (sz9 + 21 + n9) (sz9 + 21 + n9) T1 I1 L1 P1 T1 (u2 (u2 I1 d 0 ((d_nx x : Nat) : Int)) d 0 ((d_nx (d_nx x) : Nat) : Int)) L1 P1 := q_FO.only (Nat.le_refl _) (fun _ _ => rfl) (fun q j hq hd => hI2 q j hd) (fun _ _ _ => rfl) (fun _ _ _ => rfl) (by omega) (by omega)
        have hid : (∀ j, j < n9 → ρ j = ρ j) ∧ ∀ j, n9 ≤ j → j < n9 → sz9 ≤ ρ j := ⟨fun _ _ => rfl, fun j a e => absurd a (by omega)⟩
        have hid2 : (∀ j, j < n9 → ρ j = ρ j) ∧ ∀ j, n9 ≤ j → j < n9 → sz9 + 21 + n9 ≤ ρ j := ⟨fun _ _ => rfl, fun j a e => absurd a (by omega)⟩
        have hS2 : ∀ u, u < dn → u < 8 → ∃ K, P1 was (dn - 1 - u) = some K ∧ q_Sd a0 was l9 T1 (u2 (u2 I1 d 0 ((d_nx x : Nat) : Int)) d 0 ((d_nx (d_nx x) : Nat) : Int)) L1 P1 (sz9 + 21 + n9) (q_Wk k n9 ρ) K (R (bk - u)) := fun u hu h8 => by
          obtain ⟨K, k1, k2⟩ := hSv u hu h8
          exact ⟨K, (c201_3 _ _ (by omega)).trans k1, k2.mv hFO ⟨hlay.1, hlay.2.1⟩ hid⟩
        have hAh2 := hAh1.mv hFO2 ⟨hlay.1, hlay.2.1⟩ hid2
        have hW2 : q_OW E T1 (u2 (u2 I1 d 0 ((d_nx x : Nat) : Int)) d 0 ((d_nx (d_nx x) : Nat) : Int)) L1 P1 k v n9 ρ w m σ (R 0) := hW1.mv (fun _ z => z) (fun _ _ => rfl) (fun q j hq => hI2 q j (by have := hEr q hq; omega)) (fun _ _ _ => rfl) (fun _ _ _ => rfl)
        have hZ2 : q_F0 (sz9 + 21 + n9) (u2 (u2 I1 d 0 ((d_nx x : Nat) : Int)) d 0 ((d_nx (d_nx x) : Nat) : Int)) L1 P1 := fun q j hq => ⟨(hI2 q j (by omega)).trans (c201_4 q j hq).1, (c201_4 q j hq).2⟩
        generalize hIg : u2 (u2 I1 d 0 ((d_nx x : Nat) : Int)) d 0 ((d_nx (d_nx x) : Nat) : Int) = I2 at *
        clear hIg hFO2 hFO
        refine q_iload hF 0 rfl dL_law_241 ?_
        refine q_iconst hF dL_law_243 ?_
        refine q_icmpge hF (by omega) (by decide) dL_law_244 (fun c244 => ?_) (fun c244 => ?_)
        · refine q_iload hF 0 rfl dL_law_283 ?_
          refine q_iconst hF dL_law_285 ?_
          refine q_icmpne hF (by omega) (by decide) dL_law_286 (fun c286 => ?_) (fun c286 => ?_)
          · refine q_iload hF 0 rfl dL_law_301 ?_
            refine q_iconst hF dL_law_303 ?_
            refine q_icmpne hF (by omega) (by decide) dL_law_304 (fun c304 => ?_) (fun c304 => ?_)
            · refine q_iload hF 0 rfl dL_law_364 ?_
              refine q_bipush hF (n := 6) rfl dL_law_366 ?_
              refine q_icmpne hF (by omega) (by decide) dL_law_368 (fun c368 => ?_) (fun c368 => ?_)
              · refine q_iload hF 0 rfl dL_law_553 ?_
                refine q_bipush hF (n := 7) rfl dL_law_555 ?_
                refine q_icmpne hF (by omega) (by decide) dL_law_557 (fun c557 => ?_) (fun c557 => ?_)
                · refine q_iload hF 0 rfl dL_law_608 ?_
                  refine q_bipush hF (n := 8) rfl dL_law_610 ?_
                  refine q_icmpne hF (by omega) (by decide) dL_law_612 (fun c612 => ?_) (fun c612 => ?_)
                  · refine q_iload hF 0 rfl dL_law_736 ?_
                    refine q_bipush hF (n := 9) rfl dL_law_738 ?_
                    refine q_icmpne hF (by omega) (by decide) dL_law_740 (fun c740 => ?_) (fun c740 => ?_)
                    · have hc11 : 11 - c = (10 - c) + 1 := by omega
                      rw [hc11] at hsafe
                      have hsf := d_safe_23 (by show d_nx (d_nx x) / 65536 % 11 = 10; omega) hsafe
                      by_cases hop : R 0 (1043 + 12 * v_1) = 0 ∨ R 0 (1043 + 12 * v_1) = 1
                      · refine qX.room (kc := (kc + 1075 * (11 - (c + 1)) + 321) + 1) (ks := (ks + 8663 * (11 - (c + 1)) + 1926) + 6) (by omega) (by omega) ?_
                        refine lL_close1 (ah := sz9) (dn := dn) (x0 := v_1) hF h9 hA hE2 hW2 hEr1 hx2 hTd1 hZ2 hTw1 hl9 hl3 hnm ⟨hlay.1, hlay.2.1, by omega⟩ (by omega) hcap (by omega) hmo hn.2 (by omega) hsf.2 hop ?_
                        intro T3 I3 L3 P3 sz3 bk3 R3 n3 ρ3 x3 is hPA
                        refine lL_after (kc := kc + 1075 * (11 - (c + 1))) (ks := ks + 8663 * (11 - (c + 1))) hF h9 hA hPA ⟨hlay.1, hlay.2.1, hlay.2.2.1, by omega⟩ hwW hS2 hAh2 hbk hdn (by omega) hn.1 hl3.2 (fun dn2 sz4 I4 L4 P4 hJ4 => ?_)
                        exact ih (c + 1) dn2 sz4 T3 I4 L4 P4 bk3 R3 n3 ρ3 x3 (by omega) hJ4
                      · refine qX.room (kc := (kc + 1075 * (11 - (c + 1)) + 321) + 1) (ks := (ks + 8663 * (11 - (c + 1)) + 1926) + 6) (by omega) (by omega) ?_
                        refine lL_close0 (ah := sz9) (dn := dn) (x0 := v_1) hF h9 hA hE2 hW2 hEr1 hx2 hTd1 hZ2 hTw1 hl9 hl3 hnm ⟨hlay.1, hlay.2.1, by omega⟩ (by omega) hcap (by omega) hmo hn.2 (by omega) hsf.1 hop ?_
                        intro T3 I3 L3 P3 sz3 bk3 R3 n3 ρ3 x3 is hPA
                        refine lL_after (kc := kc + 1075 * (11 - (c + 1))) (ks := ks + 8663 * (11 - (c + 1))) hF h9 hA hPA ⟨hlay.1, hlay.2.1, hlay.2.2.1, by omega⟩ hwW hS2 hAh2 hbk hdn (by omega) hn.1 hl3.2 (fun dn2 sz4 I4 L4 P4 hJ4 => ?_)
                        exact ih (c + 1) dn2 sz4 T3 I4 L4 P4 bk3 R3 n3 ρ3 x3 (by omega) hJ4
                    · have hc11 : 11 - c = (10 - c) + 1 := by omega
                      rw [hc11] at hsafe
                      have hsf := d_safe_2 (by show d_nx (d_nx x) / 65536 % 11 = 5 ∨ d_nx (d_nx x) / 65536 % 11 = 8 ∨ d_nx (d_nx x) / 65536 % 11 = 9; omega) hsafe
                      refine qX.room (kc := (kc + 1075 * (11 - (c + 1)) + 321) + 1) (ks := (ks + 8663 * (11 - (c + 1)) + 1926) + 6) (by omega) (by omega) ?_
                      refine lL_pass (ah := sz9) (dn := dn) (x0 := v_1) hF h9 hA hE2 hW2 hEr1 hx2 hTd1 hZ2 hTw1 hl9 hl3 hnm ⟨hlay.1, hlay.2.1, by omega⟩ (by omega) hcap (by omega) hmo hn.2 (by omega) hsf ?_
                      intro T3 I3 L3 P3 sz3 bk3 R3 n3 ρ3 x3 is hPA
                      refine lL_after (kc := kc + 1075 * (11 - (c + 1))) (ks := ks + 8663 * (11 - (c + 1))) hF h9 hA hPA ⟨hlay.1, hlay.2.1, hlay.2.2.1, by omega⟩ hwW hS2 hAh2 hbk hdn (by omega) hn.1 hl3.2 (fun dn2 sz4 I4 L4 P4 hJ4 => ?_)
                      exact ih (c + 1) dn2 sz4 T3 I4 L4 P4 bk3 R3 n3 ρ3 x3 (by omega) hJ4
                  · have hc11 : 11 - c = (10 - c) + 1 := by omega
                    rw [hc11] at hsafe
                    have hsf := d_safe_2 (by show d_nx (d_nx x) / 65536 % 11 = 5 ∨ d_nx (d_nx x) / 65536 % 11 = 8 ∨ d_nx (d_nx x) / 65536 % 11 = 9; omega) hsafe
                    refine qX.room (kc := (kc + 1075 * (11 - (c + 1)) + 321) + 1) (ks := (ks + 8663 * (11 - (c + 1)) + 1926) + 6) (by omega) (by omega) ?_
                    refine lL_claim (ah := sz9) (dn := dn) (x0 := v_1) hF h9 hA hE2 hW2 hEr1 hx2 hTd1 hZ2 hTw1 hl9 hl3 hnm ⟨hlay.1, hlay.2.1, by omega⟩ (by omega) hcap (by omega) hmo hn.2 (by omega) hsf ?_
                    intro T3 I3 L3 P3 sz3 bk3 R3 n3 ρ3 x3 is hPA
                    refine lL_after (kc := kc + 1075 * (11 - (c + 1))) (ks := ks + 8663 * (11 - (c + 1))) hF h9 hA hPA ⟨hlay.1, hlay.2.1, hlay.2.2.1, by omega⟩ hwW hS2 hAh2 hbk hdn (by omega) hn.1 hl3.2 (fun dn2 sz4 I4 L4 P4 hJ4 => ?_)
                    exact ih (c + 1) dn2 sz4 T3 I4 L4 P4 bk3 R3 n3 ρ3 x3 (by omega) hJ4
                · have hc11 : 11 - c = (10 - c) + 1 := by omega
                  rw [hc11] at hsafe
                  have hsf := d_safe_3 (by show d_nx (d_nx x) / 65536 % 11 < 4 ∨ d_nx (d_nx x) / 65536 % 11 = 7; omega) hsafe
                  refine qX.room (kc := (kc + 1075 * (11 - (c + 1)) + 321) + 1) (ks := (ks + 8663 * (11 - (c + 1)) + 1926) + 6) (by omega) (by omega) ?_
                  refine lL_addr (ah := sz9) (dn := dn) (x0 := v_1) hF h9 hA hE2 hW2 hEr1 hx2 hTd1 hZ2 hTw1 hl9 hl3 hnm ⟨hlay.1, hlay.2.1, by omega⟩ (by omega) hcap (by omega) hmo hn.2 (by omega) hsf ?_
                  intro T3 I3 L3 P3 sz3 bk3 R3 n3 ρ3 x3 is hPA
                  refine lL_after (kc := kc + 1075 * (11 - (c + 1))) (ks := ks + 8663 * (11 - (c + 1))) hF h9 hA hPA ⟨hlay.1, hlay.2.1, hlay.2.2.1, by omega⟩ hwW hS2 hAh2 hbk hdn (by omega) hn.1 hl3.2 (fun dn2 sz4 I4 L4 P4 hJ4 => ?_)
                  exact ih (c + 1) dn2 sz4 T3 I4 L4 P4 bk3 R3 n3 ρ3 x3 (by omega) hJ4
              · have hc11 : 11 - c = (10 - c) + 1 := by omega
                rw [hc11] at hsafe
                have hsf := d_safe_4 (by show d_nx (d_nx x) / 65536 % 11 = 6; omega) hsafe
                by_cases hop : R 0 (1043 + 12 * v_1) = 0 ∨ R 0 (1043 + 12 * v_1) = 1
                · refine qX.room (kc := (kc + 1075 * (11 - (c + 1)) + 321) + 1) (ks := (ks + 8663 * (11 - (c + 1)) + 1926) + 6) (by omega) (by omega) ?_
                  refine lL_sum1 (ah := sz9) (dn := dn) (x0 := v_1) hF h9 hA hE2 hW2 hEr1 hx2 hTd1 hZ2 hTw1 hl9 hl3 hnm ⟨hlay.1, hlay.2.1, by omega⟩ (by omega) hcap (by omega) hmo hn.2 (by omega) hsf hop ?_
                  intro T3 I3 L3 P3 sz3 bk3 R3 n3 ρ3 x3 is hPA
                  refine lL_after (kc := kc + 1075 * (11 - (c + 1))) (ks := ks + 8663 * (11 - (c + 1))) hF h9 hA hPA ⟨hlay.1, hlay.2.1, hlay.2.2.1, by omega⟩ hwW hS2 hAh2 hbk hdn (by omega) hn.1 hl3.2 (fun dn2 sz4 I4 L4 P4 hJ4 => ?_)
                  exact ih (c + 1) dn2 sz4 T3 I4 L4 P4 bk3 R3 n3 ρ3 x3 (by omega) hJ4
                · refine qX.room (kc := (kc + 1075 * (11 - (c + 1)) + 321) + 1) (ks := (ks + 8663 * (11 - (c + 1)) + 1926) + 6) (by omega) (by omega) ?_
                  refine lL_sum0 (ah := sz9) (dn := dn) (x0 := v_1) hF h9 hA hE2 hW2 hEr1 hx2 hTd1 hZ2 hTw1 hl9 hl3 hnm ⟨hlay.1, hlay.2.1, by omega⟩ (by omega) hcap (by omega) hmo hn.2 (by omega) hsf hop ?_
                  intro T3 I3 L3 P3 sz3 bk3 R3 n3 ρ3 x3 is hPA
                  refine lL_after (kc := kc + 1075 * (11 - (c + 1))) (ks := ks + 8663 * (11 - (c + 1))) hF h9 hA hPA ⟨hlay.1, hlay.2.1, hlay.2.2.1, by omega⟩ hwW hS2 hAh2 hbk hdn (by omega) hn.1 hl3.2 (fun dn2 sz4 I4 L4 P4 hJ4 => ?_)
                  exact ih (c + 1) dn2 sz4 T3 I4 L4 P4 bk3 R3 n3 ρ3 x3 (by omega) hJ4
            · have hc11 : 11 - c = (10 - c) + 1 := by omega
              rw [hc11] at hsafe
              have hsf := d_safe_2 (by show d_nx (d_nx x) / 65536 % 11 = 5 ∨ d_nx (d_nx x) / 65536 % 11 = 8 ∨ d_nx (d_nx x) / 65536 % 11 = 9; omega) hsafe
              by_cases hop : R 0 (1043 + 12 * v_1) = 0 ∨ R 0 (1043 + 12 * v_1) = 1
              · refine qX.room (kc := (kc + 1075 * (11 - (c + 1)) + 321) + 1) (ks := (ks + 8663 * (11 - (c + 1)) + 1926) + 6) (by omega) (by omega) ?_
                refine lL_contact1 (ah := sz9) (dn := dn) (x0 := v_1) hF h9 hA hE2 hW2 hEr1 hx2 hTd1 hZ2 hTw1 hl9 hl3 hnm ⟨hlay.1, hlay.2.1, by omega⟩ (by omega) hcap (by omega) hmo hn.2 (by omega) hsf hop ?_
                intro T3 I3 L3 P3 sz3 bk3 R3 n3 ρ3 x3 is hPA
                refine lL_after (kc := kc + 1075 * (11 - (c + 1))) (ks := ks + 8663 * (11 - (c + 1))) hF h9 hA hPA ⟨hlay.1, hlay.2.1, hlay.2.2.1, by omega⟩ hwW hS2 hAh2 hbk hdn (by omega) hn.1 hl3.2 (fun dn2 sz4 I4 L4 P4 hJ4 => ?_)
                exact ih (c + 1) dn2 sz4 T3 I4 L4 P4 bk3 R3 n3 ρ3 x3 (by omega) hJ4
              · refine qX.room (kc := (kc + 1075 * (11 - (c + 1)) + 321) + 1) (ks := (ks + 8663 * (11 - (c + 1)) + 1926) + 6) (by omega) (by omega) ?_
                refine lL_contact0 (ah := sz9) (dn := dn) (x0 := v_1) hF h9 hA hE2 hW2 hEr1 hx2 hTd1 hZ2 hTw1 hl9 hl3 hnm ⟨hlay.1, hlay.2.1, by omega⟩ (by omega) hcap (by omega) hmo hn.2 (by omega) hsf hop ?_
                intro T3 I3 L3 P3 sz3 bk3 R3 n3 ρ3 x3 is hPA
                refine lL_after (kc := kc + 1075 * (11 - (c + 1))) (ks := ks + 8663 * (11 - (c + 1))) hF h9 hA hPA ⟨hlay.1, hlay.2.1, hlay.2.2.1, by omega⟩ hwW hS2 hAh2 hbk hdn (by omega) hn.1 hl3.2 (fun dn2 sz4 I4 L4 P4 hJ4 => ?_)
                exact ih (c + 1) dn2 sz4 T3 I4 L4 P4 bk3 R3 n3 ρ3 x3 (by omega) hJ4
          · have hc11 : 11 - c = (10 - c) + 1 := by omega
            rw [hc11] at hsafe
            have hsf := d_safe_7 hn.2 (show d_it 2 x / 65536 % 11 = 4 by show d_nx (d_nx x) / 65536 % 11 = 4; omega) hsafe
            refine qX.room (kc := (kc + 1075 * (11 - (c + 1)) + 321) + 3) (ks := (ks + 8663 * (11 - (c + 1)) + 1926) + 60) (by omega) (by omega) ?_
            refine lL_openA (ah := sz9) (dn := dn) (x0 := v_1) hF h9 hA hE2 hW2 hEr1 hx2 hTd1 hZ2 hTw1 hl9 hl3 hnm ⟨hlay.1, hlay.2.1, by omega⟩ (by omega) hcap (by omega) hmo hn.2 (by omega) hsf.1 hsf.2 ?_
            intro T3 I3 L3 P3 sz3 bk3 R3 n3 ρ3 x3 is hPA
            refine lL_after (kc := kc + 1075 * (11 - (c + 1))) (ks := ks + 8663 * (11 - (c + 1))) hF h9 hA hPA ⟨hlay.1, hlay.2.1, hlay.2.2.1, by omega⟩ hwW hS2 hAh2 hbk hdn (by omega) hn.1 hl3.2 (fun dn2 sz4 I4 L4 P4 hJ4 => ?_)
            exact ih (c + 1) dn2 sz4 T3 I4 L4 P4 bk3 R3 n3 ρ3 x3 (by omega) hJ4
        · have hc11 : 11 - c = (10 - c) + 1 := by omega
          rw [hc11] at hsafe
          have hsf := d_safe_3 (by show d_nx (d_nx x) / 65536 % 11 < 4 ∨ d_nx (d_nx x) / 65536 % 11 = 7; omega) hsafe
          refine qX.room (kc := (kc + 1075 * (11 - (c + 1)) + 321) + 721) (ks := (ks + 8663 * (11 - (c + 1)) + 1926) + 6486) (by omega) (by omega) ?_
          refine lL_months (ah := sz9) (dn := dn) (x0 := v_1) hF h9 hA hE2 hW2 hEr1 hx2 hTd1 hZ2 hTw1 hl9 hl3 hnm ⟨hlay.1, hlay.2.1, by omega⟩ (by omega) hcap (by omega) hmo hn.2 (by omega) hsf ?_
          intro T3 I3 L3 P3 sz3 bk3 R3 n3 ρ3 x3 is hPA
          refine lL_after (kc := kc + 1075 * (11 - (c + 1))) (ks := ks + 8663 * (11 - (c + 1))) hF h9 hA hPA ⟨hlay.1, hlay.2.1, hlay.2.2.1, by omega⟩ hwW hS2 hAh2 hbk hdn (by omega) hn.1 hl3.2 (fun dn2 sz4 I4 L4 P4 hJ4 => ?_)
          exact ih (c + 1) dn2 sz4 T3 I4 L4 P4 bk3 R3 n3 ρ3 x3 (by omega) hJ4
