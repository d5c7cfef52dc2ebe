/-! the reference: sleepOf -/
def g_stk (L : q_I) (s : Nat) : List Int → Prop
  | [] => True
  | v :: t => L s t.length = v ∧ g_stk L s t
theorem g_stk_up {L : q_I} {s k : Nat} {v : Int} : ∀ {st : List Int}, g_stk L s st → st.length ≤ k → g_stk (u2 L s k v) s st
  | [], _, _ => trivial
  | w :: t, h, hk => by
    have hk' : t.length + 1 ≤ k := hk
    exact ⟨by rw [u2_k _ _ (by omega)]; exact h.1, g_stk_up h.2 (by omega)⟩
theorem g_len2 : ∀ {st : List Int}, 2 ≤ st.length → ∃ y x t, st = y :: x :: t
  | y :: x :: t, _ => ⟨y, x, t, rfl⟩
  | [_], h => by simp at h
  | [], h => by simp at h
theorem g_len4 : ∀ {st : List Int}, 4 ≤ st.length → ∃ y x b a t, st = y :: x :: b :: a :: t
  | y :: x :: b :: a :: t, _ => ⟨y, x, b, a, t, rfl⟩
  | [_, _, _], h => by simp at h
  | [_, _], h => by simp at h
  | [_], h => by simp at h
  | [], h => by simp at h
theorem g_op_lit {ce ag si le c : Int} {st : List Int} (h : 0 ≤ c) : g_op ce ag si le st c = c :: st := by
  unfold g_op
  exact if_pos h
theorem g_held_id {v : Int} (h : -1000000000000 ≤ v ∧ v ≤ 1000000000000) : g_held v = v := by unfold g_held; (repeat' split) <;> omega
set_option maxRecDepth 100000 in
theorem lX8_sleepOf {G : q_G} {F : q_F} {h : Nat} {Q : q_Q} {kc ks sz : Nat} {T : q_T} {m r a lw : Nat} {l : Int} {FIN : List Int} {I L : q_I} {P : q_P} (h3 : 3 ≤ h) (hF : q_ok G F YX8_sleepOf h) (hS : q_SM T P m) (hSA : q_A G m) (hR : T r = some (.inr (1, 1243))) (hi : a < 12) (hne : r ≠ m + 15) (he : (0 ≤ L r (1 + lw) ∧ L r (1 + lw) ≤ 900) ∧ lw < 200) (hce : -1000000000000 ≤ L r (1042 + 12 * a) ∧ L r (1042 + 12 * a) ≤ 999999999999) (hag : -1000000000000 ≤ L r (1044 + 12 * a) ∧ L r (1044 + 12 * a) ≤ 999999999999) (hsi : -1000000000000 ≤ L r (1045 + 12 * a) ∧ L r (1045 + 12 * a) ≤ 999999999999) (hle : -1000000000000 ≤ L r (1046 + 12 * a) ∧ L r (1046 + 12 * a) ≤ 999999999999) (k0 : ∀ (L' : q_I) (v : Int), (∀ q k, q ≠ m + 15 → L' q k = L q k) → FIN = [v] → -1000000000000 ≤ v ∧ v ≤ 1000000000000 → Q (.inl (some (qL (max 0 (min 600 v))))) sz T I L' P) : ∀ (n : Nat) (f i : Nat) (cs st : List Int) (L' : q_I), (L r (1 + lw)).toNat - i < n → g_dec (L r) f i (L r (1 + lw)).toNat = cs → (L r (1 + lw)).toNat - i < f → g_wf cs st.length → (∀ v ∈ st, -1000000000000 ≤ v ∧ v ≤ 1000000000000) → g_stk L' (m + 15) st → st.length ≤ i → i ≤ 902 → (∀ q k, q ≠ m + 15 → L' q k = L q k) → g_ev (L r (1042 + 12 * a)) (L r (1044 + 12 * a)) (L r (1045 + 12 * a)) (L r (1046 + 12 * a)) cs st = FIN → qX G F Q kc ks 23 [(6, qI (i : Int)), (5, qI (st.length : Int)), (4, qI (lw : Int)), (0, .ref m), (1, .ref r), (2, qI (a : Int)), (3, qI l)] [] sz T I L' P := by
  intro n
  induction n with
  | zero => intro f i cs st L' hn; exact absurd hn (Nat.not_lt_zero _)
  | succ n ih =>
    intro f i cs st L' hn hc hf hwf hb hst hlen hie hL hev
    refine q_iload hF 0 rfl dX8_sleepOf_23 ?_
    refine q_i2l hF (by omega) dX8_sleepOf_25 ?_
    refine q_aload_n hF 4 rfl rfl dX8_sleepOf_26 ?_
    refine q_iload hF 2 rfl dX8_sleepOf_27 ?_
    refine q_iconst hF dX8_sleepOf_29 ?_
    refine q_iadd hF dX8_sleepOf_30 ?_
    refine q_laloadv hF (z := L r (1 + lw)) (n := 1243) (1 + lw) hR (by omega) (by omega) (by decide) (hL _ _ hne) dX8_sleepOf_31 ?_
    refine q_cmpge hF (by omega) (by omega) dX8_sleepOf_32 dX8_sleepOf_33 (fun c33 => ?_) (fun c33 => ?_)
    · have hcs : cs = [] := by rw [← hc]; cases f <;> simp only [g_dec]; rw [if_neg (by omega)]
      subst hcs
      have hw1 : st.length = 1 := hwf
      obtain ⟨v, rfl⟩ : ∃ v, st = [v] := List.length_eq_one_iff.mp hw1
      have hbv := hb v (by simp)
      refine q_lconst hF (z := 0) rfl dX8_sleepOf_316 ?_
      refine q_ldc2 hF (n := 600) (q_mem 1618 (by decide +kernel) rfl) dX8_sleepOf_317 ?_
      refine q_aload_n hF 3 rfl rfl dX8_sleepOf_320 ?_
      refine q_getA hF fl_RX8_35 rfl hS.t0 hS.p18 dX8_sleepOf_321 ?_
      refine q_iconst hF dX8_sleepOf_324 ?_
      refine q_laloadv hF (z := v) (n := 900) 0 hS.t15 rfl (by decide) (by decide) hst.1 dX8_sleepOf_325 ?_
      refine q_callS (kc := kc) (ks := ks) (mc' := 0) (ms' := 0) (h' := 0) (st := [qL 0]) hF sl_RX8_119 rfl [qL 600, qL v] rfl rfl (by omega) (Nat.le_of_ble_eq_true rfl) dX8_sleepOf_326 ?_
      refine mX8_less (by decide) (by omega) ?_
      refine q_callS (kc := kc) (ks := ks) (mc' := 0) (ms' := 0) (h' := 0) (st := []) hF sl_RX8_292 rfl [qL 0, qL (min 600 v)] rfl rfl (by omega) (Nat.le_of_ble_eq_true rfl) dX8_sleepOf_329 ?_
      refine mX8_more (by decide) (by omega) ?_
      refine q_lreturn hF rfl dX8_sleepOf_332 ?_
      exact k0 L' v hL hev.symm hbv
    · obtain ⟨f, rfl⟩ : ∃ f', f = f' + 1 := ⟨f - 1, by omega⟩
      rw [g_dec, if_pos (by omega), Nat.add_comm i 1, Nat.add_comm i 2] at hc
      have hcr : 1 ≤ L r (139 + i) ∧ L r (139 + i) ≤ 11 := by
        by_cases q : L r (139 + i) = 1
        · omega
        · rw [if_neg q] at hc
          subst hc
          obtain ⟨w1, w2, -⟩ := hwf
          split at w1 <;> omega
      refine q_aload_n hF 4 rfl rfl dX8_sleepOf_36 ?_
      refine q_sipush hF (n := 139) rfl dX8_sleepOf_37 ?_
      refine q_iload hF 0 rfl dX8_sleepOf_40 ?_
      refine q_iadd hF dX8_sleepOf_42 ?_
      refine q_laloadv hF (z := L r (139 + i)) (n := 1243) (139 + i) hR (by omega) (by omega) (by decide) (hL _ _ hne) dX8_sleepOf_43 ?_
      refine q_l2i hF dX8_sleepOf_44 ?_
      refine q_istore hF (ls' := [(7, qI (L r (139 + i))), (6, qI (i : Int)), (5, qI (st.length : Int)), (4, qI (lw : Int)), (0, .ref m), (1, .ref r), (2, qI (a : Int)), (3, qI l)]) (by decide) rfl dX8_sleepOf_45 ?_
      refine q_iload hF 0 rfl dX8_sleepOf_47 ?_
      refine q_iconst hF dX8_sleepOf_49 ?_
      refine q_icmpne hF (by omega) (by decide) dX8_sleepOf_50 (fun c50 => ?_) (fun c50 => ?_)
      · rw [if_neg (by assumption)] at hc
        subst hc
        obtain ⟨w1, w2, w3⟩ := hwf
        have h0 : 2 ≤ L r (139 + i) := Decidable.byContradiction fun h => by rw [if_neg h] at w1; omega
        rw [if_pos h0] at w1 w2 w3 hev
        refine q_iload hF 0 rfl dX8_sleepOf_77 ?_
        refine q_bipush hF (n := 6) rfl dX8_sleepOf_79 ?_
        refine q_icmpge hF (by omega) (by decide) dX8_sleepOf_81 (fun c81 => ?_) (fun c81 => ?_)
        · refine q_iload hF 0 rfl dX8_sleepOf_135 ?_
          refine q_bipush hF (n := 11) rfl dX8_sleepOf_137 ?_
          refine q_icmpne hF (by omega) (by decide) dX8_sleepOf_139 (fun c139 => ?_) (fun c139 => ?_)
          · rw [if_neg (by omega), if_pos (by omega)] at w3
            obtain ⟨w4, w5⟩ := w3
            obtain ⟨y, x, t, rfl⟩ := g_len2 w4
            have hl4 : t.length + 2 ≤ i := hlen
            rw [show (((y :: x :: t).length : Nat) : Int) = ((2 + t.length : Nat) : Int) from by simp only [List.length_cons]; omega]
            have hby := hb y (by simp)
            have hbx := hb x (by simp)
            refine q_iinc hF (z' := ((1 + t.length : Nat) : Int)) (ls' := [(5, qI ((1 + t.length : Nat) : Int)), (7, qI (L r (139 + i))), (6, qI (i : Int)), (4, qI (lw : Int)), (0, .ref m), (1, .ref r), (2, qI (a : Int)), (3, qI l)]) 2 rfl (by first | rfl | omega) (by decide) rfl dX8_sleepOf_198 ?_
            refine q_aload_n hF 4 rfl rfl dX8_sleepOf_201 ?_
            refine q_getA hF fl_RX8_35 rfl hS.t0 hS.p18 dX8_sleepOf_202 ?_
            refine q_iload hF 0 rfl dX8_sleepOf_205 ?_
            refine q_iconst hF dX8_sleepOf_207 ?_
            refine q_isub hF dX8_sleepOf_208 ?_
            refine q_laloadv hF (z := x) (n := 900) t.length hS.t15 (by omega) (by omega) (by decide) (hst.2.1) dX8_sleepOf_209 ?_
            refine q_lstore hF (ls' := [(8, qL x), (5, qI ((1 + t.length : Nat) : Int)), (7, qI (L r (139 + i))), (6, qI (i : Int)), (4, qI (lw : Int)), (0, .ref m), (1, .ref r), (2, qI (a : Int)), (3, qI l)]) (by decide) rfl dX8_sleepOf_210 ?_
            refine q_aload_n hF 5 rfl rfl dX8_sleepOf_212 ?_
            refine q_getA hF fl_RX8_35 rfl hS.t0 hS.p18 dX8_sleepOf_213 ?_
            refine q_iload hF 1 rfl dX8_sleepOf_216 ?_
            refine q_laloadv hF (z := y) (n := 900) (1 + t.length) hS.t15 (by omega) (by omega) (by decide) (by rw [show 1 + t.length = t.length + 1 by omega]; exact hst.1) dX8_sleepOf_218 ?_
            refine q_lstore hF (ls' := [(10, qL y), (8, qL x), (5, qI ((1 + t.length : Nat) : Int)), (7, qI (L r (139 + i))), (6, qI (i : Int)), (4, qI (lw : Int)), (0, .ref m), (1, .ref r), (2, qI (a : Int)), (3, qI l)]) (by decide) rfl dX8_sleepOf_219 ?_
            refine q_aload_n hF 6 rfl rfl dX8_sleepOf_221 ?_
            refine q_getA hF fl_RX8_35 rfl hS.t0 hS.p18 dX8_sleepOf_222 ?_
            refine q_iload hF 2 rfl dX8_sleepOf_225 ?_
            refine q_iconst hF dX8_sleepOf_227 ?_
            refine q_isub hF dX8_sleepOf_228 ?_
            refine q_iload hF 3 rfl dX8_sleepOf_229 ?_
            refine q_bipush hF (n := 6) rfl dX8_sleepOf_231 ?_
            refine q_icmpne hF (by omega) (by decide) dX8_sleepOf_233 (fun c233 => ?_) (fun c233 => ?_)
            · refine q_iload hF 3 rfl dX8_sleepOf_247 ?_
              refine q_bipush hF (n := 7) rfl dX8_sleepOf_249 ?_
              refine q_icmpne hF (by omega) (by decide) dX8_sleepOf_251 (fun c251 => ?_) (fun c251 => ?_)
              · refine q_iload hF 3 rfl dX8_sleepOf_265 ?_
                refine q_bipush hF (n := 8) rfl dX8_sleepOf_267 ?_
                refine q_icmpne hF (by omega) (by decide) dX8_sleepOf_269 (fun c269 => ?_) (fun c269 => ?_)
                · refine q_iload hF 3 rfl dX8_sleepOf_282 ?_
                  refine q_bipush hF (n := 9) rfl dX8_sleepOf_284 ?_
                  refine q_icmpne hF (by omega) (by decide) dX8_sleepOf_286 (fun c286 => ?_) (fun c286 => ?_)
                  · refine q_lload hF 1 rfl dX8_sleepOf_302 ?_
                    refine q_lload hF 0 rfl dX8_sleepOf_304 ?_
                    refine q_callS (kc := kc) (ks := ks) (mc' := 0) (ms' := 0) (h' := 0) (st := [qI (((1 + t.length : Nat) : Int) - 1), .ref (m + 15)]) hF sl_RX8_119 rfl [qL x, qL y] rfl rfl (by omega) (Nat.le_of_ble_eq_true rfl) dX8_sleepOf_306 ?_
                    refine mX8_less (by omega) (by omega) ?_
                    refine q_lastorev hF (n := 900) t.length hS.t15 (q_Ale hSA (by omega)) (by omega) (by omega) (by decide) dX8_sleepOf_309 ?_
                    refine q_iinc hF (z' := ((1 + i : Nat) : Int)) (ls' := [(6, qI ((1 + i : Nat) : Int)), (10, qL y), (8, qL x), (5, qI ((1 + t.length : Nat) : Int)), (7, qI (L r (139 + i))), (4, qI (lw : Int)), (0, .ref m), (1, .ref r), (2, qI (a : Int)), (3, qI l)]) 4 rfl (by first | rfl | omega) (by decide) rfl dX8_sleepOf_310 ?_
                    refine q_goto hF dX8_sleepOf_313 ?_
                    refine q_sub [0, 3, 5, 6, 7, 8, 9] rfl ?_
                    rw [show ((1 + t.length : Nat) : Int) = (((min x y) :: t).length : Int) from by simp only [List.length_cons]; omega]
                    exact ih f (1 + i) _ ((min x y) :: t) _ (by omega) rfl (by omega) (by simpa using w5) (fun v hv => by rcases List.mem_cons.mp hv with rfl | hv; exact (by omega); exact hb v (by simp [hv])) ⟨u2_s _ _ _ _, g_stk_up hst.2.2 (Nat.le_refl _)⟩ (by simp only [List.length_cons]; omega) (by omega) (fun q k hq => by rw [u2_a _ _ hq]; exact hL q k hq) (by rw [← hev]; show g_ev (L r (1042 + 12 * a)) (L r (1044 + 12 * a)) (L r (1045 + 12 * a)) (L r (1046 + 12 * a)) _ _ = g_ev (L r (1042 + 12 * a)) (L r (1044 + 12 * a)) (L r (1045 + 12 * a)) (L r (1046 + 12 * a)) _ (g_op _ _ _ _ _ _); rw [show 1 - L r (139 + i) = -9 by omega]; rfl)
                  · refine q_lload hF 1 rfl dX8_sleepOf_289 ?_
                    refine q_lload hF 0 rfl dX8_sleepOf_291 ?_
                    refine q_callS (kc := kc) (ks := ks) (mc' := 0) (ms' := 0) (h' := 0) (st := [qI (((1 + t.length : Nat) : Int) - 1), .ref (m + 15)]) hF sl_RX8_287 rfl [qL x, qL y] rfl rfl (by omega) (Nat.le_of_ble_eq_true rfl) dX8_sleepOf_293 ?_
                    refine mX8_floor (by omega) (by omega) ?_
                    refine q_callS (kc := kc) (ks := ks) (mc' := 0) (ms' := 0) (h' := 0) (st := [qI (((1 + t.length : Nat) : Int) - 1), .ref (m + 15)]) hF sl_RX8_280 rfl [qL (if y = 0 then 0 else x.fdiv y)] rfl rfl (by omega) (Nat.le_of_ble_eq_true rfl) dX8_sleepOf_296 ?_
                    refine mX8_held (by have := g_fdiv_r (a := x) (b := y) (by omega); split <;> omega) ?_
                    refine q_goto hF dX8_sleepOf_299 ?_
                    refine q_lastorev hF (n := 900) t.length hS.t15 (q_Ale hSA (by omega)) (by omega) (by omega) (by decide) dX8_sleepOf_309 ?_
                    refine q_iinc hF (z' := ((1 + i : Nat) : Int)) (ls' := [(6, qI ((1 + i : Nat) : Int)), (10, qL y), (8, qL x), (5, qI ((1 + t.length : Nat) : Int)), (7, qI (L r (139 + i))), (4, qI (lw : Int)), (0, .ref m), (1, .ref r), (2, qI (a : Int)), (3, qI l)]) 4 rfl (by first | rfl | omega) (by decide) rfl dX8_sleepOf_310 ?_
                    refine q_goto hF dX8_sleepOf_313 ?_
                    refine q_sub [0, 3, 5, 6, 7, 8, 9] rfl ?_
                    rw [show ((1 + t.length : Nat) : Int) = (((g_held (if y = 0 then 0 else x.fdiv y)) :: t).length : Int) from by simp only [List.length_cons]; omega]
                    exact ih f (1 + i) _ ((g_held (if y = 0 then 0 else x.fdiv y)) :: t) _ (by omega) rfl (by omega) (by simpa using w5) (fun v hv => by rcases List.mem_cons.mp hv with rfl | hv; exact g_held_r _; exact hb v (by simp [hv])) ⟨u2_s _ _ _ _, g_stk_up hst.2.2 (Nat.le_refl _)⟩ (by simp only [List.length_cons]; omega) (by omega) (fun q k hq => by rw [u2_a _ _ hq]; exact hL q k hq) (by rw [← hev]; show g_ev (L r (1042 + 12 * a)) (L r (1044 + 12 * a)) (L r (1045 + 12 * a)) (L r (1046 + 12 * a)) _ _ = g_ev (L r (1042 + 12 * a)) (L r (1044 + 12 * a)) (L r (1045 + 12 * a)) (L r (1046 + 12 * a)) _ (g_op _ _ _ _ _ _); rw [show 1 - L r (139 + i) = -8 by omega]; exact congrArg (fun z => g_ev (L r (1042 + 12 * a)) (L r (1044 + 12 * a)) (L r (1045 + 12 * a)) (L r (1046 + 12 * a)) _ (z :: t)) (g_held_id (v := if y = 0 then 0 else x.fdiv y) (by split; decide; exact g_fdiv_r (by omega) (by assumption))))
                · refine q_lload hF 1 rfl dX8_sleepOf_272 ?_
                  refine q_lload hF 0 rfl dX8_sleepOf_274 ?_
                  refine q_callS (kc := kc) (ks := ks) (mc' := 0) (ms' := 0) (h' := 1) (st := [qI (((1 + t.length : Nat) : Int) - 1), .ref (m + 15)]) hF sl_RX8_284 rfl [qL x, qL y] rfl rfl (by omega) (Nat.le_of_ble_eq_true rfl) dX8_sleepOf_276 ?_
                  refine mX8_times (by omega) (by omega) ?_
                  refine q_goto hF dX8_sleepOf_279 ?_
                  refine q_lastorev hF (n := 900) t.length hS.t15 (q_Ale hSA (by omega)) (by omega) (by omega) (by decide) dX8_sleepOf_309 ?_
                  refine q_iinc hF (z' := ((1 + i : Nat) : Int)) (ls' := [(6, qI ((1 + i : Nat) : Int)), (10, qL y), (8, qL x), (5, qI ((1 + t.length : Nat) : Int)), (7, qI (L r (139 + i))), (4, qI (lw : Int)), (0, .ref m), (1, .ref r), (2, qI (a : Int)), (3, qI l)]) 4 rfl (by first | rfl | omega) (by decide) rfl dX8_sleepOf_310 ?_
                  refine q_goto hF dX8_sleepOf_313 ?_
                  refine q_sub [0, 3, 5, 6, 7, 8, 9] rfl ?_
                  rw [show ((1 + t.length : Nat) : Int) = (((g_held (x * y)) :: t).length : Int) from by simp only [List.length_cons]; omega]
                  exact ih f (1 + i) _ ((g_held (x * y)) :: t) _ (by omega) rfl (by omega) (by simpa using w5) (fun v hv => by rcases List.mem_cons.mp hv with rfl | hv; exact g_held_r _; exact hb v (by simp [hv])) ⟨u2_s _ _ _ _, g_stk_up hst.2.2 (Nat.le_refl _)⟩ (by simp only [List.length_cons]; omega) (by omega) (fun q k hq => by rw [u2_a _ _ hq]; exact hL q k hq) (by rw [← hev]; show g_ev (L r (1042 + 12 * a)) (L r (1044 + 12 * a)) (L r (1045 + 12 * a)) (L r (1046 + 12 * a)) _ _ = g_ev (L r (1042 + 12 * a)) (L r (1044 + 12 * a)) (L r (1045 + 12 * a)) (L r (1046 + 12 * a)) _ (g_op _ _ _ _ _ _); rw [show 1 - L r (139 + i) = -7 by omega]; rfl)
              · refine q_lload hF 1 rfl dX8_sleepOf_254 ?_
                refine q_lload hF 0 rfl dX8_sleepOf_256 ?_
                refine q_lsub hF dX8_sleepOf_258 ?_
                refine q_callS (kc := kc) (ks := ks) (mc' := 0) (ms' := 0) (h' := 0) (st := [qI (((1 + t.length : Nat) : Int) - 1), .ref (m + 15)]) hF sl_RX8_280 rfl [qL (x - y)] rfl rfl (by omega) (Nat.le_of_ble_eq_true rfl) dX8_sleepOf_259 ?_
                refine mX8_held (by omega) ?_
                refine q_goto hF dX8_sleepOf_262 ?_
                refine q_lastorev hF (n := 900) t.length hS.t15 (q_Ale hSA (by omega)) (by omega) (by omega) (by decide) dX8_sleepOf_309 ?_
                refine q_iinc hF (z' := ((1 + i : Nat) : Int)) (ls' := [(6, qI ((1 + i : Nat) : Int)), (10, qL y), (8, qL x), (5, qI ((1 + t.length : Nat) : Int)), (7, qI (L r (139 + i))), (4, qI (lw : Int)), (0, .ref m), (1, .ref r), (2, qI (a : Int)), (3, qI l)]) 4 rfl (by first | rfl | omega) (by decide) rfl dX8_sleepOf_310 ?_
                refine q_goto hF dX8_sleepOf_313 ?_
                refine q_sub [0, 3, 5, 6, 7, 8, 9] rfl ?_
                rw [show ((1 + t.length : Nat) : Int) = (((g_held (x - y)) :: t).length : Int) from by simp only [List.length_cons]; omega]
                exact ih f (1 + i) _ ((g_held (x - y)) :: t) _ (by omega) rfl (by omega) (by simpa using w5) (fun v hv => by rcases List.mem_cons.mp hv with rfl | hv; exact g_held_r _; exact hb v (by simp [hv])) ⟨u2_s _ _ _ _, g_stk_up hst.2.2 (Nat.le_refl _)⟩ (by simp only [List.length_cons]; omega) (by omega) (fun q k hq => by rw [u2_a _ _ hq]; exact hL q k hq) (by rw [← hev]; show g_ev (L r (1042 + 12 * a)) (L r (1044 + 12 * a)) (L r (1045 + 12 * a)) (L r (1046 + 12 * a)) _ _ = g_ev (L r (1042 + 12 * a)) (L r (1044 + 12 * a)) (L r (1045 + 12 * a)) (L r (1046 + 12 * a)) _ (g_op _ _ _ _ _ _); rw [show 1 - L r (139 + i) = -6 by omega]; rfl)
            · refine q_lload hF 1 rfl dX8_sleepOf_236 ?_
              refine q_lload hF 0 rfl dX8_sleepOf_238 ?_
              refine q_ladd hF dX8_sleepOf_240 ?_
              refine q_callS (kc := kc) (ks := ks) (mc' := 0) (ms' := 0) (h' := 0) (st := [qI (((1 + t.length : Nat) : Int) - 1), .ref (m + 15)]) hF sl_RX8_280 rfl [qL (x + y)] rfl rfl (by omega) (Nat.le_of_ble_eq_true rfl) dX8_sleepOf_241 ?_
              refine mX8_held (by omega) ?_
              refine q_goto hF dX8_sleepOf_244 ?_
              refine q_lastorev hF (n := 900) t.length hS.t15 (q_Ale hSA (by omega)) (by omega) (by omega) (by decide) dX8_sleepOf_309 ?_
              refine q_iinc hF (z' := ((1 + i : Nat) : Int)) (ls' := [(6, qI ((1 + i : Nat) : Int)), (10, qL y), (8, qL x), (5, qI ((1 + t.length : Nat) : Int)), (7, qI (L r (139 + i))), (4, qI (lw : Int)), (0, .ref m), (1, .ref r), (2, qI (a : Int)), (3, qI l)]) 4 rfl (by first | rfl | omega) (by decide) rfl dX8_sleepOf_310 ?_
              refine q_goto hF dX8_sleepOf_313 ?_
              refine q_sub [0, 3, 5, 6, 7, 8, 9] rfl ?_
              rw [show ((1 + t.length : Nat) : Int) = (((g_held (x + y)) :: t).length : Int) from by simp only [List.length_cons]; omega]
              exact ih f (1 + i) _ ((g_held (x + y)) :: t) _ (by omega) rfl (by omega) (by simpa using w5) (fun v hv => by rcases List.mem_cons.mp hv with rfl | hv; exact g_held_r _; exact hb v (by simp [hv])) ⟨u2_s _ _ _ _, g_stk_up hst.2.2 (Nat.le_refl _)⟩ (by simp only [List.length_cons]; omega) (by omega) (fun q k hq => by rw [u2_a _ _ hq]; exact hL q k hq) (by rw [← hev]; show g_ev (L r (1042 + 12 * a)) (L r (1044 + 12 * a)) (L r (1045 + 12 * a)) (L r (1046 + 12 * a)) _ _ = g_ev (L r (1042 + 12 * a)) (L r (1044 + 12 * a)) (L r (1045 + 12 * a)) (L r (1046 + 12 * a)) _ (g_op _ _ _ _ _ _); rw [show 1 - L r (139 + i) = -5 by omega]; rfl)
          · rw [if_neg (by omega), if_neg (by omega)] at w3
            obtain ⟨w4, w5⟩ := w3
            obtain ⟨y, x, b, a2, t, rfl⟩ := g_len4 w4
            have hl4 : t.length + 4 ≤ i := hlen
            rw [show (((y :: x :: b :: a2 :: t).length : Nat) : Int) = ((4 + t.length : Nat) : Int) from by simp only [List.length_cons]; omega]
            have hby := hb y (by simp)
            have hbx := hb x (by simp)
            have hbb := hb b (by simp)
            have hba := hb a2 (by simp)
            refine q_iinc hF (z' := ((1 + t.length : Nat) : Int)) (ls' := [(5, qI ((1 + t.length : Nat) : Int)), (7, qI (L r (139 + i))), (6, qI (i : Int)), (4, qI (lw : Int)), (0, .ref m), (1, .ref r), (2, qI (a : Int)), (3, qI l)]) 2 rfl (by first | rfl | omega) (by decide) rfl dX8_sleepOf_142 ?_
            refine q_aload_n hF 4 rfl rfl dX8_sleepOf_145 ?_
            refine q_getA hF fl_RX8_35 rfl hS.t0 hS.p18 dX8_sleepOf_146 ?_
            refine q_iload hF 0 rfl dX8_sleepOf_149 ?_
            refine q_iconst hF dX8_sleepOf_151 ?_
            refine q_isub hF dX8_sleepOf_152 ?_
            refine q_aload_n hF 4 rfl rfl dX8_sleepOf_153 ?_
            refine q_getA hF fl_RX8_35 rfl hS.t0 hS.p18 dX8_sleepOf_154 ?_
            refine q_iload hF 0 rfl dX8_sleepOf_157 ?_
            refine q_iconst hF dX8_sleepOf_159 ?_
            refine q_isub hF dX8_sleepOf_160 ?_
            refine q_laloadv hF (z := a2) (n := 900) t.length hS.t15 (by omega) (by omega) (by decide) (hst.2.2.2.1) dX8_sleepOf_161 ?_
            refine q_aload_n hF 4 rfl rfl dX8_sleepOf_162 ?_
            refine q_getA hF fl_RX8_35 rfl hS.t0 hS.p18 dX8_sleepOf_163 ?_
            refine q_iload hF 0 rfl dX8_sleepOf_166 ?_
            refine q_laloadv hF (z := b) (n := 900) (1 + t.length) hS.t15 (by omega) (by omega) (by decide) (by rw [show 1 + t.length = t.length + 1 by omega]; exact hst.2.2.1) dX8_sleepOf_168 ?_
            refine q_cmpge hF (by omega) (by omega) dX8_sleepOf_169 dX8_sleepOf_170 (fun c170 => ?_) (fun c170 => ?_)
            · refine q_aload_n hF 4 rfl rfl dX8_sleepOf_185 ?_
              refine q_getA hF fl_RX8_35 rfl hS.t0 hS.p18 dX8_sleepOf_186 ?_
              refine q_iload hF 0 rfl dX8_sleepOf_189 ?_
              refine q_iconst hF dX8_sleepOf_191 ?_
              refine q_iadd hF dX8_sleepOf_192 ?_
              refine q_laloadv hF (z := y) (n := 900) (3 + t.length) hS.t15 (by omega) (by omega) (by decide) (by rw [show 3 + t.length = t.length + 3 by omega]; exact hst.1) dX8_sleepOf_193 ?_
              refine q_lastorev hF (n := 900) t.length hS.t15 (q_Ale hSA (by omega)) (by omega) (by omega) (by decide) dX8_sleepOf_194 ?_
              refine q_goto hF dX8_sleepOf_195 ?_
              refine q_iinc hF (z' := ((1 + i : Nat) : Int)) (ls' := [(6, qI ((1 + i : Nat) : Int)), (5, qI ((1 + t.length : Nat) : Int)), (7, qI (L r (139 + i))), (4, qI (lw : Int)), (0, .ref m), (1, .ref r), (2, qI (a : Int)), (3, qI l)]) 2 rfl (by first | rfl | omega) (by decide) rfl dX8_sleepOf_310 ?_
              refine q_goto hF dX8_sleepOf_313 ?_
              refine q_sub [0, 1, 3, 4, 5, 6, 7] rfl ?_
              rw [show ((1 + t.length : Nat) : Int) = (((y) :: t).length : Int) from by simp only [List.length_cons]; omega]
              exact ih f (1 + i) _ ((y) :: t) _ (by omega) rfl (by omega) (by simpa using w5) (fun v hv => by rcases List.mem_cons.mp hv with rfl | hv; exact (by omega); exact hb v (by simp [hv])) ⟨u2_s _ _ _ _, g_stk_up hst.2.2.2.2 (Nat.le_refl _)⟩ (by simp only [List.length_cons]; omega) (by omega) (fun q k hq => by rw [u2_a _ _ hq]; exact hL q k hq) (by rw [← hev]; show g_ev (L r (1042 + 12 * a)) (L r (1044 + 12 * a)) (L r (1045 + 12 * a)) (L r (1046 + 12 * a)) _ _ = g_ev (L r (1042 + 12 * a)) (L r (1044 + 12 * a)) (L r (1045 + 12 * a)) (L r (1046 + 12 * a)) _ (g_op _ _ _ _ _ _); rw [show 1 - L r (139 + i) = -10 by omega]; exact (congrArg (fun z => g_ev (L r (1042 + 12 * a)) (L r (1044 + 12 * a)) (L r (1045 + 12 * a)) (L r (1046 + 12 * a)) _ (z :: t)) (if_neg (by omega))).symm)
            · refine q_aload_n hF 4 rfl rfl dX8_sleepOf_173 ?_
              refine q_getA hF fl_RX8_35 rfl hS.t0 hS.p18 dX8_sleepOf_174 ?_
              refine q_iload hF 0 rfl dX8_sleepOf_177 ?_
              refine q_iconst hF dX8_sleepOf_179 ?_
              refine q_iadd hF dX8_sleepOf_180 ?_
              refine q_laloadv hF (z := x) (n := 900) (2 + t.length) hS.t15 (by omega) (by omega) (by decide) (by rw [show 2 + t.length = t.length + 2 by omega]; exact hst.2.1) dX8_sleepOf_181 ?_
              refine q_goto hF dX8_sleepOf_182 ?_
              refine q_lastorev hF (n := 900) t.length hS.t15 (q_Ale hSA (by omega)) (by omega) (by omega) (by decide) dX8_sleepOf_194 ?_
              refine q_goto hF dX8_sleepOf_195 ?_
              refine q_iinc hF (z' := ((1 + i : Nat) : Int)) (ls' := [(6, qI ((1 + i : Nat) : Int)), (5, qI ((1 + t.length : Nat) : Int)), (7, qI (L r (139 + i))), (4, qI (lw : Int)), (0, .ref m), (1, .ref r), (2, qI (a : Int)), (3, qI l)]) 2 rfl (by first | rfl | omega) (by decide) rfl dX8_sleepOf_310 ?_
              refine q_goto hF dX8_sleepOf_313 ?_
              refine q_sub [0, 1, 3, 4, 5, 6, 7] rfl ?_
              rw [show ((1 + t.length : Nat) : Int) = (((x) :: t).length : Int) from by simp only [List.length_cons]; omega]
              exact ih f (1 + i) _ ((x) :: t) _ (by omega) rfl (by omega) (by simpa using w5) (fun v hv => by rcases List.mem_cons.mp hv with rfl | hv; exact (by omega); exact hb v (by simp [hv])) ⟨u2_s _ _ _ _, g_stk_up hst.2.2.2.2 (Nat.le_refl _)⟩ (by simp only [List.length_cons]; omega) (by omega) (fun q k hq => by rw [u2_a _ _ hq]; exact hL q k hq) (by rw [← hev]; show g_ev (L r (1042 + 12 * a)) (L r (1044 + 12 * a)) (L r (1045 + 12 * a)) (L r (1046 + 12 * a)) _ _ = g_ev (L r (1042 + 12 * a)) (L r (1044 + 12 * a)) (L r (1045 + 12 * a)) (L r (1046 + 12 * a)) _ (g_op _ _ _ _ _ _); rw [show 1 - L r (139 + i) = -10 by omega]; exact (congrArg (fun z => g_ev (L r (1042 + 12 * a)) (L r (1044 + 12 * a)) (L r (1045 + 12 * a)) (L r (1046 + 12 * a)) _ (z :: t)) (if_pos ‹_›)).symm)
        · rw [if_pos (by omega)] at w3
          refine q_aload_n hF 4 rfl rfl dX8_sleepOf_84 ?_
          refine q_getA hF fl_RX8_35 rfl hS.t0 hS.p18 dX8_sleepOf_85 ?_
          refine q_iload hF 2 rfl dX8_sleepOf_88 ?_
          refine q_aload_n hF 5 rfl rfl dX8_sleepOf_90 ?_
          refine q_iload_n hF 6 rfl rfl dX8_sleepOf_91 ?_
          refine q_iload hF 0 rfl dX8_sleepOf_92 ?_
          refine q_iconst hF dX8_sleepOf_94 ?_
          refine q_icmpne hF (by omega) (by decide) dX8_sleepOf_95 (fun c95 => ?_) (fun c95 => ?_)
          · refine q_iload hF 0 rfl dX8_sleepOf_102 ?_
            refine q_iconst hF dX8_sleepOf_104 ?_
            refine q_icmpne hF (by omega) (by decide) dX8_sleepOf_105 (fun c105 => ?_) (fun c105 => ?_)
            · refine q_iload hF 0 rfl dX8_sleepOf_112 ?_
              refine q_iconst hF dX8_sleepOf_114 ?_
              refine q_icmpne hF (by omega) (by decide) dX8_sleepOf_115 (fun c115 => ?_) (fun c115 => ?_)
              · refine q_bipush hF (n := 7) rfl dX8_sleepOf_123 ?_
                refine q_callS (kc := kc) (ks := ks) (mc' := 0) (ms' := 0) (h' := 1) (st := [qI (st.length : Int), .ref (m + 15)]) hF sl_RX8_268 rfl [.ref r, qI (a : Int), qI 7] rfl rfl (by omega) (Nat.le_of_ble_eq_true rfl) dX8_sleepOf_125 ?_
                refine mX8_of (j := (1046 + 12 * a)) hR (by omega) (by omega) ?_
                rw [show L' r (1046 + 12 * a) = L r (1046 + 12 * a) from (hL _ _ hne)]
                refine q_lastorev hF (n := 900) st.length hS.t15 (q_Ale hSA (by omega)) (by omega) (by omega) (by decide) dX8_sleepOf_128 ?_
                refine q_iinc hF (z' := ((1 + st.length : Nat) : Int)) (ls' := [(5, qI ((1 + st.length : Nat) : Int)), (7, qI (L r (139 + i))), (6, qI (i : Int)), (4, qI (lw : Int)), (0, .ref m), (1, .ref r), (2, qI (a : Int)), (3, qI l)]) 2 rfl (by first | rfl | omega) (by decide) rfl dX8_sleepOf_129 ?_
                refine q_goto hF dX8_sleepOf_132 ?_
                refine q_iinc hF (z' := ((1 + i : Nat) : Int)) (ls' := [(6, qI ((1 + i : Nat) : Int)), (5, qI ((1 + st.length : Nat) : Int)), (7, qI (L r (139 + i))), (4, qI (lw : Int)), (0, .ref m), (1, .ref r), (2, qI (a : Int)), (3, qI l)]) 2 rfl (by first | rfl | omega) (by decide) rfl dX8_sleepOf_310 ?_
                refine q_goto hF dX8_sleepOf_313 ?_
                refine q_sub [0, 1, 3, 4, 5, 6, 7] rfl ?_
                rw [show ((1 + st.length : Nat) : Int) = (((L r (1046 + 12 * a)) :: st).length : Int) from by simp only [List.length_cons]; omega]
                exact ih f (1 + i) _ ((L r (1046 + 12 * a)) :: st) _ (by omega) rfl (by omega) w3 (fun v hv => by rcases List.mem_cons.mp hv with rfl | hv; exact (by omega); exact hb v hv) ⟨u2_s _ _ _ _, g_stk_up hst (Nat.le_refl _)⟩ (by simp only [List.length_cons]; omega) (by omega) (fun q k hq => by rw [u2_a _ _ hq]; exact hL q k hq) (by rw [← hev]; show g_ev (L r (1042 + 12 * a)) (L r (1044 + 12 * a)) (L r (1045 + 12 * a)) (L r (1046 + 12 * a)) _ _ = g_ev (L r (1042 + 12 * a)) (L r (1044 + 12 * a)) (L r (1045 + 12 * a)) (L r (1046 + 12 * a)) _ (g_op _ _ _ _ _ _); rw [show 1 - L r (139 + i) = -4 by omega]; rfl)
              · refine q_bipush hF (n := 6) rfl dX8_sleepOf_118 ?_
                refine q_goto hF dX8_sleepOf_120 ?_
                refine q_callS (kc := kc) (ks := ks) (mc' := 0) (ms' := 0) (h' := 1) (st := [qI (st.length : Int), .ref (m + 15)]) hF sl_RX8_268 rfl [.ref r, qI (a : Int), qI 6] rfl rfl (by omega) (Nat.le_of_ble_eq_true rfl) dX8_sleepOf_125 ?_
                refine mX8_of (j := (1045 + 12 * a)) hR (by omega) (by omega) ?_
                rw [show L' r (1045 + 12 * a) = L r (1045 + 12 * a) from (hL _ _ hne)]
                refine q_lastorev hF (n := 900) st.length hS.t15 (q_Ale hSA (by omega)) (by omega) (by omega) (by decide) dX8_sleepOf_128 ?_
                refine q_iinc hF (z' := ((1 + st.length : Nat) : Int)) (ls' := [(5, qI ((1 + st.length : Nat) : Int)), (7, qI (L r (139 + i))), (6, qI (i : Int)), (4, qI (lw : Int)), (0, .ref m), (1, .ref r), (2, qI (a : Int)), (3, qI l)]) 2 rfl (by first | rfl | omega) (by decide) rfl dX8_sleepOf_129 ?_
                refine q_goto hF dX8_sleepOf_132 ?_
                refine q_iinc hF (z' := ((1 + i : Nat) : Int)) (ls' := [(6, qI ((1 + i : Nat) : Int)), (5, qI ((1 + st.length : Nat) : Int)), (7, qI (L r (139 + i))), (4, qI (lw : Int)), (0, .ref m), (1, .ref r), (2, qI (a : Int)), (3, qI l)]) 2 rfl (by first | rfl | omega) (by decide) rfl dX8_sleepOf_310 ?_
                refine q_goto hF dX8_sleepOf_313 ?_
                refine q_sub [0, 1, 3, 4, 5, 6, 7] rfl ?_
                rw [show ((1 + st.length : Nat) : Int) = (((L r (1045 + 12 * a)) :: st).length : Int) from by simp only [List.length_cons]; omega]
                exact ih f (1 + i) _ ((L r (1045 + 12 * a)) :: st) _ (by omega) rfl (by omega) w3 (fun v hv => by rcases List.mem_cons.mp hv with rfl | hv; exact (by omega); exact hb v hv) ⟨u2_s _ _ _ _, g_stk_up hst (Nat.le_refl _)⟩ (by simp only [List.length_cons]; omega) (by omega) (fun q k hq => by rw [u2_a _ _ hq]; exact hL q k hq) (by rw [← hev]; show g_ev (L r (1042 + 12 * a)) (L r (1044 + 12 * a)) (L r (1045 + 12 * a)) (L r (1046 + 12 * a)) _ _ = g_ev (L r (1042 + 12 * a)) (L r (1044 + 12 * a)) (L r (1045 + 12 * a)) (L r (1046 + 12 * a)) _ (g_op _ _ _ _ _ _); rw [show 1 - L r (139 + i) = -3 by omega]; rfl)
            · refine q_iconst hF dX8_sleepOf_108 ?_
              refine q_goto hF dX8_sleepOf_109 ?_
              refine q_callS (kc := kc) (ks := ks) (mc' := 0) (ms' := 0) (h' := 1) (st := [qI (st.length : Int), .ref (m + 15)]) hF sl_RX8_268 rfl [.ref r, qI (a : Int), qI 5] rfl rfl (by omega) (Nat.le_of_ble_eq_true rfl) dX8_sleepOf_125 ?_
              refine mX8_of (j := (1044 + 12 * a)) hR (by omega) (by omega) ?_
              rw [show L' r (1044 + 12 * a) = L r (1044 + 12 * a) from (hL _ _ hne)]
              refine q_lastorev hF (n := 900) st.length hS.t15 (q_Ale hSA (by omega)) (by omega) (by omega) (by decide) dX8_sleepOf_128 ?_
              refine q_iinc hF (z' := ((1 + st.length : Nat) : Int)) (ls' := [(5, qI ((1 + st.length : Nat) : Int)), (7, qI (L r (139 + i))), (6, qI (i : Int)), (4, qI (lw : Int)), (0, .ref m), (1, .ref r), (2, qI (a : Int)), (3, qI l)]) 2 rfl (by first | rfl | omega) (by decide) rfl dX8_sleepOf_129 ?_
              refine q_goto hF dX8_sleepOf_132 ?_
              refine q_iinc hF (z' := ((1 + i : Nat) : Int)) (ls' := [(6, qI ((1 + i : Nat) : Int)), (5, qI ((1 + st.length : Nat) : Int)), (7, qI (L r (139 + i))), (4, qI (lw : Int)), (0, .ref m), (1, .ref r), (2, qI (a : Int)), (3, qI l)]) 2 rfl (by first | rfl | omega) (by decide) rfl dX8_sleepOf_310 ?_
              refine q_goto hF dX8_sleepOf_313 ?_
              refine q_sub [0, 1, 3, 4, 5, 6, 7] rfl ?_
              rw [show ((1 + st.length : Nat) : Int) = (((L r (1044 + 12 * a)) :: st).length : Int) from by simp only [List.length_cons]; omega]
              exact ih f (1 + i) _ ((L r (1044 + 12 * a)) :: st) _ (by omega) rfl (by omega) w3 (fun v hv => by rcases List.mem_cons.mp hv with rfl | hv; exact (by omega); exact hb v hv) ⟨u2_s _ _ _ _, g_stk_up hst (Nat.le_refl _)⟩ (by simp only [List.length_cons]; omega) (by omega) (fun q k hq => by rw [u2_a _ _ hq]; exact hL q k hq) (by rw [← hev]; show g_ev (L r (1042 + 12 * a)) (L r (1044 + 12 * a)) (L r (1045 + 12 * a)) (L r (1046 + 12 * a)) _ _ = g_ev (L r (1042 + 12 * a)) (L r (1044 + 12 * a)) (L r (1045 + 12 * a)) (L r (1046 + 12 * a)) _ (g_op _ _ _ _ _ _); rw [show 1 - L r (139 + i) = -2 by omega]; rfl)
          · refine q_iconst hF dX8_sleepOf_98 ?_
            refine q_goto hF dX8_sleepOf_99 ?_
            refine q_callS (kc := kc) (ks := ks) (mc' := 0) (ms' := 0) (h' := 1) (st := [qI (st.length : Int), .ref (m + 15)]) hF sl_RX8_268 rfl [.ref r, qI (a : Int), qI 3] rfl rfl (by omega) (Nat.le_of_ble_eq_true rfl) dX8_sleepOf_125 ?_
            refine mX8_of (j := (1042 + 12 * a)) hR (by omega) (by omega) ?_
            rw [show L' r (1042 + 12 * a) = L r (1042 + 12 * a) from (hL _ _ hne)]
            refine q_lastorev hF (n := 900) st.length hS.t15 (q_Ale hSA (by omega)) (by omega) (by omega) (by decide) dX8_sleepOf_128 ?_
            refine q_iinc hF (z' := ((1 + st.length : Nat) : Int)) (ls' := [(5, qI ((1 + st.length : Nat) : Int)), (7, qI (L r (139 + i))), (6, qI (i : Int)), (4, qI (lw : Int)), (0, .ref m), (1, .ref r), (2, qI (a : Int)), (3, qI l)]) 2 rfl (by first | rfl | omega) (by decide) rfl dX8_sleepOf_129 ?_
            refine q_goto hF dX8_sleepOf_132 ?_
            refine q_iinc hF (z' := ((1 + i : Nat) : Int)) (ls' := [(6, qI ((1 + i : Nat) : Int)), (5, qI ((1 + st.length : Nat) : Int)), (7, qI (L r (139 + i))), (4, qI (lw : Int)), (0, .ref m), (1, .ref r), (2, qI (a : Int)), (3, qI l)]) 2 rfl (by first | rfl | omega) (by decide) rfl dX8_sleepOf_310 ?_
            refine q_goto hF dX8_sleepOf_313 ?_
            refine q_sub [0, 1, 3, 4, 5, 6, 7] rfl ?_
            rw [show ((1 + st.length : Nat) : Int) = (((L r (1042 + 12 * a)) :: st).length : Int) from by simp only [List.length_cons]; omega]
            exact ih f (1 + i) _ ((L r (1042 + 12 * a)) :: st) _ (by omega) rfl (by omega) w3 (fun v hv => by rcases List.mem_cons.mp hv with rfl | hv; exact (by omega); exact hb v hv) ⟨u2_s _ _ _ _, g_stk_up hst (Nat.le_refl _)⟩ (by simp only [List.length_cons]; omega) (by omega) (fun q k hq => by rw [u2_a _ _ hq]; exact hL q k hq) (by rw [← hev]; show g_ev (L r (1042 + 12 * a)) (L r (1044 + 12 * a)) (L r (1045 + 12 * a)) (L r (1046 + 12 * a)) _ _ = g_ev (L r (1042 + 12 * a)) (L r (1044 + 12 * a)) (L r (1045 + 12 * a)) (L r (1046 + 12 * a)) _ (g_op _ _ _ _ _ _); rw [show 1 - L r (139 + i) = -1 by omega]; rfl)
      · rw [if_pos (by assumption)] at hc
        subst hc
        obtain ⟨w1, w2, w3⟩ := hwf
        have h0 : 1 + i < (L r (1 + lw)).toNat ∧ 0 ≤ L r (140 + i) := Decidable.byContradiction fun h => by rw [if_neg h] at w1; omega
        rw [if_pos h0] at w1 w2 w3 hev
        rw [if_pos (by omega)] at w3
        refine q_iinc hF (z' := ((1 + i : Nat) : Int)) (ls' := [(6, qI ((1 + i : Nat) : Int)), (7, qI (L r (139 + i))), (5, qI (st.length : Int)), (4, qI (lw : Int)), (0, .ref m), (1, .ref r), (2, qI (a : Int)), (3, qI l)]) 1 rfl (by first | rfl | omega) (by decide) rfl dX8_sleepOf_53 ?_
        refine q_aload_n hF 4 rfl rfl dX8_sleepOf_56 ?_
        refine q_getA hF fl_RX8_35 rfl hS.t0 hS.p18 dX8_sleepOf_57 ?_
        refine q_iload hF 2 rfl dX8_sleepOf_60 ?_
        refine q_aload_n hF 5 rfl rfl dX8_sleepOf_62 ?_
        refine q_sipush hF (n := 139) rfl dX8_sleepOf_63 ?_
        refine q_iload hF 0 rfl dX8_sleepOf_66 ?_
        refine q_iadd hF dX8_sleepOf_68 ?_
        refine q_laloadv hF (z := L r (140 + i)) (n := 1243) (140 + i) hR (by omega) (by omega) (by decide) (hL _ _ hne) dX8_sleepOf_69 ?_
        refine q_lastorev hF (n := 900) st.length hS.t15 (q_Ale hSA (by omega)) (by omega) (by omega) (by decide) dX8_sleepOf_70 ?_
        refine q_iinc hF (z' := ((1 + st.length : Nat) : Int)) (ls' := [(5, qI ((1 + st.length : Nat) : Int)), (6, qI ((1 + i : Nat) : Int)), (7, qI (L r (139 + i))), (4, qI (lw : Int)), (0, .ref m), (1, .ref r), (2, qI (a : Int)), (3, qI l)]) 2 rfl (by first | rfl | omega) (by decide) rfl dX8_sleepOf_71 ?_
        refine q_goto hF dX8_sleepOf_74 ?_
        refine q_iinc hF (z' := ((2 + i : Nat) : Int)) (ls' := [(6, qI ((2 + i : Nat) : Int)), (5, qI ((1 + st.length : Nat) : Int)), (7, qI (L r (139 + i))), (4, qI (lw : Int)), (0, .ref m), (1, .ref r), (2, qI (a : Int)), (3, qI l)]) 1 rfl (by first | rfl | omega) (by decide) rfl dX8_sleepOf_310 ?_
        refine q_goto hF dX8_sleepOf_313 ?_
        refine q_sub [0, 1, 3, 4, 5, 6, 7] rfl ?_
        rw [show ((1 + st.length : Nat) : Int) = (((L r (140 + i)) :: st).length : Int) from by simp only [List.length_cons]; omega]
        exact ih f (2 + i) _ ((L r (140 + i)) :: st) _ (by omega) rfl (by omega) w3 (fun v hv => by rcases List.mem_cons.mp hv with rfl | hv; exact (by omega); exact hb v hv) ⟨u2_s _ _ _ _, g_stk_up hst (Nat.le_refl _)⟩ (by have := hlen; simp only [List.length_cons]; omega) (by omega) (fun q k hq => by rw [u2_a _ _ hq]; exact hL q k hq) (by rw [← hev]; show g_ev (L r (1042 + 12 * a)) (L r (1044 + 12 * a)) (L r (1045 + 12 * a)) (L r (1046 + 12 * a)) _ _ = g_ev (L r (1042 + 12 * a)) (L r (1044 + 12 * a)) (L r (1045 + 12 * a)) (L r (1046 + 12 * a)) _ (g_op _ _ _ _ _ _); rw [g_op_lit h0.2])
set_option maxRecDepth 100000 in
theorem mX8_sleepOf {G : q_G} {sz : Nat} {T : q_T} {I L : q_I} {P : q_P} {Q : q_Q} {m : Nat} {r : Nat} {l : Int} {a : Nat} {bd : Int} (hS : q_SM T P m) (hSA : q_A G m) (hR : T r = some (.inr (1, 1243))) (hi : a < 12) (hv : g_V0 (L r)) (ha : g_VA (L r) a bd) (hbd : bd ≤ 7000) (hl : 0 ≤ l ∧ l ≤ 4) (htk : 0 < L r (g_law (L r (1039 + 12 * a)) l + 1)) (hne : r ≠ m + 15) (k0 : ∀ (L' : q_I), (∀ q k, q ≠ m + 15 → L' q k = L q k) → Q (.inl (some (qL (g_sleep (L r) a l)))) sz T I L' P) : qC G 3 0 0 YX8_sleepOf [.ref m, .ref r, qI (a : Int), qI l] sz T I L P Q := by
  refine qC_of (by decide +kernel) rfl rfl (Nat.le_of_ble_eq_true rfl) (fun F hF _ _ => ?_)
  obtain ⟨q, hq1, hq2, hq3⟩ := g_law_q ha.kind hl
  obtain ⟨lw, hlw⟩ : ∃ lw, lw = 89 + 2 * q := ⟨_, rfl⟩
  refine q_aload_n hF 1 rfl rfl dX8_sleepOf_0 ?_
  refine q_iload_n hF 2 rfl rfl dX8_sleepOf_1 ?_
  refine q_iconst hF dX8_sleepOf_2 ?_
  refine q_callS (kc := 0) (ks := 0) (mc' := 0) (ms' := 0) (h' := 1) (st := []) hF sl_RX8_268 rfl [.ref r, qI (a : Int), qI 0] rfl rfl (by decide) (Nat.le_of_ble_eq_true rfl) dX8_sleepOf_3 ?_
  refine mX8_of (j := (1039 + 12 * a)) hR (by omega) (by omega) ?_
  refine q_l2i hF dX8_sleepOf_6 ?_
  refine q_iload_n hF 3 rfl rfl dX8_sleepOf_7 ?_
  refine q_callS (kc := 0) (ks := 0) (mc' := 0) (ms' := 0) (h' := 0) (st := []) hF sl_RX8_226 rfl [qI (L r (1039 + 12 * a)), qI l] rfl rfl (by decide) (Nat.le_of_ble_eq_true rfl) dX8_sleepOf_8 ?_
  refine mX8_lawAt' (j := lw) (by omega) ?_
  refine q_istore hF (ls' := [(4, qI (lw : Int)), (0, .ref m), (1, .ref r), (2, qI (a : Int)), (3, qI l)]) (by decide) rfl dX8_sleepOf_11 ?_
  refine q_iconst hF dX8_sleepOf_13 ?_
  refine q_istore hF (ls' := [(5, qI 0), (4, qI (lw : Int)), (0, .ref m), (1, .ref r), (2, qI (a : Int)), (3, qI l)]) (by decide) rfl dX8_sleepOf_14 ?_
  refine q_aload_n hF 3 rfl rfl dX8_sleepOf_16 ?_
  refine q_iload hF 1 rfl dX8_sleepOf_17 ?_
  refine q_laloadv hF (z := L r lw) (n := 1243) lw hR rfl (by omega) (by decide) rfl dX8_sleepOf_19 ?_
  refine q_l2i hF dX8_sleepOf_20 ?_
  refine q_istore hF (ls' := [(6, qI (L r lw)), (5, qI 0), (4, qI (lw : Int)), (0, .ref m), (1, .ref r), (2, qI (a : Int)), (3, qI l)]) (by decide) rfl dX8_sleepOf_21 ?_
  rw [hlw]
  rw [show (L r (89 + 2 * q)) = ((L r (89 + 2 * q)).toNat : Int) from by have := hv.law q hq1 (by rw [hq3, show 89 + 2 * q + 1 = 90 + 2 * q by omega] at htk; exact htk); omega]
  have f1 := ha.kind
  have f2 := ha.cents
  have f3 := ha.age
  have f4 := ha.since
  have f5 := ha.wrote
  have f6 := hv.month
  have hq4 := hv.laws q hq1
  have hq5 := hv.law q hq1 (by rw [hq3, show 89 + 2 * q + 1 = 90 + 2 * q by omega] at htk; exact htk)
  have hq6 : 1 + (89 + 2 * q) = 90 + 2 * q := by omega
  have hq7 : (0 ≤ L r (1 + (89 + 2 * q)) ∧ L r (1 + (89 + 2 * q)) ≤ 900) ∧ 89 + 2 * q < 200 := by rw [hq6]; omega
  have hcd : g_codes (L r) a l = g_dec (L r) 901 (L r (89 + 2 * q)).toNat (L r (90 + 2 * q)).toNat := by unfold g_codes; rw [hq3, show 89 + 2 * q + 1 = 90 + 2 * q by omega]
  refine lX8_sleepOf (lw := 89 + 2 * q) (l := l) (FIN := g_ev (L r (1042 + 12 * a)) (L r (1044 + 12 * a)) (L r (1045 + 12 * a)) (L r (1046 + 12 * a)) (g_codes (L r) a l) []) (I := I) (L := L) (P := P) (by decide) hF hS hSA hR hi hne hq7 (by omega) (by omega) (by omega) (by omega) (fun L' v h1 h2 h3 => ?_) 1000 901 (L r (89 + 2 * q)).toNat _ [] L (by omega) rfl (by omega) ?_ (fun v hv => absurd hv List.not_mem_nil) trivial (Nat.zero_le _) (by omega) (fun _ _ _ => rfl) ?_
  · rw [show max 0 (min 600 v) = g_sleep (L r) a l from by unfold g_sleep; rw [h2]; rfl]
    exact k0 L' h1
  · rw [hq6]; exact hq5.2.2
  · rw [hq6, hcd]
