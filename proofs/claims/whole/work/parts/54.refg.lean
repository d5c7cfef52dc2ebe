/-! the reference: whom to ring -/
theorem q_shlM {k : Nat} (h : k ≤ 12) : Int32.ofInt 1 <<< (Int32.ofInt (k : Int) &&& 31) = Int32.ofInt ((2 ^ k : Nat) : Int) := by
  have q : ∀ i : Fin 13, Int32.ofInt 1 <<< (Int32.ofInt ((i.val : Nat) : Int) &&& 31) = Int32.ofInt ((2 ^ i.val : Nat) : Int) := by decide
  exact q ⟨k, by omega⟩
theorem q_pow12 {k : Nat} (h : k ≤ 12) : 2 ^ k ≤ 4096 := by
  calc 2 ^ k ≤ 2 ^ 12 := Nat.pow_le_pow_right (by decide) h
    _ = 4096 := by decide
theorem g_good_iff {r : Nat → Int} {mn s : Nat} {d : Int} (hm : mn ≤ 12) (hs : s < 2 ^ mn) : g_good r mn d s ↔ (∀ i, i < mn → s.testBit i = true → (r (1043 + 12 * i) = 0 ∨ r (1043 + 12 * i) = 1)) ∧ ((g_pop s mn : Nat) : Int) = d := by
  have hz : ∀ i, mn ≤ i → s.testBit i = false := fun i hi => Nat.testBit_lt_two_pow (Nat.lt_of_lt_of_le hs (Nat.pow_le_pow_right (by decide) hi))
  have e := g_pop_hi hz (12 - mn)
  rw [show mn + (12 - mn) = 12 by omega] at e
  unfold g_good
  rw [e]
  constructor
  · intro h; exact ⟨fun i _ hi => (h.1 i hi).2, h.2⟩
  · intro h
    refine ⟨fun i hi => ?_, h.2⟩
    by_cases q : i < mn
    · exact ⟨q, h.1 i q hi⟩
    · rw [hz i (by omega)] at hi; cases hi
theorem g_val_r {r : Nat → Int} {nn : Nat} (hz : g_Zr r) (hV : g_VR r) {s : Nat} : ∀ n : Nat, (n : Int) ≤ r 1 → 0 ≤ g_val r nn n s ∧ g_val r nn n s ≤ 100000000 * (n : Int)
  | 0, _ => by rw [show g_val r nn 0 s = 0 from rfl]; omega
  | n + 1, hn => by
    have q := g_val_r (nn := nn) (s := s) hz hV n (by omega)
    have q1 := g_lf_r hz hV (a := n) (by omega) nn
    have q2 := g_rg_r hz hV (a := n) (by omega) nn
    unfold g_val at q ⊢
    rw [g_sum_s]
    split <;> omega
/-- what the reference's loop over the sets has found -/
def g_bsr (b ls : Int) (o : Option (Nat × Int)) : Prop := (o = none ∧ b = -1 ∧ ls = 0) ∨ ∃ x : Nat × Int, o = some x ∧ b = (x.1 : Int) ∧ ls = x.2
theorem g_bsr_no {b ls : Int} {G9 : Nat → Prop} {V : Nat → Int} {s : Nat} (h : g_bsr b ls (g_best G9 V s)) (hn : ¬ G9 s) : g_bsr b ls (g_best G9 V (s + 1)) := by
  rcases h with ⟨h1, h2⟩ | ⟨x, h1, h2⟩
  · exact Or.inl ⟨(g_best_n h1).2 hn, h2⟩
  · exact Or.inr ⟨x, (g_best_y h1).2 (fun q => hn q.1), h2⟩
theorem g_bsr_ge {b ls : Int} {G9 : Nat → Prop} {V : Nat → Int} {s : Nat} (h : g_bsr b ls (g_best G9 V s)) (hf : b ≠ -1) (hn : ls ≤ V s) : g_bsr b ls (g_best G9 V (s + 1)) := by
  rcases h with ⟨h1, h2, h3⟩ | ⟨x, h1, h2, h3⟩
  · exact absurd h2 hf
  · exact Or.inr ⟨x, (g_best_y h1).2 (fun q => by have := q.2; omega), h2, h3⟩
theorem g_bsr_set {b ls : Int} {G9 : Nat → Prop} {V : Nat → Int} {s : Nat} (h : g_bsr b ls (g_best G9 V s)) (hg : G9 s) (hl : b = -1 ∨ V s < ls) : g_bsr (s : Int) (V s) (g_best G9 V (s + 1)) := by
  rcases h with ⟨h1, h5, h6⟩ | ⟨x, h1, h5, h6⟩
  · exact Or.inr ⟨(s, V s), (g_best_n h1).1 hg, rfl, rfl⟩
  · exact Or.inr ⟨(s, V s), (g_best_y h1).1 hg (by omega), rfl, rfl⟩
theorem g_bsr_r {b ls lo hi : Int} {G9 : Nat → Prop} {V : Nat → Int} {s : Nat} (h : g_bsr b ls (g_best G9 V s)) (hV : ∀ s, lo ≤ V s ∧ V s ≤ hi) (h0 : lo ≤ 0 ∧ 0 ≤ hi) (hs : s ≤ 4096) : (lo ≤ ls ∧ ls ≤ hi) ∧ -1 ≤ b ∧ b ≤ 4096 := by
  rcases h with ⟨h1, h5, h6⟩ | ⟨x, h1, h5, h6⟩
  · omega
  · have q := g_best_at _ h1
    have := hV x.1
    omega
set_option maxRecDepth 100000 in
theorem lX8_rescueC {G : q_G} {F : q_F} {h : Nat} {Q : q_Q} {kc ks sz : Nat} {T : q_T} {m mn nn s : Nat} {d b ls wh : Int} {I L M : q_I} {P : q_P} (h2 : 3 ≤ h) (hF : q_ok G F YX8_rescue h) (hS : q_SM T P m) (hSA : q_A G m) (hv : g_V0 (L (m + 3))) (hmn : L (m + 3) 1 = (mn : Int)) (hm12 : mn ≤ 12) (hVR : g_VR (L (m + 3))) (hZ : g_Zr (L (m + 3))) (h3 : ∀ k, M (m + 3) k = L (m + 3) k) (hlf : ∀ i, i < mn → M (m + 16) i = g_lf (L (m + 3)) nn i) (hrg : ∀ i, i < mn → M (m + 17) i = g_rg (L (m + 3)) nn i) (hs : s < 2 ^ mn) (kB : ∀ iz : Int, ((iz = 1 ∧ (∀ i, i < mn → s.testBit i = true → (L (m + 3) (1043 + 12 * i) = 0 ∨ L (m + 3) (1043 + 12 * i) = 1))) ∨ (iz = 0 ∧ ¬ (∀ i, i < mn → s.testBit i = true → (L (m + 3) (1043 + 12 * i) = 0 ∨ L (m + 3) (1043 + 12 * i) = 1)))) → qX G F Q kc ks 290 [(14, qI (mn : Int)), (12, qL (g_val (L (m + 3)) nn mn s)), (11, qI iz), (10, qI ((g_pop s mn : Nat) : Int)), (9, qI (s : Int)), (7, qL ls), (6, qI b), (5, qI d), (0, .ref m), (3, qI wh)] [] sz T I M P) : ∀ (n : Nat) (a : Nat) (iz : Int), mn - a < n → a ≤ mn → ((iz = 1 ∧ (∀ i, i < a → s.testBit i = true → (L (m + 3) (1043 + 12 * i) = 0 ∨ L (m + 3) (1043 + 12 * i) = 1))) ∨ (iz = 0 ∧ ¬ (∀ i, i < a → s.testBit i = true → (L (m + 3) (1043 + 12 * i) = 0 ∨ L (m + 3) (1043 + 12 * i) = 1)))) → qX G F Q kc ks 186 [(14, qI (a : Int)), (12, qL (g_val (L (m + 3)) nn a s)), (11, qI iz), (10, qI ((g_pop s a : Nat) : Int)), (9, qI (s : Int)), (7, qL ls), (6, qI b), (5, qI d), (0, .ref m), (3, qI wh)] [] sz T I M P := by
  intro n
  induction n with
  | zero => intro a iz hn; exact absurd hn (Nat.not_lt_zero _)
  | succ n ih =>
    intro a iz hn ha hiz
    have hs4 : s < 4096 := by have := q_pow12 hm12; omega
    have hA := hVR.2.1
    simp only [Nat.not_lt_zero, if_false] at hA
    refine q_iload hF 0 rfl dX8_rescue_186 ?_
    refine q_aload_n hF 8 rfl rfl dX8_rescue_188 ?_
    refine q_callV (kc := kc) (ks := ks) (mc' := 0) (ms' := 0) (h' := 0) (st := [qI (a : Int)]) hF vl_RX8_337 rfl [] rfl rfl hS.t0 (by omega) (Nat.le_of_ble_eq_true rfl) dX8_rescue_189 ?_
    refine mX8_many hS ?_
    rw [show M (m + 3) 1 = (mn : Int) from ((h3 _).trans hmn)]
    refine q_icmpge hF (by omega) (by omega) dX8_rescue_192 (fun c192 => ?_) (fun c192 => ?_)
    · rw [show a = mn by omega] at hiz ⊢
      exact kB iz hiz
    · have hJ195 : qX G F Q kc ks 211 [(14, qI (a : Int)), (12, qL (g_val (L (m + 3)) nn a s)), (11, qI iz), (10, qI ((g_pop s a : Nat) : Int)), (9, qI (s : Int)), (7, qL ls), (6, qI b), (5, qI d), (0, .ref m), (3, qI wh)] [qI (q_b (s.testBit a = true))] sz T I M P := by
        refine q_istore hF (ls' := [(15, qI (q_b (s.testBit a = true))), (14, qI (a : Int)), (12, qL (g_val (L (m + 3)) nn a s)), (11, qI iz), (10, qI ((g_pop s a : Nat) : Int)), (9, qI (s : Int)), (7, qL ls), (6, qI b), (5, qI d), (0, .ref m), (3, qI wh)]) (by decide) rfl dX8_rescue_211 ?_
        refine q_iload hF 4 rfl dX8_rescue_213 ?_
        refine q_iload hF 0 rfl dX8_rescue_215 ?_
        refine q_ifeq_b hF dX8_rescue_217 (fun c217 => ?_) (fun c217 => ?_)
        · have hb := c217
          refine q_iconst hF dX8_rescue_224 ?_
          refine q_iadd hF dX8_rescue_225 ?_
          refine q_istore hF (ls' := [(10, qI (((g_pop s a : Nat) : Int) + 0)), (15, qI (q_b (s.testBit a = true))), (14, qI (a : Int)), (12, qL (g_val (L (m + 3)) nn a s)), (11, qI iz), (9, qI (s : Int)), (7, qL ls), (6, qI b), (5, qI d), (0, .ref m), (3, qI wh)]) (by decide) rfl dX8_rescue_226 ?_
          refine q_iload hF 4 rfl dX8_rescue_228 ?_
          refine q_ifeq hF (by omega) dX8_rescue_230 (fun c230 => ?_) (fun c230 => ?_)
          · refine q_iconst hF dX8_rescue_254 ?_
            refine q_istore hF (ls' := [(11, qI 0), (10, qI (((g_pop s a : Nat) : Int) + 0)), (15, qI (q_b (s.testBit a = true))), (14, qI (a : Int)), (12, qL (g_val (L (m + 3)) nn a s)), (9, qI (s : Int)), (7, qL ls), (6, qI b), (5, qI d), (0, .ref m), (3, qI wh)]) (by decide) rfl dX8_rescue_255 ?_
            refine q_lload hF 4 rfl dX8_rescue_257 ?_
            refine q_iload hF 2 rfl dX8_rescue_259 ?_
            refine q_ifeq_b hF dX8_rescue_261 (fun c261 => ?_) (fun c261 => ?_)
            · refine q_aload_n hF 9 rfl rfl dX8_rescue_274 ?_
              refine q_getA hF fl_RX8_38 rfl hS.t0 hS.p19 dX8_rescue_275 ?_
              refine q_iload hF 3 rfl dX8_rescue_278 ?_
              refine q_laloadv hF (z := g_lf (L (m + 3)) nn a) (n := 12) a hS.t16 rfl (by omega) (by decide) (hlf a (by omega)) dX8_rescue_280 ?_
              refine q_ladd hF dX8_rescue_281 ?_
              refine q_lstore hF (ls' := [(12, qL ((g_val (L (m + 3)) nn a s) + (g_lf (L (m + 3)) nn a))), (11, qI 0), (10, qI (((g_pop s a : Nat) : Int) + 0)), (15, qI (q_b (s.testBit a = true))), (14, qI (a : Int)), (9, qI (s : Int)), (7, qL ls), (6, qI b), (5, qI d), (0, .ref m), (3, qI wh)]) (by decide) rfl dX8_rescue_282 ?_
              refine q_iinc hF (z' := ((1 + a : Nat) : Int)) (ls' := [(14, qI ((1 + a : Nat) : Int)), (12, qL ((g_val (L (m + 3)) nn a s) + (g_lf (L (m + 3)) nn a))), (11, qI 0), (10, qI (((g_pop s a : Nat) : Int) + 0)), (15, qI (q_b (s.testBit a = true))), (9, qI (s : Int)), (7, qL ls), (6, qI b), (5, qI d), (0, .ref m), (3, qI wh)]) 4 rfl (by first | rfl | omega) (by decide) rfl dX8_rescue_284 ?_
              refine q_goto hF dX8_rescue_287 ?_
              refine q_sub [0, 1, 2, 3, 5, 6, 7, 8, 9, 10] rfl ?_
              rw [Nat.add_comm 1 a, show (((g_pop s a : Nat) : Int) + 0) = ((g_pop s (a + 1) : Nat) : Int) from by rw [g_pop_s, if_neg hb]; omega, show ((g_val (L (m + 3)) nn a s) + (g_lf (L (m + 3)) nn a)) = g_val (L (m + 3)) nn (a + 1) s from by unfold g_val; rw [g_sum_s, if_neg hb]]
              exact ih (a + 1) 0 (by omega) (by omega) (Or.inr ⟨rfl, fun q => (hiz.resolve_left (fun q => by omega)).2 (fun i hi => q i (by omega))⟩)
            · first | omega | exact absurd c261 c217 | exact absurd c217 c261
          · refine q_iload hF 1 rfl dX8_rescue_233 ?_
            refine q_ifeq_b hF dX8_rescue_235 (fun c235 => ?_) (fun c235 => ?_)
            · refine q_iconst hF dX8_rescue_250 ?_
              refine q_goto hF dX8_rescue_251 ?_
              refine q_istore hF (ls' := [(11, qI 1), (10, qI (((g_pop s a : Nat) : Int) + 0)), (15, qI (q_b (s.testBit a = true))), (14, qI (a : Int)), (12, qL (g_val (L (m + 3)) nn a s)), (9, qI (s : Int)), (7, qL ls), (6, qI b), (5, qI d), (0, .ref m), (3, qI wh)]) (by decide) rfl dX8_rescue_255 ?_
              refine q_lload hF 4 rfl dX8_rescue_257 ?_
              refine q_iload hF 2 rfl dX8_rescue_259 ?_
              refine q_ifeq_b hF dX8_rescue_261 (fun c261 => ?_) (fun c261 => ?_)
              · refine q_aload_n hF 9 rfl rfl dX8_rescue_274 ?_
                refine q_getA hF fl_RX8_38 rfl hS.t0 hS.p19 dX8_rescue_275 ?_
                refine q_iload hF 3 rfl dX8_rescue_278 ?_
                refine q_laloadv hF (z := g_lf (L (m + 3)) nn a) (n := 12) a hS.t16 rfl (by omega) (by decide) (hlf a (by omega)) dX8_rescue_280 ?_
                refine q_ladd hF dX8_rescue_281 ?_
                refine q_lstore hF (ls' := [(12, qL ((g_val (L (m + 3)) nn a s) + (g_lf (L (m + 3)) nn a))), (11, qI 1), (10, qI (((g_pop s a : Nat) : Int) + 0)), (15, qI (q_b (s.testBit a = true))), (14, qI (a : Int)), (9, qI (s : Int)), (7, qL ls), (6, qI b), (5, qI d), (0, .ref m), (3, qI wh)]) (by decide) rfl dX8_rescue_282 ?_
                refine q_iinc hF (z' := ((1 + a : Nat) : Int)) (ls' := [(14, qI ((1 + a : Nat) : Int)), (12, qL ((g_val (L (m + 3)) nn a s) + (g_lf (L (m + 3)) nn a))), (11, qI 1), (10, qI (((g_pop s a : Nat) : Int) + 0)), (15, qI (q_b (s.testBit a = true))), (9, qI (s : Int)), (7, qL ls), (6, qI b), (5, qI d), (0, .ref m), (3, qI wh)]) 4 rfl (by first | rfl | omega) (by decide) rfl dX8_rescue_284 ?_
                refine q_goto hF dX8_rescue_287 ?_
                refine q_sub [0, 1, 2, 3, 5, 6, 7, 8, 9, 10] rfl ?_
                rw [Nat.add_comm 1 a, show (((g_pop s a : Nat) : Int) + 0) = ((g_pop s (a + 1) : Nat) : Int) from by rw [g_pop_s, if_neg hb]; omega, show ((g_val (L (m + 3)) nn a s) + (g_lf (L (m + 3)) nn a)) = g_val (L (m + 3)) nn (a + 1) s from by unfold g_val; rw [g_sum_s, if_neg hb]]
                exact ih (a + 1) 1 (by omega) (by omega) (Or.inl ⟨rfl, fun i hi hb2 => by
                  by_cases e : i = a
                  · subst e; exact absurd hb2 hb
                  · exact (hiz.resolve_right (fun q => c230 q.1)).2 i (by omega) hb2⟩)
              · first | omega | exact absurd c261 c217 | exact absurd c217 c261
            · first | omega | exact absurd c235 c217 | exact absurd c217 c235
        · have hb := c217
          refine q_iconst hF dX8_rescue_220 ?_
          refine q_goto hF dX8_rescue_221 ?_
          refine q_iadd hF dX8_rescue_225 ?_
          refine q_istore hF (ls' := [(10, qI (((g_pop s a : Nat) : Int) + 1)), (15, qI (q_b (s.testBit a = true))), (14, qI (a : Int)), (12, qL (g_val (L (m + 3)) nn a s)), (11, qI iz), (9, qI (s : Int)), (7, qL ls), (6, qI b), (5, qI d), (0, .ref m), (3, qI wh)]) (by decide) rfl dX8_rescue_226 ?_
          refine q_iload hF 4 rfl dX8_rescue_228 ?_
          refine q_ifeq hF (by omega) dX8_rescue_230 (fun c230 => ?_) (fun c230 => ?_)
          · refine q_iconst hF dX8_rescue_254 ?_
            refine q_istore hF (ls' := [(11, qI 0), (10, qI (((g_pop s a : Nat) : Int) + 1)), (15, qI (q_b (s.testBit a = true))), (14, qI (a : Int)), (12, qL (g_val (L (m + 3)) nn a s)), (9, qI (s : Int)), (7, qL ls), (6, qI b), (5, qI d), (0, .ref m), (3, qI wh)]) (by decide) rfl dX8_rescue_255 ?_
            refine q_lload hF 4 rfl dX8_rescue_257 ?_
            refine q_iload hF 2 rfl dX8_rescue_259 ?_
            refine q_ifeq_b hF dX8_rescue_261 (fun c261 => ?_) (fun c261 => ?_)
            · first | omega | exact absurd c261 c217 | exact absurd c217 c261
            · refine q_aload_n hF 9 rfl rfl dX8_rescue_264 ?_
              refine q_getA hF fl_RX8_41 rfl hS.t0 hS.p20 dX8_rescue_265 ?_
              refine q_iload hF 3 rfl dX8_rescue_268 ?_
              refine q_laloadv hF (z := g_rg (L (m + 3)) nn a) (n := 12) a hS.t17 rfl (by omega) (by decide) (hrg a (by omega)) dX8_rescue_270 ?_
              refine q_goto hF dX8_rescue_271 ?_
              refine q_ladd hF dX8_rescue_281 ?_
              refine q_lstore hF (ls' := [(12, qL ((g_val (L (m + 3)) nn a s) + (g_rg (L (m + 3)) nn a))), (11, qI 0), (10, qI (((g_pop s a : Nat) : Int) + 1)), (15, qI (q_b (s.testBit a = true))), (14, qI (a : Int)), (9, qI (s : Int)), (7, qL ls), (6, qI b), (5, qI d), (0, .ref m), (3, qI wh)]) (by decide) rfl dX8_rescue_282 ?_
              refine q_iinc hF (z' := ((1 + a : Nat) : Int)) (ls' := [(14, qI ((1 + a : Nat) : Int)), (12, qL ((g_val (L (m + 3)) nn a s) + (g_rg (L (m + 3)) nn a))), (11, qI 0), (10, qI (((g_pop s a : Nat) : Int) + 1)), (15, qI (q_b (s.testBit a = true))), (9, qI (s : Int)), (7, qL ls), (6, qI b), (5, qI d), (0, .ref m), (3, qI wh)]) 4 rfl (by first | rfl | omega) (by decide) rfl dX8_rescue_284 ?_
              refine q_goto hF dX8_rescue_287 ?_
              refine q_sub [0, 1, 2, 3, 5, 6, 7, 8, 9, 10] rfl ?_
              rw [Nat.add_comm 1 a, show (((g_pop s a : Nat) : Int) + 1) = ((g_pop s (a + 1) : Nat) : Int) from by rw [g_pop_s, if_pos hb]; omega, show ((g_val (L (m + 3)) nn a s) + (g_rg (L (m + 3)) nn a)) = g_val (L (m + 3)) nn (a + 1) s from by unfold g_val; rw [g_sum_s, if_pos hb]]
              exact ih (a + 1) 0 (by omega) (by omega) (Or.inr ⟨rfl, fun q => (hiz.resolve_left (fun q => by omega)).2 (fun i hi => q i (by omega))⟩)
          · refine q_iload hF 1 rfl dX8_rescue_233 ?_
            refine q_ifeq_b hF dX8_rescue_235 (fun c235 => ?_) (fun c235 => ?_)
            · first | omega | exact absurd c235 c217 | exact absurd c217 c235
            · refine q_aload_n hF 9 rfl rfl dX8_rescue_238 ?_
              refine q_getA hF fl_RX8_20 rfl hS.t0 hS.p9 dX8_rescue_239 ?_
              refine q_iload hF 2 rfl dX8_rescue_242 ?_
              refine q_callS (kc := kc) (ks := ks) (mc' := 0) (ms' := 0) (h' := 2) (st := []) hF sl_RX8_304 rfl [.ref (m + 3), qI (a : Int)] rfl rfl (by omega) (Nat.le_of_ble_eq_true rfl) dX8_rescue_244 ?_
              refine mX8_isOpen (i := a) hS.t3 (by omega) (by rw [h3]; exact (hA a (by omega)).state) ?_
              rw [show M (m + 3) (1043 + 12 * a) = L (m + 3) (1043 + 12 * a) from (h3 _)]
              refine q_ifeq_b hF dX8_rescue_247 (fun c247 => ?_) (fun c247 => ?_)
              · refine q_iconst hF dX8_rescue_254 ?_
                refine q_istore hF (ls' := [(11, qI 0), (10, qI (((g_pop s a : Nat) : Int) + 1)), (15, qI (q_b (s.testBit a = true))), (14, qI (a : Int)), (12, qL (g_val (L (m + 3)) nn a s)), (9, qI (s : Int)), (7, qL ls), (6, qI b), (5, qI d), (0, .ref m), (3, qI wh)]) (by decide) rfl dX8_rescue_255 ?_
                refine q_lload hF 4 rfl dX8_rescue_257 ?_
                refine q_iload hF 2 rfl dX8_rescue_259 ?_
                refine q_ifeq_b hF dX8_rescue_261 (fun c261 => ?_) (fun c261 => ?_)
                · first | omega | exact absurd c261 c217 | exact absurd c217 c261
                · refine q_aload_n hF 9 rfl rfl dX8_rescue_264 ?_
                  refine q_getA hF fl_RX8_41 rfl hS.t0 hS.p20 dX8_rescue_265 ?_
                  refine q_iload hF 3 rfl dX8_rescue_268 ?_
                  refine q_laloadv hF (z := g_rg (L (m + 3)) nn a) (n := 12) a hS.t17 rfl (by omega) (by decide) (hrg a (by omega)) dX8_rescue_270 ?_
                  refine q_goto hF dX8_rescue_271 ?_
                  refine q_ladd hF dX8_rescue_281 ?_
                  refine q_lstore hF (ls' := [(12, qL ((g_val (L (m + 3)) nn a s) + (g_rg (L (m + 3)) nn a))), (11, qI 0), (10, qI (((g_pop s a : Nat) : Int) + 1)), (15, qI (q_b (s.testBit a = true))), (14, qI (a : Int)), (9, qI (s : Int)), (7, qL ls), (6, qI b), (5, qI d), (0, .ref m), (3, qI wh)]) (by decide) rfl dX8_rescue_282 ?_
                  refine q_iinc hF (z' := ((1 + a : Nat) : Int)) (ls' := [(14, qI ((1 + a : Nat) : Int)), (12, qL ((g_val (L (m + 3)) nn a s) + (g_rg (L (m + 3)) nn a))), (11, qI 0), (10, qI (((g_pop s a : Nat) : Int) + 1)), (15, qI (q_b (s.testBit a = true))), (9, qI (s : Int)), (7, qL ls), (6, qI b), (5, qI d), (0, .ref m), (3, qI wh)]) 4 rfl (by first | rfl | omega) (by decide) rfl dX8_rescue_284 ?_
                  refine q_goto hF dX8_rescue_287 ?_
                  refine q_sub [0, 1, 2, 3, 5, 6, 7, 8, 9, 10] rfl ?_
                  rw [Nat.add_comm 1 a, show (((g_pop s a : Nat) : Int) + 1) = ((g_pop s (a + 1) : Nat) : Int) from by rw [g_pop_s, if_pos hb]; omega, show ((g_val (L (m + 3)) nn a s) + (g_rg (L (m + 3)) nn a)) = g_val (L (m + 3)) nn (a + 1) s from by unfold g_val; rw [g_sum_s, if_pos hb]]
                  exact ih (a + 1) 0 (by omega) (by omega) (Or.inr ⟨rfl, fun q => c247 (q a (by omega) hb)⟩)
              · refine q_iconst hF dX8_rescue_250 ?_
                refine q_goto hF dX8_rescue_251 ?_
                refine q_istore hF (ls' := [(11, qI 1), (10, qI (((g_pop s a : Nat) : Int) + 1)), (15, qI (q_b (s.testBit a = true))), (14, qI (a : Int)), (12, qL (g_val (L (m + 3)) nn a s)), (9, qI (s : Int)), (7, qL ls), (6, qI b), (5, qI d), (0, .ref m), (3, qI wh)]) (by decide) rfl dX8_rescue_255 ?_
                refine q_lload hF 4 rfl dX8_rescue_257 ?_
                refine q_iload hF 2 rfl dX8_rescue_259 ?_
                refine q_ifeq_b hF dX8_rescue_261 (fun c261 => ?_) (fun c261 => ?_)
                · first | omega | exact absurd c261 c217 | exact absurd c217 c261
                · refine q_aload_n hF 9 rfl rfl dX8_rescue_264 ?_
                  refine q_getA hF fl_RX8_41 rfl hS.t0 hS.p20 dX8_rescue_265 ?_
                  refine q_iload hF 3 rfl dX8_rescue_268 ?_
                  refine q_laloadv hF (z := g_rg (L (m + 3)) nn a) (n := 12) a hS.t17 rfl (by omega) (by decide) (hrg a (by omega)) dX8_rescue_270 ?_
                  refine q_goto hF dX8_rescue_271 ?_
                  refine q_ladd hF dX8_rescue_281 ?_
                  refine q_lstore hF (ls' := [(12, qL ((g_val (L (m + 3)) nn a s) + (g_rg (L (m + 3)) nn a))), (11, qI 1), (10, qI (((g_pop s a : Nat) : Int) + 1)), (15, qI (q_b (s.testBit a = true))), (14, qI (a : Int)), (9, qI (s : Int)), (7, qL ls), (6, qI b), (5, qI d), (0, .ref m), (3, qI wh)]) (by decide) rfl dX8_rescue_282 ?_
                  refine q_iinc hF (z' := ((1 + a : Nat) : Int)) (ls' := [(14, qI ((1 + a : Nat) : Int)), (12, qL ((g_val (L (m + 3)) nn a s) + (g_rg (L (m + 3)) nn a))), (11, qI 1), (10, qI (((g_pop s a : Nat) : Int) + 1)), (15, qI (q_b (s.testBit a = true))), (9, qI (s : Int)), (7, qL ls), (6, qI b), (5, qI d), (0, .ref m), (3, qI wh)]) 4 rfl (by first | rfl | omega) (by decide) rfl dX8_rescue_284 ?_
                  refine q_goto hF dX8_rescue_287 ?_
                  refine q_sub [0, 1, 2, 3, 5, 6, 7, 8, 9, 10] rfl ?_
                  rw [Nat.add_comm 1 a, show (((g_pop s a : Nat) : Int) + 1) = ((g_pop s (a + 1) : Nat) : Int) from by rw [g_pop_s, if_pos hb]; omega, show ((g_val (L (m + 3)) nn a s) + (g_rg (L (m + 3)) nn a)) = g_val (L (m + 3)) nn (a + 1) s from by unfold g_val; rw [g_sum_s, if_pos hb]]
                  exact ih (a + 1) 1 (by omega) (by omega) (Or.inl ⟨rfl, fun i hi hb2 => by
                    by_cases e : i = a
                    · subst e; exact c247
                    · exact (hiz.resolve_right (fun q => c230 q.1)).2 i (by omega) hb2⟩)
      refine q_iload hF 4 rfl dX8_rescue_195 ?_
      refine q_iload hF 0 rfl dX8_rescue_197 ?_
      refine q_ishr hF (c0 := g_shr (s : Int) (a : Int)) (g_shr_o _ _) dX8_rescue_199 ?_
      refine q_iconst hF dX8_rescue_200 ?_
      refine q_iand hF (c0 := g_and (g_shr (s : Int) (a : Int)) 1) (g_and_o _ _) dX8_rescue_201 ?_
      refine q_iconst hF dX8_rescue_202 ?_
      refine q_icmpne hF (g_and_r _ _) (by decide) dX8_rescue_203 (fun c203 => ?_) (fun c203 => ?_)
      · refine q_iconst hF dX8_rescue_210 ?_
        rw [show (q_b (s.testBit a = true)) = 0 from by first | exact q_b_t ((g_bit1 hs4 (by omega)).mp c203) | exact q_b_f (fun q => c203 ((g_bit1 hs4 (by omega)).mpr q))] at hJ195; exact hJ195
      · refine q_iconst hF dX8_rescue_206 ?_
        refine q_goto hF dX8_rescue_207 ?_
        rw [show (q_b (s.testBit a = true)) = 1 from by first | exact q_b_t ((g_bit1 hs4 (by omega)).mp c203) | exact q_b_f (fun q => c203 ((g_bit1 hs4 (by omega)).mpr q))] at hJ195; exact hJ195
set_option maxRecDepth 100000 in
theorem lX8_rescueB {G : q_G} {F : q_F} {h : Nat} {Q : q_Q} {kc ks sz : Nat} {T : q_T} {m mn nn : Nat} {d wh : Int} {I L M : q_I} {P : q_P} (h4 : 3 ≤ h) (hF : q_ok G F YX8_rescue h) (hS : q_SM T P m) (hSA : q_A G m) (hv : g_V0 (L (m + 3))) (hmn : L (m + 3) 1 = (mn : Int)) (hm12 : mn ≤ 12) (hVR : g_VR (L (m + 3))) (hZ : g_Zr (L (m + 3))) (h3 : ∀ k, M (m + 3) k = L (m + 3) k) (hlf : ∀ i, i < mn → M (m + 16) i = g_lf (L (m + 3)) nn i) (hrg : ∀ i, i < mn → M (m + 17) i = g_rg (L (m + 3)) nn i) (hd : -2147483648 ≤ d ∧ d < 2147483648) (hwh : wh = 0 ∨ wh = 1) (k0 : ∀ b ls : Int, g_bsr b ls (g_best (g_good (L (m + 3)) mn d) (g_val (L (m + 3)) nn mn) (2 ^ mn)) → Q (.inl (some (qL (if wh = 0 then b else ls)))) sz T I M P) : ∀ (n : Nat) (s : Nat) (b ls : Int), 2 ^ mn - s < n → s ≤ 2 ^ mn → g_bsr b ls (g_best (g_good (L (m + 3)) mn d) (g_val (L (m + 3)) nn mn) s) → qX G F Q kc ks 163 [(9, qI (s : Int)), (7, qL ls), (6, qI b), (5, qI d), (0, .ref m), (3, qI wh)] [] sz T I M P := by
  intro n
  induction n with
  | zero => intro s b ls hn; exact absurd hn (Nat.not_lt_zero _)
  | succ n ih =>
    intro s b ls hn hs hb
    have hpw := q_pow12 hm12
    refine q_iload hF 0 rfl dX8_rescue_163 ?_
    refine q_iconst hF dX8_rescue_165 ?_
    refine q_aload_n hF 4 rfl rfl dX8_rescue_166 ?_
    refine q_callV (kc := kc) (ks := ks) (mc' := 0) (ms' := 0) (h' := 0) (st := [qI 1, qI (s : Int)]) hF vl_RX8_337 rfl [] rfl rfl hS.t0 (by omega) (Nat.le_of_ble_eq_true rfl) dX8_rescue_167 ?_
    refine mX8_many hS ?_
    rw [show M (m + 3) 1 = (mn : Int) from ((h3 _).trans hmn)]
    refine q_ishl hF (c0 := ((2 ^ mn : Nat) : Int)) (q_shlM hm12) dX8_rescue_170 ?_
    refine q_icmpge hF (by have := q_pow12 hm12; omega) (by have := q_pow12 hm12; omega) dX8_rescue_171 (fun c171 => ?_) (fun c171 => ?_)
    · refine q_iload_n hF 5 rfl rfl dX8_rescue_333 ?_
      refine q_ifne hF (by omega) dX8_rescue_334 (fun c334 => ?_) (fun c334 => ?_)
      · refine q_lload hF 1 rfl dX8_rescue_343 ?_
        refine q_lreturn hF rfl dX8_rescue_345 ?_
        have q := k0 b ls (by rw [show 2 ^ mn = s by omega]; exact hb)
        rw [show (if wh = 0 then b else ls) = ls from by first | exact if_pos (by omega) | exact if_neg (by omega)] at q
        exact q
      · refine q_iload hF 2 rfl dX8_rescue_337 ?_
        refine q_i2l hF (by have q := g_bsr_r hb (lo := 0) (hi := 1200000000) (fun s => by have := g_val_r (s := s) (nn := nn) hZ hVR mn (by omega); omega) (by omega) (by have := q_pow12 hm12; omega); omega) dX8_rescue_339 ?_
        refine q_goto hF dX8_rescue_340 ?_
        refine q_lreturn hF rfl dX8_rescue_345 ?_
        have q := k0 b ls (by rw [show 2 ^ mn = s by omega]; exact hb)
        rw [show (if wh = 0 then b else ls) = b from by first | exact if_pos (by omega) | exact if_neg (by omega)] at q
        exact q
    · refine q_iconst hF dX8_rescue_174 ?_
      refine q_istore hF (ls' := [(10, qI 0), (9, qI (s : Int)), (7, qL ls), (6, qI b), (5, qI d), (0, .ref m), (3, qI wh)]) (by decide) rfl dX8_rescue_175 ?_
      refine q_iconst hF dX8_rescue_177 ?_
      refine q_istore hF (ls' := [(11, qI 1), (10, qI 0), (9, qI (s : Int)), (7, qL ls), (6, qI b), (5, qI d), (0, .ref m), (3, qI wh)]) (by decide) rfl dX8_rescue_178 ?_
      refine q_lconst hF (z := 0) rfl dX8_rescue_180 ?_
      refine q_lstore hF (ls' := [(12, qL 0), (11, qI 1), (10, qI 0), (9, qI (s : Int)), (7, qL ls), (6, qI b), (5, qI d), (0, .ref m), (3, qI wh)]) (by decide) rfl dX8_rescue_181 ?_
      refine q_iconst hF dX8_rescue_183 ?_
      refine q_istore hF (ls' := [(14, qI 0), (12, qL 0), (11, qI 1), (10, qI 0), (9, qI (s : Int)), (7, qL ls), (6, qI b), (5, qI d), (0, .ref m), (3, qI wh)]) (by decide) rfl dX8_rescue_184 ?_
      have hvr : ∀ s, 0 ≤ (g_val (L (m + 3)) nn mn) s ∧ (g_val (L (m + 3)) nn mn) s ≤ 1200000000 := fun s => by have := g_val_r (s := s) (nn := nn) hZ hVR mn (by omega); omega
      have hbr := g_bsr_r hb hvr (by omega) (by have := q_pow12 hm12; omega)
      refine q_sub [0, 1, 2, 3, 4, 5, 6, 7, 8, 9] rfl ?_
      refine lX8_rescueC (d := d) (b := b) (ls := ls) (wh := wh) (L := L) h4 hF hS hSA hv hmn hm12 hVR hZ h3 hlf hrg (by omega) (fun iz hiz => ?_) (mn + 1) 0 1 (by omega) (Nat.zero_le _) (Or.inl ⟨rfl, fun i hi => absurd hi (Nat.not_lt_zero _)⟩)
      refine q_iload hF 2 rfl dX8_rescue_290 ?_
      refine q_ifeq hF (by rcases hiz with q | q <;> omega) dX8_rescue_292 (fun c292 => ?_) (fun c292 => ?_)
      · refine q_iinc hF (z' := ((1 + s : Nat) : Int)) (ls' := [(9, qI ((1 + s : Nat) : Int)), (14, qI (mn : Int)), (12, qL (g_val (L (m + 3)) nn mn s)), (11, qI iz), (10, qI ((g_pop s mn : Nat) : Int)), (7, qL ls), (6, qI b), (5, qI d), (0, .ref m), (3, qI wh)]) 4 rfl (by first | rfl | omega) (by decide) rfl dX8_rescue_327 ?_
        refine q_goto hF dX8_rescue_330 ?_
        refine q_sub [0, 5, 6, 7, 8, 9] rfl ?_
        rw [Nat.add_comm 1 s]
        exact ih (s + 1) b ls (by omega) (by omega) (g_bsr_no hb (fun q => (hiz.resolve_left (fun q => by omega)).2 ((g_good_iff hm12 (by omega)).mp q).1))
      · refine q_iload hF 3 rfl dX8_rescue_295 ?_
        refine q_iload hF 7 rfl dX8_rescue_297 ?_
        refine q_icmpne hF (by have := g_pop_le s mn; omega) (by omega) dX8_rescue_299 (fun c299 => ?_) (fun c299 => ?_)
        · refine q_iinc hF (z' := ((1 + s : Nat) : Int)) (ls' := [(9, qI ((1 + s : Nat) : Int)), (14, qI (mn : Int)), (12, qL (g_val (L (m + 3)) nn mn s)), (11, qI iz), (10, qI ((g_pop s mn : Nat) : Int)), (7, qL ls), (6, qI b), (5, qI d), (0, .ref m), (3, qI wh)]) 4 rfl (by first | rfl | omega) (by decide) rfl dX8_rescue_327 ?_
          refine q_goto hF dX8_rescue_330 ?_
          refine q_sub [0, 5, 6, 7, 8, 9] rfl ?_
          rw [Nat.add_comm 1 s]
          exact ih (s + 1) b ls (by omega) (by omega) (g_bsr_no hb (fun q => c299 ((g_good_iff hm12 (by omega)).mp q).2))
        · refine q_iload hF 6 rfl dX8_rescue_302 ?_
          refine q_iconst hF dX8_rescue_304 ?_
          refine q_icmpeq hF (by have q := g_bsr_r hb (lo := 0) (hi := 1200000000) (fun s => by have := g_val_r (s := s) (nn := nn) hZ hVR mn (by omega); omega) (by omega) (by have := q_pow12 hm12; omega); omega) (by decide) dX8_rescue_305 (fun c305 => ?_) (fun c305 => ?_)
          · refine q_iload hF 4 rfl dX8_rescue_319 ?_
            refine q_istore hF (ls' := [(6, qI (s : Int)), (14, qI (mn : Int)), (12, qL (g_val (L (m + 3)) nn mn s)), (11, qI iz), (10, qI ((g_pop s mn : Nat) : Int)), (9, qI (s : Int)), (7, qL ls), (5, qI d), (0, .ref m), (3, qI wh)]) (by decide) rfl dX8_rescue_321 ?_
            refine q_lload hF 2 rfl dX8_rescue_323 ?_
            refine q_lstore hF (ls' := [(7, qL (g_val (L (m + 3)) nn mn s)), (6, qI (s : Int)), (14, qI (mn : Int)), (12, qL (g_val (L (m + 3)) nn mn s)), (11, qI iz), (10, qI ((g_pop s mn : Nat) : Int)), (9, qI (s : Int)), (5, qI d), (0, .ref m), (3, qI wh)]) (by decide) rfl dX8_rescue_325 ?_
            refine q_iinc hF (z' := ((1 + s : Nat) : Int)) (ls' := [(9, qI ((1 + s : Nat) : Int)), (7, qL (g_val (L (m + 3)) nn mn s)), (6, qI (s : Int)), (14, qI (mn : Int)), (12, qL (g_val (L (m + 3)) nn mn s)), (11, qI iz), (10, qI ((g_pop s mn : Nat) : Int)), (5, qI d), (0, .ref m), (3, qI wh)]) 6 rfl (by first | rfl | omega) (by decide) rfl dX8_rescue_327 ?_
            refine q_goto hF dX8_rescue_330 ?_
            refine q_sub [0, 1, 2, 7, 8, 9] rfl ?_
            rw [Nat.add_comm 1 s]
            exact ih (s + 1) (s : Int) (g_val (L (m + 3)) nn mn s) (by omega) (by omega) (g_bsr_set hb ((g_good_iff hm12 (by omega)).mpr ⟨(hiz.resolve_right (fun q => c292 q.1)).2, c299⟩) (Or.inl c305))
          · refine q_lload hF 1 rfl dX8_rescue_308 ?_
            refine q_lload hF 5 rfl dX8_rescue_310 ?_
            refine q_cmplt hF (by have := hvr s; omega) (by have q := g_bsr_r hb (lo := 0) (hi := 1200000000) (fun s => by have := g_val_r (s := s) (nn := nn) hZ hVR mn (by omega); omega) (by omega) (by have := q_pow12 hm12; omega); omega) dX8_rescue_312 dX8_rescue_313 (fun c313 => ?_) (fun c313 => ?_)
            · refine q_iload hF 4 rfl dX8_rescue_319 ?_
              refine q_istore hF (ls' := [(6, qI (s : Int)), (14, qI (mn : Int)), (12, qL (g_val (L (m + 3)) nn mn s)), (11, qI iz), (10, qI ((g_pop s mn : Nat) : Int)), (9, qI (s : Int)), (7, qL ls), (5, qI d), (0, .ref m), (3, qI wh)]) (by decide) rfl dX8_rescue_321 ?_
              refine q_lload hF 2 rfl dX8_rescue_323 ?_
              refine q_lstore hF (ls' := [(7, qL (g_val (L (m + 3)) nn mn s)), (6, qI (s : Int)), (14, qI (mn : Int)), (12, qL (g_val (L (m + 3)) nn mn s)), (11, qI iz), (10, qI ((g_pop s mn : Nat) : Int)), (9, qI (s : Int)), (5, qI d), (0, .ref m), (3, qI wh)]) (by decide) rfl dX8_rescue_325 ?_
              refine q_iinc hF (z' := ((1 + s : Nat) : Int)) (ls' := [(9, qI ((1 + s : Nat) : Int)), (7, qL (g_val (L (m + 3)) nn mn s)), (6, qI (s : Int)), (14, qI (mn : Int)), (12, qL (g_val (L (m + 3)) nn mn s)), (11, qI iz), (10, qI ((g_pop s mn : Nat) : Int)), (5, qI d), (0, .ref m), (3, qI wh)]) 6 rfl (by first | rfl | omega) (by decide) rfl dX8_rescue_327 ?_
              refine q_goto hF dX8_rescue_330 ?_
              refine q_sub [0, 1, 2, 7, 8, 9] rfl ?_
              rw [Nat.add_comm 1 s]
              exact ih (s + 1) (s : Int) (g_val (L (m + 3)) nn mn s) (by omega) (by omega) (g_bsr_set hb ((g_good_iff hm12 (by omega)).mpr ⟨(hiz.resolve_right (fun q => c292 q.1)).2, c299⟩) (Or.inr c313))
            · refine q_goto hF dX8_rescue_316 ?_
              refine q_iinc hF (z' := ((1 + s : Nat) : Int)) (ls' := [(9, qI ((1 + s : Nat) : Int)), (14, qI (mn : Int)), (12, qL (g_val (L (m + 3)) nn mn s)), (11, qI iz), (10, qI ((g_pop s mn : Nat) : Int)), (7, qL ls), (6, qI b), (5, qI d), (0, .ref m), (3, qI wh)]) 4 rfl (by first | rfl | omega) (by decide) rfl dX8_rescue_327 ?_
              refine q_goto hF dX8_rescue_330 ?_
              refine q_sub [0, 5, 6, 7, 8, 9] rfl ?_
              rw [Nat.add_comm 1 s]
              exact ih (s + 1) b ls (by omega) (by omega) (g_bsr_ge hb c305 c313)
set_option maxRecDepth 100000 in
theorem lX8_rescueA {G : q_G} {F : q_F} {h : Nat} {Q : q_Q} {kc ks sz : Nat} {T : q_T} {m mn nn : Nat} {kk wh : Int} {I L : q_I} {P : q_P} (h4 : 6 ≤ h) (hF : q_ok G F YX8_rescue h) (hS : q_SM T P m) (hSA : q_A G m) (hv : g_V0 (L (m + 3))) (hmn : L (m + 3) 1 = (mn : Int)) (hm12 : mn ≤ 12) (hVR : g_VR (L (m + 3))) (hZ : g_Zr (L (m + 3))) (hn6 : nn ≤ 600) (hkk : 1 ≤ kk ∧ kk ≤ 3) (hwh : wh = 0 ∨ wh = 1) (k0 : ∀ (x : Nat × Int) (L' : q_I), (∀ q k, q ≠ m + 5 → q ≠ m + 15 → q ≠ m + 16 → q ≠ m + 17 → L' q k = L q k) → q_Z0 L' m → g_resc (L (m + 3)) kk nn mn = some x → Q (.inl (some (qL (if wh = 0 then (x.1 : Int) else x.2)))) sz T I L' P) : ∀ (n : Nat) (k : Nat) (L9 : q_I), mn - k < n → k ≤ mn → (∀ q k, q ≠ m + 5 → q ≠ m + 15 → q ≠ m + 16 → q ≠ m + 17 → L9 q k = L q k) → q_Z0 L9 m → (∀ i, i < k → L9 (m + 16) i = g_lf (L (m + 3)) nn i) → (∀ i, i < k → L9 (m + 17) i = g_rg (L (m + 3)) nn i) → qX G F Q kc ks 61 [(5, qI (k : Int)), (4, qI (g_live (L (m + 3)) k)), (0, .ref m), (1, qI kk), (2, qI (nn : Int)), (3, qI wh)] [] sz T I L9 P := by
  intro n
  induction n with
  | zero => intro k L9 hn; exact absurd hn (Nat.not_lt_zero _)
  | succ n ih =>
    intro k L9 hn hk hN hz hlf hrg
    have hA := hVR.2.1
    simp only [Nat.not_lt_zero, if_false] at hA
    refine q_iload hF 0 rfl dX8_rescue_61 ?_
    refine q_aload_n hF 2 rfl rfl dX8_rescue_63 ?_
    refine q_callV (kc := kc) (ks := ks) (mc' := 0) (ms' := 0) (h' := 0) (st := [qI (k : Int)]) hF vl_RX8_337 rfl [] rfl rfl hS.t0 (by omega) (Nat.le_of_ble_eq_true rfl) dX8_rescue_64 ?_
    refine mX8_many hS ?_
    rw [show L9 (m + 3) 1 = (mn : Int) from ((hN _ _ (by omega) (by omega) (by omega) (by omega)).trans hmn)]
    refine q_icmpge hF (by omega) (by omega) dX8_rescue_67 (fun c67 => ?_) (fun c67 => ?_)
    · have hkm : k = mn := by omega
      subst hkm
      have hlv := g_live_r (L (m + 3)) k
      have hJ140 : qX G F Q kc ks 152 [(5, qI (k : Int)), (4, qI (g_live (L (m + 3)) k)), (0, .ref m), (1, qI kk), (2, qI (nn : Int)), (3, qI wh)] [qI (min kk (g_live (L (m + 3)) k))] sz T I L9 P := by
        refine q_istore hF (ls' := [(5, qI (min kk (g_live (L (m + 3)) k))), (4, qI (g_live (L (m + 3)) k)), (0, .ref m), (1, qI kk), (2, qI (nn : Int)), (3, qI wh)]) (by decide) rfl dX8_rescue_152 ?_
        refine q_iconst hF dX8_rescue_154 ?_
        refine q_istore hF (ls' := [(6, qI (-1)), (5, qI (min kk (g_live (L (m + 3)) k))), (4, qI (g_live (L (m + 3)) k)), (0, .ref m), (1, qI kk), (2, qI (nn : Int)), (3, qI wh)]) (by decide) rfl dX8_rescue_155 ?_
        refine q_lconst hF (z := 0) rfl dX8_rescue_157 ?_
        refine q_lstore hF (ls' := [(7, qL 0), (6, qI (-1)), (5, qI (min kk (g_live (L (m + 3)) k))), (4, qI (g_live (L (m + 3)) k)), (0, .ref m), (1, qI kk), (2, qI (nn : Int)), (3, qI wh)]) (by decide) rfl dX8_rescue_158 ?_
        refine q_iconst hF dX8_rescue_160 ?_
        refine q_istore hF (ls' := [(9, qI 0), (7, qL 0), (6, qI (-1)), (5, qI (min kk (g_live (L (m + 3)) k))), (4, qI (g_live (L (m + 3)) k)), (0, .ref m), (1, qI kk), (2, qI (nn : Int)), (3, qI wh)]) (by decide) rfl dX8_rescue_161 ?_
        refine q_sub [0, 1, 2, 3, 5, 8] rfl ?_
        refine lX8_rescueB (L := L) (nn := nn) (by omega) hF hS hSA hv hmn hm12 hVR hZ (fun j => hN _ _ (by omega) (by omega) (by omega) (by omega)) hlf hrg (by omega) hwh (fun b ls hbs => ?_) (2 ^ k + 1) 0 (-1) 0 (Nat.lt_succ_of_le (Nat.sub_le _ _)) (Nat.zero_le _) (Or.inl ⟨rfl, rfl, rfl⟩)
        obtain ⟨x, hx⟩ := g_resc_some (r := (L (m + 3))) (k := kk) (nn := nn) (mn := k) (by omega) hm12
        have q9 := k0 x L9 hN hz hx
        unfold g_resc at hx
        rw [hx] at hbs
        rcases hbs with ⟨q, -⟩ | ⟨y, q, h2, h3⟩
        · cases q
        · cases q; rw [h2, h3]; exact q9
      refine q_iload_n hF 3 rfl rfl dX8_rescue_140 ?_
      refine q_iload hF 1 rfl dX8_rescue_141 ?_
      refine q_icmpge hF (by omega) (by omega) dX8_rescue_143 (fun c143 => ?_) (fun c143 => ?_)
      · refine q_iload hF 1 rfl dX8_rescue_150 ?_
        rw [show (min kk (g_live (L (m + 3)) k)) = (g_live (L (m + 3)) k) from by omega] at hJ140; exact hJ140
      · refine q_iload_n hF 3 rfl rfl dX8_rescue_146 ?_
        refine q_goto hF dX8_rescue_147 ?_
        rw [show (min kk (g_live (L (m + 3)) k)) = kk from by omega] at hJ140; exact hJ140
    · refine q_aload_n hF 2 rfl rfl dX8_rescue_70 ?_
      refine q_getA hF fl_RX8_38 rfl hS.t0 hS.p19 dX8_rescue_71 ?_
      refine q_iload hF 0 rfl dX8_rescue_74 ?_
      refine q_lconst hF (z := 0) rfl dX8_rescue_76 ?_
      refine q_lastorev hF (n := 12) k hS.t16 (q_Ale hSA (by omega)) rfl (by omega) (by decide) dX8_rescue_77 ?_
      refine q_aload_n hF 2 rfl rfl dX8_rescue_78 ?_
      refine q_getA hF fl_RX8_41 rfl hS.t0 hS.p20 dX8_rescue_79 ?_
      refine q_iload hF 0 rfl dX8_rescue_82 ?_
      refine q_lconst hF (z := 0) rfl dX8_rescue_84 ?_
      refine q_lastorev hF (n := 12) k hS.t17 (q_Ale hSA (by omega)) rfl (by omega) (by decide) dX8_rescue_85 ?_
      obtain ⟨L8, h8⟩ : ∃ L8 : q_I, L8 = u2 (u2 L9 (m + 16) k 0) (m + 17) k 0 := ⟨_, rfl⟩
      rw [← h8]
      have f8 : ∀ q k, q ≠ m + 16 → q ≠ m + 17 → L8 q k = L9 q k := fun q k x y => by rw [h8, u2_a _ _ y, u2_a _ _ x]
      have e8 : L8 (m + 3) = L (m + 3) := funext fun j => (f8 _ _ (by omega) (by omega)).trans (hN _ _ (by omega) (by omega) (by omega) (by omega))
      have hz8 : q_Z0 L8 m := fun q j a b c => by
        by_cases x : q = m + 16
        · omega
        · by_cases y : q = m + 17
          · omega
          · rw [f8 q j x y]; exact hz q j a b c
      have g8 : L8 (m + 16) k = 0 := by rw [h8, u2_a _ _ (by omega), u2_s]
      have g8' : L8 (m + 17) k = 0 := by rw [h8, u2_s]
      have o8 : ∀ i, i < k → L8 (m + 16) i = L9 (m + 16) i := fun i hi => by rw [h8, u2_a _ _ (by omega), u2_k _ _ (by omega)]
      have o8' : ∀ i, i < k → L8 (m + 17) i = L9 (m + 17) i := fun i hi => by rw [h8, u2_k _ _ (by omega), u2_a _ _ (by omega)]
      refine q_aload_n hF 2 rfl rfl dX8_rescue_86 ?_
      refine q_getA hF fl_RX8_20 rfl hS.t0 hS.p9 dX8_rescue_87 ?_
      refine q_iload hF 0 rfl dX8_rescue_90 ?_
      refine q_callS (kc := kc) (ks := ks) (mc' := 0) (ms' := 0) (h' := 2) (st := []) hF sl_RX8_304 rfl [.ref (m + 3), qI (k : Int)] rfl rfl (by omega) (Nat.le_of_ble_eq_true rfl) dX8_rescue_92 ?_
      refine mX8_isOpen (i := k) hS.t3 (by omega) (by rw [e8]; exact (hA k (by omega)).state) ?_
      rw [show L8 (m + 3) (1043 + 12 * k) = L (m + 3) (1043 + 12 * k) from (congrFun e8 _)]
      refine q_ifne_b hF dX8_rescue_95 (fun c95 => ?_) (fun c95 => ?_)
      · refine q_iinc hF (z' := (g_live (L (m + 3)) k) + 1) (ls' := [(4, qI ((g_live (L (m + 3)) k) + 1)), (5, qI (k : Int)), (0, .ref m), (1, qI kk), (2, qI (nn : Int)), (3, qI wh)]) 1 rfl (by first | rfl | omega) (by decide) rfl dX8_rescue_101 ?_
        refine q_aload_n hF 2 rfl rfl dX8_rescue_104 ?_
        refine q_getA hF fl_RX8_38 rfl hS.t0 hS.p19 dX8_rescue_105 ?_
        refine q_iload hF 1 rfl dX8_rescue_108 ?_
        refine q_aload_n hF 2 rfl rfl dX8_rescue_110 ?_
        refine q_iload hF 1 rfl dX8_rescue_111 ?_
        refine q_iload_n hF 4 rfl rfl dX8_rescue_113 ?_
        refine q_iconst hF dX8_rescue_114 ?_
        refine q_callV (kc := kc) (ks := ks) (mc' := 0) (ms' := 0) (h' := 5) (st := [qI (k : Int), .ref (m + 16)]) hF vl_RX8_375 rfl [qI (k : Int), qI (nn : Int), qI 0] rfl rfl hS.t0 (by omega) (Nat.le_of_ble_eq_true rfl) dX8_rescue_115 ?_
        refine mX8_handedBy0 (i := k) (nn := nn) hS hSA (by rw [e8]; exact hv) (by rw [e8]; exact hmn) (by rw [e8]; exact hVR) hz8 (by rw [e8]; omega) (by omega) (by rw [e8]; exact c95) (fun L' c115_0 c115_1 => ?_)
        rw [e8]
        refine q_lastorev hF (n := 12) k hS.t16 (q_Ale hSA (by omega)) rfl (by omega) (by decide) dX8_rescue_118 ?_
        obtain ⟨L7, h7⟩ : ∃ L7 : q_I, L7 = u2 L' (m + 16) k (g_handed (L (m + 3)) k nn) := ⟨_, rfl⟩
        rw [← h7]
        have f7 : ∀ q j, q ≠ m + 5 → q ≠ m + 15 → q ≠ m + 16 → L7 q j = L8 q j := fun q j x y z => by rw [h7, u2_a _ _ z]; exact c115_0 q j x y
        have e7 : L7 (m + 3) = L (m + 3) := by rw [← e8]; exact funext fun j => f7 _ _ (by omega) (by omega) (by omega)
        have hz7 : q_Z0 L7 m := fun q j a b c => by
          by_cases x : q = m + 16
          · omega
          · rw [h7, u2_a _ _ x]; exact c115_1 q j a b c
        have g7 : L7 (m + 16) k = g_handed (L (m + 3)) k nn := by rw [h7, u2_s]
        have o7 : ∀ i, i < k → L7 (m + 16) i = L9 (m + 16) i := fun i hi => by rw [h7, u2_k _ _ (by omega), c115_0 _ _ (by omega) (by omega)]; exact o8 i hi
        have o7' : ∀ i, i < k → L7 (m + 17) i = L9 (m + 17) i := fun i hi => by rw [f7 _ _ (by omega) (by omega) (by omega)]; exact o8' i hi
        refine q_aload_n hF 2 rfl rfl dX8_rescue_119 ?_
        refine q_getA hF fl_RX8_41 rfl hS.t0 hS.p20 dX8_rescue_120 ?_
        refine q_iload hF 1 rfl dX8_rescue_123 ?_
        refine q_aload_n hF 2 rfl rfl dX8_rescue_125 ?_
        refine q_iload hF 1 rfl dX8_rescue_126 ?_
        refine q_iload_n hF 4 rfl rfl dX8_rescue_128 ?_
        refine q_iconst hF dX8_rescue_129 ?_
        refine q_callV (kc := kc) (ks := ks) (mc' := 0) (ms' := 0) (h' := 5) (st := [qI (k : Int), .ref (m + 17)]) hF vl_RX8_375 rfl [qI (k : Int), qI (nn : Int), qI 1] rfl rfl hS.t0 (by omega) (Nat.le_of_ble_eq_true rfl) dX8_rescue_130 ?_
        refine mX8_handedBy1 (i := k) (nn := nn) hS hSA (by rw [e7]; exact hv) (by rw [e7]; exact hmn) (by rw [e7]; exact hVR) hz7 (by rw [e7]; omega) (by omega) (by rw [e7]; exact c95) (fun L' c130_0 c130_1 => ?_)
        rw [e7]
        refine q_lastorev hF (n := 12) k hS.t17 (q_Ale hSA (by omega)) rfl (by omega) (by decide) dX8_rescue_133 ?_
        refine q_iinc hF (z' := ((1 + k : Nat) : Int)) (ls' := [(5, qI ((1 + k : Nat) : Int)), (4, qI ((g_live (L (m + 3)) k) + 1)), (0, .ref m), (1, qI kk), (2, qI (nn : Int)), (3, qI wh)]) 1 rfl (by first | rfl | omega) (by decide) rfl dX8_rescue_134 ?_
        refine q_goto hF dX8_rescue_137 ?_
        rw [Nat.add_comm 1 k, show ((g_live (L (m + 3)) k) + 1) = g_live (L (m + 3)) (k + 1) from by rw [g_live_s, if_pos c95]]
        exact ih (k + 1) (u2 L' (m + 17) k (g_handed (g_tch (L (m + 3)) k) k nn)) (by omega) (by omega) (fun q j a b c d => by rw [u2_a _ _ d]; exact (c130_0 q j a b).trans ((f7 q j a b c).trans ((f8 q j c d).trans (hN q j a b c d)))) (fun q j a b c => by
          by_cases x : q = m + 17
          · omega
          · rw [u2_a _ _ x]; exact c130_1 q j a b c) (fun i hi => by
          rw [u2_a _ _ (by omega), c130_0 _ _ (by omega) (by omega)]
          by_cases e : i = k
          · subst e; rw [g7]; unfold g_lf; rw [if_pos c95]
          · rw [o7 i (by omega)]; exact hlf i (by omega)) (fun i hi => by
          by_cases e : i = k
          · subst e; rw [u2_s]; unfold g_rg; rw [if_pos c95]
          · rw [u2_k _ _ e, c130_0 _ _ (by omega) (by omega), o7' i (by omega)]; exact hrg i (by omega))
      · refine q_goto hF dX8_rescue_98 ?_
        refine q_iinc hF (z' := ((1 + k : Nat) : Int)) (ls' := [(5, qI ((1 + k : Nat) : Int)), (4, qI (g_live (L (m + 3)) k)), (0, .ref m), (1, qI kk), (2, qI (nn : Int)), (3, qI wh)]) 0 rfl (by first | rfl | omega) (by decide) rfl dX8_rescue_134 ?_
        refine q_goto hF dX8_rescue_137 ?_
        rw [Nat.add_comm 1 k, show g_live (L (m + 3)) k = g_live (L (m + 3)) (k + 1) from by rw [g_live_s, if_neg c95, Int.add_zero]]
        exact ih (k + 1) L8 (by omega) (by omega) (fun q j a b c d => (f8 q j c d).trans (hN q j a b c d)) hz8 (fun i hi => by
          by_cases e : i = k
          · subst e; rw [g8]; unfold g_lf; rw [if_neg c95]
          · rw [o8 i (by omega)]; exact hlf i (by omega)) (fun i hi => by
          by_cases e : i = k
          · subst e; rw [g8']; unfold g_rg; rw [if_neg c95]
          · rw [o8' i (by omega)]; exact hrg i (by omega))
set_option maxRecDepth 100000 in
theorem mX8_rescue0 {G : q_G} {sz : Nat} {T : q_T} {I L : q_I} {P : q_P} {Q : q_Q} {m : Nat} {k : Int} {n : Int} {w : Int}  (hS : q_SM T P m) (hSA : q_A G m) (hv : g_V0 (L (m + 3))) (hk : -2147483648 ≤ k ∧ k < 2147483648) (hn : -2147483648 ≤ n ∧ n < 2147483648) (hw : -2147483648 ≤ w ∧ w < 2147483648) (hx : ¬ ((1 ≤ k ∧ k ≤ 3) ∧ (1 ≤ n ∧ n ≤ 120) ∧ (0 ≤ w ∧ w ≤ 1))) (k1 : Q (.inl (some (qL 0))) sz T (u2 (u2 (u2 I m 0 0) m 0 1) (m + 1) 1 ((I (m + 1) 1) + 1)) L P) : qC G 7 0 0 YX8_rescue [.ref m, qI k, qI n, qI w] sz T I L P Q := by
  refine qC_of (by decide +kernel) rfl rfl (Nat.le_of_ble_eq_true rfl) (fun F hF _ _ => ?_)
  refine q_aload_n hF 0 rfl rfl dX8_rescue_0 ?_
  refine q_iconst hF dX8_rescue_1 ?_
  refine q_putI hF fl_RX8_52 hS.t0 hSA dX8_rescue_2 ?_
  refine q_aload_n hF 0 rfl rfl dX8_rescue_5 ?_
  refine q_iload_n hF 1 rfl rfl dX8_rescue_6 ?_
  refine q_i2l hF hk dX8_rescue_7 ?_
  refine q_lconst hF (z := 1) rfl dX8_rescue_8 ?_
  refine q_ldc2 hF (n := 3) (q_mem 1273 (by decide +kernel) rfl) dX8_rescue_9 ?_
  refine q_callS (kc := 0) (ks := 0) (mc' := 0) (ms' := 0) (h' := 0) (st := [.ref m]) hF sl_RX8_123 rfl [qL k, qL 1, qL 3] rfl rfl (by decide) (Nat.le_of_ble_eq_true rfl) dX8_rescue_12 ?_
  refine mX8_in (by omega) (by decide) (by decide) ?_
  refine q_ifeq_b hF dX8_rescue_15 (fun c15 => ?_) (fun c15 => ?_)
  · refine q_iconst hF dX8_rescue_40 ?_
    refine q_goto hF dX8_rescue_41 ?_
    refine q_iconst hF dX8_rescue_45 ?_
    refine q_iconst hF dX8_rescue_46 ?_
    refine q_callV (kc := 0) (ks := 0) (mc' := 0) (ms' := 0) (h' := 0) (st := []) hF vl_RX8_251 rfl [qI 1, qI 1, qI 1] rfl rfl hS.t0 (by decide) (Nat.le_of_ble_eq_true rfl) dX8_rescue_47 ?_
    refine mX8_bad1 (j := 1) hS hSA (u2_s _ _ _ _) (by omega) rfl (by decide) ?_
    rw [show (u2 I m 0 0) (m + 1) 1 = I (m + 1) 1 from (u2_k _ _ (by decide))]
    refine q_ifeq hF (by decide) dX8_rescue_50 (fun c50 => ?_) (fun c50 => ?_)
    · exact absurd c50 (by decide)
    · refine q_lconst hF (z := 0) rfl dX8_rescue_53 ?_
      refine q_lreturn hF rfl dX8_rescue_54 ?_
      exact k1
  · refine q_iload_n hF 2 rfl rfl dX8_rescue_18 ?_
    refine q_i2l hF hn dX8_rescue_19 ?_
    refine q_lconst hF (z := 1) rfl dX8_rescue_20 ?_
    refine q_ldc2 hF (n := 120) (q_mem 1586 (by decide +kernel) rfl) dX8_rescue_21 ?_
    refine q_callS (kc := 0) (ks := 0) (mc' := 0) (ms' := 0) (h' := 0) (st := [.ref m]) hF sl_RX8_123 rfl [qL n, qL 1, qL 120] rfl rfl (by decide) (Nat.le_of_ble_eq_true rfl) dX8_rescue_24 ?_
    refine mX8_in (by omega) (by decide) (by decide) ?_
    refine q_ifeq_b hF dX8_rescue_27 (fun c27 => ?_) (fun c27 => ?_)
    · refine q_iconst hF dX8_rescue_40 ?_
      refine q_goto hF dX8_rescue_41 ?_
      refine q_iconst hF dX8_rescue_45 ?_
      refine q_iconst hF dX8_rescue_46 ?_
      refine q_callV (kc := 0) (ks := 0) (mc' := 0) (ms' := 0) (h' := 0) (st := []) hF vl_RX8_251 rfl [qI 1, qI 1, qI 1] rfl rfl hS.t0 (by decide) (Nat.le_of_ble_eq_true rfl) dX8_rescue_47 ?_
      refine mX8_bad1 (j := 1) hS hSA (u2_s _ _ _ _) (by omega) rfl (by decide) ?_
      rw [show (u2 I m 0 0) (m + 1) 1 = I (m + 1) 1 from (u2_k _ _ (by decide))]
      refine q_ifeq hF (by decide) dX8_rescue_50 (fun c50 => ?_) (fun c50 => ?_)
      · exact absurd c50 (by decide)
      · refine q_lconst hF (z := 0) rfl dX8_rescue_53 ?_
        refine q_lreturn hF rfl dX8_rescue_54 ?_
        exact k1
    · refine q_iload_n hF 3 rfl rfl dX8_rescue_30 ?_
      refine q_i2l hF hw dX8_rescue_31 ?_
      refine q_lconst hF (z := 0) rfl dX8_rescue_32 ?_
      refine q_lconst hF (z := 1) rfl dX8_rescue_33 ?_
      refine q_callS (kc := 0) (ks := 0) (mc' := 0) (ms' := 0) (h' := 0) (st := [.ref m]) hF sl_RX8_123 rfl [qL w, qL 0, qL 1] rfl rfl (by decide) (Nat.le_of_ble_eq_true rfl) dX8_rescue_34 ?_
      refine mX8_in (by omega) (by decide) (by decide) ?_
      refine q_ifne_b hF dX8_rescue_37 (fun c37 => ?_) (fun c37 => ?_)
      · omega
      · refine q_iconst hF dX8_rescue_40 ?_
        refine q_goto hF dX8_rescue_41 ?_
        refine q_iconst hF dX8_rescue_45 ?_
        refine q_iconst hF dX8_rescue_46 ?_
        refine q_callV (kc := 0) (ks := 0) (mc' := 0) (ms' := 0) (h' := 0) (st := []) hF vl_RX8_251 rfl [qI 1, qI 1, qI 1] rfl rfl hS.t0 (by decide) (Nat.le_of_ble_eq_true rfl) dX8_rescue_47 ?_
        refine mX8_bad1 (j := 1) hS hSA (u2_s _ _ _ _) (by omega) rfl (by decide) ?_
        rw [show (u2 I m 0 0) (m + 1) 1 = I (m + 1) 1 from (u2_k _ _ (by decide))]
        refine q_ifeq hF (by decide) dX8_rescue_50 (fun c50 => ?_) (fun c50 => ?_)
        · exact absurd c50 (by decide)
        · refine q_lconst hF (z := 0) rfl dX8_rescue_53 ?_
          refine q_lreturn hF rfl dX8_rescue_54 ?_
          exact k1
set_option maxRecDepth 100000 in
theorem mX8_rescue {G : q_G} {sz : Nat} {T : q_T} {I L : q_I} {P : q_P} {Q : q_Q} {m : Nat} {kk : Int} {wh : Int} {mn nn : Nat} (hS : q_SM T P m) (hSA : q_A G m) (hv : g_V0 (L (m + 3))) (hmn : L (m + 3) 1 = (mn : Int)) (hm12 : mn ≤ 12) (hVR : g_VR (L (m + 3))) (hz : q_Z0 L m) (hkk : 1 ≤ kk ∧ kk ≤ 3) (hn : 1 ≤ nn ∧ nn ≤ 120) (hwh : 0 ≤ wh ∧ wh ≤ 1) (k0 : ∀ (x : Nat × Int) (L' : q_I), (∀ q k, q ≠ m + 5 → q ≠ m + 15 → q ≠ m + 16 → q ≠ m + 17 → L' q k = L q k) → q_Z0 L' m → g_resc (L (m + 3)) kk nn mn = some x → Q (.inl (some (qL (if wh = 0 then (x.1 : Int) else x.2)))) sz T (u2 I m 0 0) L' P) : qC G 7 0 0 YX8_rescue [.ref m, qI kk, qI (nn : Int), qI wh] sz T I L P Q := by
  refine qC_of (by decide +kernel) rfl rfl (Nat.le_of_ble_eq_true rfl) (fun F hF _ _ => ?_)
  refine q_aload_n hF 0 rfl rfl dX8_rescue_0 ?_
  refine q_iconst hF dX8_rescue_1 ?_
  refine q_putI hF fl_RX8_52 hS.t0 hSA dX8_rescue_2 ?_
  refine q_aload_n hF 0 rfl rfl dX8_rescue_5 ?_
  refine q_iload_n hF 1 rfl rfl dX8_rescue_6 ?_
  refine q_i2l hF (by omega) dX8_rescue_7 ?_
  refine q_lconst hF (z := 1) rfl dX8_rescue_8 ?_
  refine q_ldc2 hF (n := 3) (q_mem 1273 (by decide +kernel) rfl) dX8_rescue_9 ?_
  refine q_callS (kc := 0) (ks := 0) (mc' := 0) (ms' := 0) (h' := 0) (st := [.ref m]) hF sl_RX8_123 rfl [qL kk, qL 1, qL 3] rfl rfl (by decide) (Nat.le_of_ble_eq_true rfl) dX8_rescue_12 ?_
  refine mX8_in (by omega) (by decide) (by decide) ?_
  refine q_ifeq_b hF dX8_rescue_15 (fun c15 => ?_) (fun c15 => ?_)
  · omega
  · refine q_iload_n hF 2 rfl rfl dX8_rescue_18 ?_
    refine q_i2l hF (by omega) dX8_rescue_19 ?_
    refine q_lconst hF (z := 1) rfl dX8_rescue_20 ?_
    refine q_ldc2 hF (n := 120) (q_mem 1586 (by decide +kernel) rfl) dX8_rescue_21 ?_
    refine q_callS (kc := 0) (ks := 0) (mc' := 0) (ms' := 0) (h' := 0) (st := [.ref m]) hF sl_RX8_123 rfl [qL (nn : Int), qL 1, qL 120] rfl rfl (by decide) (Nat.le_of_ble_eq_true rfl) dX8_rescue_24 ?_
    refine mX8_in (by omega) (by decide) (by decide) ?_
    refine q_ifeq_b hF dX8_rescue_27 (fun c27 => ?_) (fun c27 => ?_)
    · omega
    · refine q_iload_n hF 3 rfl rfl dX8_rescue_30 ?_
      refine q_i2l hF (by omega) dX8_rescue_31 ?_
      refine q_lconst hF (z := 0) rfl dX8_rescue_32 ?_
      refine q_lconst hF (z := 1) rfl dX8_rescue_33 ?_
      refine q_callS (kc := 0) (ks := 0) (mc' := 0) (ms' := 0) (h' := 0) (st := [.ref m]) hF sl_RX8_123 rfl [qL wh, qL 0, qL 1] rfl rfl (by decide) (Nat.le_of_ble_eq_true rfl) dX8_rescue_34 ?_
      refine mX8_in (by omega) (by decide) (by decide) ?_
      refine q_ifne_b hF dX8_rescue_37 (fun c37 => ?_) (fun c37 => ?_)
      · refine q_iconst hF dX8_rescue_44 ?_
        refine q_iconst hF dX8_rescue_45 ?_
        refine q_iconst hF dX8_rescue_46 ?_
        refine q_callV (kc := 0) (ks := 0) (mc' := 0) (ms' := 0) (h' := 0) (st := []) hF vl_RX8_251 rfl [qI 0, qI 1, qI 1] rfl rfl hS.t0 (by decide) (Nat.le_of_ble_eq_true rfl) dX8_rescue_47 ?_
        refine mX8_bad0 hS hSA (u2_s _ _ _ _) ?_
        refine q_ifeq hF (by decide) dX8_rescue_50 (fun c50 => ?_) (fun c50 => ?_)
        · refine q_iconst hF dX8_rescue_55 ?_
          refine q_istore hF (ls' := [(4, qI 0), (0, .ref m), (1, qI kk), (2, qI (nn : Int)), (3, qI wh)]) (by decide) rfl dX8_rescue_56 ?_
          refine q_iconst hF dX8_rescue_58 ?_
          refine q_istore hF (ls' := [(5, qI 0), (4, qI 0), (0, .ref m), (1, qI kk), (2, qI (nn : Int)), (3, qI wh)]) (by decide) rfl dX8_rescue_59 ?_
          exact lX8_rescueA (mn := mn) (nn := nn) (kk := kk) (wh := wh) (L := L) (by decide) hF hS hSA hv hmn hm12 hVR (hz.zr (by omega) (by omega)) (by omega) hkk (by omega) k0 (mn + 1) 0 L (by omega) (Nat.zero_le _) (fun _ _ _ _ _ _ => rfl) hz (fun i hi => absurd hi (Nat.not_lt_zero _)) (fun i hi => absurd hi (Nat.not_lt_zero _))
        · exact absurd c50 (by decide)
      · omega
