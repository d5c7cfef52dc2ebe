/-! the class: whom to ring -/
/-- what a set changes -/
def g_chg (c : Nat → Int) (s : Nat) : Nat → Int := g_sum (fun i => if s.testBit i then c i else 0)
theorem g_chg_r {c : Nat → Int} {s : Nat} (h : ∀ i, i < 12 → -100000000 ≤ c i ∧ c i ≤ 100000000) : ∀ n : Nat, n ≤ 12 → -100000000 * (n : Int) ≤ g_chg c s n ∧ g_chg c s n ≤ 100000000 * (n : Int)
  | 0, _ => by rw [show g_chg c s 0 = 0 from rfl]; omega
  | n + 1, hn => by
    have q := g_chg_r (s := s) h n (by omega)
    have q2 := h n (by omega)
    unfold g_chg at q ⊢
    rw [g_sum_s]
    split <;> omega
theorem g_bit1 {s i : Nat} (h : s < 4096) (hi : i < 12) : g_and (g_shr (s : Int) (i : Int)) 1 = 1 ↔ s.testBit i = true := by
  rw [g_bit h hi]
  cases s.testBit i <;> simp
def g_cgood (cand : Nat) (d : Int) (s : Nat) : Prop := (∀ i, s.testBit i = true → cand.testBit i = true) ∧ ((g_pop s 12 : Nat) : Int) = d
/-- what the loop over the sets has found so far -/
def g_bst (I9 L9 : q_I) (f : Nat) (fd : Int) (b : Option (Nat × Int)) : Prop := (b = none ∧ fd = 0) ∨ ∃ x : Nat × Int, b = some x ∧ fd = 1 ∧ I9 f 2 = (x.1 : Int) ∧ L9 f 3 = x.2
theorem g_bst_no {I9 L9 : q_I} {f : Nat} {fd : Int} {G9 : Nat → Prop} {V : Nat → Int} {s : Nat} (h : g_bst I9 L9 f fd (g_best G9 V s)) (hn : ¬ G9 s) : g_bst I9 L9 f fd (g_best G9 V (s + 1)) := by
  rcases h with ⟨h1, h2⟩ | ⟨x, h1, h2⟩
  · exact Or.inl ⟨(g_best_n h1).2 hn, h2⟩
  · exact Or.inr ⟨x, (g_best_y h1).2 (fun q => hn q.1), h2⟩
theorem g_bst_ge {I9 L9 : q_I} {f : Nat} {fd : Int} {G9 : Nat → Prop} {V : Nat → Int} {s : Nat} (h : g_bst I9 L9 f fd (g_best G9 V s)) (hf : fd ≠ 0) (hn : L9 f 3 ≤ V s) : g_bst I9 L9 f fd (g_best G9 V (s + 1)) := by
  rcases h with ⟨h1, h2⟩ | ⟨x, h1, h2, h3, h4⟩
  · exact absurd h2 hf
  · exact Or.inr ⟨x, (g_best_y h1).2 (fun q => by have := q.2; omega), h2, h3, h4⟩
theorem g_bst_set {I9 L9 I' L' : q_I} {f : Nat} {fd : Int} {G9 : Nat → Prop} {V : Nat → Int} {s : Nat} (h : g_bst I9 L9 f fd (g_best G9 V s)) (hg : G9 s) (hl : fd = 0 ∨ V s < L9 f 3) (h2 : I' f 2 = (s : Int)) (h3 : L' f 3 = V s) : g_bst I' L' f 1 (g_best G9 V (s + 1)) := by
  rcases h with ⟨h1, h5⟩ | ⟨x, h1, h5, h6, h7⟩
  · exact Or.inr ⟨(s, V s), (g_best_n h1).1 hg, rfl, h2, h3⟩
  · exact Or.inr ⟨(s, V s), (g_best_y h1).1 hg (by omega), rfl, h2, h3⟩
theorem g_bst_r {I9 L9 : q_I} {f : Nat} {fd lo hi : Int} {G9 : Nat → Prop} {V : Nat → Int} {s : Nat} (h : g_bst I9 L9 f fd (g_best G9 V s)) (hf : fd ≠ 0) (hV : ∀ s, lo ≤ V s ∧ V s ≤ hi) : lo ≤ L9 f 3 ∧ L9 f 3 ≤ hi := by
  rcases h with ⟨h1, h5⟩ | ⟨x, h1, h5, h6, h7⟩
  · exact absurd h5 hf
  · rw [h7, (g_best_at _ h1).2.2]; exact hV _
theorem g_sub_le {s c : Nat} (h : ∀ i, s.testBit i = true → c.testBit i = true) : s ≤ c := by
  have e : s = s &&& c := Nat.eq_of_testBit_eq (fun i => by
    rw [Nat.testBit_and]
    have := h i
    cases h1 : s.testBit i <;> simp_all)
  rw [e]
  exact Nat.and_le_right
theorem g_tch_2 (r : Nat → Int) (a : Nat) : g_tch r a 2 = r 2 := by unfold g_tch; rw [g_up_n _ _ (by omega), g_up_n _ _ (by omega)]
theorem g_tch_1 (r : Nat → Int) (a : Nat) : g_tch r a 1 = r 1 := by unfold g_tch; rw [g_up_n _ _ (by omega), g_up_n _ _ (by omega)]
theorem g_tch_Z {r : Nat → Int} (hz : g_Zr r) {a : Nat} (ha : a < 12) : g_Zr (g_tch r a) := by unfold g_tch; exact (hz.up (by omega)).up (by omega)
theorem g_tch_V {r : Nat → Int} (hV : g_VR r) {a : Nat} (ha : (a : Int) < r 1) (ho : r (1043 + 12 * a) = 0 ∨ r (1043 + 12 * a) = 1) : g_VR (g_tch r a) := by
  unfold g_VR
  rw [g_tch_2]
  exact g_VM.tch hV ha ho
theorem g_handed_r {r : Nat → Int} (hz : g_Zr r) (hV : g_VR r) {a : Nat} (ha : (a : Int) < r 1) (nn : Nat) : 0 ≤ g_handed r a nn ∧ g_handed r a nn ≤ 100000000 := by
  have := (g_run_VA hz hV ha nn).2.1
  unfold g_handed
  split <;> omega
theorem g_lf_r {r : Nat → Int} (hz : g_Zr r) (hV : g_VR r) {a : Nat} (ha : (a : Int) < r 1) (nn : Nat) : 0 ≤ g_lf r nn a ∧ g_lf r nn a ≤ 100000000 := by
  have := g_handed_r hz hV ha nn
  unfold g_lf
  split <;> omega
theorem g_rg_r {r : Nat → Int} (hz : g_Zr r) (hV : g_VR r) {a : Nat} (ha : (a : Int) < r 1) (nn : Nat) : 0 ≤ g_rg r nn a ∧ g_rg r nn a ≤ 100000000 := by
  have hm := hV.1.many
  unfold g_rg
  split
  · next h => exact g_handed_r (g_tch_Z hz (by omega)) (g_tch_V hV ha h) (by rw [g_tch_1]; exact ha) nn
  · omega
theorem q_AR.wk {I : q_I} {o : Nat} {r : Nat → Int} {a : Nat} (h : q_AR I o r a) (ho : r (1043 + 12 * a) = 0 ∨ r (1043 + 12 * a) = 1) : q_AR (u2 (u2 I o 6 0) o 4 0) o (g_tch r a) a := by
  have e : ∀ k, k ≠ 1045 + 12 * a → k ≠ 1043 + 12 * a → g_tch r a k = r k := fun k h1 h2 => by unfold g_tch; rw [g_up_n _ _ h2, g_up_n _ _ h1]
  have e1 : g_tch r a (1045 + 12 * a) = 0 := by unfold g_tch; rw [g_up_n _ _ (by omega), g_up_s]
  have e2 : g_tch r a (1043 + 12 * a) = 0 := by unfold g_tch; rw [g_up_s]
  refine ⟨?_, ?_, ?_, ?_, ?_, ?_, ?_, ?_, ?_, ?_, ?_, ?_⟩
  · rw [u2_k _ _ (by decide), u2_k _ _ (by decide), e _ (by omega) (by omega)]; exact h.kind
  · rw [u2_k _ _ (by decide), u2_k _ _ (by decide), e _ (by omega) (by omega)]; exact h.addr
  · rw [u2_k _ _ (by decide), u2_k _ _ (by decide), e _ (by omega) (by omega)]; exact h.birth
  · rw [u2_k _ _ (by decide), u2_k _ _ (by decide), e _ (by omega) (by omega)]; exact h.cents
  · rw [u2_s, e2]
  · rw [u2_k _ _ (by decide), u2_k _ _ (by decide), e _ (by omega) (by omega)]; exact h.age
  · rw [u2_k _ _ (by decide), u2_s, e1]
  · rw [u2_k _ _ (by decide), u2_k _ _ (by decide), e _ (by omega) (by omega)]; exact h.wrote
  · rw [u2_k _ _ (by decide), u2_k _ _ (by decide), e _ (by omega) (by omega)]; exact h.lat
  · rw [u2_k _ _ (by decide), u2_k _ _ (by decide), e _ (by omega) (by omega)]; exact h.holder
  · rw [u2_k _ _ (by decide), u2_k _ _ (by decide), e _ (by omega) (by omega)]; exact h.nl
  · intro q; rw [e2] at q; exact absurd q (by decide)
theorem g_tch_same (r : Nat → Int) {a : Nat} (ha : a < 12) : g_same r (g_tch r a) := by
  unfold g_tch
  exact ((g_same.rf r).up (by unfold g_rc; omega)).up (by unfold g_rc; omega)
/-- what the class finds is what is asked -/
theorem g_resc_c {r C : Nat → Int} {kk : Int} {nn mn c : Nat} (hm : mn ≤ 12) (hc1 : c < 2 ^ mn) (hc3 : ∀ i, c.testBit i = true ↔ i < mn ∧ (r (1043 + 12 * i) = 0 ∨ r (1043 + 12 * i) = 1))
    (hC : ∀ i : Nat, i < mn → (r (1043 + 12 * i) = 0 ∨ r (1043 + 12 * i) = 1) → C i = g_rg r nn i - g_lf r nn i) :
    g_best (g_cgood c (min kk ((g_pop c 12 : Nat) : Int))) (fun s => g_sum (g_lf r nn) mn + g_chg C s 12) (c + 1) = g_resc r kk nn mn := by
  have hhi : ∀ s, s < 2 ^ mn → ∀ i, mn ≤ i → s.testBit i = false := fun s hs i hi => Nat.testBit_lt_two_pow (Nat.lt_of_lt_of_le hs (Nat.pow_le_pow_right (by decide) hi))
  have hpop : ∀ s, s < 2 ^ mn → g_pop s 12 = g_pop s mn := fun s hs => by
    have e := g_pop_hi (hhi s hs) (12 - mn)
    rwa [show mn + (12 - mn) = 12 by omega] at e
  have hlive : ((g_pop c 12 : Nat) : Int) = g_live r mn := by
    rw [hpop c hc1, g_pop_sum]
    refine g_sum_ext _ (fun i hi => ?_)
    by_cases q : c.testBit i = true
    · rw [if_pos q, if_pos ((hc3 i).mp q).2]
    · rw [if_neg q, if_neg (fun x => q ((hc3 i).mpr ⟨hi, x⟩))]
  unfold g_resc
  have e1 : g_best (g_good r mn (min kk (g_live r mn))) (g_val r nn mn) (2 ^ mn) = g_best (g_good r mn (min kk (g_live r mn))) (g_val r nn mn) (c + 1) := by
    have := g_best_more (good := g_good r mn (min kk (g_live r mn))) (val := g_val r nn mn) (n := c + 1) (2 ^ mn - (c + 1)) (fun i h1 h2 hg => by
      have := g_sub_le (s := i) (c := c) (fun j hj => (hc3 j).mpr (hg.1 j hj))
      omega)
    rwa [show c + 1 + (2 ^ mn - (c + 1)) = 2 ^ mn by omega] at this
  rw [e1, hlive]
  refine g_best_ext _ (fun s hs => ?_) (fun s hs hg => ?_)
  · unfold g_cgood g_good
    constructor
    · intro h; exact ⟨fun i hi => (hc3 i).mp (h.1 i hi), h.2⟩
    · intro h; exact ⟨fun i hi => (hc3 i).mpr (h.1 i hi), h.2⟩
  · unfold g_val g_chg
    have hs2 : s < 2 ^ mn := by omega
    have e2 : g_sum (fun i => if s.testBit i = true then C i else 0) 12 = g_sum (fun i => if s.testBit i = true then C i else 0) mn := by
      rw [show (12 : Nat) = mn + (12 - mn) by omega, g_sum_app, g_sum_0 (f := fun j => if s.testBit (mn + j) = true then C (mn + j) else 0) _ (fun i hi => by rw [hhi s hs2 (mn + i) (by omega)]; rfl), Int.add_zero]
    rw [e2, ← g_sum_add]
    refine g_sum_ext _ (fun i hi => ?_)
    by_cases q : s.testBit i = true
    · rw [if_pos q, if_pos q, hC i hi ((hc3 i).mp (hg.1 i q)).2]; omega
    · rw [if_neg q, if_neg q, Int.add_zero]
set_option maxRecDepth 100000 in
theorem mJ6_bitCount_0f7a4 {G : q_G} {sz : Nat} {T : q_T} {I L : q_I} {P : q_P} {Q : q_Q} {a : Int}   (k0 : Q (.inl (some (qI (g_bc a)))) sz T I L P) : qC G 0 0 0 YJ6_bitCount_0f7a4 [qI a] sz T I L P Q := by
  refine qC_of (by decide +kernel) rfl rfl (Nat.le_of_ble_eq_true rfl) (fun F hF _ _ => ?_)
  refine q_iload_n hF 0 rfl rfl dJ6_bitCount_0f7a4_0 ?_
  refine q_iload_n hF 0 rfl rfl dJ6_bitCount_0f7a4_1 ?_
  refine q_iconst hF dJ6_bitCount_0f7a4_2 ?_
  refine q_iushr hF (c0 := g_ushr a 1) (g_ushr_o _ _) dJ6_bitCount_0f7a4_3 ?_
  refine q_ldcw hF (n := 1431655765) (q_mem 1028 (by decide +kernel) rfl) dJ6_bitCount_0f7a4_4 ?_
  refine q_iand hF (c0 := g_and (g_ushr a 1) 1431655765) (g_and_o _ _) dJ6_bitCount_0f7a4_7 ?_
  refine q_isub hF dJ6_bitCount_0f7a4_8 ?_
  refine q_istore_n hF (ls' := [(0, qI (a - (g_and (g_ushr a 1) 1431655765)))]) rfl (by decide) rfl dJ6_bitCount_0f7a4_9 ?_
  show qX G F Q 0 0 10 [(0, qI (g_bc1 a))] [] sz T I L P
  refine q_iload_n hF 0 rfl rfl dJ6_bitCount_0f7a4_10 ?_
  refine q_ldcw hF (n := 858993459) (q_mem 1029 (by decide +kernel) rfl) dJ6_bitCount_0f7a4_11 ?_
  refine q_iand hF (c0 := g_and (g_bc1 a) 858993459) (g_and_o _ _) dJ6_bitCount_0f7a4_14 ?_
  refine q_iload_n hF 0 rfl rfl dJ6_bitCount_0f7a4_15 ?_
  refine q_iconst hF dJ6_bitCount_0f7a4_16 ?_
  refine q_iushr hF (c0 := g_ushr (g_bc1 a) 2) (g_ushr_o _ _) dJ6_bitCount_0f7a4_17 ?_
  refine q_ldcw hF (n := 858993459) (q_mem 1029 (by decide +kernel) rfl) dJ6_bitCount_0f7a4_18 ?_
  refine q_iand hF (c0 := g_and (g_ushr (g_bc1 a) 2) 858993459) (g_and_o _ _) dJ6_bitCount_0f7a4_21 ?_
  refine q_iadd hF dJ6_bitCount_0f7a4_22 ?_
  refine q_istore_n hF (ls' := [(0, qI ((g_and (g_bc1 a) 858993459) + (g_and (g_ushr (g_bc1 a) 2) 858993459)))]) rfl (by decide) rfl dJ6_bitCount_0f7a4_23 ?_
  show qX G F Q 0 0 24 [(0, qI (g_bc2 (g_bc1 a)))] [] sz T I L P
  refine q_iload_n hF 0 rfl rfl dJ6_bitCount_0f7a4_24 ?_
  refine q_iload_n hF 0 rfl rfl dJ6_bitCount_0f7a4_25 ?_
  refine q_iconst hF dJ6_bitCount_0f7a4_26 ?_
  refine q_iushr hF (c0 := g_ushr (g_bc2 (g_bc1 a)) 4) (g_ushr_o _ _) dJ6_bitCount_0f7a4_27 ?_
  refine q_iadd hF dJ6_bitCount_0f7a4_28 ?_
  refine q_ldcw hF (n := 252645135) (q_mem 1030 (by decide +kernel) rfl) dJ6_bitCount_0f7a4_29 ?_
  refine q_iand hF (c0 := g_and ((g_bc2 (g_bc1 a)) + (g_ushr (g_bc2 (g_bc1 a)) 4)) 252645135) (g_and_o _ _) dJ6_bitCount_0f7a4_32 ?_
  refine q_istore_n hF (ls' := [(0, qI (g_and ((g_bc2 (g_bc1 a)) + (g_ushr (g_bc2 (g_bc1 a)) 4)) 252645135))]) rfl (by decide) rfl dJ6_bitCount_0f7a4_33 ?_
  show qX G F Q 0 0 34 [(0, qI (g_bc3 (g_bc2 (g_bc1 a))))] [] sz T I L P
  refine q_iload_n hF 0 rfl rfl dJ6_bitCount_0f7a4_34 ?_
  refine q_iload_n hF 0 rfl rfl dJ6_bitCount_0f7a4_35 ?_
  refine q_bipush hF (n := 8) rfl dJ6_bitCount_0f7a4_36 ?_
  refine q_iushr hF (c0 := g_ushr (g_bc3 (g_bc2 (g_bc1 a))) 8) (g_ushr_o _ _) dJ6_bitCount_0f7a4_38 ?_
  refine q_iadd hF dJ6_bitCount_0f7a4_39 ?_
  refine q_istore_n hF (ls' := [(0, qI ((g_bc3 (g_bc2 (g_bc1 a))) + (g_ushr (g_bc3 (g_bc2 (g_bc1 a))) 8)))]) rfl (by decide) rfl dJ6_bitCount_0f7a4_40 ?_
  show qX G F Q 0 0 41 [(0, qI (g_bc4 (g_bc3 (g_bc2 (g_bc1 a)))))] [] sz T I L P
  refine q_iload_n hF 0 rfl rfl dJ6_bitCount_0f7a4_41 ?_
  refine q_iload_n hF 0 rfl rfl dJ6_bitCount_0f7a4_42 ?_
  refine q_bipush hF (n := 16) rfl dJ6_bitCount_0f7a4_43 ?_
  refine q_iushr hF (c0 := g_ushr (g_bc4 (g_bc3 (g_bc2 (g_bc1 a)))) 16) (g_ushr_o _ _) dJ6_bitCount_0f7a4_45 ?_
  refine q_iadd hF dJ6_bitCount_0f7a4_46 ?_
  refine q_istore_n hF (ls' := [(0, qI ((g_bc4 (g_bc3 (g_bc2 (g_bc1 a)))) + (g_ushr (g_bc4 (g_bc3 (g_bc2 (g_bc1 a)))) 16)))]) rfl (by decide) rfl dJ6_bitCount_0f7a4_47 ?_
  refine q_iload_n hF 0 rfl rfl dJ6_bitCount_0f7a4_48 ?_
  refine q_bipush hF (n := 63) rfl dJ6_bitCount_0f7a4_49 ?_
  refine q_iand hF (c0 := g_and ((g_bc4 (g_bc3 (g_bc2 (g_bc1 a)))) + (g_ushr (g_bc4 (g_bc3 (g_bc2 (g_bc1 a)))) 16)) 63) (g_and_o _ _) dJ6_bitCount_0f7a4_51 ?_
  refine q_ireturn hF rfl dJ6_bitCount_0f7a4_52 ?_
  rw [show (g_bc a) = (g_and ((g_bc4 (g_bc3 (g_bc2 (g_bc1 a)))) + (g_ushr (g_bc4 (g_bc3 (g_bc2 (g_bc1 a)))) 16)) 63) from by rfl] at k0; exact k0
set_option maxRecDepth 100000 in
theorem lX1_changeBy {G : q_G} {F : q_F} {Q : q_Q} {kc ks sz : Nat} {T : q_T} {f ch s : Nat} {I L : q_I} {P : q_P} (hF : q_ok G F YX1_changeBy 0) (hs4 : s < 4096) (hS1 : P f 1 = some ch) (hS2 : T f = some (.inl 1)) (hS3 : T ch = some (.inr (1, 12))) (hcr : ∀ i, i < 12 → -100000000 ≤ L ch i ∧ L ch i ≤ 100000000) (k0 : Q (.inl (some (qL (g_chg (L ch) s 12)))) sz T I L P) : ∀ (n : Nat) (k : Nat), 12 - k < n → k ≤ 12 → qX G F Q kc ks 5 [(4, qI (k : Int)), (2, qL (g_chg (L ch) s k)), (0, .ref f), (1, qI (s : Int))] [] sz T I L P := by
  intro n
  induction n with
  | zero => intro k hn; exact absurd hn (Nat.not_lt_zero _)
  | succ n ih =>
    intro k hn hk
    refine q_iload hF 0 rfl dX1_changeBy_5 ?_
    refine q_bipush hF (n := 12) rfl dX1_changeBy_7 ?_
    refine q_icmpge hF (by omega) (by decide) dX1_changeBy_9 (fun c9 => ?_) (fun c9 => ?_)
    · refine q_lload_n hF 1 rfl rfl dX1_changeBy_42 ?_
      refine q_lreturn hF rfl dX1_changeBy_43 ?_
      rw [show k = 12 by omega]
      exact k0
    · refine q_lload_n hF 1 rfl rfl dX1_changeBy_12 ?_
      refine q_iload_n hF 3 rfl rfl dX1_changeBy_13 ?_
      refine q_iload hF 0 rfl dX1_changeBy_14 ?_
      refine q_ishr hF (c0 := g_shr (s : Int) (k : Int)) (g_shr_o _ _) dX1_changeBy_16 ?_
      refine q_iconst hF dX1_changeBy_17 ?_
      refine q_iand hF (c0 := g_and (g_shr (s : Int) (k : Int)) 1) (g_and_o _ _) dX1_changeBy_18 ?_
      refine q_iconst hF dX1_changeBy_19 ?_
      refine q_icmpne hF (g_and_r _ _) (by decide) dX1_changeBy_20 (fun c20 => ?_) (fun c20 => ?_)
      · refine q_lconst hF (z := 0) rfl dX1_changeBy_33 ?_
        refine q_ladd hF dX1_changeBy_34 ?_
        refine q_lstore_n hF (ls' := [(2, qL ((g_chg (L ch) s k) + 0)), (4, qI (k : Int)), (0, .ref f), (1, qI (s : Int))]) rfl (by decide) rfl dX1_changeBy_35 ?_
        refine q_iinc hF (z' := ((1 + k : Nat) : Int)) (ls' := [(4, qI ((1 + k : Nat) : Int)), (2, qL ((g_chg (L ch) s k) + 0)), (0, .ref f), (1, qI (s : Int))]) 1 rfl (by first | rfl | omega) (by decide) rfl dX1_changeBy_36 ?_
        refine q_goto hF dX1_changeBy_39 ?_
        rw [Nat.add_comm 1 k, show ((g_chg (L ch) s k) + 0) = g_chg (L ch) s (k + 1) from by unfold g_chg; rw [g_sum_s, if_neg (fun q => c20 ((g_bit1 hs4 (by omega)).mpr q))]]
        exact ih (k + 1) (by omega) (by omega)
      · refine q_aload_n hF 2 rfl rfl dX1_changeBy_23 ?_
        refine q_getA hF fl_RX1_18 rfl hS2 hS1 dX1_changeBy_24 ?_
        refine q_iload hF 0 rfl dX1_changeBy_27 ?_
        refine q_laloadv hF (z := L ch k) (n := 12) k hS3 rfl (by omega) (by decide) rfl dX1_changeBy_29 ?_
        refine q_goto hF dX1_changeBy_30 ?_
        refine q_ladd hF dX1_changeBy_34 ?_
        refine q_lstore_n hF (ls' := [(2, qL ((g_chg (L ch) s k) + (L ch k))), (4, qI (k : Int)), (0, .ref f), (1, qI (s : Int))]) rfl (by decide) rfl dX1_changeBy_35 ?_
        refine q_iinc hF (z' := ((1 + k : Nat) : Int)) (ls' := [(4, qI ((1 + k : Nat) : Int)), (2, qL ((g_chg (L ch) s k) + (L ch k))), (0, .ref f), (1, qI (s : Int))]) 1 rfl (by first | rfl | omega) (by decide) rfl dX1_changeBy_36 ?_
        refine q_goto hF dX1_changeBy_39 ?_
        rw [Nat.add_comm 1 k, show ((g_chg (L ch) s k) + (L ch k)) = g_chg (L ch) s (k + 1) from by unfold g_chg; rw [g_sum_s, if_pos ((g_bit1 hs4 (by omega)).mp c20)]]
        exact ih (k + 1) (by omega) (by omega)
set_option maxRecDepth 100000 in
theorem mX1_changeBy {G : q_G} {sz : Nat} {T : q_T} {I L : q_I} {P : q_P} {Q : q_Q} {f : Nat} {ch s : Nat} (hs4 : s < 4096) (hS1 : P f 1 = some ch) (hS2 : T f = some (.inl 1)) (hS3 : T ch = some (.inr (1, 12))) (hcr : ∀ i, i < 12 → -100000000 ≤ L ch i ∧ L ch i ≤ 100000000) (k0 : Q (.inl (some (qL (g_chg (L ch) s 12)))) sz T I L P) : qC G 0 0 0 YX1_changeBy [.ref f, qI (s : Int)] sz T I L P Q := by
  refine qC_of (by decide +kernel) rfl rfl (Nat.le_of_ble_eq_true rfl) (fun F hF _ _ => ?_)
  refine q_lconst hF (z := 0) rfl dX1_changeBy_0 ?_
  refine q_lstore_n hF (ls' := [(2, qL 0), (0, .ref f), (1, qI (s : Int))]) rfl (by decide) rfl dX1_changeBy_1 ?_
  refine q_iconst hF dX1_changeBy_2 ?_
  refine q_istore hF (ls' := [(4, qI 0), (2, qL 0), (0, .ref f), (1, qI (s : Int))]) (by decide) rfl dX1_changeBy_3 ?_
  exact lX1_changeBy hF hs4 hS1 hS2 hS3 hcr k0 13 0 (by omega) (Nat.zero_le _)
set_option maxRecDepth 100000 in
theorem lX1_chooseSet {G : q_G} {F : q_F} {h : Nat} {Q : q_Q} {kc ks sz : Nat} {T : q_T} {f ch c : Nat} {d u : Int} {I L : q_I} {P : q_P} (h1 : 1 ≤ h) (hF : q_ok G F YX1_chooseSet h) (hS1 : P f 1 = some ch) (hS2 : T f = some (.inl 1)) (hS3 : T ch = some (.inr (1, 12))) (hcr : ∀ i, i < 12 → -100000000 ≤ L ch i ∧ L ch i ≤ 100000000) (hfA : q_A G f) (hne : ch ≠ f) (hc4 : c < 4096) (hd : -2147483648 ≤ d ∧ d < 2147483648) (hu : -1000000000000 ≤ u ∧ u ≤ 1000000000000) (k0 : ∀ (fd : Int) (M9 N9 : q_I), (∀ q k, ¬ (q = f ∧ k = 2) → M9 q k = I q k) → (∀ q k, ¬ (q = f ∧ k = 3) → N9 q k = L q k) → g_bst M9 N9 f fd (g_best (g_cgood c d) (fun s => u + g_chg (L ch) s 12) (c + 1)) → Q (.inl none) sz T M9 N9 P) : ∀ (n : Nat) (s : Nat) (fd : Int) (I9 L9 : q_I), c + 1 - s < n → s ≤ c + 1 → g_bst I9 L9 f fd (g_best (g_cgood c d) (fun s => u + g_chg (L ch) s 12) s) → (∀ q k, ¬ (q = f ∧ k = 2) → I9 q k = I q k) → (∀ q k, ¬ (q = f ∧ k = 3) → L9 q k = L q k) → qX G F Q kc ks 6 [(6, qI (s : Int)), (5, qI fd), (0, .ref f), (1, qI (c : Int)), (2, qI d), (3, qL u)] [] sz T I9 L9 P := by
  intro n
  induction n with
  | zero => intro s fd I9 L9 hn; exact absurd hn (Nat.not_lt_zero _)
  | succ n ih =>
    intro s fd I9 L9 hn hs hb hI hL
    refine q_iload hF 0 rfl dX1_chooseSet_6 ?_
    refine q_iload_n hF 3 rfl rfl dX1_chooseSet_8 ?_
    refine q_icmpgt hF (by omega) (by omega) dX1_chooseSet_9 (fun c9 => ?_) (fun c9 => ?_)
    · refine q_return hF rfl dX1_chooseSet_76 ?_
      rw [show s = c + 1 by omega] at hb
      exact k0 fd I9 L9 hI hL hb
    · refine q_iload hF 0 rfl dX1_chooseSet_12 ?_
      refine q_iload_n hF 3 rfl rfl dX1_chooseSet_14 ?_
      refine q_iconst hF dX1_chooseSet_15 ?_
      refine q_ixor hF (c0 := g_xori (c : Int) (-1)) (g_xori_o _ _) dX1_chooseSet_16 ?_
      refine q_iand hF (c0 := g_and (s : Int) (g_xori (c : Int) (-1))) (g_and_o _ _) dX1_chooseSet_17 ?_
      refine q_ifne hF (g_and_r _ _) dX1_chooseSet_18 (fun c18 => ?_) (fun c18 => ?_)
      · refine q_iinc hF (z' := ((1 + s : Nat) : Int)) (ls' := [(6, qI ((1 + s : Nat) : Int)), (5, qI fd), (0, .ref f), (1, qI (c : Int)), (2, qI d), (3, qL u)]) 0 rfl (by first | rfl | omega) (by decide) rfl dX1_chooseSet_70 ?_
        refine q_goto hF dX1_chooseSet_73 ?_
        rw [Nat.add_comm 1 s]
        exact ih (s + 1) fd I9 L9 (by omega) (by omega) (g_bst_no hb (fun q => c18 ((g_out (by omega) hc4).mpr q.1))) hI hL
      · refine q_iload hF 0 rfl dX1_chooseSet_21 ?_
        refine q_callS (kc := kc) (ks := ks) (mc' := 0) (ms' := 0) (h' := 0) (st := []) hF sl_RX1_56 rfl [qI (s : Int)] rfl rfl (by omega) (Nat.le_of_ble_eq_true rfl) dX1_chooseSet_23 ?_
        refine mJ6_bitCount_0f7a4 ?_
        rw [g_bc_pop (show s < 4096 by omega)]
        have hpl := g_pop_le s 12
        refine q_iload_n hF 4 rfl rfl dX1_chooseSet_26 ?_
        refine q_icmpne hF (by omega) (by omega) dX1_chooseSet_27 (fun c27 => ?_) (fun c27 => ?_)
        · refine q_iinc hF (z' := ((1 + s : Nat) : Int)) (ls' := [(6, qI ((1 + s : Nat) : Int)), (5, qI fd), (0, .ref f), (1, qI (c : Int)), (2, qI d), (3, qL u)]) 0 rfl (by first | rfl | omega) (by decide) rfl dX1_chooseSet_70 ?_
          refine q_goto hF dX1_chooseSet_73 ?_
          rw [Nat.add_comm 1 s]
          exact ih (s + 1) fd I9 L9 (by omega) (by omega) (g_bst_no hb (fun q => c27 q.2)) hI hL
        · refine q_lload_n hF 5 rfl rfl dX1_chooseSet_30 ?_
          refine q_aload_n hF 2 rfl rfl dX1_chooseSet_31 ?_
          refine q_iload hF 0 rfl dX1_chooseSet_32 ?_
          refine q_callV (kc := kc) (ks := ks) (mc' := 0) (ms' := 0) (h' := 0) (st := [qL u]) hF vl_RX1_72 rfl [qI (s : Int)] rfl rfl hS2 (by omega) (Nat.le_of_ble_eq_true rfl) dX1_chooseSet_34 ?_
          refine mX1_changeBy (s := s) (ch := ch) (by omega) hS1 hS2 hS3 (fun i hi => by rw [hL ch i (fun q => hne q.1)]; exact hcr i hi) ?_
          rw [show L9 ch = L ch from funext fun k => hL ch k (fun q => hne q.1)]
          have hgr := g_chg_r (s := s) hcr 12 (Nat.le_refl _)
          refine q_ladd hF dX1_chooseSet_37 ?_
          refine q_lstore hF (ls' := [(7, qL (u + (g_chg (L ch) s 12))), (6, qI (s : Int)), (5, qI fd), (0, .ref f), (1, qI (c : Int)), (2, qI d), (3, qL u)]) (by decide) rfl dX1_chooseSet_38 ?_
          refine q_iload hF 2 rfl dX1_chooseSet_40 ?_
          refine q_ifeq hF (by rcases hb with ⟨-, q⟩ | ⟨x, -, q, -⟩ <;> omega) dX1_chooseSet_42 (fun c42 => ?_) (fun c42 => ?_)
          · refine q_iconst hF dX1_chooseSet_55 ?_
            refine q_istore hF (ls' := [(5, qI 1), (7, qL (u + (g_chg (L ch) s 12))), (6, qI (s : Int)), (0, .ref f), (1, qI (c : Int)), (2, qI d), (3, qL u)]) (by decide) rfl dX1_chooseSet_56 ?_
            refine q_aload_n hF 3 rfl rfl dX1_chooseSet_58 ?_
            refine q_iload hF 2 rfl dX1_chooseSet_59 ?_
            refine q_putI hF fl_RX1_80 hS2 hfA dX1_chooseSet_61 ?_
            refine q_aload_n hF 3 rfl rfl dX1_chooseSet_64 ?_
            refine q_lload hF 1 rfl dX1_chooseSet_65 ?_
            refine q_putL hF fl_RX1_76 hS2 hfA dX1_chooseSet_67 ?_
            refine q_iinc hF (z' := ((1 + s : Nat) : Int)) (ls' := [(6, qI ((1 + s : Nat) : Int)), (5, qI 1), (7, qL (u + (g_chg (L ch) s 12))), (0, .ref f), (1, qI (c : Int)), (2, qI d), (3, qL u)]) 2 rfl (by first | rfl | omega) (by decide) rfl dX1_chooseSet_70 ?_
            refine q_goto hF dX1_chooseSet_73 ?_
            refine q_sub [0, 1, 3, 4, 5, 6] rfl ?_
            rw [Nat.add_comm 1 s]
            exact ih (s + 1) 1 (u2 I9 f 2 (s : Int)) (u2 L9 f 3 (u + (g_chg (L ch) s 12))) (by omega) (by omega) (g_bst_set hb ⟨(g_out (by omega) hc4).mp c18, c27⟩ (Or.inl c42) (u2_s _ _ _ _) (u2_s _ _ _ _)) (fun q k h => (q_u2o (by omega)).trans (hI q k h)) (fun q k h => (q_u2o (by omega)).trans (hL q k h))
          · have hbr := g_bst_r (lo := -2000000000000) (hi := 2000000000000) hb c42 (fun s => by have := g_chg_r (s := s) hcr 12 (Nat.le_refl _); omega)
            refine q_lload hF 0 rfl dX1_chooseSet_45 ?_
            refine q_aload_n hF 3 rfl rfl dX1_chooseSet_47 ?_
            refine q_getLv hF (z := L9 f 3) fl_RX1_76 hS2 rfl dX1_chooseSet_48 ?_
            refine q_cmpge hF (by omega) (by omega) dX1_chooseSet_51 dX1_chooseSet_52 (fun c52 => ?_) (fun c52 => ?_)
            · refine q_iinc hF (z' := ((1 + s : Nat) : Int)) (ls' := [(6, qI ((1 + s : Nat) : Int)), (7, qL (u + (g_chg (L ch) s 12))), (5, qI fd), (0, .ref f), (1, qI (c : Int)), (2, qI d), (3, qL u)]) 1 rfl (by first | rfl | omega) (by decide) rfl dX1_chooseSet_70 ?_
              refine q_goto hF dX1_chooseSet_73 ?_
              refine q_sub [0, 2, 3, 4, 5, 6] rfl ?_
              rw [Nat.add_comm 1 s]
              exact ih (s + 1) fd I9 L9 (by omega) (by omega) (g_bst_ge hb c42 c52) hI hL
            · refine q_iconst hF dX1_chooseSet_55 ?_
              refine q_istore hF (ls' := [(5, qI 1), (7, qL (u + (g_chg (L ch) s 12))), (6, qI (s : Int)), (0, .ref f), (1, qI (c : Int)), (2, qI d), (3, qL u)]) (by decide) rfl dX1_chooseSet_56 ?_
              refine q_aload_n hF 3 rfl rfl dX1_chooseSet_58 ?_
              refine q_iload hF 2 rfl dX1_chooseSet_59 ?_
              refine q_putI hF fl_RX1_80 hS2 hfA dX1_chooseSet_61 ?_
              refine q_aload_n hF 3 rfl rfl dX1_chooseSet_64 ?_
              refine q_lload hF 1 rfl dX1_chooseSet_65 ?_
              refine q_putL hF fl_RX1_76 hS2 hfA dX1_chooseSet_67 ?_
              refine q_iinc hF (z' := ((1 + s : Nat) : Int)) (ls' := [(6, qI ((1 + s : Nat) : Int)), (5, qI 1), (7, qL (u + (g_chg (L ch) s 12))), (0, .ref f), (1, qI (c : Int)), (2, qI d), (3, qL u)]) 2 rfl (by first | rfl | omega) (by decide) rfl dX1_chooseSet_70 ?_
              refine q_goto hF dX1_chooseSet_73 ?_
              refine q_sub [0, 1, 3, 4, 5, 6] rfl ?_
              rw [Nat.add_comm 1 s]
              exact ih (s + 1) 1 (u2 I9 f 2 (s : Int)) (u2 L9 f 3 (u + (g_chg (L ch) s 12))) (by omega) (by omega) (g_bst_set hb ⟨(g_out (by omega) hc4).mp c18, c27⟩ (Or.inr c52) (u2_s _ _ _ _) (u2_s _ _ _ _)) (fun q k h => (q_u2o (by omega)).trans (hI q k h)) (fun q k h => (q_u2o (by omega)).trans (hL q k h))
set_option maxRecDepth 100000 in
theorem mX1_chooseSet {G : q_G} {sz : Nat} {T : q_T} {I L : q_I} {P : q_P} {Q : q_Q} {f : Nat} {d : Int} {u : Int} {ch c : Nat} (hS1 : P f 1 = some ch) (hS2 : T f = some (.inl 1)) (hS3 : T ch = some (.inr (1, 12))) (hcr : ∀ i, i < 12 → -100000000 ≤ L ch i ∧ L ch i ≤ 100000000) (hfA : q_A G f) (hne : ch ≠ f) (hc4 : c < 4096) (hd : -2147483648 ≤ d ∧ d < 2147483648) (hu : -1000000000000 ≤ u ∧ u ≤ 1000000000000) (k0 : ∀ (fd : Int) (M9 N9 : q_I), (∀ q k, ¬ (q = f ∧ k = 2) → M9 q k = I q k) → (∀ q k, ¬ (q = f ∧ k = 3) → N9 q k = L q k) → g_bst M9 N9 f fd (g_best (g_cgood c d) (fun s => u + g_chg (L ch) s 12) (c + 1)) → Q (.inl none) sz T M9 N9 P) : qC G 1 0 0 YX1_chooseSet [.ref f, qI (c : Int), qI d, qL u] sz T I L P Q := by
  refine qC_of (by decide +kernel) rfl rfl (Nat.le_of_ble_eq_true rfl) (fun F hF _ _ => ?_)
  refine q_iconst hF dX1_chooseSet_0 ?_
  refine q_istore hF (ls' := [(5, qI 0), (0, .ref f), (1, qI (c : Int)), (2, qI d), (3, qL u)]) (by decide) rfl dX1_chooseSet_1 ?_
  refine q_iconst hF dX1_chooseSet_3 ?_
  refine q_istore hF (ls' := [(6, qI 0), (5, qI 0), (0, .ref f), (1, qI (c : Int)), (2, qI d), (3, qL u)]) (by decide) rfl dX1_chooseSet_4 ?_
  exact lX1_chooseSet (by decide) hF hS1 hS2 hS3 hcr hfA hne hc4 hd hu k0 (c + 2) 0 0 I L (by omega) (Nat.zero_le _) (Or.inl ⟨rfl, rfl⟩) (fun _ _ _ => rfl) (fun _ _ _ => rfl)
set_option maxRecDepth 100000 in
theorem lX1_findRescue {G : q_G} {F : q_F} {h : Nat} {Q : q_Q} {kc ks sz : Nat} {T : q_T} {f p w ch mn nn : Nat} {kk : Int} {r : Nat → Int} {I L : q_I} {P : q_P} (h6 : 6 ≤ h) (hF : q_ok G F YX1_findRescue h) (hW : q_SW T P w) (hWA : q_A G w) (hfT : T f = some (.inl 1)) (hfP : P f 0 = some p) (hO : T p = some (.inl 0)) (hOA : q_A G p) (hsep : p < w ∨ w + 47 ≤ p) (hz : g_Zr r) (hV : g_VR r) (hWR : q_WR I L w r (r 2)) (h1 : r 1 = (mn : Int)) (hn6 : nn ≤ 600) (hS1 : P f 1 = some ch) (hS3 : T ch = some (.inr (1, 12))) (hcr : ∀ i, i < 12 → -100000000 ≤ L ch i ∧ L ch i ≤ 100000000) (hfA : q_A G f) (hcA : q_A G ch) (hne : ch ≠ f) (hpf : p ≠ f ∧ p ≠ ch) (hsf : (f < w ∨ w + 47 ≤ f) ∧ (ch < w ∨ w + 47 ≤ ch)) (hkk : 1 ≤ kk ∧ kk ≤ 3) (k0 : ∀ (x : Nat × Int) (M9 N9 : q_I), (∀ q k, q ≠ p → ¬ (q = f ∧ k = 2) → M9 q k = I q k) → (∀ q k, q ≠ p → q ≠ w + 8 → q ≠ ch → ¬ (q = f ∧ k = 3) → N9 q k = L q k) → (∀ i, i < 12 → -100000000 ≤ N9 ch i ∧ N9 ch i ≤ 100000000) → M9 f 2 = (x.1 : Int) → N9 f 3 = x.2 → g_resc r kk nn mn = some x → Q (.inl none) sz T M9 N9 P) : ∀ (n : Nat) (k : Nat) (I9 L9 : q_I), mn - k < n → k ≤ mn → (∀ q k, q ≠ p → I9 q k = I q k) → (∀ q k, q ≠ p → q ≠ w + 8 → q ≠ ch → L9 q k = L q k) → (∀ i : Nat, i < k → (r (1043 + 12 * i) = 0 ∨ r (1043 + 12 * i) = 1) → L9 ch i = g_rg r nn i - g_lf r nn i) → (∀ i, i < 12 → -100000000 ≤ L9 ch i ∧ L9 ch i ≤ 100000000) → qX G F Q kc ks 9 [(7, qI (k : Int)), (4, qI (g_set (fun a => r (1043 + 12 * a) = 0 ∨ r (1043 + 12 * a) = 1) k)), (5, qL (g_sum (g_lf r nn) k)), (0, .ref f), (1, .ref w), (2, qI kk), (3, qI (nn : Int))] [] sz T I9 L9 P := by
  intro n
  induction n with
  | zero => intro k I9 L9 hn; exact absurd hn (Nat.not_lt_zero _)
  | succ n ih =>
    intro k I9 L9 hn hk hM hN hC hCr
    have hm12 : mn ≤ 12 := by have := hV.1.many; omega
    have hmo := hV.1.month
    have hA := hV.2.1
    simp only [Nat.not_lt_zero, if_false] at hA
    refine q_iload hF 0 rfl dX1_findRescue_9 ?_
    refine q_aload_n hF 4 rfl rfl dX1_findRescue_11 ?_
    refine q_getIv hF (z := (mn : Int)) fl_RX1_30 hW.t0 ((hM _ _ (by omega)).trans (hWR.cnt.trans h1)) dX1_findRescue_12 ?_
    refine q_icmpge hF (by omega) (by omega) dX1_findRescue_15 (fun c15 => ?_) (fun c15 => ?_)
    · have hkm : k = mn := by omega
      subst hkm
      obtain ⟨c, hc1, hc2, hc3⟩ := g_set_bit (fun a => r (1043 + 12 * a) = 0 ∨ r (1043 + 12 * a) = 1) k
      rw [hc2]
      have hc4 : c < 4096 := Nat.lt_of_lt_of_le hc1 (by
        calc 2 ^ k ≤ 2 ^ 12 := Nat.pow_le_pow_right (by decide) (by omega)
          _ = 4096 := by decide)
      have hus := g_sum_r (f := g_lf r nn) (b := 100000000) k (fun i hi => g_lf_r hz hV (by omega) nn)
      refine q_aload_n hF 3 rfl rfl dX1_findRescue_149 ?_
      refine q_iload hF 1 rfl dX1_findRescue_150 ?_
      refine q_iload_n hF 5 rfl rfl dX1_findRescue_152 ?_
      refine q_iload hF 1 rfl dX1_findRescue_153 ?_
      refine q_callS (kc := kc) (ks := ks) (mc' := 0) (ms' := 0) (h' := 0) (st := [qI kk, qI (c : Int), .ref f]) hF sl_RX1_56 rfl [qI (c : Int)] rfl rfl (by omega) (Nat.le_of_ble_eq_true rfl) dX1_findRescue_155 ?_
      refine mJ6_bitCount_0f7a4 ?_
      rw [g_bc_pop hc4]
      have hpl := g_pop_le c 12
      refine q_mini hF (q_mem 1031 (by decide +kernel) rfl) (q_mem 778 (by decide +kernel) rfl) (q_mem 55 (by decide +kernel) rfl) (q_mem 779 (by decide +kernel) rfl) (by omega) (by omega) (Nat.le_of_ble_eq_true rfl) dX1_findRescue_158 ?_
      refine q_lload hF 2 rfl dX1_findRescue_161 ?_
      refine q_callV (kc := kc) (ks := ks) (mc' := 0) (ms' := 0) (h' := 1) (st := []) hF vl_RX1_68 rfl [qI (c : Int), qI (min kk ((g_pop c 12 : Nat) : Int)), qL (g_sum (g_lf r nn) k)] rfl rfl hfT (by omega) (Nat.le_of_ble_eq_true rfl) dX1_findRescue_163 ?_
      refine mX1_chooseSet (c := c) (ch := ch) hS1 hfT hS3 hCr hfA hne (by omega) (by omega) (by omega) (fun fd M8 N8 c163_0 c163_1 c163_2 => ?_)
      refine q_return hF rfl dX1_findRescue_166 ?_
      have hres := g_resc_c (C := L9 ch) (kk := kk) (nn := nn) hm12 hc1 hc3 (fun i hi ho => hC i hi ho)
      obtain ⟨x, hx⟩ := g_resc_some (r := r) (k := kk) (nn := nn) (mn := k) (by omega) hm12
      rw [hres, hx] at c163_2
      rcases c163_2 with ⟨q, -⟩ | ⟨y, q, -, h2, h3⟩
      · cases q
      · cases q
        exact k0 x M8 N8 (fun q k a b => (c163_0 q k b).trans (hM q k a)) (fun q k a b c d => (c163_1 q k d).trans (hN q k a b c)) (fun i hi => by rw [c163_1 ch i (by omega)]; exact hCr i hi) h2 h3 hx
    · refine q_iload hF 0 rfl dX1_findRescue_18 ?_
      refine q_bipush hF (n := 12) rfl dX1_findRescue_20 ?_
      refine q_icmpge hF (by omega) (by decide) dX1_findRescue_22 (fun c22 => ?_) (fun c22 => ?_)
      · omega
      · refine q_aload_n hF 4 rfl rfl dX1_findRescue_25 ?_
        refine q_getA hF fl_RX1_36 rfl hW.t0 hW.p1 dX1_findRescue_26 ?_
        refine q_iload hF 0 rfl dX1_findRescue_29 ?_
        refine q_aaloadv hF (b := w + 35 + k) k hW.t19 (by decide) rfl (by omega) (by decide) (hW.pa _ (by omega)) dX1_findRescue_31 ?_
        refine q_astore hF (ls' := [(8, .ref (w + 35 + k)), (7, qI (k : Int)), (4, qI (g_set (fun a => r (1043 + 12 * a) = 0 ∨ r (1043 + 12 * a) = 1) k)), (5, qL (g_sum (g_lf r nn) k)), (0, .ref f), (1, .ref w), (2, qI kk), (3, qI (nn : Int))]) (by decide) rfl dX1_findRescue_32 ?_
        refine q_aload hF 0 rfl dX1_findRescue_34 ?_
        refine q_callV (kc := kc) (ks := ks) (mc' := 0) (ms' := 0) (h' := 0) (st := []) hF vl_RX1_49 rfl [] rfl rfl (hW.ta _ (by omega)) (by omega) (Nat.le_of_ble_eq_true rfl) dX1_findRescue_36 ?_
        refine mX0_isWithBankR (r := r) (a := k) (hW.ta _ (by omega)) ((hWR.acc k (by omega)).ext (fun j => hM _ j (by omega)) (fun _ _ _ => rfl)) (hA k (by omega)).state ?_
        refine q_ifeq_b hF dX1_findRescue_39 (fun c39 => ?_) (fun c39 => ?_)
        · refine q_iinc hF (z' := ((1 + k : Nat) : Int)) (ls' := [(7, qI ((1 + k : Nat) : Int)), (8, .ref (w + 35 + k)), (4, qI (g_set (fun a => r (1043 + 12 * a) = 0 ∨ r (1043 + 12 * a) = 1) k)), (5, qL (g_sum (g_lf r nn) k)), (0, .ref f), (1, .ref w), (2, qI kk), (3, qI (nn : Int))]) 1 rfl (by first | rfl | omega) (by decide) rfl dX1_findRescue_143 ?_
          refine q_goto hF dX1_findRescue_146 ?_
          refine q_sub [0, 2, 3, 4, 5, 6, 7] rfl ?_
          rw [Nat.add_comm 1 k, show qI (g_set (fun a => r (1043 + 12 * a) = 0 ∨ r (1043 + 12 * a) = 1) k) = qI (g_set (fun a => r (1043 + 12 * a) = 0 ∨ r (1043 + 12 * a) = 1) (k + 1)) from congrArg Value.int ((q_or0 _).symm.trans (q_set_n _ k c39)), show g_sum (g_lf r nn) k = g_sum (g_lf r nn) (k + 1) from by rw [g_sum_s]; unfold g_lf; rw [if_neg c39, Int.add_zero]]
          exact ih (k + 1) I9 L9 (by omega) (by omega) hM hN (fun i hi ho => by
            by_cases e : i = k
            · subst e; exact absurd ho c39
            · exact hC i (by omega) ho) hCr
        · refine q_iload hF 2 rfl dX1_findRescue_42 ?_
          refine q_iconst hF dX1_findRescue_44 ?_
          refine q_iload hF 1 rfl dX1_findRescue_45 ?_
          refine q_ishl hF (c0 := ((2 ^ k : Nat) : Int)) (q_shlN (by omega)) dX1_findRescue_47 ?_
          refine q_ior hF (c0 := g_set (fun a => r (1043 + 12 * a) = 0 ∨ r (1043 + 12 * a) = 1) (k + 1)) (q_set_s _ _ c39) dX1_findRescue_48 ?_
          refine q_istore hF (ls' := [(4, qI (g_set (fun a => r (1043 + 12 * a) = 0 ∨ r (1043 + 12 * a) = 1) (k + 1))), (8, .ref (w + 35 + k)), (7, qI (k : Int)), (5, qL (g_sum (g_lf r nn) k)), (0, .ref f), (1, .ref w), (2, qI kk), (3, qI (nn : Int))]) (by decide) rfl dX1_findRescue_49 ?_
          refine q_aload_n hF 4 rfl rfl dX1_findRescue_51 ?_
          refine q_getA hF fl_RX1_12 rfl hfT hfP dX1_findRescue_52 ?_
          refine q_aload hF 1 rfl dX1_findRescue_55 ?_
          refine q_callV (kc := kc) (ks := ks) (mc' := 0) (ms' := 0) (h' := 0) (st := []) hF vl_RX1_22 rfl [.ref (w + 35 + k)] rfl rfl hO (by omega) (Nat.le_of_ble_eq_true rfl) dX1_findRescue_57 ?_
          refine mX0_copyFromA hO hOA (hW.ta _ (by omega)) (by omega) (by rw [hM _ _ (by omega), (hWR.acc k (by omega)).nl]; have := (hA k (by omega)).nl; omega) (fun Ic Lc c57_0 c57_1 c57_2 c57_3 => ?_)
          refine q_aload_n hF 4 rfl rfl dX1_findRescue_60 ?_
          refine q_aload_n hF 5 rfl rfl dX1_findRescue_61 ?_
          refine q_iload_n hF 7 rfl rfl dX1_findRescue_62 ?_
          refine q_callV (kc := kc) (ks := ks) (mc' := 0) (ms' := 0) (h' := 5) (st := []) hF vl_RX1_26 rfl [.ref w, qI (nn : Int)] rfl rfl hfT (by omega) (Nat.le_of_ble_eq_true rfl) dX1_findRescue_63 ?_
          refine mX1_runProbe (nn := nn) (p := p) (B := (r 2)) (R := r) (a := k) (mn := mn) hW hWA hfT hfP hO hOA hsep hmo (by rw [c57_0 _ _ (by omega), hM _ _ (by omega)]; exact hWR.mon) hn6 (hWR.ru.ext hV.1 (fun q k x y => (c57_0 q k (by omega)).trans (hM q k (by omega))) (g_same.rf r)) (((hWR.acc k (by omega)).ext (fun j => hM _ j (by omega)) (fun _ _ _ => rfl)).cp c57_2) hV h1 (by omega) (by omega) (fun M N c63_0 c63_1 c63_2 => ?_)
          have hr1 := g_run_r (M := r 2) (n := (nn : Int)) (a := k) nn 1 r
          have hlr := g_lf_r hz hV (a := k) (by omega) nn
          have hrr := g_rg_r hz hV (a := k) (by omega) nn
          have hJ66 : qX G F Q kc ks 81 [(4, qI (g_set (fun a => r (1043 + 12 * a) = 0 ∨ r (1043 + 12 * a) = 1) (k + 1))), (8, .ref (w + 35 + k)), (7, qI (k : Int)), (5, qL (g_sum (g_lf r nn) k)), (0, .ref f), (1, .ref w), (2, qI kk), (3, qI (nn : Int))] [qI (g_lf r nn k)] sz T M N P := by
            refine q_istore hF (ls' := [(9, qI (g_lf r nn k)), (4, qI (g_set (fun a => r (1043 + 12 * a) = 0 ∨ r (1043 + 12 * a) = 1) (k + 1))), (8, .ref (w + 35 + k)), (7, qI (k : Int)), (5, qL (g_sum (g_lf r nn) k)), (0, .ref f), (1, .ref w), (2, qI kk), (3, qI (nn : Int))]) (by decide) rfl dX1_findRescue_81 ?_
            refine q_aload_n hF 5 rfl rfl dX1_findRescue_83 ?_
            refine q_getA hF fl_RX1_12 rfl hfT hfP dX1_findRescue_84 ?_
            refine q_aload hF 2 rfl dX1_findRescue_87 ?_
            refine q_callV (kc := kc) (ks := ks) (mc' := 0) (ms' := 0) (h' := 0) (st := []) hF vl_RX1_22 rfl [.ref (w + 35 + k)] rfl rfl hO (by omega) (Nat.le_of_ble_eq_true rfl) dX1_findRescue_89 ?_
            refine mX0_copyFromA hO hOA (hW.ta _ (by omega)) (by omega) (by rw [c63_0 _ _ (by omega), c57_0 _ _ (by omega), hM _ _ (by omega), (hWR.acc k (by omega)).nl]; have := (hA k (by omega)).nl; omega) (fun Ic Lc c89_0 c89_1 c89_2 c89_3 => ?_)
            refine q_aload_n hF 5 rfl rfl dX1_findRescue_92 ?_
            refine q_getA hF fl_RX1_12 rfl hfT hfP dX1_findRescue_93 ?_
            refine q_callV (kc := kc) (ks := ks) (mc' := 0) (ms' := 0) (h' := 0) (st := []) hF vl_RX1_53 rfl [] rfl rfl hO (by omega) (Nat.le_of_ble_eq_true rfl) dX1_findRescue_96 ?_
            refine mX0_wake hO hOA ?_
            refine q_aload_n hF 5 rfl rfl dX1_findRescue_99 ?_
            refine q_aload_n hF 6 rfl rfl dX1_findRescue_100 ?_
            refine q_iload_n hF 8 rfl rfl dX1_findRescue_101 ?_
            refine q_callV (kc := kc) (ks := ks) (mc' := 0) (ms' := 0) (h' := 5) (st := []) hF vl_RX1_26 rfl [.ref w, qI (nn : Int)] rfl rfl hfT (by omega) (Nat.le_of_ble_eq_true rfl) dX1_findRescue_102 ?_
            refine mX1_runProbe (nn := nn) (p := p) (B := (r 2)) (R := (g_tch r k)) (a := k) (mn := mn) hW hWA hfT hfP hO hOA hsep hmo (by rw [u2_a _ _ (by omega), u2_a _ _ (by omega)]; exact ((c89_0 _ _ (by omega)).trans ((c63_0 _ _ (by omega)).trans ((c57_0 _ _ (by omega)).trans (hM _ _ (by omega))))).trans hWR.mon) hn6 (hWR.ru.ext hV.1 (fun q j x y => by rw [u2_a _ _ (by omega), u2_a _ _ (by omega)]; exact (c89_0 _ _ (by omega)).trans ((c63_0 _ _ (by omega)).trans ((c57_0 _ _ (by omega)).trans (hM _ _ (by omega))))) (g_tch_same r (by omega))) ((((hWR.acc k (by omega)).ext (fun j => (c63_0 _ _ (by omega)).trans ((c57_0 _ _ (by omega)).trans (hM _ j (by omega)))) (fun _ _ _ => rfl)).cp c89_2).wk c39) (g_VM.tch hV (by omega) c39) ((g_tch_1 r k).trans h1) (by omega) (by omega) (fun M N c102_0 c102_1 c102_2 => ?_)
            have hr2 := g_run_r (M := r 2) (n := (nn : Int)) (a := k) nn 1 (g_tch r k)
            have hJ105 : qX G F Q kc ks 120 [(9, qI (g_lf r nn k)), (4, qI (g_set (fun a => r (1043 + 12 * a) = 0 ∨ r (1043 + 12 * a) = 1) (k + 1))), (8, .ref (w + 35 + k)), (7, qI (k : Int)), (5, qL (g_sum (g_lf r nn) k)), (0, .ref f), (1, .ref w), (2, qI kk), (3, qI (nn : Int))] [qI (g_rg r nn k)] sz T M N P := by
              refine q_istore hF (ls' := [(10, qI (g_rg r nn k)), (9, qI (g_lf r nn k)), (4, qI (g_set (fun a => r (1043 + 12 * a) = 0 ∨ r (1043 + 12 * a) = 1) (k + 1))), (8, .ref (w + 35 + k)), (7, qI (k : Int)), (5, qL (g_sum (g_lf r nn) k)), (0, .ref f), (1, .ref w), (2, qI kk), (3, qI (nn : Int))]) (by decide) rfl dX1_findRescue_120 ?_
              refine q_aload_n hF 6 rfl rfl dX1_findRescue_122 ?_
              refine q_getA hF fl_RX1_18 rfl hfT hS1 dX1_findRescue_123 ?_
              refine q_iload hF 4 rfl dX1_findRescue_126 ?_
              refine q_iload hF 0 rfl dX1_findRescue_128 ?_
              refine q_iload hF 1 rfl dX1_findRescue_130 ?_
              refine q_isub hF dX1_findRescue_132 ?_
              refine q_i2l hF (by omega) dX1_findRescue_133 ?_
              refine q_lastorev hF (n := 12) k hS3 hcA rfl (by omega) (by decide) dX1_findRescue_134 ?_
              refine q_lload hF 5 rfl dX1_findRescue_135 ?_
              refine q_iload hF 1 rfl dX1_findRescue_137 ?_
              refine q_i2l hF (by omega) dX1_findRescue_139 ?_
              refine q_ladd hF dX1_findRescue_140 ?_
              refine q_lstore hF (ls' := [(5, qL ((g_sum (g_lf r nn) k) + (g_lf r nn k))), (10, qI (g_rg r nn k)), (9, qI (g_lf r nn k)), (4, qI (g_set (fun a => r (1043 + 12 * a) = 0 ∨ r (1043 + 12 * a) = 1) (k + 1))), (8, .ref (w + 35 + k)), (7, qI (k : Int)), (0, .ref f), (1, .ref w), (2, qI kk), (3, qI (nn : Int))]) (by decide) rfl dX1_findRescue_141 ?_
              refine q_iinc hF (z' := ((1 + k : Nat) : Int)) (ls' := [(7, qI ((1 + k : Nat) : Int)), (5, qL ((g_sum (g_lf r nn) k) + (g_lf r nn k))), (10, qI (g_rg r nn k)), (9, qI (g_lf r nn k)), (4, qI (g_set (fun a => r (1043 + 12 * a) = 0 ∨ r (1043 + 12 * a) = 1) (k + 1))), (8, .ref (w + 35 + k)), (0, .ref f), (1, .ref w), (2, qI kk), (3, qI (nn : Int))]) 5 rfl (by first | rfl | omega) (by decide) rfl dX1_findRescue_143 ?_
              refine q_goto hF dX1_findRescue_146 ?_
              refine q_sub [0, 4, 1, 6, 7, 8, 9] rfl ?_
              rw [Nat.add_comm 1 k, show ((g_sum (g_lf r nn) k) + (g_lf r nn k)) = g_sum (g_lf r nn) (k + 1) from by rw [g_sum_s]]
              refine ih (k + 1) M (u2 N ch k ((g_rg r nn k) - (g_lf r nn k))) (by omega) (by omega) (fun q k x => (c102_0 q k x).trans (by rw [u2_a _ _ x, u2_a _ _ x]; exact (c89_0 q k x).trans ((c63_0 q k x).trans ((c57_0 q k x).trans (hM q k x))))) (fun q k x y z => by rw [u2_a _ _ z]; exact (c102_1 q k x y).trans ((c89_1 q k x).trans ((c63_1 q k x y).trans ((c57_1 q k x).trans (hN q k x y z))))) (fun i hi ho => ?_) (fun i hi => ?_)
              · by_cases e : i = k
                · subst e; rw [u2_s]
                · rw [u2_k _ _ e, c102_1 _ _ (by omega) (by omega), c89_1 _ _ (by omega), c63_1 _ _ (by omega) (by omega), c57_1 _ _ (by omega)]; exact hC i (by omega) ho
              · by_cases e : i = k
                · subst e; rw [u2_s]; omega
                · rw [u2_k _ _ e, c102_1 _ _ (by omega) (by omega), c89_1 _ _ (by omega), c63_1 _ _ (by omega) (by omega), c57_1 _ _ (by omega)]; exact hCr i hi
            refine q_iconst hF dX1_findRescue_105 ?_
            refine q_icmpne hF (by omega) (by decide) dX1_findRescue_106 (fun c106 => ?_) (fun c106 => ?_)
            · refine q_aload_n hF 5 rfl rfl dX1_findRescue_113 ?_
              refine q_getA hF fl_RX1_12 rfl hfT hfP dX1_findRescue_114 ?_
              refine q_getIv hF (z := (g_run (r 2) (nn : Int) k nn 1 (g_tch r k)).2 (1042 + 12 * k)) fl_RX1_43 hO c102_2.cents dX1_findRescue_117 ?_
              rw [show (g_rg r nn k) = ((g_run (r 2) (nn : Int) k nn 1 (g_tch r k)).2 (1042 + 12 * k)) from by unfold g_rg g_handed; rw [if_pos c39, g_tch_2]; first | rw [if_pos (by omega)] | rw [if_neg (by omega)]] at hJ105; exact hJ105
            · refine q_iconst hF dX1_findRescue_109 ?_
              refine q_goto hF dX1_findRescue_110 ?_
              rw [show (g_rg r nn k) = 0 from by unfold g_rg g_handed; rw [if_pos c39, g_tch_2]; first | rw [if_pos (by omega)] | rw [if_neg (by omega)]] at hJ105; exact hJ105
          refine q_iconst hF dX1_findRescue_66 ?_
          refine q_icmpne hF (by omega) (by decide) dX1_findRescue_67 (fun c67 => ?_) (fun c67 => ?_)
          · refine q_aload_n hF 4 rfl rfl dX1_findRescue_74 ?_
            refine q_getA hF fl_RX1_12 rfl hfT hfP dX1_findRescue_75 ?_
            refine q_getIv hF (z := (g_run (r 2) (nn : Int) k nn 1 r).2 (1042 + 12 * k)) fl_RX1_43 hO c63_2.cents dX1_findRescue_78 ?_
            rw [show (g_lf r nn k) = ((g_run (r 2) (nn : Int) k nn 1 r).2 (1042 + 12 * k)) from by unfold g_lf g_handed; rw [if_pos c39]; first | rw [if_pos (by omega)] | rw [if_neg (by omega)]] at hJ66; exact hJ66
          · refine q_iconst hF dX1_findRescue_70 ?_
            refine q_goto hF dX1_findRescue_71 ?_
            rw [show (g_lf r nn k) = 0 from by unfold g_lf g_handed; rw [if_pos c39]; first | rw [if_pos (by omega)] | rw [if_neg (by omega)]] at hJ66; exact hJ66
set_option maxRecDepth 100000 in
theorem mX1_findRescue {G : q_G} {sz : Nat} {T : q_T} {I L : q_I} {P : q_P} {Q : q_Q} {f : Nat} {w : Nat} {kk : Int} {p ch mn nn : Nat} {r : Nat → Int} (hW : q_SW T P w) (hWA : q_A G w) (hfT : T f = some (.inl 1)) (hfP : P f 0 = some p) (hO : T p = some (.inl 0)) (hOA : q_A G p) (hsep : p < w ∨ w + 47 ≤ p) (hz : g_Zr r) (hV : g_VR r) (hWR : q_WR I L w r (r 2)) (h1 : r 1 = (mn : Int)) (hn6 : nn ≤ 600) (hS1 : P f 1 = some ch) (hS3 : T ch = some (.inr (1, 12))) (hcr : ∀ i, i < 12 → -100000000 ≤ L ch i ∧ L ch i ≤ 100000000) (hfA : q_A G f) (hcA : q_A G ch) (hne : ch ≠ f) (hpf : p ≠ f ∧ p ≠ ch) (hsf : (f < w ∨ w + 47 ≤ f) ∧ (ch < w ∨ w + 47 ≤ ch)) (hkk : 1 ≤ kk ∧ kk ≤ 3) (k0 : ∀ (x : Nat × Int) (M9 N9 : q_I), (∀ q k, q ≠ p → ¬ (q = f ∧ k = 2) → M9 q k = I q k) → (∀ q k, q ≠ p → q ≠ w + 8 → q ≠ ch → ¬ (q = f ∧ k = 3) → N9 q k = L q k) → (∀ i, i < 12 → -100000000 ≤ N9 ch i ∧ N9 ch i ≤ 100000000) → M9 f 2 = (x.1 : Int) → N9 f 3 = x.2 → g_resc r kk nn mn = some x → Q (.inl none) sz T M9 N9 P) : qC G 6 0 0 YX1_findRescue [.ref f, .ref w, qI kk, qI (nn : Int)] sz T I L P Q := by
  refine qC_of (by decide +kernel) rfl rfl (Nat.le_of_ble_eq_true rfl) (fun F hF _ _ => ?_)
  refine q_iconst hF dX1_findRescue_0 ?_
  refine q_istore hF (ls' := [(4, qI 0), (0, .ref f), (1, .ref w), (2, qI kk), (3, qI (nn : Int))]) (by decide) rfl dX1_findRescue_1 ?_
  refine q_lconst hF (z := 0) rfl dX1_findRescue_3 ?_
  refine q_lstore hF (ls' := [(5, qL 0), (4, qI 0), (0, .ref f), (1, .ref w), (2, qI kk), (3, qI (nn : Int))]) (by decide) rfl dX1_findRescue_4 ?_
  refine q_iconst hF dX1_findRescue_6 ?_
  refine q_istore hF (ls' := [(7, qI 0), (5, qL 0), (4, qI 0), (0, .ref f), (1, .ref w), (2, qI kk), (3, qI (nn : Int))]) (by decide) rfl dX1_findRescue_7 ?_
  refine q_sub [0, 2, 1, 3, 4, 5, 6] rfl ?_
  exact lX1_findRescue (by decide) hF hW hWA hfT hfP hO hOA hsep hz hV hWR h1 hn6 hS1 hS3 hcr hfA hcA hne hpf hsf hkk k0 (mn + 1) 0 I L (by omega) (Nat.zero_le _) (fun _ _ _ => rfl) (fun _ _ _ _ _ => rfl) (fun i hi => absurd hi (Nat.not_lt_zero _)) hcr
