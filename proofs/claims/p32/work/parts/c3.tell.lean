/-! walks: a text told, digits, the text handed over -/

theorem vo_RL_122 : q_VO RL 122 0 YJ0_length_8abf5 := ⟨⟨(q_mem 1067 (by decide +kernel) rfl), (q_mem 58 (by decide +kernel) rfl), (q_mem 1070 (by decide +kernel) rfl), ⟨by decide, by decide⟩, by decide +kernel, by decide⟩, (q_mem 1068 (by decide +kernel) rfl), (q_mem 1069 (by decide +kernel) rfl)⟩

theorem vo_RL_128 : q_VO RL 128 1 YJ0_charAt_5068e := ⟨⟨(q_mem 1077 (by decide +kernel) rfl), (q_mem 58 (by decide +kernel) rfl), (q_mem 1080 (by decide +kernel) rfl), ⟨by decide, by decide⟩, by decide +kernel, by decide⟩, (q_mem 1078 (by decide +kernel) rfl), (q_mem 1079 (by decide +kernel) rfl)⟩

/-- the first k letters of a String constant; all of them -/
def g_spf (i k : Nat) : List Nat := (List.range k).map (fun j => (g_ch i j).toNat)
def g_sts (i : Nat) : List Nat := g_spf i (g_len i)
theorem g_spf_s (i k : Nat) : g_spf i (k + 1) = g_spf i k ++ [(g_ch i k).toNat] := by unfold g_spf; rw [List.range_succ, List.map_append]; rfl
theorem g_spf_len (i k : Nat) : (g_spf i k).length = k := by unfold g_spf; rw [List.length_map, List.length_range]
theorem g_sts_len (i : Nat) : (g_sts i).length = g_len i := g_spf_len i _
set_option maxRecDepth 100000 in
theorem g_ch_p : ∀ i, i < 76 → ∀ k, k < g_len i → 1 ≤ g_ch i k ∧ g_ch i k < 128 := by decide +kernel
/-- digits of v, from the place 10 ^ e -/
def g_dgk (v : Nat) : Nat → List Nat
  | 0 => [48 + v % 10]
  | e + 1 => (48 + v / 10 ^ (e + 1) % 10) :: g_dgk v e
def g_dge (v : Nat) : Nat := if v < 10 then 0 else if v < 100 then 1 else if v < 1000 then 2 else if v < 10000 then 3 else 4
def g_dg9 (v : Nat) : List Nat := g_dgk v (g_dge v)
theorem g_dgk_len (v : Nat) : ∀ e, (g_dgk v e).length = e + 1
  | 0 => rfl
  | e + 1 => by show (g_dgk v e).length + 1 = _; rw [g_dgk_len v e]
theorem g_dg9_len (v : Nat) : (g_dg9 v).length = g_dge v + 1 := g_dgk_len v _
theorem q_Tk.tr {b ta : Nat} {I I1 I2 : q_I} (h : q_Tk b ta I I1) (h2 : q_Tk b ta I1 I2) : q_Tk b ta I I2 := fun q k a c => (h2 q k a c).trans (h q k a c)
theorem q_Tk.rfl' {b ta : Nat} {I : q_I} : q_Tk b ta I I := fun _ _ _ _ => rfl
theorem q_TB.bs {T : q_T} {b bk ta : Nat} {R : Nat → Nat → Int} {I L : q_I} {P : q_P} {bs bs' : List Nat} (h : q_TB T b bk R I L P ta bs) (e : bs = bs') : q_TB T b bk R I L P ta bs' := by subst e; exact h
theorem q_TB.mv {T T' : q_T} {b bk ta : Nat} {R : Nat → Nat → Int} {I L I' L' : q_I} {P P' : q_P} {bs : List Nat} (h : q_TB T b bk R I L P ta bs) (hT : ∀ q, b ≤ q → q < b + 452 ∨ q = ta → T' q = T q) (hI : ∀ q k, b ≤ q → q < b + 452 ∨ q = ta → I' q k = I q k) (hL : ∀ q k, b ≤ q → q < b + 452 → L' q k = L q k) (hP : ∀ q k, b ≤ q → q < b + 452 → P' q k = P q k) : q_TB T' b bk R I' L' P' ta bs := by
  obtain ⟨h1, h2, h3, h4, h5, B, h6, h7⟩ := h
  exact ⟨(hT _ (by omega) (Or.inr rfl)).trans h1, h2, h3, (hI _ _ (by omega) (Or.inr rfl)).trans h4, fun j hj => (hI _ _ (by omega) (Or.inr rfl)).trans (h5 j hj), B, h6.mv (fun q a c => hT q a (Or.inl c)) (fun q k a c => hI q k a (Or.inl c)) hL hP, h7⟩

theorem g_len_99 : ∀ i, i < 76 → g_len i < 100 := by decide +kernel

set_option maxRecDepth 100000 in
theorem lL_tell {G : q_G} {F : q_F} {Q : q_Q} {kc ks sz : Nat} {T : q_T} {b ta i bk : Nat} {R : Nat → Nat → Int} {bs : List Nat} {I0 L : q_I} {P : q_P} (hF : q_ok G F YL_tell 4) (hA : q_A G b) (hTa : q_A G ta) (hi : i < 76) (hl : bs.length + g_len i ≤ 600) (k0 : ∀ I9 : q_I, q_TB T b bk R I9 L P ta (bs ++ g_sts i) → q_Tk b ta I0 I9 → qX G F Q kc ks 27 [(3, qI (g_len i : Int)), (0, .ref b), (1, .ref ta), (2, .ref (q_KS G i))] [] sz T I9 L P) : ∀ (n : Nat) (k : Nat) (I : q_I), g_len i - k < n → k ≤ g_len i → q_TB T b bk R I L P ta (bs ++ g_spf i k) → q_Tk b ta I0 I → qX G F Q kc ks 2 [(3, qI (k : Int)), (0, .ref b), (1, .ref ta), (2, .ref (q_KS G i))] [] sz T I L P := by
  intro n
  induction n with
  | zero => intro k I hn; exact absurd hn (Nat.not_lt_zero _)
  | succ n ih =>
    intro k I hn hk hB hK
    have hl99 := g_len_99 i hi
    refine q_iload_n hF 0 rfl rfl dL_tell_2 ?_
    refine q_aload_n hF 3 rfl rfl dL_tell_3 ?_
    refine q_callVO (kc := kc) (ks := ks) (mc' := 0) (ms' := 0) (h' := 1) (st := [qI (k : Int)]) hF vo_RL_122 rfl [] rfl rfl (q_O_K hi) (by decide) (Nat.le_of_ble_eq_true rfl) dL_tell_4 ?_
    refine mJ0_length_8abf5 (i := i) hi ?_
    refine q_icmpge hF (by omega) (by omega) dL_tell_7 (fun c7 => ?_) (fun c7 => ?_)
    · obtain rfl : k = g_len i := by omega
      exact k0 _ hB hK
    · refine q_aload_n hF 1 rfl rfl dL_tell_10 ?_
      refine q_aload_n hF 2 rfl rfl dL_tell_11 ?_
      refine q_aload_n hF 3 rfl rfl dL_tell_12 ?_
      refine q_iload_n hF 0 rfl rfl dL_tell_13 ?_
      refine q_callVO (kc := kc) (ks := ks) (mc' := 0) (ms' := 0) (h' := 3) (st := [.ref ta, .ref b]) hF vo_RL_128 rfl [qI (k : Int)] rfl rfl (q_O_K hi) (by decide) (Nat.le_of_ble_eq_true rfl) dL_tell_14 ?_
      refine mJ0_charAt_5068e (k := k) (i := i) hi (by omega) ?_
      refine q_i2l hF (by have := g_ch_p i hi k (by omega); omega) dL_tell_17 ?_
      rw [show qL (g_ch i k) = qL (((g_ch i k).toNat : Nat) : Int) from by rw [Int.toNat_of_nonneg (by have := g_ch_p i hi k (by omega); omega)]]
      refine q_callS (kc := kc) (ks := ks) (mc' := 0) (ms' := 0) (h' := 3) (st := []) hF sl_RL_26 rfl [.ref b, .ref ta, qL (((g_ch i k).toNat : Nat) : Int)] rfl rfl (by decide) (Nat.le_of_ble_eq_true rfl) dL_tell_18 ?_
      refine mL_put (x := (g_ch i k).toNat) hA hTa hB (by have := g_ch_p i hi k (by omega); omega) (by rw [List.length_append, g_spf_len]; omega) (fun I9_1 hB9_1 hK9_1 => ?_)
      refine q_iinc hF (z' := ((1 + k : Nat) : Int)) (ls' := [(3, qI ((1 + k : Nat) : Int)), (0, .ref b), (1, .ref ta), (2, .ref (q_KS G i))]) 0 rfl (by first | rfl | omega) (by decide) rfl dL_tell_21 ?_
      refine q_goto hF dL_tell_24 ?_
      refine ih (1 + k) _ (by omega) (by omega) (hB9_1.bs ?_) (hK.tr hK9_1)
      rw [show 1 + k = k + 1 by omega, g_spf_s, List.append_assoc]

set_option maxRecDepth 100000 in
theorem mL_tell {G : q_G} {sz : Nat} {T : q_T} {I L : q_I} {P : q_P} {Q : q_Q} {b ta i bk : Nat} {R : Nat → Nat → Int} {bs : List Nat} (hA : q_A G b) (hTa : q_A G ta) (hB : q_TB T b bk R I L P ta bs) (hi : i < 76) (hl : bs.length + g_len i ≤ 600) (k0 : ∀ I9 : q_I, q_TB T b bk R I9 L P ta (bs ++ g_sts i) → q_Tk b ta I I9 → Q (.inl none) sz T I9 L P) : qC G 4 0 0 YL_tell [.ref b, .ref ta, .ref (q_KS G i)] sz T I L P Q := by
  refine qC_of (by decide +kernel) rfl rfl (Nat.le_of_ble_eq_true rfl) (fun F hF _ _ => ?_)
  refine q_iconst hF dL_tell_0 ?_
  refine q_istore_n hF (ls' := [(3, qI 0), (0, .ref b), (1, .ref ta), (2, .ref (q_KS G i))]) rfl (by decide) rfl dL_tell_1 ?_
  refine lL_tell hF hA hTa hi hl (fun I9 h1 h2 => ?_) _ 0 I (Nat.lt_succ_self _) (Nat.zero_le _) (hB.bs (List.append_nil _).symm) q_Tk.rfl'
  refine q_return hF rfl dL_tell_27 ?_
  exact k0 _ h1 h2

set_option maxRecDepth 100000 in
theorem mL_digits {G : q_G} {sz : Nat} {T : q_T} {I L : q_I} {P : q_P} {Q : q_Q} {b : Nat} {ta : Nat} {bk : Nat} {R : Nat → Nat → Int} {bs : List Nat} {v : Nat} (hA : q_A G b) (hTa : q_A G ta) (hB : q_TB T b bk R I L P ta bs) (hv : v < 100000) (hl : bs.length + (g_dge v + 1) ≤ 600) (k0 : ∀ I9 : q_I, q_TB T b bk R I9 L P ta (bs ++ g_dg9 v) → q_Tk b ta I I9 → Q (.inl none) sz T I9 L P) : qC G 4 0 0 YL_digits [.ref b, .ref ta, qI (v : Int)] sz T I L P Q := by
  refine qC_of (by decide +kernel) rfl rfl (Nat.le_of_ble_eq_true rfl) (fun F hF _ _ => ?_)
  have hl5 : (10 ≤ v → bs.length + 2 ≤ 600) ∧ (100 ≤ v → bs.length + 3 ≤ 600) ∧ (1000 ≤ v → bs.length + 4 ≤ 600) ∧ (10000 ≤ v → bs.length + 5 ≤ 600) ∧ bs.length + 1 ≤ 600 := by
    unfold g_dge at hl
    refine ⟨fun h => ?_, fun h => ?_, fun h => ?_, fun h => ?_, ?_⟩ <;> (repeat' split at hl) <;> omega
  refine q_iconst hF dL_digits_0 ?_
  refine q_istore_n hF (ls' := [(3, qI 1), (0, .ref b), (1, .ref ta), (2, qI (v : Int))]) rfl (by decide) rfl dL_digits_1 ?_
  refine q_iload_n hF 0 rfl rfl dL_digits_2 ?_
  refine q_iload_n hF 3 rfl rfl dL_digits_3 ?_
  refine q_bipush hF (n := 10) rfl dL_digits_4 ?_
  refine q_idiv hF (by omega) (by decide) (by decide) dL_digits_6 ?_
  rw [show (v : Int).tdiv 10 = (v : Int) / 10 from Int.tdiv_eq_ediv_of_nonneg (by omega)]
  refine q_icmpgt hF (by decide) (by omega) dL_digits_7 (fun c7 => ?_) (fun c7 => ?_)
  · refine q_iload_n hF 0 rfl rfl dL_digits_18 ?_
    refine q_ifle hF (by decide) dL_digits_19 (fun c19 => ?_) (fun c19 => ?_)
    · exact absurd c19 (by decide)
    · refine q_aload_n hF 1 rfl rfl dL_digits_22 ?_
      refine q_aload_n hF 2 rfl rfl dL_digits_23 ?_
      refine q_ldc2 hF (n := 48) (q_mem 1139 (by decide +kernel) rfl) dL_digits_24 ?_
      refine q_iload_n hF 3 rfl rfl dL_digits_27 ?_
      refine q_iload_n hF 0 rfl rfl dL_digits_28 ?_
      refine q_idiv hF (by omega) (by decide) (by decide) dL_digits_29 ?_
      refine q_bipush hF (n := 10) rfl dL_digits_30 ?_
      refine q_irem hF (by rw [Int.tdiv_eq_ediv_of_nonneg (by omega)]; omega) (by decide) (by decide) dL_digits_32 ?_
      refine q_i2l hF (by rw [Int.tdiv_eq_ediv_of_nonneg (by omega), Int.tmod_eq_emod_of_nonneg (by omega)]; omega) dL_digits_33 ?_
      refine q_ladd hF dL_digits_34 ?_
      rw [show (48 + (((v : Int).tdiv 1).tmod 10)) = ((48 + v / 1 % 10 : Nat) : Int) from by rw [Int.tdiv_eq_ediv_of_nonneg (by omega), Int.tmod_eq_emod_of_nonneg (by omega)]; omega]
      refine q_callS (kc := 0) (ks := 0) (mc' := 0) (ms' := 0) (h' := 3) (st := []) hF sl_RL_26 rfl [.ref b, .ref ta, qL ((48 + v / 1 % 10 : Nat) : Int)] rfl rfl (by decide) (Nat.le_of_ble_eq_true rfl) dL_digits_35 ?_
      refine mL_put (x := 48 + v / 1 % 10) hA hTa hB (by omega) (by first | omega | (simp only [List.length_append, List.length_cons, List.length_nil]; omega)) (fun I9_1 hB9_1 hK9_1 => ?_)
      refine q_iload_n hF 0 rfl rfl dL_digits_38 ?_
      refine q_bipush hF (n := 10) rfl dL_digits_39 ?_
      refine q_idiv hF (by decide) (by decide) (by decide) dL_digits_41 ?_
      rw [show Int.tdiv 1 10 = 0 from rfl]
      refine q_istore_n hF (ls' := [(3, qI 0), (0, .ref b), (1, .ref ta), (2, qI (v : Int))]) rfl (by decide) rfl dL_digits_42 ?_
      refine q_goto hF dL_digits_43 ?_
      refine q_iload_n hF 0 rfl rfl dL_digits_18 ?_
      refine q_ifle hF (by decide) dL_digits_19 (fun c19v2 => ?_) (fun c19v2 => ?_)
      · refine q_return hF rfl dL_digits_46 ?_
        refine k0 _ (hB9_1.bs ?_) (q_Tk.rfl'.tr hK9_1)
        have e : g_dge v = 0 := by unfold g_dge; rw [if_pos (by omega)]
        unfold g_dg9
        rw [e]
        simp only [g_dgk, Nat.div_one, Nat.reducePow, Nat.reduceAdd, List.append_assoc, List.cons_append, List.nil_append]
      · exact absurd c19v2 (by decide)
  · refine q_iload_n hF 0 rfl rfl dL_digits_10 ?_
    refine q_bipush hF (n := 10) rfl dL_digits_11 ?_
    refine q_imul hF dL_digits_13 ?_
    rw [show (1 * 10 : Int) = 10 from rfl]
    refine q_istore_n hF (ls' := [(3, qI 10), (0, .ref b), (1, .ref ta), (2, qI (v : Int))]) rfl (by decide) rfl dL_digits_14 ?_
    refine q_goto hF dL_digits_15 ?_
    refine q_iload_n hF 0 rfl rfl dL_digits_2 ?_
    refine q_iload_n hF 3 rfl rfl dL_digits_3 ?_
    refine q_bipush hF (n := 10) rfl dL_digits_4 ?_
    refine q_idiv hF (by omega) (by decide) (by decide) dL_digits_6 ?_
    rw [show (v : Int).tdiv 10 = (v : Int) / 10 from Int.tdiv_eq_ediv_of_nonneg (by omega)]
    refine q_icmpgt hF (by decide) (by omega) dL_digits_7 (fun c7v3 => ?_) (fun c7v3 => ?_)
    · refine q_iload_n hF 0 rfl rfl dL_digits_18 ?_
      refine q_ifle hF (by decide) dL_digits_19 (fun c19 => ?_) (fun c19 => ?_)
      · exact absurd c19 (by decide)
      · refine q_aload_n hF 1 rfl rfl dL_digits_22 ?_
        refine q_aload_n hF 2 rfl rfl dL_digits_23 ?_
        refine q_ldc2 hF (n := 48) (q_mem 1139 (by decide +kernel) rfl) dL_digits_24 ?_
        refine q_iload_n hF 3 rfl rfl dL_digits_27 ?_
        refine q_iload_n hF 0 rfl rfl dL_digits_28 ?_
        refine q_idiv hF (by omega) (by decide) (by decide) dL_digits_29 ?_
        refine q_bipush hF (n := 10) rfl dL_digits_30 ?_
        refine q_irem hF (by rw [Int.tdiv_eq_ediv_of_nonneg (by omega)]; omega) (by decide) (by decide) dL_digits_32 ?_
        refine q_i2l hF (by rw [Int.tdiv_eq_ediv_of_nonneg (by omega), Int.tmod_eq_emod_of_nonneg (by omega)]; omega) dL_digits_33 ?_
        refine q_ladd hF dL_digits_34 ?_
        rw [show (48 + (((v : Int).tdiv 10).tmod 10)) = ((48 + v / 10 % 10 : Nat) : Int) from by rw [Int.tdiv_eq_ediv_of_nonneg (by omega), Int.tmod_eq_emod_of_nonneg (by omega)]; omega]
        refine q_callS (kc := 0) (ks := 0) (mc' := 0) (ms' := 0) (h' := 3) (st := []) hF sl_RL_26 rfl [.ref b, .ref ta, qL ((48 + v / 10 % 10 : Nat) : Int)] rfl rfl (by decide) (Nat.le_of_ble_eq_true rfl) dL_digits_35 ?_
        refine mL_put (x := 48 + v / 10 % 10) hA hTa hB (by omega) (by first | omega | (simp only [List.length_append, List.length_cons, List.length_nil]; omega)) (fun I9_4 hB9_4 hK9_4 => ?_)
        refine q_iload_n hF 0 rfl rfl dL_digits_38 ?_
        refine q_bipush hF (n := 10) rfl dL_digits_39 ?_
        refine q_idiv hF (by decide) (by decide) (by decide) dL_digits_41 ?_
        rw [show Int.tdiv 10 10 = 1 from rfl]
        refine q_istore_n hF (ls' := [(3, qI 1), (0, .ref b), (1, .ref ta), (2, qI (v : Int))]) rfl (by decide) rfl dL_digits_42 ?_
        refine q_goto hF dL_digits_43 ?_
        refine q_iload_n hF 0 rfl rfl dL_digits_18 ?_
        refine q_ifle hF (by decide) dL_digits_19 (fun c19v5 => ?_) (fun c19v5 => ?_)
        · exact absurd c19v5 (by decide)
        · refine q_aload_n hF 1 rfl rfl dL_digits_22 ?_
          refine q_aload_n hF 2 rfl rfl dL_digits_23 ?_
          refine q_ldc2 hF (n := 48) (q_mem 1139 (by decide +kernel) rfl) dL_digits_24 ?_
          refine q_iload_n hF 3 rfl rfl dL_digits_27 ?_
          refine q_iload_n hF 0 rfl rfl dL_digits_28 ?_
          refine q_idiv hF (by omega) (by decide) (by decide) dL_digits_29 ?_
          refine q_bipush hF (n := 10) rfl dL_digits_30 ?_
          refine q_irem hF (by rw [Int.tdiv_eq_ediv_of_nonneg (by omega)]; omega) (by decide) (by decide) dL_digits_32 ?_
          refine q_i2l hF (by rw [Int.tdiv_eq_ediv_of_nonneg (by omega), Int.tmod_eq_emod_of_nonneg (by omega)]; omega) dL_digits_33 ?_
          refine q_ladd hF dL_digits_34 ?_
          rw [show (48 + (((v : Int).tdiv 1).tmod 10)) = ((48 + v / 1 % 10 : Nat) : Int) from by rw [Int.tdiv_eq_ediv_of_nonneg (by omega), Int.tmod_eq_emod_of_nonneg (by omega)]; omega]
          refine q_callS (kc := 0) (ks := 0) (mc' := 0) (ms' := 0) (h' := 3) (st := []) hF sl_RL_26 rfl [.ref b, .ref ta, qL ((48 + v / 1 % 10 : Nat) : Int)] rfl rfl (by decide) (Nat.le_of_ble_eq_true rfl) dL_digits_35 ?_
          refine mL_put (x := 48 + v / 1 % 10) hA hTa hB9_4 (by omega) (by first | omega | (simp only [List.length_append, List.length_cons, List.length_nil]; omega)) (fun I9_6 hB9_6 hK9_6 => ?_)
          refine q_iload_n hF 0 rfl rfl dL_digits_38 ?_
          refine q_bipush hF (n := 10) rfl dL_digits_39 ?_
          refine q_idiv hF (by decide) (by decide) (by decide) dL_digits_41 ?_
          rw [show Int.tdiv 1 10 = 0 from rfl]
          refine q_istore_n hF (ls' := [(3, qI 0), (0, .ref b), (1, .ref ta), (2, qI (v : Int))]) rfl (by decide) rfl dL_digits_42 ?_
          refine q_goto hF dL_digits_43 ?_
          refine q_iload_n hF 0 rfl rfl dL_digits_18 ?_
          refine q_ifle hF (by decide) dL_digits_19 (fun c19v7 => ?_) (fun c19v7 => ?_)
          · refine q_return hF rfl dL_digits_46 ?_
            refine k0 _ (hB9_6.bs ?_) ((q_Tk.rfl'.tr hK9_4).tr hK9_6)
            have e : g_dge v = 1 := by unfold g_dge; rw [if_neg (by omega), if_pos (by omega)]
            unfold g_dg9
            rw [e]
            simp only [g_dgk, Nat.div_one, Nat.reducePow, Nat.reduceAdd, List.append_assoc, List.cons_append, List.nil_append]
          · exact absurd c19v7 (by decide)
    · refine q_iload_n hF 0 rfl rfl dL_digits_10 ?_
      refine q_bipush hF (n := 10) rfl dL_digits_11 ?_
      refine q_imul hF dL_digits_13 ?_
      rw [show (10 * 10 : Int) = 100 from rfl]
      refine q_istore_n hF (ls' := [(3, qI 100), (0, .ref b), (1, .ref ta), (2, qI (v : Int))]) rfl (by decide) rfl dL_digits_14 ?_
      refine q_goto hF dL_digits_15 ?_
      refine q_iload_n hF 0 rfl rfl dL_digits_2 ?_
      refine q_iload_n hF 3 rfl rfl dL_digits_3 ?_
      refine q_bipush hF (n := 10) rfl dL_digits_4 ?_
      refine q_idiv hF (by omega) (by decide) (by decide) dL_digits_6 ?_
      rw [show (v : Int).tdiv 10 = (v : Int) / 10 from Int.tdiv_eq_ediv_of_nonneg (by omega)]
      refine q_icmpgt hF (by decide) (by omega) dL_digits_7 (fun c7v8 => ?_) (fun c7v8 => ?_)
      · refine q_iload_n hF 0 rfl rfl dL_digits_18 ?_
        refine q_ifle hF (by decide) dL_digits_19 (fun c19 => ?_) (fun c19 => ?_)
        · exact absurd c19 (by decide)
        · refine q_aload_n hF 1 rfl rfl dL_digits_22 ?_
          refine q_aload_n hF 2 rfl rfl dL_digits_23 ?_
          refine q_ldc2 hF (n := 48) (q_mem 1139 (by decide +kernel) rfl) dL_digits_24 ?_
          refine q_iload_n hF 3 rfl rfl dL_digits_27 ?_
          refine q_iload_n hF 0 rfl rfl dL_digits_28 ?_
          refine q_idiv hF (by omega) (by decide) (by decide) dL_digits_29 ?_
          refine q_bipush hF (n := 10) rfl dL_digits_30 ?_
          refine q_irem hF (by rw [Int.tdiv_eq_ediv_of_nonneg (by omega)]; omega) (by decide) (by decide) dL_digits_32 ?_
          refine q_i2l hF (by rw [Int.tdiv_eq_ediv_of_nonneg (by omega), Int.tmod_eq_emod_of_nonneg (by omega)]; omega) dL_digits_33 ?_
          refine q_ladd hF dL_digits_34 ?_
          rw [show (48 + (((v : Int).tdiv 100).tmod 10)) = ((48 + v / 100 % 10 : Nat) : Int) from by rw [Int.tdiv_eq_ediv_of_nonneg (by omega), Int.tmod_eq_emod_of_nonneg (by omega)]; omega]
          refine q_callS (kc := 0) (ks := 0) (mc' := 0) (ms' := 0) (h' := 3) (st := []) hF sl_RL_26 rfl [.ref b, .ref ta, qL ((48 + v / 100 % 10 : Nat) : Int)] rfl rfl (by decide) (Nat.le_of_ble_eq_true rfl) dL_digits_35 ?_
          refine mL_put (x := 48 + v / 100 % 10) hA hTa hB (by omega) (by first | omega | (simp only [List.length_append, List.length_cons, List.length_nil]; omega)) (fun I9_9 hB9_9 hK9_9 => ?_)
          refine q_iload_n hF 0 rfl rfl dL_digits_38 ?_
          refine q_bipush hF (n := 10) rfl dL_digits_39 ?_
          refine q_idiv hF (by decide) (by decide) (by decide) dL_digits_41 ?_
          rw [show Int.tdiv 100 10 = 10 from rfl]
          refine q_istore_n hF (ls' := [(3, qI 10), (0, .ref b), (1, .ref ta), (2, qI (v : Int))]) rfl (by decide) rfl dL_digits_42 ?_
          refine q_goto hF dL_digits_43 ?_
          refine q_iload_n hF 0 rfl rfl dL_digits_18 ?_
          refine q_ifle hF (by decide) dL_digits_19 (fun c19v10 => ?_) (fun c19v10 => ?_)
          · exact absurd c19v10 (by decide)
          · refine q_aload_n hF 1 rfl rfl dL_digits_22 ?_
            refine q_aload_n hF 2 rfl rfl dL_digits_23 ?_
            refine q_ldc2 hF (n := 48) (q_mem 1139 (by decide +kernel) rfl) dL_digits_24 ?_
            refine q_iload_n hF 3 rfl rfl dL_digits_27 ?_
            refine q_iload_n hF 0 rfl rfl dL_digits_28 ?_
            refine q_idiv hF (by omega) (by decide) (by decide) dL_digits_29 ?_
            refine q_bipush hF (n := 10) rfl dL_digits_30 ?_
            refine q_irem hF (by rw [Int.tdiv_eq_ediv_of_nonneg (by omega)]; omega) (by decide) (by decide) dL_digits_32 ?_
            refine q_i2l hF (by rw [Int.tdiv_eq_ediv_of_nonneg (by omega), Int.tmod_eq_emod_of_nonneg (by omega)]; omega) dL_digits_33 ?_
            refine q_ladd hF dL_digits_34 ?_
            rw [show (48 + (((v : Int).tdiv 10).tmod 10)) = ((48 + v / 10 % 10 : Nat) : Int) from by rw [Int.tdiv_eq_ediv_of_nonneg (by omega), Int.tmod_eq_emod_of_nonneg (by omega)]; omega]
            refine q_callS (kc := 0) (ks := 0) (mc' := 0) (ms' := 0) (h' := 3) (st := []) hF sl_RL_26 rfl [.ref b, .ref ta, qL ((48 + v / 10 % 10 : Nat) : Int)] rfl rfl (by decide) (Nat.le_of_ble_eq_true rfl) dL_digits_35 ?_
            refine mL_put (x := 48 + v / 10 % 10) hA hTa hB9_9 (by omega) (by first | omega | (simp only [List.length_append, List.length_cons, List.length_nil]; omega)) (fun I9_11 hB9_11 hK9_11 => ?_)
            refine q_iload_n hF 0 rfl rfl dL_digits_38 ?_
            refine q_bipush hF (n := 10) rfl dL_digits_39 ?_
            refine q_idiv hF (by decide) (by decide) (by decide) dL_digits_41 ?_
            rw [show Int.tdiv 10 10 = 1 from rfl]
            refine q_istore_n hF (ls' := [(3, qI 1), (0, .ref b), (1, .ref ta), (2, qI (v : Int))]) rfl (by decide) rfl dL_digits_42 ?_
            refine q_goto hF dL_digits_43 ?_
            refine q_iload_n hF 0 rfl rfl dL_digits_18 ?_
            refine q_ifle hF (by decide) dL_digits_19 (fun c19v12 => ?_) (fun c19v12 => ?_)
            · exact absurd c19v12 (by decide)
            · refine q_aload_n hF 1 rfl rfl dL_digits_22 ?_
              refine q_aload_n hF 2 rfl rfl dL_digits_23 ?_
              refine q_ldc2 hF (n := 48) (q_mem 1139 (by decide +kernel) rfl) dL_digits_24 ?_
              refine q_iload_n hF 3 rfl rfl dL_digits_27 ?_
              refine q_iload_n hF 0 rfl rfl dL_digits_28 ?_
              refine q_idiv hF (by omega) (by decide) (by decide) dL_digits_29 ?_
              refine q_bipush hF (n := 10) rfl dL_digits_30 ?_
              refine q_irem hF (by rw [Int.tdiv_eq_ediv_of_nonneg (by omega)]; omega) (by decide) (by decide) dL_digits_32 ?_
              refine q_i2l hF (by rw [Int.tdiv_eq_ediv_of_nonneg (by omega), Int.tmod_eq_emod_of_nonneg (by omega)]; omega) dL_digits_33 ?_
              refine q_ladd hF dL_digits_34 ?_
              rw [show (48 + (((v : Int).tdiv 1).tmod 10)) = ((48 + v / 1 % 10 : Nat) : Int) from by rw [Int.tdiv_eq_ediv_of_nonneg (by omega), Int.tmod_eq_emod_of_nonneg (by omega)]; omega]
              refine q_callS (kc := 0) (ks := 0) (mc' := 0) (ms' := 0) (h' := 3) (st := []) hF sl_RL_26 rfl [.ref b, .ref ta, qL ((48 + v / 1 % 10 : Nat) : Int)] rfl rfl (by decide) (Nat.le_of_ble_eq_true rfl) dL_digits_35 ?_
              refine mL_put (x := 48 + v / 1 % 10) hA hTa hB9_11 (by omega) (by first | omega | (simp only [List.length_append, List.length_cons, List.length_nil]; omega)) (fun I9_13 hB9_13 hK9_13 => ?_)
              refine q_iload_n hF 0 rfl rfl dL_digits_38 ?_
              refine q_bipush hF (n := 10) rfl dL_digits_39 ?_
              refine q_idiv hF (by decide) (by decide) (by decide) dL_digits_41 ?_
              rw [show Int.tdiv 1 10 = 0 from rfl]
              refine q_istore_n hF (ls' := [(3, qI 0), (0, .ref b), (1, .ref ta), (2, qI (v : Int))]) rfl (by decide) rfl dL_digits_42 ?_
              refine q_goto hF dL_digits_43 ?_
              refine q_iload_n hF 0 rfl rfl dL_digits_18 ?_
              refine q_ifle hF (by decide) dL_digits_19 (fun c19v14 => ?_) (fun c19v14 => ?_)
              · refine q_return hF rfl dL_digits_46 ?_
                refine k0 _ (hB9_13.bs ?_) (((q_Tk.rfl'.tr hK9_9).tr hK9_11).tr hK9_13)
                have e : g_dge v = 2 := by unfold g_dge; rw [if_neg (by omega), if_neg (by omega), if_pos (by omega)]
                unfold g_dg9
                rw [e]
                simp only [g_dgk, Nat.div_one, Nat.reducePow, Nat.reduceAdd, List.append_assoc, List.cons_append, List.nil_append]
              · exact absurd c19v14 (by decide)
      · refine q_iload_n hF 0 rfl rfl dL_digits_10 ?_
        refine q_bipush hF (n := 10) rfl dL_digits_11 ?_
        refine q_imul hF dL_digits_13 ?_
        rw [show (100 * 10 : Int) = 1000 from rfl]
        refine q_istore_n hF (ls' := [(3, qI 1000), (0, .ref b), (1, .ref ta), (2, qI (v : Int))]) rfl (by decide) rfl dL_digits_14 ?_
        refine q_goto hF dL_digits_15 ?_
        refine q_iload_n hF 0 rfl rfl dL_digits_2 ?_
        refine q_iload_n hF 3 rfl rfl dL_digits_3 ?_
        refine q_bipush hF (n := 10) rfl dL_digits_4 ?_
        refine q_idiv hF (by omega) (by decide) (by decide) dL_digits_6 ?_
        rw [show (v : Int).tdiv 10 = (v : Int) / 10 from Int.tdiv_eq_ediv_of_nonneg (by omega)]
        refine q_icmpgt hF (by decide) (by omega) dL_digits_7 (fun c7v15 => ?_) (fun c7v15 => ?_)
        · refine q_iload_n hF 0 rfl rfl dL_digits_18 ?_
          refine q_ifle hF (by decide) dL_digits_19 (fun c19 => ?_) (fun c19 => ?_)
          · exact absurd c19 (by decide)
          · refine q_aload_n hF 1 rfl rfl dL_digits_22 ?_
            refine q_aload_n hF 2 rfl rfl dL_digits_23 ?_
            refine q_ldc2 hF (n := 48) (q_mem 1139 (by decide +kernel) rfl) dL_digits_24 ?_
            refine q_iload_n hF 3 rfl rfl dL_digits_27 ?_
            refine q_iload_n hF 0 rfl rfl dL_digits_28 ?_
            refine q_idiv hF (by omega) (by decide) (by decide) dL_digits_29 ?_
            refine q_bipush hF (n := 10) rfl dL_digits_30 ?_
            refine q_irem hF (by rw [Int.tdiv_eq_ediv_of_nonneg (by omega)]; omega) (by decide) (by decide) dL_digits_32 ?_
            refine q_i2l hF (by rw [Int.tdiv_eq_ediv_of_nonneg (by omega), Int.tmod_eq_emod_of_nonneg (by omega)]; omega) dL_digits_33 ?_
            refine q_ladd hF dL_digits_34 ?_
            rw [show (48 + (((v : Int).tdiv 1000).tmod 10)) = ((48 + v / 1000 % 10 : Nat) : Int) from by rw [Int.tdiv_eq_ediv_of_nonneg (by omega), Int.tmod_eq_emod_of_nonneg (by omega)]; omega]
            refine q_callS (kc := 0) (ks := 0) (mc' := 0) (ms' := 0) (h' := 3) (st := []) hF sl_RL_26 rfl [.ref b, .ref ta, qL ((48 + v / 1000 % 10 : Nat) : Int)] rfl rfl (by decide) (Nat.le_of_ble_eq_true rfl) dL_digits_35 ?_
            refine mL_put (x := 48 + v / 1000 % 10) hA hTa hB (by omega) (by first | omega | (simp only [List.length_append, List.length_cons, List.length_nil]; omega)) (fun I9_16 hB9_16 hK9_16 => ?_)
            refine q_iload_n hF 0 rfl rfl dL_digits_38 ?_
            refine q_bipush hF (n := 10) rfl dL_digits_39 ?_
            refine q_idiv hF (by decide) (by decide) (by decide) dL_digits_41 ?_
            rw [show Int.tdiv 1000 10 = 100 from rfl]
            refine q_istore_n hF (ls' := [(3, qI 100), (0, .ref b), (1, .ref ta), (2, qI (v : Int))]) rfl (by decide) rfl dL_digits_42 ?_
            refine q_goto hF dL_digits_43 ?_
            refine q_iload_n hF 0 rfl rfl dL_digits_18 ?_
            refine q_ifle hF (by decide) dL_digits_19 (fun c19v17 => ?_) (fun c19v17 => ?_)
            · exact absurd c19v17 (by decide)
            · refine q_aload_n hF 1 rfl rfl dL_digits_22 ?_
              refine q_aload_n hF 2 rfl rfl dL_digits_23 ?_
              refine q_ldc2 hF (n := 48) (q_mem 1139 (by decide +kernel) rfl) dL_digits_24 ?_
              refine q_iload_n hF 3 rfl rfl dL_digits_27 ?_
              refine q_iload_n hF 0 rfl rfl dL_digits_28 ?_
              refine q_idiv hF (by omega) (by decide) (by decide) dL_digits_29 ?_
              refine q_bipush hF (n := 10) rfl dL_digits_30 ?_
              refine q_irem hF (by rw [Int.tdiv_eq_ediv_of_nonneg (by omega)]; omega) (by decide) (by decide) dL_digits_32 ?_
              refine q_i2l hF (by rw [Int.tdiv_eq_ediv_of_nonneg (by omega), Int.tmod_eq_emod_of_nonneg (by omega)]; omega) dL_digits_33 ?_
              refine q_ladd hF dL_digits_34 ?_
              rw [show (48 + (((v : Int).tdiv 100).tmod 10)) = ((48 + v / 100 % 10 : Nat) : Int) from by rw [Int.tdiv_eq_ediv_of_nonneg (by omega), Int.tmod_eq_emod_of_nonneg (by omega)]; omega]
              refine q_callS (kc := 0) (ks := 0) (mc' := 0) (ms' := 0) (h' := 3) (st := []) hF sl_RL_26 rfl [.ref b, .ref ta, qL ((48 + v / 100 % 10 : Nat) : Int)] rfl rfl (by decide) (Nat.le_of_ble_eq_true rfl) dL_digits_35 ?_
              refine mL_put (x := 48 + v / 100 % 10) hA hTa hB9_16 (by omega) (by first | omega | (simp only [List.length_append, List.length_cons, List.length_nil]; omega)) (fun I9_18 hB9_18 hK9_18 => ?_)
              refine q_iload_n hF 0 rfl rfl dL_digits_38 ?_
              refine q_bipush hF (n := 10) rfl dL_digits_39 ?_
              refine q_idiv hF (by decide) (by decide) (by decide) dL_digits_41 ?_
              rw [show Int.tdiv 100 10 = 10 from rfl]
              refine q_istore_n hF (ls' := [(3, qI 10), (0, .ref b), (1, .ref ta), (2, qI (v : Int))]) rfl (by decide) rfl dL_digits_42 ?_
              refine q_goto hF dL_digits_43 ?_
              refine q_iload_n hF 0 rfl rfl dL_digits_18 ?_
              refine q_ifle hF (by decide) dL_digits_19 (fun c19v19 => ?_) (fun c19v19 => ?_)
              · exact absurd c19v19 (by decide)
              · refine q_aload_n hF 1 rfl rfl dL_digits_22 ?_
                refine q_aload_n hF 2 rfl rfl dL_digits_23 ?_
                refine q_ldc2 hF (n := 48) (q_mem 1139 (by decide +kernel) rfl) dL_digits_24 ?_
                refine q_iload_n hF 3 rfl rfl dL_digits_27 ?_
                refine q_iload_n hF 0 rfl rfl dL_digits_28 ?_
                refine q_idiv hF (by omega) (by decide) (by decide) dL_digits_29 ?_
                refine q_bipush hF (n := 10) rfl dL_digits_30 ?_
                refine q_irem hF (by rw [Int.tdiv_eq_ediv_of_nonneg (by omega)]; omega) (by decide) (by decide) dL_digits_32 ?_
                refine q_i2l hF (by rw [Int.tdiv_eq_ediv_of_nonneg (by omega), Int.tmod_eq_emod_of_nonneg (by omega)]; omega) dL_digits_33 ?_
                refine q_ladd hF dL_digits_34 ?_
                rw [show (48 + (((v : Int).tdiv 10).tmod 10)) = ((48 + v / 10 % 10 : Nat) : Int) from by rw [Int.tdiv_eq_ediv_of_nonneg (by omega), Int.tmod_eq_emod_of_nonneg (by omega)]; omega]
                refine q_callS (kc := 0) (ks := 0) (mc' := 0) (ms' := 0) (h' := 3) (st := []) hF sl_RL_26 rfl [.ref b, .ref ta, qL ((48 + v / 10 % 10 : Nat) : Int)] rfl rfl (by decide) (Nat.le_of_ble_eq_true rfl) dL_digits_35 ?_
                refine mL_put (x := 48 + v / 10 % 10) hA hTa hB9_18 (by omega) (by first | omega | (simp only [List.length_append, List.length_cons, List.length_nil]; omega)) (fun I9_20 hB9_20 hK9_20 => ?_)
                refine q_iload_n hF 0 rfl rfl dL_digits_38 ?_
                refine q_bipush hF (n := 10) rfl dL_digits_39 ?_
                refine q_idiv hF (by decide) (by decide) (by decide) dL_digits_41 ?_
                rw [show Int.tdiv 10 10 = 1 from rfl]
                refine q_istore_n hF (ls' := [(3, qI 1), (0, .ref b), (1, .ref ta), (2, qI (v : Int))]) rfl (by decide) rfl dL_digits_42 ?_
                refine q_goto hF dL_digits_43 ?_
                refine q_iload_n hF 0 rfl rfl dL_digits_18 ?_
                refine q_ifle hF (by decide) dL_digits_19 (fun c19v21 => ?_) (fun c19v21 => ?_)
                · exact absurd c19v21 (by decide)
                · refine q_aload_n hF 1 rfl rfl dL_digits_22 ?_
                  refine q_aload_n hF 2 rfl rfl dL_digits_23 ?_
                  refine q_ldc2 hF (n := 48) (q_mem 1139 (by decide +kernel) rfl) dL_digits_24 ?_
                  refine q_iload_n hF 3 rfl rfl dL_digits_27 ?_
                  refine q_iload_n hF 0 rfl rfl dL_digits_28 ?_
                  refine q_idiv hF (by omega) (by decide) (by decide) dL_digits_29 ?_
                  refine q_bipush hF (n := 10) rfl dL_digits_30 ?_
                  refine q_irem hF (by rw [Int.tdiv_eq_ediv_of_nonneg (by omega)]; omega) (by decide) (by decide) dL_digits_32 ?_
                  refine q_i2l hF (by rw [Int.tdiv_eq_ediv_of_nonneg (by omega), Int.tmod_eq_emod_of_nonneg (by omega)]; omega) dL_digits_33 ?_
                  refine q_ladd hF dL_digits_34 ?_
                  rw [show (48 + (((v : Int).tdiv 1).tmod 10)) = ((48 + v / 1 % 10 : Nat) : Int) from by rw [Int.tdiv_eq_ediv_of_nonneg (by omega), Int.tmod_eq_emod_of_nonneg (by omega)]; omega]
                  refine q_callS (kc := 0) (ks := 0) (mc' := 0) (ms' := 0) (h' := 3) (st := []) hF sl_RL_26 rfl [.ref b, .ref ta, qL ((48 + v / 1 % 10 : Nat) : Int)] rfl rfl (by decide) (Nat.le_of_ble_eq_true rfl) dL_digits_35 ?_
                  refine mL_put (x := 48 + v / 1 % 10) hA hTa hB9_20 (by omega) (by first | omega | (simp only [List.length_append, List.length_cons, List.length_nil]; omega)) (fun I9_22 hB9_22 hK9_22 => ?_)
                  refine q_iload_n hF 0 rfl rfl dL_digits_38 ?_
                  refine q_bipush hF (n := 10) rfl dL_digits_39 ?_
                  refine q_idiv hF (by decide) (by decide) (by decide) dL_digits_41 ?_
                  rw [show Int.tdiv 1 10 = 0 from rfl]
                  refine q_istore_n hF (ls' := [(3, qI 0), (0, .ref b), (1, .ref ta), (2, qI (v : Int))]) rfl (by decide) rfl dL_digits_42 ?_
                  refine q_goto hF dL_digits_43 ?_
                  refine q_iload_n hF 0 rfl rfl dL_digits_18 ?_
                  refine q_ifle hF (by decide) dL_digits_19 (fun c19v23 => ?_) (fun c19v23 => ?_)
                  · refine q_return hF rfl dL_digits_46 ?_
                    refine k0 _ (hB9_22.bs ?_) ((((q_Tk.rfl'.tr hK9_16).tr hK9_18).tr hK9_20).tr hK9_22)
                    have e : g_dge v = 3 := by unfold g_dge; rw [if_neg (by omega), if_neg (by omega), if_neg (by omega), if_pos (by omega)]
                    unfold g_dg9
                    rw [e]
                    simp only [g_dgk, Nat.div_one, Nat.reducePow, Nat.reduceAdd, List.append_assoc, List.cons_append, List.nil_append]
                  · exact absurd c19v23 (by decide)
        · refine q_iload_n hF 0 rfl rfl dL_digits_10 ?_
          refine q_bipush hF (n := 10) rfl dL_digits_11 ?_
          refine q_imul hF dL_digits_13 ?_
          rw [show (1000 * 10 : Int) = 10000 from rfl]
          refine q_istore_n hF (ls' := [(3, qI 10000), (0, .ref b), (1, .ref ta), (2, qI (v : Int))]) rfl (by decide) rfl dL_digits_14 ?_
          refine q_goto hF dL_digits_15 ?_
          refine q_iload_n hF 0 rfl rfl dL_digits_2 ?_
          refine q_iload_n hF 3 rfl rfl dL_digits_3 ?_
          refine q_bipush hF (n := 10) rfl dL_digits_4 ?_
          refine q_idiv hF (by omega) (by decide) (by decide) dL_digits_6 ?_
          rw [show (v : Int).tdiv 10 = (v : Int) / 10 from Int.tdiv_eq_ediv_of_nonneg (by omega)]
          refine q_icmpgt hF (by decide) (by omega) dL_digits_7 (fun c7v24 => ?_) (fun c7v24 => ?_)
          · refine q_iload_n hF 0 rfl rfl dL_digits_18 ?_
            refine q_ifle hF (by decide) dL_digits_19 (fun c19 => ?_) (fun c19 => ?_)
            · exact absurd c19 (by decide)
            · refine q_aload_n hF 1 rfl rfl dL_digits_22 ?_
              refine q_aload_n hF 2 rfl rfl dL_digits_23 ?_
              refine q_ldc2 hF (n := 48) (q_mem 1139 (by decide +kernel) rfl) dL_digits_24 ?_
              refine q_iload_n hF 3 rfl rfl dL_digits_27 ?_
              refine q_iload_n hF 0 rfl rfl dL_digits_28 ?_
              refine q_idiv hF (by omega) (by decide) (by decide) dL_digits_29 ?_
              refine q_bipush hF (n := 10) rfl dL_digits_30 ?_
              refine q_irem hF (by rw [Int.tdiv_eq_ediv_of_nonneg (by omega)]; omega) (by decide) (by decide) dL_digits_32 ?_
              refine q_i2l hF (by rw [Int.tdiv_eq_ediv_of_nonneg (by omega), Int.tmod_eq_emod_of_nonneg (by omega)]; omega) dL_digits_33 ?_
              refine q_ladd hF dL_digits_34 ?_
              rw [show (48 + (((v : Int).tdiv 10000).tmod 10)) = ((48 + v / 10000 % 10 : Nat) : Int) from by rw [Int.tdiv_eq_ediv_of_nonneg (by omega), Int.tmod_eq_emod_of_nonneg (by omega)]; omega]
              refine q_callS (kc := 0) (ks := 0) (mc' := 0) (ms' := 0) (h' := 3) (st := []) hF sl_RL_26 rfl [.ref b, .ref ta, qL ((48 + v / 10000 % 10 : Nat) : Int)] rfl rfl (by decide) (Nat.le_of_ble_eq_true rfl) dL_digits_35 ?_
              refine mL_put (x := 48 + v / 10000 % 10) hA hTa hB (by omega) (by first | omega | (simp only [List.length_append, List.length_cons, List.length_nil]; omega)) (fun I9_25 hB9_25 hK9_25 => ?_)
              refine q_iload_n hF 0 rfl rfl dL_digits_38 ?_
              refine q_bipush hF (n := 10) rfl dL_digits_39 ?_
              refine q_idiv hF (by decide) (by decide) (by decide) dL_digits_41 ?_
              rw [show Int.tdiv 10000 10 = 1000 from rfl]
              refine q_istore_n hF (ls' := [(3, qI 1000), (0, .ref b), (1, .ref ta), (2, qI (v : Int))]) rfl (by decide) rfl dL_digits_42 ?_
              refine q_goto hF dL_digits_43 ?_
              refine q_iload_n hF 0 rfl rfl dL_digits_18 ?_
              refine q_ifle hF (by decide) dL_digits_19 (fun c19v26 => ?_) (fun c19v26 => ?_)
              · exact absurd c19v26 (by decide)
              · refine q_aload_n hF 1 rfl rfl dL_digits_22 ?_
                refine q_aload_n hF 2 rfl rfl dL_digits_23 ?_
                refine q_ldc2 hF (n := 48) (q_mem 1139 (by decide +kernel) rfl) dL_digits_24 ?_
                refine q_iload_n hF 3 rfl rfl dL_digits_27 ?_
                refine q_iload_n hF 0 rfl rfl dL_digits_28 ?_
                refine q_idiv hF (by omega) (by decide) (by decide) dL_digits_29 ?_
                refine q_bipush hF (n := 10) rfl dL_digits_30 ?_
                refine q_irem hF (by rw [Int.tdiv_eq_ediv_of_nonneg (by omega)]; omega) (by decide) (by decide) dL_digits_32 ?_
                refine q_i2l hF (by rw [Int.tdiv_eq_ediv_of_nonneg (by omega), Int.tmod_eq_emod_of_nonneg (by omega)]; omega) dL_digits_33 ?_
                refine q_ladd hF dL_digits_34 ?_
                rw [show (48 + (((v : Int).tdiv 1000).tmod 10)) = ((48 + v / 1000 % 10 : Nat) : Int) from by rw [Int.tdiv_eq_ediv_of_nonneg (by omega), Int.tmod_eq_emod_of_nonneg (by omega)]; omega]
                refine q_callS (kc := 0) (ks := 0) (mc' := 0) (ms' := 0) (h' := 3) (st := []) hF sl_RL_26 rfl [.ref b, .ref ta, qL ((48 + v / 1000 % 10 : Nat) : Int)] rfl rfl (by decide) (Nat.le_of_ble_eq_true rfl) dL_digits_35 ?_
                refine mL_put (x := 48 + v / 1000 % 10) hA hTa hB9_25 (by omega) (by first | omega | (simp only [List.length_append, List.length_cons, List.length_nil]; omega)) (fun I9_27 hB9_27 hK9_27 => ?_)
                refine q_iload_n hF 0 rfl rfl dL_digits_38 ?_
                refine q_bipush hF (n := 10) rfl dL_digits_39 ?_
                refine q_idiv hF (by decide) (by decide) (by decide) dL_digits_41 ?_
                rw [show Int.tdiv 1000 10 = 100 from rfl]
                refine q_istore_n hF (ls' := [(3, qI 100), (0, .ref b), (1, .ref ta), (2, qI (v : Int))]) rfl (by decide) rfl dL_digits_42 ?_
                refine q_goto hF dL_digits_43 ?_
                refine q_iload_n hF 0 rfl rfl dL_digits_18 ?_
                refine q_ifle hF (by decide) dL_digits_19 (fun c19v28 => ?_) (fun c19v28 => ?_)
                · exact absurd c19v28 (by decide)
                · refine q_aload_n hF 1 rfl rfl dL_digits_22 ?_
                  refine q_aload_n hF 2 rfl rfl dL_digits_23 ?_
                  refine q_ldc2 hF (n := 48) (q_mem 1139 (by decide +kernel) rfl) dL_digits_24 ?_
                  refine q_iload_n hF 3 rfl rfl dL_digits_27 ?_
                  refine q_iload_n hF 0 rfl rfl dL_digits_28 ?_
                  refine q_idiv hF (by omega) (by decide) (by decide) dL_digits_29 ?_
                  refine q_bipush hF (n := 10) rfl dL_digits_30 ?_
                  refine q_irem hF (by rw [Int.tdiv_eq_ediv_of_nonneg (by omega)]; omega) (by decide) (by decide) dL_digits_32 ?_
                  refine q_i2l hF (by rw [Int.tdiv_eq_ediv_of_nonneg (by omega), Int.tmod_eq_emod_of_nonneg (by omega)]; omega) dL_digits_33 ?_
                  refine q_ladd hF dL_digits_34 ?_
                  rw [show (48 + (((v : Int).tdiv 100).tmod 10)) = ((48 + v / 100 % 10 : Nat) : Int) from by rw [Int.tdiv_eq_ediv_of_nonneg (by omega), Int.tmod_eq_emod_of_nonneg (by omega)]; omega]
                  refine q_callS (kc := 0) (ks := 0) (mc' := 0) (ms' := 0) (h' := 3) (st := []) hF sl_RL_26 rfl [.ref b, .ref ta, qL ((48 + v / 100 % 10 : Nat) : Int)] rfl rfl (by decide) (Nat.le_of_ble_eq_true rfl) dL_digits_35 ?_
                  refine mL_put (x := 48 + v / 100 % 10) hA hTa hB9_27 (by omega) (by first | omega | (simp only [List.length_append, List.length_cons, List.length_nil]; omega)) (fun I9_29 hB9_29 hK9_29 => ?_)
                  refine q_iload_n hF 0 rfl rfl dL_digits_38 ?_
                  refine q_bipush hF (n := 10) rfl dL_digits_39 ?_
                  refine q_idiv hF (by decide) (by decide) (by decide) dL_digits_41 ?_
                  rw [show Int.tdiv 100 10 = 10 from rfl]
                  refine q_istore_n hF (ls' := [(3, qI 10), (0, .ref b), (1, .ref ta), (2, qI (v : Int))]) rfl (by decide) rfl dL_digits_42 ?_
                  refine q_goto hF dL_digits_43 ?_
                  refine q_iload_n hF 0 rfl rfl dL_digits_18 ?_
                  refine q_ifle hF (by decide) dL_digits_19 (fun c19v30 => ?_) (fun c19v30 => ?_)
                  · exact absurd c19v30 (by decide)
                  · refine q_aload_n hF 1 rfl rfl dL_digits_22 ?_
                    refine q_aload_n hF 2 rfl rfl dL_digits_23 ?_
                    refine q_ldc2 hF (n := 48) (q_mem 1139 (by decide +kernel) rfl) dL_digits_24 ?_
                    refine q_iload_n hF 3 rfl rfl dL_digits_27 ?_
                    refine q_iload_n hF 0 rfl rfl dL_digits_28 ?_
                    refine q_idiv hF (by omega) (by decide) (by decide) dL_digits_29 ?_
                    refine q_bipush hF (n := 10) rfl dL_digits_30 ?_
                    refine q_irem hF (by rw [Int.tdiv_eq_ediv_of_nonneg (by omega)]; omega) (by decide) (by decide) dL_digits_32 ?_
                    refine q_i2l hF (by rw [Int.tdiv_eq_ediv_of_nonneg (by omega), Int.tmod_eq_emod_of_nonneg (by omega)]; omega) dL_digits_33 ?_
                    refine q_ladd hF dL_digits_34 ?_
                    rw [show (48 + (((v : Int).tdiv 10).tmod 10)) = ((48 + v / 10 % 10 : Nat) : Int) from by rw [Int.tdiv_eq_ediv_of_nonneg (by omega), Int.tmod_eq_emod_of_nonneg (by omega)]; omega]
                    refine q_callS (kc := 0) (ks := 0) (mc' := 0) (ms' := 0) (h' := 3) (st := []) hF sl_RL_26 rfl [.ref b, .ref ta, qL ((48 + v / 10 % 10 : Nat) : Int)] rfl rfl (by decide) (Nat.le_of_ble_eq_true rfl) dL_digits_35 ?_
                    refine mL_put (x := 48 + v / 10 % 10) hA hTa hB9_29 (by omega) (by first | omega | (simp only [List.length_append, List.length_cons, List.length_nil]; omega)) (fun I9_31 hB9_31 hK9_31 => ?_)
                    refine q_iload_n hF 0 rfl rfl dL_digits_38 ?_
                    refine q_bipush hF (n := 10) rfl dL_digits_39 ?_
                    refine q_idiv hF (by decide) (by decide) (by decide) dL_digits_41 ?_
                    rw [show Int.tdiv 10 10 = 1 from rfl]
                    refine q_istore_n hF (ls' := [(3, qI 1), (0, .ref b), (1, .ref ta), (2, qI (v : Int))]) rfl (by decide) rfl dL_digits_42 ?_
                    refine q_goto hF dL_digits_43 ?_
                    refine q_iload_n hF 0 rfl rfl dL_digits_18 ?_
                    refine q_ifle hF (by decide) dL_digits_19 (fun c19v32 => ?_) (fun c19v32 => ?_)
                    · exact absurd c19v32 (by decide)
                    · refine q_aload_n hF 1 rfl rfl dL_digits_22 ?_
                      refine q_aload_n hF 2 rfl rfl dL_digits_23 ?_
                      refine q_ldc2 hF (n := 48) (q_mem 1139 (by decide +kernel) rfl) dL_digits_24 ?_
                      refine q_iload_n hF 3 rfl rfl dL_digits_27 ?_
                      refine q_iload_n hF 0 rfl rfl dL_digits_28 ?_
                      refine q_idiv hF (by omega) (by decide) (by decide) dL_digits_29 ?_
                      refine q_bipush hF (n := 10) rfl dL_digits_30 ?_
                      refine q_irem hF (by rw [Int.tdiv_eq_ediv_of_nonneg (by omega)]; omega) (by decide) (by decide) dL_digits_32 ?_
                      refine q_i2l hF (by rw [Int.tdiv_eq_ediv_of_nonneg (by omega), Int.tmod_eq_emod_of_nonneg (by omega)]; omega) dL_digits_33 ?_
                      refine q_ladd hF dL_digits_34 ?_
                      rw [show (48 + (((v : Int).tdiv 1).tmod 10)) = ((48 + v / 1 % 10 : Nat) : Int) from by rw [Int.tdiv_eq_ediv_of_nonneg (by omega), Int.tmod_eq_emod_of_nonneg (by omega)]; omega]
                      refine q_callS (kc := 0) (ks := 0) (mc' := 0) (ms' := 0) (h' := 3) (st := []) hF sl_RL_26 rfl [.ref b, .ref ta, qL ((48 + v / 1 % 10 : Nat) : Int)] rfl rfl (by decide) (Nat.le_of_ble_eq_true rfl) dL_digits_35 ?_
                      refine mL_put (x := 48 + v / 1 % 10) hA hTa hB9_31 (by omega) (by first | omega | (simp only [List.length_append, List.length_cons, List.length_nil]; omega)) (fun I9_33 hB9_33 hK9_33 => ?_)
                      refine q_iload_n hF 0 rfl rfl dL_digits_38 ?_
                      refine q_bipush hF (n := 10) rfl dL_digits_39 ?_
                      refine q_idiv hF (by decide) (by decide) (by decide) dL_digits_41 ?_
                      rw [show Int.tdiv 1 10 = 0 from rfl]
                      refine q_istore_n hF (ls' := [(3, qI 0), (0, .ref b), (1, .ref ta), (2, qI (v : Int))]) rfl (by decide) rfl dL_digits_42 ?_
                      refine q_goto hF dL_digits_43 ?_
                      refine q_iload_n hF 0 rfl rfl dL_digits_18 ?_
                      refine q_ifle hF (by decide) dL_digits_19 (fun c19v34 => ?_) (fun c19v34 => ?_)
                      · refine q_return hF rfl dL_digits_46 ?_
                        refine k0 _ (hB9_33.bs ?_) (((((q_Tk.rfl'.tr hK9_25).tr hK9_27).tr hK9_29).tr hK9_31).tr hK9_33)
                        have e : g_dge v = 4 := by unfold g_dge; rw [if_neg (by omega), if_neg (by omega), if_neg (by omega), if_neg (by omega)]
                        unfold g_dg9
                        rw [e]
                        simp only [g_dgk, Nat.div_one, Nat.reducePow, Nat.reduceAdd, List.append_assoc, List.cons_append, List.nil_append]
                      · exact absurd c19v34 (by decide)
          · exact absurd c7v24 (by omega)

/-- a blank, then the digits of v -/
def g_nb9 (v : Nat) : List Nat := g_sts 49 ++ g_dg9 v

set_option maxRecDepth 100000 in
theorem mL_number {G : q_G} {sz : Nat} {T : q_T} {I L : q_I} {P : q_P} {Q : q_Q} {b : Nat} {ta : Nat} {bk : Nat} {R : Nat → Nat → Int} {bs : List Nat} {v : Nat} (hA : q_A G b) (hTa : q_A G ta) (hB : q_TB T b bk R I L P ta bs) (hv : v < 100000) (hl : bs.length + (g_dge v + 2) ≤ 600) (k0 : ∀ I9 : q_I, q_TB T b bk R I9 L P ta (bs ++ g_nb9 v) → q_Tk b ta I I9 → Q (.inl none) sz T I9 L P) : qC G 5 0 0 YL_number [.ref b, .ref ta, qI (v : Int)] sz T I L P Q := by
  refine qC_of (by decide +kernel) rfl rfl (Nat.le_of_ble_eq_true rfl) (fun F hF _ _ => ?_)
  refine q_aload_n hF 0 rfl rfl dL_number_0 ?_
  refine q_aload_n hF 1 rfl rfl dL_number_1 ?_
  refine q_ldcK hF (i := 49) (by decide) rfl rfl dL_number_2 ?_
  refine q_callS (kc := 0) (ks := 0) (mc' := 0) (ms' := 0) (h' := 4) (st := []) hF sl_RL_134 rfl [.ref b, .ref ta, .ref (q_KS G 49)] rfl rfl (by decide) (Nat.le_of_ble_eq_true rfl) dL_number_4 ?_
  refine mL_tell (i := 49) hA hTa hB (by decide) (by rw [show g_len 49 = 1 by decide +kernel]; omega) (fun I9_1 hB9_1 hK9_1 => ?_)
  refine q_aload_n hF 0 rfl rfl dL_number_7 ?_
  refine q_aload_n hF 1 rfl rfl dL_number_8 ?_
  refine q_iload_n hF 2 rfl rfl dL_number_9 ?_
  refine q_callS (kc := 0) (ks := 0) (mc' := 0) (ms' := 0) (h' := 4) (st := []) hF sl_RL_138 rfl [.ref b, .ref ta, qI (v : Int)] rfl rfl (by decide) (Nat.le_of_ble_eq_true rfl) dL_number_10 ?_
  refine mL_digits (v := v) hA hTa hB9_1 (by omega) (by rw [List.length_append, g_sts_len, show g_len 49 = 1 by decide +kernel]; omega) (fun I9_2 hB9_2 hK9_2 => ?_)
  refine q_return hF rfl dL_number_13 ?_
  exact k0 _ (hB9_2.bs (List.append_assoc _ _ _)) ((q_Tk.rfl'.tr hK9_1).tr hK9_2)

set_option maxRecDepth 100000 in
theorem mL_texts {G : q_G} {sz : Nat} {T : q_T} {I L : q_I} {P : q_P} {Q : q_Q} {b : Nat} {ta : Nat} {bk : Nat} {R : Nat → Nat → Int} {bs : List Nat} {s9 : g_PS} {t9 : Nat → Int} (hA : q_A G b) (hTa : q_A G ta) (hB : q_TB T b bk R I L P ta bs) (hl : bs.length ≤ 600) (hp : ∀ B : Nat → Int, (∀ k, k < bs.length → B k = (g_by bs k : Int)) → g_text B bs.length 0 = .ok s9 t9) (k0 : ∀ (B : Nat → Int) (M N : q_I) (P9 : q_P), (g_V0 (g_zap t9) ∧ g_fresh (g_zap t9) ∧ g_Zr (g_zap t9)) → q_CE T b (g_nb bk) 0 B (g_Rn R bk (g_zap t9)) M N P9 → q_Tk b ta I M → (∀ q k, q < b ∨ b + 452 ≤ q → N q k = L q k) → (∀ q k, b + 452 ≤ q → P9 q k = P q k) → Q (.inl (some (qI (t9 0)))) sz T M N P9) : qC G 21 1 6 YL_texts [.ref b, .ref ta] sz T I L P Q := by
  refine qC_of (by decide +kernel) rfl rfl (Nat.le_of_ble_eq_true rfl) (fun F hF _ _ => ?_)
  obtain ⟨hT, hbt, h7, h0, hw, B, hE, hBy⟩ := hB
  obtain ⟨n, hn⟩ : ∃ n, bs.length = n := ⟨_, rfl⟩
  rw [hn] at h0 hw hE hBy hl hp
  obtain ⟨tp, htp⟩ : ∃ tp, tp = 20 * (n / 20) := ⟨_, rfl⟩
  rw [← htp] at hw hE hBy
  have hem : (n : Int).tmod 20 = ((n % 20 : Nat) : Int) := rfl
  have hpB : ∀ k, k < n → (fun i => if tp ≤ i ∧ i < 20 + tp then (g_by bs i : Int) else B i) k = (g_by bs k : Int) := fun k hk => by
    show (if tp ≤ k ∧ k < 20 + tp then (g_by bs k : Int) else B k) = _
    by_cases c : tp ≤ k ∧ k < 20 + tp
    · rw [if_pos c]
    · rw [if_neg c]; exact hBy k (by omega)
  refine q_aload_n hF 1 rfl rfl dL_texts_0 ?_
  refine q_iconst hF dL_texts_1 ?_
  refine q_ialoadv hF (z := (n : Int)) (n := 8) 0 hT rfl (by decide) (by decide) h0 dL_texts_2 ?_
  refine q_istore_n hF (ls' := [(2, qI (n : Int)), (0, .ref b), (1, .ref ta)]) rfl (by decide) rfl dL_texts_3 ?_
  refine q_iload_n hF 0 rfl rfl dL_texts_4 ?_
  refine q_bipush hF (n := 20) rfl dL_texts_5 ?_
  refine q_irem hF (by omega) (by decide) (by decide) dL_texts_7 ?_
  refine q_ifle hF (by omega) dL_texts_8 (fun c8 => ?_) (fun c8 => ?_)
  · refine q_aload_n hF 2 rfl rfl dL_texts_16 ?_
    refine q_iconst hF dL_texts_17 ?_
    refine q_iconst hF dL_texts_18 ?_
    refine q_iastorev hF (n := 8) 0 hT hTa rfl (by decide) (by decide) dL_texts_19 ?_
    refine q_aload_n hF 1 rfl rfl dL_texts_20 ?_
    refine q_iload_n hF 0 rfl rfl dL_texts_21 ?_
    refine q_callSH (kc := 0) (ks := 0) (mc' := 1) (ms' := 6) (h' := 20) (st := []) hF sl_RL_20 rfl [.ref b, qI (n : Int)] rfl rfl (by decide) (Nat.le_of_ble_eq_true rfl) dL_texts_22 ?_
    refine a_text (n := n) hA (hE.mv (fun _ _ _ => rfl) (fun q k h1 h2 => u2_a _ _ (by omega)) (fun _ _ _ _ => rfl) (fun _ _ _ _ => rfl)) 0 (by omega) (hp _ (fun k hk => hBy k (by omega))) (fun M9 N9 P9 hz9 hE9 hO9 => ?_)
    refine q_ireturn hF rfl dL_texts_25 ?_
    exact k0 _ _ _ _ hz9 hE9 (fun q k h1 h2 => (hO9.1 q k h1).trans (u2_a _ _ h2)) hO9.2.1 hO9.2.2
  · refine q_aload_n hF 1 rfl rfl dL_texts_11 ?_
    refine q_aload_n hF 2 rfl rfl dL_texts_12 ?_
    refine q_callS (kc := 1) (ks := 6) (mc' := 0) (ms' := 0) (h' := 2) (st := []) hF sl_RL_9 rfl [.ref b, .ref ta] rfl rfl (by decide) (Nat.le_of_ble_eq_true rfl) dL_texts_13 ?_
    refine mL_feed hA hTa hT hE hbt (by omega) hw h7 (fun I2 hE3 hz3 h03 hK3 => ?_)
    refine q_aload_n hF 2 rfl rfl dL_texts_16 ?_
    refine q_iconst hF dL_texts_17 ?_
    refine q_iconst hF dL_texts_18 ?_
    refine q_iastorev hF (n := 8) 0 hT hTa rfl (by decide) (by decide) dL_texts_19 ?_
    refine q_aload_n hF 1 rfl rfl dL_texts_20 ?_
    refine q_iload_n hF 0 rfl rfl dL_texts_21 ?_
    refine q_callSH (kc := 0) (ks := 0) (mc' := 1) (ms' := 6) (h' := 20) (st := []) hF sl_RL_20 rfl [.ref b, qI (n : Int)] rfl rfl (by decide) (Nat.le_of_ble_eq_true rfl) dL_texts_22 ?_
    refine a_text (n := n) hA (hE3.mv (fun _ _ _ => rfl) (fun q k h1 h2 => u2_a _ _ (by omega)) (fun _ _ _ _ => rfl) (fun _ _ _ _ => rfl)) 0 (by omega) (hp _ hpB) (fun M9 N9 P9 hz9 hE9 hO9 => ?_)
    refine q_ireturn hF rfl dL_texts_25 ?_
    exact k0 _ _ _ _ hz9 hE9 (fun q k h1 h2 => (hO9.1 q k h1).trans ((u2_a _ _ h2).trans (hK3 q k h1 h2))) hO9.2.1 hO9.2.2
