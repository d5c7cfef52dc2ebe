/-! the loop of acts -/
def q_AJ (b d a0 was l9 tp : Nat) (B : Nat → Int) (T : q_T) (I L : q_I) (P : q_P) (sz bk : Nat) (R : Nat → Nat → Int) (k n : Nat) (ρ : Nat → Nat) (x c dn : Nat) : Prop := q_JW b d a0 was l9 tp B T I L P sz bk R k n ρ x ∧ (b + 452 ≤ d ∧ d < a0 ∧ a0 ≤ was ∧ was < sz) ∧ q_Cap (R 0) (5000 * (11 - (c : Int))) ∧ R 0 2 ≤ 30 * (c : Int) ∧ (1 ≤ n ∧ n ≤ 12) ∧ d_safe (11 - c) (12 - n) x = true ∧ bk = min 8 (4 + dn) ∧ dn ≤ c ∧ c ≤ 11 ∧ (∀ u, u < dn → u < 8 → ∃ K, P was (dn - 1 - u) = some K ∧ q_Sd a0 was l9 T I L P sz (q_Wk k n ρ) K (R (bk - u)))
theorem d_safe_u {k m x : Nat} (h4 : d_it 2 x / 65536 % 11 ≠ 4) (h : d_safe (k + 1) m x = true) : (if d_it 2 x / 65536 % 11 < 4 ∨ d_it 2 x / 65536 % 11 = 7 then d_safe k m (d_it 3 x)
    else if d_it 2 x / 65536 % 11 = 6 then d_safe k m (d_it 4 x)
    else if d_it 2 x / 65536 % 11 = 10 then d_safe k m (d_it 2 x) && d_safe k m (d_it 3 x)
    else d_safe k m (d_it 2 x)) = true := by
  have h : (if d_it 2 x / 65536 % 11 = 4 then _ else if d_it 2 x / 65536 % 11 < 4 ∨ d_it 2 x / 65536 % 11 = 7 then d_safe k m (d_it 3 x)
    else if d_it 2 x / 65536 % 11 = 6 then d_safe k m (d_it 4 x)
    else if d_it 2 x / 65536 % 11 = 10 then d_safe k m (d_it 2 x) && d_safe k m (d_it 3 x)
    else d_safe k m (d_it 2 x)) = true := h
  rw [if_neg h4] at h
  exact h
theorem d_safe_3 {k m x : Nat} (hw : d_it 2 x / 65536 % 11 < 4 ∨ d_it 2 x / 65536 % 11 = 7) (h : d_safe (k + 1) m x = true) : d_safe k m (d_it 3 x) = true := by
  have h := d_safe_u (by omega) h
  rw [if_pos hw] at h
  exact h
theorem d_safe_4 {k m x : Nat} (hw : d_it 2 x / 65536 % 11 = 6) (h : d_safe (k + 1) m x = true) : d_safe k m (d_it 4 x) = true := by
  have h := d_safe_u (by omega) h
  rw [if_neg (by omega), if_pos hw] at h
  exact h
theorem d_safe_23 {k m x : Nat} (hw : d_it 2 x / 65536 % 11 = 10) (h : d_safe (k + 1) m x = true) : d_safe k m (d_it 2 x) = true ∧ d_safe k m (d_it 3 x) = true := by
  have h := d_safe_u (by omega) h
  rw [if_neg (by omega), if_neg (by omega), if_pos hw, Bool.and_eq_true] at h
  exact h
theorem d_safe_2 {k m x : Nat} (hw : d_it 2 x / 65536 % 11 = 5 ∨ d_it 2 x / 65536 % 11 = 8 ∨ d_it 2 x / 65536 % 11 = 9) (h : d_safe (k + 1) m x = true) : d_safe k m (d_it 2 x) = true := by
  have h := d_safe_u (by omega) h
  rw [if_neg (by omega), if_neg (by omega), if_neg (by omega)] at h
  exact h
theorem d_safe_7 {k n x : Nat} (hn : n ≤ 12) (hw : d_it 2 x / 65536 % 11 = 4) (h : d_safe (k + 1) (12 - n) x = true) : n < 12 ∧ d_safe k (12 - (n + 1)) (d_it 7 x) = true := by
  by_cases e : n = 12
  · subst e; rw [show 12 - 12 = 0 from rfl, d_safe_z hw] at h; cases h
  · rw [show 12 - n = (12 - (n + 1)) + 1 by omega, d_safe_o hw] at h
    exact ⟨by omega, h⟩
section
variable {b d a0 was l9 tp sz sz' bk bk' k n n' c dn x x' ah K : Nat} {B : Nat → Int} {T T' : q_T} {I L I' L' : q_I} {P P' : q_P} {R R' : Nat → Nat → Int} {ρ ρ' : Nat → Nat} {W : Nat → Prop} {r : Nat → Int}
theorem q_Sd.wst (h : q_Sd a0 was l9 T I L P sz W K r) (j : Nat) (v : Option Nat) : q_Sd a0 was l9 T I L (u2 P was j v) sz W K r := by
  obtain ⟨E, v2, n2, w, m, ρ2, σ2, h1, h2, h3, h4⟩ := h
  exact ⟨E, v2, n2, w, m, ρ2, σ2, h1.mv (fun _ z => z) (fun _ _ => rfl) (fun _ _ _ => rfl) (fun _ _ _ => rfl) (fun q j hq => u2_a _ _ (h2 q hq).2.2.1), h2, h3, h4⟩
theorem q_JW.wst (h : q_JW b d a0 was l9 tp B T I L P sz bk R k n ρ x) (h1 : b + 452 ≤ was) (h2 : was < sz) (j : Nat) (v : Option Nat) : q_JW b d a0 was l9 tp B T I L (u2 P was j v) sz bk R k n ρ x := by
  obtain ⟨E, v2, w, m, σ, e1, e2, e3, e4, e5, e6, e7, e8, e9⟩ := h
  exact ⟨E, v2, w, m, σ, e1.mv (fun _ _ _ => rfl) (fun _ _ _ _ => rfl) (fun _ _ _ _ => rfl) (fun q j a c => u2_a _ _ (by omega)), e2.mv (fun _ z => z) (fun _ _ => rfl) (fun _ _ _ => rfl) (fun _ _ _ => rfl) (fun q j hq => u2_a _ _ (e3 q hq).2.2), e3, e4, e5, fun q j hq => ⟨(e6 q j hq).1, (e6 q j hq).2.1, (u2_a _ _ (by omega)).trans (e6 q j hq).2.2⟩, e7, e8, e9⟩
/-- an act taken is laid by -/
theorem q_PA.on1 (h : q_PA b d a0 was l9 tp B T I L P sz bk R k n ρ c T' I' L' P' sz' bk' R' n' ρ' x' 1) (hl : b + 452 ≤ d ∧ d < a0 ∧ a0 ≤ was ∧ was < sz) (hw : ¬ q_Wk k n ρ was) (hS : ∀ u, u < dn → u < 8 → ∃ K, P was (dn - 1 - u) = some K ∧ q_Sd a0 was l9 T I L P sz (q_Wk k n ρ) K (R (bk - u))) (hA : q_Sd a0 was l9 T I L P sz (q_Wk k n ρ) ah (R 0)) (hbk : bk = min 8 (4 + dn)) (hdn : dn ≤ c) (hc : c < 11) (hn : 1 ≤ n) : q_AJ b d a0 was l9 tp B T' I' L' (u2 P' was dn (some ah)) sz' bk' R' k n' ρ' x' (c + 1) (dn + 1) := by
  obtain ⟨p1, p2, p3, p4, p5, p6, p7, p8⟩ := h
  have hs := p2.1.1
  obtain ⟨hb, r', hr⟩ : bk' = g_nb bk ∧ ∃ r', R' = g_Rn R bk r' := by rcases p4 with ⟨-, a, e⟩ | ⟨a, -⟩; exact ⟨a, e⟩; omega
  have hnb : bk' = min 8 (5 + dn) := by rw [hb]; unfold g_nb; split <;> omega
  refine ⟨p1.wst (by omega) (by omega) _ _, ⟨hl.1, hl.2.1, hl.2.2.1, by omega⟩, by rw [show (11 : Int) - ((c + 1 : Nat) : Int) = 10 - (c : Int) by omega]; exact p5, by omega, ⟨by omega, p7.2⟩, by rw [show 11 - (c + 1) = 10 - c by omega]; exact p8, by omega, by omega, by omega, fun u hu hu8 => ?_⟩
  have hP : ∀ j, P' was j = P was j := fun j => p2.1.2.2.2.2 was j hl.2.2.2 (fun z => by rcases z with z | z | z; omega; omega; exact hw z)
  by_cases e : u = 0
  · subst e
    refine ⟨ah, by rw [show dn + 1 - 1 - 0 = dn by omega]; exact u2_s _ _ _ _, ?_⟩
    have e2 : R' (bk' - 0) = R 0 := by
      rw [Nat.sub_zero, hr, hb]
      unfold g_Rn
      rw [if_neg (by unfold g_nb; split <;> omega), if_pos rfl]
    rw [e2]
    exact (hA.mv p2 ⟨hl.1, hl.2.1⟩ p3).wst _ _
  · obtain ⟨K, k1, k2⟩ := hS (u - 1) (by omega) (by omega)
    refine ⟨K, ?_, ?_⟩
    · rw [u2_k _ _ (by omega), hP, show dn + 1 - 1 - u = dn - 1 - (u - 1) by omega]; exact k1
    · have e2 : R' (bk' - u) = R (bk - (u - 1)) := by
        rw [hr]
        unfold g_Rn
        rw [if_neg (by omega), if_neg (by omega)]
        split
        · rw [show 1 + (bk' - u) = bk - (u - 1) by omega]
        · rw [show bk' - u = bk - (u - 1) by omega]
      rw [e2]
      exact (k2.mv p2 ⟨hl.1, hl.2.1⟩ p3).wst _ _
/-- an act refused -/
theorem q_PA.on0 (h : q_PA b d a0 was l9 tp B T I L P sz bk R k n ρ c T' I' L' P' sz' bk' R' n' ρ' x' 0) (hl : b + 452 ≤ d ∧ d < a0 ∧ a0 ≤ was ∧ was < sz) (hw : ¬ q_Wk k n ρ was) (hS : ∀ u, u < dn → u < 8 → ∃ K, P was (dn - 1 - u) = some K ∧ q_Sd a0 was l9 T I L P sz (q_Wk k n ρ) K (R (bk - u))) (hbk : bk = min 8 (4 + dn)) (hdn : dn ≤ c) (hc : c < 11) (hn : 1 ≤ n) : q_AJ b d a0 was l9 tp B T' I' L' P' sz' bk' R' k n' ρ' x' (c + 1) dn := by
  obtain ⟨p1, p2, p3, p4, p5, p6, p7, p8⟩ := h
  have hs := p2.1.1
  obtain ⟨hb, hr⟩ : bk' = bk ∧ R' = R := by rcases p4 with ⟨a, -⟩ | ⟨-, a, e⟩; omega; exact ⟨a, e⟩
  refine ⟨p1, ⟨hl.1, hl.2.1, hl.2.2.1, by omega⟩, by rw [show (11 : Int) - ((c + 1 : Nat) : Int) = 10 - (c : Int) by omega]; exact p5, by omega, ⟨by omega, p7.2⟩, by rw [show 11 - (c + 1) = 10 - c by omega]; exact p8, by omega, by omega, by omega, fun u hu hu8 => ?_⟩
  have hP : ∀ j, P' was j = P was j := fun j => p2.1.2.2.2.2 was j hl.2.2.2 (fun z => by rcases z with z | z | z; omega; omega; exact hw z)
  obtain ⟨K, k1, k2⟩ := hS u hu hu8
  refine ⟨K, (hP _).trans k1, ?_⟩
  rw [hr, hb]
  exact k2.mv p2 ⟨hl.1, hl.2.1⟩ p3
/-- only the class has written -/
theorem q_Sd.ou (h : q_Sd a0 was l9 T I L P sz W K r) (hO : q_Ou b I L P I' L' P) (hb : b + 452 ≤ a0) (hs : sz ≤ sz') : q_Sd a0 was l9 T I' L' P sz' W K r := by
  obtain ⟨E, v2, n2, w, m, ρ2, σ2, h1, h2, h3, h4⟩ := h
  exact ⟨E, v2, n2, w, m, ρ2, σ2, h1.mv (fun _ z => z) (fun _ _ => rfl) (fun q j hq => hO.1 q j (by have := h2 q hq; omega)) (fun q j hq => hO.2.1 q j (by have := h2 q hq; omega)) (fun _ _ _ => rfl), fun q hq => by have := h2 q hq; exact ⟨this.1, by omega, this.2.2⟩, h3, h4⟩
theorem q_AJ.ou (h : q_AJ b d a0 was l9 tp B T I L P sz bk R k n ρ x c dn) (hE : q_CE T b bk tp B R I' L' P) (hO : q_Ou b I L P I' L' P) (hs : sz ≤ sz') : q_AJ b d a0 was l9 tp B T I' L' P sz' bk R k n ρ x c dn := by
  obtain ⟨⟨E, v2, w, m, σ, e1, e2, e3, e4, e5, e6, e7, e8, e9⟩, hl, h3, h4, h5, h6, h7, h8, h9, h10⟩ := h
  refine ⟨⟨E, v2, w, m, σ, hE, e2.mv (fun _ z => z) (fun _ _ => rfl) (fun q j hq => hO.1 q j (by have := e3 q hq; omega)) (fun q j hq => hO.2.1 q j (by have := e3 q hq; omega)) (fun _ _ _ => rfl), fun q hq => by have := e3 q hq; exact ⟨this.1, by omega, this.2.2⟩, (hO.1 _ _ (by omega)).trans e4, e5, fun q j hq => ⟨(hO.1 q j (by omega)).trans (e6 q j (by omega)).1, (hO.2.1 q j (by omega)).trans (e6 q j (by omega)).2.1, (e6 q j (by omega)).2.2⟩, e7, e8, e9⟩, ⟨hl.1, hl.2.1, hl.2.2.1, by omega⟩, h3, h4, h5, h6, h7, h8, h9, fun u hu h8 => ?_⟩
  obtain ⟨K, k1, k2⟩ := h10 u hu h8
  exact ⟨K, k1, k2.ou hO (by omega) hs⟩
end

set_option maxRecDepth 100000 in
theorem lL_after2 {G : q_G} {F : q_F} {h : Nat} {Q : q_Q} {kc ks sz : Nat} {T : q_T} {I L : q_I} {P : q_P} {b d a0 was l9 tp bk k n9 c dn ta ii b0 x : Nat} {B : Nat → Int} {R : Nat → Nat → Int} {ρ : Nat → Nat}  (hF : q_ok G F YL_law h) (h9 : 30 ≤ h) (hA : q_A G b) (hJ : q_AJ b d a0 was l9 tp B T I L P sz bk R k n9 ρ x (c + 1) dn) (hc : c < 11) (hl3 : l9 ≤ 3) (k0 : ∀ (sz4 : Nat) (I4 L4 : q_I), q_AJ b d a0 was l9 tp B T I4 L4 P sz4 bk R k n9 ρ x (c + 1) dn → qX G F Q kc ks 188 [(9, qI ((c + 1 : Nat) : Int)), (8, qI (dn : Int)), (7, .ref was), (6, .ref k), (5, .ref d), (4, .ref ta), (3, .ref b), (2, qI (ii : Int)), (1, qI 1), (0, .ref b0)] [] sz4 T I4 L4 P) : qX G F Q (kc + 321) (ks + 1926) 934 [(9, qI (c : Int)), (8, qI (dn : Int)), (7, .ref was), (6, .ref k), (5, .ref d), (4, .ref ta), (3, .ref b), (2, qI (ii : Int)), (1, qI 1), (0, .ref b0)] [] sz T I L P := by
  have hJ0 := hJ
  obtain ⟨⟨E, v, w, m, σ, hE, hW, hEr, hx, hTd, hZ, hTw, hl9, hnm⟩, hlay, hcap, hmo, hn, hsafe, hbk, hdn, hc1, hSv⟩ := hJ0
  refine q_iload_n hF 8 rfl rfl dL_law_934 ?_
  refine q_ifeq hF (by decide) dL_law_935 (fun c935 => ?_) (fun c935 => ?_)
  · exact absurd c935 (by decide)
  · refine q_aload_n hF 6 rfl rfl dL_law_938 ?_
    refine q_aload hF 3 rfl dL_law_939 ?_
    refine q_callS (kc := kc + 1) (ks := ks + 6) (mc' := 320) (ms' := 1920) (h' := 10) (st := []) hF sl_RL_338 rfl [.ref b, .ref k] rfl rfl (by omega) (Nat.le_of_ble_eq_true rfl) dL_law_941 ?_
    refine mL_isAs hA hW (fun q hq => ⟨by have := hEr q hq; omega, (hEr q hq).2.1⟩) (hE.ro 0 (Nat.zero_le _)) hE hl9 hl3 hnm (fun sz4 I4 L4 c941_0 c941_1 c941_2 => ?_)
    refine q_ifeq hF (by decide) dL_law_944 (fun c944 => ?_) (fun c944 => ?_)
    · exact absurd c944 (by decide)
    · refine q_aload_n hF 6 rfl rfl dL_law_947 ?_
      refine q_bipush hF (n := 9) rfl dL_law_948 ?_
      refine q_callSH (kc := kc) (ks := ks) (mc' := 1) (ms' := 6) (h' := 4) (st := []) hF sl_RL_241 rfl [.ref b, qI 9] rfl rfl (by omega) (Nat.le_of_ble_eq_true rfl) dL_law_950 ?_
      refine a_told (v := (bk : Int)) hA c941_1 (by decide) rfl ?_
      refine q_bipush hF (n := 8) rfl dL_law_953 ?_
      refine q_iconst hF dL_law_955 ?_
      refine q_iload hF 1 rfl dL_law_956 ?_
      refine q_iadd hF dL_law_958 ?_
      refine q_mini hF (q_mem 1441 (by decide +kernel) rfl) (q_mem 778 (by decide +kernel) rfl) (q_mem 55 (by decide +kernel) rfl) (q_mem 779 (by decide +kernel) rfl) (by decide) (by omega) (Nat.le_of_ble_eq_true rfl) dL_law_959 ?_
      rw [show min 8 (4 + (dn : Int)) = (bk : Int) from by omega]
      refine q_icmpne_s hF (a := (bk : Int)) dL_law_962 ?_
      refine q_iconst hF dL_law_965 ?_
      refine q_goto hF dL_law_966 ?_
      refine q_istore_n hF (ls' := [(1, qI 1), (9, qI (c : Int)), (8, qI (dn : Int)), (7, .ref was), (6, .ref k), (5, .ref d), (4, .ref ta), (3, .ref b), (2, qI (ii : Int)), (0, .ref b0)]) rfl (by decide) rfl dL_law_970 ?_
      refine q_iinc hF (z' := ((1 + c : Nat) : Int)) (ls' := [(9, qI ((1 + c : Nat) : Int)), (1, qI 1), (8, qI (dn : Int)), (7, .ref was), (6, .ref k), (5, .ref d), (4, .ref ta), (3, .ref b), (2, qI (ii : Int)), (0, .ref b0)]) 1 rfl (by first | rfl | omega) (by decide) rfl dL_law_971 ?_
      refine q_goto hF dL_law_974 ?_
      refine q_sub [0, 2, 3, 4, 5, 6, 7, 8, 1, 9] rfl ?_
      rw [Nat.add_comm 1 c]
      exact k0 sz4 I4 L4 (hJ.ou c941_1 c941_2 c941_0)

set_option maxRecDepth 100000 in
theorem lL_after {G : q_G} {F : q_F} {h : Nat} {Q : q_Q} {kc ks sz : Nat} {T : q_T} {I L : q_I} {P : q_P} {b d a0 was l9 tp bk k n9 c ah dn ta ii b0 bk3 n3 x3 sz3 : Nat} {is : Int} {B : Nat → Int} {R R3 : Nat → Nat → Int} {ρ ρ3 : Nat → Nat} {T3 : q_T} {I3 L3 : q_I} {P3 : q_P}  (hF : q_ok G F YL_law h) (h9 : 30 ≤ h) (hA : q_A G b) (hPA : q_PA b d a0 was l9 tp B T I L P sz bk R k n9 ρ c T3 I3 L3 P3 sz3 bk3 R3 n3 ρ3 x3 is) (hlay : b + 452 ≤ d ∧ d < a0 ∧ a0 ≤ was ∧ was < sz) (hw : ¬ q_Wk k n9 ρ was) (hS : ∀ u, u < dn → u < 8 → ∃ K, P was (dn - 1 - u) = some K ∧ q_Sd a0 was l9 T I L P sz (q_Wk k n9 ρ) K (R (bk - u))) (hAh : q_Sd a0 was l9 T I L P sz (q_Wk k n9 ρ) ah (R 0)) (hbk : bk = min 8 (4 + dn)) (hdn : dn ≤ c) (hc : c < 11) (hn : 1 ≤ n9) (hl3 : l9 ≤ 3) (k0 : ∀ (dn2 sz4 : Nat) (I4 L4 : q_I) (P4 : q_P), q_AJ b d a0 was l9 tp B T3 I4 L4 P4 sz4 bk3 R3 k n3 ρ3 x3 (c + 1) dn2 → qX G F Q kc ks 188 [(9, qI ((c + 1 : Nat) : Int)), (8, qI (dn2 : Int)), (7, .ref was), (6, .ref k), (5, .ref d), (4, .ref ta), (3, .ref b), (2, qI (ii : Int)), (1, qI 1), (0, .ref b0)] [] sz4 T3 I4 L4 P4) : qX G F Q (kc + 321) (ks + 1926) 919 [(13, qI is), (10, .ref ah), (9, qI (c : Int)), (8, qI (dn : Int)), (7, .ref was), (6, .ref k), (5, .ref d), (4, .ref ta), (3, .ref b), (2, qI (ii : Int)), (1, qI 1), (0, .ref b0)] [] sz3 T3 I3 L3 P3 := by
  have his : is = 1 ∨ is = 0 := by rcases hPA.2.2.2.1 with ⟨h, _⟩ | ⟨h, _⟩ <;> omega
  refine q_iload hF 0 rfl dL_law_919 ?_
  refine q_ifeq hF (by omega) dL_law_921 (fun c921 => ?_) (fun c921 => ?_)
  · obtain rfl : is = 0 := by omega
    have hAJ := hPA.on0 hlay hw hS hbk hdn hc hn
    refine q_sub [2, 3, 4, 5, 6, 7, 8, 9, 10, 11] rfl ?_
    exact lL_after2 (dn := dn) hF h9 hA hAJ hc hl3 (fun sz4 I4 L4 hJ4 => k0 _ sz4 I4 L4 _ hJ4)
  · obtain rfl : is = 1 := by rcases hPA.2.2.2.1 with ⟨h, _⟩ | ⟨h, _⟩ <;> omega
    have hAJ := hPA.on1 hlay hw hS hAh hbk hdn hc hn
    have hTw : T3 was = some (.inr (9, 16)) := by obtain ⟨⟨E, v2, w, m, σ, e1, e2, e3, e4, e5, e6, e7, e8, e9⟩, _⟩ := hPA; exact e7
    have hTah : T3 ah = some (.inl 9) := by
      obtain ⟨E, v2, n2, w, m, ρ2, σ2, h1, h2, h3, h4⟩ := hAh.mv hPA.2.1 ⟨hlay.1, hlay.2.1⟩ hPA.2.2.1
      exact h1.ot.t0
    refine q_aload hF 4 rfl dL_law_924 ?_
    refine q_iload hF 3 rfl dL_law_926 ?_
    refine q_aload hF 1 rfl dL_law_928 ?_
    refine q_aastorev hF (n := 16) (ci := 9) dn hTw hTah rfl rfl (q_Ale hA (by omega)) rfl (by omega) (by decide) dL_law_930 ?_
    refine q_iinc hF (z' := ((1 + dn : Nat) : Int)) (ls' := [(8, qI ((1 + dn : Nat) : Int)), (13, qI 1), (10, .ref ah), (9, qI (c : Int)), (7, .ref was), (6, .ref k), (5, .ref d), (4, .ref ta), (3, .ref b), (2, qI (ii : Int)), (1, qI 1), (0, .ref b0)]) 3 rfl (by first | rfl | omega) (by decide) rfl dL_law_931 ?_
    refine q_sub [3, 0, 4, 5, 6, 7, 8, 9, 10, 11] rfl ?_
    rw [Nat.add_comm 1 dn]
    exact lL_after2 (dn := (dn + 1)) hF h9 hA hAJ hc hl3 (fun sz4 I4 L4 hJ4 => k0 _ sz4 I4 L4 _ hJ4)
