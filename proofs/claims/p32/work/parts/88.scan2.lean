/-! the class: a text laid out as tokens, their words -/
theorem g_woF_lt {B : Nat → Int} {f t x : Nat} : ∀ w i, i + w ≤ 23 → g_woF B f t w i = some x → x < 23
  | 0, _, _, h => by cases h
  | w + 1, i, hi, h => by
    unfold g_woF at h
    split at h
    · cases h; omega
    · exact g_woF_lt w (i + 1) (by omega) h
theorem g_wo_lt {B : Nat → Int} {f t x : Nat} (h : g_wo B f t = some x) : x < 23 := g_woF_lt 23 0 (by decide) h
set_option maxRecDepth 100000 in
theorem lX3_words {G : q_G} {F : q_F} {h : Nat} {Q : q_Q} {kc ks sz : Nat} {T : q_T} {a by_ N c : Nat} {B : Nat → Int} {S E : Nat → Nat} {I L : q_I} {P : q_P} (h6 : 6 ≤ h) (hF : q_ok G F YX3_scan h) (hD : q_SD T P a) (hA : q_A G a) (hP0 : P a 0 = some by_) (hT : T by_ = some (.inr (0, 600))) (hsep : by_ = a + 1) (hby : ∀ k, k < 600 → I by_ k = B k) (hBr : ∀ k, 0 ≤ B k ∧ B k ≤ 255) (hc : c ≤ 600) (hse : ∀ j, j ≤ c → I (a + 21) j = (S j : Int) ∧ I (a + 22) j = (E j : Int) ∧ S j ≤ E j ∧ E j ≤ 600) (kx : ∀ P9 : q_P, (∀ q k, q ≠ a + 23 → P9 q k = P q k) → (∀ j, j ≤ c → P9 (a + 23) j = (g_wo B (S j) (E j)).map (q_E G)) → Q (.inl none) sz T I L P9) : ∀ (n : Nat) (i : Nat) (P9 : q_P), c + 1 - i < n → i ≤ c + 1 → (∀ q k, q ≠ a + 23 → P9 q k = P q k) → (∀ j, j < i → P9 (a + 23) j = (g_wo B (S j) (E j)).map (q_E G)) → qX G F Q kc ks 156 [(3, qI (i : Int)), (2, qI (c : Int)), (0, .ref a), (1, qI (N : Int))] [] sz T I L P9 := by
  intro n
  induction n with
  | zero => intro i P9 hn; exact absurd hn (Nat.not_lt_zero _)
  | succ n ih =>
    intro i P9 hn hi hfp hwd
    refine q_iload_n hF 0 rfl rfl dX3_scan_156 ?_
    refine q_iload_n hF 1 rfl rfl dX3_scan_157 ?_
    refine q_icmpgt hF (by omega) (by omega) dX3_scan_158 (fun c158 => ?_) (fun c158 => ?_)
    · refine q_return hF rfl dX3_scan_192 ?_
      exact kx P9 hfp (fun j hj => hwd j (by omega))
    · refine q_aload_n hF 2 rfl rfl dX3_scan_161 ?_
      refine q_getA hF fl_RX3_33 rfl hD.t0 ((hfp _ _ (by omega)).trans hD.p4) dX3_scan_162 ?_
      refine q_iload_n hF 0 rfl rfl dX3_scan_165 ?_
      refine q_aload_n hF 2 rfl rfl dX3_scan_166 ?_
      refine q_getA hF fl_RX3_9 rfl hD.t0 ((hfp _ _ (by omega)).trans hP0) dX3_scan_167 ?_
      refine q_aload_n hF 2 rfl rfl dX3_scan_170 ?_
      refine q_getA hF fl_RX3_25 rfl hD.t0 ((hfp _ _ (by omega)).trans hD.p2) dX3_scan_171 ?_
      refine q_iload_n hF 0 rfl rfl dX3_scan_174 ?_
      refine q_ialoadv hF (z := (S i : Int)) (n := 601) i hD.t2 rfl (by omega) (by decide) (hse i (by omega)).1 dX3_scan_175 ?_
      refine q_aload_n hF 2 rfl rfl dX3_scan_176 ?_
      refine q_getA hF fl_RX3_28 rfl hD.t0 ((hfp _ _ (by omega)).trans hD.p3) dX3_scan_177 ?_
      refine q_iload_n hF 0 rfl rfl dX3_scan_180 ?_
      refine q_ialoadv hF (z := (E i : Int)) (n := 601) i hD.t3 rfl (by omega) (by decide) (hse i (by omega)).2.1 dX3_scan_181 ?_
      refine q_callS (kc := kc) (ks := ks) (mc' := 0) (ms' := 0) (h' := 5) (st := [qI (i : Int), .ref (a + 23)]) hF sl_RX3_81 rfl [.ref by_, qI (S i : Int), qI (E i : Int)] rfl rfl (by omega) (Nat.le_of_ble_eq_true rfl) dX3_scan_182 ?_
      refine mX5_of (f := (S i)) (t := (E i)) hT hby hBr (hse i (by omega)).2.2.2 (hse i (by omega)).2.2.1 ?_
      refine q_aastoreW hF (n := 601) i hD.t4 (fun x hx => g_wo_lt hx) (q_Ale hA (by omega)) rfl (by omega) (by decide) dX3_scan_185 ?_
      refine q_iinc hF (z' := ((1 + i : Nat) : Int)) (ls' := [(3, qI ((1 + i : Nat) : Int)), (2, qI (c : Int)), (0, .ref a), (1, qI (N : Int))]) 0 rfl (by first | rfl | omega) (by decide) rfl dX3_scan_186 ?_
      refine q_goto hF dX3_scan_189 ?_
      refine ih (1 + i) (u2 P9 (a + 23) i ((g_wo B (S i) (E i)).map (q_E G))) (by omega) (by omega) (fun q k h => (u2_a _ _ h).trans (hfp q k h)) (fun j hj => ?_)
      by_cases e : j = i
      · subst e; rw [u2_s]
      · rw [u2_k _ _ e]; exact hwd j (by omega)
set_option maxRecDepth 100000 in
theorem mX3_scan {G : q_G} {sz : Nat} {T : q_T} {I L : q_I} {P : q_P} {Q : q_Q} {a by_ N : Nat} {B : Nat → Int} (hD : q_SD T P a) (hA : q_A G a) (hP0 : P a 0 = some by_) (hT : T by_ = some (.inr (0, 600))) (hsep : by_ = a + 1) (hby : ∀ k, k < 600 → I by_ k = B k) (hBr : ∀ k, 0 ≤ B k ∧ B k ≤ 255) (hn6 : N ≤ 600) (k0 : ∀ (c : Nat) (S E : Nat → Nat) (M : q_I) (P9 : q_P), (∀ q k, q ≠ a + 20 → q ≠ a + 21 → q ≠ a + 22 → M q k = I q k) → (∀ q k, q ≠ a + 23 → P9 q k = P q k) → (∀ j, j < c → M (a + 20) j = g_srt (g_bt B N (S j))) → M (a + 20) c = 258 → (∀ j, j ≤ c → M (a + 21) j = (S j : Int) ∧ M (a + 22) j = (E j : Int) ∧ P9 (a + 23) j = (g_wo B (S j) (E j)).map (q_E G)) → g_TK B N c S E → Q (.inl none) sz T M L P9) : qC G 6 0 0 YX3_scan [.ref a, qI (N : Int)] sz T I L P Q := by
  refine qC_of (by decide +kernel) rfl rfl (Nat.le_of_ble_eq_true rfl) (fun F hF _ _ => ?_)
  refine q_iconst hF dX3_scan_0 ?_
  refine q_istore_n hF (ls' := [(2, qI 0), (0, .ref a), (1, qI (N : Int))]) rfl (by decide) rfl dX3_scan_1 ?_
  refine q_iconst hF dX3_scan_2 ?_
  refine q_istore_n hF (ls' := [(3, qI 0), (2, qI 0), (0, .ref a), (1, qI (N : Int))]) rfl (by decide) rfl dX3_scan_3 ?_
  refine q_sub [0, 1, 2, 3] rfl ?_
  refine lX3_scan (by decide) hF hD hA hP0 hT hsep hby hBr hn6 (fun c S E M9 hfr htok hTI => ?_) (N + 1) 0 0 (fun _ => 0) (fun _ => 0) I (by omega) (by omega) (fun _ _ _ _ _ => rfl) (fun j hj => absurd hj (Nat.not_lt_zero _)) (g_TI_0 B N _ _)
  have hci := hTI.1
  refine q_aload_n hF 1 rfl rfl dX3_scan_131 ?_
  refine q_getA hF fl_RX3_22 rfl hD.t0 hD.p1 dX3_scan_132 ?_
  refine q_iload_n hF 0 rfl rfl dX3_scan_135 ?_
  refine q_sipush hF (n := 258) rfl dX3_scan_136 ?_
  refine q_iastorev hF (n := 601) c hD.t1 (q_Ale hA (by omega)) rfl (by omega) (by decide) dX3_scan_139 ?_
  refine q_aload_n hF 1 rfl rfl dX3_scan_140 ?_
  refine q_getA hF fl_RX3_25 rfl hD.t0 hD.p2 dX3_scan_141 ?_
  refine q_iload_n hF 0 rfl rfl dX3_scan_144 ?_
  refine q_iload_n hF 2 rfl rfl dX3_scan_145 ?_
  refine q_iastorev hF (n := 601) c hD.t2 (q_Ale hA (by omega)) rfl (by omega) (by decide) dX3_scan_146 ?_
  refine q_aload_n hF 1 rfl rfl dX3_scan_147 ?_
  refine q_getA hF fl_RX3_28 rfl hD.t0 hD.p3 dX3_scan_148 ?_
  refine q_iload_n hF 0 rfl rfl dX3_scan_151 ?_
  refine q_iload_n hF 2 rfl rfl dX3_scan_152 ?_
  refine q_iastorev hF (n := 601) c hD.t3 (q_Ale hA (by omega)) rfl (by omega) (by decide) dX3_scan_153 ?_
  refine q_iconst hF dX3_scan_154 ?_
  refine q_istore_n hF (ls' := [(3, qI 0), (2, qI (c : Int)), (0, .ref a), (1, qI (N : Int))]) rfl (by decide) rfl dX3_scan_155 ?_
  refine q_sub [0, 1, 2, 3] rfl ?_
  obtain ⟨M, hM⟩ : ∃ M : q_I, M = u2 (u2 (u2 M9 (a + 20) c 258) (a + 21) c (N : Int)) (a + 22) c (N : Int) := ⟨_, rfl⟩
  rw [← hM]
  have hTK := g_TI_end hTI
  have hci := hTI.1
  have hMf : ∀ q k, q ≠ a + 20 → q ≠ a + 21 → q ≠ a + 22 → M q k = I q k := fun q k h1 h2 h3 => by rw [hM, u2_a _ _ h3, u2_a _ _ h2, u2_a _ _ h1]; exact hfr q k h1 h2 h3
  have hM2 : ∀ j, j ≤ c → M (a + 21) j = ((if j = c then N else S j : Nat) : Int) ∧ M (a + 22) j = ((if j = c then N else E j : Nat) : Int) := fun j hj => by
    by_cases e : j = c
    · subst e; rw [if_pos rfl, if_pos rfl, hM]; exact ⟨by rw [u2_a _ _ (by omega), u2_s], by rw [u2_s]⟩
    · have q := htok j (by omega)
      rw [if_neg e, if_neg e, hM]
      exact ⟨by rw [u2_a _ _ (by omega), u2_k _ _ e, u2_a _ _ (by omega)]; exact q.2.1, by rw [u2_k _ _ e, u2_a _ _ (by omega), u2_a _ _ (by omega)]; exact q.2.2⟩
  refine lX3_words (S := fun j => if j = c then N else S j) (E := fun j => if j = c then N else E j) (by decide) hF hD hA hP0 hT hsep (fun k hk => (hMf _ _ (by omega) (by omega) (by omega)).trans (hby k hk)) hBr (by omega) (fun j hj => ⟨(hM2 j hj).1, (hM2 j hj).2, ?_⟩) (fun P9 hfp hwd => ?_) (c + 2) 0 P (by omega) (by omega) (fun _ _ _ => rfl) (fun j hj => absurd hj (Nat.not_lt_zero _))
  · by_cases e : j = c
    · (try dsimp only); rw [if_pos e, if_pos e]; omega
    · have q := hTI.2.1 j (by omega); (try dsimp only); rw [if_neg e, if_neg e]; omega
  · refine k0 c _ _ M P9 hMf hfp (fun j hj => ?_) (by rw [hM, u2_a _ _ (by omega), u2_a _ _ (by omega), u2_s]) (fun j hj => ⟨(hM2 j hj).1, (hM2 j hj).2, hwd j hj⟩) hTK
    try dsimp only
    rw [if_neg (show j ≠ c by omega), hM, u2_a _ _ (by omega), u2_a _ _ (by omega), u2_k _ _ (show j ≠ c by omega)]
    exact (htok j hj).1
