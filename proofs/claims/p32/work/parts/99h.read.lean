/-! the class: a text read -/
theorem q_SD.mv {T : q_T} {P P' : q_P} {a : Nat} (h : q_SD T P a) (hP : ∀ k, 2 ≤ k → k ≤ 5 → P' a k = P a k) : q_SD T P' a := by
  obtain ⟨a1, a2, a3, a4, a5, a6, a7, a8, a9⟩ := h
  exact ⟨a1, (hP 2 (by decide) (by decide)).trans a2, a3, (hP 3 (by decide) (by decide)).trans a4, a5, (hP 4 (by decide) (by decide)).trans a6, a7, (hP 5 (by decide) (by decide)).trans a8, a9⟩
theorem q_clr_n {I : q_I} {u q k : Nat} (h : ¬ (u ≤ q ∧ q < u + 18)) : q_clr I u q k = I q k := by
  unfold q_clr
  rw [q_fl_a _ _ (by omega), q_fl_a _ _ (by omega), q_fl_a _ _ (by omega), u2_a _ _ (by omega), u2_a _ _ (by omega), u2_a _ _ (by omega), u2_a _ _ (by omega), u2_a _ _ (by omega), u2_a _ _ (by omega)]
theorem q_clr_u {I : q_I} {u : Nat} : q_clr I u u 1 = 0 ∧ q_clr I u u 3 = -1 ∧ q_clr I u u 4 = -1 ∧ q_clr I u u 5 = -1 ∧ q_clr I u u 7 = 0 ∧ q_clr I u u 11 = 0 ∧ (∀ k, k < 5 → q_clr I u (u + 2) k = -1) ∧ ∀ k, k < 25 → q_clr I u (u + 4) k = -1 := by
  refine ⟨?_, ?_, ?_, ?_, ?_, ?_, fun k hk => ?_, fun k hk => ?_⟩
  · unfold q_clr; rw [q_fl_a _ _ (by omega), q_fl_a _ _ (by omega), q_fl_a _ _ (by omega), u2_k _ _ (by decide), u2_k _ _ (by decide), u2_k _ _ (by decide), u2_k _ _ (by decide), u2_k _ _ (by decide), u2_s]
  · unfold q_clr; rw [q_fl_a _ _ (by omega), q_fl_a _ _ (by omega), q_fl_a _ _ (by omega), u2_k _ _ (by decide), u2_k _ _ (by decide), u2_k _ _ (by decide), u2_k _ _ (by decide), u2_s]
  · unfold q_clr; rw [q_fl_a _ _ (by omega), q_fl_a _ _ (by omega), q_fl_a _ _ (by omega), u2_k _ _ (by decide), u2_k _ _ (by decide), u2_k _ _ (by decide), u2_s]
  · unfold q_clr; rw [q_fl_a _ _ (by omega), q_fl_a _ _ (by omega), q_fl_a _ _ (by omega), u2_k _ _ (by decide), u2_k _ _ (by decide), u2_s]
  · unfold q_clr; rw [q_fl_a _ _ (by omega), q_fl_a _ _ (by omega), q_fl_a _ _ (by omega), u2_k _ _ (by decide), u2_s]
  · unfold q_clr; rw [q_fl_a _ _ (by omega), q_fl_a _ _ (by omega), q_fl_a _ _ (by omega), u2_s]
  · unfold q_clr; rw [q_fl_a _ _ (by omega), q_fl_a _ _ (by omega), q_fl_t _ _ hk]
  · unfold q_clr; rw [q_fl_a _ _ (by omega), q_fl_t _ _ hk]
/-- what reading leaves alone -/
def q_RF (a u : Nat) (I M : q_I) (P P9 : q_P) : Prop := (∀ q k, q ≠ a → q ≠ a + 20 → q ≠ a + 21 → q ≠ a + 22 → ¬ (u ≤ q ∧ q < u + 18) → M q k = I q k) ∧ ∀ q k, q ≠ a + 23 → P9 q k = P q k
theorem q_tld_n {M : q_I} {u q k : Nat} (h : ¬ (u ≤ q ∧ q < u + 18)) : q_tld M u q k = M q k := by
  by_cases e : q < u
  · exact q_tld_lo M e
  · exact q_tld_hi (by omega)
set_option maxRecDepth 100000 in
theorem mX3_read {G : q_G} {sz : Nat} {T : q_T} {I L : q_I} {P : q_P} {Q : q_Q} {a u by_ N : Nat} {B : Nat → Int} (o : Int) (hD : q_SD T P a) (hA : q_A G a) (hT : T by_ = some (.inr (0, 600))) (hsep : by_ = a + 1) (hby : ∀ k, k < 600 → I by_ k = B k) (hBr : ∀ k, 0 ≤ B k ∧ B k ≤ 255) (hn6 : N ≤ 600) (hU : q_SR T P u) (hUA : q_A G u) (hau : u = a + 2) (hP0 : P a 0 = some by_) (hPu : P a 1 = some u) (k0 : ∀ s' t' M P9, g_text B N o = .ok s' t' → q_RF a u I M P P9 → q_RR M u (g_zap t') ∧ g_V0 (g_zap t') ∧ g_fresh (g_zap t') ∧ g_Zr (g_zap t') → Q (.inl (some (qI 0))) sz T M L P9) (k1 : ∀ w x M P9, g_text B N o = .er w x → (1 ≤ w ∧ w ≤ 7) → q_RF a u I M P P9 → M a 9 = (x : Int) → Q (.inl (some (qI w))) sz T M L P9) : qC G 18 0 0 YX3_read [.ref a, qI (N : Int)] sz T I L P Q := by
  refine qC_of (by decide +kernel) rfl rfl (Nat.le_of_ble_eq_true rfl) (fun F hF _ _ => ?_)
  refine q_aload_n hF 0 rfl rfl dX3_read_0 ?_
  refine q_iconst hF dX3_read_1 ?_
  refine q_putI hF fl_RX3_37 hD.t0 hA dX3_read_2 ?_
  refine q_aload_n hF 0 rfl rfl dX3_read_5 ?_
  refine q_iconst hF dX3_read_6 ?_
  refine q_putI hF fl_RX3_41 hD.t0 hA dX3_read_7 ?_
  refine q_aload_n hF 0 rfl rfl dX3_read_10 ?_
  refine q_getA hF fl_RX3_18 rfl hD.t0 hPu dX3_read_11 ?_
  refine q_callV (kc := 0) (ks := 0) (mc' := 0) (ms' := 0) (h' := 0) (st := []) hF vl_RX3_44 rfl [] rfl rfl hU.t0 (by decide) (Nat.le_of_ble_eq_true rfl) dX3_read_14 ?_
  refine mX4_clear hU hUA ?_
  refine q_aload_n hF 0 rfl rfl dX3_read_17 ?_
  refine q_iconst hF dX3_read_18 ?_
  refine q_iload_n hF 1 rfl rfl dX3_read_19 ?_
  refine q_sipush hF (n := 600) rfl dX3_read_20 ?_
  refine q_mini hF (q_mem 1170 (by decide +kernel) rfl) (q_mem 778 (by decide +kernel) rfl) (q_mem 55 (by decide +kernel) rfl) (q_mem 779 (by decide +kernel) rfl) (by omega) (by decide) (Nat.le_of_ble_eq_true rfl) dX3_read_23 ?_
  refine q_maxi hF (q_mem 1171 (by decide +kernel) rfl) (q_mem 1172 (by decide +kernel) rfl) (q_mem 55 (by decide +kernel) rfl) (q_mem 1173 (by decide +kernel) rfl) (by decide) (by omega) (Nat.le_of_ble_eq_true rfl) dX3_read_26 ?_
  rw [show max 0 (min (N : Int) 600) = (N : Int) from by omega]
  obtain ⟨M0, hM0⟩ : ∃ M0 : q_I, M0 = q_clr (u2 (u2 I a 6 0) a 8 0) u := ⟨_, rfl⟩
  rw [← hM0]
  have hM0f : ∀ q k, q ≠ a → ¬ (u ≤ q ∧ q < u + 18) → M0 q k = I q k := fun q k h1 h2 => by rw [hM0, q_clr_n h2, u2_a _ _ h1, u2_a _ _ h1]
  have hM05 : M0 a 6 = ((0 : Nat) : Int) := by rw [hM0, q_clr_n (by omega), u2_k _ _ (by decide), u2_s]; rfl
  have hM08 : M0 a 8 = 0 := by rw [hM0, q_clr_n (by omega), u2_s]
  have hMu : M0 u 1 = 0 ∧ M0 u 3 = -1 ∧ M0 u 4 = -1 ∧ M0 u 5 = -1 ∧ M0 u 7 = 0 ∧ M0 u 11 = 0 ∧ (∀ k, k < 5 → M0 (u + 2) k = -1) ∧ ∀ k, k < 25 → M0 (u + 4) k = -1 := by rw [hM0]; exact q_clr_u
  have hby0 : ∀ k, k < 600 → M0 by_ k = B k := fun k hk => (hM0f _ _ (by omega) (by omega)).trans (hby k hk)
  refine q_callV (kc := 0) (ks := 0) (mc' := 0) (ms' := 0) (h' := 6) (st := []) hF vl_RX3_56 rfl [qI (N : Int)] rfl rfl hD.t0 (by decide) (Nat.le_of_ble_eq_true rfl) dX3_read_29 ?_
  refine mX3_scan (N := N) hD hA hP0 hT hsep hby0 hBr hn6 (fun c S E M9 P9 hMf hPf hso hsc hse hTK => ?_)
  refine q_iconst hF dX3_read_32 ?_
  refine q_istore_n hF (ls' := [(2, qI 1), (0, .ref a), (1, qI (N : Int))]) rfl (by decide) rfl dX3_read_33 ?_
  refine q_iconst hF dX3_read_34 ?_
  refine q_istore_n hF (ls' := [(3, qI 0), (2, qI 1), (0, .ref a), (1, qI (N : Int))]) rfl (by decide) rfl dX3_read_35 ?_
  refine q_sub [0, 1, 2, 3] rfl ?_
  have hlt : a < u := by omega
  have hci := hTK.1
  have hX : q_XE G T M9 P9 a u by_ c N B S E := by
    refine ⟨hD.mv (fun k h1 h2 => hPf _ _ (by omega)), hA, ⟨fun j hj => ?_, fun j hj => (hse j hj).1, fun j hj => (hse j hj).2.1, fun j hj => (hse j hj).2.2, hTK, hBr, hn6⟩, (hPf _ _ (by omega)).trans hP0, hT, hsep, fun k hk => (hMf _ _ (by omega) (by omega) (by omega)).trans (hby0 k hk), (hPf _ _ (by omega)).trans hPu, hU.mv (fun q k h1 h2 => hPf _ _ (by omega)), hUA, hau⟩
    unfold g_so
    by_cases e : j = c
    · subst e; rw [if_pos hTK.2.2.1, hsc]
    · have := hTK.2.2.2.2 j (by omega)
      rw [if_neg (by omega), hso j (by omega)]
  have hM9a : ∀ k, M9 a k = M0 a k := fun k => hMf _ _ (by omega) (by omega) (by omega)
  have hM9u : ∀ q k, u ≤ q → q < u + 18 → M9 q k = M0 q k := fun q k h h2 => hMf _ _ (by omega) (by omega) (by omega)
  have hLL0 : q_LL M9 (M9 (u + 6)) u g_begin 0 (g_mk 0 0 (-1) 0 o 0 0) := by
    obtain ⟨m1, m3, m4, m5, m7, m11, mp, ml⟩ := hMu
    exact q_LL_0 ((hM9u _ _ (by omega) (by omega)).trans m1) ((hM9u _ _ (by omega) (by omega)).trans m3) ((hM9u _ _ (by omega) (by omega)).trans m4) ((hM9u _ _ (by omega) (by omega)).trans m5) ((hM9u _ _ (by omega) (by omega)).trans m7) (fun k hk => (hM9u _ _ (by omega) (by omega)).trans (mp k hk)) (fun k hk => (hM9u _ _ (by omega) (by omega)).trans (ml k hk))
  have hPF : ∀ q k, q ≠ a + 23 → P9 q k = P q k := hPf
  have hIF : ∀ (I' : q_I) (j' kk' : Nat) (nu' fl' pl' : Int) (C' : Nat → Int), q_FR u I' M9 → ∀ q k, q ≠ a → q ≠ a + 20 → q ≠ a + 21 → q ≠ a + 22 → ¬ (u ≤ q ∧ q < u + 18) → q_tld (q_xs I' a u j' nu' fl' pl' kk' C') u q k = I q k := fun I' j' kk' nu' fl' pl' C' hf q k h0 h1 h2 h3 h4 => by
    rw [q_tld_n h4, q_xs_n (by omega), hf q k h4, hMf _ _ h1 h2 h3, hM0f _ _ h0 h4]
  rw [q_xs_self (kk := 0) (j := 0) (fl := 0) hlt ((hM9a 6).trans hM05) ((hM9a 8).trans hM08) ((hM9u _ _ (by omega) (by omega)).trans hMu.2.2.2.2.2.1)]
  refine lX3_read (I0 := M9) (pl := M9 a 9) (r := g_text B N o) hF (by decide) (fun s' t' I' j' nu' kk' C' e hf hl h6 h9 h0 => k0 s' t' _ P9 e ⟨hIF _ _ _ _ _ _ _ hf, hPF⟩ (hl.rr hlt h6 h9 h0)) (fun w x I' j' nu' kk' C' e hw hf => k1 w x _ P9 e hw ⟨hIF _ _ _ _ _ _ _ hf, hPF⟩ ((q_tld_lo _ hlt).trans q_xs_9)) (N + 1) 0 0 0 (g_mk 0 0 (-1) 0 o 0 0) g_begin M9 (M9 a 7) (M9 (u + 6)) (by show N - 0 < N + 1; omega) (Nat.le_refl _) (Nat.zero_le _) (Nat.le_refl _) (Nat.zero_le _) hTK.2.1 rfl rfl (by show 2 * 0 ≤ 3 * 0; decide) g_begin_TR hX hLL0 (q_FR.r _ _) (g_text_fin B N o).symm
