/-! the class: text -/
theorem q_ST.mv2 {T : q_T} {P P' : q_P} {b : Nat} (h : q_ST T P b) (hP : ∀ q k, q ≠ b + 24 → P' q k = P q k) : q_ST T P' b :=
  ⟨h.t0, (hP _ _ (by omega)).trans h.p0, h.t1, (hP _ _ (by omega)).trans h.p1, h.t2, (hP _ _ (by omega)).trans h.r1, h.t3, (hP _ _ (by omega)).trans h.r2, h.t4, (hP _ _ (by omega)).trans h.r3, h.t5, (hP _ _ (by omega)).trans h.r4, h.t6, (hP _ _ (by omega)).trans h.p2, h.dr.mv (fun q k h1 h2 => hP q k (by omega)), (hP _ _ (by omega)).trans h.p3, h.t25, (hP _ _ (by omega)).trans h.f0, h.t26, (hP _ _ (by omega)).trans h.f1, h.t27, (hP _ _ (by omega)).trans h.p4, h.t75,
   fun n hn => (h.wo n hn).mv (fun q k h1 h2 => hP q k (by have := g_wd_r (b := b) hn; omega))⟩
/-- what a text that is read leaves -/
def q_TF (T : q_T) (b : Nat) (V : Nat → Nat) (bk : Nat) (I L : q_I) (P : q_P) (r r' : Nat → Int) (M N : q_I) (P9 : q_P) (V9 : Nat → Nat) : Prop :=
  q_ST T P9 b ∧ q_PV P9 b V9 ∧ q_OV b V9 ∧ V9 0 = V 0 ∧ (∀ j : Nat, j + 1 < g_nb bk → V9 (1 + j) = if bk = 8 then V (2 + j) else V (1 + j)) ∧ M b 6 = (g_nb bk : Int) ∧ q_WR M N (V9 0) r' (r' 2) ∧ q_WR M N (V9 (g_nb bk)) r (r 2) ∧
  (∀ q k, (q ≠ b ∨ (k ≠ 4 ∧ k ≠ 5 ∧ k ≠ 6)) → (q ≠ b + 1 ∧ (q < b + 3 ∨ b + 25 ≤ q)) → (q < V9 (g_nb bk) ∨ V9 (g_nb bk) + 47 ≤ q) → (q < V9 0 ∨ V9 0 + 47 ≤ q) → M q k = I q k) ∧ (∀ q k, (q < V9 (g_nb bk) ∨ V9 (g_nb bk) + 47 ≤ q) → (q < V9 0 ∨ V9 0 + 47 ≤ q) → N q k = L q k) ∧ M b 4 = 0 ∧ M b 5 = -1 ∧ (∀ q k, b + 452 ≤ q → P9 q k = P q k)
set_option maxRecDepth 100000 in
theorem mX7_text {G : q_G} {sz : Nat} {T : q_T} {I L : q_I} {P : q_P} {Q : q_Q} {b w bk tp : Nat} {V : Nat → Nat} {r B : Nat → Int} {n9 : Int} (o : Int) (hS : q_ST T P b) (hA : q_A G b) (hPV : q_PV P b V) (hO : q_OV b V) (hVw : V 0 = w) (hWR : q_WR I L w r (r 2)) (hV : g_VR r) (hb : I b 6 = (bk : Int)) (hbk : bk ≤ 8) (htp : I b 4 = (tp : Int)) (ht6 : tp ≤ 600) (hby : ∀ k, k < 600 → I (b + 2) k = B k) (hBr : ∀ k, 0 ≤ B k ∧ B k ≤ 255) (hnn : -2147483648 ≤ n9 ∧ n9 < 2147483648) (k1 : ∀ sz', sz ≤ sz' → ¬ (0 ≤ n9 ∧ n9 ≤ (tp : Int)) → Q (.inr "java/lang/IllegalArgumentException") sz' T (u2 I b 8 ((I b 8) + 1)) L P) (k2 : ∀ (w1 : Int) (x : Nat) (M : q_I) (P9 : q_P), (0 ≤ n9 ∧ n9 ≤ (tp : Int)) → g_text B n9.toNat o = .er w1 x → (1 ≤ w1 ∧ w1 ≤ 7) → q_ST T P9 b → q_PV P9 b V → (∀ q k, (q ≠ b ∨ (k ≠ 4 ∧ k ≠ 5)) → (q ≠ b + 1 ∧ (q < b + 3 ∨ b + 25 ≤ q)) → M q k = I q k) → M b 5 = (x : Int) → M b 4 = 0 → (∀ q k, b + 452 ≤ q → P9 q k = P q k) → Q (.inl (some (qI (w1 - 10)))) sz T M L P9) (k0 : ∀ (s' : g_PS) (t' : Nat → Int) (M N : q_I) (P9 : q_P) (V9 : Nat → Nat), (0 ≤ n9 ∧ n9 ≤ (tp : Int)) → g_text B n9.toNat o = .ok s' t' → q_TF T b V bk I L P r (g_zap t') M N P9 V9 → (g_V0 (g_zap t') ∧ g_fresh (g_zap t') ∧ g_Zr (g_zap t')) → Q (.inl (some (qI (t' 0)))) sz T M N P9) : qC G 19 1 6 YX7_text [.ref b, qI n9] sz T I L P Q := by
  refine qC_of (by decide +kernel) rfl rfl (Nat.le_of_ble_eq_true rfl) (fun F hF _ _ => ?_)
  have hv := hV.1
  have hwr0 := hO.r (i := 0) (by omega)
  rw [hVw] at hwr0
  refine q_aload_n hF 0 rfl rfl dX7_text_0 ?_
  refine q_iload_n hF 1 rfl rfl dX7_text_1 ?_
  refine q_iflt hF hnn dX7_text_2 (fun c2 => ?_) (fun c2 => ?_)
  · refine q_iconst hF dX7_text_13 ?_
    refine q_goto hF dX7_text_14 ?_
    refine q_callV (kc := 0) (ks := 0) (mc' := 1) (ms' := 6) (h' := 0) (st := []) hF vl_RX7_45 rfl [qI 1] rfl rfl hS.t0 (by decide) (Nat.le_of_ble_eq_true rfl) dX7_text_18 ?_
    refine mX7_refuseArgument1 hS.t0 hA (fun sz' c18_0 => ?_)
    refine q_out hF rfl ?_
    exact k1 _ (by assumption) (by omega)
  · refine q_iload_n hF 1 rfl rfl dX7_text_5 ?_
    refine q_aload_n hF 0 rfl rfl dX7_text_6 ?_
    refine q_getIv hF (z := (tp : Int)) fl_RX7_38 hS.t0 htp dX7_text_7 ?_
    refine q_icmple hF hnn (by omega) dX7_text_10 (fun c10 => ?_) (fun c10 => ?_)
    · refine q_iconst hF dX7_text_17 ?_
      refine q_callV (kc := 1) (ks := 6) (mc' := 0) (ms' := 0) (h' := 0) (st := []) hF vl_RX7_45 rfl [qI 0] rfl rfl hS.t0 (by decide) (Nat.le_of_ble_eq_true rfl) dX7_text_18 ?_
      refine mX7_refuseArgument0 hS.t0 ?_
      refine q_aload_n hF 0 rfl rfl dX7_text_21 ?_
      refine q_iconst hF dX7_text_22 ?_
      refine q_putI hF fl_RX7_38 hS.t0 hA dX7_text_23 ?_
      obtain ⟨nn, hnn2⟩ : ∃ nn : Nat, n9 = (nn : Int) := ⟨n9.toNat, by omega⟩
      subst hnn2
      have hn6 : nn ≤ 600 := by omega
      refine q_aload_n hF 0 rfl rfl dX7_text_26 ?_
      refine q_getA hF fl_RX7_10 rfl hS.t0 hS.p1 dX7_text_27 ?_
      refine q_iload_n hF 1 rfl rfl dX7_text_30 ?_
      refine q_callV (kc := 1) (ks := 6) (mc' := 0) (ms' := 0) (h' := 18) (st := []) hF vl_RX7_49 rfl [qI (nn : Int)] rfl rfl hS.t2 (by decide) (Nat.le_of_ble_eq_true rfl) dX7_text_31 ?_
      refine mX3_read (a := b + 1) (u := b + 3) (by_ := b + 2) (N := nn) (B := B) o ⟨hS.t2, hS.r1, hS.t3, hS.r2, hS.t4, hS.r3, hS.t5, hS.r4, hS.t6⟩ (q_Ale hA (by omega)) hS.t1 (by omega) (fun k hk => (u2_a _ _ (by omega)).trans (hby k hk)) hBr hn6 hS.dr (q_Ale hA (by omega)) (by omega) hS.p0 hS.p2 (fun s' t' M1 P1 eg hRF hRR => ?_) (fun w1 x M1 P1 eg hw1 hRF hpl => ?_)
      · have fM1 : ∀ q k, q ≠ b → (q ≠ b + 1 ∧ (q < b + 3 ∨ b + 25 ≤ q)) → M1 q k = I q k := fun q k h0 h => (hRF.1 q k (by omega) (by omega) (by omega) (by omega) (by omega)).trans (u2_a _ _ h0)
        have fMb : ∀ k, k ≠ 4 → M1 b k = I b k := fun k h => (hRF.1 b k (by omega) (by omega) (by omega) (by omega) (by omega)).trans (u2_k _ _ h)
        have fM6 : M1 b 4 = 0 := (hRF.1 b 4 (by omega) (by omega) (by omega) (by omega) (by omega)).trans (u2_s _ _ _ _)
        have hS1 : q_ST T P1 b := hS.mv2 (fun q k h1 => hRF.2 q k (by omega))
        have hPV1 : q_PV P1 b V := ⟨(hRF.2 _ _ (by omega)).trans hPV.1, fun j hj => (hRF.2 _ _ (by omega)).trans (hPV.2 j hj)⟩
        refine q_istore_n hF (ls' := [(2, qI 0), (0, .ref b), (1, qI (nn : Int))]) rfl (by decide) rfl dX7_text_34 ?_
        refine q_iload_n hF 0 rfl rfl dX7_text_35 ?_
        refine q_ifeq hF (by decide) dX7_text_36 (fun c36 => ?_) (fun c36 => ?_)
        · refine q_aload_n hF 1 rfl rfl dX7_text_55 ?_
          refine q_iconst hF dX7_text_56 ?_
          refine q_putI hF fl_RX7_34 hS.t0 hA dX7_text_57 ?_
          refine q_aload_n hF 1 rfl rfl dX7_text_60 ?_
          refine q_callV (kc := 1) (ks := 6) (mc' := 0) (ms' := 0) (h' := 3) (st := []) hF vl_RX7_56 rfl [] rfl rfl hS.t0 (by decide) (Nat.le_of_ble_eq_true rfl) dX7_text_61 ?_
          refine mX7_remember (mo := r 2) hS1 hA hPV1 hO (show (u2 M1 b 5 (-1)) b 6 = (bk : Int) from (u2_k _ _ (by decide)).trans ((fMb 6 (by decide)).trans hb)) hbk (show q_WR (u2 M1 b 5 (-1)) L (V 0) r (r 2) from by rw [hVw]; exact hWR.fr hv (fun q k h1 h2 => (u2_a (q := q) (k := k) M1 (-1) (by omega)).trans (fM1 q k (by omega) (by omega))) (fun q k h1 h2 _ => rfl)) hv (fun j hj => by have q := (hV.2.1 j hj).nl; exact q) (fun M9 N9 P9 V9 hS9 hPV9 hO9 h93 h94 h95 h96 h97 h98 h99 => ?_)
          have hnb := g_nb_r hbk
          have hw9 : V9 0 = w := h93.trans hVw
          have hPVw9 : P9 b 3 = some w := hw9 ▸ hPV9.w
          have hwr := hO9.r (i := 0) (by omega)
          rw [hw9] at hwr
          have hW9 : q_SW T P9 w := by have q := hS9.sw hO9 (i := 0) (by omega); rwa [hw9] at q
          have hdd := hO9.d (i := 0) (j := g_nb bk) (by omega) (by omega) (by omega)
          rw [hw9] at hdd
          have hrr9 := hO9.r (i := g_nb bk) (by omega)
          have fM9 : ∀ q k, q ≠ b → (q < V9 (g_nb bk) ∨ V9 (g_nb bk) + 47 ≤ q) → M9 q k = M1 q k := fun q k h1 h2 => (h96 q k (Or.inl h1) h2).trans (u2_a _ _ h1)
          have hRRd : q_RR M9 (b + 3) (g_zap t') := hRR.1.ext hRR.2.1 (fun q k h1 h2 => fM9 q k (by omega) (by omega)) (g_same.rf _)
          refine q_aload_n hF 1 rfl rfl dX7_text_64 ?_
          refine q_getA hF fl_RX7_26 rfl hS.t0 hPVw9 dX7_text_65 ?_
          refine q_aload_n hF 1 rfl rfl dX7_text_68 ?_
          refine q_getA hF fl_RX7_10 rfl hS.t0 hS9.p1 dX7_text_69 ?_
          refine q_getA hF fl_RX7_59 rfl hS.t2 hS9.p2 dX7_text_72 ?_
          refine q_callV (kc := 1) (ks := 6) (mc' := 0) (ms' := 0) (h' := 2) (st := []) hF vl_RX7_63 rfl [.ref (b + 3)] rfl rfl hW9.t0 (by decide) (Nat.le_of_ble_eq_true rfl) dX7_text_75 ?_
          refine mX6_begin (w := w) (v := b + 3) (r := g_zap t') hW9 (q_Ale hA (by omega)) hS9.dr hRRd hRR.2.1 hRR.2.2.1 (by omega) (fun M2 N2 hfM hfN hWn => ?_)
          have hWRn : q_WR M2 N2 w (g_zap t') 0 := hWn
          refine q_aload_n hF 1 rfl rfl dX7_text_78 ?_
          refine q_getA hF fl_RX7_26 rfl hS.t0 hPVw9 dX7_text_79 ?_
          refine q_getA hF fl_RX7_67 rfl hW9.t0 hW9.p0 dX7_text_82 ?_
          refine q_getIv hF (z := g_zap t' 0) fl_RX7_68 hW9.ru.t0 hWRn.ru.cnt dX7_text_85 ?_
          refine q_ireturn hF rfl dX7_text_88 ?_
          have hf2 := hRR.2.2.1.2.1
          rw [show g_zap t' 0 = t' 0 from if_pos (by decide)]
          refine k0 s' t' M2 N2 P9 V9 (by omega) eg ⟨hS9, hPV9, hO9, h93, h94, ?_, ?_, ?_, ?_, ?_, ?_, ?_, fun q k h => (h99 q k h).trans (hRF.2 q k (by omega))⟩ hRR.2
          · exact (hfM _ _ (by omega)).trans h95
          · rw [hw9, hf2]; exact hWRn
          · exact h98.fr hv (fun q k h1 h2 => hfM q k (by omega)) (fun q k h1 h2 _ => hfN q k (by omega))
          · intro q k h1 h2 h3 h4
            rw [hw9] at h4
            rw [hfM q k h4]
            by_cases e : q = b
            · subst e; exact (h96 _ k (Or.inr (by omega)) h3).trans ((u2_k _ _ (by omega)).trans (fMb k (by omega)))
            · rw [fM9 q k e h3]; exact fM1 q k e h2
          · intro q k h3 h4
            rw [hw9] at h4
            rw [hfN q k h4]; exact h97 q k h3
          · rw [hfM _ _ (by omega), h96 _ _ (Or.inr (by decide)) (by omega), u2_k _ _ (by decide)]; exact fM6
          · rw [hfM _ _ (by omega), h96 _ _ (Or.inr (by decide)) (by omega), u2_s]
        · exact absurd c36 (by decide)
      · have fM1 : ∀ q k, q ≠ b → (q ≠ b + 1 ∧ (q < b + 3 ∨ b + 25 ≤ q)) → M1 q k = I q k := fun q k h0 h => (hRF.1 q k (by omega) (by omega) (by omega) (by omega) (by omega)).trans (u2_a _ _ h0)
        have fMb : ∀ k, k ≠ 4 → M1 b k = I b k := fun k h => (hRF.1 b k (by omega) (by omega) (by omega) (by omega) (by omega)).trans (u2_k _ _ h)
        have fM6 : M1 b 4 = 0 := (hRF.1 b 4 (by omega) (by omega) (by omega) (by omega) (by omega)).trans (u2_s _ _ _ _)
        have hS1 : q_ST T P1 b := hS.mv2 (fun q k h1 => hRF.2 q k (by omega))
        have hPV1 : q_PV P1 b V := ⟨(hRF.2 _ _ (by omega)).trans hPV.1, fun j hj => (hRF.2 _ _ (by omega)).trans (hPV.2 j hj)⟩
        refine q_istore_n hF (ls' := [(2, qI w1), (0, .ref b), (1, qI (nn : Int))]) rfl (by decide) rfl dX7_text_34 ?_
        refine q_iload_n hF 0 rfl rfl dX7_text_35 ?_
        refine q_ifeq hF (by omega) dX7_text_36 (fun c36 => ?_) (fun c36 => ?_)
        · omega
        · refine q_aload_n hF 1 rfl rfl dX7_text_39 ?_
          refine q_aload_n hF 1 rfl rfl dX7_text_40 ?_
          refine q_getA hF fl_RX7_10 rfl hS.t0 hS1.p1 dX7_text_41 ?_
          refine q_getIv hF (z := (x : Int)) fl_RX7_53 hS.t2 hpl dX7_text_44 ?_
          refine q_putI hF fl_RX7_34 hS.t0 hA dX7_text_47 ?_
          refine q_iload_n hF 0 rfl rfl dX7_text_50 ?_
          refine q_bipush hF (n := 10) rfl dX7_text_51 ?_
          refine q_isub hF dX7_text_53 ?_
          refine q_ireturn hF rfl dX7_text_54 ?_
          refine k2 w1 x _ P1 (by omega) eg hw1 hS1 hPV1 (fun q k h1 h2 => ?_) (u2_s _ _ _ _) ((u2_k _ _ (by decide)).trans fM6) (fun q k h => hRF.2 q k (by omega))
          by_cases e : q = b
          · subst e; exact (u2_k _ _ (by omega)).trans (fMb k (by omega))
          · exact (u2_a _ _ e).trans (fM1 q k e h2)
    · refine q_iconst hF dX7_text_13 ?_
      refine q_goto hF dX7_text_14 ?_
      refine q_callV (kc := 0) (ks := 0) (mc' := 1) (ms' := 6) (h' := 0) (st := []) hF vl_RX7_45 rfl [qI 1] rfl rfl hS.t0 (by decide) (Nat.le_of_ble_eq_true rfl) dX7_text_18 ?_
      refine mX7_refuseArgument1 hS.t0 hA (fun sz' c18_0 => ?_)
      refine q_out hF rfl ?_
      exact k1 _ (by assumption) (by omega)
