/-! the class: one account alone goes on -/
theorem g_goes_op {r : Nat → Int} {a : Nat} {nx : Int} (ho : r (1043 + 12 * a) = 0 ∨ r (1043 + 12 * a) = 1) : (g_goes r a nx).2 (1043 + 12 * a) = 0 ∨ (g_goes r a nx).2 (1043 + 12 * a) = 1 ∨ (g_goes r a nx).2 (1043 + 12 * a) = 2 := by
  have qt : g_r1 r a (1043 + 12 * a) = r (1043 + 12 * a) := g_r1_n _ (by omega) (by omega) (by omega) (by omega)
  rcases g_goes_cases r a nx with ⟨c, -⟩ | ⟨-, e⟩ | ⟨-, e⟩ | ⟨c, -, e⟩
  · exact absurd ho c
  · rw [e]; show g_r1 r a _ = 0 ∨ g_r1 r a _ = 1 ∨ g_r1 r a _ = 2; omega
  · rw [e]; exact Or.inr (Or.inl (g_wr_t _ _ _))
  · rw [e]; exact Or.inr (Or.inr (g_ha_t _ _ _ _))
theorem g_run_closed {M n : Int} {a : Nat} {r : Nat → Int} (h : ¬ (r (1043 + 12 * a) = 0 ∨ r (1043 + 12 * a) = 1)) : ∀ f k : Nat, g_run M n a f k r = (-1, r)
  | 0, _ => rfl
  | f + 1, k => by
    have e : g_goes r a (M + k) = (0, r) := by unfold g_goes; rw [if_neg h]
    rw [g_run_s, e]
    dsimp only
    rw [if_neg (by decide : ¬ (0 : Int) = 1), g_run_closed h f (k + 1)]
    split <;> rfl
set_option maxRecDepth 100000 in
theorem lX1_runProbe {G : q_G} {F : q_F} {h : Nat} {Q : q_Q} {kc ks sz : Nat} {T : q_T} {f p w a mn nn : Nat} {B : Int} {RES : Int × (Nat → Int)} {I L : q_I} {P : q_P} (h4 : 5 ≤ h) (hF : q_ok G F YX1_runProbe h) (hW : q_SW T P w) (hWA : q_A G w) (hfT : T f = some (.inl 1)) (hfP : P f 0 = some p) (hO : T p = some (.inl 0)) (hOA : q_A G p) (hsep : p < w ∨ w + 47 ≤ p) (hB : 0 ≤ B ∧ B ≤ 6000) (hmo : I w 3 = B) (hn : nn ≤ 600) (k0 : ∀ (M N : q_I), (∀ q k, q ≠ p → M q k = I q k) → (∀ q k, q ≠ p → q ≠ w + 8 → N q k = L q k) → q_AR M p RES.2 a → Q (.inl (some (qI RES.1))) sz T M N P) (ha12 : a < 12) (hamn : a < mn) : ∀ (n : Nat) (k : Nat) (M N : q_I) (R : Nat → Int), 601 - k < n → 1 ≤ k ∧ k ≤ 601 → g_VM R 0 (B + (k : Int) - 1) → R 1 = (mn : Int) → q_RR M (w + 1) R → q_AR M p R a → (R (1043 + 12 * a) = 0 ∨ R (1043 + 12 * a) = 1) → (∀ q k, q ≠ p → M q k = I q k) → (∀ q k, q ≠ p → q ≠ w + 8 → N q k = L q k) → g_run B (nn : Int) a (nn + 1 - k) k R = RES → qX G F Q kc ks 14 [(3, qI (k : Int)), (0, .ref f), (1, .ref w), (2, qI (nn : Int))] [] sz T M N P := by
  intro n
  induction n with
  | zero => intro k M N R hn; exact absurd hn (Nat.not_lt_zero _)
  | succ n ih =>
    intro k M N R hn hk hVM h1 hRR hAR hop hM hN hH
    have hA := hVM.2.1 a (by omega)
    rw [if_neg (Nat.not_lt_zero _)] at hA
    have hr6 := hVM.1.rows
    refine q_iload_n hF 0 rfl rfl dX1_runProbe_14 ?_
    refine q_iload_n hF 3 rfl rfl dX1_runProbe_15 ?_
    refine q_icmpgt hF (by omega) (by omega) dX1_runProbe_16 (fun c16 => ?_) (fun c16 => ?_)
    · refine q_iconst hF dX1_runProbe_67 ?_
      refine q_ireturn hF rfl dX1_runProbe_68 ?_
      have hR : g_run B (nn : Int) a (nn + 1 - k) k R = (-1, R) := by
        cases hf : nn + 1 - k with
        | zero => rfl
        | succ f => rw [g_run_s, if_neg (by omega)]
      rw [hR] at hH
      subst hH
      exact k0 M N hM hN hAR
    · refine q_aload_n hF 2 rfl rfl dX1_runProbe_19 ?_
      refine q_getIv hF (z := B) fl_RX1_83 hW.t0 ((hM _ _ (by omega)).trans hmo) dX1_runProbe_20 ?_
      refine q_iload_n hF 0 rfl rfl dX1_runProbe_23 ?_
      refine q_iadd hF dX1_runProbe_24 ?_
      refine q_sipush hF (n := 6000) rfl dX1_runProbe_25 ?_
      refine q_icmpgt hF (by omega) (by decide) dX1_runProbe_28 (fun c28 => ?_) (fun c28 => ?_)
      · refine q_iconst hF dX1_runProbe_67 ?_
        refine q_ireturn hF rfl dX1_runProbe_68 ?_
        have hR : g_run B (nn : Int) a (nn + 1 - k) k R = (-1, R) := by
          cases hf : nn + 1 - k with
          | zero => rfl
          | succ f => rw [g_run_s, if_neg (by omega)]
        rw [hR] at hH
        subst hH
        exact k0 M N hM hN hAR
      · refine q_aload_n hF 1 rfl rfl dX1_runProbe_31 ?_
        refine q_getA hF fl_RX1_12 rfl hfT hfP dX1_runProbe_32 ?_
        refine q_aload_n hF 2 rfl rfl dX1_runProbe_35 ?_
        refine q_getA hF fl_RX1_86 rfl hW.t0 hW.p0 dX1_runProbe_36 ?_
        refine q_aload_n hF 2 rfl rfl dX1_runProbe_39 ?_
        refine q_getIv hF (z := B) fl_RX1_83 hW.t0 ((hM _ _ (by omega)).trans hmo) dX1_runProbe_40 ?_
        refine q_iload_n hF 0 rfl rfl dX1_runProbe_43 ?_
        refine q_iadd hF dX1_runProbe_44 ?_
        refine q_callV (kc := kc) (ks := ks) (mc' := 0) (ms' := 0) (h' := 4) (st := []) hF vl_RX1_90 rfl [.ref (w + 1), qI (B + (k : Int))] rfl rfl hO (by omega) (Nat.le_of_ble_eq_true rfl) dX1_runProbe_45 ?_
        refine mX0_goMonth (r := R) (a := a) hW.ru (q_Ale hWA (by omega)) hRR hVM.1 hO hOA hAR hA (by omega) (by omega) (by omega) hop (by omega) (by omega) (fun I' L' c45_0 c45_1 c45_2 c45_3 => ?_)
        have hX := c45_2
        have hil : (a : Int) < R 1 := by omega
        have hr := hVM.1.rows
        have hgb := g_goes_book (r := R) (a := a) (nx := B + (k : Int)) ha12 hr.1 hop
        have hgo := g_goes_op (r := R) (a := a) (nx := B + (k : Int)) hop
        rw [show nn + 1 - k = (nn + 1 - (1 + k)) + 1 by omega, g_run_s, if_pos ⟨by omega, by omega⟩] at hH
        refine q_aload_n hF 1 rfl rfl dX1_runProbe_48 ?_
        refine q_getA hF fl_RX1_12 rfl hfT hfP dX1_runProbe_49 ?_
        refine q_getIv hF (z := (g_goes R a (B + (k : Int))).2 (1043 + 12 * a)) fl_RX1_94 hO hX.state dX1_runProbe_52 ?_
        refine q_iconst hF dX1_runProbe_55 ?_
        refine q_icmpne hF (by omega) (by decide) dX1_runProbe_56 (fun c56 => ?_) (fun c56 => ?_)
        · refine q_iinc hF (z' := ((1 + k : Nat) : Int)) (ls' := [(3, qI ((1 + k : Nat) : Int)), (0, .ref f), (1, .ref w), (2, qI (nn : Int))]) 0 rfl (by first | rfl | omega) (by decide) rfl dX1_runProbe_61 ?_
          refine q_goto hF dX1_runProbe_64 ?_
          have hgb2 := hgb.resolve_right (fun q => absurd q.2.1 c56)
          rw [if_neg (by omega), Nat.add_comm k 1] at hH
          have h9 := hVM.one (a := a) hil (by omega)
          rw [show B + (k : Int) - 1 + 1 = B + k by omega] at h9
          exact ih (1 + k) I' L' (g_goes R a (B + (k : Int))).2 (by omega) (by omega) (by rw [show B + ((1 + k : Nat) : Int) - 1 = B + (k : Int) from by omega]; exact h9) (by rw [g_goes_n hr.1 (by omega) (by omega) (by omega) (by omega) (by omega) (by omega)]; exact h1) (hRR.ext hVM.1 (fun q k' x y => c45_0 q k' (by omega)) (g_goes_same hr.1)) hX (by omega) (fun q k' x => (c45_0 q k' x).trans (hM q k' x)) (fun q k' x y => (c45_1 q k' x (by omega)).trans (hN q k' x y)) hH
        · refine q_iload_n hF 0 rfl rfl dX1_runProbe_59 ?_
          refine q_ireturn hF rfl dX1_runProbe_60 ?_
          have hgb2 := hgb.resolve_left (fun q => q.2.1 c56)
          rw [if_pos hgb2.1] at hH
          subst hH
          exact k0 I' L' (fun q k' x => (c45_0 q k' x).trans (hM q k' x)) (fun q k' x y => (c45_1 q k' x (by omega)).trans (hN q k' x y)) hX
set_option maxRecDepth 100000 in
theorem mX1_runProbe {G : q_G} {sz : Nat} {T : q_T} {I L : q_I} {P : q_P} {Q : q_Q} {f : Nat} {w : Nat} {p a mn nn : Nat} {B : Int} {R : Nat → Int} (hW : q_SW T P w) (hWA : q_A G w) (hfT : T f = some (.inl 1)) (hfP : P f 0 = some p) (hO : T p = some (.inl 0)) (hOA : q_A G p) (hsep : p < w ∨ w + 47 ≤ p) (hB : 0 ≤ B ∧ B ≤ 6000) (hmo : I w 3 = B) (hn : nn ≤ 600) (hRR : q_RR I (w + 1) R) (hAR : q_AR I p R a) (hVM : g_VM R 0 B) (h1 : R 1 = (mn : Int)) (hamn : a < mn) (ha12 : a < 12) (k0 : ∀ (M N : q_I), (∀ q k, q ≠ p → M q k = I q k) → (∀ q k, q ≠ p → q ≠ w + 8 → N q k = L q k) → q_AR M p (g_run B (nn : Int) a nn 1 R).2 a → Q (.inl (some (qI (g_run B (nn : Int) a nn 1 R).1))) sz T M N P) : qC G 5 0 0 YX1_runProbe [.ref f, .ref w, qI (nn : Int)] sz T I L P Q := by
  refine qC_of (by decide +kernel) rfl rfl (Nat.le_of_ble_eq_true rfl) (fun F hF _ _ => ?_)
  have hA := hVM.2.1 a (by omega)
  rw [if_neg (Nat.not_lt_zero _)] at hA
  refine q_aload_n hF 0 rfl rfl dX1_runProbe_0 ?_
  refine q_getA hF fl_RX1_12 rfl hfT hfP dX1_runProbe_1 ?_
  refine q_callV (kc := 0) (ks := 0) (mc' := 0) (ms' := 0) (h' := 0) (st := []) hF vl_RX1_49 rfl [] rfl rfl hO (by omega) (Nat.le_of_ble_eq_true rfl) dX1_runProbe_4 ?_
  refine mX0_isWithBankR (r := R) (a := a) hO hAR hA.state ?_
  refine q_ifne_b hF dX1_runProbe_7 (fun c7 => ?_) (fun c7 => ?_)
  · refine q_iconst hF dX1_runProbe_12 ?_
    refine q_istore_n hF (ls' := [(3, qI 1), (0, .ref f), (1, .ref w), (2, qI (nn : Int))]) rfl (by decide) rfl dX1_runProbe_13 ?_
    exact lX1_runProbe (mn := mn) (RES := (g_run B (nn : Int) a nn 1 R)) (by decide) hF hW hWA hfT hfP hO hOA hsep hB hmo hn k0 ha12 hamn 601 1 I L R (by omega) (by omega) (by rw [show B + ((1 : Nat) : Int) - 1 = B by omega]; exact hVM) h1 hRR hAR c7 (fun _ _ _ => rfl) (fun _ _ _ _ => rfl) (by rw [show nn + 1 - 1 = nn by omega])
  · refine q_iconst hF dX1_runProbe_10 ?_
    refine q_ireturn hF rfl dX1_runProbe_11 ?_
    have hc := g_run_closed (M := B) (n := (nn : Int)) c7 nn 1
    rw [hc] at k0
    exact k0 I L (fun _ _ _ => rfl) (fun _ _ _ _ => rfl) hAR
