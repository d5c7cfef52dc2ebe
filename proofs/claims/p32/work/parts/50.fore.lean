/-! the class: forecasts -/
theorem mX0_copyFromA {G : q_G} {sz : Nat} {T : q_T} {I L : q_I} {P : q_P} {Q : q_Q} {a b : Nat} (hT : T a = some (.inl 0)) (hA : q_A G a) (hTb : T b = some (.inl 0)) (hne : b ≠ a) (hz : I b 11 = 0 ∨ I b 11 = 1)
    (k0 : ∀ Ic Lc : q_I, (∀ q k, q ≠ a → Ic q k = I q k) → (∀ q k, q ≠ a → Lc q k = L q k) → (∀ k, k < 12 → Ic a k = I b k) → (∀ k, 12 ≤ k → k < 17 → Lc a k = L b k) → Q (.inl none) sz T Ic Lc P) : qC G 0 0 0 YX0_copyFrom [.ref a, .ref b] sz T I L P Q := by
  refine mX0_copyFrom hT hA hTb hne hz ?_
  refine k0 _ _ (fun q k h => by simp only [u2_a _ _ h]) (fun q k h => by simp only [u2_a _ _ h]) (fun k hk => ?_) (fun k h1 h2 => ?_)
  · rcases (show k = 0 ∨ k = 1 ∨ k = 2 ∨ k = 3 ∨ k = 4 ∨ k = 5 ∨ k = 6 ∨ k = 7 ∨ k = 8 ∨ k = 9 ∨ k = 10 ∨ k = 11 by omega) with rfl | rfl | rfl | rfl | rfl | rfl | rfl | rfl | rfl | rfl | rfl | rfl <;> simp [u2]
  · rcases (show k = 12 ∨ k = 13 ∨ k = 14 ∨ k = 15 ∨ k = 16 by omega) with rfl | rfl | rfl | rfl | rfl <;> simp [u2]
theorem q_AR.cp {I Ic : q_I} {o p : Nat} {r : Nat → Int} {a : Nat} (h : q_AR I o r a) (hc : ∀ k, k < 12 → Ic p k = I o k) : q_AR Ic p r a := by
  unfold q_AR
  rw [hc 0 (by omega), hc 1 (by omega), hc 2 (by omega), hc 3 (by omega), hc 4 (by omega), hc 5 (by omega), hc 6 (by omega), hc 7 (by omega), hc 8 (by omega), hc 9 (by omega), hc 10 (by omega), hc 11 (by omega)]
  exact h
theorem g_run_r {M n : Int} {a : Nat} : ∀ (f k : Nat) (r : Nat → Int), -1 ≤ (g_run M n a f k r).1 ∧ (g_run M n a f k r).1 ≤ f + k
  | 0, k, r => by show -1 ≤ (-1 : Int) ∧ (-1 : Int) ≤ _; omega
  | f + 1, k, r => by
    rw [g_run_s]
    have q := g_run_r (M := M) (n := n) (a := a) f (k + 1) (g_goes r a (M + k)).2
    split
    · split
      · show -1 ≤ (k : Int) ∧ (k : Int) ≤ _; omega
      · omega
    · show -1 ≤ (-1 : Int) ∧ (-1 : Int) ≤ _; omega
theorem g_months_VA {r : Nat → Int} (hz : g_Zr r) (hv : g_VR r) {c : Nat} (hc : (c : Int) < r 1) (n : Nat) : ∃ b, g_VA (g_months n r).2 c b ∧ b ≤ 6000 ∧ (g_months n r).2 0 ≤ 5 := by
  have q := (g_months_z n hz hv).2
  have q1 := q.2.1 c (by rw [g_months_hd n hz hv]; exact hc)
  rw [if_neg (Nat.not_lt_zero _)] at q1
  exact ⟨_, q1, q.1.month.2, q.1.lands.2⟩
/-- the account that a run leaves -/
theorem g_run_VA {r : Nat → Int} (hz : g_Zr r) (hv : g_VR r) {c : Nat} (hc : (c : Int) < r 1) (n : Nat) : (-1 ≤ (g_run (r 2) (n : Int) c n 1 r).2 (1047 + 12 * c) ∧ (g_run (r 2) (n : Int) c n 1 r).2 (1047 + 12 * c) ≤ 5) ∧ (0 ≤ (g_run (r 2) (n : Int) c n 1 r).2 (1042 + 12 * c) ∧ (g_run (r 2) (n : Int) c n 1 r).2 (1042 + 12 * c) ≤ 100000000) ∧ (0 ≤ (g_run (r 2) (n : Int) c n 1 r).2 (1046 + 12 * c) ∧ (g_run (r 2) (n : Int) c n 1 r).2 (1046 + 12 * c) ≤ 6000) := by
  obtain ⟨b, h1, h2, h3⟩ := g_months_VA hz hv hc n
  have q := (g_run_months hz hv hc n).1
  have a1 := h1.holder
  have a2 := h1.cents
  have a3 := h1.wrote
  rw [q _ (by omega) (by omega), q _ (by omega) (by omega), q _ (by omega) (by omega)]
  omega
set_option maxRecDepth 100000 in
theorem lX1_centsHandedTo {G : q_G} {F : q_F} {h : Nat} {Q : q_Q} {kc ks sz : Nat} {T : q_T} {f p w mn nn : Nat} {l : Int} {r : Nat → Int} {I L : q_I} {P : q_P} (h6 : 6 ≤ h) (hF : q_ok G F YX1_centsHandedTo h) (hW : q_SW T P w) (hWA : q_A G w) (hfT : T f = some (.inl 1)) (hfP : P f 0 = some p) (hO : T p = some (.inl 0)) (hOA : q_A G p) (hsep : p < w ∨ w + 47 ≤ p) (hz : g_Zr r) (hV : g_VR r) (hWR : q_WR I L w r (r 2)) (h1 : r 1 = (mn : Int)) (hn6 : nn ≤ 600) (hl : -1 ≤ l ∧ l ≤ 5) (k0 : ∀ M9 N9 : q_I, (∀ q k, q ≠ p → M9 q k = I q k) → (∀ q k, q ≠ p → q ≠ w + 8 → N9 q k = L q k) → Q (.inl (some (qL (g_sum (g_rh r l nn) mn)))) sz T M9 N9 P) : ∀ (n : Nat) (k : Nat) (I9 L9 : q_I), mn - k < n → k ≤ mn → (∀ q k, q ≠ p → I9 q k = I q k) → (∀ q k, q ≠ p → q ≠ w + 8 → L9 q k = L q k) → qX G F Q kc ks 6 [(6, qI (k : Int)), (4, qL (g_sum (g_rh r l nn) k)), (0, .ref f), (1, .ref w), (2, qI l), (3, qI (nn : Int))] [] sz T I9 L9 P := by
  intro n
  induction n with
  | zero => intro k I9 L9 hn; exact absurd hn (Nat.not_lt_zero _)
  | succ n ih =>
    intro k I9 L9 hn hk hM hN
    have hm12 := hV.1.many
    have hmo := hV.1.month
    have hA := hV.2.1
    simp only [Nat.not_lt_zero, if_false] at hA
    refine q_iload hF 0 rfl dX1_centsHandedTo_6 ?_
    refine q_aload_n hF 3 rfl rfl dX1_centsHandedTo_8 ?_
    refine q_getIv hF (z := (mn : Int)) fl_RX1_30 hW.t0 ((hM _ _ (by omega)).trans (hWR.cnt.trans h1)) dX1_centsHandedTo_9 ?_
    refine q_icmpge hF (by omega) (by omega) dX1_centsHandedTo_12 (fun c12 => ?_) (fun c12 => ?_)
    · refine q_lload hF 1 rfl dX1_centsHandedTo_81 ?_
      refine q_lreturn hF rfl dX1_centsHandedTo_83 ?_
      rw [show k = mn by omega]; exact k0 I9 L9 hM hN
    · refine q_iload hF 0 rfl dX1_centsHandedTo_15 ?_
      refine q_bipush hF (n := 12) rfl dX1_centsHandedTo_17 ?_
      refine q_icmpge hF (by omega) (by decide) dX1_centsHandedTo_19 (fun c19 => ?_) (fun c19 => ?_)
      · omega
      · refine q_aload_n hF 2 rfl rfl dX1_centsHandedTo_22 ?_
        refine q_getA hF fl_RX1_12 rfl hfT hfP dX1_centsHandedTo_23 ?_
        refine q_aload_n hF 3 rfl rfl dX1_centsHandedTo_26 ?_
        refine q_getA hF fl_RX1_36 rfl hW.t0 hW.p1 dX1_centsHandedTo_27 ?_
        refine q_iload hF 0 rfl dX1_centsHandedTo_30 ?_
        refine q_aaloadv hF (b := w + 35 + k) k hW.t19 (by decide) rfl (by omega) (by decide) (hW.pa _ (by omega)) dX1_centsHandedTo_32 ?_
        refine q_callV (kc := kc) (ks := ks) (mc' := 0) (ms' := 0) (h' := 0) (st := []) hF vl_RX1_22 rfl [.ref (w + 35 + k)] rfl rfl hO (by omega) (Nat.le_of_ble_eq_true rfl) dX1_centsHandedTo_33 ?_
        refine mX0_copyFromA hO hOA (hW.ta _ (by omega)) (by omega) (by rw [hM _ _ (by omega), (hWR.acc k (by omega)).nl]; have := (hA k (by omega)).nl; omega) (fun Ic Lc c33_0 c33_1 c33_2 c33_3 => ?_)
        refine q_aload_n hF 2 rfl rfl dX1_centsHandedTo_36 ?_
        refine q_aload_n hF 3 rfl rfl dX1_centsHandedTo_37 ?_
        refine q_iload_n hF 5 rfl rfl dX1_centsHandedTo_38 ?_
        refine q_callV (kc := kc) (ks := ks) (mc' := 0) (ms' := 0) (h' := 5) (st := []) hF vl_RX1_26 rfl [.ref w, qI (nn : Int)] rfl rfl hfT (by omega) (Nat.le_of_ble_eq_true rfl) dX1_centsHandedTo_39 ?_
        refine mX1_runProbe (nn := nn) (p := p) (B := (r 2)) (R := r) (a := k) (mn := mn) hW hWA hfT hfP hO hOA hsep hmo (by rw [c33_0 _ _ (by omega), hM _ _ (by omega)]; exact hWR.mon) hn6 (hWR.ru.ext hV.1 (fun q k x y => (c33_0 q k (by omega)).trans (hM q k (by omega))) (g_same.rf r)) (((hWR.acc k (by omega)).ext (fun j => hM _ j (by omega)) (fun _ _ _ => rfl)).cp c33_2) hV h1 (by omega) (by omega) (fun M N c39_0 c39_1 c39_2 => ?_)
        have hrv := g_run_VA hz hV (c := k) (by omega) nn
        have hrr := g_run_r (M := r 2) (n := (nn : Int)) (a := k) nn 1 r
        refine q_iconst hF dX1_centsHandedTo_42 ?_
        refine q_icmpeq hF (by omega) (by decide) dX1_centsHandedTo_43 (fun c43 => ?_) (fun c43 => ?_)
        · refine q_iinc hF (z' := ((1 + k : Nat) : Int)) (ls' := [(6, qI ((1 + k : Nat) : Int)), (4, qL (g_sum (g_rh r l nn) k)), (0, .ref f), (1, .ref w), (2, qI l), (3, qI (nn : Int))]) 0 rfl (by first | rfl | omega) (by decide) rfl dX1_centsHandedTo_75 ?_
          refine q_goto hF dX1_centsHandedTo_78 ?_
          rw [Nat.add_comm 1 k, show (g_sum (g_rh r l nn) k) = g_sum (g_rh r l nn) (k + 1) from by rw [g_sum_s]; unfold g_rh; rw [if_neg (by omega), Int.add_zero]]
          exact ih (k + 1) M N (by omega) (by omega) (fun q k x => (c39_0 q k x).trans ((c33_0 q k x).trans (hM q k x))) (fun q k x y => (c39_1 q k x y).trans ((c33_1 q k x).trans (hN q k x y)))
        · refine q_iload_n hF 4 rfl rfl dX1_centsHandedTo_46 ?_
          refine q_iconst hF dX1_centsHandedTo_47 ?_
          refine q_icmpeq hF (by omega) (by decide) dX1_centsHandedTo_48 (fun c48 => ?_) (fun c48 => ?_)
          · refine q_lload hF 1 rfl dX1_centsHandedTo_62 ?_
            refine q_aload_n hF 2 rfl rfl dX1_centsHandedTo_64 ?_
            refine q_getA hF fl_RX1_12 rfl hfT hfP dX1_centsHandedTo_65 ?_
            refine q_getIv hF (z := (g_run (r 2) (nn : Int) k nn 1 r).2 (1042 + 12 * k)) fl_RX1_43 hO c39_2.cents dX1_centsHandedTo_68 ?_
            refine q_i2l hF (by omega) dX1_centsHandedTo_71 ?_
            refine q_ladd hF dX1_centsHandedTo_72 ?_
            refine q_lstore hF (ls' := [(4, qL ((g_sum (g_rh r l nn) k) + ((g_run (r 2) (nn : Int) k nn 1 r).2 (1042 + 12 * k)))), (6, qI (k : Int)), (0, .ref f), (1, .ref w), (2, qI l), (3, qI (nn : Int))]) (by decide) rfl dX1_centsHandedTo_73 ?_
            refine q_iinc hF (z' := ((1 + k : Nat) : Int)) (ls' := [(6, qI ((1 + k : Nat) : Int)), (4, qL ((g_sum (g_rh r l nn) k) + ((g_run (r 2) (nn : Int) k nn 1 r).2 (1042 + 12 * k)))), (0, .ref f), (1, .ref w), (2, qI l), (3, qI (nn : Int))]) 1 rfl (by first | rfl | omega) (by decide) rfl dX1_centsHandedTo_75 ?_
            refine q_goto hF dX1_centsHandedTo_78 ?_
            rw [Nat.add_comm 1 k, show ((g_sum (g_rh r l nn) k) + ((g_run (r 2) (nn : Int) k nn 1 r).2 (1042 + 12 * k))) = g_sum (g_rh r l nn) (k + 1) from by rw [g_sum_s]; unfold g_rh; rw [if_pos (by omega)]]
            exact ih (k + 1) M N (by omega) (by omega) (fun q k x => (c39_0 q k x).trans ((c33_0 q k x).trans (hM q k x))) (fun q k x y => (c39_1 q k x y).trans ((c33_1 q k x).trans (hN q k x y)))
          · refine q_aload_n hF 2 rfl rfl dX1_centsHandedTo_51 ?_
            refine q_getA hF fl_RX1_12 rfl hfT hfP dX1_centsHandedTo_52 ?_
            refine q_getIv hF (z := (g_run (r 2) (nn : Int) k nn 1 r).2 (1047 + 12 * k)) fl_RX1_40 hO c39_2.holder dX1_centsHandedTo_55 ?_
            refine q_iload_n hF 4 rfl rfl dX1_centsHandedTo_58 ?_
            refine q_icmpne hF (by omega) (by omega) dX1_centsHandedTo_59 (fun c59 => ?_) (fun c59 => ?_)
            · refine q_iinc hF (z' := ((1 + k : Nat) : Int)) (ls' := [(6, qI ((1 + k : Nat) : Int)), (4, qL (g_sum (g_rh r l nn) k)), (0, .ref f), (1, .ref w), (2, qI l), (3, qI (nn : Int))]) 0 rfl (by first | rfl | omega) (by decide) rfl dX1_centsHandedTo_75 ?_
              refine q_goto hF dX1_centsHandedTo_78 ?_
              rw [Nat.add_comm 1 k, show (g_sum (g_rh r l nn) k) = g_sum (g_rh r l nn) (k + 1) from by rw [g_sum_s]; unfold g_rh; rw [if_neg (by omega), Int.add_zero]]
              exact ih (k + 1) M N (by omega) (by omega) (fun q k x => (c39_0 q k x).trans ((c33_0 q k x).trans (hM q k x))) (fun q k x y => (c39_1 q k x y).trans ((c33_1 q k x).trans (hN q k x y)))
            · refine q_lload hF 1 rfl dX1_centsHandedTo_62 ?_
              refine q_aload_n hF 2 rfl rfl dX1_centsHandedTo_64 ?_
              refine q_getA hF fl_RX1_12 rfl hfT hfP dX1_centsHandedTo_65 ?_
              refine q_getIv hF (z := (g_run (r 2) (nn : Int) k nn 1 r).2 (1042 + 12 * k)) fl_RX1_43 hO c39_2.cents dX1_centsHandedTo_68 ?_
              refine q_i2l hF (by omega) dX1_centsHandedTo_71 ?_
              refine q_ladd hF dX1_centsHandedTo_72 ?_
              refine q_lstore hF (ls' := [(4, qL ((g_sum (g_rh r l nn) k) + ((g_run (r 2) (nn : Int) k nn 1 r).2 (1042 + 12 * k)))), (6, qI (k : Int)), (0, .ref f), (1, .ref w), (2, qI l), (3, qI (nn : Int))]) (by decide) rfl dX1_centsHandedTo_73 ?_
              refine q_iinc hF (z' := ((1 + k : Nat) : Int)) (ls' := [(6, qI ((1 + k : Nat) : Int)), (4, qL ((g_sum (g_rh r l nn) k) + ((g_run (r 2) (nn : Int) k nn 1 r).2 (1042 + 12 * k)))), (0, .ref f), (1, .ref w), (2, qI l), (3, qI (nn : Int))]) 1 rfl (by first | rfl | omega) (by decide) rfl dX1_centsHandedTo_75 ?_
              refine q_goto hF dX1_centsHandedTo_78 ?_
              rw [Nat.add_comm 1 k, show ((g_sum (g_rh r l nn) k) + ((g_run (r 2) (nn : Int) k nn 1 r).2 (1042 + 12 * k))) = g_sum (g_rh r l nn) (k + 1) from by rw [g_sum_s]; unfold g_rh; rw [if_pos (by omega)]]
              exact ih (k + 1) M N (by omega) (by omega) (fun q k x => (c39_0 q k x).trans ((c33_0 q k x).trans (hM q k x))) (fun q k x y => (c39_1 q k x y).trans ((c33_1 q k x).trans (hN q k x y)))
set_option maxRecDepth 100000 in
theorem mX1_centsHandedTo {G : q_G} {sz : Nat} {T : q_T} {I L : q_I} {P : q_P} {Q : q_Q} {f : Nat} {w : Nat} {l : Int} {p mn nn : Nat} {r : Nat → Int} (hW : q_SW T P w) (hWA : q_A G w) (hfT : T f = some (.inl 1)) (hfP : P f 0 = some p) (hO : T p = some (.inl 0)) (hOA : q_A G p) (hsep : p < w ∨ w + 47 ≤ p) (hz : g_Zr r) (hV : g_VR r) (hWR : q_WR I L w r (r 2)) (h1 : r 1 = (mn : Int)) (hn6 : nn ≤ 600) (hl : -1 ≤ l ∧ l ≤ 5) (k0 : ∀ M9 N9 : q_I, (∀ q k, q ≠ p → M9 q k = I q k) → (∀ q k, q ≠ p → q ≠ w + 8 → N9 q k = L q k) → Q (.inl (some (qL (g_sum (g_rh r l nn) mn)))) sz T M9 N9 P) : qC G 6 0 0 YX1_centsHandedTo [.ref f, .ref w, qI l, qI (nn : Int)] sz T I L P Q := by
  refine qC_of (by decide +kernel) rfl rfl (Nat.le_of_ble_eq_true rfl) (fun F hF _ _ => ?_)
  refine q_lconst hF (z := 0) rfl dX1_centsHandedTo_0 ?_
  refine q_lstore hF (ls' := [(4, qL 0), (0, .ref f), (1, .ref w), (2, qI l), (3, qI (nn : Int))]) (by decide) rfl dX1_centsHandedTo_1 ?_
  refine q_iconst hF dX1_centsHandedTo_3 ?_
  refine q_istore hF (ls' := [(6, qI 0), (4, qL 0), (0, .ref f), (1, .ref w), (2, qI l), (3, qI (nn : Int))]) (by decide) rfl dX1_centsHandedTo_4 ?_
  exact lX1_centsHandedTo (by decide) hF hW hWA hfT hfP hO hOA hsep hz hV hWR h1 hn6 hl k0 (mn + 1) 0 I L (by omega) (Nat.zero_le _) (fun _ _ _ => rfl) (fun _ _ _ _ => rfl)
set_option maxRecDepth 100000 in
theorem lX1_lettersSent {G : q_G} {F : q_F} {h : Nat} {Q : q_Q} {kc ks sz : Nat} {T : q_T} {f p w mn nn : Nat} {r : Nat → Int} {I L : q_I} {P : q_P} (h6 : 6 ≤ h) (hF : q_ok G F YX1_lettersSent h) (hW : q_SW T P w) (hWA : q_A G w) (hfT : T f = some (.inl 1)) (hfP : P f 0 = some p) (hO : T p = some (.inl 0)) (hOA : q_A G p) (hsep : p < w ∨ w + 47 ≤ p) (hz : g_Zr r) (hV : g_VR r) (hWR : q_WR I L w r (r 2)) (h1 : r 1 = (mn : Int)) (hn6 : nn ≤ 600) (k0 : ∀ M9 N9 : q_I, (∀ q k, q ≠ p → M9 q k = I q k) → (∀ q k, q ≠ p → q ≠ w + 8 → N9 q k = L q k) → Q (.inl (some (qI (g_sum (fun c => (g_run (r 2) (nn : Int) c nn 1 r).2 (1046 + 12 * c) - r (1046 + 12 * c)) mn)))) sz T M9 N9 P) : ∀ (n : Nat) (k : Nat) (I9 L9 : q_I), mn - k < n → k ≤ mn → (∀ q k, q ≠ p → I9 q k = I q k) → (∀ q k, q ≠ p → q ≠ w + 8 → L9 q k = L q k) → qX G F Q kc ks 5 [(4, qI (k : Int)), (3, qI (g_sum (fun c => (g_run (r 2) (nn : Int) c nn 1 r).2 (1046 + 12 * c) - r (1046 + 12 * c)) k)), (0, .ref f), (1, .ref w), (2, qI (nn : Int))] [] sz T I9 L9 P := by
  intro n
  induction n with
  | zero => intro k I9 L9 hn; exact absurd hn (Nat.not_lt_zero _)
  | succ n ih =>
    intro k I9 L9 hn hk hM hN
    have hm12 := hV.1.many
    have hmo := hV.1.month
    have hA := hV.2.1
    simp only [Nat.not_lt_zero, if_false] at hA
    refine q_iload hF 0 rfl dX1_lettersSent_5 ?_
    refine q_aload_n hF 3 rfl rfl dX1_lettersSent_7 ?_
    refine q_getIv hF (z := (mn : Int)) fl_RX1_30 hW.t0 ((hM _ _ (by omega)).trans (hWR.cnt.trans h1)) dX1_lettersSent_8 ?_
    refine q_icmpge hF (by omega) (by omega) dX1_lettersSent_11 (fun c11 => ?_) (fun c11 => ?_)
    · refine q_iload_n hF 1 rfl rfl dX1_lettersSent_69 ?_
      refine q_ireturn hF rfl dX1_lettersSent_70 ?_
      rw [show k = mn by omega]; exact k0 I9 L9 hM hN
    · refine q_iload hF 0 rfl dX1_lettersSent_14 ?_
      refine q_bipush hF (n := 12) rfl dX1_lettersSent_16 ?_
      refine q_icmpge hF (by omega) (by decide) dX1_lettersSent_18 (fun c18 => ?_) (fun c18 => ?_)
      · omega
      · refine q_aload_n hF 2 rfl rfl dX1_lettersSent_21 ?_
        refine q_getA hF fl_RX1_12 rfl hfT hfP dX1_lettersSent_22 ?_
        refine q_aload_n hF 3 rfl rfl dX1_lettersSent_25 ?_
        refine q_getA hF fl_RX1_36 rfl hW.t0 hW.p1 dX1_lettersSent_26 ?_
        refine q_iload hF 0 rfl dX1_lettersSent_29 ?_
        refine q_aaloadv hF (b := w + 35 + k) k hW.t19 (by decide) rfl (by omega) (by decide) (hW.pa _ (by omega)) dX1_lettersSent_31 ?_
        refine q_callV (kc := kc) (ks := ks) (mc' := 0) (ms' := 0) (h' := 0) (st := []) hF vl_RX1_22 rfl [.ref (w + 35 + k)] rfl rfl hO (by omega) (Nat.le_of_ble_eq_true rfl) dX1_lettersSent_32 ?_
        refine mX0_copyFromA hO hOA (hW.ta _ (by omega)) (by omega) (by rw [hM _ _ (by omega), (hWR.acc k (by omega)).nl]; have := (hA k (by omega)).nl; omega) (fun Ic Lc c32_0 c32_1 c32_2 c32_3 => ?_)
        refine q_aload_n hF 2 rfl rfl dX1_lettersSent_35 ?_
        refine q_aload_n hF 3 rfl rfl dX1_lettersSent_36 ?_
        refine q_iload_n hF 4 rfl rfl dX1_lettersSent_37 ?_
        refine q_callV (kc := kc) (ks := ks) (mc' := 0) (ms' := 0) (h' := 5) (st := []) hF vl_RX1_26 rfl [.ref w, qI (nn : Int)] rfl rfl hfT (by omega) (Nat.le_of_ble_eq_true rfl) dX1_lettersSent_38 ?_
        refine mX1_runProbe (nn := nn) (p := p) (B := (r 2)) (R := r) (a := k) (mn := mn) hW hWA hfT hfP hO hOA hsep hmo (by rw [c32_0 _ _ (by omega), hM _ _ (by omega)]; exact hWR.mon) hn6 (hWR.ru.ext hV.1 (fun q k x y => (c32_0 q k (by omega)).trans (hM q k (by omega))) (g_same.rf r)) (((hWR.acc k (by omega)).ext (fun j => hM _ j (by omega)) (fun _ _ _ => rfl)).cp c32_2) hV h1 (by omega) (by omega) (fun M N c38_0 c38_1 c38_2 => ?_)
        have hrv := g_run_VA hz hV (c := k) (by omega) nn
        have hrr := g_run_r (M := r 2) (n := (nn : Int)) (a := k) nn 1 r
        refine q_pop hF rfl dX1_lettersSent_41 ?_
        refine q_iload_n hF 1 rfl rfl dX1_lettersSent_42 ?_
        refine q_aload_n hF 2 rfl rfl dX1_lettersSent_43 ?_
        refine q_getA hF fl_RX1_12 rfl hfT hfP dX1_lettersSent_44 ?_
        refine q_getIv hF (z := (g_run (r 2) (nn : Int) k nn 1 r).2 (1046 + 12 * k)) fl_RX1_46 hO c38_2.wrote dX1_lettersSent_47 ?_
        refine q_aload_n hF 3 rfl rfl dX1_lettersSent_50 ?_
        refine q_getA hF fl_RX1_36 rfl hW.t0 hW.p1 dX1_lettersSent_51 ?_
        refine q_iload hF 0 rfl dX1_lettersSent_54 ?_
        refine q_aaloadv hF (b := w + 35 + k) k hW.t19 (by decide) rfl (by omega) (by decide) (hW.pa _ (by omega)) dX1_lettersSent_56 ?_
        refine q_getIv hF (z := r (1046 + 12 * k)) fl_RX1_46 (hW.ta _ (by omega)) ((c38_0 _ _ (by omega)).trans ((c32_0 _ _ (by omega)).trans ((hM _ _ (by omega)).trans (hWR.acc k (by omega)).wrote))) dX1_lettersSent_57 ?_
        refine q_isub hF dX1_lettersSent_60 ?_
        refine q_iadd hF dX1_lettersSent_61 ?_
        refine q_istore_n hF (ls' := [(3, qI ((g_sum (fun c => (g_run (r 2) (nn : Int) c nn 1 r).2 (1046 + 12 * c) - r (1046 + 12 * c)) k) + (((g_run (r 2) (nn : Int) k nn 1 r).2 (1046 + 12 * k)) - (r (1046 + 12 * k))))), (4, qI (k : Int)), (0, .ref f), (1, .ref w), (2, qI (nn : Int))]) rfl (by decide) rfl dX1_lettersSent_62 ?_
        refine q_iinc hF (z' := ((1 + k : Nat) : Int)) (ls' := [(4, qI ((1 + k : Nat) : Int)), (3, qI ((g_sum (fun c => (g_run (r 2) (nn : Int) c nn 1 r).2 (1046 + 12 * c) - r (1046 + 12 * c)) k) + (((g_run (r 2) (nn : Int) k nn 1 r).2 (1046 + 12 * k)) - (r (1046 + 12 * k))))), (0, .ref f), (1, .ref w), (2, qI (nn : Int))]) 1 rfl (by first | rfl | omega) (by decide) rfl dX1_lettersSent_63 ?_
        refine q_goto hF dX1_lettersSent_66 ?_
        rw [Nat.add_comm 1 k, show ((g_sum (fun c => (g_run (r 2) (nn : Int) c nn 1 r).2 (1046 + 12 * c) - r (1046 + 12 * c)) k) + (((g_run (r 2) (nn : Int) k nn 1 r).2 (1046 + 12 * k)) - (r (1046 + 12 * k)))) = g_sum (fun c => (g_run (r 2) (nn : Int) c nn 1 r).2 (1046 + 12 * c) - r (1046 + 12 * c)) (k + 1) from by rw [g_sum_s]]
        exact ih (k + 1) M N (by omega) (by omega) (fun q k x => (c38_0 q k x).trans ((c32_0 q k x).trans (hM q k x))) (fun q k x y => (c38_1 q k x y).trans ((c32_1 q k x).trans (hN q k x y)))
set_option maxRecDepth 100000 in
theorem mX1_lettersSent {G : q_G} {sz : Nat} {T : q_T} {I L : q_I} {P : q_P} {Q : q_Q} {f : Nat} {w : Nat} {p mn nn : Nat} {r : Nat → Int} (hW : q_SW T P w) (hWA : q_A G w) (hfT : T f = some (.inl 1)) (hfP : P f 0 = some p) (hO : T p = some (.inl 0)) (hOA : q_A G p) (hsep : p < w ∨ w + 47 ≤ p) (hz : g_Zr r) (hV : g_VR r) (hWR : q_WR I L w r (r 2)) (h1 : r 1 = (mn : Int)) (hn6 : nn ≤ 600) (k0 : ∀ M9 N9 : q_I, (∀ q k, q ≠ p → M9 q k = I q k) → (∀ q k, q ≠ p → q ≠ w + 8 → N9 q k = L q k) → Q (.inl (some (qI (g_sum (fun c => (g_run (r 2) (nn : Int) c nn 1 r).2 (1046 + 12 * c) - r (1046 + 12 * c)) mn)))) sz T M9 N9 P) : qC G 6 0 0 YX1_lettersSent [.ref f, .ref w, qI (nn : Int)] sz T I L P Q := by
  refine qC_of (by decide +kernel) rfl rfl (Nat.le_of_ble_eq_true rfl) (fun F hF _ _ => ?_)
  refine q_iconst hF dX1_lettersSent_0 ?_
  refine q_istore_n hF (ls' := [(3, qI 0), (0, .ref f), (1, .ref w), (2, qI (nn : Int))]) rfl (by decide) rfl dX1_lettersSent_1 ?_
  refine q_iconst hF dX1_lettersSent_2 ?_
  refine q_istore hF (ls' := [(4, qI 0), (3, qI 0), (0, .ref f), (1, .ref w), (2, qI (nn : Int))]) (by decide) rfl dX1_lettersSent_3 ?_
  exact lX1_lettersSent (by decide) hF hW hWA hfT hfP hO hOA hsep hz hV hWR h1 hn6 k0 (mn + 1) 0 I L (by omega) (Nat.zero_le _) (fun _ _ _ => rfl) (fun _ _ _ _ => rfl)
