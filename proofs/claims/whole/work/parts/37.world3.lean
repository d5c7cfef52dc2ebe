/-! the class: the world adds up -/
set_option maxRecDepth 100000 in
theorem mX0_isHeldByR {G : q_G} {sz : Nat} {T : q_T} {I L : q_I} {P : q_P} {Q : q_Q} {o : Nat} {l : Int} {a : Nat} {r : Nat → Int} (hO : T o = some (.inl 0)) (hAR : q_AR I o r a) (hst : 0 ≤ r (1043 + 12 * a) ∧ r (1043 + 12 * a) ≤ 4) (hh : -1 ≤ r (1047 + 12 * a) ∧ r (1047 + 12 * a) ≤ 5) (hl : -2147483648 ≤ l ∧ l < 2147483648) (k0 : Q (.inl (some (qI (q_b (r (1043 + 12 * a) = 2 ∧ r (1047 + 12 * a) = l))))) sz T I L P) : qC G 0 0 0 YX0_isHeldBy [.ref o, qI l] sz T I L P Q := by
  refine qC_of (by decide +kernel) rfl rfl (Nat.le_of_ble_eq_true rfl) (fun F hF _ _ => ?_)
  refine q_aload_n hF 0 rfl rfl dX0_isHeldBy_0 ?_
  refine q_getIv hF (z := r (1043 + 12 * a)) fl_RX0_24 hO hAR.state dX0_isHeldBy_1 ?_
  refine q_iconst hF dX0_isHeldBy_4 ?_
  refine q_icmpne hF (by omega) (by decide) dX0_isHeldBy_5 (fun c5 => ?_) (fun c5 => ?_)
  · refine q_iconst hF dX0_isHeldBy_20 ?_
    refine q_zreturn hF (by decide) rfl dX0_isHeldBy_21 ?_
    rw [q_b_f (c := r (1043 + 12 * a) = 2 ∧ r (1047 + 12 * a) = l) (by omega)] at k0; exact k0
  · refine q_aload_n hF 0 rfl rfl dX0_isHeldBy_8 ?_
    refine q_getIv hF (z := r (1047 + 12 * a)) fl_RX0_39 hO hAR.holder dX0_isHeldBy_9 ?_
    refine q_iload_n hF 1 rfl rfl dX0_isHeldBy_12 ?_
    refine q_icmpne hF (by omega) hl dX0_isHeldBy_13 (fun c13 => ?_) (fun c13 => ?_)
    · refine q_iconst hF dX0_isHeldBy_20 ?_
      refine q_zreturn hF (by decide) rfl dX0_isHeldBy_21 ?_
      rw [q_b_f (c := r (1043 + 12 * a) = 2 ∧ r (1047 + 12 * a) = l) (by omega)] at k0; exact k0
    · refine q_iconst hF dX0_isHeldBy_16 ?_
      refine q_goto hF dX0_isHeldBy_17 ?_
      refine q_zreturn hF (by decide) rfl dX0_isHeldBy_21 ?_
      rw [q_b_t (c := r (1043 + 12 * a) = 2 ∧ r (1047 + 12 * a) = l) (by omega)] at k0; exact k0
set_option maxRecDepth 100000 in
theorem lX6_accountsHeldBy {G : q_G} {F : q_F} {h : Nat} {Q : q_Q} {kc ks sz : Nat} {T : q_T} {w mn : Nat} {bd mo : Int} {r : Nat → Int} {l : Nat} {I L : q_I} {P : q_P} (h1 : 1 ≤ h) (hF : q_ok G F YX6_accountsHeldBy h) (hW : q_SW T P w) (hWR : q_WR I L w r mo) (hv : g_V0 r) (hmn : r 1 = (mn : Int)) (hvs : ∀ i : Nat, i < mn → g_VA r i bd) (hl5 : l < 5) (k0 : Q (.inl (some (qI (g_set (fun k => r (1043 + 12 * k) = 2 ∧ r (1047 + 12 * k) = (l : Int)) mn)))) sz T I L P) : ∀ (n : Nat) (k : Nat), mn - k < n → k ≤ mn → qX G F Q kc ks 4 [(3, qI (k : Int)), (2, qI (g_set (fun k => r (1043 + 12 * k) = 2 ∧ r (1047 + 12 * k) = (l : Int)) k)), (0, .ref w), (1, qI (l : Int))] [] sz T I L P := by
  intro n
  induction n with
  | zero => intro k hn; exact absurd hn (Nat.not_lt_zero _)
  | succ n ih =>
    intro k hn hk
    have hm12 := hv.many
    have hr12 := hv.rows
    refine q_iload_n hF 0 rfl rfl dX6_accountsHeldBy_4 ?_
    refine q_aload_n hF 2 rfl rfl dX6_accountsHeldBy_5 ?_
    refine q_getIv hF (z := (mn : Int)) fl_RX6_41 hW.t0 (hWR.cnt.trans hmn) dX6_accountsHeldBy_6 ?_
    refine q_icmpge hF (by have q1 := hv.many; have q2 := hv.rows; omega) (by have q1 := hv.many; have q2 := hv.rows; omega) dX6_accountsHeldBy_9 (fun c9 => ?_) (fun c9 => ?_)
    · refine q_iload_n hF 1 rfl rfl dX6_accountsHeldBy_37 ?_
      refine q_ireturn hF rfl dX6_accountsHeldBy_38 ?_
      rw [show k = mn by omega]; exact k0
    · have hA := hvs k (by omega)
      refine q_aload_n hF 2 rfl rfl dX6_accountsHeldBy_12 ?_
      refine q_getA hF fl_RX6_20 rfl hW.t0 hW.p1 dX6_accountsHeldBy_13 ?_
      refine q_iload_n hF 0 rfl rfl dX6_accountsHeldBy_16 ?_
      refine q_aaloadv hF (b := w + 35 + k) k hW.t19 (by decide) rfl (by omega) (by decide) (hW.pa _ (by omega)) dX6_accountsHeldBy_17 ?_
      refine q_iload_n hF 3 rfl rfl dX6_accountsHeldBy_18 ?_
      refine q_callV (kc := kc) (ks := ks) (mc' := 0) (ms' := 0) (h' := 0) (st := []) hF vl_RX6_104 rfl [qI (l : Int)] rfl rfl (hW.ta _ (by omega)) (by omega) (Nat.le_of_ble_eq_true rfl) dX6_accountsHeldBy_19 ?_
      refine mX0_isHeldByR (r := r) (a := k) (hW.ta _ (by omega)) (hWR.acc k (by omega)) hA.state (by have q1 := hA.holder; have q2 := hv.lands; omega) (by have q1 := hv.many; have q2 := hv.rows; omega) ?_
      refine q_ifeq_b hF dX6_accountsHeldBy_22 (fun c22 => ?_) (fun c22 => ?_)
      · refine q_iinc hF (z' := ((1 + k : Nat) : Int)) (ls' := [(3, qI ((1 + k : Nat) : Int)), (2, qI (g_set (fun k => r (1043 + 12 * k) = 2 ∧ r (1047 + 12 * k) = (l : Int)) k)), (0, .ref w), (1, qI (l : Int))]) 0 rfl (by first | rfl | omega) (by decide) rfl dX6_accountsHeldBy_31 ?_
        refine q_goto hF dX6_accountsHeldBy_34 ?_
        rw [Nat.add_comm 1 k]
        rw [show qI (g_set (fun k => r (1043 + 12 * k) = 2 ∧ r (1047 + 12 * k) = (l : Int)) k) = qI (g_set (fun k => r (1043 + 12 * k) = 2 ∧ r (1047 + 12 * k) = (l : Int)) (k + 1)) from congrArg Value.int ((q_or0 _).symm.trans (q_set_n _ k (by omega)))]
        exact ih (k + 1) (by omega) (by omega)
      · refine q_iload_n hF 1 rfl rfl dX6_accountsHeldBy_25 ?_
        refine q_iconst hF dX6_accountsHeldBy_26 ?_
        refine q_iload_n hF 0 rfl rfl dX6_accountsHeldBy_27 ?_
        refine q_ishl hF (c0 := ((2 ^ k : Nat) : Int)) (q_shlN (by omega)) dX6_accountsHeldBy_28 ?_
        refine q_ior hF (c0 := g_set (fun k => r (1043 + 12 * k) = 2 ∧ r (1047 + 12 * k) = (l : Int)) (k + 1)) (q_set_s _ _ (by omega)) dX6_accountsHeldBy_29 ?_
        refine q_istore_n hF (ls' := [(2, qI (g_set (fun k => r (1043 + 12 * k) = 2 ∧ r (1047 + 12 * k) = (l : Int)) (k + 1))), (3, qI (k : Int)), (0, .ref w), (1, qI (l : Int))]) rfl (by decide) rfl dX6_accountsHeldBy_30 ?_
        refine q_iinc hF (z' := ((1 + k : Nat) : Int)) (ls' := [(3, qI ((1 + k : Nat) : Int)), (2, qI (g_set (fun k => r (1043 + 12 * k) = 2 ∧ r (1047 + 12 * k) = (l : Int)) (k + 1))), (0, .ref w), (1, qI (l : Int))]) 1 rfl (by first | rfl | omega) (by decide) rfl dX6_accountsHeldBy_31 ?_
        refine q_goto hF dX6_accountsHeldBy_34 ?_
        rw [Nat.add_comm 1 k]
        exact ih (k + 1) (by omega) (by omega)
set_option maxRecDepth 100000 in
theorem mX6_accountsHeldBy {G : q_G} {sz : Nat} {T : q_T} {I L : q_I} {P : q_P} {Q : q_Q} {w : Nat} {mn : Nat} {bd mo : Int} {r : Nat → Int} {l : Nat} (hW : q_SW T P w) (hWR : q_WR I L w r mo) (hv : g_V0 r) (hmn : r 1 = (mn : Int)) (hvs : ∀ i : Nat, i < mn → g_VA r i bd) (hl5 : l < 5) (k0 : Q (.inl (some (qI (g_set (fun k => r (1043 + 12 * k) = 2 ∧ r (1047 + 12 * k) = (l : Int)) mn)))) sz T I L P) : qC G 1 0 0 YX6_accountsHeldBy [.ref w, qI (l : Int)] sz T I L P Q := by
  refine qC_of (by decide +kernel) rfl rfl (Nat.le_of_ble_eq_true rfl) (fun F hF _ _ => ?_)
  refine q_iconst hF dX6_accountsHeldBy_0 ?_
  refine q_istore_n hF (ls' := [(2, qI 0), (0, .ref w), (1, qI (l : Int))]) rfl (by decide) rfl dX6_accountsHeldBy_1 ?_
  refine q_iconst hF dX6_accountsHeldBy_2 ?_
  refine q_istore_n hF (ls' := [(3, qI 0), (2, qI 0), (0, .ref w), (1, qI (l : Int))]) rfl (by decide) rfl dX6_accountsHeldBy_3 ?_
  exact lX6_accountsHeldBy (by decide) hF hW hWR hv hmn hvs hl5 k0 (mn + 1) 0 (by omega) (Nat.zero_le _)
set_option maxRecDepth 100000 in
theorem lX6_centsHeldBy {G : q_G} {F : q_F} {h : Nat} {Q : q_Q} {kc ks sz : Nat} {T : q_T} {w mn : Nat} {bd mo : Int} {r : Nat → Int} {l : Nat} {I L : q_I} {P : q_P} (h1 : 1 ≤ h) (hF : q_ok G F YX6_centsHeldBy h) (hW : q_SW T P w) (hWR : q_WR I L w r mo) (hv : g_V0 r) (hmn : r 1 = (mn : Int)) (hvs : ∀ i : Nat, i < mn → g_VA r i bd) (hl5 : l < 5) (k0 : Q (.inl (some (qL (g_sum (g_heldC r (l : Int)) mn)))) sz T I L P) : ∀ (n : Nat) (k : Nat), mn - k < n → k ≤ mn → qX G F Q kc ks 5 [(4, qI (k : Int)), (2, qL (g_sum (g_heldC r (l : Int)) k)), (0, .ref w), (1, qI (l : Int))] [] sz T I L P := by
  intro n
  induction n with
  | zero => intro k hn; exact absurd hn (Nat.not_lt_zero _)
  | succ n ih =>
    intro k hn hk
    have hm12 := hv.many
    have hr12 := hv.rows
    refine q_iload hF 0 rfl dX6_centsHeldBy_5 ?_
    refine q_aload_n hF 2 rfl rfl dX6_centsHeldBy_7 ?_
    refine q_getIv hF (z := (mn : Int)) fl_RX6_41 hW.t0 (hWR.cnt.trans hmn) dX6_centsHeldBy_8 ?_
    refine q_icmpge hF (by have q1 := hv.many; have q2 := hv.rows; omega) (by have q1 := hv.many; have q2 := hv.rows; omega) dX6_centsHeldBy_11 (fun c11 => ?_) (fun c11 => ?_)
    · refine q_lload_n hF 1 rfl rfl dX6_centsHeldBy_52 ?_
      refine q_lreturn hF rfl dX6_centsHeldBy_53 ?_
      rw [show k = mn by omega]; exact k0
    · have hA := hvs k (by omega)
      refine q_lload_n hF 1 rfl rfl dX6_centsHeldBy_14 ?_
      have hJ15 : qX G F Q kc ks 44 [(4, qI (k : Int)), (2, qL (g_sum (g_heldC r (l : Int)) k)), (0, .ref w), (1, qI (l : Int))] [qL (g_heldC r (l : Int) k), qL (g_sum (g_heldC r (l : Int)) k)] sz T I L P := by
        refine q_ladd hF dX6_centsHeldBy_44 ?_
        refine q_lstore_n hF (ls' := [(2, qL ((g_sum (g_heldC r (l : Int)) k) + (g_heldC r (l : Int) k))), (4, qI (k : Int)), (0, .ref w), (1, qI (l : Int))]) rfl (by decide) rfl dX6_centsHeldBy_45 ?_
        refine q_iinc hF (z' := ((1 + k : Nat) : Int)) (ls' := [(4, qI ((1 + k : Nat) : Int)), (2, qL ((g_sum (g_heldC r (l : Int)) k) + (g_heldC r (l : Int) k))), (0, .ref w), (1, qI (l : Int))]) 1 rfl (by first | rfl | omega) (by decide) rfl dX6_centsHeldBy_46 ?_
        refine q_goto hF dX6_centsHeldBy_49 ?_
        rw [Nat.add_comm 1 k]
        rw [show ((g_sum (g_heldC r (l : Int)) k) + (g_heldC r (l : Int) k)) = g_sum (g_heldC r (l : Int)) (k + 1) from rfl]
        exact ih (k + 1) (by omega) (by omega)
      refine q_aload_n hF 2 rfl rfl dX6_centsHeldBy_15 ?_
      refine q_getA hF fl_RX6_20 rfl hW.t0 hW.p1 dX6_centsHeldBy_16 ?_
      refine q_iload hF 0 rfl dX6_centsHeldBy_19 ?_
      refine q_aaloadv hF (b := w + 35 + k) k hW.t19 (by decide) rfl (by omega) (by decide) (hW.pa _ (by omega)) dX6_centsHeldBy_21 ?_
      refine q_iload_n hF 3 rfl rfl dX6_centsHeldBy_22 ?_
      refine q_callV (kc := kc) (ks := ks) (mc' := 0) (ms' := 0) (h' := 0) (st := [qL (g_sum (g_heldC r (l : Int)) k)]) hF vl_RX6_104 rfl [qI (l : Int)] rfl rfl (hW.ta _ (by omega)) (by omega) (Nat.le_of_ble_eq_true rfl) dX6_centsHeldBy_23 ?_
      refine mX0_isHeldByR (r := r) (a := k) (hW.ta _ (by omega)) (hWR.acc k (by omega)) hA.state (by have q1 := hA.holder; have q2 := hv.lands; omega) (by have q1 := hv.many; have q2 := hv.rows; omega) ?_
      refine q_ifeq_b hF dX6_centsHeldBy_26 (fun c26 => ?_) (fun c26 => ?_)
      · refine q_lconst hF (z := 0) rfl dX6_centsHeldBy_43 ?_
        rw [show (g_heldC r (l : Int) k) = 0 from by unfold g_heldC; first | exact if_pos (by omega) | exact if_neg (by omega)] at hJ15; exact hJ15
      · refine q_aload_n hF 2 rfl rfl dX6_centsHeldBy_29 ?_
        refine q_getA hF fl_RX6_20 rfl hW.t0 hW.p1 dX6_centsHeldBy_30 ?_
        refine q_iload hF 0 rfl dX6_centsHeldBy_33 ?_
        refine q_aaloadv hF (b := w + 35 + k) k hW.t19 (by decide) rfl (by omega) (by decide) (hW.pa _ (by omega)) dX6_centsHeldBy_35 ?_
        refine q_getIv hF (z := r (1042 + 12 * k)) fl_RX6_85 (hW.ta _ (by omega)) (hWR.acc k (by omega)).cents dX6_centsHeldBy_36 ?_
        refine q_i2l hF (by have q1 := hv.many; have q2 := hv.rows; have q3 := hA.state; have q4 := hA.cents; omega) dX6_centsHeldBy_39 ?_
        refine q_goto hF dX6_centsHeldBy_40 ?_
        rw [show (g_heldC r (l : Int) k) = (r (1042 + 12 * k)) from by unfold g_heldC; first | exact if_pos (by omega) | exact if_neg (by omega)] at hJ15; exact hJ15
set_option maxRecDepth 100000 in
theorem mX6_centsHeldBy {G : q_G} {sz : Nat} {T : q_T} {I L : q_I} {P : q_P} {Q : q_Q} {w : Nat} {mn : Nat} {bd mo : Int} {r : Nat → Int} {l : Nat} (hW : q_SW T P w) (hWR : q_WR I L w r mo) (hv : g_V0 r) (hmn : r 1 = (mn : Int)) (hvs : ∀ i : Nat, i < mn → g_VA r i bd) (hl5 : l < 5) (k0 : Q (.inl (some (qL (g_sum (g_heldC r (l : Int)) mn)))) sz T I L P) : qC G 1 0 0 YX6_centsHeldBy [.ref w, qI (l : Int)] sz T I L P Q := by
  refine qC_of (by decide +kernel) rfl rfl (Nat.le_of_ble_eq_true rfl) (fun F hF _ _ => ?_)
  refine q_lconst hF (z := 0) rfl dX6_centsHeldBy_0 ?_
  refine q_lstore_n hF (ls' := [(2, qL 0), (0, .ref w), (1, qI (l : Int))]) rfl (by decide) rfl dX6_centsHeldBy_1 ?_
  refine q_iconst hF dX6_centsHeldBy_2 ?_
  refine q_istore hF (ls' := [(4, qI 0), (2, qL 0), (0, .ref w), (1, qI (l : Int))]) (by decide) rfl dX6_centsHeldBy_3 ?_
  exact lX6_centsHeldBy (by decide) hF hW hWR hv hmn hvs hl5 k0 (mn + 1) 0 (by omega) (Nat.zero_le _)
set_option maxRecDepth 100000 in
theorem lX6_centsInRowsOf {G : q_G} {F : q_F} {h : Nat} {Q : q_Q} {kc ks sz : Nat} {T : q_T} {w rn : Nat} {mo : Int} {r : Nat → Int} {l : Nat} {I L : q_I} {P : q_P} (h1 : 1 ≤ h) (hF : q_ok G F YX6_centsInRowsOf h) (hW : q_SW T P w) (hWR : q_WR I L w r mo) (hv : g_V0 r) (hrn : r 6 = (rn : Int)) (hrw : g_RW r) (hl5 : l < 5) (k0 : Q (.inl (some (qL (g_sum (g_rowC r (l : Int)) rn)))) sz T I L P) : ∀ (n : Nat) (k : Nat), rn - k < n → k ≤ rn → qX G F Q kc ks 5 [(4, qI (k : Int)), (2, qL (g_sum (g_rowC r (l : Int)) k)), (0, .ref w), (1, qI (l : Int))] [] sz T I L P := by
  intro n
  induction n with
  | zero => intro k hn; exact absurd hn (Nat.not_lt_zero _)
  | succ n ih =>
    intro k hn hk
    have hm12 := hv.many
    have hr12 := hv.rows
    refine q_iload hF 0 rfl dX6_centsInRowsOf_5 ?_
    refine q_aload_n hF 2 rfl rfl dX6_centsInRowsOf_7 ?_
    refine q_getIv hF (z := (rn : Int)) fl_RX6_48 hW.t0 (hWR.rows.trans hrn) dX6_centsInRowsOf_8 ?_
    refine q_icmpge hF (by have q1 := hv.many; have q2 := hv.rows; omega) (by have q1 := hv.many; have q2 := hv.rows; omega) dX6_centsInRowsOf_11 (fun c11 => ?_) (fun c11 => ?_)
    · refine q_lload_n hF 1 rfl rfl dX6_centsInRowsOf_50 ?_
      refine q_lreturn hF rfl dX6_centsInRowsOf_51 ?_
      rw [show k = rn by omega]; exact k0
    · refine q_lload_n hF 1 rfl rfl dX6_centsInRowsOf_14 ?_
      have hJ15 : qX G F Q kc ks 42 [(4, qI (k : Int)), (2, qL (g_sum (g_rowC r (l : Int)) k)), (0, .ref w), (1, qI (l : Int))] [qL (g_rowC r (l : Int) k), qL (g_sum (g_rowC r (l : Int)) k)] sz T I L P := by
        refine q_ladd hF dX6_centsInRowsOf_42 ?_
        refine q_lstore_n hF (ls' := [(2, qL ((g_sum (g_rowC r (l : Int)) k) + (g_rowC r (l : Int) k))), (4, qI (k : Int)), (0, .ref w), (1, qI (l : Int))]) rfl (by decide) rfl dX6_centsInRowsOf_43 ?_
        refine q_iinc hF (z' := ((1 + k : Nat) : Int)) (ls' := [(4, qI ((1 + k : Nat) : Int)), (2, qL ((g_sum (g_rowC r (l : Int)) k) + (g_rowC r (l : Int) k))), (0, .ref w), (1, qI (l : Int))]) 1 rfl (by first | rfl | omega) (by decide) rfl dX6_centsInRowsOf_44 ?_
        refine q_goto hF dX6_centsInRowsOf_47 ?_
        rw [Nat.add_comm 1 k]
        rw [show ((g_sum (g_rowC r (l : Int)) k) + (g_rowC r (l : Int) k)) = g_sum (g_rowC r (l : Int)) (k + 1) from rfl]
        exact ih (k + 1) (by omega) (by omega)
      refine q_aload_n hF 2 rfl rfl dX6_centsInRowsOf_15 ?_
      refine q_getA hF fl_RX6_26 rfl hW.t0 hW.p4 dX6_centsInRowsOf_16 ?_
      refine q_iload hF 0 rfl dX6_centsInRowsOf_19 ?_
      refine q_aaloadv hF (b := w + 21 + k) k hW.t20 (by decide) rfl (by omega) (by decide) (hW.pk _ (by omega)) dX6_centsInRowsOf_21 ?_
      refine q_iconst hF dX6_centsInRowsOf_22 ?_
      refine q_ialoadv hF (z := r (1185 + 5 * k)) (n := 5) 2 (hW.tk _ (by omega)) rfl (by decide) (by decide) ((hWR.book k 2 (by omega) (by decide)).trans (congrArg r (by omega))) dX6_centsInRowsOf_23 ?_
      refine q_iload_n hF 3 rfl rfl dX6_centsInRowsOf_24 ?_
      refine q_icmpne hF (by have q1 := hv.many; have q2 := hv.rows; have q5 := hrw k (by omega); omega) (by have q1 := hv.many; have q2 := hv.rows; omega) dX6_centsInRowsOf_25 (fun c25 => ?_) (fun c25 => ?_)
      · refine q_lconst hF (z := 0) rfl dX6_centsInRowsOf_41 ?_
        rw [show (g_rowC r (l : Int) k) = 0 from by unfold g_rowC; first | exact if_pos (by omega) | exact if_neg (by omega)] at hJ15; exact hJ15
      · refine q_aload_n hF 2 rfl rfl dX6_centsInRowsOf_28 ?_
        refine q_getA hF fl_RX6_26 rfl hW.t0 hW.p4 dX6_centsInRowsOf_29 ?_
        refine q_iload hF 0 rfl dX6_centsInRowsOf_32 ?_
        refine q_aaloadv hF (b := w + 21 + k) k hW.t20 (by decide) rfl (by omega) (by decide) (hW.pk _ (by omega)) dX6_centsInRowsOf_34 ?_
        refine q_iconst hF dX6_centsInRowsOf_35 ?_
        refine q_ialoadv hF (z := r (1186 + 5 * k)) (n := 5) 3 (hW.tk _ (by omega)) rfl (by decide) (by decide) ((hWR.book k 3 (by omega) (by decide)).trans (congrArg r (by omega))) dX6_centsInRowsOf_36 ?_
        refine q_i2l hF (by have q1 := hv.many; have q2 := hv.rows; have q5 := hrw k (by omega); omega) dX6_centsInRowsOf_37 ?_
        refine q_goto hF dX6_centsInRowsOf_38 ?_
        rw [show (g_rowC r (l : Int) k) = (r (1186 + 5 * k)) from by unfold g_rowC; first | exact if_pos (by omega) | exact if_neg (by omega)] at hJ15; exact hJ15
set_option maxRecDepth 100000 in
theorem mX6_centsInRowsOf {G : q_G} {sz : Nat} {T : q_T} {I L : q_I} {P : q_P} {Q : q_Q} {w : Nat} {rn : Nat} {mo : Int} {r : Nat → Int} {l : Nat} (hW : q_SW T P w) (hWR : q_WR I L w r mo) (hv : g_V0 r) (hrn : r 6 = (rn : Int)) (hrw : g_RW r) (hl5 : l < 5) (k0 : Q (.inl (some (qL (g_sum (g_rowC r (l : Int)) rn)))) sz T I L P) : qC G 1 0 0 YX6_centsInRowsOf [.ref w, qI (l : Int)] sz T I L P Q := by
  refine qC_of (by decide +kernel) rfl rfl (Nat.le_of_ble_eq_true rfl) (fun F hF _ _ => ?_)
  refine q_lconst hF (z := 0) rfl dX6_centsInRowsOf_0 ?_
  refine q_lstore_n hF (ls' := [(2, qL 0), (0, .ref w), (1, qI (l : Int))]) rfl (by decide) rfl dX6_centsInRowsOf_1 ?_
  refine q_iconst hF dX6_centsInRowsOf_2 ?_
  refine q_istore hF (ls' := [(4, qI 0), (2, qL 0), (0, .ref w), (1, qI (l : Int))]) (by decide) rfl dX6_centsInRowsOf_3 ?_
  exact lX6_centsInRowsOf (by decide) hF hW hWR hv hrn hrw hl5 k0 (rn + 1) 0 (by omega) (Nat.zero_le _)
set_option maxRecDepth 100000 in
theorem lX6_lettersSent {G : q_G} {F : q_F} {h : Nat} {Q : q_Q} {kc ks sz : Nat} {T : q_T} {w mn : Nat} {bd mo : Int} {r : Nat → Int}  {I L : q_I} {P : q_P} (h1 : 1 ≤ h) (hF : q_ok G F YX6_lettersSent h) (hW : q_SW T P w) (hWR : q_WR I L w r mo) (hv : g_V0 r) (hmn : r 1 = (mn : Int)) (hvs : ∀ i : Nat, i < mn → g_VA r i bd) (k0 : Q (.inl (some (qI (g_sum (fun i => r (1046 + 12 * i)) mn)))) sz T I L P) : ∀ (n : Nat) (k : Nat), mn - k < n → k ≤ mn → qX G F Q kc ks 4 [(2, qI (k : Int)), (1, qI (g_sum (fun i => r (1046 + 12 * i)) k)), (0, .ref w)] [] sz T I L P := by
  intro n
  induction n with
  | zero => intro k hn; exact absurd hn (Nat.not_lt_zero _)
  | succ n ih =>
    intro k hn hk
    have hm12 := hv.many
    have hr12 := hv.rows
    refine q_iload_n hF 0 rfl rfl dX6_lettersSent_4 ?_
    refine q_aload_n hF 2 rfl rfl dX6_lettersSent_5 ?_
    refine q_getIv hF (z := (mn : Int)) fl_RX6_41 hW.t0 (hWR.cnt.trans hmn) dX6_lettersSent_6 ?_
    refine q_icmpge hF (by have q1 := hv.many; have q2 := hv.rows; omega) (by have q1 := hv.many; have q2 := hv.rows; omega) dX6_lettersSent_9 (fun c9 => ?_) (fun c9 => ?_)
    · refine q_iload_n hF 1 rfl rfl dX6_lettersSent_30 ?_
      refine q_ireturn hF rfl dX6_lettersSent_31 ?_
      rw [show k = mn by omega]; exact k0
    · refine q_iload_n hF 1 rfl rfl dX6_lettersSent_12 ?_
      refine q_aload_n hF 2 rfl rfl dX6_lettersSent_13 ?_
      refine q_getA hF fl_RX6_20 rfl hW.t0 hW.p1 dX6_lettersSent_14 ?_
      refine q_iload_n hF 0 rfl rfl dX6_lettersSent_17 ?_
      refine q_aaloadv hF (b := w + 35 + k) k hW.t19 (by decide) rfl (by omega) (by decide) (hW.pa _ (by omega)) dX6_lettersSent_18 ?_
      refine q_getIv hF (z := r (1046 + 12 * k)) fl_RX6_107 (hW.ta _ (by omega)) (hWR.acc k (by omega)).wrote dX6_lettersSent_19 ?_
      refine q_iadd hF dX6_lettersSent_22 ?_
      refine q_istore_n hF (ls' := [(1, qI ((g_sum (fun i => r (1046 + 12 * i)) k) + (r (1046 + 12 * k)))), (2, qI (k : Int)), (0, .ref w)]) rfl (by decide) rfl dX6_lettersSent_23 ?_
      refine q_iinc hF (z' := ((1 + k : Nat) : Int)) (ls' := [(2, qI ((1 + k : Nat) : Int)), (1, qI ((g_sum (fun i => r (1046 + 12 * i)) k) + (r (1046 + 12 * k)))), (0, .ref w)]) 1 rfl (by first | rfl | omega) (by decide) rfl dX6_lettersSent_24 ?_
      refine q_goto hF dX6_lettersSent_27 ?_
      rw [Nat.add_comm 1 k]
      rw [show ((g_sum (fun i => r (1046 + 12 * i)) k) + (r (1046 + 12 * k))) = g_sum (fun i => r (1046 + 12 * i)) (k + 1) from rfl]
      exact ih (k + 1) (by omega) (by omega)
set_option maxRecDepth 100000 in
theorem mX6_lettersSent {G : q_G} {sz : Nat} {T : q_T} {I L : q_I} {P : q_P} {Q : q_Q} {w : Nat} {mn : Nat} {bd mo : Int} {r : Nat → Int}  (hW : q_SW T P w) (hWR : q_WR I L w r mo) (hv : g_V0 r) (hmn : r 1 = (mn : Int)) (hvs : ∀ i : Nat, i < mn → g_VA r i bd) (k0 : Q (.inl (some (qI (g_sum (fun i => r (1046 + 12 * i)) mn)))) sz T I L P) : qC G 1 0 0 YX6_lettersSent [.ref w] sz T I L P Q := by
  refine qC_of (by decide +kernel) rfl rfl (Nat.le_of_ble_eq_true rfl) (fun F hF _ _ => ?_)
  refine q_iconst hF dX6_lettersSent_0 ?_
  refine q_istore_n hF (ls' := [(1, qI 0), (0, .ref w)]) rfl (by decide) rfl dX6_lettersSent_1 ?_
  refine q_iconst hF dX6_lettersSent_2 ?_
  refine q_istore_n hF (ls' := [(2, qI 0), (1, qI 0), (0, .ref w)]) rfl (by decide) rfl dX6_lettersSent_3 ?_
  exact lX6_lettersSent (by decide) hF hW hWR hv hmn hvs k0 (mn + 1) 0 (by omega) (Nat.zero_le _)
set_option maxRecDepth 100000 in
theorem lX6_centsBroughtIn {G : q_G} {F : q_F} {h : Nat} {Q : q_Q} {kc ks sz : Nat} {T : q_T} {w mn : Nat} {bd mo : Int} {r : Nat → Int}  {I L : q_I} {P : q_P} (h1 : 1 ≤ h) (hF : q_ok G F YX6_centsBroughtIn h) (hW : q_SW T P w) (hWR : q_WR I L w r mo) (hv : g_V0 r) (hmn : r 1 = (mn : Int)) (hvs : ∀ i : Nat, i < mn → g_VA r i bd) (k0 : Q (.inl (some (qL (r 17)))) sz T I L P) : ∀ (n : Nat) (k : Nat), mn - k < n → k ≤ mn → qX G F Q kc ks 4 [(3, qI (k : Int)), (1, qL (g_sum (fun i => L (w + 35 + i) 12) k)), (0, .ref w)] [] sz T I L P := by
  intro n
  induction n with
  | zero => intro k hn; exact absurd hn (Nat.not_lt_zero _)
  | succ n ih =>
    intro k hn hk
    have hm12 := hv.many
    have hr12 := hv.rows
    refine q_iload_n hF 0 rfl rfl dX6_centsBroughtIn_4 ?_
    refine q_aload_n hF 2 rfl rfl dX6_centsBroughtIn_5 ?_
    refine q_getIv hF (z := (mn : Int)) fl_RX6_41 hW.t0 (hWR.cnt.trans hmn) dX6_centsBroughtIn_6 ?_
    refine q_icmpge hF (by have q1 := hv.many; have q2 := hv.rows; omega) (by have q1 := hv.many; have q2 := hv.rows; omega) dX6_centsBroughtIn_9 (fun c9 => ?_) (fun c9 => ?_)
    · refine q_lload_n hF 1 rfl rfl dX6_centsBroughtIn_30 ?_
      refine q_lreturn hF rfl dX6_centsBroughtIn_31 ?_
      rw [show k = mn by omega, show g_sum (fun i => L (w + 35 + i) 12) mn = r 17 from by rw [← hWR.s17, hmn, Int.toNat_natCast]]; exact k0
    · refine q_lload_n hF 1 rfl rfl dX6_centsBroughtIn_12 ?_
      refine q_aload_n hF 2 rfl rfl dX6_centsBroughtIn_13 ?_
      refine q_getA hF fl_RX6_20 rfl hW.t0 hW.p1 dX6_centsBroughtIn_14 ?_
      refine q_iload_n hF 0 rfl rfl dX6_centsBroughtIn_17 ?_
      refine q_aaloadv hF (b := w + 35 + k) k hW.t19 (by decide) rfl (by omega) (by decide) (hW.pa _ (by omega)) dX6_centsBroughtIn_18 ?_
      refine q_getLv hF (z := L (w + 35 + k) 12) fl_RX6_110 (hW.ta _ (by omega)) rfl dX6_centsBroughtIn_19 ?_
      refine q_ladd hF dX6_centsBroughtIn_22 ?_
      refine q_lstore_n hF (ls' := [(1, qL ((g_sum (fun i => L (w + 35 + i) 12) k) + (L (w + 35 + k) 12))), (3, qI (k : Int)), (0, .ref w)]) rfl (by decide) rfl dX6_centsBroughtIn_23 ?_
      refine q_iinc hF (z' := ((1 + k : Nat) : Int)) (ls' := [(3, qI ((1 + k : Nat) : Int)), (1, qL ((g_sum (fun i => L (w + 35 + i) 12) k) + (L (w + 35 + k) 12))), (0, .ref w)]) 1 rfl (by first | rfl | omega) (by decide) rfl dX6_centsBroughtIn_24 ?_
      refine q_goto hF dX6_centsBroughtIn_27 ?_
      rw [Nat.add_comm 1 k]
      rw [show ((g_sum (fun i => L (w + 35 + i) 12) k) + (L (w + 35 + k) 12)) = g_sum (fun i => L (w + 35 + i) 12) (k + 1) from rfl]
      exact ih (k + 1) (by omega) (by omega)
set_option maxRecDepth 100000 in
theorem mX6_centsBroughtIn {G : q_G} {sz : Nat} {T : q_T} {I L : q_I} {P : q_P} {Q : q_Q} {w : Nat} {mn : Nat} {bd mo : Int} {r : Nat → Int}  (hW : q_SW T P w) (hWR : q_WR I L w r mo) (hv : g_V0 r) (hmn : r 1 = (mn : Int)) (hvs : ∀ i : Nat, i < mn → g_VA r i bd) (k0 : Q (.inl (some (qL (r 17)))) sz T I L P) : qC G 1 0 0 YX6_centsBroughtIn [.ref w] sz T I L P Q := by
  refine qC_of (by decide +kernel) rfl rfl (Nat.le_of_ble_eq_true rfl) (fun F hF _ _ => ?_)
  refine q_lconst hF (z := 0) rfl dX6_centsBroughtIn_0 ?_
  refine q_lstore_n hF (ls' := [(1, qL 0), (0, .ref w)]) rfl (by decide) rfl dX6_centsBroughtIn_1 ?_
  refine q_iconst hF dX6_centsBroughtIn_2 ?_
  refine q_istore_n hF (ls' := [(3, qI 0), (1, qL 0), (0, .ref w)]) rfl (by decide) rfl dX6_centsBroughtIn_3 ?_
  exact lX6_centsBroughtIn (by decide) hF hW hWR hv hmn hvs k0 (mn + 1) 0 (by omega) (Nat.zero_le _)
set_option maxRecDepth 100000 in
theorem lX6_centsCredited {G : q_G} {F : q_F} {h : Nat} {Q : q_Q} {kc ks sz : Nat} {T : q_T} {w mn : Nat} {bd mo : Int} {r : Nat → Int}  {I L : q_I} {P : q_P} (h1 : 1 ≤ h) (hF : q_ok G F YX6_centsCredited h) (hW : q_SW T P w) (hWR : q_WR I L w r mo) (hv : g_V0 r) (hmn : r 1 = (mn : Int)) (hvs : ∀ i : Nat, i < mn → g_VA r i bd) (k0 : Q (.inl (some (qL (r 18)))) sz T I L P) : ∀ (n : Nat) (k : Nat), mn - k < n → k ≤ mn → qX G F Q kc ks 4 [(3, qI (k : Int)), (1, qL (g_sum (fun i => L (w + 35 + i) 13) k)), (0, .ref w)] [] sz T I L P := by
  intro n
  induction n with
  | zero => intro k hn; exact absurd hn (Nat.not_lt_zero _)
  | succ n ih =>
    intro k hn hk
    have hm12 := hv.many
    have hr12 := hv.rows
    refine q_iload_n hF 0 rfl rfl dX6_centsCredited_4 ?_
    refine q_aload_n hF 2 rfl rfl dX6_centsCredited_5 ?_
    refine q_getIv hF (z := (mn : Int)) fl_RX6_41 hW.t0 (hWR.cnt.trans hmn) dX6_centsCredited_6 ?_
    refine q_icmpge hF (by have q1 := hv.many; have q2 := hv.rows; omega) (by have q1 := hv.many; have q2 := hv.rows; omega) dX6_centsCredited_9 (fun c9 => ?_) (fun c9 => ?_)
    · refine q_lload_n hF 1 rfl rfl dX6_centsCredited_30 ?_
      refine q_lreturn hF rfl dX6_centsCredited_31 ?_
      rw [show k = mn by omega, show g_sum (fun i => L (w + 35 + i) 13) mn = r 18 from by rw [← hWR.s18, hmn, Int.toNat_natCast]]; exact k0
    · refine q_lload_n hF 1 rfl rfl dX6_centsCredited_12 ?_
      refine q_aload_n hF 2 rfl rfl dX6_centsCredited_13 ?_
      refine q_getA hF fl_RX6_20 rfl hW.t0 hW.p1 dX6_centsCredited_14 ?_
      refine q_iload_n hF 0 rfl rfl dX6_centsCredited_17 ?_
      refine q_aaloadv hF (b := w + 35 + k) k hW.t19 (by decide) rfl (by omega) (by decide) (hW.pa _ (by omega)) dX6_centsCredited_18 ?_
      refine q_getLv hF (z := L (w + 35 + k) 13) fl_RX6_113 (hW.ta _ (by omega)) rfl dX6_centsCredited_19 ?_
      refine q_ladd hF dX6_centsCredited_22 ?_
      refine q_lstore_n hF (ls' := [(1, qL ((g_sum (fun i => L (w + 35 + i) 13) k) + (L (w + 35 + k) 13))), (3, qI (k : Int)), (0, .ref w)]) rfl (by decide) rfl dX6_centsCredited_23 ?_
      refine q_iinc hF (z' := ((1 + k : Nat) : Int)) (ls' := [(3, qI ((1 + k : Nat) : Int)), (1, qL ((g_sum (fun i => L (w + 35 + i) 13) k) + (L (w + 35 + k) 13))), (0, .ref w)]) 1 rfl (by first | rfl | omega) (by decide) rfl dX6_centsCredited_24 ?_
      refine q_goto hF dX6_centsCredited_27 ?_
      rw [Nat.add_comm 1 k]
      rw [show ((g_sum (fun i => L (w + 35 + i) 13) k) + (L (w + 35 + k) 13)) = g_sum (fun i => L (w + 35 + i) 13) (k + 1) from rfl]
      exact ih (k + 1) (by omega) (by omega)
set_option maxRecDepth 100000 in
theorem mX6_centsCredited {G : q_G} {sz : Nat} {T : q_T} {I L : q_I} {P : q_P} {Q : q_Q} {w : Nat} {mn : Nat} {bd mo : Int} {r : Nat → Int}  (hW : q_SW T P w) (hWR : q_WR I L w r mo) (hv : g_V0 r) (hmn : r 1 = (mn : Int)) (hvs : ∀ i : Nat, i < mn → g_VA r i bd) (k0 : Q (.inl (some (qL (r 18)))) sz T I L P) : qC G 1 0 0 YX6_centsCredited [.ref w] sz T I L P Q := by
  refine qC_of (by decide +kernel) rfl rfl (Nat.le_of_ble_eq_true rfl) (fun F hF _ _ => ?_)
  refine q_lconst hF (z := 0) rfl dX6_centsCredited_0 ?_
  refine q_lstore_n hF (ls' := [(1, qL 0), (0, .ref w)]) rfl (by decide) rfl dX6_centsCredited_1 ?_
  refine q_iconst hF dX6_centsCredited_2 ?_
  refine q_istore_n hF (ls' := [(3, qI 0), (1, qL 0), (0, .ref w)]) rfl (by decide) rfl dX6_centsCredited_3 ?_
  exact lX6_centsCredited (by decide) hF hW hWR hv hmn hvs k0 (mn + 1) 0 (by omega) (Nat.zero_le _)
set_option maxRecDepth 100000 in
theorem lX6_centsPaidOut {G : q_G} {F : q_F} {h : Nat} {Q : q_Q} {kc ks sz : Nat} {T : q_T} {w mn : Nat} {bd mo : Int} {r : Nat → Int}  {I L : q_I} {P : q_P} (h1 : 1 ≤ h) (hF : q_ok G F YX6_centsPaidOut h) (hW : q_SW T P w) (hWR : q_WR I L w r mo) (hv : g_V0 r) (hmn : r 1 = (mn : Int)) (hvs : ∀ i : Nat, i < mn → g_VA r i bd) (k0 : Q (.inl (some (qL (r 19)))) sz T I L P) : ∀ (n : Nat) (k : Nat), mn - k < n → k ≤ mn → qX G F Q kc ks 4 [(3, qI (k : Int)), (1, qL (g_sum (fun i => L (w + 35 + i) 14) k)), (0, .ref w)] [] sz T I L P := by
  intro n
  induction n with
  | zero => intro k hn; exact absurd hn (Nat.not_lt_zero _)
  | succ n ih =>
    intro k hn hk
    have hm12 := hv.many
    have hr12 := hv.rows
    refine q_iload_n hF 0 rfl rfl dX6_centsPaidOut_4 ?_
    refine q_aload_n hF 2 rfl rfl dX6_centsPaidOut_5 ?_
    refine q_getIv hF (z := (mn : Int)) fl_RX6_41 hW.t0 (hWR.cnt.trans hmn) dX6_centsPaidOut_6 ?_
    refine q_icmpge hF (by have q1 := hv.many; have q2 := hv.rows; omega) (by have q1 := hv.many; have q2 := hv.rows; omega) dX6_centsPaidOut_9 (fun c9 => ?_) (fun c9 => ?_)
    · refine q_lload_n hF 1 rfl rfl dX6_centsPaidOut_30 ?_
      refine q_lreturn hF rfl dX6_centsPaidOut_31 ?_
      rw [show k = mn by omega, show g_sum (fun i => L (w + 35 + i) 14) mn = r 19 from by rw [← hWR.s19, hmn, Int.toNat_natCast]]; exact k0
    · refine q_lload_n hF 1 rfl rfl dX6_centsPaidOut_12 ?_
      refine q_aload_n hF 2 rfl rfl dX6_centsPaidOut_13 ?_
      refine q_getA hF fl_RX6_20 rfl hW.t0 hW.p1 dX6_centsPaidOut_14 ?_
      refine q_iload_n hF 0 rfl rfl dX6_centsPaidOut_17 ?_
      refine q_aaloadv hF (b := w + 35 + k) k hW.t19 (by decide) rfl (by omega) (by decide) (hW.pa _ (by omega)) dX6_centsPaidOut_18 ?_
      refine q_getLv hF (z := L (w + 35 + k) 14) fl_RX6_116 (hW.ta _ (by omega)) rfl dX6_centsPaidOut_19 ?_
      refine q_ladd hF dX6_centsPaidOut_22 ?_
      refine q_lstore_n hF (ls' := [(1, qL ((g_sum (fun i => L (w + 35 + i) 14) k) + (L (w + 35 + k) 14))), (3, qI (k : Int)), (0, .ref w)]) rfl (by decide) rfl dX6_centsPaidOut_23 ?_
      refine q_iinc hF (z' := ((1 + k : Nat) : Int)) (ls' := [(3, qI ((1 + k : Nat) : Int)), (1, qL ((g_sum (fun i => L (w + 35 + i) 14) k) + (L (w + 35 + k) 14))), (0, .ref w)]) 1 rfl (by first | rfl | omega) (by decide) rfl dX6_centsPaidOut_24 ?_
      refine q_goto hF dX6_centsPaidOut_27 ?_
      rw [Nat.add_comm 1 k]
      rw [show ((g_sum (fun i => L (w + 35 + i) 14) k) + (L (w + 35 + k) 14)) = g_sum (fun i => L (w + 35 + i) 14) (k + 1) from rfl]
      exact ih (k + 1) (by omega) (by omega)
set_option maxRecDepth 100000 in
theorem mX6_centsPaidOut {G : q_G} {sz : Nat} {T : q_T} {I L : q_I} {P : q_P} {Q : q_Q} {w : Nat} {mn : Nat} {bd mo : Int} {r : Nat → Int}  (hW : q_SW T P w) (hWR : q_WR I L w r mo) (hv : g_V0 r) (hmn : r 1 = (mn : Int)) (hvs : ∀ i : Nat, i < mn → g_VA r i bd) (k0 : Q (.inl (some (qL (r 19)))) sz T I L P) : qC G 1 0 0 YX6_centsPaidOut [.ref w] sz T I L P Q := by
  refine qC_of (by decide +kernel) rfl rfl (Nat.le_of_ble_eq_true rfl) (fun F hF _ _ => ?_)
  refine q_lconst hF (z := 0) rfl dX6_centsPaidOut_0 ?_
  refine q_lstore_n hF (ls' := [(1, qL 0), (0, .ref w)]) rfl (by decide) rfl dX6_centsPaidOut_1 ?_
  refine q_iconst hF dX6_centsPaidOut_2 ?_
  refine q_istore_n hF (ls' := [(3, qI 0), (1, qL 0), (0, .ref w)]) rfl (by decide) rfl dX6_centsPaidOut_3 ?_
  exact lX6_centsPaidOut (by decide) hF hW hWR hv hmn hvs k0 (mn + 1) 0 (by omega) (Nat.zero_le _)
set_option maxRecDepth 100000 in
theorem lX6_centsOfLetters {G : q_G} {F : q_F} {h : Nat} {Q : q_Q} {kc ks sz : Nat} {T : q_T} {w mn : Nat} {bd mo : Int} {r : Nat → Int}  {I L : q_I} {P : q_P} (h1 : 1 ≤ h) (hF : q_ok G F YX6_centsOfLetters h) (hW : q_SW T P w) (hWR : q_WR I L w r mo) (hv : g_V0 r) (hmn : r 1 = (mn : Int)) (hvs : ∀ i : Nat, i < mn → g_VA r i bd) (k0 : Q (.inl (some (qL (r 20)))) sz T I L P) : ∀ (n : Nat) (k : Nat), mn - k < n → k ≤ mn → qX G F Q kc ks 4 [(3, qI (k : Int)), (1, qL (g_sum (fun i => L (w + 35 + i) 15) k)), (0, .ref w)] [] sz T I L P := by
  intro n
  induction n with
  | zero => intro k hn; exact absurd hn (Nat.not_lt_zero _)
  | succ n ih =>
    intro k hn hk
    have hm12 := hv.many
    have hr12 := hv.rows
    refine q_iload_n hF 0 rfl rfl dX6_centsOfLetters_4 ?_
    refine q_aload_n hF 2 rfl rfl dX6_centsOfLetters_5 ?_
    refine q_getIv hF (z := (mn : Int)) fl_RX6_41 hW.t0 (hWR.cnt.trans hmn) dX6_centsOfLetters_6 ?_
    refine q_icmpge hF (by have q1 := hv.many; have q2 := hv.rows; omega) (by have q1 := hv.many; have q2 := hv.rows; omega) dX6_centsOfLetters_9 (fun c9 => ?_) (fun c9 => ?_)
    · refine q_lload_n hF 1 rfl rfl dX6_centsOfLetters_30 ?_
      refine q_lreturn hF rfl dX6_centsOfLetters_31 ?_
      rw [show k = mn by omega, show g_sum (fun i => L (w + 35 + i) 15) mn = r 20 from by rw [← hWR.s20, hmn, Int.toNat_natCast]]; exact k0
    · refine q_lload_n hF 1 rfl rfl dX6_centsOfLetters_12 ?_
      refine q_aload_n hF 2 rfl rfl dX6_centsOfLetters_13 ?_
      refine q_getA hF fl_RX6_20 rfl hW.t0 hW.p1 dX6_centsOfLetters_14 ?_
      refine q_iload_n hF 0 rfl rfl dX6_centsOfLetters_17 ?_
      refine q_aaloadv hF (b := w + 35 + k) k hW.t19 (by decide) rfl (by omega) (by decide) (hW.pa _ (by omega)) dX6_centsOfLetters_18 ?_
      refine q_getLv hF (z := L (w + 35 + k) 15) fl_RX6_119 (hW.ta _ (by omega)) rfl dX6_centsOfLetters_19 ?_
      refine q_ladd hF dX6_centsOfLetters_22 ?_
      refine q_lstore_n hF (ls' := [(1, qL ((g_sum (fun i => L (w + 35 + i) 15) k) + (L (w + 35 + k) 15))), (3, qI (k : Int)), (0, .ref w)]) rfl (by decide) rfl dX6_centsOfLetters_23 ?_
      refine q_iinc hF (z' := ((1 + k : Nat) : Int)) (ls' := [(3, qI ((1 + k : Nat) : Int)), (1, qL ((g_sum (fun i => L (w + 35 + i) 15) k) + (L (w + 35 + k) 15))), (0, .ref w)]) 1 rfl (by first | rfl | omega) (by decide) rfl dX6_centsOfLetters_24 ?_
      refine q_goto hF dX6_centsOfLetters_27 ?_
      rw [Nat.add_comm 1 k]
      rw [show ((g_sum (fun i => L (w + 35 + i) 15) k) + (L (w + 35 + k) 15)) = g_sum (fun i => L (w + 35 + i) 15) (k + 1) from rfl]
      exact ih (k + 1) (by omega) (by omega)
set_option maxRecDepth 100000 in
theorem mX6_centsOfLetters {G : q_G} {sz : Nat} {T : q_T} {I L : q_I} {P : q_P} {Q : q_Q} {w : Nat} {mn : Nat} {bd mo : Int} {r : Nat → Int}  (hW : q_SW T P w) (hWR : q_WR I L w r mo) (hv : g_V0 r) (hmn : r 1 = (mn : Int)) (hvs : ∀ i : Nat, i < mn → g_VA r i bd) (k0 : Q (.inl (some (qL (r 20)))) sz T I L P) : qC G 1 0 0 YX6_centsOfLetters [.ref w] sz T I L P Q := by
  refine qC_of (by decide +kernel) rfl rfl (Nat.le_of_ble_eq_true rfl) (fun F hF _ _ => ?_)
  refine q_lconst hF (z := 0) rfl dX6_centsOfLetters_0 ?_
  refine q_lstore_n hF (ls' := [(1, qL 0), (0, .ref w)]) rfl (by decide) rfl dX6_centsOfLetters_1 ?_
  refine q_iconst hF dX6_centsOfLetters_2 ?_
  refine q_istore_n hF (ls' := [(3, qI 0), (1, qL 0), (0, .ref w)]) rfl (by decide) rfl dX6_centsOfLetters_3 ?_
  exact lX6_centsOfLetters (by decide) hF hW hWR hv hmn hvs k0 (mn + 1) 0 (by omega) (Nat.zero_le _)
set_option maxRecDepth 100000 in
theorem lX6_centsWithBank {G : q_G} {F : q_F} {h : Nat} {Q : q_Q} {kc ks sz : Nat} {T : q_T} {w mn : Nat} {bd mo : Int} {r : Nat → Int}  {I L : q_I} {P : q_P} (h1 : 1 ≤ h) (hF : q_ok G F YX6_centsWithBank h) (hW : q_SW T P w) (hWR : q_WR I L w r mo) (hv : g_V0 r) (hmn : r 1 = (mn : Int)) (hvs : ∀ i : Nat, i < mn → g_VA r i bd) (k0 : Q (.inl (some (qL (g_sum (g_liveC r) mn)))) sz T I L P) : ∀ (n : Nat) (k : Nat), mn - k < n → k ≤ mn → qX G F Q kc ks 4 [(3, qI (k : Int)), (1, qL (g_sum (g_liveC r) k)), (0, .ref w)] [] sz T I L P := by
  intro n
  induction n with
  | zero => intro k hn; exact absurd hn (Nat.not_lt_zero _)
  | succ n ih =>
    intro k hn hk
    have hm12 := hv.many
    have hr12 := hv.rows
    refine q_iload_n hF 0 rfl rfl dX6_centsWithBank_4 ?_
    refine q_aload_n hF 2 rfl rfl dX6_centsWithBank_5 ?_
    refine q_getIv hF (z := (mn : Int)) fl_RX6_41 hW.t0 (hWR.cnt.trans hmn) dX6_centsWithBank_6 ?_
    refine q_icmpge hF (by have q1 := hv.many; have q2 := hv.rows; omega) (by have q1 := hv.many; have q2 := hv.rows; omega) dX6_centsWithBank_9 (fun c9 => ?_) (fun c9 => ?_)
    · refine q_lload_n hF 1 rfl rfl dX6_centsWithBank_47 ?_
      refine q_lreturn hF rfl dX6_centsWithBank_48 ?_
      rw [show k = mn by omega]; exact k0
    · have hA := hvs k (by omega)
      refine q_lload_n hF 1 rfl rfl dX6_centsWithBank_12 ?_
      have hJ13 : qX G F Q kc ks 39 [(3, qI (k : Int)), (1, qL (g_sum (g_liveC r) k)), (0, .ref w)] [qL (g_liveC r k), qL (g_sum (g_liveC r) k)] sz T I L P := by
        refine q_ladd hF dX6_centsWithBank_39 ?_
        refine q_lstore_n hF (ls' := [(1, qL ((g_sum (g_liveC r) k) + (g_liveC r k))), (3, qI (k : Int)), (0, .ref w)]) rfl (by decide) rfl dX6_centsWithBank_40 ?_
        refine q_iinc hF (z' := ((1 + k : Nat) : Int)) (ls' := [(3, qI ((1 + k : Nat) : Int)), (1, qL ((g_sum (g_liveC r) k) + (g_liveC r k))), (0, .ref w)]) 1 rfl (by first | rfl | omega) (by decide) rfl dX6_centsWithBank_41 ?_
        refine q_goto hF dX6_centsWithBank_44 ?_
        rw [Nat.add_comm 1 k]
        rw [show ((g_sum (g_liveC r) k) + (g_liveC r k)) = g_sum (g_liveC r) (k + 1) from rfl]
        exact ih (k + 1) (by omega) (by omega)
      refine q_aload_n hF 2 rfl rfl dX6_centsWithBank_13 ?_
      refine q_getA hF fl_RX6_20 rfl hW.t0 hW.p1 dX6_centsWithBank_14 ?_
      refine q_iload_n hF 0 rfl rfl dX6_centsWithBank_17 ?_
      refine q_aaloadv hF (b := w + 35 + k) k hW.t19 (by decide) rfl (by omega) (by decide) (hW.pa _ (by omega)) dX6_centsWithBank_18 ?_
      refine q_callV (kc := kc) (ks := ks) (mc' := 0) (ms' := 0) (h' := 0) (st := [qL (g_sum (g_liveC r) k)]) hF vl_RX6_64 rfl [] rfl rfl (hW.ta _ (by omega)) (by omega) (Nat.le_of_ble_eq_true rfl) dX6_centsWithBank_19 ?_
      refine mX0_isWithBankR (r := r) (a := k) (hW.ta _ (by omega)) (hWR.acc k (by omega)) hA.state ?_
      refine q_ifeq_b hF dX6_centsWithBank_22 (fun c22 => ?_) (fun c22 => ?_)
      · refine q_lconst hF (z := 0) rfl dX6_centsWithBank_38 ?_
        rw [show (g_liveC r k) = 0 from by unfold g_liveC; first | exact if_pos (by omega) | exact if_neg (by omega)] at hJ13; exact hJ13
      · refine q_aload_n hF 2 rfl rfl dX6_centsWithBank_25 ?_
        refine q_getA hF fl_RX6_20 rfl hW.t0 hW.p1 dX6_centsWithBank_26 ?_
        refine q_iload_n hF 0 rfl rfl dX6_centsWithBank_29 ?_
        refine q_aaloadv hF (b := w + 35 + k) k hW.t19 (by decide) rfl (by omega) (by decide) (hW.pa _ (by omega)) dX6_centsWithBank_30 ?_
        refine q_getIv hF (z := r (1042 + 12 * k)) fl_RX6_85 (hW.ta _ (by omega)) (hWR.acc k (by omega)).cents dX6_centsWithBank_31 ?_
        refine q_i2l hF (by have q1 := hv.many; have q2 := hv.rows; have q3 := hA.state; have q4 := hA.cents; omega) dX6_centsWithBank_34 ?_
        refine q_goto hF dX6_centsWithBank_35 ?_
        rw [show (g_liveC r k) = (r (1042 + 12 * k)) from by unfold g_liveC; first | exact if_pos (by omega) | exact if_neg (by omega)] at hJ13; exact hJ13
set_option maxRecDepth 100000 in
theorem mX6_centsWithBank {G : q_G} {sz : Nat} {T : q_T} {I L : q_I} {P : q_P} {Q : q_Q} {w : Nat} {mn : Nat} {bd mo : Int} {r : Nat → Int}  (hW : q_SW T P w) (hWR : q_WR I L w r mo) (hv : g_V0 r) (hmn : r 1 = (mn : Int)) (hvs : ∀ i : Nat, i < mn → g_VA r i bd) (k0 : Q (.inl (some (qL (g_sum (g_liveC r) mn)))) sz T I L P) : qC G 1 0 0 YX6_centsWithBank [.ref w] sz T I L P Q := by
  refine qC_of (by decide +kernel) rfl rfl (Nat.le_of_ble_eq_true rfl) (fun F hF _ _ => ?_)
  refine q_lconst hF (z := 0) rfl dX6_centsWithBank_0 ?_
  refine q_lstore_n hF (ls' := [(1, qL 0), (0, .ref w)]) rfl (by decide) rfl dX6_centsWithBank_1 ?_
  refine q_iconst hF dX6_centsWithBank_2 ?_
  refine q_istore_n hF (ls' := [(3, qI 0), (1, qL 0), (0, .ref w)]) rfl (by decide) rfl dX6_centsWithBank_3 ?_
  exact lX6_centsWithBank (by decide) hF hW hWR hv hmn hvs k0 (mn + 1) 0 (by omega) (Nat.zero_le _)
set_option maxRecDepth 100000 in
theorem lX6_centsHeld {G : q_G} {F : q_F} {h : Nat} {Q : q_Q} {kc ks sz : Nat} {T : q_T} {w mn : Nat} {bd mo : Int} {r : Nat → Int}  {I L : q_I} {P : q_P} (h1 : 1 ≤ h) (hF : q_ok G F YX6_centsHeld h) (hW : q_SW T P w) (hWR : q_WR I L w r mo) (hv : g_V0 r) (hmn : r 1 = (mn : Int)) (hvs : ∀ i : Nat, i < mn → g_VA r i bd) (k0 : Q (.inl (some (qL (g_sum (g_handC r) mn)))) sz T I L P) : ∀ (n : Nat) (k : Nat), mn - k < n → k ≤ mn → qX G F Q kc ks 4 [(3, qI (k : Int)), (1, qL (g_sum (g_handC r) k)), (0, .ref w)] [] sz T I L P := by
  intro n
  induction n with
  | zero => intro k hn; exact absurd hn (Nat.not_lt_zero _)
  | succ n ih =>
    intro k hn hk
    have hm12 := hv.many
    have hr12 := hv.rows
    refine q_iload_n hF 0 rfl rfl dX6_centsHeld_4 ?_
    refine q_aload_n hF 2 rfl rfl dX6_centsHeld_5 ?_
    refine q_getIv hF (z := (mn : Int)) fl_RX6_41 hW.t0 (hWR.cnt.trans hmn) dX6_centsHeld_6 ?_
    refine q_icmpge hF (by have q1 := hv.many; have q2 := hv.rows; omega) (by have q1 := hv.many; have q2 := hv.rows; omega) dX6_centsHeld_9 (fun c9 => ?_) (fun c9 => ?_)
    · refine q_lload_n hF 1 rfl rfl dX6_centsHeld_48 ?_
      refine q_lreturn hF rfl dX6_centsHeld_49 ?_
      rw [show k = mn by omega]; exact k0
    · have hA := hvs k (by omega)
      refine q_lload_n hF 1 rfl rfl dX6_centsHeld_12 ?_
      have hJ13 : qX G F Q kc ks 40 [(3, qI (k : Int)), (1, qL (g_sum (g_handC r) k)), (0, .ref w)] [qL (g_handC r k), qL (g_sum (g_handC r) k)] sz T I L P := by
        refine q_ladd hF dX6_centsHeld_40 ?_
        refine q_lstore_n hF (ls' := [(1, qL ((g_sum (g_handC r) k) + (g_handC r k))), (3, qI (k : Int)), (0, .ref w)]) rfl (by decide) rfl dX6_centsHeld_41 ?_
        refine q_iinc hF (z' := ((1 + k : Nat) : Int)) (ls' := [(3, qI ((1 + k : Nat) : Int)), (1, qL ((g_sum (g_handC r) k) + (g_handC r k))), (0, .ref w)]) 1 rfl (by first | rfl | omega) (by decide) rfl dX6_centsHeld_42 ?_
        refine q_goto hF dX6_centsHeld_45 ?_
        rw [Nat.add_comm 1 k]
        rw [show ((g_sum (g_handC r) k) + (g_handC r k)) = g_sum (g_handC r) (k + 1) from rfl]
        exact ih (k + 1) (by omega) (by omega)
      refine q_aload_n hF 2 rfl rfl dX6_centsHeld_13 ?_
      refine q_getA hF fl_RX6_20 rfl hW.t0 hW.p1 dX6_centsHeld_14 ?_
      refine q_iload_n hF 0 rfl rfl dX6_centsHeld_17 ?_
      refine q_aaloadv hF (b := w + 35 + k) k hW.t19 (by decide) rfl (by omega) (by decide) (hW.pa _ (by omega)) dX6_centsHeld_18 ?_
      refine q_getIv hF (z := r (1043 + 12 * k)) fl_RX6_72 (hW.ta _ (by omega)) (hWR.acc k (by omega)).state dX6_centsHeld_19 ?_
      refine q_iconst hF dX6_centsHeld_22 ?_
      refine q_icmpne hF (by have q1 := hv.many; have q2 := hv.rows; have q3 := hA.state; have q4 := hA.cents; omega) (by decide) dX6_centsHeld_23 (fun c23 => ?_) (fun c23 => ?_)
      · refine q_lconst hF (z := 0) rfl dX6_centsHeld_39 ?_
        rw [show (g_handC r k) = 0 from by unfold g_handC; first | exact if_pos (by omega) | exact if_neg (by omega)] at hJ13; exact hJ13
      · refine q_aload_n hF 2 rfl rfl dX6_centsHeld_26 ?_
        refine q_getA hF fl_RX6_20 rfl hW.t0 hW.p1 dX6_centsHeld_27 ?_
        refine q_iload_n hF 0 rfl rfl dX6_centsHeld_30 ?_
        refine q_aaloadv hF (b := w + 35 + k) k hW.t19 (by decide) rfl (by omega) (by decide) (hW.pa _ (by omega)) dX6_centsHeld_31 ?_
        refine q_getIv hF (z := r (1042 + 12 * k)) fl_RX6_85 (hW.ta _ (by omega)) (hWR.acc k (by omega)).cents dX6_centsHeld_32 ?_
        refine q_i2l hF (by have q1 := hv.many; have q2 := hv.rows; have q3 := hA.state; have q4 := hA.cents; omega) dX6_centsHeld_35 ?_
        refine q_goto hF dX6_centsHeld_36 ?_
        rw [show (g_handC r k) = (r (1042 + 12 * k)) from by unfold g_handC; first | exact if_pos (by omega) | exact if_neg (by omega)] at hJ13; exact hJ13
set_option maxRecDepth 100000 in
theorem mX6_centsHeld {G : q_G} {sz : Nat} {T : q_T} {I L : q_I} {P : q_P} {Q : q_Q} {w : Nat} {mn : Nat} {bd mo : Int} {r : Nat → Int}  (hW : q_SW T P w) (hWR : q_WR I L w r mo) (hv : g_V0 r) (hmn : r 1 = (mn : Int)) (hvs : ∀ i : Nat, i < mn → g_VA r i bd) (k0 : Q (.inl (some (qL (g_sum (g_handC r) mn)))) sz T I L P) : qC G 1 0 0 YX6_centsHeld [.ref w] sz T I L P Q := by
  refine qC_of (by decide +kernel) rfl rfl (Nat.le_of_ble_eq_true rfl) (fun F hF _ _ => ?_)
  refine q_lconst hF (z := 0) rfl dX6_centsHeld_0 ?_
  refine q_lstore_n hF (ls' := [(1, qL 0), (0, .ref w)]) rfl (by decide) rfl dX6_centsHeld_1 ?_
  refine q_iconst hF dX6_centsHeld_2 ?_
  refine q_istore_n hF (ls' := [(3, qI 0), (1, qL 0), (0, .ref w)]) rfl (by decide) rfl dX6_centsHeld_3 ?_
  exact lX6_centsHeld (by decide) hF hW hWR hv hmn hvs k0 (mn + 1) 0 (by omega) (Nat.zero_le _)
