/-! the class: the world adds up -/
def g_booksQ (r : Nat → Int) (mn : Nat) (w : Int) : Int := if w = 4 then g_sum (g_liveC r) mn else if w = 5 then g_sum (g_handC r) mn else r (17 + w.toNat)
/-- an account's part of what books tells -/
def g_inA (L : q_I) (o : Nat) (r : Nat → Int) (a : Nat) (n : Int) : Int := if n = 0 then L o 12 else if n = 1 then L o 13 else if n = 2 then L o 14 else if n = 3 then L o 15 else if n = 4 then g_liveC r a else if n = 5 then g_handC r a else L o 16
def g_inB (L : q_I) (w : Nat) (r : Nat → Int) (n : Int) (i : Nat) : Int := g_inA L (w + 35 + i) r i n
theorem g_inB_0 (L : q_I) (w : Nat) (r : Nat → Int) (i : Nat) : g_inB L w r 0 i = L (w + 35 + i) 12 := by unfold g_inB g_inA; rw [if_pos rfl]
theorem g_inB_1 (L : q_I) (w : Nat) (r : Nat → Int) (i : Nat) : g_inB L w r 1 i = L (w + 35 + i) 13 := by unfold g_inB g_inA; rw [if_neg (by decide), if_pos rfl]
theorem g_inB_2 (L : q_I) (w : Nat) (r : Nat → Int) (i : Nat) : g_inB L w r 2 i = L (w + 35 + i) 14 := by unfold g_inB g_inA; rw [if_neg (by decide), if_neg (by decide), if_pos rfl]
theorem g_inB_3 (L : q_I) (w : Nat) (r : Nat → Int) (i : Nat) : g_inB L w r 3 i = L (w + 35 + i) 15 := by unfold g_inB g_inA; rw [if_neg (by decide), if_neg (by decide), if_neg (by decide), if_pos rfl]
theorem g_inB_4 (L : q_I) (w : Nat) (r : Nat → Int) (i : Nat) : g_inB L w r 4 i = g_liveC r i := by unfold g_inB g_inA; rw [if_neg (by decide), if_neg (by decide), if_neg (by decide), if_neg (by decide), if_pos rfl]
theorem g_inB_5 (L : q_I) (w : Nat) (r : Nat → Int) (i : Nat) : g_inB L w r 5 i = g_handC r i := by unfold g_inB g_inA; rw [if_neg (by decide), if_neg (by decide), if_neg (by decide), if_neg (by decide), if_neg (by decide), if_pos rfl]
theorem g_inB_6 (L : q_I) (w : Nat) (r : Nat → Int) (i : Nat) : g_inB L w r 6 i = L (w + 35 + i) 16 := by unfold g_inB g_inA; rw [if_neg (by decide), if_neg (by decide), if_neg (by decide), if_neg (by decide), if_neg (by decide), if_neg (by decide)]
theorem g_booksQ_r (r : Nat → Int) (mn : Nat) {w : Int} {k : Nat} (h4 : w ≠ 4) (h5 : w ≠ 5) (hk : 17 + w.toNat = k) : g_booksQ r mn w = r k := by unfold g_booksQ; rw [if_neg h4, if_neg h5, hk]
theorem g_inB_sum {I L : q_I} {w mn : Nat} {r : Nat → Int} {mo n : Int} (h : q_WR I L w r mo) (hmn : r 1 = (mn : Int)) (h6 : 0 ≤ n ∧ n ≤ 6) : g_sum (g_inB L w r n) mn = g_booksQ r mn n := by
  have q0 := h.s17
  have q1 := h.s18
  have q2 := h.s19
  have q3 := h.s20
  have q6 := h.cl
  rw [hmn, Int.toNat_natCast] at q0 q1 q2 q3 q6
  rcases (show n = 0 ∨ n = 1 ∨ n = 2 ∨ n = 3 ∨ n = 4 ∨ n = 5 ∨ n = 6 by omega) with rfl | rfl | rfl | rfl | rfl | rfl | rfl
  · exact ((g_sum_ext mn (fun i _ => g_inB_0 L w r i)).trans q0).trans (g_booksQ_r r mn (by decide) (by decide) (by decide)).symm
  · exact ((g_sum_ext mn (fun i _ => g_inB_1 L w r i)).trans q1).trans (g_booksQ_r r mn (by decide) (by decide) (by decide)).symm
  · exact ((g_sum_ext mn (fun i _ => g_inB_2 L w r i)).trans q2).trans (g_booksQ_r r mn (by decide) (by decide) (by decide)).symm
  · exact ((g_sum_ext mn (fun i _ => g_inB_3 L w r i)).trans q3).trans (g_booksQ_r r mn (by decide) (by decide) (by decide)).symm
  · rw [g_sum_ext mn (fun i _ => g_inB_4 L w r i)]
    unfold g_booksQ
    rw [if_pos rfl]
  · rw [g_sum_ext mn (fun i _ => g_inB_5 L w r i)]
    unfold g_booksQ
    rw [if_neg (by decide), if_pos rfl]
  · exact ((g_sum_ext mn (fun i _ => g_inB_6 L w r i)).trans q6).trans (g_booksQ_r r mn (by decide) (by decide) (by decide)).symm
set_option maxRecDepth 100000 in
theorem mX0_isHeldByR {G : q_G} {sz : Nat} {T : q_T} {I L : q_I} {P : q_P} {Q : q_Q} {o : Nat} {l : Int} {a : Nat} {r : Nat → Int} (hO : T o = some (.inl 0)) (hAR : q_AR I o r a) (hst : 0 ≤ r (1043 + 12 * a) ∧ r (1043 + 12 * a) ≤ 4) (hh : -1 ≤ r (1047 + 12 * a) ∧ r (1047 + 12 * a) ≤ 5) (hl : -2147483648 ≤ l ∧ l < 2147483648) (k0 : Q (.inl (some (qI (q_b (r (1043 + 12 * a) = 2 ∧ r (1047 + 12 * a) = l))))) sz T I L P) : qC G 0 0 0 YX0_isHeldBy [.ref o, qI l] sz T I L P Q := by
  refine qC_of (by decide +kernel) rfl rfl (Nat.le_of_ble_eq_true rfl) (fun F hF _ _ => ?_)
  refine q_aload_n hF 0 rfl rfl dX0_isHeldBy_0 ?_
  refine q_getIv hF (z := r (1043 + 12 * a)) fl_RX0_24 hO hAR.state dX0_isHeldBy_1 ?_
  refine q_iconst hF dX0_isHeldBy_4 ?_
  refine q_icmpne hF (by omega) (by decide) dX0_isHeldBy_5 (fun c5 => ?_) (fun c5 => ?_)
  · refine q_iconst hF dX0_isHeldBy_20 ?_
    refine q_zreturn hF (by decide) rfl dX0_isHeldBy_21 ?_
    rw [q_b_f (c := r (1043 + 12 * a) = 2 ∧ r (1047 + 12 * a) = l) (by omega)] at k0; exact k0
  · refine q_aload_n hF 0 rfl rfl dX0_isHeldBy_8 ?_
    refine q_getIv hF (z := r (1047 + 12 * a)) fl_RX0_39 hO hAR.holder dX0_isHeldBy_9 ?_
    refine q_iload_n hF 1 rfl rfl dX0_isHeldBy_12 ?_
    refine q_icmpne hF (by omega) hl dX0_isHeldBy_13 (fun c13 => ?_) (fun c13 => ?_)
    · refine q_iconst hF dX0_isHeldBy_20 ?_
      refine q_zreturn hF (by decide) rfl dX0_isHeldBy_21 ?_
      rw [q_b_f (c := r (1043 + 12 * a) = 2 ∧ r (1047 + 12 * a) = l) (by omega)] at k0; exact k0
    · refine q_iconst hF dX0_isHeldBy_16 ?_
      refine q_goto hF dX0_isHeldBy_17 ?_
      refine q_zreturn hF (by decide) rfl dX0_isHeldBy_21 ?_
      rw [q_b_t (c := r (1043 + 12 * a) = 2 ∧ r (1047 + 12 * a) = l) (by omega)] at k0; exact k0
set_option maxRecDepth 100000 in
theorem lX6_accountsHeldBy {G : q_G} {F : q_F} {h : Nat} {Q : q_Q} {kc ks sz : Nat} {T : q_T} {w mn : Nat} {bd mo : Int} {r : Nat → Int} {l : Nat} {I L : q_I} {P : q_P} (h1 : 1 ≤ h) (hF : q_ok G F YX6_accountsHeldBy h) (hW : q_SW T P w) (hWR : q_WR I L w r mo) (hv : g_V0 r) (hmn : r 1 = (mn : Int)) (hvs : ∀ i : Nat, i < mn → g_VA r i bd) (hl5 : l < 5) (k0 : Q (.inl (some (qI (g_set (fun k => r (1043 + 12 * k) = 2 ∧ r (1047 + 12 * k) = (l : Int)) mn)))) sz T I L P) : ∀ (n : Nat) (k : Nat), mn - k < n → k ≤ mn → qX G F Q kc ks 4 [(3, qI (k : Int)), (2, qI (g_set (fun k => r (1043 + 12 * k) = 2 ∧ r (1047 + 12 * k) = (l : Int)) k)), (0, .ref w), (1, qI (l : Int))] [] sz T I L P := by
  intro n
  induction n with
  | zero => intro k hn; exact absurd hn (Nat.not_lt_zero _)
  | succ n ih =>
    intro k hn hk
    have hm12 := hv.many
    have hr12 := hv.rows
    refine q_iload_n hF 0 rfl rfl dX6_accountsHeldBy_4 ?_
    refine q_aload_n hF 2 rfl rfl dX6_accountsHeldBy_5 ?_
    refine q_getIv hF (z := (mn : Int)) fl_RX6_41 hW.t0 (hWR.cnt.trans hmn) dX6_accountsHeldBy_6 ?_
    refine q_icmpge hF (by have q1 := hv.many; have q2 := hv.rows; omega) (by have q1 := hv.many; have q2 := hv.rows; omega) dX6_accountsHeldBy_9 (fun c9 => ?_) (fun c9 => ?_)
    · refine q_iload_n hF 1 rfl rfl dX6_accountsHeldBy_43 ?_
      refine q_ireturn hF rfl dX6_accountsHeldBy_44 ?_
      rw [show k = mn by omega]; exact k0
    · refine q_iload_n hF 0 rfl rfl dX6_accountsHeldBy_12 ?_
      refine q_bipush hF (n := 12) rfl dX6_accountsHeldBy_13 ?_
      refine q_icmpge hF (by have q1 := hv.many; have q2 := hv.rows; omega) (by decide) dX6_accountsHeldBy_15 (fun c15 => ?_) (fun c15 => ?_)
      · omega
      · have hA := hvs k (by omega)
        refine q_aload_n hF 2 rfl rfl dX6_accountsHeldBy_18 ?_
        refine q_getA hF fl_RX6_20 rfl hW.t0 hW.p1 dX6_accountsHeldBy_19 ?_
        refine q_iload_n hF 0 rfl rfl dX6_accountsHeldBy_22 ?_
        refine q_aaloadv hF (b := w + 35 + k) k hW.t19 (by decide) rfl (by omega) (by decide) (hW.pa _ (by omega)) dX6_accountsHeldBy_23 ?_
        refine q_iload_n hF 3 rfl rfl dX6_accountsHeldBy_24 ?_
        refine q_callV (kc := kc) (ks := ks) (mc' := 0) (ms' := 0) (h' := 0) (st := []) hF vl_RX6_104 rfl [qI (l : Int)] rfl rfl (hW.ta _ (by omega)) (by omega) (Nat.le_of_ble_eq_true rfl) dX6_accountsHeldBy_25 ?_
        refine mX0_isHeldByR (r := r) (a := k) (hW.ta _ (by omega)) (hWR.acc k (by omega)) hA.state (by have q1 := hA.holder; have q2 := hv.lands; omega) (by have q1 := hv.many; have q2 := hv.rows; omega) ?_
        refine q_ifeq_b hF dX6_accountsHeldBy_28 (fun c28 => ?_) (fun c28 => ?_)
        · refine q_iinc hF (z' := ((1 + k : Nat) : Int)) (ls' := [(3, qI ((1 + k : Nat) : Int)), (2, qI (g_set (fun k => r (1043 + 12 * k) = 2 ∧ r (1047 + 12 * k) = (l : Int)) k)), (0, .ref w), (1, qI (l : Int))]) 0 rfl (by first | rfl | omega) (by decide) rfl dX6_accountsHeldBy_37 ?_
          refine q_goto hF dX6_accountsHeldBy_40 ?_
          rw [Nat.add_comm 1 k]
          rw [show qI (g_set (fun k => r (1043 + 12 * k) = 2 ∧ r (1047 + 12 * k) = (l : Int)) k) = qI (g_set (fun k => r (1043 + 12 * k) = 2 ∧ r (1047 + 12 * k) = (l : Int)) (k + 1)) from congrArg Value.int ((q_or0 _).symm.trans (q_set_n _ k (by omega)))]
          exact ih (k + 1) (by omega) (by omega)
        · refine q_iload_n hF 1 rfl rfl dX6_accountsHeldBy_31 ?_
          refine q_iconst hF dX6_accountsHeldBy_32 ?_
          refine q_iload_n hF 0 rfl rfl dX6_accountsHeldBy_33 ?_
          refine q_ishl hF (c0 := ((2 ^ k : Nat) : Int)) (q_shlN (by omega)) dX6_accountsHeldBy_34 ?_
          refine q_ior hF (c0 := g_set (fun k => r (1043 + 12 * k) = 2 ∧ r (1047 + 12 * k) = (l : Int)) (k + 1)) (q_set_s _ _ (by omega)) dX6_accountsHeldBy_35 ?_
          refine q_istore_n hF (ls' := [(2, qI (g_set (fun k => r (1043 + 12 * k) = 2 ∧ r (1047 + 12 * k) = (l : Int)) (k + 1))), (3, qI (k : Int)), (0, .ref w), (1, qI (l : Int))]) rfl (by decide) rfl dX6_accountsHeldBy_36 ?_
          refine q_iinc hF (z' := ((1 + k : Nat) : Int)) (ls' := [(3, qI ((1 + k : Nat) : Int)), (2, qI (g_set (fun k => r (1043 + 12 * k) = 2 ∧ r (1047 + 12 * k) = (l : Int)) (k + 1))), (0, .ref w), (1, qI (l : Int))]) 1 rfl (by first | rfl | omega) (by decide) rfl dX6_accountsHeldBy_37 ?_
          refine q_goto hF dX6_accountsHeldBy_40 ?_
          rw [Nat.add_comm 1 k]
          exact ih (k + 1) (by omega) (by omega)
set_option maxRecDepth 100000 in
theorem mX6_accountsHeldBy {G : q_G} {sz : Nat} {T : q_T} {I L : q_I} {P : q_P} {Q : q_Q} {w : Nat} {mn : Nat} {bd mo : Int} {r : Nat → Int} {l : Nat} (hW : q_SW T P w) (hWR : q_WR I L w r mo) (hv : g_V0 r) (hmn : r 1 = (mn : Int)) (hvs : ∀ i : Nat, i < mn → g_VA r i bd) (hl5 : l < 5) (k0 : Q (.inl (some (qI (g_set (fun k => r (1043 + 12 * k) = 2 ∧ r (1047 + 12 * k) = (l : Int)) mn)))) sz T I L P) : qC G 1 0 0 YX6_accountsHeldBy [.ref w, qI (l : Int)] sz T I L P Q := by
  refine qC_of (by decide +kernel) rfl rfl (Nat.le_of_ble_eq_true rfl) (fun F hF _ _ => ?_)
  refine q_iconst hF dX6_accountsHeldBy_0 ?_
  refine q_istore_n hF (ls' := [(2, qI 0), (0, .ref w), (1, qI (l : Int))]) rfl (by decide) rfl dX6_accountsHeldBy_1 ?_
  refine q_iconst hF dX6_accountsHeldBy_2 ?_
  refine q_istore_n hF (ls' := [(3, qI 0), (2, qI 0), (0, .ref w), (1, qI (l : Int))]) rfl (by decide) rfl dX6_accountsHeldBy_3 ?_
  exact lX6_accountsHeldBy (by decide) hF hW hWR hv hmn hvs hl5 k0 (mn + 1) 0 (by omega) (Nat.zero_le _)
set_option maxRecDepth 100000 in
theorem lX6_centsHeldBy {G : q_G} {F : q_F} {h : Nat} {Q : q_Q} {kc ks sz : Nat} {T : q_T} {w mn : Nat} {bd mo : Int} {r : Nat → Int} {l : Nat} {I L : q_I} {P : q_P} (h1 : 1 ≤ h) (hF : q_ok G F YX6_centsHeldBy h) (hW : q_SW T P w) (hWR : q_WR I L w r mo) (hv : g_V0 r) (hmn : r 1 = (mn : Int)) (hvs : ∀ i : Nat, i < mn → g_VA r i bd) (hl5 : l < 5) (k0 : Q (.inl (some (qL (g_sum (g_heldC r (l : Int)) mn)))) sz T I L P) : ∀ (n : Nat) (k : Nat), mn - k < n → k ≤ mn → qX G F Q kc ks 5 [(4, qI (k : Int)), (2, qL (g_sum (g_heldC r (l : Int)) k)), (0, .ref w), (1, qI (l : Int))] [] sz T I L P := by
  intro n
  induction n with
  | zero => intro k hn; exact absurd hn (Nat.not_lt_zero _)
  | succ n ih =>
    intro k hn hk
    have hm12 := hv.many
    have hr12 := hv.rows
    refine q_iload hF 0 rfl dX6_centsHeldBy_5 ?_
    refine q_aload_n hF 2 rfl rfl dX6_centsHeldBy_7 ?_
    refine q_getIv hF (z := (mn : Int)) fl_RX6_41 hW.t0 (hWR.cnt.trans hmn) dX6_centsHeldBy_8 ?_
    refine q_icmpge hF (by have q1 := hv.many; have q2 := hv.rows; omega) (by have q1 := hv.many; have q2 := hv.rows; omega) dX6_centsHeldBy_11 (fun c11 => ?_) (fun c11 => ?_)
    · refine q_lload_n hF 1 rfl rfl dX6_centsHeldBy_59 ?_
      refine q_lreturn hF rfl dX6_centsHeldBy_60 ?_
      rw [show k = mn by omega]; exact k0
    · refine q_iload hF 0 rfl dX6_centsHeldBy_14 ?_
      refine q_bipush hF (n := 12) rfl dX6_centsHeldBy_16 ?_
      refine q_icmpge hF (by have q1 := hv.many; have q2 := hv.rows; omega) (by decide) dX6_centsHeldBy_18 (fun c18 => ?_) (fun c18 => ?_)
      · omega
      · have hA := hvs k (by omega)
        refine q_lload_n hF 1 rfl rfl dX6_centsHeldBy_21 ?_
        have hJ22 : qX G F Q kc ks 51 [(4, qI (k : Int)), (2, qL (g_sum (g_heldC r (l : Int)) k)), (0, .ref w), (1, qI (l : Int))] [qL (g_heldC r (l : Int) k), qL (g_sum (g_heldC r (l : Int)) k)] sz T I L P := by
          refine q_ladd hF dX6_centsHeldBy_51 ?_
          refine q_lstore_n hF (ls' := [(2, qL ((g_sum (g_heldC r (l : Int)) k) + (g_heldC r (l : Int) k))), (4, qI (k : Int)), (0, .ref w), (1, qI (l : Int))]) rfl (by decide) rfl dX6_centsHeldBy_52 ?_
          refine q_iinc hF (z' := ((1 + k : Nat) : Int)) (ls' := [(4, qI ((1 + k : Nat) : Int)), (2, qL ((g_sum (g_heldC r (l : Int)) k) + (g_heldC r (l : Int) k))), (0, .ref w), (1, qI (l : Int))]) 1 rfl (by first | rfl | omega) (by decide) rfl dX6_centsHeldBy_53 ?_
          refine q_goto hF dX6_centsHeldBy_56 ?_
          rw [Nat.add_comm 1 k]
          rw [show ((g_sum (g_heldC r (l : Int)) k) + (g_heldC r (l : Int) k)) = g_sum (g_heldC r (l : Int)) (k + 1) from rfl]
          exact ih (k + 1) (by omega) (by omega)
        refine q_aload_n hF 2 rfl rfl dX6_centsHeldBy_22 ?_
        refine q_getA hF fl_RX6_20 rfl hW.t0 hW.p1 dX6_centsHeldBy_23 ?_
        refine q_iload hF 0 rfl dX6_centsHeldBy_26 ?_
        refine q_aaloadv hF (b := w + 35 + k) k hW.t19 (by decide) rfl (by omega) (by decide) (hW.pa _ (by omega)) dX6_centsHeldBy_28 ?_
        refine q_iload_n hF 3 rfl rfl dX6_centsHeldBy_29 ?_
        refine q_callV (kc := kc) (ks := ks) (mc' := 0) (ms' := 0) (h' := 0) (st := [qL (g_sum (g_heldC r (l : Int)) k)]) hF vl_RX6_104 rfl [qI (l : Int)] rfl rfl (hW.ta _ (by omega)) (by omega) (Nat.le_of_ble_eq_true rfl) dX6_centsHeldBy_30 ?_
        refine mX0_isHeldByR (r := r) (a := k) (hW.ta _ (by omega)) (hWR.acc k (by omega)) hA.state (by have q1 := hA.holder; have q2 := hv.lands; omega) (by have q1 := hv.many; have q2 := hv.rows; omega) ?_
        refine q_ifeq_b hF dX6_centsHeldBy_33 (fun c33 => ?_) (fun c33 => ?_)
        · refine q_lconst hF (z := 0) rfl dX6_centsHeldBy_50 ?_
          rw [show (g_heldC r (l : Int) k) = 0 from by unfold g_heldC; first | exact if_pos (by omega) | exact if_neg (by omega)] at hJ22; exact hJ22
        · refine q_aload_n hF 2 rfl rfl dX6_centsHeldBy_36 ?_
          refine q_getA hF fl_RX6_20 rfl hW.t0 hW.p1 dX6_centsHeldBy_37 ?_
          refine q_iload hF 0 rfl dX6_centsHeldBy_40 ?_
          refine q_aaloadv hF (b := w + 35 + k) k hW.t19 (by decide) rfl (by omega) (by decide) (hW.pa _ (by omega)) dX6_centsHeldBy_42 ?_
          refine q_getIv hF (z := r (1042 + 12 * k)) fl_RX6_81 (hW.ta _ (by omega)) (hWR.acc k (by omega)).cents dX6_centsHeldBy_43 ?_
          refine q_i2l hF (by have q1 := hv.many; have q2 := hv.rows; have q3 := hA.state; have q4 := hA.cents; omega) dX6_centsHeldBy_46 ?_
          refine q_goto hF dX6_centsHeldBy_47 ?_
          rw [show (g_heldC r (l : Int) k) = (r (1042 + 12 * k)) from by unfold g_heldC; first | exact if_pos (by omega) | exact if_neg (by omega)] at hJ22; exact hJ22
set_option maxRecDepth 100000 in
theorem mX6_centsHeldBy {G : q_G} {sz : Nat} {T : q_T} {I L : q_I} {P : q_P} {Q : q_Q} {w : Nat} {mn : Nat} {bd mo : Int} {r : Nat → Int} {l : Nat} (hW : q_SW T P w) (hWR : q_WR I L w r mo) (hv : g_V0 r) (hmn : r 1 = (mn : Int)) (hvs : ∀ i : Nat, i < mn → g_VA r i bd) (hl5 : l < 5) (k0 : Q (.inl (some (qL (g_sum (g_heldC r (l : Int)) mn)))) sz T I L P) : qC G 1 0 0 YX6_centsHeldBy [.ref w, qI (l : Int)] sz T I L P Q := by
  refine qC_of (by decide +kernel) rfl rfl (Nat.le_of_ble_eq_true rfl) (fun F hF _ _ => ?_)
  refine q_lconst hF (z := 0) rfl dX6_centsHeldBy_0 ?_
  refine q_lstore_n hF (ls' := [(2, qL 0), (0, .ref w), (1, qI (l : Int))]) rfl (by decide) rfl dX6_centsHeldBy_1 ?_
  refine q_iconst hF dX6_centsHeldBy_2 ?_
  refine q_istore hF (ls' := [(4, qI 0), (2, qL 0), (0, .ref w), (1, qI (l : Int))]) (by decide) rfl dX6_centsHeldBy_3 ?_
  exact lX6_centsHeldBy (by decide) hF hW hWR hv hmn hvs hl5 k0 (mn + 1) 0 (by omega) (Nat.zero_le _)
set_option maxRecDepth 100000 in
theorem lX6_centsInRowsOf {G : q_G} {F : q_F} {h : Nat} {Q : q_Q} {kc ks sz : Nat} {T : q_T} {w rn : Nat} {mo : Int} {r : Nat → Int} {l : Nat} {I L : q_I} {P : q_P} (h1 : 1 ≤ h) (hF : q_ok G F YX6_centsInRowsOf h) (hW : q_SW T P w) (hWR : q_WR I L w r mo) (hv : g_V0 r) (hrn : r 6 = (rn : Int)) (hrw : g_RW r) (hl5 : l < 5) (k0 : Q (.inl (some (qL (g_sum (g_rowC r (l : Int)) rn)))) sz T I L P) : ∀ (n : Nat) (k : Nat), rn - k < n → k ≤ rn → qX G F Q kc ks 5 [(4, qI (k : Int)), (2, qL (g_sum (g_rowC r (l : Int)) k)), (0, .ref w), (1, qI (l : Int))] [] sz T I L P := by
  intro n
  induction n with
  | zero => intro k hn; exact absurd hn (Nat.not_lt_zero _)
  | succ n ih =>
    intro k hn hk
    have hm12 := hv.many
    have hr12 := hv.rows
    refine q_iload hF 0 rfl dX6_centsInRowsOf_5 ?_
    refine q_aload_n hF 2 rfl rfl dX6_centsInRowsOf_7 ?_
    refine q_getIv hF (z := (rn : Int)) fl_RX6_48 hW.t0 (hWR.rows.trans hrn) dX6_centsInRowsOf_8 ?_
    refine q_icmpge hF (by have q1 := hv.many; have q2 := hv.rows; omega) (by have q1 := hv.many; have q2 := hv.rows; omega) dX6_centsInRowsOf_11 (fun c11 => ?_) (fun c11 => ?_)
    · refine q_lload_n hF 1 rfl rfl dX6_centsInRowsOf_57 ?_
      refine q_lreturn hF rfl dX6_centsInRowsOf_58 ?_
      rw [show k = rn by omega]; exact k0
    · refine q_iload hF 0 rfl dX6_centsInRowsOf_14 ?_
      refine q_bipush hF (n := 12) rfl dX6_centsInRowsOf_16 ?_
      refine q_icmpge hF (by have q1 := hv.many; have q2 := hv.rows; omega) (by decide) dX6_centsInRowsOf_18 (fun c18 => ?_) (fun c18 => ?_)
      · omega
      · refine q_lload_n hF 1 rfl rfl dX6_centsInRowsOf_21 ?_
        have hJ22 : qX G F Q kc ks 49 [(4, qI (k : Int)), (2, qL (g_sum (g_rowC r (l : Int)) k)), (0, .ref w), (1, qI (l : Int))] [qL (g_rowC r (l : Int) k), qL (g_sum (g_rowC r (l : Int)) k)] sz T I L P := by
          refine q_ladd hF dX6_centsInRowsOf_49 ?_
          refine q_lstore_n hF (ls' := [(2, qL ((g_sum (g_rowC r (l : Int)) k) + (g_rowC r (l : Int) k))), (4, qI (k : Int)), (0, .ref w), (1, qI (l : Int))]) rfl (by decide) rfl dX6_centsInRowsOf_50 ?_
          refine q_iinc hF (z' := ((1 + k : Nat) : Int)) (ls' := [(4, qI ((1 + k : Nat) : Int)), (2, qL ((g_sum (g_rowC r (l : Int)) k) + (g_rowC r (l : Int) k))), (0, .ref w), (1, qI (l : Int))]) 1 rfl (by first | rfl | omega) (by decide) rfl dX6_centsInRowsOf_51 ?_
          refine q_goto hF dX6_centsInRowsOf_54 ?_
          rw [Nat.add_comm 1 k]
          rw [show ((g_sum (g_rowC r (l : Int)) k) + (g_rowC r (l : Int) k)) = g_sum (g_rowC r (l : Int)) (k + 1) from rfl]
          exact ih (k + 1) (by omega) (by omega)
        refine q_aload_n hF 2 rfl rfl dX6_centsInRowsOf_22 ?_
        refine q_getA hF fl_RX6_26 rfl hW.t0 hW.p4 dX6_centsInRowsOf_23 ?_
        refine q_iload hF 0 rfl dX6_centsInRowsOf_26 ?_
        refine q_aaloadv hF (b := w + 21 + k) k hW.t20 (by decide) rfl (by omega) (by decide) (hW.pk _ (by omega)) dX6_centsInRowsOf_28 ?_
        refine q_iconst hF dX6_centsInRowsOf_29 ?_
        refine q_ialoadv hF (z := r (1185 + 5 * k)) (n := 5) 2 (hW.tk _ (by omega)) rfl (by decide) (by decide) ((hWR.book k 2 (by omega) (by decide)).trans (congrArg r (by omega))) dX6_centsInRowsOf_30 ?_
        refine q_iload_n hF 3 rfl rfl dX6_centsInRowsOf_31 ?_
        refine q_icmpne hF (by have q1 := hv.many; have q2 := hv.rows; have q5 := hrw k (by omega); omega) (by have q1 := hv.many; have q2 := hv.rows; omega) dX6_centsInRowsOf_32 (fun c32 => ?_) (fun c32 => ?_)
        · refine q_lconst hF (z := 0) rfl dX6_centsInRowsOf_48 ?_
          rw [show (g_rowC r (l : Int) k) = 0 from by unfold g_rowC; first | exact if_pos (by omega) | exact if_neg (by omega)] at hJ22; exact hJ22
        · refine q_aload_n hF 2 rfl rfl dX6_centsInRowsOf_35 ?_
          refine q_getA hF fl_RX6_26 rfl hW.t0 hW.p4 dX6_centsInRowsOf_36 ?_
          refine q_iload hF 0 rfl dX6_centsInRowsOf_39 ?_
          refine q_aaloadv hF (b := w + 21 + k) k hW.t20 (by decide) rfl (by omega) (by decide) (hW.pk _ (by omega)) dX6_centsInRowsOf_41 ?_
          refine q_iconst hF dX6_centsInRowsOf_42 ?_
          refine q_ialoadv hF (z := r (1186 + 5 * k)) (n := 5) 3 (hW.tk _ (by omega)) rfl (by decide) (by decide) ((hWR.book k 3 (by omega) (by decide)).trans (congrArg r (by omega))) dX6_centsInRowsOf_43 ?_
          refine q_i2l hF (by have q1 := hv.many; have q2 := hv.rows; have q5 := hrw k (by omega); omega) dX6_centsInRowsOf_44 ?_
          refine q_goto hF dX6_centsInRowsOf_45 ?_
          rw [show (g_rowC r (l : Int) k) = (r (1186 + 5 * k)) from by unfold g_rowC; first | exact if_pos (by omega) | exact if_neg (by omega)] at hJ22; exact hJ22
set_option maxRecDepth 100000 in
theorem mX6_centsInRowsOf {G : q_G} {sz : Nat} {T : q_T} {I L : q_I} {P : q_P} {Q : q_Q} {w : Nat} {rn : Nat} {mo : Int} {r : Nat → Int} {l : Nat} (hW : q_SW T P w) (hWR : q_WR I L w r mo) (hv : g_V0 r) (hrn : r 6 = (rn : Int)) (hrw : g_RW r) (hl5 : l < 5) (k0 : Q (.inl (some (qL (g_sum (g_rowC r (l : Int)) rn)))) sz T I L P) : qC G 1 0 0 YX6_centsInRowsOf [.ref w, qI (l : Int)] sz T I L P Q := by
  refine qC_of (by decide +kernel) rfl rfl (Nat.le_of_ble_eq_true rfl) (fun F hF _ _ => ?_)
  refine q_lconst hF (z := 0) rfl dX6_centsInRowsOf_0 ?_
  refine q_lstore_n hF (ls' := [(2, qL 0), (0, .ref w), (1, qI (l : Int))]) rfl (by decide) rfl dX6_centsInRowsOf_1 ?_
  refine q_iconst hF dX6_centsInRowsOf_2 ?_
  refine q_istore hF (ls' := [(4, qI 0), (2, qL 0), (0, .ref w), (1, qI (l : Int))]) (by decide) rfl dX6_centsInRowsOf_3 ?_
  exact lX6_centsInRowsOf (by decide) hF hW hWR hv hrn hrw hl5 k0 (rn + 1) 0 (by omega) (Nat.zero_le _)
set_option maxRecDepth 100000 in
theorem lX6_lettersSent {G : q_G} {F : q_F} {h : Nat} {Q : q_Q} {kc ks sz : Nat} {T : q_T} {w mn : Nat} {bd mo : Int} {r : Nat → Int}  {I L : q_I} {P : q_P} (h1 : 1 ≤ h) (hF : q_ok G F YX6_lettersSent h) (hW : q_SW T P w) (hWR : q_WR I L w r mo) (hv : g_V0 r) (hmn : r 1 = (mn : Int)) (hvs : ∀ i : Nat, i < mn → g_VA r i bd) (k0 : Q (.inl (some (qI (g_sum (fun i => r (1046 + 12 * i)) mn)))) sz T I L P) : ∀ (n : Nat) (k : Nat), mn - k < n → k ≤ mn → qX G F Q kc ks 4 [(2, qI (k : Int)), (1, qI (g_sum (fun i => r (1046 + 12 * i)) k)), (0, .ref w)] [] sz T I L P := by
  intro n
  induction n with
  | zero => intro k hn; exact absurd hn (Nat.not_lt_zero _)
  | succ n ih =>
    intro k hn hk
    have hm12 := hv.many
    have hr12 := hv.rows
    refine q_iload_n hF 0 rfl rfl dX6_lettersSent_4 ?_
    refine q_aload_n hF 2 rfl rfl dX6_lettersSent_5 ?_
    refine q_getIv hF (z := (mn : Int)) fl_RX6_41 hW.t0 (hWR.cnt.trans hmn) dX6_lettersSent_6 ?_
    refine q_icmpge hF (by have q1 := hv.many; have q2 := hv.rows; omega) (by have q1 := hv.many; have q2 := hv.rows; omega) dX6_lettersSent_9 (fun c9 => ?_) (fun c9 => ?_)
    · refine q_iload_n hF 1 rfl rfl dX6_lettersSent_36 ?_
      refine q_ireturn hF rfl dX6_lettersSent_37 ?_
      rw [show k = mn by omega]; exact k0
    · refine q_iload_n hF 0 rfl rfl dX6_lettersSent_12 ?_
      refine q_bipush hF (n := 12) rfl dX6_lettersSent_13 ?_
      refine q_icmpge hF (by have q1 := hv.many; have q2 := hv.rows; omega) (by decide) dX6_lettersSent_15 (fun c15 => ?_) (fun c15 => ?_)
      · omega
      · refine q_iload_n hF 1 rfl rfl dX6_lettersSent_18 ?_
        refine q_aload_n hF 2 rfl rfl dX6_lettersSent_19 ?_
        refine q_getA hF fl_RX6_20 rfl hW.t0 hW.p1 dX6_lettersSent_20 ?_
        refine q_iload_n hF 0 rfl rfl dX6_lettersSent_23 ?_
        refine q_aaloadv hF (b := w + 35 + k) k hW.t19 (by decide) rfl (by omega) (by decide) (hW.pa _ (by omega)) dX6_lettersSent_24 ?_
        refine q_getIv hF (z := r (1046 + 12 * k)) fl_RX6_107 (hW.ta _ (by omega)) (hWR.acc k (by omega)).wrote dX6_lettersSent_25 ?_
        refine q_iadd hF dX6_lettersSent_28 ?_
        refine q_istore_n hF (ls' := [(1, qI ((g_sum (fun i => r (1046 + 12 * i)) k) + (r (1046 + 12 * k)))), (2, qI (k : Int)), (0, .ref w)]) rfl (by decide) rfl dX6_lettersSent_29 ?_
        refine q_iinc hF (z' := ((1 + k : Nat) : Int)) (ls' := [(2, qI ((1 + k : Nat) : Int)), (1, qI ((g_sum (fun i => r (1046 + 12 * i)) k) + (r (1046 + 12 * k)))), (0, .ref w)]) 1 rfl (by first | rfl | omega) (by decide) rfl dX6_lettersSent_30 ?_
        refine q_goto hF dX6_lettersSent_33 ?_
        rw [Nat.add_comm 1 k]
        rw [show ((g_sum (fun i => r (1046 + 12 * i)) k) + (r (1046 + 12 * k))) = g_sum (fun i => r (1046 + 12 * i)) (k + 1) from rfl]
        exact ih (k + 1) (by omega) (by omega)
set_option maxRecDepth 100000 in
theorem mX6_lettersSent {G : q_G} {sz : Nat} {T : q_T} {I L : q_I} {P : q_P} {Q : q_Q} {w : Nat} {mn : Nat} {bd mo : Int} {r : Nat → Int}  (hW : q_SW T P w) (hWR : q_WR I L w r mo) (hv : g_V0 r) (hmn : r 1 = (mn : Int)) (hvs : ∀ i : Nat, i < mn → g_VA r i bd) (k0 : Q (.inl (some (qI (g_sum (fun i => r (1046 + 12 * i)) mn)))) sz T I L P) : qC G 1 0 0 YX6_lettersSent [.ref w] sz T I L P Q := by
  refine qC_of (by decide +kernel) rfl rfl (Nat.le_of_ble_eq_true rfl) (fun F hF _ _ => ?_)
  refine q_iconst hF dX6_lettersSent_0 ?_
  refine q_istore_n hF (ls' := [(1, qI 0), (0, .ref w)]) rfl (by decide) rfl dX6_lettersSent_1 ?_
  refine q_iconst hF dX6_lettersSent_2 ?_
  refine q_istore_n hF (ls' := [(2, qI 0), (1, qI 0), (0, .ref w)]) rfl (by decide) rfl dX6_lettersSent_3 ?_
  exact lX6_lettersSent (by decide) hF hW hWR hv hmn hvs k0 (mn + 1) 0 (by omega) (Nat.zero_le _)
set_option maxRecDepth 100000 in
theorem mX0_inBooks {G : q_G} {sz : Nat} {T : q_T} {I L : q_I} {P : q_P} {Q : q_Q} {o : Nat} {n : Int} {a : Nat} {r : Nat → Int} (hO : T o = some (.inl 0)) (hAR : q_AR I o r a) (hst : 0 ≤ r (1043 + 12 * a) ∧ r (1043 + 12 * a) ≤ 4) (hc : 0 ≤ r (1042 + 12 * a) ∧ r (1042 + 12 * a) ≤ 100000000) (h06 : 0 ≤ n ∧ n ≤ 6) (k0 : Q (.inl (some (qL (g_inA L o r a n)))) sz T I L P) : qC G 1 0 0 YX0_inBooks [.ref o, qI n] sz T I L P Q := by
  refine qC_of (by decide +kernel) rfl rfl (Nat.le_of_ble_eq_true rfl) (fun F hF _ _ => ?_)
  refine q_iload_n hF 1 rfl rfl dX0_inBooks_0 ?_
  have c1_r := (show -2147483648 ≤ n ∧ n < 2147483648 from (by omega))
  rcases (show n = 0 ∨ n = 1 ∨ n = 2 ∨ n = 3 ∨ n = 4 ∨ n = 5 ∨ (n < 0 ∨ 5 < n) from by omega) with c1 | c1 | c1 | c1 | c1 | c1 | c1
  · refine q_tableIn hF dX0_inBooks_1 c1_r (by rw [c1]; decide) (by rw [c1]; decide) (off := 39) (by rw [c1]; rfl) (tgt := 40) rfl ?_
    refine q_aload_n hF 0 rfl rfl dX0_inBooks_40 ?_
    refine q_getLv hF (z := L o 12) fl_RX0_49 hO rfl dX0_inBooks_41 ?_
    refine q_lreturn hF rfl dX0_inBooks_44 ?_
    rw [show (g_inA L o r a n) = (L o 12) from by unfold g_inA g_liveC g_handC; repeat (first | rw [if_pos (by omega)] | rw [if_neg (by omega)])] at k0; exact k0
  · refine q_tableIn hF dX0_inBooks_1 c1_r (by rw [c1]; decide) (by rw [c1]; decide) (off := 44) (by rw [c1]; rfl) (tgt := 45) rfl ?_
    refine q_aload_n hF 0 rfl rfl dX0_inBooks_45 ?_
    refine q_getLv hF (z := L o 13) fl_RX0_53 hO rfl dX0_inBooks_46 ?_
    refine q_lreturn hF rfl dX0_inBooks_49 ?_
    rw [show (g_inA L o r a n) = (L o 13) from by unfold g_inA g_liveC g_handC; repeat (first | rw [if_pos (by omega)] | rw [if_neg (by omega)])] at k0; exact k0
  · refine q_tableIn hF dX0_inBooks_1 c1_r (by rw [c1]; decide) (by rw [c1]; decide) (off := 49) (by rw [c1]; rfl) (tgt := 50) rfl ?_
    refine q_aload_n hF 0 rfl rfl dX0_inBooks_50 ?_
    refine q_getLv hF (z := L o 14) fl_RX0_56 hO rfl dX0_inBooks_51 ?_
    refine q_lreturn hF rfl dX0_inBooks_54 ?_
    rw [show (g_inA L o r a n) = (L o 14) from by unfold g_inA g_liveC g_handC; repeat (first | rw [if_pos (by omega)] | rw [if_neg (by omega)])] at k0; exact k0
  · refine q_tableIn hF dX0_inBooks_1 c1_r (by rw [c1]; decide) (by rw [c1]; decide) (off := 54) (by rw [c1]; rfl) (tgt := 55) rfl ?_
    refine q_aload_n hF 0 rfl rfl dX0_inBooks_55 ?_
    refine q_getLv hF (z := L o 15) fl_RX0_59 hO rfl dX0_inBooks_56 ?_
    refine q_lreturn hF rfl dX0_inBooks_59 ?_
    rw [show (g_inA L o r a n) = (L o 15) from by unfold g_inA g_liveC g_handC; repeat (first | rw [if_pos (by omega)] | rw [if_neg (by omega)])] at k0; exact k0
  · refine q_tableIn hF dX0_inBooks_1 c1_r (by rw [c1]; decide) (by rw [c1]; decide) (off := 59) (by rw [c1]; rfl) (tgt := 60) rfl ?_
    refine q_aload_n hF 0 rfl rfl dX0_inBooks_60 ?_
    refine q_callV (kc := 0) (ks := 0) (mc' := 0) (ms' := 0) (h' := 0) (st := []) hF vl_RX0_124 rfl [] rfl rfl hO (by decide) (Nat.le_of_ble_eq_true rfl) dX0_inBooks_61 ?_
    refine mX0_isWithBankR (r := r) (a := a) hO hAR hst ?_
    refine q_ifeq_b hF dX0_inBooks_64 (fun c64 => ?_) (fun c64 => ?_)
    · refine q_lconst hF (z := 0) rfl dX0_inBooks_75 ?_
      refine q_lreturn hF rfl dX0_inBooks_76 ?_
      rw [show (g_inA L o r a n) = 0 from by unfold g_inA g_liveC g_handC; repeat (first | rw [if_pos (by omega)] | rw [if_neg (by omega)])] at k0; exact k0
    · refine q_aload_n hF 0 rfl rfl dX0_inBooks_67 ?_
      refine q_getIv hF (z := r (1042 + 12 * a)) fl_RX0_21 hO hAR.cents dX0_inBooks_68 ?_
      refine q_i2l hF (by omega) dX0_inBooks_71 ?_
      refine q_goto hF dX0_inBooks_72 ?_
      refine q_lreturn hF rfl dX0_inBooks_76 ?_
      rw [show (g_inA L o r a n) = (r (1042 + 12 * a)) from by unfold g_inA g_liveC g_handC; repeat (first | rw [if_pos (by omega)] | rw [if_neg (by omega)])] at k0; exact k0
  · refine q_tableIn hF dX0_inBooks_1 c1_r (by rw [c1]; decide) (by rw [c1]; decide) (off := 76) (by rw [c1]; rfl) (tgt := 77) rfl ?_
    refine q_aload_n hF 0 rfl rfl dX0_inBooks_77 ?_
    refine q_getIv hF (z := r (1043 + 12 * a)) fl_RX0_24 hO hAR.state dX0_inBooks_78 ?_
    refine q_iconst hF dX0_inBooks_81 ?_
    refine q_icmpne hF (by omega) (by decide) dX0_inBooks_82 (fun c82 => ?_) (fun c82 => ?_)
    · refine q_lconst hF (z := 0) rfl dX0_inBooks_93 ?_
      refine q_lreturn hF rfl dX0_inBooks_94 ?_
      rw [show (g_inA L o r a n) = 0 from by unfold g_inA g_liveC g_handC; repeat (first | rw [if_pos (by omega)] | rw [if_neg (by omega)])] at k0; exact k0
    · refine q_aload_n hF 0 rfl rfl dX0_inBooks_85 ?_
      refine q_getIv hF (z := r (1042 + 12 * a)) fl_RX0_21 hO hAR.cents dX0_inBooks_86 ?_
      refine q_i2l hF (by omega) dX0_inBooks_89 ?_
      refine q_goto hF dX0_inBooks_90 ?_
      refine q_lreturn hF rfl dX0_inBooks_94 ?_
      rw [show (g_inA L o r a n) = (r (1042 + 12 * a)) from by unfold g_inA g_liveC g_handC; repeat (first | rw [if_pos (by omega)] | rw [if_neg (by omega)])] at k0; exact k0
  · refine q_tableOut hF dX0_inBooks_1 c1_r c1 (tgt := 95) rfl ?_
    refine q_aload_n hF 0 rfl rfl dX0_inBooks_95 ?_
    refine q_getLv hF (z := L o 16) fl_RX0_62 hO rfl dX0_inBooks_96 ?_
    refine q_lreturn hF rfl dX0_inBooks_99 ?_
    rw [show (g_inA L o r a n) = (L o 16) from by unfold g_inA g_liveC g_handC; repeat (first | rw [if_pos (by omega)] | rw [if_neg (by omega)])] at k0; exact k0
set_option maxRecDepth 100000 in
theorem lX6_inBooks {G : q_G} {F : q_F} {h : Nat} {Q : q_Q} {kc ks sz : Nat} {T : q_T} {w mn : Nat} {bd mo : Int} {r : Nat → Int} {wt : Int} {I L : q_I} {P : q_P} (h1 : 2 ≤ h) (hF : q_ok G F YX6_inBooks h) (hW : q_SW T P w) (hWR : q_WR I L w r mo) (hv : g_V0 r) (hmn : r 1 = (mn : Int)) (hvs : ∀ i : Nat, i < mn → g_VA r i bd) (h06 : 0 ≤ wt ∧ wt ≤ 6) (k0 : Q (.inl (some (qL (g_booksQ r mn wt)))) sz T I L P) : ∀ (n : Nat) (k : Nat), mn - k < n → k ≤ mn → qX G F Q kc ks 5 [(4, qI (k : Int)), (2, qL (g_sum (g_inB L w r wt) k)), (0, .ref w), (1, qI wt)] [] sz T I L P := by
  intro n
  induction n with
  | zero => intro k hn; exact absurd hn (Nat.not_lt_zero _)
  | succ n ih =>
    intro k hn hk
    have hm12 := hv.many
    have hr12 := hv.rows
    refine q_iload hF 0 rfl dX6_inBooks_5 ?_
    refine q_aload_n hF 2 rfl rfl dX6_inBooks_7 ?_
    refine q_getIv hF (z := (mn : Int)) fl_RX6_41 hW.t0 (hWR.cnt.trans hmn) dX6_inBooks_8 ?_
    refine q_icmpge hF (by have q1 := hv.many; have q2 := hv.rows; omega) (by have q1 := hv.many; have q2 := hv.rows; omega) dX6_inBooks_11 (fun c11 => ?_) (fun c11 => ?_)
    · refine q_lload_n hF 1 rfl rfl dX6_inBooks_41 ?_
      refine q_lreturn hF rfl dX6_inBooks_42 ?_
      rw [show k = mn by omega, g_inB_sum hWR hmn h06]; exact k0
    · refine q_iload hF 0 rfl dX6_inBooks_14 ?_
      refine q_bipush hF (n := 12) rfl dX6_inBooks_16 ?_
      refine q_icmpge hF (by have q1 := hv.many; have q2 := hv.rows; omega) (by decide) dX6_inBooks_18 (fun c18 => ?_) (fun c18 => ?_)
      · omega
      · have hA := hvs k (by omega)
        refine q_lload_n hF 1 rfl rfl dX6_inBooks_21 ?_
        refine q_aload_n hF 2 rfl rfl dX6_inBooks_22 ?_
        refine q_getA hF fl_RX6_20 rfl hW.t0 hW.p1 dX6_inBooks_23 ?_
        refine q_iload hF 0 rfl dX6_inBooks_26 ?_
        refine q_aaloadv hF (b := w + 35 + k) k hW.t19 (by decide) rfl (by omega) (by decide) (hW.pa _ (by omega)) dX6_inBooks_28 ?_
        refine q_iload_n hF 3 rfl rfl dX6_inBooks_29 ?_
        refine q_callV (kc := kc) (ks := ks) (mc' := 0) (ms' := 0) (h' := 1) (st := [qL (g_sum (g_inB L w r wt) k)]) hF vl_RX6_110 rfl [qI wt] rfl rfl (hW.ta _ (by omega)) (by omega) (Nat.le_of_ble_eq_true rfl) dX6_inBooks_30 ?_
        refine mX0_inBooks (r := r) (a := k) (hW.ta _ (by omega)) (hWR.acc k (by omega)) hA.state hA.cents (by omega) ?_
        refine q_ladd hF dX6_inBooks_33 ?_
        refine q_lstore_n hF (ls' := [(2, qL ((g_sum (g_inB L w r wt) k) + (g_inA L (w + 35 + k) r k wt))), (4, qI (k : Int)), (0, .ref w), (1, qI wt)]) rfl (by decide) rfl dX6_inBooks_34 ?_
        refine q_iinc hF (z' := ((1 + k : Nat) : Int)) (ls' := [(4, qI ((1 + k : Nat) : Int)), (2, qL ((g_sum (g_inB L w r wt) k) + (g_inA L (w + 35 + k) r k wt))), (0, .ref w), (1, qI wt)]) 1 rfl (by first | rfl | omega) (by decide) rfl dX6_inBooks_35 ?_
        refine q_goto hF dX6_inBooks_38 ?_
        rw [Nat.add_comm 1 k]
        rw [show ((g_sum (g_inB L w r wt) k) + (g_inA L (w + 35 + k) r k wt)) = g_sum (g_inB L w r wt) (k + 1) from rfl]
        exact ih (k + 1) (by omega) (by omega)
set_option maxRecDepth 100000 in
theorem mX6_inBooks {G : q_G} {sz : Nat} {T : q_T} {I L : q_I} {P : q_P} {Q : q_Q} {w : Nat} {wt : Int} {mn : Nat} {bd mo : Int} {r : Nat → Int} (hW : q_SW T P w) (hWR : q_WR I L w r mo) (hv : g_V0 r) (hmn : r 1 = (mn : Int)) (hvs : ∀ i : Nat, i < mn → g_VA r i bd) (h06 : 0 ≤ wt ∧ wt ≤ 6) (k0 : Q (.inl (some (qL (g_booksQ r mn wt)))) sz T I L P) : qC G 2 0 0 YX6_inBooks [.ref w, qI wt] sz T I L P Q := by
  refine qC_of (by decide +kernel) rfl rfl (Nat.le_of_ble_eq_true rfl) (fun F hF _ _ => ?_)
  refine q_lconst hF (z := 0) rfl dX6_inBooks_0 ?_
  refine q_lstore_n hF (ls' := [(2, qL 0), (0, .ref w), (1, qI wt)]) rfl (by decide) rfl dX6_inBooks_1 ?_
  refine q_iconst hF dX6_inBooks_2 ?_
  refine q_istore hF (ls' := [(4, qI 0), (2, qL 0), (0, .ref w), (1, qI wt)]) (by decide) rfl dX6_inBooks_3 ?_
  exact lX6_inBooks (by decide) hF hW hWR hv hmn hvs h06 k0 (mn + 1) 0 (by omega) (Nat.zero_le _)
