/-! the two banks compared: lands, rows, books -/

set_option maxRecDepth 100000 in
theorem lL_isAsC1 {G : q_G} {F : q_F} {h : Nat} {Q : q_Q} {kc ks sz : Nat} {T : q_T} {b bk tp k v n9 w m : Nat} {B : Nat → Int} {R : Nat → Nat → Int} {E : Nat → Prop} {ρ σ : Nat → Nat} {l : Nat} {I L : q_I} {P : q_P} (hF : q_ok G F YL_isAs h) (h9 : 9 ≤ h) (hA : q_A G b) (hW : q_OW E T I L P k v n9 ρ w m σ (R 0)) (hEr : ∀ q, E q → b + 452 ≤ q ∧ q < sz) (hro : q_RO (R 0)) (hll : (l : Int) < R 0 0) (k0 : qX G F Q kc ks 535 [(13, qL 0), (11, qL 0), (10, qI 0), (9, qI (g_set (fun k => 0 < R 0 (90 + 2 * (5 * k + l))) 5)), (8, qI (l : Int)), (6, qL (g_sum (g_handC (R 0)) n9)), (4, qL (g_sum (g_liveC (R 0)) n9)), (2, qL (g_print (R 0) n9)), (1, .ref k), (0, .ref b)] [] sz T I L P) : ∀ (n : Nat) (c : Nat), 5 - c < n → c ≤ 5 → qX G F Q kc ks 501 [(15, qI (c : Int)), (13, qL 0), (11, qL 0), (10, qI 0), (9, qI (g_set (fun k => 0 < R 0 (90 + 2 * (5 * k + l))) c)), (8, qI (l : Int)), (6, qL (g_sum (g_handC (R 0)) n9)), (4, qL (g_sum (g_liveC (R 0)) n9)), (2, qL (g_print (R 0) n9)), (1, .ref k), (0, .ref b)] [] sz T I L P := by
  intro n
  induction n with
  | zero => intro c hn; exact absurd hn (Nat.not_lt_zero _)
  | succ n ih =>
    intro c hn hc
    have hO := hW.ot
    have hM := hW.om
    have hRk := hW.rr
    have hV0 := hro.1.1
    have hkz := hEr _ (hW.ek k (Nat.le_refl _) (by omega))
    have hn12 : n9 ≤ 12 := by have := hV0.many; have := hM.nn; omega
    have hm12 : m ≤ 12 := by have := hV0.rows; have := hM.mm; omega
    have hV0l := hV0.lands
    refine q_iload hF 0 rfl dL_isAs_501 ?_
    refine q_iconst hF dL_isAs_503 ?_
    refine q_icmpge hF (by omega) (by decide) dL_isAs_504 (fun c504 => ?_) (fun c504 => ?_)
    · obtain rfl : c = 5 := by omega
      refine q_sub [1, 2, 3, 4, 5, 6, 7, 8, 9, 10] rfl ?_
      exact k0
    · refine q_aload_n hF 9 rfl rfl dL_isAs_507 ?_
      refine q_getA hF fl_RL_170 rfl hO.t0 hO.p2 dL_isAs_508 ?_
      refine q_iload hF 0 rfl dL_isAs_511 ?_
      refine q_aaloadv hF (b := k + 8 + c) c hO.t7 (by decide) rfl (by omega) (by decide) (hO.ps c (by omega)) dL_isAs_513 ?_
      refine q_iload hF 5 rfl dL_isAs_514 ?_
      refine q_aaloadRv hF (r := P (k + 8 + c) l) l (hO.ts c (by omega)) (by decide) rfl (by omega) (by decide) rfl dL_isAs_516 ?_
      refine q_ifnull hF (r := P (k + 8 + c) l) dL_isAs_517 (fun c517 => ?_) (fun c517 => ?_)
      · refine q_iinc hF (z' := ((1 + c : Nat) : Int)) (ls' := [(15, qI ((1 + c : Nat) : Int)), (13, qL 0), (11, qL 0), (10, qI 0), (9, qI (g_set (fun k => 0 < R 0 (90 + 2 * (5 * k + l))) c)), (8, qI (l : Int)), (6, qL (g_sum (g_handC (R 0)) n9)), (4, qL (g_sum (g_liveC (R 0)) n9)), (2, qL (g_print (R 0) n9)), (1, .ref k), (0, .ref b)]) 0 rfl (by first | rfl | omega) (by decide) rfl dL_isAs_529 ?_
        refine q_goto hF dL_isAs_532 ?_
        rw [Nat.add_comm 1 c]
        have hneg : ¬ 0 < R 0 (90 + 2 * (5 * c + l)) := by
          rcases hRk.lw c l (by omega) (by omega) with ⟨y1, y2⟩ | ⟨y1, _, _, _, _, _, y2, _⟩
          · omega
          · rw [y2] at c517; cases c517
        rw [show qI (g_set (fun k => 0 < R 0 (90 + 2 * (5 * k + l))) c) = qI (g_set (fun k => 0 < R 0 (90 + 2 * (5 * k + l))) (c + 1)) from congrArg Value.int ((q_or0 _).symm.trans (q_set_n _ c hneg))]
        exact ih (c + 1) (by omega) (by omega)
      · have hpos : 0 < R 0 (90 + 2 * (5 * c + l)) := by
          rcases hRk.lw c l (by omega) (by omega) with ⟨y1, y2⟩ | ⟨y1, y2⟩
          · exact absurd y2 c517
          · exact y1
        refine q_iload hF 4 rfl dL_isAs_520 ?_
        refine q_iconst hF dL_isAs_522 ?_
        refine q_iload hF 0 rfl dL_isAs_523 ?_
        refine q_ishl hF (c0 := ((2 ^ c : Nat) : Int)) (q_shlN (by omega)) dL_isAs_525 ?_
        refine q_ior hF (c0 := g_set (fun k => 0 < R 0 (90 + 2 * (5 * k + l))) (c + 1)) (q_set_s _ _ hpos) dL_isAs_526 ?_
        refine q_istore hF (ls' := [(9, qI (g_set (fun k => 0 < R 0 (90 + 2 * (5 * k + l))) (c + 1))), (15, qI (c : Int)), (13, qL 0), (11, qL 0), (10, qI 0), (8, qI (l : Int)), (6, qL (g_sum (g_handC (R 0)) n9)), (4, qL (g_sum (g_liveC (R 0)) n9)), (2, qL (g_print (R 0) n9)), (1, .ref k), (0, .ref b)]) (by decide) rfl dL_isAs_527 ?_
        refine q_iinc hF (z' := ((1 + c : Nat) : Int)) (ls' := [(15, qI ((1 + c : Nat) : Int)), (9, qI (g_set (fun k => 0 < R 0 (90 + 2 * (5 * k + l))) (c + 1))), (13, qL 0), (11, qL 0), (10, qI 0), (8, qI (l : Int)), (6, qL (g_sum (g_handC (R 0)) n9)), (4, qL (g_sum (g_liveC (R 0)) n9)), (2, qL (g_print (R 0) n9)), (1, .ref k), (0, .ref b)]) 1 rfl (by first | rfl | omega) (by decide) rfl dL_isAs_529 ?_
        refine q_goto hF dL_isAs_532 ?_
        refine q_sub [0, 2, 3, 4, 1, 5, 6, 7, 8, 9, 10] rfl ?_
        rw [Nat.add_comm 1 c]
        exact ih (c + 1) (by omega) (by omega)

set_option maxRecDepth 100000 in
theorem lL_isAsC2 {G : q_G} {F : q_F} {h : Nat} {Q : q_Q} {kc ks sz : Nat} {T : q_T} {b bk tp k v n9 w m : Nat} {B : Nat → Int} {R : Nat → Nat → Int} {E : Nat → Prop} {ρ σ : Nat → Nat} {l : Nat} {I L : q_I} {P : q_P} (hF : q_ok G F YL_isAs h) (h9 : 9 ≤ h) (hA : q_A G b) (hW : q_OW E T I L P k v n9 ρ w m σ (R 0)) (hEr : ∀ q, E q → b + 452 ≤ q ∧ q < sz) (hro : q_RO (R 0)) (hll : (l : Int) < R 0 0) (k0 : qX G F Q kc ks 610 [(13, qL 0), (11, qL (g_sum (g_heldC (R 0) (l : Int)) n9)), (10, qI (g_set (fun k => R 0 (1043 + 12 * k) = 2 ∧ R 0 (1047 + 12 * k) = (l : Int)) n9)), (9, qI (g_set (fun k => 0 < R 0 (90 + 2 * (5 * k + l))) 5)), (8, qI (l : Int)), (6, qL (g_sum (g_handC (R 0)) n9)), (4, qL (g_sum (g_liveC (R 0)) n9)), (2, qL (g_print (R 0) n9)), (1, .ref k), (0, .ref b)] [] sz T I L P) : ∀ (n : Nat) (c : Nat), n9 - c < n → c ≤ n9 → qX G F Q kc ks 538 [(15, qI (c : Int)), (13, qL 0), (11, qL (g_sum (g_heldC (R 0) (l : Int)) c)), (10, qI (g_set (fun k => R 0 (1043 + 12 * k) = 2 ∧ R 0 (1047 + 12 * k) = (l : Int)) c)), (9, qI (g_set (fun k => 0 < R 0 (90 + 2 * (5 * k + l))) 5)), (8, qI (l : Int)), (6, qL (g_sum (g_handC (R 0)) n9)), (4, qL (g_sum (g_liveC (R 0)) n9)), (2, qL (g_print (R 0) n9)), (1, .ref k), (0, .ref b)] [] sz T I L P := by
  intro n
  induction n with
  | zero => intro c hn; exact absurd hn (Nat.not_lt_zero _)
  | succ n ih =>
    intro c hn hc
    have hO := hW.ot
    have hM := hW.om
    have hRk := hW.rr
    have hV0 := hro.1.1
    have hkz := hEr _ (hW.ek k (Nat.le_refl _) (by omega))
    have hn12 : n9 ≤ 12 := by have := hV0.many; have := hM.nn; omega
    have hm12 : m ≤ 12 := by have := hV0.rows; have := hM.mm; omega
    have hV0l := hV0.lands
    refine q_iload hF 0 rfl dL_isAs_538 ?_
    refine q_aload_n hF 9 rfl rfl dL_isAs_540 ?_
    refine q_getA hF fl_RL_231 rfl hO.t0 hM.pv dL_isAs_541 ?_
    refine q_alen hF (n := n9) hM.tv dL_isAs_544 ?_
    refine q_icmpge hF (by omega) (by omega) dL_isAs_545 (fun c545 => ?_) (fun c545 => ?_)
    · obtain rfl : c = n9 := by omega
      refine q_sub [1, 2, 3, 4, 5, 6, 7, 8, 9, 10] rfl ?_
      exact k0
    · refine q_aload_n hF 9 rfl rfl dL_isAs_548 ?_
      refine q_getA hF fl_RL_231 rfl hO.t0 hM.pv dL_isAs_549 ?_
      refine q_iload hF 0 rfl dL_isAs_552 ?_
      refine q_aaloadv hF (b := ρ c) c hM.tv (by decide) rfl (by omega) (by omega) (hM.pa c (by omega)) dL_isAs_554 ?_
      refine q_getIv hF (z := R 0 (1043 + 12 * c)) fl_RL_260 (hM.ta c (by omega)) (hM.ac c (by omega)).st dL_isAs_555 ?_
      refine q_iconst hF dL_isAs_558 ?_
      refine q_icmpne hF (by have hVA := hro.1.2.1 c (by have := hM.nn; omega); have h1 := hVA.state; have h2 := hVA.holder; have h3 := hVA.cents; omega) (by decide) dL_isAs_559 (fun c559 => ?_) (fun c559 => ?_)
      · refine q_iinc hF (z' := ((1 + c : Nat) : Int)) (ls' := [(15, qI ((1 + c : Nat) : Int)), (13, qL 0), (11, qL (g_sum (g_heldC (R 0) (l : Int)) c)), (10, qI (g_set (fun k => R 0 (1043 + 12 * k) = 2 ∧ R 0 (1047 + 12 * k) = (l : Int)) c)), (9, qI (g_set (fun k => 0 < R 0 (90 + 2 * (5 * k + l))) 5)), (8, qI (l : Int)), (6, qL (g_sum (g_handC (R 0)) n9)), (4, qL (g_sum (g_liveC (R 0)) n9)), (2, qL (g_print (R 0) n9)), (1, .ref k), (0, .ref b)]) 0 rfl (by first | rfl | omega) (by decide) rfl dL_isAs_604 ?_
        refine q_goto hF dL_isAs_607 ?_
        rw [Nat.add_comm 1 c]
        have hneg : ¬ (R 0 (1043 + 12 * c) = 2 ∧ R 0 (1047 + 12 * c) = (l : Int)) := by omega
        rw [show qI (g_set (fun k => R 0 (1043 + 12 * k) = 2 ∧ R 0 (1047 + 12 * k) = (l : Int)) c) = qI (g_set (fun k => R 0 (1043 + 12 * k) = 2 ∧ R 0 (1047 + 12 * k) = (l : Int)) (c + 1)) from congrArg Value.int ((q_or0 _).symm.trans (q_set_n _ c hneg))]
        rw [show g_sum (g_heldC (R 0) (l : Int)) c = g_sum (g_heldC (R 0) (l : Int)) (c + 1) from by rw [g_sum_s, show g_heldC (R 0) (l : Int) c = 0 from if_neg hneg, Int.add_zero]]
        exact ih (c + 1) (by omega) (by omega)
      · refine q_aload_n hF 9 rfl rfl dL_isAs_562 ?_
        refine q_getA hF fl_RL_231 rfl hO.t0 hM.pv dL_isAs_563 ?_
        refine q_iload hF 0 rfl dL_isAs_566 ?_
        refine q_aaloadv hF (b := ρ c) c hM.tv (by decide) rfl (by omega) (by omega) (hM.pa c (by omega)) dL_isAs_568 ?_
        refine q_getIv hF (z := R 0 (1047 + 12 * c)) fl_RL_263 (hM.ta c (by omega)) (hM.ac c (by omega)).ho dL_isAs_569 ?_
        refine q_iload hF 5 rfl dL_isAs_572 ?_
        refine q_icmpeq hF (by have hVA := hro.1.2.1 c (by have := hM.nn; omega); have h1 := hVA.state; have h2 := hVA.holder; have h3 := hVA.cents; omega) (by omega) dL_isAs_574 (fun c574 => ?_) (fun c574 => ?_)
        · have hpos : R 0 (1043 + 12 * c) = 2 ∧ R 0 (1047 + 12 * c) = (l : Int) := by omega
          refine q_iload hF 3 rfl dL_isAs_580 ?_
          refine q_iconst hF dL_isAs_582 ?_
          refine q_iload hF 0 rfl dL_isAs_583 ?_
          refine q_ishl hF (c0 := ((2 ^ c : Nat) : Int)) (q_shlN (by omega)) dL_isAs_585 ?_
          refine q_ior hF (c0 := g_set (fun k => R 0 (1043 + 12 * k) = 2 ∧ R 0 (1047 + 12 * k) = (l : Int)) (c + 1)) (q_set_s _ _ hpos) dL_isAs_586 ?_
          refine q_istore hF (ls' := [(10, qI (g_set (fun k => R 0 (1043 + 12 * k) = 2 ∧ R 0 (1047 + 12 * k) = (l : Int)) (c + 1))), (15, qI (c : Int)), (13, qL 0), (11, qL (g_sum (g_heldC (R 0) (l : Int)) c)), (9, qI (g_set (fun k => 0 < R 0 (90 + 2 * (5 * k + l))) 5)), (8, qI (l : Int)), (6, qL (g_sum (g_handC (R 0)) n9)), (4, qL (g_sum (g_liveC (R 0)) n9)), (2, qL (g_print (R 0) n9)), (1, .ref k), (0, .ref b)]) (by decide) rfl dL_isAs_587 ?_
          refine q_lload hF 3 rfl dL_isAs_589 ?_
          refine q_aload_n hF 9 rfl rfl dL_isAs_591 ?_
          refine q_getA hF fl_RL_231 rfl hO.t0 hM.pv dL_isAs_592 ?_
          refine q_iload hF 1 rfl dL_isAs_595 ?_
          refine q_aaloadv hF (b := ρ c) c hM.tv (by decide) rfl (by omega) (by omega) (hM.pa c (by omega)) dL_isAs_597 ?_
          refine q_getLv hF (z := R 0 (1042 + 12 * c)) fl_RL_227 (hM.ta c (by omega)) (hM.ac c (by omega)).ce dL_isAs_598 ?_
          refine q_ladd hF dL_isAs_601 ?_
          refine q_lstore hF (ls' := [(11, qL ((g_sum (g_heldC (R 0) (l : Int)) c) + (R 0 (1042 + 12 * c)))), (10, qI (g_set (fun k => R 0 (1043 + 12 * k) = 2 ∧ R 0 (1047 + 12 * k) = (l : Int)) (c + 1))), (15, qI (c : Int)), (13, qL 0), (9, qI (g_set (fun k => 0 < R 0 (90 + 2 * (5 * k + l))) 5)), (8, qI (l : Int)), (6, qL (g_sum (g_handC (R 0)) n9)), (4, qL (g_sum (g_liveC (R 0)) n9)), (2, qL (g_print (R 0) n9)), (1, .ref k), (0, .ref b)]) (by decide) rfl dL_isAs_602 ?_
          refine q_iinc hF (z' := ((1 + c : Nat) : Int)) (ls' := [(15, qI ((1 + c : Nat) : Int)), (11, qL ((g_sum (g_heldC (R 0) (l : Int)) c) + (R 0 (1042 + 12 * c)))), (10, qI (g_set (fun k => R 0 (1043 + 12 * k) = 2 ∧ R 0 (1047 + 12 * k) = (l : Int)) (c + 1))), (13, qL 0), (9, qI (g_set (fun k => 0 < R 0 (90 + 2 * (5 * k + l))) 5)), (8, qI (l : Int)), (6, qL (g_sum (g_handC (R 0)) n9)), (4, qL (g_sum (g_liveC (R 0)) n9)), (2, qL (g_print (R 0) n9)), (1, .ref k), (0, .ref b)]) 2 rfl (by first | rfl | omega) (by decide) rfl dL_isAs_604 ?_
          refine q_goto hF dL_isAs_607 ?_
          refine q_sub [0, 3, 1, 2, 4, 5, 6, 7, 8, 9, 10] rfl ?_
          rw [Nat.add_comm 1 c]
          rw [show (g_sum (g_heldC (R 0) (l : Int)) c) + (R 0 (1042 + 12 * c)) = g_sum (g_heldC (R 0) (l : Int)) (c + 1) from by rw [g_sum_s, show g_heldC (R 0) (l : Int) c = R 0 (1042 + 12 * c) from if_pos hpos]]
          exact ih (c + 1) (by omega) (by omega)
        · refine q_goto hF dL_isAs_577 ?_
          refine q_iinc hF (z' := ((1 + c : Nat) : Int)) (ls' := [(15, qI ((1 + c : Nat) : Int)), (13, qL 0), (11, qL (g_sum (g_heldC (R 0) (l : Int)) c)), (10, qI (g_set (fun k => R 0 (1043 + 12 * k) = 2 ∧ R 0 (1047 + 12 * k) = (l : Int)) c)), (9, qI (g_set (fun k => 0 < R 0 (90 + 2 * (5 * k + l))) 5)), (8, qI (l : Int)), (6, qL (g_sum (g_handC (R 0)) n9)), (4, qL (g_sum (g_liveC (R 0)) n9)), (2, qL (g_print (R 0) n9)), (1, .ref k), (0, .ref b)]) 0 rfl (by first | rfl | omega) (by decide) rfl dL_isAs_604 ?_
          refine q_goto hF dL_isAs_607 ?_
          rw [Nat.add_comm 1 c]
          have hneg : ¬ (R 0 (1043 + 12 * c) = 2 ∧ R 0 (1047 + 12 * c) = (l : Int)) := by omega
          rw [show qI (g_set (fun k => R 0 (1043 + 12 * k) = 2 ∧ R 0 (1047 + 12 * k) = (l : Int)) c) = qI (g_set (fun k => R 0 (1043 + 12 * k) = 2 ∧ R 0 (1047 + 12 * k) = (l : Int)) (c + 1)) from congrArg Value.int ((q_or0 _).symm.trans (q_set_n _ c hneg))]
          rw [show g_sum (g_heldC (R 0) (l : Int)) c = g_sum (g_heldC (R 0) (l : Int)) (c + 1) from by rw [g_sum_s, show g_heldC (R 0) (l : Int) c = 0 from if_neg hneg, Int.add_zero]]
          exact ih (c + 1) (by omega) (by omega)

set_option maxRecDepth 100000 in
theorem lL_isAsC3 {G : q_G} {F : q_F} {h : Nat} {Q : q_Q} {kc ks sz : Nat} {T : q_T} {b bk tp k v n9 w m : Nat} {B : Nat → Int} {R : Nat → Nat → Int} {E : Nat → Prop} {ρ σ : Nat → Nat} {l : Nat} {I L : q_I} {P : q_P} (hF : q_ok G F YL_isAs h) (h9 : 9 ≤ h) (hA : q_A G b) (hW : q_OW E T I L P k v n9 ρ w m σ (R 0)) (hEr : ∀ q, E q → b + 452 ≤ q ∧ q < sz) (hro : q_RO (R 0)) (hll : (l : Int) < R 0 0) (k0 : qX G F Q kc ks 663 [(13, qL (g_sum (g_rowC (R 0) (l : Int)) m)), (11, qL (g_sum (g_heldC (R 0) (l : Int)) n9)), (10, qI (g_set (fun k => R 0 (1043 + 12 * k) = 2 ∧ R 0 (1047 + 12 * k) = (l : Int)) n9)), (9, qI (g_set (fun k => 0 < R 0 (90 + 2 * (5 * k + l))) 5)), (8, qI (l : Int)), (6, qL (g_sum (g_handC (R 0)) n9)), (4, qL (g_sum (g_liveC (R 0)) n9)), (2, qL (g_print (R 0) n9)), (1, .ref k), (0, .ref b)] [] sz T I L P) : ∀ (n : Nat) (c : Nat), m - c < n → c ≤ m → qX G F Q kc ks 624 [(17, qI (c : Int)), (16, qI (m : Int)), (15, .ref w), (13, qL (g_sum (g_rowC (R 0) (l : Int)) c)), (11, qL (g_sum (g_heldC (R 0) (l : Int)) n9)), (10, qI (g_set (fun k => R 0 (1043 + 12 * k) = 2 ∧ R 0 (1047 + 12 * k) = (l : Int)) n9)), (9, qI (g_set (fun k => 0 < R 0 (90 + 2 * (5 * k + l))) 5)), (8, qI (l : Int)), (6, qL (g_sum (g_handC (R 0)) n9)), (4, qL (g_sum (g_liveC (R 0)) n9)), (2, qL (g_print (R 0) n9)), (1, .ref k), (0, .ref b)] [] sz T I L P := by
  intro n
  induction n with
  | zero => intro c hn; exact absurd hn (Nat.not_lt_zero _)
  | succ n ih =>
    intro c hn hc
    have hO := hW.ot
    have hM := hW.om
    have hRk := hW.rr
    have hV0 := hro.1.1
    have hkz := hEr _ (hW.ek k (Nat.le_refl _) (by omega))
    have hn12 : n9 ≤ 12 := by have := hV0.many; have := hM.nn; omega
    have hm12 : m ≤ 12 := by have := hV0.rows; have := hM.mm; omega
    have hV0l := hV0.lands
    refine q_iload hF 0 rfl dL_isAs_624 ?_
    refine q_iload hF 1 rfl dL_isAs_626 ?_
    refine q_icmpge hF (by omega) (by omega) dL_isAs_628 (fun c628 => ?_) (fun c628 => ?_)
    · obtain rfl : c = m := by omega
      refine q_sub [3, 4, 5, 6, 7, 8, 9, 10, 11, 12] rfl ?_
      exact k0
    · refine q_aload hF 2 rfl dL_isAs_631 ?_
      refine q_iload hF 0 rfl dL_isAs_633 ?_
      refine q_aaloadv hF (b := σ c) c hM.tw (by decide) rfl (by omega) (by omega) (hM.pr c (by omega)) dL_isAs_635 ?_
      refine q_astore hF (ls' := [(18, .ref (σ c)), (17, qI (c : Int)), (16, qI (m : Int)), (15, .ref w), (13, qL (g_sum (g_rowC (R 0) (l : Int)) c)), (11, qL (g_sum (g_heldC (R 0) (l : Int)) n9)), (10, qI (g_set (fun k => R 0 (1043 + 12 * k) = 2 ∧ R 0 (1047 + 12 * k) = (l : Int)) n9)), (9, qI (g_set (fun k => 0 < R 0 (90 + 2 * (5 * k + l))) 5)), (8, qI (l : Int)), (6, qL (g_sum (g_handC (R 0)) n9)), (4, qL (g_sum (g_liveC (R 0)) n9)), (2, qL (g_print (R 0) n9)), (1, .ref k), (0, .ref b)]) (by decide) rfl dL_isAs_636 ?_
      refine q_aload hF 0 rfl dL_isAs_638 ?_
      refine q_iconst hF dL_isAs_640 ?_
      refine q_ialoadv hF (z := R 0 (1185 + 5 * c)) (n := 5) 2 (hM.tr c (by omega)) rfl (by decide) (by decide) ((hM.ro c 2 (by omega) (by decide)).trans (congrArg (R 0) (by omega))) dL_isAs_641 ?_
      refine q_iload hF 8 rfl dL_isAs_642 ?_
      refine q_icmpne hF (by have hR := hro.2.1 c (by have := hM.mm; omega); omega) (by omega) dL_isAs_644 (fun c644 => ?_) (fun c644 => ?_)
      · refine q_iinc hF (z' := ((1 + c : Nat) : Int)) (ls' := [(17, qI ((1 + c : Nat) : Int)), (18, .ref (σ c)), (16, qI (m : Int)), (15, .ref w), (13, qL (g_sum (g_rowC (R 0) (l : Int)) c)), (11, qL (g_sum (g_heldC (R 0) (l : Int)) n9)), (10, qI (g_set (fun k => R 0 (1043 + 12 * k) = 2 ∧ R 0 (1047 + 12 * k) = (l : Int)) n9)), (9, qI (g_set (fun k => 0 < R 0 (90 + 2 * (5 * k + l))) 5)), (8, qI (l : Int)), (6, qL (g_sum (g_handC (R 0)) n9)), (4, qL (g_sum (g_liveC (R 0)) n9)), (2, qL (g_print (R 0) n9)), (1, .ref k), (0, .ref b)]) 1 rfl (by first | rfl | omega) (by decide) rfl dL_isAs_657 ?_
        refine q_goto hF dL_isAs_660 ?_
        refine q_sub [0, 2, 3, 4, 5, 6, 7, 8, 9, 10, 11, 12, 13] rfl ?_
        rw [Nat.add_comm 1 c]
        rw [show g_sum (g_rowC (R 0) (l : Int)) c = g_sum (g_rowC (R 0) (l : Int)) (c + 1) from by rw [g_sum_s, show g_rowC (R 0) (l : Int) c = 0 from if_neg (by omega), Int.add_zero]]
        exact ih (c + 1) (by omega) (by omega)
      · refine q_lload hF 4 rfl dL_isAs_647 ?_
        refine q_aload hF 0 rfl dL_isAs_649 ?_
        refine q_iconst hF dL_isAs_651 ?_
        refine q_ialoadv hF (z := R 0 (1186 + 5 * c)) (n := 5) 3 (hM.tr c (by omega)) rfl (by decide) (by decide) ((hM.ro c 3 (by omega) (by decide)).trans (congrArg (R 0) (by omega))) dL_isAs_652 ?_
        refine q_i2l hF (by have hR := hro.2.1 c (by have := hM.mm; omega); omega) dL_isAs_653 ?_
        refine q_ladd hF dL_isAs_654 ?_
        refine q_lstore hF (ls' := [(13, qL ((g_sum (g_rowC (R 0) (l : Int)) c) + (R 0 (1186 + 5 * c)))), (18, .ref (σ c)), (17, qI (c : Int)), (16, qI (m : Int)), (15, .ref w), (11, qL (g_sum (g_heldC (R 0) (l : Int)) n9)), (10, qI (g_set (fun k => R 0 (1043 + 12 * k) = 2 ∧ R 0 (1047 + 12 * k) = (l : Int)) n9)), (9, qI (g_set (fun k => 0 < R 0 (90 + 2 * (5 * k + l))) 5)), (8, qI (l : Int)), (6, qL (g_sum (g_handC (R 0)) n9)), (4, qL (g_sum (g_liveC (R 0)) n9)), (2, qL (g_print (R 0) n9)), (1, .ref k), (0, .ref b)]) (by decide) rfl dL_isAs_655 ?_
        refine q_iinc hF (z' := ((1 + c : Nat) : Int)) (ls' := [(17, qI ((1 + c : Nat) : Int)), (13, qL ((g_sum (g_rowC (R 0) (l : Int)) c) + (R 0 (1186 + 5 * c)))), (18, .ref (σ c)), (16, qI (m : Int)), (15, .ref w), (11, qL (g_sum (g_heldC (R 0) (l : Int)) n9)), (10, qI (g_set (fun k => R 0 (1043 + 12 * k) = 2 ∧ R 0 (1047 + 12 * k) = (l : Int)) n9)), (9, qI (g_set (fun k => 0 < R 0 (90 + 2 * (5 * k + l))) 5)), (8, qI (l : Int)), (6, qL (g_sum (g_handC (R 0)) n9)), (4, qL (g_sum (g_liveC (R 0)) n9)), (2, qL (g_print (R 0) n9)), (1, .ref k), (0, .ref b)]) 2 rfl (by first | rfl | omega) (by decide) rfl dL_isAs_657 ?_
        refine q_goto hF dL_isAs_660 ?_
        refine q_sub [0, 3, 4, 1, 5, 6, 7, 8, 9, 10, 11, 12, 13] rfl ?_
        rw [Nat.add_comm 1 c]
        rw [show (g_sum (g_rowC (R 0) (l : Int)) c) + (R 0 (1186 + 5 * c)) = g_sum (g_rowC (R 0) (l : Int)) (c + 1) from by rw [g_sum_s, show g_rowC (R 0) (l : Int) c = R 0 (1186 + 5 * c) from if_pos (by omega)]]
        exact ih (c + 1) (by omega) (by omega)

set_option maxRecDepth 100000 in
theorem lL_isAsC4 {G : q_G} {F : q_F} {h : Nat} {Q : q_Q} {kc ks sz : Nat} {T : q_T} {b bk tp k v n9 w m : Nat} {B : Nat → Int} {R : Nat → Nat → Int} {E : Nat → Prop} {ρ σ : Nat → Nat} {l : Nat} {I L : q_I} {P : q_P} (hF : q_ok G F YL_isAs h) (h9 : 9 ≤ h) (hA : q_A G b) (hW : q_OW E T I L P k v n9 ρ w m σ (R 0)) (hEr : ∀ q, E q → b + 452 ≤ q ∧ q < sz) (hro : q_RO (R 0)) (hll : (l : Int) < R 0 0) (hE : q_CE T b bk tp B R I L P) (k0 : qX G F Q kc ks 701 [(13, qL (g_sum (g_rowC (R 0) (l : Int)) m)), (11, qL (g_sum (g_heldC (R 0) (l : Int)) n9)), (10, qI (g_set (fun k => R 0 (1043 + 12 * k) = 2 ∧ R 0 (1047 + 12 * k) = (l : Int)) n9)), (9, qI (g_set (fun k => 0 < R 0 (90 + 2 * (5 * k + l))) 5)), (8, qI (l : Int)), (6, qL (g_sum (g_handC (R 0)) n9)), (4, qL (g_sum (g_liveC (R 0)) n9)), (2, qL (g_print (R 0) n9)), (1, .ref k), (0, .ref b)] [] sz T I L P) : ∀ (n : Nat) (c : Nat), 4 - c < n → c ≤ 4 → qX G F Q (kc + (4 - c)) (ks + 6 * (4 - c)) 666 [(15, qI (c : Int)), (13, qL (g_sum (g_rowC (R 0) (l : Int)) m)), (11, qL (g_sum (g_heldC (R 0) (l : Int)) n9)), (10, qI (g_set (fun k => R 0 (1043 + 12 * k) = 2 ∧ R 0 (1047 + 12 * k) = (l : Int)) n9)), (9, qI (g_set (fun k => 0 < R 0 (90 + 2 * (5 * k + l))) 5)), (8, qI (l : Int)), (6, qL (g_sum (g_handC (R 0)) n9)), (4, qL (g_sum (g_liveC (R 0)) n9)), (2, qL (g_print (R 0) n9)), (1, .ref k), (0, .ref b)] [] sz T I L P := by
  intro n
  induction n with
  | zero => intro c hn; exact absurd hn (Nat.not_lt_zero _)
  | succ n ih =>
    intro c hn hc
    have hO := hW.ot
    have hM := hW.om
    have hRk := hW.rr
    have hV0 := hro.1.1
    have hkz := hEr _ (hW.ek k (Nat.le_refl _) (by omega))
    have hn12 : n9 ≤ 12 := by have := hV0.many; have := hM.nn; omega
    have hm12 : m ≤ 12 := by have := hV0.rows; have := hM.mm; omega
    have hV0l := hV0.lands
    refine q_iload hF 0 rfl dL_isAs_666 ?_
    refine q_iconst hF dL_isAs_668 ?_
    refine q_icmpge hF (by omega) (by decide) dL_isAs_669 (fun c669 => ?_) (fun c669 => ?_)
    · obtain rfl : c = 4 := by omega
      refine q_sub [1, 2, 3, 4, 5, 6, 7, 8, 9, 10] rfl ?_
      exact qX.room (kc := kc) (ks := ks) (by omega) (by omega) k0
    · refine qX.room (kc := kc + (4 - (c + 1)) + 1) (ks := ks + 6 * (4 - (c + 1)) + 6) (by omega) (by omega) ?_
      refine q_aload_n hF 10 rfl rfl dL_isAs_672 ?_
      refine q_iload hF 5 rfl dL_isAs_673 ?_
      refine q_iload hF 0 rfl dL_isAs_675 ?_
      refine q_callSH (kc := kc + (4 - (c + 1))) (ks := ks + 6 * (4 - (c + 1))) (mc' := 1) (ms' := 6) (h' := 6) (st := []) hF sl_RL_297 rfl [.ref b, qI (l : Int), qI (c : Int)] rfl rfl (by omega) (Nat.le_of_ble_eq_true rfl) dL_isAs_677 ?_
      refine a_land (v := R 0 (31 + 13 * l + c)) hA hE hll (by omega) ((if_pos (by omega)).trans (congrArg (R 0) (by rw [Int.toNat_natCast]))) ?_
      refine q_aload_n hF 9 rfl rfl dL_isAs_680 ?_
      refine q_getA hF fl_RL_162 rfl hO.t0 hO.p1 dL_isAs_681 ?_
      refine q_iload hF 5 rfl dL_isAs_684 ?_
      refine q_aaloadv hF (b := k + 2 + l) l hO.t1 (by decide) rfl (by omega) (by decide) (hO.pl l (by omega)) dL_isAs_686 ?_
      refine q_iload hF 0 rfl dL_isAs_687 ?_
      refine q_ialoadv hF (z := R 0 (31 + 13 * l + c)) (n := 4) c (hO.tl l (by omega)) rfl (by omega) (by decide) (hRk.ld l c hll (by omega) (by omega)) dL_isAs_689 ?_
      refine q_icmpeq_s hF (a := R 0 (31 + 13 * l + c)) dL_isAs_690 ?_
      refine q_iinc hF (z' := ((1 + c : Nat) : Int)) (ls' := [(15, qI ((1 + c : Nat) : Int)), (13, qL (g_sum (g_rowC (R 0) (l : Int)) m)), (11, qL (g_sum (g_heldC (R 0) (l : Int)) n9)), (10, qI (g_set (fun k => R 0 (1043 + 12 * k) = 2 ∧ R 0 (1047 + 12 * k) = (l : Int)) n9)), (9, qI (g_set (fun k => 0 < R 0 (90 + 2 * (5 * k + l))) 5)), (8, qI (l : Int)), (6, qL (g_sum (g_handC (R 0)) n9)), (4, qL (g_sum (g_liveC (R 0)) n9)), (2, qL (g_print (R 0) n9)), (1, .ref k), (0, .ref b)]) 0 rfl (by first | rfl | omega) (by decide) rfl dL_isAs_695 ?_
      refine q_goto hF dL_isAs_698 ?_
      rw [Nat.add_comm 1 c]
      exact ih (c + 1) (by omega) (by omega)

set_option maxRecDepth 100000 in
theorem lL_isAsL {G : q_G} {F : q_F} {h : Nat} {Q : q_Q} {kc ks sz : Nat} {T : q_T} {b bk tp k v n9 w m : Nat} {B : Nat → Int} {R : Nat → Nat → Int} {E : Nat → Prop} {ρ σ : Nat → Nat} {l9 : Nat} {I L : q_I} {P : q_P} (hF : q_ok G F YL_isAs h) (h9 : 9 ≤ h) (hA : q_A G b) (hW : q_OW E T I L P k v n9 ρ w m σ (R 0)) (hEr : ∀ q, E q → b + 452 ≤ q ∧ q < sz) (hro : q_RO (R 0)) (hl9 : R 0 0 = (l9 : Int)) (hnm : e_nms (R 0) l9) (k0 : ∀ (sz9 : Nat) (I9 : q_I), sz ≤ sz9 → q_CE T b bk tp B R I9 L P → q_Ou b I L P I9 L P → qX G F Q kc ks 835 [(6, qL (g_sum (g_handC (R 0)) n9)), (4, qL (g_sum (g_liveC (R 0)) n9)), (2, qL (g_print (R 0) n9)), (1, .ref k), (0, .ref b)] [] sz9 T I9 L P) : ∀ (n : Nat) (l : Nat) (sz9 : Nat) (I9 : q_I), l9 - l < n → l ≤ l9 → sz ≤ sz9 → q_CE T b bk tp B R I9 L P → q_Ou b I L P I9 L P → qX G F Q (kc + 12 * (l9 - l)) (ks + 72 * (l9 - l)) 477 [(8, qI (l : Int)), (6, qL (g_sum (g_handC (R 0)) n9)), (4, qL (g_sum (g_liveC (R 0)) n9)), (2, qL (g_print (R 0) n9)), (1, .ref k), (0, .ref b)] [] sz9 T I9 L P := by
  intro n
  induction n with
  | zero => intro l sz9 I9 hn; exact absurd hn (Nat.not_lt_zero _)
  | succ n ih =>
    intro l sz9 I9 hn hl hs9 hE9 hO9
    have hW9 : q_OW E T I9 L P k v n9 ρ w m σ (R 0) := hW.mv (fun _ z => z) (fun _ _ => rfl) (fun q j hq => hO9.1 q j (by have := hEr q hq; omega)) (fun _ _ _ => rfl) (fun _ _ _ => rfl)
    have hEr9 : ∀ q, E q → b + 452 ≤ q ∧ q < sz9 := fun q hq => by have := hEr q hq; omega
    have hO := hW9.ot
    have hM := hW9.om
    have hRk := hW9.rr
    have hV0 := hro.1.1
    have hV0l := hV0.lands
    have hkz := hEr9 _ (hW9.ek k (Nat.le_refl _) (by omega))
    have hn12 : n9 ≤ 12 := by have := hV0.many; have := hM.nn; omega
    have hm12 : m ≤ 12 := by have := hV0.rows; have := hM.mm; omega
    have hnN : (R 0 1).toNat = n9 := by have := hM.nn; omega
    have hmN : (R 0 6).toNat = m := by have := hM.mm; omega
    refine q_iload hF 0 rfl dL_isAs_477 ?_
    refine q_aload_n hF 4 rfl rfl dL_isAs_479 ?_
    refine q_getIv hF (z := R 0 0) fl_RL_150 hO.t0 hRk.ln dL_isAs_480 ?_
    refine q_icmpge hF (by omega) (by omega) dL_isAs_483 (fun c483 => ?_) (fun c483 => ?_)
    · obtain rfl : l = l9 := by omega
      refine q_sub [1, 2, 3, 4, 5] rfl ?_
      exact qX.room (kc := kc) (ks := ks) (by omega) (by omega) (k0 sz9 I9 hs9 hE9 hO9)
    · have hll : (l : Int) < R 0 0 := by omega
      have hl5 : l < 5 := by omega
      have hg6 := e_len6 l hl5
      have hn30 := (hnm l (by omega)).1
      have hn24 := (hnm l (by omega)).2 0
      have hgl := (hV0.land l hll).2.2.2.2
      refine q_iconst hF dL_isAs_486 ?_
      refine q_istore hF (ls' := [(9, qI 0), (8, qI (l : Int)), (6, qL (g_sum (g_handC (R 0)) n9)), (4, qL (g_sum (g_liveC (R 0)) n9)), (2, qL (g_print (R 0) n9)), (1, .ref k), (0, .ref b)]) (by decide) rfl dL_isAs_487 ?_
      refine q_iconst hF dL_isAs_489 ?_
      refine q_istore hF (ls' := [(10, qI 0), (9, qI 0), (8, qI (l : Int)), (6, qL (g_sum (g_handC (R 0)) n9)), (4, qL (g_sum (g_liveC (R 0)) n9)), (2, qL (g_print (R 0) n9)), (1, .ref k), (0, .ref b)]) (by decide) rfl dL_isAs_490 ?_
      refine q_lconst hF (z := 0) rfl dL_isAs_492 ?_
      refine q_lstore hF (ls' := [(11, qL 0), (10, qI 0), (9, qI 0), (8, qI (l : Int)), (6, qL (g_sum (g_handC (R 0)) n9)), (4, qL (g_sum (g_liveC (R 0)) n9)), (2, qL (g_print (R 0) n9)), (1, .ref k), (0, .ref b)]) (by decide) rfl dL_isAs_493 ?_
      refine q_lconst hF (z := 0) rfl dL_isAs_495 ?_
      refine q_lstore hF (ls' := [(13, qL 0), (11, qL 0), (10, qI 0), (9, qI 0), (8, qI (l : Int)), (6, qL (g_sum (g_handC (R 0)) n9)), (4, qL (g_sum (g_liveC (R 0)) n9)), (2, qL (g_print (R 0) n9)), (1, .ref k), (0, .ref b)]) (by decide) rfl dL_isAs_496 ?_
      refine q_iconst hF dL_isAs_498 ?_
      refine q_istore hF (ls' := [(15, qI 0), (13, qL 0), (11, qL 0), (10, qI 0), (9, qI 0), (8, qI (l : Int)), (6, qL (g_sum (g_handC (R 0)) n9)), (4, qL (g_sum (g_liveC (R 0)) n9)), (2, qL (g_print (R 0) n9)), (1, .ref k), (0, .ref b)]) (by decide) rfl dL_isAs_499 ?_
      refine lL_isAsC1 (bk := bk) (tp := tp) (B := B) (l := l) hF h9 hA hW9 hEr9 hro hll ?_ _ 0 (Nat.lt_succ_self _) (Nat.zero_le _)
      refine q_iconst hF dL_isAs_535 ?_
      refine q_istore hF (ls' := [(15, qI 0), (13, qL 0), (11, qL 0), (10, qI 0), (9, qI (g_set (fun k => 0 < R 0 (90 + 2 * (5 * k + l))) 5)), (8, qI (l : Int)), (6, qL (g_sum (g_handC (R 0)) n9)), (4, qL (g_sum (g_liveC (R 0)) n9)), (2, qL (g_print (R 0) n9)), (1, .ref k), (0, .ref b)]) (by decide) rfl dL_isAs_536 ?_
      refine lL_isAsC2 (bk := bk) (tp := tp) (B := B) (l := l) hF h9 hA hW9 hEr9 hro hll ?_ _ 0 (Nat.lt_succ_self _) (Nat.zero_le _)
      refine q_aload_n hF 8 rfl rfl dL_isAs_610 ?_
      refine q_getA hF fl_RL_246 rfl hO.t0 hM.pw dL_isAs_611 ?_
      refine q_astore hF (ls' := [(15, .ref w), (13, qL 0), (11, qL (g_sum (g_heldC (R 0) (l : Int)) n9)), (10, qI (g_set (fun k => R 0 (1043 + 12 * k) = 2 ∧ R 0 (1047 + 12 * k) = (l : Int)) n9)), (9, qI (g_set (fun k => 0 < R 0 (90 + 2 * (5 * k + l))) 5)), (8, qI (l : Int)), (6, qL (g_sum (g_handC (R 0)) n9)), (4, qL (g_sum (g_liveC (R 0)) n9)), (2, qL (g_print (R 0) n9)), (1, .ref k), (0, .ref b)]) (by decide) rfl dL_isAs_614 ?_
      refine q_aload hF 0 rfl dL_isAs_616 ?_
      refine q_alen hF (n := m) hM.tw dL_isAs_618 ?_
      refine q_istore hF (ls' := [(16, qI (m : Int)), (15, .ref w), (13, qL 0), (11, qL (g_sum (g_heldC (R 0) (l : Int)) n9)), (10, qI (g_set (fun k => R 0 (1043 + 12 * k) = 2 ∧ R 0 (1047 + 12 * k) = (l : Int)) n9)), (9, qI (g_set (fun k => 0 < R 0 (90 + 2 * (5 * k + l))) 5)), (8, qI (l : Int)), (6, qL (g_sum (g_handC (R 0)) n9)), (4, qL (g_sum (g_liveC (R 0)) n9)), (2, qL (g_print (R 0) n9)), (1, .ref k), (0, .ref b)]) (by decide) rfl dL_isAs_619 ?_
      refine q_iconst hF dL_isAs_621 ?_
      refine q_istore hF (ls' := [(17, qI 0), (16, qI (m : Int)), (15, .ref w), (13, qL 0), (11, qL (g_sum (g_heldC (R 0) (l : Int)) n9)), (10, qI (g_set (fun k => R 0 (1043 + 12 * k) = 2 ∧ R 0 (1047 + 12 * k) = (l : Int)) n9)), (9, qI (g_set (fun k => 0 < R 0 (90 + 2 * (5 * k + l))) 5)), (8, qI (l : Int)), (6, qL (g_sum (g_handC (R 0)) n9)), (4, qL (g_sum (g_liveC (R 0)) n9)), (2, qL (g_print (R 0) n9)), (1, .ref k), (0, .ref b)]) (by decide) rfl dL_isAs_622 ?_
      refine lL_isAsC3 (bk := bk) (tp := tp) (B := B) (l := l) hF h9 hA hW9 hEr9 hro hll ?_ _ 0 (Nat.lt_succ_self _) (Nat.zero_le _)
      refine q_iconst hF dL_isAs_663 ?_
      refine q_istore hF (ls' := [(15, qI 0), (13, qL (g_sum (g_rowC (R 0) (l : Int)) m)), (11, qL (g_sum (g_heldC (R 0) (l : Int)) n9)), (10, qI (g_set (fun k => R 0 (1043 + 12 * k) = 2 ∧ R 0 (1047 + 12 * k) = (l : Int)) n9)), (9, qI (g_set (fun k => 0 < R 0 (90 + 2 * (5 * k + l))) 5)), (8, qI (l : Int)), (6, qL (g_sum (g_handC (R 0)) n9)), (4, qL (g_sum (g_liveC (R 0)) n9)), (2, qL (g_print (R 0) n9)), (1, .ref k), (0, .ref b)]) (by decide) rfl dL_isAs_664 ?_
      refine qX.room (kc := (kc + 12 * (l9 - (l + 1)) + 8) + (4 - 0)) (ks := (ks + 72 * (l9 - (l + 1)) + 48) + 6 * (4 - 0)) (by omega) (by omega) ?_
      refine lL_isAsC4 (l := l) hF h9 hA hW9 hEr9 hro hll hE9 ?_ _ 0 (Nat.lt_succ_self _) (Nat.zero_le _)
      refine q_aload_n hF 9 rfl rfl dL_isAs_701 ?_
      refine q_iload hF 4 rfl dL_isAs_702 ?_
      refine q_iconst hF dL_isAs_704 ?_
      refine q_callSH (kc := kc + 12 * (l9 - (l + 1)) + 7) (ks := ks + 72 * (l9 - (l + 1)) + 42) (mc' := 1) (ms' := 6) (h' := 6) (st := []) hF sl_RL_297 rfl [.ref b, qI (l : Int), qI 4] rfl rfl (by omega) (Nat.le_of_ble_eq_true rfl) dL_isAs_705 ?_
      refine a_land (v := g_set (fun k => 0 < R 0 (90 + 2 * (5 * k + l))) 5) hA hE9 hll (by decide) ((if_neg (by decide)).trans (if_pos rfl)) ?_
      refine q_iload hF 3 rfl dL_isAs_708 ?_
      refine q_icmpne_s hF (a := g_set (fun k => 0 < R 0 (90 + 2 * (5 * k + l))) 5) dL_isAs_710 ?_
      refine q_aload_n hF 9 rfl rfl dL_isAs_713 ?_
      refine q_iload hF 4 rfl dL_isAs_714 ?_
      refine q_iconst hF dL_isAs_716 ?_
      refine q_callSH (kc := kc + 12 * (l9 - (l + 1)) + 6) (ks := ks + 72 * (l9 - (l + 1)) + 36) (mc' := 1) (ms' := 6) (h' := 6) (st := []) hF sl_RL_297 rfl [.ref b, qI (l : Int), qI 5] rfl rfl (by omega) (Nat.le_of_ble_eq_true rfl) dL_isAs_717 ?_
      refine a_land (v := g_set (fun k => R 0 (1043 + 12 * k) = 2 ∧ R 0 (1047 + 12 * k) = (l : Int)) n9) hA hE9 hll (by decide) ((if_neg (by decide)).trans ((if_neg (by decide)).trans (by rw [hnN]))) ?_
      refine q_iload hF 2 rfl dL_isAs_720 ?_
      refine q_icmpne_s hF (a := g_set (fun k => R 0 (1043 + 12 * k) = 2 ∧ R 0 (1047 + 12 * k) = (l : Int)) n9) dL_isAs_722 ?_
      refine q_aload_n hF 9 rfl rfl dL_isAs_725 ?_
      refine q_iload hF 4 rfl dL_isAs_726 ?_
      refine q_iconst hF dL_isAs_728 ?_
      refine q_callSH (kc := kc + 12 * (l9 - (l + 1)) + 5) (ks := ks + 72 * (l9 - (l + 1)) + 30) (mc' := 1) (ms' := 6) (h' := 7) (st := []) hF sl_RL_299 rfl [.ref b, qI (l : Int), qI 0] rfl rfl (by omega) (Nat.le_of_ble_eq_true rfl) dL_isAs_729 ?_
      refine a_purse (v := g_sum (g_heldC (R 0) (l : Int)) n9) hA hE9 hll (by decide) ((if_pos rfl).trans (by rw [hnN])) ?_
      refine q_lload hF 1 rfl dL_isAs_732 ?_
      refine q_cmpne_s hF (a := g_sum (g_heldC (R 0) (l : Int)) n9) dL_isAs_734 dL_isAs_735 ?_
      refine q_aload_n hF 9 rfl rfl dL_isAs_738 ?_
      refine q_iload hF 4 rfl dL_isAs_739 ?_
      refine q_iconst hF dL_isAs_741 ?_
      refine q_callSH (kc := kc + 12 * (l9 - (l + 1)) + 4) (ks := ks + 72 * (l9 - (l + 1)) + 24) (mc' := 1) (ms' := 6) (h' := 7) (st := []) hF sl_RL_299 rfl [.ref b, qI (l : Int), qI 1] rfl rfl (by omega) (Nat.le_of_ble_eq_true rfl) dL_isAs_742 ?_
      refine a_purse (v := R 0 (35 + 13 * l)) hA hE9 hll (by decide) ((if_neg (by decide)).trans (if_pos rfl)) ?_
      refine q_aload_n hF 8 rfl rfl dL_isAs_745 ?_
      refine q_getA hF fl_RL_301 rfl hO.t0 hO.p13 dL_isAs_746 ?_
      refine q_iload hF 4 rfl dL_isAs_749 ?_
      refine q_laloadv hF (z := R 0 (35 + 13 * l)) (n := 5) l hO.t18 rfl (by omega) (by decide) (hM.pd l (by omega)) dL_isAs_751 ?_
      refine q_cmpne_s hF (a := R 0 (35 + 13 * l)) dL_isAs_752 dL_isAs_753 ?_
      refine q_aload_n hF 9 rfl rfl dL_isAs_756 ?_
      refine q_iload hF 4 rfl dL_isAs_757 ?_
      refine q_iconst hF dL_isAs_759 ?_
      refine q_callSH (kc := kc + 12 * (l9 - (l + 1)) + 3) (ks := ks + 72 * (l9 - (l + 1)) + 18) (mc' := 1) (ms' := 6) (h' := 7) (st := []) hF sl_RL_299 rfl [.ref b, qI (l : Int), qI 2] rfl rfl (by omega) (Nat.le_of_ble_eq_true rfl) dL_isAs_760 ?_
      refine a_purse (v := g_sum (g_rowC (R 0) (l : Int)) m) hA hE9 hll (by decide) ((if_neg (by decide)).trans ((if_neg (by decide)).trans ((if_pos rfl).trans (by rw [hmN])))) ?_
      refine q_lload hF 0 rfl dL_isAs_763 ?_
      refine q_cmpne_s hF (a := g_sum (g_rowC (R 0) (l : Int)) m) dL_isAs_765 dL_isAs_766 ?_
      refine q_aload_n hF 9 rfl rfl dL_isAs_769 ?_
      refine q_iload hF 4 rfl dL_isAs_770 ?_
      refine q_iconst hF dL_isAs_772 ?_
      refine q_callSH (kc := kc + 12 * (l9 - (l + 1)) + 2) (ks := ks + 72 * (l9 - (l + 1)) + 12) (mc' := 1) (ms' := 6) (h' := 7) (st := []) hF sl_RL_299 rfl [.ref b, qI (l : Int), qI 3] rfl rfl (by omega) (Nat.le_of_ble_eq_true rfl) dL_isAs_773 ?_
      refine a_purse (v := R 0 (36 + 13 * l)) hA hE9 hll (by decide) ((if_neg (by decide)).trans ((if_neg (by decide)).trans (if_neg (by decide)))) ?_
      refine q_aload_n hF 8 rfl rfl dL_isAs_776 ?_
      refine q_getA hF fl_RL_304 rfl hO.t0 hO.p14 dL_isAs_777 ?_
      refine q_iload hF 4 rfl dL_isAs_780 ?_
      refine q_laloadv hF (z := R 0 (36 + 13 * l)) (n := 5) l hO.t19 rfl (by omega) (by decide) (hM.ps l (by omega)) dL_isAs_782 ?_
      refine q_cmpne_s hF (a := R 0 (36 + 13 * l)) dL_isAs_783 dL_isAs_784 ?_
      refine q_aload_n hF 9 rfl rfl dL_isAs_787 ?_
      refine q_iload hF 4 rfl dL_isAs_788 ?_
      refine q_iconst hF dL_isAs_790 ?_
      refine q_callSH (kc := kc + 12 * (l9 - (l + 1)) + 1) (ks := ks + 72 * (l9 - (l + 1)) + 6) (mc' := 1) (ms' := 6) (h' := 5) (st := []) hF sl_RL_307 rfl [.ref b, qI (l : Int), qI 0] rfl rfl (by omega) (Nat.le_of_ble_eq_true rfl) dL_isAs_791 ?_
      refine a_letter (n := 0) hA hE9 hll (by decide) (by omega) ?_
      rw [show R 0 (24 + 13 * l + (0 : Int).toNat) = g_ch (68 + l) 0 from hn24 (by omega)]
      refine q_getsSa (a := 81) hF (by decide) (q_mem 1130 (by decide +kernel) rfl) dL_isAs_794 ?_
      refine q_iload hF 4 rfl dL_isAs_797 ?_
      refine q_aldSa hF (a := 81) (by decide) l rfl (by show l < 5; omega) (by omega) dL_isAs_799 ?_
      show qX G F Q (kc + 12 * (l9 - (l + 1)) + 1) (ks + 72 * (l9 - (l + 1)) + 6) 800 [(13, qL (g_sum (g_rowC (R 0) (l : Int)) m)), (11, qL (g_sum (g_heldC (R 0) (l : Int)) n9)), (10, qI (g_set (fun k => R 0 (1043 + 12 * k) = 2 ∧ R 0 (1047 + 12 * k) = (l : Int)) n9)), (9, qI (g_set (fun k => 0 < R 0 (90 + 2 * (5 * k + l))) 5)), (8, qI (l : Int)), (6, qL (g_sum (g_handC (R 0)) n9)), (4, qL (g_sum (g_liveC (R 0)) n9)), (2, qL (g_print (R 0) n9)), (1, .ref k), (0, .ref b)] [.ref (q_KS G (68 + l)), qI (g_ch (68 + l) 0)] sz9 T I9 L P
      refine q_iconst hF dL_isAs_800 ?_
      refine q_callVO (kc := kc + 12 * (l9 - (l + 1)) + 1) (ks := ks + 72 * (l9 - (l + 1)) + 6) (mc' := 0) (ms' := 0) (h' := 3) (st := [qI (g_ch (68 + l) 0)]) hF vo_RL_128 rfl [qI 0] rfl rfl (q_O_K (by omega)) (by omega) (Nat.le_of_ble_eq_true rfl) dL_isAs_801 ?_
      refine mJ0_charAt_5068e (k := 0) (i := 68 + l) (by omega) (by omega) ?_
      refine q_icmpne_s hF (a := g_ch (68 + l) 0) dL_isAs_804 ?_
      refine q_aload_n hF 9 rfl rfl dL_isAs_807 ?_
      refine q_iload hF 4 rfl dL_isAs_808 ?_
      refine q_getsSa (a := 81) hF (by decide) (q_mem 1130 (by decide +kernel) rfl) dL_isAs_810 ?_
      refine q_iload hF 4 rfl dL_isAs_813 ?_
      refine q_aldSa hF (a := 81) (by decide) l rfl (by show l < 5; omega) (by omega) dL_isAs_815 ?_
      show qX G F Q (kc + 12 * (l9 - (l + 1)) + 1) (ks + 72 * (l9 - (l + 1)) + 6) 816 [(13, qL (g_sum (g_rowC (R 0) (l : Int)) m)), (11, qL (g_sum (g_heldC (R 0) (l : Int)) n9)), (10, qI (g_set (fun k => R 0 (1043 + 12 * k) = 2 ∧ R 0 (1047 + 12 * k) = (l : Int)) n9)), (9, qI (g_set (fun k => 0 < R 0 (90 + 2 * (5 * k + l))) 5)), (8, qI (l : Int)), (6, qL (g_sum (g_handC (R 0)) n9)), (4, qL (g_sum (g_liveC (R 0)) n9)), (2, qL (g_print (R 0) n9)), (1, .ref k), (0, .ref b)] [.ref (q_KS G (68 + l)), qI (l : Int), .ref b] sz9 T I9 L P
      refine q_callVO (kc := kc + 12 * (l9 - (l + 1)) + 1) (ks := ks + 72 * (l9 - (l + 1)) + 6) (mc' := 0) (ms' := 0) (h' := 1) (st := [qI (l : Int), .ref b]) hF vo_RL_122 rfl [] rfl rfl (q_O_K (by omega)) (by omega) (Nat.le_of_ble_eq_true rfl) dL_isAs_816 ?_
      refine mJ0_length_8abf5 (i := 68 + l) (by omega) ?_
      refine q_callSH (kc := kc + 12 * (l9 - (l + 1))) (ks := ks + 72 * (l9 - (l + 1))) (mc' := 1) (ms' := 6) (h' := 5) (st := []) hF sl_RL_307 rfl [.ref b, qI (l : Int), qI (g_len (68 + l) : Int)] rfl rfl (by omega) (Nat.le_of_ble_eq_true rfl) dL_isAs_819 ?_
      refine a_letter1 hA hE9 hll (by omega) (by omega) (fun sz' I' c819_0 c819_1 c819_2 => ?_)
      refine q_ldc hF (n := -2000000096) (q_mem 789 (by decide +kernel) rfl) dL_isAs_822 ?_
      refine q_icmpeq_s hF (a := -2000000096) dL_isAs_824 ?_
      refine q_iinc hF (z' := ((1 + l : Nat) : Int)) (ls' := [(8, qI ((1 + l : Nat) : Int)), (13, qL (g_sum (g_rowC (R 0) (l : Int)) m)), (11, qL (g_sum (g_heldC (R 0) (l : Int)) n9)), (10, qI (g_set (fun k => R 0 (1043 + 12 * k) = 2 ∧ R 0 (1047 + 12 * k) = (l : Int)) n9)), (9, qI (g_set (fun k => 0 < R 0 (90 + 2 * (5 * k + l))) 5)), (6, qL (g_sum (g_handC (R 0)) n9)), (4, qL (g_sum (g_liveC (R 0)) n9)), (2, qL (g_print (R 0) n9)), (1, .ref k), (0, .ref b)]) 4 rfl (by first | rfl | omega) (by decide) rfl dL_isAs_829 ?_
      refine q_goto hF dL_isAs_832 ?_
      refine q_sub [0, 5, 6, 7, 8, 9] rfl ?_
      rw [Nat.add_comm 1 l]
      exact qX.room (kc := kc + 12 * (l9 - (l + 1))) (ks := ks + 72 * (l9 - (l + 1))) (by omega) (by omega) (ih (l + 1) sz' I' (by omega) (by omega) (by omega) c819_1 (hO9.tr c819_2))
