/-! the class: the world's month -/
theorem q_WR.rext {I L : q_I} {w : Nat} {r r' : Nat → Int} {mo : Int} (h : q_WR I L w r mo) (hv : g_V0 r) (hs : ∀ k, k ≠ 2 → r' k = r k) : q_WR I L w r' mo := by
  have e1 := hs 1 (by omega)
  have e6 := hs 6 (by omega)
  refine ⟨by rw [e1]; exact h.cnt, h.mon, by rw [e6]; exact h.rows, by rw [e1, hs 23 (by omega)]; exact h.cl, h.ru.ext hv (fun _ _ _ _ => rfl) (fun k hk => hs k (by unfold g_rc at hk; omega)), fun i hi => ?_, fun k j hk hj => ?_, fun l hl => ?_, fun l hl => ?_, by rw [e1, hs 17 (by omega)]; exact h.s17, by rw [e1, hs 18 (by omega)]; exact h.s18, by rw [e1, hs 19 (by omega)]; exact h.s19, by rw [e1, hs 20 (by omega)]; exact h.s20⟩
  · rw [e1] at hi
    exact (h.acc i hi).ext (fun _ => rfl) (fun k k1 k2 => hs k (by omega))
  · rw [e6] at hk
    rw [hs (1183 + 5 * k + j) (by omega)]; exact h.book k j hk hj
  · rw [hs (35 + 13 * l) (by omega)]; exact h.paid l hl
  · rw [hs (36 + 13 * l) (by omega)]; exact h.pass l hl
theorem q_WR.tick {I L : q_I} {w : Nat} {r : Nat → Int} {mo v : Int} (h : q_WR I L w r mo) (hv : g_V0 r) : q_WR (u2 I w 3 v) L w r v := by
  have hm := hv.many
  refine ⟨by rw [u2_k _ _ (by decide)]; exact h.cnt, u2_s _ _ _ _, by rw [u2_k _ _ (by decide)]; exact h.rows, h.cl, h.ru.ext hv (fun q k x y => u2_a _ _ (by omega)) (g_same.rf r), fun i hi => (h.acc i hi).ext (fun k => u2_a _ _ (by omega)) (fun _ _ _ => rfl), fun k j hk hj => by rw [u2_a _ _ (by omega)]; exact h.book k j hk hj, h.paid, h.pass, h.s17, h.s18, h.s19, h.s20⟩
set_option maxRecDepth 100000 in
theorem lX6_goMonth {G : q_G} {F : q_F} {h : Nat} {Q : q_Q} {kc ks sz : Nat} {T : q_T} {w mn : Nat} {b H : Int} {RF : Nat → Int} {I L : q_I} {P : q_P} (h4 : 5 ≤ h) (hF : q_ok G F YX6_goMonth h) (hW : q_SW T P w) (hWA : q_A G w) (hm12 : mn ≤ 12) (hb : 0 ≤ b ∧ b < 6000) (k0 : ∀ (M N : q_I), (∀ q k, q < w ∨ w + 47 ≤ q → M q k = I q k) → (∀ q k, q < w ∨ w + 47 ≤ q → N q k = L q k) → q_WR M N w RF (b + 1) → g_VM RF mn b → RF 1 = (mn : Int) → RF 2 = b → Q (.inl (some (qI H))) sz T M N P) : ∀ (n : Nat) (i : Nat) (hd : Int) (M N : q_I) (R : Nat → Int), mn - i < n → i ≤ mn → q_WR M N w R (b + 1) → g_VM R i b → R 1 = (mn : Int) → R 2 = b → (∀ q k, q < w ∨ w + 47 ≤ q → M q k = I q k) → (∀ q k, q < w ∨ w + 47 ≤ q → N q k = L q k) → hd + (g_accs (b + 1) (mn - i) i R).1 = H → (g_accs (b + 1) (mn - i) i R).2 = RF → qX G F Q kc ks 14 [(2, qI (i : Int)), (1, qI hd), (0, .ref w)] [] sz T M N P := by
  intro n
  induction n with
  | zero => intro i hd M N R hn; exact absurd hn (Nat.not_lt_zero _)
  | succ n ih =>
    intro i hd M N R hn hi hWR hVM h1 h2 hM hN hH hR2
    refine q_iload_n hF 0 rfl rfl dX6_goMonth_14 ?_
    refine q_aload_n hF 2 rfl rfl dX6_goMonth_15 ?_
    refine q_getIv hF (z := (mn : Int)) fl_RX6_41 hW.t0 (hWR.cnt.trans h1) dX6_goMonth_16 ?_
    refine q_icmpge hF (by omega) (by omega) dX6_goMonth_19 (fun c19 => ?_) (fun c19 => ?_)
    · refine q_iload_n hF 1 rfl rfl dX6_goMonth_77 ?_
      refine q_ireturn hF rfl dX6_goMonth_78 ?_
      rw [show mn - i = 0 by omega] at hH hR2
      have q1 : hd = H := by rw [← hH]; exact (Int.add_zero _).symm
      have q2 : R = RF := hR2
      rw [q1]
      rw [q2] at hWR hVM h1 h2
      exact k0 M N hM hN hWR (by rw [show mn = i by omega]; exact hVM) h1 h2
    · refine q_iload_n hF 0 rfl rfl dX6_goMonth_22 ?_
      refine q_bipush hF (n := 12) rfl dX6_goMonth_23 ?_
      refine q_icmpge hF (by omega) (by decide) dX6_goMonth_25 (fun c25 => ?_) (fun c25 => ?_)
      · omega
      · refine q_aload_n hF 2 rfl rfl dX6_goMonth_28 ?_
        refine q_getA hF fl_RX6_20 rfl hW.t0 hW.p1 dX6_goMonth_29 ?_
        refine q_iload_n hF 0 rfl rfl dX6_goMonth_32 ?_
        refine q_aaloadv hF (b := w + 35 + i) i hW.t19 (by decide) rfl (by omega) (by decide) (hW.pa _ (by omega)) dX6_goMonth_33 ?_
        refine q_astore_n hF (ls' := [(3, .ref (w + 35 + i)), (2, qI (i : Int)), (1, qI hd), (0, .ref w)]) rfl (by decide) rfl dX6_goMonth_34 ?_
        have hil : (i : Int) < R 1 := by omega
        have hA := hVM.2.1 i hil
        rw [if_neg (Nat.lt_irrefl _)] at hA
        have hAs := hA.state
        have hr := hVM.1.rows
        refine q_aload_n hF 0 rfl rfl dX6_goMonth_35 ?_
        refine q_callV (kc := kc) (ks := ks) (mc' := 0) (ms' := 0) (h' := 0) (st := []) hF vl_RX6_60 rfl [] rfl rfl (hW.ta _ (by omega)) (by omega) (Nat.le_of_ble_eq_true rfl) dX6_goMonth_36 ?_
        refine mX0_isWithBankR (r := R) (a := i) (hW.ta _ (by omega)) (hWR.acc i hil) hAs ?_
        refine q_ifeq_b hF dX6_goMonth_39 (fun c39 => ?_) (fun c39 => ?_)
        · refine q_iinc hF (z' := ((1 + i : Nat) : Int)) (ls' := [(2, qI ((1 + i : Nat) : Int)), (3, .ref (w + 35 + i)), (1, qI hd), (0, .ref w)]) 1 rfl (by first | rfl | omega) (by decide) rfl dX6_goMonth_71 ?_
          refine q_goto hF dX6_goMonth_74 ?_
          refine q_sub [0, 2, 3] rfl ?_
          rw [show mn - i = (mn - (1 + i)) + 1 by omega, g_accs_s, Nat.add_comm i 1] at hH hR2
          have hg0 : g_goes R i (b + 1) = (0, R) := by unfold g_goes; rw [if_neg c39]
          have hv9 := hVM.goes (a := i) hil hb.1
          rw [hg0] at hv9 hH hR2
          dsimp only at hv9 hH hR2
          rw [Nat.add_comm i 1] at hv9
          exact ih (1 + i) hd M N R (by omega) (by omega) hWR hv9 h1 h2 hM hN (by omega) hR2
        · refine q_aload_n hF 0 rfl rfl dX6_goMonth_42 ?_
          refine q_aload_n hF 3 rfl rfl dX6_goMonth_43 ?_
          refine q_getA hF fl_RX6_12 rfl hW.t0 hW.p0 dX6_goMonth_44 ?_
          refine q_aload_n hF 3 rfl rfl dX6_goMonth_47 ?_
          refine q_getIv hF (z := b + 1) fl_RX6_45 hW.t0 hWR.mon dX6_goMonth_48 ?_
          refine q_callV (kc := kc) (ks := ks) (mc' := 0) (ms' := 0) (h' := 4) (st := []) hF vl_RX6_64 rfl [.ref (w + 1), qI (b + 1)] rfl rfl (hW.ta _ (by omega)) (by omega) (Nat.le_of_ble_eq_true rfl) dX6_goMonth_51 ?_
          refine mX0_goMonth (r := R) (a := i) hW.ru (q_Ale hWA (by omega)) hWR.ru hVM.1 (hW.ta _ (by omega)) (q_Ale hWA (by omega)) (hWR.acc i hil) hA (by omega) (by omega) (by omega) c39 (by omega) (by omega) (fun I' L' c51_0 c51_1 c51_2 c51_3 => ?_)
          have hX := c51_2
          have hgb := g_goes_book (r := R) (a := i) (nx := b + 1) (by omega) hr.1 c39
          have hf1 : ∀ q k, q ≠ (w + 35 + i) → I' q k = M q k := c51_0
          obtain ⟨k, hk⟩ : ∃ k : Nat, R 6 = (k : Int) := ⟨(R 6).toNat, by omega⟩
          have hk5 : I' w 5 = (k : Int) := by rw [hf1 _ _ (by omega), hWR.rows, hk]
          have hXs : 0 ≤ (g_goes R i (b + 1)).2 (1043 + 12 * i) ∧ (g_goes R i (b + 1)).2 (1043 + 12 * i) ≤ 4 := by have q := hVM.goes (a := i) hil hb.1; have q2 := (q.2.1 i (by rw [g_goes_n hr.1 (by omega) (by omega) (by omega) (by omega) (by omega) (by omega)]; exact hil)); exact q2.state
          rw [hk, Int.toNat_natCast] at hgb
          refine q_aload_n hF 0 rfl rfl dX6_goMonth_54 ?_
          refine q_getIv hF (z := (g_goes R i (b + 1)).2 (1043 + 12 * i)) fl_RX6_68 (hW.ta _ (by omega)) hX.state dX6_goMonth_55 ?_
          refine q_iconst hF dX6_goMonth_58 ?_
          refine q_icmpne hF (by omega) (by decide) dX6_goMonth_59 (fun c59 => ?_) (fun c59 => ?_)
          · refine q_iinc hF (z' := ((1 + i : Nat) : Int)) (ls' := [(2, qI ((1 + i : Nat) : Int)), (3, .ref (w + 35 + i)), (1, qI hd), (0, .ref w)]) 1 rfl (by first | rfl | omega) (by decide) rfl dX6_goMonth_71 ?_
            refine q_goto hF dX6_goMonth_74 ?_
            refine q_sub [0, 2, 3] rfl ?_
            rw [show mn - i = (mn - (1 + i)) + 1 by omega, g_accs_s, Nat.add_comm i 1] at hH hR2
            have hv9 := hVM.goes (a := i) hil hb.1
            rw [Nat.add_comm i 1] at hv9
            have x1 : (g_goes R i (b + 1)).2 1 = (mn : Int) := by rw [g_goes_n hr.1 (by omega) (by omega) (by omega) (by omega) (by omega) (by omega)]; exact h1
            have x2 : (g_goes R i (b + 1)).2 2 = b := by rw [g_goes_n hr.1 (by omega) (by omega) (by omega) (by omega) (by omega) (by omega)]; exact h2
            have hgb2 := hgb.resolve_right (fun q => absurd q.2.1 c59)
            obtain ⟨b1, -, b3, b4⟩ := hgb2
            have hW9 : q_WR I' L' w (g_goes R i (b + 1)).2 (b + 1) := hWR.goes hVM.1 hil (fun q k y z => hf1 q k (by omega)) (hf1 _ _ (by omega)) (hf1 _ _ (by omega)) (by rw [hk5, b3]) (fun j k y z => hf1 _ _ (by omega)) (fun k j y z => by rw [b3] at y; rw [hf1 _ _ (by omega), b4 _ (by omega)]; exact hWR.book k j (by omega) z) c51_1 hX c51_3.1 c51_3.2.1 c51_3.2.2.1 c51_3.2.2.2.1 c51_3.2.2.2.2
            rw [b1] at hH
            exact ih (1 + i) hd I' L' (g_goes R i (b + 1)).2 (by omega) (by omega) hW9 hv9 x1 x2 (fun q k x => (hf1 q k (by omega)).trans (hM q k x)) (fun q k x => (c51_1 q k (by omega) (by omega)).trans (hN q k x)) (by omega) hR2
          · have hk12 := hVM.row (a := i) hil c39
            have hgb2 := (hgb.resolve_left (fun q => q.2.1 c59))
            obtain ⟨b1, -, b3, b4, b5, b6, b7, b8, b9, b10⟩ := hgb2
            have hz11 : I' (w + 35 + i) 11 = 0 ∨ I' (w + 35 + i) 11 = 1 := by
              have q := (hVM.goes (a := i) hil hb.1).2.1 i (by rw [g_goes_n hr.1 (by omega) (by omega) (by omega) (by omega) (by omega) (by omega)]; exact hil)
              have q2 := q.nl
              rw [hX.nl]; omega
            refine q_aload_n hF 3 rfl rfl dX6_goMonth_62 ?_
            refine q_iload_n hF 1 rfl rfl dX6_goMonth_63 ?_
            refine q_aload_n hF 0 rfl rfl dX6_goMonth_64 ?_
            refine q_callV (kc := kc) (ks := ks) (mc' := 0) (ms' := 0) (h' := 0) (st := []) hF vl_RX6_71 rfl [qI (i : Int), .ref (w + 35 + i)] rfl rfl hW.t0 (by omega) (Nat.le_of_ble_eq_true rfl) dX6_goMonth_65 ?_
            refine mX6_writeRow (k := k) hW hWA (hW.ta _ (by omega)) hk5 (by omega) hz11 (by omega) (fun c65_0 => ?_)
            refine q_iinc hF (z' := hd + 1) (ls' := [(1, qI (hd + 1)), (3, .ref (w + 35 + i)), (2, qI (i : Int)), (0, .ref w)]) 2 rfl (by first | rfl | omega) (by decide) rfl dX6_goMonth_68 ?_
            refine q_iinc hF (z' := ((1 + i : Nat) : Int)) (ls' := [(2, qI ((1 + i : Nat) : Int)), (1, qI (hd + 1)), (3, .ref (w + 35 + i)), (0, .ref w)]) 2 rfl (by first | rfl | omega) (by decide) rfl dX6_goMonth_71 ?_
            refine q_goto hF dX6_goMonth_74 ?_
            refine q_sub [0, 1, 3] rfl ?_
            rw [show mn - i = (mn - (1 + i)) + 1 by omega, g_accs_s, Nat.add_comm i 1] at hH hR2
            have hv9 := hVM.goes (a := i) hil hb.1
            rw [Nat.add_comm i 1] at hv9
            have x1 : (g_goes R i (b + 1)).2 1 = (mn : Int) := by rw [g_goes_n hr.1 (by omega) (by omega) (by omega) (by omega) (by omega) (by omega)]; exact h1
            have x2 : (g_goes R i (b + 1)).2 2 = b := by rw [g_goes_n hr.1 (by omega) (by omega) (by omega) (by omega) (by omega) (by omega)]; exact h2
            have hW9 : q_WR (u2 (u2 (u2 (u2 (u2 (u2 I' (w + 21 + k) 0 (I' (w + 35 + i) 10)) (w + 21 + k) 1 (i : Int)) (w + 21 + k) 2 (I' (w + 35 + i) 9)) (w + 21 + k) 3 (I' (w + 35 + i) 3)) (w + 21 + k) 4 (I' (w + 35 + i) 11)) w 5 ((k : Int) + 1)) L' w (g_goes R i (b + 1)).2 (b + 1) := hWR.goes hVM.1 hil (fun q k' y z => by rw [u2_a _ _ (by omega), u2_a _ _ (by omega), u2_a _ _ (by omega), u2_a _ _ (by omega), u2_a _ _ (by omega), u2_a _ _ (by omega)]; exact hf1 q k' (by omega)) (by rw [u2_k _ _ (by decide), u2_a _ _ (by omega), u2_a _ _ (by omega), u2_a _ _ (by omega), u2_a _ _ (by omega), u2_a _ _ (by omega)]; exact hf1 _ _ (by omega)) (by rw [u2_k _ _ (by decide), u2_a _ _ (by omega), u2_a _ _ (by omega), u2_a _ _ (by omega), u2_a _ _ (by omega), u2_a _ _ (by omega)]; exact hf1 _ _ (by omega)) (by rw [u2_s, b3]) (fun j k' y z => by rw [u2_a _ _ (by omega), u2_a _ _ (by omega), u2_a _ _ (by omega), u2_a _ _ (by omega), u2_a _ _ (by omega), u2_a _ _ (by omega)]; exact hf1 _ _ (by omega)) (fun k' j y z => by
              by_cases e : k' = k
              · subst e
                rcases (show j = 0 ∨ j = 1 ∨ j = 2 ∨ j = 3 ∨ j = 4 by omega) with rfl | rfl | rfl | rfl | rfl
                · rw [u2_a _ _ (by omega), u2_k _ _ (by decide), u2_k _ _ (by decide), u2_k _ _ (by decide), u2_k _ _ (by decide), u2_s, hX.hat c59]; exact b10.trans b5.symm
                · rw [u2_a _ _ (by omega), u2_k _ _ (by decide), u2_k _ _ (by decide), u2_k _ _ (by decide), u2_s]; exact (by rw [show 1183 + 5 * k' + 1 = 1184 + 5 * k' by omega, b6])
                · rw [u2_a _ _ (by omega), u2_k _ _ (by decide), u2_k _ _ (by decide), u2_s, hX.holder, show 1183 + 5 * k' + 2 = 1185 + 5 * k' by omega, b7]
                · rw [u2_a _ _ (by omega), u2_k _ _ (by decide), u2_s, hX.cents, show 1183 + 5 * k' + 3 = 1186 + 5 * k' by omega, b8]
                · rw [u2_a _ _ (by omega), u2_s, hX.nl, show 1183 + 5 * k' + 4 = 1187 + 5 * k' by omega, b9]
              · rw [b3] at y
                rw [u2_a _ _ (by omega), u2_a _ _ (by omega), u2_a _ _ (by omega), u2_a _ _ (by omega), u2_a _ _ (by omega), u2_a _ _ (by omega), hf1 _ _ (by omega), b4 _ (by omega) (by omega)]
                exact hWR.book k' j (by omega) z) c51_1 (hX.ext (fun k' => by rw [u2_a _ _ (by omega), u2_a _ _ (by omega), u2_a _ _ (by omega), u2_a _ _ (by omega), u2_a _ _ (by omega), u2_a _ _ (by omega)]) (fun _ _ _ => rfl)) c51_3.1 c51_3.2.1 c51_3.2.2.1 c51_3.2.2.2.1 c51_3.2.2.2.2
            rw [b1] at hH
            exact ih (1 + i) (hd + 1) (u2 (u2 (u2 (u2 (u2 (u2 I' (w + 21 + k) 0 (I' (w + 35 + i) 10)) (w + 21 + k) 1 (i : Int)) (w + 21 + k) 2 (I' (w + 35 + i) 9)) (w + 21 + k) 3 (I' (w + 35 + i) 3)) (w + 21 + k) 4 (I' (w + 35 + i) 11)) w 5 ((k : Int) + 1)) L' (g_goes R i (b + 1)).2 (by omega) (by omega) hW9 hv9 x1 x2 (fun q k' x => by rw [u2_a _ _ (by omega), u2_a _ _ (by omega), u2_a _ _ (by omega), u2_a _ _ (by omega), u2_a _ _ (by omega), u2_a _ _ (by omega)]; exact (hf1 q k' (by omega)).trans (hM q k' x)) (fun q k x => (c51_1 q k (by omega) (by omega)).trans (hN q k x)) (by omega) hR2
set_option maxRecDepth 100000 in
theorem mX6_goMonth {G : q_G} {sz : Nat} {T : q_T} {I L : q_I} {P : q_P} {Q : q_Q} {w : Nat} {r : Nat → Int} (hW : q_SW T P w) (hWA : q_A G w) (hWR : q_WR I L w r (r 2)) (hV : g_VR r) (h2 : r 2 < 6000) (k0 : ∀ I' L', (∀ q k, q < w ∨ w + 47 ≤ q → I' q k = I q k) → (∀ q k, q < w ∨ w + 47 ≤ q → L' q k = L q k) → q_WR I' L' w (g_month r).2 (r 2 + 1) → Q (.inl (some (qI (g_month r).1))) sz T I' L' P) : qC G 5 0 0 YX6_goMonth [.ref w] sz T I L P Q := by
  refine qC_of (by decide +kernel) rfl rfl (Nat.le_of_ble_eq_true rfl) (fun F hF _ _ => ?_)
  have hm := hV.1.many
  have hmo := hV.1.month
  obtain ⟨mn, h1⟩ : ∃ mn : Nat, r 1 = (mn : Int) := ⟨(r 1).toNat, by omega⟩
  refine q_iconst hF dX6_goMonth_0 ?_
  refine q_istore_n hF (ls' := [(1, qI 0), (0, .ref w)]) rfl (by decide) rfl dX6_goMonth_1 ?_
  refine q_aload_n hF 1 rfl rfl dX6_goMonth_2 ?_
  refine q_dup hF rfl dX6_goMonth_3 ?_
  refine q_getIv hF (z := r 2) fl_RX6_45 hW.t0 hWR.mon dX6_goMonth_4 ?_
  refine q_iconst hF dX6_goMonth_7 ?_
  refine q_iadd hF dX6_goMonth_8 ?_
  refine q_putI hF fl_RX6_45 hW.t0 hWA dX6_goMonth_9 ?_
  refine q_iconst hF dX6_goMonth_12 ?_
  refine q_istore_n hF (ls' := [(2, qI 0), (1, qI 0), (0, .ref w)]) rfl (by decide) rfl dX6_goMonth_13 ?_
  refine lX6_goMonth (mn := mn) (b := r 2) (H := (g_month r).1) (RF := (g_accs (r 2 + 1) (r 1).toNat 0 r).2) (I := I) (L := L) (by decide) hF hW hWA (by omega) (by omega) (fun M N x1 x2 x3 x4 x5 x6 => k0 M N x1 x2 (x3.rext x4.1 (fun k hk => g_up_n _ _ hk))) (mn + 1) 0 0 (u2 I w 3 ((r 2) + 1)) L r (by omega) (Nat.zero_le _) (hWR.tick hV.1) hV h1 rfl (fun q k x => u2_a _ _ (by omega)) (fun _ _ _ => rfl) (by rw [show mn - 0 = (r 1).toNat by omega]; exact Int.zero_add _) (by rw [show mn - 0 = (r 1).toNat by omega])
