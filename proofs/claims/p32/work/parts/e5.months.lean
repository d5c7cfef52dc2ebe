/-! the law's own bank: months -/
theorem g_goes_01 (r : Nat → Int) (a : Nat) (nx : Int) : (g_goes r a nx).1 = 0 ∨ (g_goes r a nx).1 = 1 := by
  unfold g_goes
  split
  · split
    · exact Or.inl rfl
    · split
      · exact Or.inl rfl
      · split
        · exact Or.inl rfl
        · exact Or.inr rfl
  · exact Or.inl rfl
theorem q_Ex.up {E E1 : Nat → Prop} {a b c : Nat} (h : ∀ q, E1 q → q_Ex E a b q) (hab : a ≤ b) (hbc : b ≤ c) : ∀ q, q_Ex E1 b c q → q_Ex E a c q := fun q hq => by
  rcases hq with hq | hq
  · rcases h q hq with x | x
    · exact Or.inl x
    · exact Or.inr ⟨x.1, by omega⟩
  · exact Or.inr ⟨by omega, hq.2⟩
/-- a month gone by -/
theorem q_OW.mon {E : Nat → Prop} {T : q_T} {I L : q_I} {P : q_P} {k v n w m : Nat} {ρ σ : Nat → Nat} {r : Nat → Int} (h : q_OW E T I L P k v n ρ w m σ r) (hv : g_V0 r) (x : Int) : q_OW E T (u2 I k 8 x) L P k v n ρ w m σ (g_up r 2 x) := by
  have M := h.om
  have O := h.ot
  have e : ∀ y, y ≠ 2 → g_up r 2 x y = r y := fun y hy => g_up_n _ _ hy
  have ha : ∀ q, q ≠ k → ∀ j, u2 I k 8 x q j = I q j := fun q hq j => u2_a _ _ hq
  have hkk : ∀ j, j ≠ 8 → u2 I k 8 x k j = I k j := fun j hj => u2_k _ _ hj
  have ni : ∀ q y, T q = some (.inr y) → q ≠ k := fun q y hq => q_Tne hq O.t0 (by intro z; cases z)
  have n7 : ∀ q, T q = some (.inl 7) → q ≠ k := fun q hq => q_Tne hq O.t0 (by intro z; cases z)
  refine ⟨O, h.ek, (h.rr.mv O h.ek (fun _ z => z) (fun _ _ => rfl) ⟨hkk _ (by decide), hkk _ (by decide), hkk _ (by decide), hkk _ (by decide)⟩ rfl (fun q y _ hq j => ha q (ni q _ hq) j) (fun _ _ _ _ _ => rfl)).row hv (fun y hy => e y (by unfold g_rc at hy; omega)), ?_⟩
  refine ⟨(u2_s _ _ _ _).trans (g_up_s _ _ _).symm, (hkk _ (by decide)).trans (M.se.trans (e 7 (by decide)).symm), M.pv, M.tv, M.ev, (e 1 (by decide)).trans M.nn, M.pa, M.ta, M.ea, fun i hi => ((M.ac i hi).mv (fun j => ha _ (n7 _ (M.ta i hi)) j) rfl).row (fun y a b => e y (by omega)), M.dj, M.pw, M.tw, M.ew, (e 6 (by decide)).trans M.mm, M.pr, M.tr, M.er, fun j i hj hi => (ha _ (ni _ _ (M.tr j hj)) i).trans ((M.ro j i hj hi).trans (e _ (by omega)).symm), fun i hi => (M.b4 i hi).trans (e _ (by omega)).symm, M.b6.trans (e _ (by decide)).symm, fun l hl => (M.pd l hl).trans (e _ (by omega)).symm, fun l hl => (M.ps l hl).trans (e _ (by omega)).symm⟩

set_option maxRecDepth 100000 in
theorem lX10_accs {G : q_G} {F : q_F} {h : Nat} {Q : q_Q} {kc ks sz : Nat} {T : q_T} {k v n9 a0 : Nat} {ρ : Nat → Nat} {E : Nat → Prop} {b B9 kk N H : Int} {RF : Nat → Int} {I L : q_I} {P : q_P} (hF : q_ok G F YX10_months h) (h3 : 3 ≤ h) (hA0 : q_A G a0) (hn12 : n9 ≤ 12) (hb : 0 ≤ b ∧ b < 6000) (hB : 0 ≤ B9 ∧ B9 ≤ 100000) (hss : a0 ≤ sz) (k0 : ∀ (sz2 : Nat) (T2 : q_T) (I2 L2 : q_I) (P2 : q_P) (E2 : Nat → Prop) (w2 m2 : Nat) (σ2 : Nat → Nat), q_OW E2 T2 I2 L2 P2 k v n9 ρ w2 m2 σ2 RF → (∀ q, E2 q → a0 ≤ q ∧ q < sz2) → (∀ q, E2 q → q_Ex E sz sz2 q) → q_F0 sz2 I2 L2 P2 → q_Fr (q_Wk k n9 ρ) sz sz2 T I L P T2 I2 L2 P2 → g_VM RF n9 b → RF 1 = (n9 : Int) → RF 2 = b → qX G F Q kc ks 47 [(3, qI kk), (2, qI H), (1, qI N), (0, .ref k)] [] sz2 T2 I2 L2 P2) : ∀ (n : Nat) (c : Nat) (hd : Int) (sz9 : Nat) (T9 : q_T) (I9 L9 : q_I) (P9 : q_P) (E9 : Nat → Prop) (w m : Nat) (σ : Nat → Nat) (R : Nat → Int), n9 - c < n → c ≤ n9 → q_OW E9 T9 I9 L9 P9 k v n9 ρ w m σ R → (∀ q, E9 q → a0 ≤ q ∧ q < sz9) → (∀ q, E9 q → q_Ex E sz sz9 q) → q_F0 sz9 I9 L9 P9 → q_Fr (q_Wk k n9 ρ) sz sz9 T I L P T9 I9 L9 P9 → g_VM R c b → R 1 = (n9 : Int) → R 2 = b → 0 ≤ hd ∧ hd ≤ B9 + (c : Int) → hd + (g_accs (b + 1) (n9 - c) c R).1 = H → (g_accs (b + 1) (n9 - c) c R).2 = RF → qX G F Q (kc + 2 * (n9 - c)) (ks + 18 * (n9 - c)) 12 [(4, qI (c : Int)), (3, qI kk), (2, qI hd), (1, qI N), (0, .ref k)] [] sz9 T9 I9 L9 P9 := by
  intro n
  induction n with
  | zero => intro c hd sz9 T9 I9 L9 P9 E9 w m σ R hn; exact absurd hn (Nat.not_lt_zero _)
  | succ n ih =>
    intro c hd sz9 T9 I9 L9 P9 E9 w m σ R hn hc hW hE hX hZ hFr hVM h1 h2 hhd hH hR2
    refine q_iload hF 0 rfl dX10_months_12 ?_
    refine q_aload_n hF 4 rfl rfl dX10_months_14 ?_
    refine q_getA hF fl_RX10_32 rfl hW.ot.t0 hW.om.pv dX10_months_15 ?_
    refine q_alen hF (n := n9) hW.om.tv dX10_months_18 ?_
    refine q_icmpge hF (by omega) (by omega) dX10_months_19 (fun c19 => ?_) (fun c19 => ?_)
    · have ec : n9 = c := by omega
      rw [show n9 - c = 0 by omega] at hH hR2
      have q1 : hd = H := by rw [← hH]; exact (Int.add_zero _).symm
      have q2 : R = RF := hR2
      subst q1; subst q2
      refine q_sub [1, 2, 3, 4] rfl ?_
      refine qX.room (kc := kc) (ks := ks) (by omega) (by omega) ?_
      exact k0 _ _ _ _ _ E9 w m σ hW hE hX hZ hFr (by rw [ec]; exact hVM) h1 h2
    · have hlt : c < n9 := by omega
      have hil : (c : Int) < R 1 := by omega
      have hVA := hVM.2.1 c hil
      rw [if_neg (Nat.lt_irrefl _)] at hVA
      refine qX.room (kc := kc + 2 * (n9 - (c + 1)) + 2) (ks := ks + 18 * (n9 - (c + 1)) + 18) (by omega) (by omega) ?_
      refine q_aload_n hF 4 rfl rfl dX10_months_22 ?_
      refine q_aload_n hF 4 rfl rfl dX10_months_23 ?_
      refine q_getA hF fl_RX10_32 rfl hW.ot.t0 hW.om.pv dX10_months_24 ?_
      refine q_iload hF 0 rfl dX10_months_27 ?_
      refine q_aaloadv hF (b := ρ c) c hW.om.tv (by decide) rfl (by omega) (by omega) (hW.om.pa c (by omega)) dX10_months_29 ?_
      refine q_iload hF 0 rfl dX10_months_30 ?_
      refine q_callV (kc := kc + 2 * (n9 - (c + 1))) (ks := ks + 18 * (n9 - (c + 1))) (mc' := 2) (ms' := 18) (h' := 2) (st := []) hF vl_RX10_136 rfl [.ref (ρ c), qI (c : Int)] rfl rfl hW.ot.t0 (by omega) (Nat.le_of_ble_eq_true rfl) dX10_months_32 ?_
      refine mX10_goes (i := c) hW hE hA0 (by have := hFr.1; omega) hZ (rfl : ρ c = ρ c) hlt hVM.1 hVA (by omega) h2.symm (hVM.row hil) (fun sz' T' I' L' P' w' m' σ' c32_0 c32_1 c32_2 => ?_)
      refine q_ifeq hF (by rcases g_goes_01 R c (R 2 + 1) with z | z <;> omega) dX10_months_35 (fun c35 => ?_) (fun c35 => ?_)
      · refine q_iinc hF (z' := ((1 + c : Nat) : Int)) (ls' := [(4, qI ((1 + c : Nat) : Int)), (3, qI kk), (2, qI hd), (1, qI N), (0, .ref k)]) 0 rfl (by first | rfl | omega) (by decide) rfl dX10_months_41 ?_
        refine q_goto hF dX10_months_44 ?_
        have hg := hVM.goes (a := c) hil hb.1
        have hgn : ∀ x, x = 1 ∨ x = 2 → (g_goes R c (b + 1)).2 x = R x := fun x hx => g_goes_n (by have := hVM.1.rows; omega) (by omega) (by omega) (by omega) (by omega) (by omega) (by omega)
        have h01 := g_goes_01 R c (b + 1)
        rw [show n9 - c = (n9 - (c + 1)) + 1 by omega, g_accs_s] at hH hR2
        rw [h2] at c32_2 c35
        rw [Nat.add_comm 1 c]
        exact ih (c + 1) (hd) _ _ _ _ _ (q_Ex E9 sz9 sz') w' m' σ' _ (by omega) (by omega) c32_2 (fun q hq => by rcases hq with z | z; exact ⟨(hE q z).1, by have := (hE q z).2; have := c32_0.1; omega⟩; exact ⟨by have := hFr.1; omega, z.2⟩) (q_Ex.up hX hFr.1 c32_0.1) c32_1 (hFr.tr c32_0 (fun _ _ z => z)) hg ((hgn 1 (Or.inl rfl)).trans h1) ((hgn 2 (Or.inr rfl)).trans h2) (by omega) (by rw [← hH]; omega) hR2
      · refine q_iinc hF (z' := hd + 1) (ls' := [(2, qI (hd + 1)), (4, qI (c : Int)), (3, qI kk), (1, qI N), (0, .ref k)]) 2 rfl (by first | rfl | omega) (by decide) rfl dX10_months_38 ?_
        refine q_iinc hF (z' := ((1 + c : Nat) : Int)) (ls' := [(4, qI ((1 + c : Nat) : Int)), (2, qI (hd + 1)), (3, qI kk), (1, qI N), (0, .ref k)]) 1 rfl (by first | rfl | omega) (by decide) rfl dX10_months_41 ?_
        refine q_goto hF dX10_months_44 ?_
        refine q_sub [0, 2, 1, 3, 4] rfl ?_
        have hg := hVM.goes (a := c) hil hb.1
        have hgn : ∀ x, x = 1 ∨ x = 2 → (g_goes R c (b + 1)).2 x = R x := fun x hx => g_goes_n (by have := hVM.1.rows; omega) (by omega) (by omega) (by omega) (by omega) (by omega) (by omega)
        have h01 := g_goes_01 R c (b + 1)
        rw [show n9 - c = (n9 - (c + 1)) + 1 by omega, g_accs_s] at hH hR2
        rw [h2] at c32_2 c35
        rw [Nat.add_comm 1 c]
        exact ih (c + 1) (hd + 1) _ _ _ _ _ (q_Ex E9 sz9 sz') w' m' σ' _ (by omega) (by omega) c32_2 (fun q hq => by rcases hq with z | z; exact ⟨(hE q z).1, by have := (hE q z).2; have := c32_0.1; omega⟩; exact ⟨by have := hFr.1; omega, z.2⟩) (q_Ex.up hX hFr.1 c32_0.1) c32_1 (hFr.tr c32_0 (fun _ _ z => z)) hg ((hgn 1 (Or.inl rfl)).trans h1) ((hgn 2 (Or.inr rfl)).trans h2) (by omega) (by rw [← hH]; omega) hR2

theorem g_accs_12 (nx : Int) : ∀ (n a : Nat) (r : Nat → Int), 0 ≤ (g_accs nx n a r).1 ∧ (g_accs nx n a r).1 ≤ (n : Int) := by
  intro n
  induction n with
  | zero => intro a r; exact ⟨Int.le_refl _, Int.le_refl _⟩
  | succ n ih =>
    intro a r
    rw [g_accs_s]
    have := ih (a + 1) (g_goes r a nx).2
    have := g_goes_01 r a nx
    dsimp only
    omega
theorem g_month_12 {R : Nat → Int} (h : R 1 ≤ 12) : 0 ≤ (g_month R).1 ∧ (g_month R).1 ≤ 12 := by
  have := g_accs_12 (R 2 + 1) (R 1).toNat 0 R
  show 0 ≤ (g_accs (R 2 + 1) (R 1).toNat 0 R).1 ∧ (g_accs (R 2 + 1) (R 1).toNat 0 R).1 ≤ 12
  omega

set_option maxRecDepth 100000 in
theorem lX10_months {G : q_G} {F : q_F} {h : Nat} {Q : q_Q} {kc ks sz : Nat} {T : q_T} {k v n9 a0 N9 : Nat} {ρ : Nat → Nat} {E : Nat → Prop} {H : Int} {RF : Nat → Int} {I L : q_I} {P : q_P} (hF : q_ok G F YX10_months h) (h3 : 3 ≤ h) (hA0 : q_A G a0) (hn12 : n9 ≤ 12) (hN : N9 ≤ 1000) (hss : a0 ≤ sz) (k0 : ∀ (sz2 : Nat) (T2 : q_T) (I2 L2 : q_I) (P2 : q_P) (E2 : Nat → Prop) (w2 m2 : Nat) (σ2 : Nat → Nat), q_OW E2 T2 I2 L2 P2 k v n9 ρ w2 m2 σ2 RF → (∀ q, E2 q → a0 ≤ q ∧ q < sz2) → (∀ q, E2 q → q_Ex E sz sz2 q) → q_F0 sz2 I2 L2 P2 → q_Fr (q_Wk k n9 ρ) sz sz2 T I L P T2 I2 L2 P2 → Q (.inl (some (qI H))) sz2 T2 I2 L2 P2) : ∀ (n : Nat) (c : Nat) (hd : Int) (sz9 : Nat) (T9 : q_T) (I9 L9 : q_I) (P9 : q_P) (E9 : Nat → Prop) (w m : Nat) (σ : Nat → Nat) (R : Nat → Int), N9 - c < n → c ≤ N9 → q_OW E9 T9 I9 L9 P9 k v n9 ρ w m σ R → (∀ q, E9 q → a0 ≤ q ∧ q < sz9) → (∀ q, E9 q → q_Ex E sz sz9 q) → q_F0 sz9 I9 L9 P9 → q_Fr (q_Wk k n9 ρ) sz sz9 T I L P T9 I9 L9 P9 → g_Zr R → g_VR R → R 1 = (n9 : Int) → R 2 + (N9 - c : Nat) ≤ 6000 → 0 ≤ hd ∧ hd ≤ 12 * (c : Int) → hd + (g_months (N9 - c) R).1 = H → (g_months (N9 - c) R).2 = RF → qX G F Q (kc + 24 * (N9 - c)) (ks + 216 * (N9 - c)) 4 [(3, qI (c : Int)), (2, qI hd), (1, qI (N9 : Int)), (0, .ref k)] [] sz9 T9 I9 L9 P9 := by
  intro n
  induction n with
  | zero => intro c hd sz9 T9 I9 L9 P9 E9 w m σ R hn; exact absurd hn (Nat.not_lt_zero _)
  | succ n ih =>
    intro c hd sz9 T9 I9 L9 P9 E9 w m σ R hn hc hW hE hX hZ hFr hz hVR h1 h2 hhd hH hR2
    refine q_iload_n hF 0 rfl rfl dX10_months_4 ?_
    refine q_iload_n hF 2 rfl rfl dX10_months_5 ?_
    refine q_icmpge hF (by have := hVR.1.month; have := g_month_12 (R := R) (by omega); omega) (by have := hVR.1.month; have := g_month_12 (R := R) (by omega); omega) dX10_months_6 (fun c6 => ?_) (fun c6 => ?_)
    · refine q_iload_n hF 1 rfl rfl dX10_months_63 ?_
      refine q_ireturn hF rfl dX10_months_64 ?_
      rw [show N9 - c = 0 by omega] at hH hR2
      have q1 : hd = H := by rw [← hH]; exact (Int.add_zero _).symm
      have q2 : R = RF := hR2
      subst q1; subst q2
      exact k0 _ _ _ _ _ E9 w m σ hW hE hX hZ hFr
    · refine q_iconst hF dX10_months_9 ?_
      refine q_istore hF (ls' := [(4, qI 0), (3, qI (c : Int)), (2, qI hd), (1, qI (N9 : Int)), (0, .ref k)]) (by decide) rfl dX10_months_10 ?_
      have hmo := hVR.1.month
      have hlt : c < N9 := by omega
      refine qX.room (kc := (kc + 24 * (N9 - (c + 1))) + 2 * (n9 - 0)) (ks := (ks + 216 * (N9 - (c + 1))) + 18 * (n9 - 0)) (by omega) (by omega) ?_
      refine lX10_accs (b := R 2) (B9 := 12 * (c : Int)) (E := E9) (H := hd + (g_month R).1) (RF := (g_accs (R 2 + 1) (R 1).toNat 0 R).2) hF h3 hA0 hn12 (by omega) (by omega) (by have := hFr.1; omega) ?_ _ 0 hd sz9 T9 I9 L9 P9 E9 w m σ R (Nat.lt_succ_self _) (Nat.zero_le _) hW hE (fun q z => Or.inl z) hZ q_Fr.rfl' hVR h1 rfl (by omega) (by rw [show n9 - 0 = (R 1).toNat by omega]; rfl) (by rw [show n9 - 0 = (R 1).toNat by omega])
      intro sz2 T2 I2 L2 P2 E2 w2 m2 σ2 W2 hE2 hX2 hZ2 hF2 hV2 h12 h22
      generalize hRr : (g_accs (R 2 + 1) (R 1).toNat 0 R).2 = R2 at *
      refine q_aload_n hF 3 rfl rfl dX10_months_47 ?_
      refine q_dup hF rfl dX10_months_48 ?_
      refine q_getIv hF (z := R 2) fl_RX10_60 W2.ot.t0 (W2.om.mo.trans h22) dX10_months_49 ?_
      refine q_iconst hF dX10_months_52 ?_
      refine q_iadd hF dX10_months_53 ?_
      refine q_putI hF fl_RX10_60 W2.ot.t0 (q_Ale hA0 (hE2 k (W2.ek k (Nat.le_refl _) (by omega))).1) dX10_months_54 ?_
      refine q_iinc hF (z' := ((1 + c : Nat) : Int)) (ls' := [(3, qI ((1 + c : Nat) : Int)), (2, qI (hd + (g_month R).1)), (1, qI (N9 : Int)), (0, .ref k)]) 0 rfl (by first | rfl | omega) (by decide) rfl dX10_months_57 ?_
      refine q_goto hF dX10_months_60 ?_
      have hkE := hE2 k (W2.ek k (Nat.le_refl _) (by omega))
      rw [show N9 - c = (N9 - (c + 1)) + 1 by omega, g_months_s, if_pos (by omega)] at hH hR2
      have hgm : (g_month R).2 = g_up R2 2 (R 2 + 1) := by
        show g_up (g_accs (R 2 + 1) (R 1).toNat 0 R).2 2 ((g_accs (R 2 + 1) (R 1).toNat 0 R).2 2 + 1) = _
        rw [hRr, h22]
      rw [hgm] at hH hR2
      obtain ⟨z1, -⟩ := g_accs_z (nx := R 2 + 1) (R 1).toNat 0 hz (by rw [show R 2 + 1 - 1 = R 2 by omega]; exact hVR) (by omega) (by omega)
      rw [hRr] at z1
      have hup2 := hV2.up2 h12.symm h22 (by omega)
      rw [h22] at hup2
      have hm12 : 0 ≤ (g_month R).1 ∧ (g_month R).1 ≤ 12 := by have := g_month_12 (R := R) (by omega); omega
      rw [Nat.add_comm 1 c]
      exact ih (c + 1) _ sz2 T2 _ L2 P2 E2 w2 m2 σ2 _ (by omega) (by omega) (W2.mon hV2.1 (R 2 + 1)) hE2 (fun q z => by rcases hX2 q z with y | y; rcases hX q y with x | x; exact Or.inl x; exact Or.inr ⟨x.1, by have := hF2.1; omega⟩; exact Or.inr ⟨by have := hFr.1; omega, y.2⟩) (fun q j hq => ⟨(u2_a _ _ (by omega)).trans (hZ2 q j hq).1, (hZ2 q j hq).2⟩) (hFr.tr ⟨hF2.1, hF2.2.1, fun q j hq hn => (u2_a _ _ (fun z => hn (Or.inl z))).trans (hF2.2.2.1 q j hq hn), hF2.2.2.2⟩ (fun _ _ z => z)) (fun x hx => (g_up_n _ _ (by omega)).trans (z1 x hx)) hup2 ((g_up_n _ _ (by decide)).trans h12) (by rw [g_up_s]; omega) (by omega) (by rw [← hH]; omega) hR2

set_option maxRecDepth 100000 in
theorem mX10_months {G : q_G} {sz : Nat} {T : q_T} {I L : q_I} {P : q_P} {Q : q_Q} {k : Nat} {E : Nat → Prop} {v n w m N a0 : Nat} {ρ σ : Nat → Nat} {r : Nat → Int} (hW : q_OW E T I L P k v n ρ w m σ r) (hE : ∀ q, E q → a0 ≤ q ∧ q < sz) (hA0 : q_A G a0) (hAz : a0 ≤ sz) (hZ : q_F0 sz I L P) (hz : g_Zr r) (hVR : g_VR r) (hN : N ≤ 1000) (h2 : r 2 + (N : Nat) ≤ 6000) (k0 : ∀ (sz' : Nat) (T' : q_T) (I' L' : q_I) (P' : q_P) (w' m' : Nat) (σ' : Nat → Nat), q_Fr (q_Wk k n ρ) sz sz' T I L P T' I' L' P' → q_F0 sz' I' L' P' → q_OW (q_Ex E sz sz') T' I' L' P' k v n ρ w' m' σ' (g_months N r).2 → Q (.inl (some (qI (g_months N r).1))) sz' T' I' L' P') : qC G 3 (24 * N) (216 * N) YX10_months [.ref k, qI (N : Int)] sz T I L P Q := by
  refine qC_of (by decide +kernel) rfl rfl (Nat.le_of_ble_eq_true rfl) (fun F hF _ _ => ?_)
  have hn12 : n ≤ 12 := by have := hVR.1.many; have := hW.om.nn; omega
  refine qX.room (kc := 24 * N) (ks := 216 * N) (Nat.le_refl _) (Nat.le_refl _) ?_
  refine q_iconst hF dX10_months_0 ?_
  refine q_istore_n hF (ls' := [(2, qI 0), (0, .ref k), (1, qI (N : Int))]) rfl (by decide) rfl dX10_months_1 ?_
  refine q_iconst hF dX10_months_2 ?_
  refine q_istore_n hF (ls' := [(3, qI 0), (2, qI 0), (0, .ref k), (1, qI (N : Int))]) rfl (by decide) rfl dX10_months_3 ?_
  refine q_sub [0, 1, 3, 2] rfl ?_
  refine qX.room (kc := 0 + 24 * (N - 0)) (ks := 0 + 216 * (N - 0)) (by omega) (by omega) ?_
  exact lX10_months hF (by decide) hA0 hn12 hN hAz (fun sz2 T2 I2 L2 P2 E2 w2 m2 σ2 W2 hE2 hX2 hZ2 hF2 => k0 sz2 T2 I2 L2 P2 w2 m2 σ2 hF2 hZ2 (W2.mv hX2 (fun _ _ => rfl) (fun _ _ _ => rfl) (fun _ _ _ => rfl) (fun _ _ _ => rfl))) _ 0 0 sz T I L P E w m σ r (Nat.lt_succ_self _) (Nat.zero_le _) hW hE (fun q z => Or.inl z) hZ q_Fr.rfl' hz hVR hW.om.nn h2 (by omega) (Int.zero_add _) rfl
