/-! calls compared at once; text -/
theorem g_fed_r (v1 v2 v3 v4 v5 : Int) (k : Nat) : 0 ≤ g_fed v1 v2 v3 v4 v5 k ∧ g_fed v1 v2 v3 v4 v5 k ≤ 255 := by
  unfold g_fed g_and
  have h : ∀ x : Int32, 0 ≤ (x &&& Int32.ofInt 255).toInt ∧ (x &&& Int32.ofInt 255).toInt ≤ 255 := by
    intro x
    have e : (x &&& Int32.ofInt 255).toBitVec = x.toBitVec &&& 255#32 := by
      rw [Int32.toBitVec_and]; rfl
    have h1 : (x.toBitVec &&& 255#32).toNat ≤ 255 := by
      rw [BitVec.toNat_and]; exact Nat.and_le_right
    have h2 : (x &&& Int32.ofInt 255).toInt = ((x.toBitVec &&& 255#32).toNat : Int) := by
      show (x &&& Int32.ofInt 255).toBitVec.toInt = _
      rw [e, BitVec.toInt_eq_toNat_of_lt (by omega)]
    omega
  exact h _
theorem q_GM.nil {T : q_T} {m bk tp : Nat} {B : Nat → Int} {R : Nat → Nat → Int} {f : Int} {c : Nat → Int} {I L : q_I} {P : q_P} (h : q_GM T m bk tp B R f c I L P) : q_GM T m bk tp B R f c (u2 I m 0 0) L P :=
  ⟨h.sm, (u2_k _ _ (by decide)).trans h.m13, h.l3, h.lp, h.z0, (u2_k _ _ (by decide)).trans h.m2, fun k hk => (u2_a _ _ (by omega)).trans (h.by9 k hk), (u2_k _ _ (by decide)).trans h.m5, fun i hi => (u2_a _ _ (by omega)).trans (h.cn i hi)⟩
theorem q_GE.nil {T : q_T} {b m bk tp : Nat} {V : Nat → Nat} {B : Nat → Int} {R : Nat → Nat → Int} {f : Int} {c : Nat → Int} {I L : q_I} {P : q_P} (hC : q_GC T b V bk tp B R f c I L P) (hM : q_GM T m bk tp B R f c I L P) (hP : q_GP bk tp B R) (hmb : b + 452 ≤ m) : q_GE T b m (u2 I m 0 0) L P :=
  ⟨V, bk, tp, B, R, f, c, hC.fr hP (fun q k h1 h2 => u2_a _ _ (by omega)) (fun _ _ _ _ => rfl), hM.nil, hP⟩

set_option maxRecDepth 100000 in
theorem pr_print {G : q_G} {b m o : Nat} {T : q_T} {sz : Nat} {I L : q_I} {P : q_P} (hX : q_FX G T b m o) (hG : q_GE T b m I L P)  : q_PD G b m T qL YX7_print 1 [.ref b] YX8_print 2 [.ref m] sz I L P := by
  obtain ⟨hA, hmb, hmo, hTo⟩ := hX
  obtain ⟨V, bk, tp, B, R, f, cn, hC, hM, hP⟩ := hG
  have hV := (hP.ro 0 (Nat.zero_le _)).1
  have hv := hV.1
  have hAm : q_A G m := q_Ale hA (by omega)
  have hmany := hv.many
  have hmn : R 0 1 = ((R 0 1).toNat : Int) := by omega
  have hm12 : (R 0 1).toNat ≤ 12 := by omega
  have hvs : ∀ i : Nat, i < (R 0 1).toNat → g_VA (R 0) i (R 0 2) := fun i hi => by have q := hV.2.1 i (by omega); rwa [if_neg (Nat.not_lt_zero _)] at q
  have htp := hP.tp
  have hbk := hP.bk
  intro Q' kQ
  refine mX7_print hC.st hA hC.pv hC.ov rfl (hC.wr 0 (Nat.zero_le _)) hV hmn hm12 ?_
  refine kQ _ _ _ _ (fun Q2 kR => ?_)
  refine mX8_printR hM.l3 hM.sm hAm hv hmn hm12 hvs ?_
  exact kR _ _ (q_GE.nil hC hM hP hmb)

set_option maxRecDepth 100000 in
theorem pr_fault {G : q_G} {b m o : Nat} {T : q_T} {sz : Nat} {I L : q_I} {P : q_P} (hX : q_FX G T b m o) (hG : q_GE T b m I L P)  : q_PD G b m T qI YX7_fault 1 [.ref b] YX8_fault 0 [.ref m] sz I L P := by
  obtain ⟨hA, hmb, hmo, hTo⟩ := hX
  obtain ⟨V, bk, tp, B, R, f, cn, hC, hM, hP⟩ := hG
  have hV := (hP.ro 0 (Nat.zero_le _)).1
  have hv := hV.1
  have hAm : q_A G m := q_Ale hA (by omega)
  have hmany := hv.many
  have hmn : R 0 1 = ((R 0 1).toNat : Int) := by omega
  have hm12 : (R 0 1).toNat ≤ 12 := by omega
  have hvs : ∀ i : Nat, i < (R 0 1).toNat → g_VA (R 0) i (R 0 2) := fun i hi => by have q := hV.2.1 i (by omega); rwa [if_neg (Nat.not_lt_zero _)] at q
  have htp := hP.tp
  have hbk := hP.bk
  intro Q' kQ
  refine mX7_fault hC.st hA hC.pv hC.ov rfl (hC.wr 0 (Nat.zero_le _)) hV ?_
  refine kQ _ _ _ _ (fun Q2 kR => ?_)
  refine mX8_fault hM.sm.1 hAm ?_
  rw [hC.b7.trans hM.m5.symm] at kR
  exact kR _ _ (q_GE.nil hC hM hP hmb)

set_option maxRecDepth 100000 in
theorem pr_status {G : q_G} {b m o : Nat} {T : q_T} {sz : Nat} {I L : q_I} {P : q_P} {n : Int} (hX : q_FX G T b m o) (hG : q_GE T b m I L P) (hn : -2147483648 ≤ n ∧ n < 2147483648) : q_PD G b m T qI YX7_status 1 [.ref b, qI n] YX8_status 1 [.ref m, qI n] sz I L P := by
  obtain ⟨hA, hmb, hmo, hTo⟩ := hX
  obtain ⟨V, bk, tp, B, R, f, cn, hC, hM, hP⟩ := hG
  have hV := (hP.ro 0 (Nat.zero_le _)).1
  have hv := hV.1
  have hAm : q_A G m := q_Ale hA (by omega)
  have hmany := hv.many
  have hmn : R 0 1 = ((R 0 1).toNat : Int) := by omega
  have hm12 : (R 0 1).toNat ≤ 12 := by omega
  have hvs : ∀ i : Nat, i < (R 0 1).toNat → g_VA (R 0) i (R 0 2) := fun i hi => by have q := hV.2.1 i (by omega); rwa [if_neg (Nat.not_lt_zero _)] at q
  have htp := hP.tp
  have hbk := hP.bk
  intro Q' kQ
  refine mX7_status hC.st hA hC.pv hC.ov rfl (hC.wr 0 (Nat.zero_le _)) hV hn ?_
  refine kQ _ _ _ _ (fun Q2 kR => ?_)
  by_cases hx : 0 ≤ n ∧ n ≤ 2
  · obtain ⟨i, rfl⟩ : ∃ i : Nat, n = (i : Int) := ⟨n.toNat, by omega⟩
    refine mX8_status hM.sm hAm (show i < 3 by omega) (fun _ => ?_)
    have ez : g_statQ (I b 7) (I b 8) (I b 9) (i : Int) = I (m + 1) i := by
      have h0 := hC.cn 0 (by decide)
      have h1 := hC.cn 1 (by decide)
      have h2 := hC.cn 2 (by decide)
      rw [hM.cn i (by omega)]
      unfold g_statQ
      obtain rfl | rfl | rfl : i = 0 ∨ i = 1 ∨ i = 2 := by omega
      · rw [if_pos (by decide)]; exact h0
      · rw [if_neg (by decide), if_pos (by decide)]; exact h1
      · rw [if_neg (by decide), if_neg (by decide), if_pos (by decide)]; exact h2
    rw [ez] at kR
    exact kR _ _ (q_GE.nil hC hM hP hmb)
  · refine mX8_status0 hM.sm hAm hn hx (fun _ => ?_)
    have ez : g_statQ (I b 7) (I b 8) (I b 9) n = -1 := by unfold g_statQ; rw [if_neg (by omega), if_neg (by omega), if_neg (by omega)]
    rw [ez] at kR
    exact kR _ _ (q_GE.nil hC hM hP hmb)

set_option maxRecDepth 100000 in
theorem pr_feed {G : q_G} {b m o : Nat} {T : q_T} {sz : Nat} {I L : q_I} {P : q_P} {v1 v2 v3 v4 v5 : Int} (hX : q_FX G T b m o) (hG : q_GE T b m I L P)  : q_PD G b m T qI YX7_feed 1 [.ref b, qI v1, qI v2, qI v3, qI v4, qI v5] YX8_feed 1 [.ref m, qI v1, qI v2, qI v3, qI v4, qI v5] sz I L P := by
  obtain ⟨hA, hmb, hmo, hTo⟩ := hX
  obtain ⟨V, bk, tp, B, R, f, cn, hC, hM, hP⟩ := hG
  have hV := (hP.ro 0 (Nat.zero_le _)).1
  have hv := hV.1
  have hAm : q_A G m := q_Ale hA (by omega)
  have hmany := hv.many
  have hmn : R 0 1 = ((R 0 1).toNat : Int) := by omega
  have hm12 : (R 0 1).toNat ≤ 12 := by omega
  have hvs : ∀ i : Nat, i < (R 0 1).toNat → g_VA (R 0) i (R 0 2) := fun i hi => by have q := hV.2.1 i (by omega); rwa [if_neg (Nat.not_lt_zero _)] at q
  have htp := hP.tp
  have hbk := hP.bk
  intro Q' kQ
  refine mX7_feed hC.st hA hC.b6 htp (fun h6 => ?_) (fun h6 I1 a1 a2 a3 a4 => ?_)
  · refine kQ _ _ _ _ (fun Q2 kR => ?_)
    refine mX8_feed hM.sm hAm hM.m2 htp (fun _ => ?_) (fun h _ _ _ _ _ => by omega)
    exact kR _ _ (q_GE.nil hC hM hP hmb)
  · refine kQ _ _ _ _ (fun Q2 kR => ?_)
    have hM1 : q_GM T m bk tp B R f cn I1 L P := hM.fr hbk (fun q k h1 h2 => a1 q k (by omega) (by omega)) (fun _ _ _ _ => rfl) (fun _ _ _ => rfl)
    refine mX8_feed hM1.sm hAm hM1.m2 htp (fun h => by omega) (fun _ I2 c1 c2 c3 c4 => ?_)
    refine kR _ _ ?_
    have eB : ∀ k : Nat, k < 20 + tp → I1 (b + 2) k = I2 (m + 2) k := fun k hk => by
      by_cases e : k < tp
      · rw [a3 k (Or.inl e), c3 k (Or.inl e), hC.by9 k (by omega)]; exact (hM1.by9 k e).symm
      · obtain ⟨j, rfl⟩ : ∃ j, k = j + tp := ⟨k - tp, by omega⟩
        rw [a4 j (by omega), c4 j (by omega)]
    have e1 : ∀ q k, q < m → I2 q k = I1 q k := fun q k h => (c1 q k (by omega) (by omega)).trans (u2_a _ _ (by omega))
    have e2 : ∀ q k, q < b + 452 → q ≠ b + 2 → (q ≠ b ∨ k ≠ 4) → I2 q k = I q k := fun q k h h1 h2 => (e1 q k (by omega)).trans (a1 q k h1 h2)
    have e3 : ∀ k, k ≠ 0 → k ≠ 2 → I2 m k = I1 m k := fun k h h1 => (c1 m k (by omega) (by omega)).trans (u2_k _ _ h)
    have e5 : ∀ i, I2 (m + 1) i = I1 (m + 1) i := fun i => (c1 _ i (by omega) (by omega)).trans (u2_a _ _ (by omega))
    refine ⟨V, bk, 20 + tp, fun k => if k < 600 then I1 (b + 2) k else 0, R, f, cn, ⟨hC.st, hC.pv, hC.ov, (e2 _ _ (by omega) (by omega) (by omega)).trans hC.b8, fun j hj => ?_, (e1 _ _ (by omega)).trans a2, fun k hk => ?_, (e2 _ _ (by omega) (by omega) (by omega)).trans hC.b7, fun i hi => (e2 _ _ (by omega) (by omega) (by omega)).trans (hC.cn i hi), hC.ch⟩,
      ⟨hM.sm, (e3 _ (by decide) (by decide)).trans hM1.m13, hM.l3, hM.lp, hM.z0, c2, fun k hk => ?_, (e3 _ (by decide) (by decide)).trans hM1.m5, fun i hi => (e5 i).trans (hM1.cn i hi)⟩, ⟨hbk, by omega, fun k => ?_, hP.ro⟩⟩
    · have hr := hC.ov.r (i := j) (by omega)
      exact (hC.wr j hj).fr (hP.ro j hj).1.1 (fun q k h1 h2 => e2 q k (by omega) (by omega) (by omega)) (fun _ _ _ _ _ => rfl)
    · dsimp only
      rw [if_pos hk]; exact e1 _ _ (by omega)
    · dsimp only
      rw [if_pos (by omega)]; exact (eB k hk).symm
    · dsimp only
      by_cases e : k < 600
      · rw [if_pos e]
        by_cases e2 : k < tp ∨ 20 + tp ≤ k
        · rw [a3 k e2, hC.by9 k e]; exact hP.br k
        · obtain ⟨j, rfl⟩ : ∃ j, k = j + tp := ⟨k - tp, by omega⟩
          rw [a4 j (by omega)]; exact g_fed_r _ _ _ _ _ j
      · rw [if_neg e]; decide

set_option maxRecDepth 100000 in
theorem pr_undo {G : q_G} {b m o : Nat} {T : q_T} {sz : Nat} {I L : q_I} {P : q_P} (hX : q_FX G T b m o) (hG : q_GE T b m I L P)  : q_PD G b m T qI YX7_undo 0 [.ref b] YX8_undo 2 [.ref m] sz I L P := by
  obtain ⟨hA, hmb, hmo, hTo⟩ := hX
  obtain ⟨V, bk, tp, B, R, f, cn, hC, hM, hP⟩ := hG
  have hV := (hP.ro 0 (Nat.zero_le _)).1
  have hv := hV.1
  have hAm : q_A G m := q_Ale hA (by omega)
  have hmany := hv.many
  have hmn : R 0 1 = ((R 0 1).toNat : Int) := by omega
  have hm12 : (R 0 1).toNat ≤ 12 := by omega
  have hvs : ∀ i : Nat, i < (R 0 1).toNat → g_VA (R 0) i (R 0 2) := fun i hi => by have q := hV.2.1 i (by omega); rwa [if_neg (Nat.not_lt_zero _)] at q
  have htp := hP.tp
  have hbk := hP.bk
  intro Q' kQ
  by_cases h0 : bk = 0
  · subst h0
    refine mX7_undo0 hC.st hA hC.pv hC.ov hC.b8 ?_
    refine kQ _ _ _ _ (fun Q2 kR => ?_)
    refine qC.wide (h := 2) (mc := 0) (ms := 0) (by decide) (by decide) (by decide) ?_
    refine mX8_undo0 hM.sm hAm hM.m13 ?_
    exact kR _ _ (q_GE.nil hC hM hP hmb)
  · obtain ⟨n, rfl⟩ : ∃ n, bk = 1 + n := ⟨bk - 1, by omega⟩
    refine mX7_undo (n := n) hC.st hA hC.pv hC.ov hC.b8 (by omega) (fun P9 h1 h2 h3 h4 => ?_)
    refine kQ _ _ _ _ (fun Q2 kR => ?_)
    have hM1 : q_GM T m (1 + n) tp B R f cn (u2 I b 6 (n : Int)) L P9 := hM.fr hbk (fun q k h1 h2 => u2_a _ _ (by omega)) (fun _ _ _ _ => rfl) (fun q k h => h4 q k (by omega))
    refine mX8_undo (b := n) hM1.sm hAm hM1.m13 (by omega) ?_
    refine kR _ _ ?_
    have eN : ((1 + n : Nat) : Int) - 1 = (n : Int) := by omega
    rw [eN]
    have e1 : ∀ q k, (q ≠ b ∨ k ≠ 6) → q < m → (u2 (u2 (u2 I b 6 (n : Int)) m 0 0) m 13 (n : Int)) q k = I q k := fun q k h h1 => by
      rw [u2_a _ _ (by omega), u2_a _ _ (by omega)]
      exact if_neg (fun x => h.elim (fun y => y x.1) (fun y => y x.2))
    have eR : cpL L (m + 7 + n) (m + 3) 1243 (m + 3) = R (1 + n) := by
      funext k
      by_cases e : k < 1243
      · rw [cpL_to L _ _ e]; exact congrFun (hM.lp n (by omega)) k
      · rw [show cpL L (m + 7 + n) (m + 3) 1243 (m + 3) k = L (m + 3) k from if_neg (fun x => e x.2), hM.l3, (hP.ro 0 (Nat.zero_le _)).2.2.1 k (by omega), (hP.ro (1 + n) (by omega)).2.2.1 k (by omega)]
    refine ⟨g_swp V n, n, tp, B, fun j => if j = 0 then R (1 + n) else R j, f, cn, ⟨h1, h2, h3, ?_, fun j hj => ?_, (e1 _ _ (by omega) (by omega)).trans hC.b6, fun k hk => (e1 _ _ (by omega) (by omega)).trans (hC.by9 k hk), (e1 _ _ (by omega) (by omega)).trans hC.b7, fun i hi => (e1 _ _ (by omega) (by omega)).trans (hC.cn i hi), fun i hi => ?_⟩,
      ⟨hM1.sm, u2_s _ _ _ _, ?_, fun j hj => ?_, fun q k q1 q2 q3 => ?_, ?_, fun k hk => ?_, ?_, fun i hi => ?_⟩, ⟨by omega, htp, hP.br, fun j hj => ?_⟩⟩
    · rw [u2_a _ _ (by omega), u2_a _ _ (by omega), u2_s]
    · by_cases e : j = 0
      · subst e
        have hr := hC.ov.r (i := 1 + n) (by omega)
        show q_WR _ _ (V (1 + n)) (R (1 + n)) (R (1 + n) 2)
        exact (hC.wr (1 + n) (by omega)).fr (hP.ro (1 + n) (by omega)).1.1 (fun q k h1 h2 => e1 q k (by omega) (by omega)) (fun q k h1 h2 _ => cpL_ne _ _ _ (by omega))
      · have hr := hC.ov.r (i := j) (by omega)
        have ej : g_swp V n j = V j := by unfold g_swp; rw [if_neg e, if_neg (by omega)]
        dsimp only
        rw [ej, if_neg e]
        exact (hC.wr j (by omega)).fr (hP.ro j (by omega)).1.1 (fun q k h1 h2 => e1 q k (by omega) (by omega)) (fun q k h1 h2 _ => cpL_ne _ _ _ (by omega))
    · rw [cpL_ne _ _ _ (by omega)]; exact hC.ch i hi
    · exact eR
    · dsimp only
      rw [if_neg (by omega), ← hM.lp j (by omega)]
      funext k
      exact cpL_ne _ _ _ (by omega)
    · by_cases e : q = m + 3
      · subst e; rw [eR]; exact (hP.ro (1 + n) (by omega)).2.2.1 k q3
      · rw [cpL_ne _ _ _ e]; exact hM.z0 q k q1 q2 q3
    · rw [u2_k _ _ (by decide), u2_k _ _ (by decide)]; exact hM1.m2
    · rw [u2_a _ _ (by omega), u2_a _ _ (by omega)]; exact hM1.by9 k hk
    · rw [u2_k _ _ (by decide), u2_k _ _ (by decide)]; exact hM1.m5
    · rw [u2_a _ _ (by omega), u2_a _ _ (by omega)]; exact hM1.cn i hi
    · dsimp only
      by_cases e : j = 0
      · rw [if_pos e]; exact hP.ro (1 + n) (by omega)
      · rw [if_neg e]; exact hP.ro j (by omega)

set_option maxRecDepth 100000 in
theorem pr_text {G : q_G} {b m o : Nat} {T : q_T} {sz : Nat} {I L : q_I} {P : q_P} {n : Int} (hX : q_FX G T b m o) (hG : q_GE T b m I L P) (hn : -2147483648 ≤ n ∧ n < 2147483648) : q_PR G b m o T qI q_w32 YL_text 20 [.ref b, qI n, .ref o] YX8_text 25 [.ref m, qI n] sz I L P := by
  obtain ⟨hA, hmb, hmo, hTo⟩ := hX
  obtain ⟨V, bk, tp, B, R, f, cn, hC, hM, hP⟩ := hG
  have hV := (hP.ro 0 (Nat.zero_le _)).1
  have hv0 := hV.1
  have hAm : q_A G m := q_Ale hA (by omega)
  have htp := hP.tp
  have hbk := hP.bk
  intro Q' kQ
  refine mL_text (hx := 19) hC.st.t0 hTo (q_Ale hA (by omega)) (fun Q1 k1 => ?_)
  refine mX7_text (I m 15) hC.st hA hC.pv hC.ov rfl (hC.wr 0 (Nat.zero_le _)) hV hC.b8 hbk hC.b6 htp hC.by9 hP.br hn (fun sz' hsz x1 => ?_) (fun w1 x M P9 hnn he hw h1 h2 h3 h4 h5 h6 => ?_) (fun s' t' M N P9 V9 hnn he hTF hz => ?_)
  · refine k1 _ _ _ _ _ _ (q_LQ.er 0 rfl (kQ _ _ _ _ _ hsz (by decide) (fun Q2 kR => ?_)))
    have hM1 := hM.rf (b := b) (k := 7 + 1) (v := (I b (7 + 1)) + 1) hP.bk hmb
    refine mX8_text0 hM1.sm hAm hM1.m2 htp hn x1 ?_
    exact kR 0 _ _ (q_GE.rf hC hM hP hmb 1 (by decide) 1) (by rw [u2_a _ _ (by omega), u2_s]; rfl) (fun h => absurd h (by decide))
  · obtain ⟨nn, rfl⟩ : ∃ nn : Nat, n = (nn : Int) := ⟨n.toNat, by omega⟩
    refine k1 _ _ _ _ _ _ (q_LQ.ok (kQ 0 _ _ _ _ (Nat.le_refl _) (by decide) (fun Q2 kR => ?_)))
    have em : M m 15 = I m 15 := h3 _ _ (by omega) (by omega)
    have hM1 : ∀ z, q_GM T m bk tp B R f cn M (u2 L o 0 z) P9 := fun z => hM.fr hbk (fun q k a1 a2 => h3 q k (by omega) (by omega)) (fun q k a1 a2 => u2_a _ _ (by omega)) (fun q k a => h6 q k (by omega))
    have he' : g_text B nn (I m 15) = .er w1 x := he
    refine mX8_text (n := nn) (B := B) (hM1 0).sm hAm (hM1 0).m2 htp (by omega) (fun k hk => (hM1 0).by9 k (by omega)) hP.br (hM1 0).m13 hbk (hM1 _).z0 (fun s' t' L' I' he2 _ _ _ _ _ _ => ?_) (fun w2 x2 t' I' he2 hw2 c1 c2 c3 c4 c5 => ?_)
    · rw [em, he'] at he2; cases he2
    rw [em, he'] at he2
    cases he2
    have e1 : ∀ q k, q < m → I' q k = M q k := fun q k h => c1 q k (by omega)
    have eL : ∀ q k, q ≠ m + 4 → q ≠ o → (q_row (u2 L o 0 (q_w32 (w1 - 10))) (m + 4) (g_zap t')) q k = L q k := fun q k a1 a2 => by rw [q_row_n _ _ a1, u2_a _ _ a2]
    refine kR _ _ _ ⟨V, bk, 0, B, R, (x : Int), cn, ⟨h1, h2, hC.ov, (e1 _ _ (by omega)).trans ((h3 _ _ (by omega) (by omega)).trans hC.b8), fun j hj => ?_, (e1 _ _ (by omega)).trans h5, fun k hk => (e1 _ _ (by omega)).trans ((h3 _ _ (by omega) (by omega)).trans (hC.by9 k hk)), (e1 _ _ (by omega)).trans h4, fun i hi => (e1 _ _ (by omega)).trans ((h3 _ _ (by omega) (by omega)).trans (hC.cn i hi)), fun i hi => ?_⟩,
      ⟨(hM1 0).sm, c5.trans (hM1 0).m13, ?_, fun j hj => ?_, fun q k q1 q2 q3 => ?_, c3, fun k hk => by omega, c4, fun i hi => (c1 _ _ (by omega)).trans ((hM1 0).cn i hi)⟩, ⟨hbk, by omega, hP.br, hP.ro⟩⟩ c2 (fun _ => by rw [q_row_n _ _ (by omega), u2_s])
    · have hr := hC.ov.r (i := j) (by omega)
      exact (hC.wr j hj).fr (hP.ro j hj).1.1 (fun q k a1 a2 => (e1 _ _ (by omega)).trans (h3 q k (by omega) (by omega))) (fun q k a1 a2 _ => eL q k (by omega) (by omega))
    · rw [eL _ _ (by omega) (by omega)]; exact hC.ch i hi
    · rw [← hM.l3]; funext k; exact eL _ _ (by omega) (by omega)
    · rw [← hM.lp j hj]; funext k; exact eL _ _ (by omega) (by omega)
    · by_cases e : q = m + 4
      · subst e; rw [q_row_s]; exact if_neg (by omega)
      · rw [eL _ _ e (by omega)]; exact hM.z0 q k q1 q2 q3
  · obtain ⟨nn, rfl⟩ : ∃ nn : Nat, n = (nn : Int) := ⟨n.toNat, by omega⟩
    obtain ⟨a1, a2, a3, a4, a5, a6, a7, a8, a9, a10, a11, a12, a13⟩ := hTF
    have hfr := g_fresh_VR hz.1 hz.2.1
    have hro : q_RO (g_zap t') := ⟨hfr.1, hfr.2.1, hz.2.2, hfr.2.2⟩
    have hnb := g_nb_r hbk
    have hr0 := a3.r (i := 0) (by omega)
    have hr1 := a3.r (i := g_nb bk) (by omega)
    refine k1 _ _ _ _ _ _ (q_LQ.ok (kQ 0 _ _ _ _ (Nat.le_refl _) (by decide) (fun Q2 kR => ?_)))
    have em : M m 15 = I m 15 := a9 _ _ (by omega) (by omega) (by omega) (by omega)
    have hM1 : ∀ z, q_GM T m bk tp B R f cn M (u2 N o 0 z) P9 := fun z => hM.fr hbk (fun q k b1 b2 => a9 q k (by omega) (by omega) (by omega) (by omega)) (fun q k b1 b2 => (u2_a _ _ (by omega)).trans (a10 q k (by omega) (by omega))) (fun q k b1 => a13 q k (by omega))
    have he' : g_text B nn (I m 15) = .ok s' t' := he
    refine mX8_text (n := nn) (B := B) (hM1 0).sm hAm (hM1 0).m2 htp (by omega) (fun k hk => (hM1 0).by9 k (by omega)) hP.br (hM1 0).m13 hbk (hM1 _).z0 (fun s2 t2 L' I' he2 c1 c2 c3 c4 c5 hRm => ?_) (fun w2 x2 t2 I' he2 _ _ _ _ _ _ => ?_)
    · rw [em, he'] at he2
      cases he2
      obtain ⟨I0, hI0⟩ : ∃ I0 : q_I, I0 = fun q k => if (q = b ∧ k = 6) ∨ (b + 28 ≤ q ∧ q < b + 452) then I q k else u2 I' m 13 (bk : Int) q k := ⟨_, rfl⟩
      have i1 : ∀ q k, b + 28 ≤ q → q < b + 452 → I0 q k = I q k := fun q k x y => by rw [hI0]; exact if_pos (Or.inr ⟨x, y⟩)
      have i2 : I0 b 6 = I b 6 := by rw [hI0]; exact if_pos (Or.inl ⟨rfl, rfl⟩)
      have i3 : ∀ q k, ¬ ((q = b ∧ k = 6) ∨ (b + 28 ≤ q ∧ q < b + 452)) → I0 q k = u2 I' m 13 (bk : Int) q k := fun q k x => by rw [hI0]; exact if_neg x
      have eM : ∀ q k, q ≠ m → u2 I' m 13 (bk : Int) q k = M q k := fun q k h => (u2_a _ _ h).trans (c1 q k h)
      have i4 : ∀ q k, q < b + 28 → q ≠ b → I0 q k = M q k := fun q k x y => (i3 q k (by omega)).trans (eM q k (by omega))
      have i5 : ∀ k, k ≠ 6 → I0 b k = M b k := fun k x => (i3 b k (by omega)).trans (eM b k (by omega))
      have rL : ∀ (X : q_I) q k, q ≠ m + 4 → q_row X (m + 4) (g_zap t') q k = X q k := fun X q k h => q_row_n X _ h k
      have hC0 : q_GC T b V bk 0 B R (-1) cn I0 (q_row L (m + 4) (g_zap t')) P := by
        refine ⟨hC.st, hC.pv, hC.ov, i2.trans hC.b8, fun j hj => ?_, (i5 _ (by decide)).trans a11, fun k hk => (i4 _ _ (by omega) (by omega)).trans ((a9 _ _ (by omega) (by omega) (by omega) (by omega)).trans (hC.by9 k hk)), (i5 _ (by decide)).trans a12, fun i hi => (i5 _ (by omega)).trans ((a9 _ _ (by omega) (by omega) (by omega) (by omega)).trans (hC.cn i hi)), fun i hi => ?_⟩
        · have hr := hC.ov.r (i := j) (by omega)
          exact (hC.wr j hj).fr (hP.ro j hj).1.1 (fun q k b1 b2 => i1 q k (by omega) (by omega)) (fun q k b1 b2 _ => rL _ _ _ (by omega))
        · rw [rL _ _ _ (by omega)]; exact hC.ch i hi
      have hM0 : q_GM T m bk 0 B R (-1) cn I0 (q_row L (m + 4) (g_zap t')) P := by
        refine ⟨hM.sm, (i3 _ _ (by omega)).trans (u2_s _ _ _ _), ?_, fun j hj => ?_, fun q k q1 q2 q3 => ?_, (i3 _ _ (by omega)).trans ((u2_k _ _ (by decide)).trans c3), fun k hk => by omega, (i3 _ _ (by omega)).trans ((u2_k _ _ (by decide)).trans c4), fun i hi => (i3 _ _ (by omega)).trans ((eM _ _ (by omega)).trans ((hM1 0).cn i hi))⟩
        · rw [← hM.l3]; funext k; exact rL _ _ _ (by omega)
        · rw [← hM.lp j hj]; funext k; exact rL _ _ _ (by omega)
        · by_cases e : q = m + 4
          · subst e; rw [q_row_s]; exact if_neg (by omega)
          · rw [rL _ _ _ e]; exact hM.z0 q k q1 q2 q3
      have hAF : q_AF T b V bk I0 (q_row L (m + 4) (g_zap t')) P (R 0) (g_zap t') (u2 I' m 13 (bk : Int)) (q_row N (m + 4) (g_zap t')) P9 V9 := by
        refine ⟨a1, a2, a3, a4, a5, (eM _ _ (by omega)).trans a6, a7.fr hro.1.1 (fun q k b1 b2 => eM q k (by omega)) (fun q k b1 b2 _ => rL _ _ _ (by omega)), a8.fr hv0 (fun q k b1 b2 => eM q k (by omega)) (fun q k b1 b2 _ => rL _ _ _ (by omega)), fun q k b1 b2 b3 => ?_, fun q k b2 b3 => ?_, a13⟩
        · by_cases e : b + 28 ≤ q ∧ q < b + 452
          · rw [i1 q k e.1 e.2, eM _ _ (by omega)]; exact a9 q k (Or.inl (by omega)) (by omega) b2 b3
          · exact (i3 q k (by omega)).symm
        · by_cases e : q = m + 4
          · subst e; rw [q_row_s, q_row_s]
          · rw [rL _ _ _ e, rL _ _ _ e]; exact a10 q k b2 b3
      have eN : u2 (q_row N (m + 4) (g_zap t')) o 0 (q_w32 (t' 0)) = q_row (u2 N o 0 (q_w32 (t' 0))) (m + 4) (g_zap t') := by
        funext q k
        by_cases e : q = o
        · subst e
          rw [q_row_n _ _ (by omega)]
          by_cases e0 : k = 0
          · subst e0; rw [u2_s, u2_s]
          · rw [u2_k _ _ e0, u2_k _ _ e0, q_row_n _ _ (by omega)]
        · rw [u2_a _ _ e]
          by_cases e4 : q = m + 4
          · subst e4; rw [q_row_s, q_row_s]
          · rw [q_row_n _ _ e4, q_row_n _ _ e4, u2_a _ _ e]
      have eI : u2 (u2 (u2 I' m 13 (bk : Int)) m 0 0) m 13 (g_nb bk : Int) = I' := by
        funext q k
        by_cases e : q = m
        · subst e
          by_cases e0 : k = 13
          · subst e0; rw [u2_s]; exact c5.symm
          · rw [u2_k _ _ e0]
            by_cases e2 : k = 0
            · subst e2; rw [u2_s]; exact c2.symm
            · rw [u2_k _ _ e2, u2_k _ _ e0]
        · rw [u2_a _ _ e, u2_a _ _ e, u2_a _ _ e]
      have ge := hAF.ge (z := q_w32 (t' 0)) (L1 := L') (L2 := q_row L' (m + 3) (g_zap t')) hC0 hM0 ⟨hbk, Nat.zero_le _, hP.br, hP.ro⟩ hmb hmo hro (by rw [eN]; exact hRm) (fun q k h1 h2 => q_row_n _ _ h1 k) (q_row_s' _ _ _)
      rw [eI] at ge
      exact kR _ _ _ ge c2 (fun _ => by rw [q_row_n _ _ (by omega), hRm.1 _ _ (Or.inr (by omega)), q_row_n _ _ (by omega), u2_s])
    · rw [em, he'] at he2; cases he2
