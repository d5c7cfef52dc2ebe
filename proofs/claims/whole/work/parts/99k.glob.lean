/-! class and reference side by side -/
def q_RO (r : Nat → Int) : Prop := g_VR r ∧ g_RW r ∧ g_Zr r ∧ g_SL r
def q_chg (L : q_I) (b : Nat) : Prop := ∀ i, i < 12 → -100000000 ≤ L (b + 27) i ∧ L (b + 27) i ≤ 100000000
def q_GC (T : q_T) (b : Nat) (V : Nat → Nat) (bk : Nat) (tp : Nat) (B : Nat → Int) (R : Nat → Nat → Int) (f : Int) (c : Nat → Int) (I : q_I) (L : q_I) (P : q_P) : Prop := (q_ST T P b) ∧ (q_PV P b V) ∧ (q_OV b V) ∧ (I b 6 = (bk : Int)) ∧ (∀ j : Nat, j ≤ bk → q_WR I L (V j) (R j) (R j 2)) ∧ (I b 4 = (tp : Int)) ∧ (∀ k : Nat, k < 600 → I (b + 2) k = B k) ∧ (I b 5 = f) ∧ (∀ i : Nat, i < 3 → I b (7 + i) = c i) ∧ (q_chg L b)
theorem q_GC.st {T : q_T} {b : Nat} {V : Nat → Nat} {bk : Nat} {tp : Nat} {B : Nat → Int} {R : Nat → Nat → Int} {f : Int} {c : Nat → Int} {I : q_I} {L : q_I} {P : q_P} (h : q_GC T b V bk tp B R f c I L P) : q_ST T P b := h.1
theorem q_GC.pv {T : q_T} {b : Nat} {V : Nat → Nat} {bk : Nat} {tp : Nat} {B : Nat → Int} {R : Nat → Nat → Int} {f : Int} {c : Nat → Int} {I : q_I} {L : q_I} {P : q_P} (h : q_GC T b V bk tp B R f c I L P) : q_PV P b V := h.2.1
theorem q_GC.ov {T : q_T} {b : Nat} {V : Nat → Nat} {bk : Nat} {tp : Nat} {B : Nat → Int} {R : Nat → Nat → Int} {f : Int} {c : Nat → Int} {I : q_I} {L : q_I} {P : q_P} (h : q_GC T b V bk tp B R f c I L P) : q_OV b V := h.2.2.1
theorem q_GC.b8 {T : q_T} {b : Nat} {V : Nat → Nat} {bk : Nat} {tp : Nat} {B : Nat → Int} {R : Nat → Nat → Int} {f : Int} {c : Nat → Int} {I : q_I} {L : q_I} {P : q_P} (h : q_GC T b V bk tp B R f c I L P) : I b 6 = (bk : Int) := h.2.2.2.1
theorem q_GC.wr {T : q_T} {b : Nat} {V : Nat → Nat} {bk : Nat} {tp : Nat} {B : Nat → Int} {R : Nat → Nat → Int} {f : Int} {c : Nat → Int} {I : q_I} {L : q_I} {P : q_P} (h : q_GC T b V bk tp B R f c I L P) : ∀ j : Nat, j ≤ bk → q_WR I L (V j) (R j) (R j 2) := h.2.2.2.2.1
theorem q_GC.b6 {T : q_T} {b : Nat} {V : Nat → Nat} {bk : Nat} {tp : Nat} {B : Nat → Int} {R : Nat → Nat → Int} {f : Int} {c : Nat → Int} {I : q_I} {L : q_I} {P : q_P} (h : q_GC T b V bk tp B R f c I L P) : I b 4 = (tp : Int) := h.2.2.2.2.2.1
theorem q_GC.by9 {T : q_T} {b : Nat} {V : Nat → Nat} {bk : Nat} {tp : Nat} {B : Nat → Int} {R : Nat → Nat → Int} {f : Int} {c : Nat → Int} {I : q_I} {L : q_I} {P : q_P} (h : q_GC T b V bk tp B R f c I L P) : ∀ k : Nat, k < 600 → I (b + 2) k = B k := h.2.2.2.2.2.2.1
theorem q_GC.b7 {T : q_T} {b : Nat} {V : Nat → Nat} {bk : Nat} {tp : Nat} {B : Nat → Int} {R : Nat → Nat → Int} {f : Int} {c : Nat → Int} {I : q_I} {L : q_I} {P : q_P} (h : q_GC T b V bk tp B R f c I L P) : I b 5 = f := h.2.2.2.2.2.2.2.1
theorem q_GC.cn {T : q_T} {b : Nat} {V : Nat → Nat} {bk : Nat} {tp : Nat} {B : Nat → Int} {R : Nat → Nat → Int} {f : Int} {c : Nat → Int} {I : q_I} {L : q_I} {P : q_P} (h : q_GC T b V bk tp B R f c I L P) : ∀ i : Nat, i < 3 → I b (7 + i) = c i := h.2.2.2.2.2.2.2.2.1
theorem q_GC.ch {T : q_T} {b : Nat} {V : Nat → Nat} {bk : Nat} {tp : Nat} {B : Nat → Int} {R : Nat → Nat → Int} {f : Int} {c : Nat → Int} {I : q_I} {L : q_I} {P : q_P} (h : q_GC T b V bk tp B R f c I L P) : q_chg L b := h.2.2.2.2.2.2.2.2.2
def q_GM (T : q_T) (m : Nat) (bk : Nat) (tp : Nat) (B : Nat → Int) (R : Nat → Nat → Int) (f : Int) (c : Nat → Int) (I : q_I) (L : q_I) (P : q_P) : Prop := (q_SM T P m) ∧ (I m 13 = (bk : Int)) ∧ (L (m + 3) = R 0) ∧ (∀ j : Nat, j < bk → L (m + 7 + j) = R (1 + j)) ∧ (q_Z0 L m) ∧ (I m 2 = (tp : Int)) ∧ (∀ k : Nat, k < tp → I (m + 2) k = B k) ∧ (I m 5 = f) ∧ (∀ i : Nat, i < 3 → I (m + 1) i = c i)
theorem q_GM.sm {T : q_T} {m : Nat} {bk : Nat} {tp : Nat} {B : Nat → Int} {R : Nat → Nat → Int} {f : Int} {c : Nat → Int} {I : q_I} {L : q_I} {P : q_P} (h : q_GM T m bk tp B R f c I L P) : q_SM T P m := h.1
theorem q_GM.m13 {T : q_T} {m : Nat} {bk : Nat} {tp : Nat} {B : Nat → Int} {R : Nat → Nat → Int} {f : Int} {c : Nat → Int} {I : q_I} {L : q_I} {P : q_P} (h : q_GM T m bk tp B R f c I L P) : I m 13 = (bk : Int) := h.2.1
theorem q_GM.l3 {T : q_T} {m : Nat} {bk : Nat} {tp : Nat} {B : Nat → Int} {R : Nat → Nat → Int} {f : Int} {c : Nat → Int} {I : q_I} {L : q_I} {P : q_P} (h : q_GM T m bk tp B R f c I L P) : L (m + 3) = R 0 := h.2.2.1
theorem q_GM.lp {T : q_T} {m : Nat} {bk : Nat} {tp : Nat} {B : Nat → Int} {R : Nat → Nat → Int} {f : Int} {c : Nat → Int} {I : q_I} {L : q_I} {P : q_P} (h : q_GM T m bk tp B R f c I L P) : ∀ j : Nat, j < bk → L (m + 7 + j) = R (1 + j) := h.2.2.2.1
theorem q_GM.z0 {T : q_T} {m : Nat} {bk : Nat} {tp : Nat} {B : Nat → Int} {R : Nat → Nat → Int} {f : Int} {c : Nat → Int} {I : q_I} {L : q_I} {P : q_P} (h : q_GM T m bk tp B R f c I L P) : q_Z0 L m := h.2.2.2.2.1
theorem q_GM.m2 {T : q_T} {m : Nat} {bk : Nat} {tp : Nat} {B : Nat → Int} {R : Nat → Nat → Int} {f : Int} {c : Nat → Int} {I : q_I} {L : q_I} {P : q_P} (h : q_GM T m bk tp B R f c I L P) : I m 2 = (tp : Int) := h.2.2.2.2.2.1
theorem q_GM.by9 {T : q_T} {m : Nat} {bk : Nat} {tp : Nat} {B : Nat → Int} {R : Nat → Nat → Int} {f : Int} {c : Nat → Int} {I : q_I} {L : q_I} {P : q_P} (h : q_GM T m bk tp B R f c I L P) : ∀ k : Nat, k < tp → I (m + 2) k = B k := h.2.2.2.2.2.2.1
theorem q_GM.m5 {T : q_T} {m : Nat} {bk : Nat} {tp : Nat} {B : Nat → Int} {R : Nat → Nat → Int} {f : Int} {c : Nat → Int} {I : q_I} {L : q_I} {P : q_P} (h : q_GM T m bk tp B R f c I L P) : I m 5 = f := h.2.2.2.2.2.2.2.1
theorem q_GM.cn {T : q_T} {m : Nat} {bk : Nat} {tp : Nat} {B : Nat → Int} {R : Nat → Nat → Int} {f : Int} {c : Nat → Int} {I : q_I} {L : q_I} {P : q_P} (h : q_GM T m bk tp B R f c I L P) : ∀ i : Nat, i < 3 → I (m + 1) i = c i := h.2.2.2.2.2.2.2.2
def q_GP (bk : Nat) (tp : Nat) (B : Nat → Int) (R : Nat → Nat → Int) : Prop := (bk ≤ 8) ∧ (tp ≤ 600) ∧ (∀ k : Nat, 0 ≤ B k ∧ B k ≤ 255) ∧ (∀ j : Nat, j ≤ bk → q_RO (R j))
theorem q_GP.bk {bk : Nat} {tp : Nat} {B : Nat → Int} {R : Nat → Nat → Int} (h : q_GP bk tp B R) : bk ≤ 8 := h.1
theorem q_GP.tp {bk : Nat} {tp : Nat} {B : Nat → Int} {R : Nat → Nat → Int} (h : q_GP bk tp B R) : tp ≤ 600 := h.2.1
theorem q_GP.br {bk : Nat} {tp : Nat} {B : Nat → Int} {R : Nat → Nat → Int} (h : q_GP bk tp B R) : ∀ k : Nat, 0 ≤ B k ∧ B k ≤ 255 := h.2.2.1
theorem q_GP.ro {bk : Nat} {tp : Nat} {B : Nat → Int} {R : Nat → Nat → Int} (h : q_GP bk tp B R) : ∀ j : Nat, j ≤ bk → q_RO (R j) := h.2.2.2
def q_GE (T : q_T) (b m : Nat) (I L : q_I) (P : q_P) : Prop := ∃ (V : Nat → Nat) (bk tp : Nat) (B : Nat → Int) (R : Nat → Nat → Int) (f : Int) (c : Nat → Int), q_GC T b V bk tp B R f c I L P ∧ q_GM T m bk tp B R f c I L P ∧ q_GP bk tp B R
/-- the rows behind an act -/
def g_Rn (R : Nat → Nat → Int) (bk : Nat) (r' : Nat → Int) : Nat → Nat → Int := fun j => if j = 0 then r' else if j = g_nb bk then R 0 else if bk = 8 then R (1 + j) else R j
theorem q_SM.mv {T : q_T} {P P' : q_P} {m : Nat} (h : q_SM T P m) (hP : ∀ q k, m ≤ q → P' q k = P q k) : q_SM T P' m := by
  obtain ⟨a0, a1, a2, a3, a4, a5, a6, a7, a8, a9, a10, a11, a12, a13, a14, a15, a16, a17, a18, a19, a20⟩ := h
  exact ⟨a0, (hP _ _ (by omega)).trans a1, a2, (hP _ _ (by omega)).trans a3, a4, (hP _ _ (by omega)).trans a5, a6, (hP _ _ (by omega)).trans a7, a8, (hP _ _ (by omega)).trans a9, a10, (hP _ _ (by omega)).trans a11, a12, (hP _ _ (by omega)).trans a13, a14, (hP _ _ (by omega)).trans a15, a16, (hP _ _ (by omega)).trans a17, a18, fun j hj => (hP _ _ (by omega)).trans (a19 j hj), a20⟩
section
variable {T : q_T} {b m o bk tp : Nat} {V : Nat → Nat} {B : Nat → Int} {R : Nat → Nat → Int} {f : Int} {c : Nat → Int} {I L I' L' : q_I} {P P' : q_P}
theorem q_GC.fr (h : q_GC T b V bk tp B R f c I L P) (hP : q_GP bk tp B R) (hI : ∀ q k, b ≤ q → q < b + 452 → I' q k = I q k) (hL : ∀ q k, b ≤ q → q < b + 452 → L' q k = L q k) : q_GC T b V bk tp B R f c I' L' P := by
  have hbk := hP.bk
  refine ⟨h.st, h.pv, h.ov, (hI _ _ (by omega) (by omega)).trans h.b8, fun j hj => ?_, (hI _ _ (by omega) (by omega)).trans h.b6, fun k hk => (hI _ _ (by omega) (by omega)).trans (h.by9 k hk), (hI _ _ (by omega) (by omega)).trans h.b7, fun i hi => (hI _ _ (by omega) (by omega)).trans (h.cn i hi), fun i hi => by rw [hL _ _ (by omega) (by omega)]; exact h.ch i hi⟩
  have hr := h.ov.r (i := j) (by omega)
  exact (h.wr j hj).fr (hP.ro j hj).1.1 (fun q k h1 h2 => hI q k (by omega) (by omega)) (fun q k h1 h2 _ => hL q k (by omega) (by omega))
theorem q_GM.fr (h : q_GM T m bk tp B R f c I L P) (hbk : bk ≤ 8) (hI : ∀ q k, m ≤ q → q < m + 18 → I' q k = I q k) (hL : ∀ q k, m ≤ q → q < m + 18 → L' q k = L q k) (hP : ∀ q k, m ≤ q → P' q k = P q k) : q_GM T m bk tp B R f c I' L' P' := by
  refine ⟨h.sm.mv hP, (hI _ _ (by omega) (by omega)).trans h.m13, ?_, fun j hj => ?_, fun q k h1 h2 h3 => ?_, (hI _ _ (by omega) (by omega)).trans h.m2, fun k hk => (hI _ _ (by omega) (by omega)).trans (h.by9 k hk), (hI _ _ (by omega) (by omega)).trans h.m5, fun i hi => (hI _ _ (by omega) (by omega)).trans (h.cn i hi)⟩
  · rw [← h.l3]; funext k; exact hL _ _ (by omega) (by omega)
  · rw [← h.lp j hj]; funext k; exact hL _ _ (by omega) (by omega)
  · rw [hL _ _ (by omega) (by omega)]; exact h.z0 q k h1 h2 h3
/-- a call refused by both -/
theorem q_GE.rf (hC : q_GC T b V bk tp B R f c I L P) (hM : q_GM T m bk tp B R f c I L P) (hP : q_GP bk tp B R) (hmb : b + 452 ≤ m) (i : Nat) (hi : i < 3) (cd : Int) : q_GE T b m (u2 (u2 (u2 (u2 I b (7 + i) ((I b (7 + i)) + 1)) m 0 0) m 0 cd) (m + 1) i (((u2 I b (7 + i) ((I b (7 + i)) + 1)) (m + 1) i) + 1)) L P := by
  have hbk := hP.bk
  have e1 : ∀ q k, q ≠ m → q ≠ m + 1 → (q ≠ b ∨ k ≠ 7 + i) → (u2 (u2 (u2 (u2 I b (7 + i) ((I b (7 + i)) + 1)) m 0 0) m 0 cd) (m + 1) i (((u2 I b (7 + i) ((I b (7 + i)) + 1)) (m + 1) i) + 1)) q k = I q k := fun q k h1 h2 h3 => by
    rw [u2_a _ _ h2, u2_a _ _ h1, u2_a _ _ h1]; exact if_neg (fun x => h3.elim (fun y => y x.1) (fun y => y x.2))
  have e2 : ∀ k, k ≠ 0 → (u2 (u2 (u2 (u2 I b (7 + i) ((I b (7 + i)) + 1)) m 0 0) m 0 cd) (m + 1) i (((u2 I b (7 + i) ((I b (7 + i)) + 1)) (m + 1) i) + 1)) m k = I m k := fun k h => by
    rw [u2_a _ _ (by omega), u2_k _ _ h, u2_k _ _ h, u2_a _ _ (by omega)]
  refine ⟨V, bk, tp, B, R, f, fun k => if k = i then c i + 1 else c k, ⟨hC.st, hC.pv, hC.ov, (e1 _ _ (by omega) (by omega) (by omega)).trans hC.b8, fun j hj => ?_, (e1 _ _ (by omega) (by omega) (by omega)).trans hC.b6, fun k hk => (e1 _ _ (by omega) (by omega) (by omega)).trans (hC.by9 k hk), (e1 _ _ (by omega) (by omega) (by omega)).trans hC.b7, fun k hk => ?_, hC.ch⟩,
    ⟨hM.sm, (e2 _ (by decide)).trans hM.m13, hM.l3, hM.lp, hM.z0, (e2 _ (by decide)).trans hM.m2, fun k hk => (e1 _ _ (by omega) (by omega) (by omega)).trans (hM.by9 k hk), (e2 _ (by decide)).trans hM.m5, fun k hk => ?_⟩, hP⟩
  · have hr := hC.ov.r (i := j) (by omega)
    exact (hC.wr j hj).fr (hP.ro j hj).1.1 (fun q k h1 h2 => e1 q k (by omega) (by omega) (by omega)) (fun _ _ _ _ _ => rfl)
  · dsimp only
    by_cases e : k = i
    · subst e
      rw [if_pos rfl, u2_a _ _ (by omega), u2_a _ _ (by omega), u2_a _ _ (by omega), u2_s, hC.cn k hk]
    · rw [if_neg e, e1 _ _ (by omega) (by omega) (by omega)]; exact hC.cn k hk
  · dsimp only
    by_cases e : k = i
    · subst e
      rw [if_pos rfl, u2_s, u2_a _ _ (by omega), hM.cn k hk]
    · rw [if_neg e, u2_k _ _ e, u2_a _ _ (by omega), u2_a _ _ (by omega), u2_a _ _ (by omega)]; exact hM.cn k hk
theorem q_GM.rf (hM : q_GM T m bk tp B R f c I L P) (hbk : bk ≤ 8) (hmb : b + 452 ≤ m) {k : Nat} {v : Int} : q_GM T m bk tp B R f c (u2 I b k v) L P :=
  hM.fr hbk (fun q k h1 h2 => u2_a _ _ (by omega)) (fun _ _ _ _ => rfl) (fun _ _ _ => rfl)
/-- an act of the class: the reference's part stands as it was -/
theorem q_AF.gm {M N : q_I} {P9 : q_P} {V9 : Nat → Nat} {r' : Nat → Int} {z : Int} (hA : q_AF T b V bk I L P (R 0) r' M N P9 V9) (hM : q_GM T m bk tp B R f c I L P) (hbk : bk ≤ 8) (hmb : b + 452 ≤ m) (ho : m + 18 ≤ o) : q_GM T m bk tp B R f c M (u2 N o 0 z) P9 := by
  obtain ⟨a1, a2, a3, a4, a5, a6, a7, a8, a9, a10, a11⟩ := hA
  have hr0 := a3.r (i := 0) (by omega)
  have hnb : g_nb bk ≤ 8 := (g_nb_r hbk).2
  have hr1 := a3.r (i := g_nb bk) (by omega)
  exact hM.fr hbk (fun q k h1 h2 => a9 q k (Or.inl (by omega)) (by omega) (by omega)) (fun q k h1 h2 => (u2_a _ _ (by omega)).trans (a10 q k (by omega) (by omega))) (fun q k h => a11 q k (by omega))
theorem q_AF.ge {M N L1 L2 : q_I} {P9 : q_P} {V9 : Nat → Nat} {r' : Nat → Int} {z : Int} (hA : q_AF T b V bk I L P (R 0) r' M N P9 V9) (hC : q_GC T b V bk tp B R f c I L P) (hM : q_GM T m bk tp B R f c I L P) (hP : q_GP bk tp B R) (hmb : b + 452 ≤ m) (ho : m + 18 ≤ o) (hro : q_RO r') (hRm : g_Rm (u2 N o 0 z) L1 m bk) (h2 : ∀ q k, q ≠ m + 3 → q ≠ m + 15 → L2 q k = L1 q k) (h3 : L2 (m + 3) = r') : q_GE T b m (u2 (u2 M m 0 0) m 13 (g_nb bk : Int)) L2 P9 := by
  have hM1 := hA.gm (z := z) hM hP.bk hmb ho
  obtain ⟨a1, a2, a3, a4, a5, a6, a7, a8, a9, a10, a11⟩ := hA
  obtain ⟨b1, b2, b3⟩ := hRm
  have hbk := hP.bk
  have hnb := g_nb_r hbk
  have hr0 := a3.r (i := 0) (by omega)
  have hr1 := a3.r (i := g_nb bk) (by omega)
  have hd : ∀ j : Nat, j + 1 < g_nb bk → bk = 8 ∧ V9 (1 + j) = V (2 + j) ∧ 1 + j < bk ∨ bk ≠ 8 ∧ V9 (1 + j) = V (1 + j) ∧ j < bk := fun j hj => by
    have q := a5 j hj
    by_cases e : bk = 8
    · rw [if_pos e] at q
      have : g_nb bk = 8 := by unfold g_nb; rw [if_pos e]
      exact Or.inl ⟨e, q, by omega⟩
    · rw [if_neg e] at q
      have : g_nb bk = bk + 1 := by unfold g_nb; rw [if_neg e]
      exact Or.inr ⟨e, q, by omega⟩
  have eI : ∀ q k, q ≠ m → (u2 (u2 M m 0 0) m 13 (g_nb bk : Int)) q k = M q k := fun q k h => by rw [u2_a _ _ h, u2_a _ _ h]
  have eL : ∀ q k, q < m → L2 q k = N q k := fun q k h => by rw [h2 _ _ (by omega) (by omega), b1 _ _ (Or.inl (by omega)), u2_a _ _ (by omega)]
  have eT : g_nb bk = bk + 1 ∨ bk = 8 ∧ g_nb bk = 8 := by unfold g_nb; split <;> omega
  refine ⟨V9, g_nb bk, tp, B, g_Rn R bk r', f, c, ⟨a1, a2, a3, (eI _ _ (by omega)).trans a6, fun j hj => ?_, (eI _ _ (by omega)).trans ((a9 _ _ (Or.inr (by decide)) (by omega) (by omega)).trans hC.b6), fun k hk => (eI _ _ (by omega)).trans ((a9 _ _ (Or.inl (by omega)) (by omega) (by omega)).trans (hC.by9 k hk)), (eI _ _ (by omega)).trans ((a9 _ _ (Or.inr (by decide)) (by omega) (by omega)).trans hC.b7), fun i hi => (eI _ _ (by omega)).trans ((a9 _ _ (Or.inr (by omega)) (by omega) (by omega)).trans (hC.cn i hi)), fun i hi => ?_⟩,
    ⟨hM1.sm, u2_s _ _ _ _, ?_, fun j hj => ?_, fun q k q1 q2 q3 => ?_, ?_, fun k hk => (eI _ _ (by omega)).trans (hM1.by9 k hk), ?_, fun i hi => (eI _ _ (by omega)).trans (hM1.cn i hi)⟩, ⟨hnb.2, hP.tp, hP.br, fun j hj => ?_⟩⟩
  · have hrj := a3.r (i := j) (by omega)
    unfold g_Rn
    by_cases e0 : j = 0
    · subst e0
      rw [if_pos rfl]
      exact a7.fr hro.1.1 (fun q k h1 h2 => eI q k (by omega)) (fun q k h1 h2 _ => eL q k (by omega))
    · rw [if_neg e0]
      by_cases e1 : j = g_nb bk
      · subst e1
        rw [if_pos rfl]
        exact a8.fr (hP.ro 0 (by omega)).1.1 (fun q k h1 h2 => eI q k (by omega)) (fun q k h1 h2 _ => eL q k (by omega))
      · rw [if_neg e1]
        have q := hd (j - 1) (by omega)
        rw [show 1 + (j - 1) = j by omega, show 2 + (j - 1) = 1 + j by omega] at q
        have hdd0 := a3.d (i := j) (j := 0) (by omega) (by omega) (by omega)
        have hdd1 := a3.d (i := j) (j := g_nb bk) (by omega) (by omega) (by omega)
        rcases q with ⟨x1, x2, x3⟩ | ⟨x1, x2, x3⟩
        · rw [if_pos x1, x2]
          rw [x2] at hrj hdd0 hdd1
          exact (hC.wr (1 + j) (by omega)).fr (hP.ro (1 + j) (by omega)).1.1 (fun q k h1 h2 => (eI q k (by omega)).trans (a9 q k (Or.inl (by omega)) (by omega) (by omega))) (fun q k h1 h2 _ => (eL q k (by omega)).trans (a10 q k (by omega) (by omega)))
        · rw [if_neg x1, x2]
          rw [x2] at hrj hdd0 hdd1
          exact (hC.wr j (by omega)).fr (hP.ro j (by omega)).1.1 (fun q k h1 h2 => (eI q k (by omega)).trans (a9 q k (Or.inl (by omega)) (by omega) (by omega))) (fun q k h1 h2 _ => (eL q k (by omega)).trans (a10 q k (by omega) (by omega)))
  · rw [eL _ _ (by omega), a10 _ _ (by omega) (by omega)]; exact hC.ch i hi
  · rw [h3]; exact (if_pos rfl).symm
  · have q := b2 j hj
    have e : L2 (m + 7 + j) = L1 (m + 7 + j) := by funext k; exact h2 _ _ (by omega) (by omega)
    rw [e, q]
    unfold g_Rn
    rw [if_neg (show ¬ 1 + j = 0 by omega)]
    by_cases e1 : j + 1 = g_nb bk
    · rw [if_pos e1, if_pos (show 1 + j = g_nb bk by omega)]; exact hM1.l3
    · rw [if_neg e1, if_neg (show ¬ 1 + j = g_nb bk by omega)]
      rcases hd j (by omega) with ⟨x1, x2, x3⟩ | ⟨x1, x2, x3⟩
      · rw [if_pos x1, if_pos x1, show m + 8 + j = m + 7 + (1 + j) by omega]; exact hM1.lp (1 + j) x3
      · rw [if_neg x1, if_neg x1]; exact hM1.lp j x3
  · by_cases e : q = m + 3
    · subst e; rw [h3]; exact hro.2.2.1 k q3
    · rw [h2 _ _ e (by omega)]; exact b3 q k q1 q2 q3
  · rw [u2_k _ _ (by decide), u2_k _ _ (by decide)]; exact hM1.m2
  · rw [u2_k _ _ (by decide), u2_k _ _ (by decide)]; exact hM1.m5
  · unfold g_Rn
    by_cases e0 : j = 0
    · rw [if_pos e0]; exact hro
    · rw [if_neg e0]
      by_cases e1 : j = g_nb bk
      · rw [if_pos e1]; exact hP.ro 0 (by omega)
      · rw [if_neg e1]
        by_cases e8 : bk = 8
        · rw [if_pos e8]; exact hP.ro (1 + j) (by omega)
        · rw [if_neg e8]; exact hP.ro j (by omega)
/-- what is asked: nothing that counts is changed -/
def q_AK (b w : Nat) (I L M N : q_I) : Prop := (∀ q k, q ≠ b + 26 → ¬ (q = b + 25 ∧ k = 2) → M q k = I q k) ∧ (∀ q k, q ≠ b + 26 → q ≠ w + 8 → q ≠ b + 27 → ¬ (q = b + 25 ∧ k = 3) → N q k = L q k) ∧ q_chg N b
theorem q_AK.rf (hC : q_GC T b V bk tp B R f c I L P) {w : Nat} : q_AK b w I L I L := ⟨fun _ _ _ _ => rfl, fun _ _ _ _ _ _ => rfl, hC.ch⟩
theorem q_AK.gm {w : Nat} {M N : q_I} {z : Int} (hK : q_AK b w I L M N) (hw : w + 47 ≤ b + 452) (hM : q_GM T m bk tp B R f c I L P) (hbk : bk ≤ 8) (hmb : b + 452 ≤ m) (ho : m + 18 ≤ o) : q_GM T m bk tp B R f c M (u2 N o 0 z) P :=
  hM.fr hbk (fun q k h1 h2 => hK.1 q k (by omega) (by omega)) (fun q k h1 h2 => (u2_a _ _ (by omega)).trans (hK.2.1 q k (by omega) (by omega) (by omega) (by omega))) (fun _ _ _ => rfl)
theorem q_AK.ge {M N L2 : q_I} {z : Int} (hK : q_AK b (V 0) I L M N) (hC : q_GC T b V bk tp B R f c I L P) (hM : q_GM T m bk tp B R f c I L P) (hP : q_GP bk tp B R) (hmb : b + 452 ≤ m) (ho : m + 18 ≤ o) (h2 : ∀ q k, q ≠ m + 5 → q ≠ m + 15 → q ≠ m + 16 → q ≠ m + 17 → L2 q k = (u2 N o 0 z) q k) (hz : q_Z0 L2 m) : q_GE T b m (u2 M m 0 0) L2 P := by
  have hbk := hP.bk
  have hr0 := hC.ov.r (i := 0) (by omega)
  have hM1 := hK.gm (z := z) (by omega) hM hbk hmb ho
  obtain ⟨a1, a2, a3⟩ := hK
  have eI : ∀ q k, q < m → q ≠ b + 26 → q ≠ b + 25 → (u2 M m 0 0) q k = I q k := fun q k h h1 h3 => by rw [u2_a _ _ (by omega)]; exact a1 q k h1 (by omega)
  have eN : ∀ q k, q < m → L2 q k = N q k := fun q k h => by rw [h2 _ _ (by omega) (by omega) (by omega) (by omega), u2_a _ _ (by omega)]
  have eL : ∀ q k, q < m → q ≠ b + 26 → q ≠ b + 25 → q ≠ b + 27 → q ≠ V 0 + 8 → L2 q k = L q k := fun q k h h1 h3 h4 h5 => by rw [eN q k h]; exact a2 q k h1 h5 h4 (by omega)
  refine ⟨V, bk, tp, B, R, f, c, ⟨hC.st, hC.pv, hC.ov, (eI _ _ (by omega) (by omega) (by omega)).trans hC.b8, fun j hj => ?_, (eI _ _ (by omega) (by omega) (by omega)).trans hC.b6, fun k hk => (eI _ _ (by omega) (by omega) (by omega)).trans (hC.by9 k hk), (eI _ _ (by omega) (by omega) (by omega)).trans hC.b7, fun i hi => (eI _ _ (by omega) (by omega) (by omega)).trans (hC.cn i hi), fun i hi => ?_⟩,
    ⟨hM1.sm, (u2_k _ _ (by decide)).trans hM1.m13, ?_, fun j hj => ?_, hz, (u2_k _ _ (by decide)).trans hM1.m2, fun k hk => (u2_a _ _ (by omega)).trans (hM1.by9 k hk), (u2_k _ _ (by decide)).trans hM1.m5, fun i hi => (u2_a _ _ (by omega)).trans (hM1.cn i hi)⟩, hP⟩
  · have hr := hC.ov.r (i := j) (by omega)
    by_cases e : j = 0
    · subst e
      exact (hC.wr 0 hj).fr (hP.ro 0 hj).1.1 (fun q k h1 h2 => eI q k (by omega) (by omega) (by omega)) (fun q k h1 h2 h3 => eL q k (by omega) (by omega) (by omega) (by omega) h3)
    · have hd := hC.ov.d (i := j) (j := 0) (by omega) (by omega) e
      exact (hC.wr j hj).fr (hP.ro j hj).1.1 (fun q k h1 h2 => eI q k (by omega) (by omega) (by omega)) (fun q k h1 h2 h3 => eL q k (by omega) (by omega) (by omega) (by omega) (by omega))
  · rw [eN _ _ (by omega)]; exact a3 i hi
  · rw [← hM1.l3]; funext k; exact h2 _ _ (by omega) (by omega) (by omega) (by omega)
  · rw [← hM1.lp j hj]; funext k; exact h2 _ _ (by omega) (by omega) (by omega) (by omega)
end
