/-! the class by itself -/
def q_RO (r : Nat → Int) : Prop := g_VR r ∧ g_RW r ∧ g_Zr r ∧ g_SL r
def q_chg (L : q_I) (b : Nat) : Prop := ∀ i, i < 12 → -100000000 ≤ L (b + 27) i ∧ L (b + 27) i ≤ 100000000
def q_GC (T : q_T) (b : Nat) (V : Nat → Nat) (bk : Nat) (tp : Nat) (B : Nat → Int) (R : Nat → Nat → Int) (f : Int) (c : Nat → Int) (I : q_I) (L : q_I) (P : q_P) : Prop := (q_ST T P b) ∧ (q_PV P b V) ∧ (q_OV b V) ∧ (I b 6 = (bk : Int)) ∧ (∀ j : Nat, j ≤ bk → q_WR I L (V j) (R j) (R j 2)) ∧ (I b 4 = (tp : Int)) ∧ (∀ k : Nat, k < 600 → I (b + 2) k = B k) ∧ (I b 5 = f) ∧ (∀ i : Nat, i < 3 → I b (7 + i) = c i) ∧ (q_chg L b)
theorem q_GC.st {T : q_T} {b : Nat} {V : Nat → Nat} {bk : Nat} {tp : Nat} {B : Nat → Int} {R : Nat → Nat → Int} {f : Int} {c : Nat → Int} {I : q_I} {L : q_I} {P : q_P} (h : q_GC T b V bk tp B R f c I L P) : q_ST T P b := h.1
theorem q_GC.pv {T : q_T} {b : Nat} {V : Nat → Nat} {bk : Nat} {tp : Nat} {B : Nat → Int} {R : Nat → Nat → Int} {f : Int} {c : Nat → Int} {I : q_I} {L : q_I} {P : q_P} (h : q_GC T b V bk tp B R f c I L P) : q_PV P b V := h.2.1
theorem q_GC.ov {T : q_T} {b : Nat} {V : Nat → Nat} {bk : Nat} {tp : Nat} {B : Nat → Int} {R : Nat → Nat → Int} {f : Int} {c : Nat → Int} {I : q_I} {L : q_I} {P : q_P} (h : q_GC T b V bk tp B R f c I L P) : q_OV b V := h.2.2.1
theorem q_GC.b8 {T : q_T} {b : Nat} {V : Nat → Nat} {bk : Nat} {tp : Nat} {B : Nat → Int} {R : Nat → Nat → Int} {f : Int} {c : Nat → Int} {I : q_I} {L : q_I} {P : q_P} (h : q_GC T b V bk tp B R f c I L P) : I b 6 = (bk : Int) := h.2.2.2.1
theorem q_GC.wr {T : q_T} {b : Nat} {V : Nat → Nat} {bk : Nat} {tp : Nat} {B : Nat → Int} {R : Nat → Nat → Int} {f : Int} {c : Nat → Int} {I : q_I} {L : q_I} {P : q_P} (h : q_GC T b V bk tp B R f c I L P) : ∀ j : Nat, j ≤ bk → q_WR I L (V j) (R j) (R j 2) := h.2.2.2.2.1
theorem q_GC.b6 {T : q_T} {b : Nat} {V : Nat → Nat} {bk : Nat} {tp : Nat} {B : Nat → Int} {R : Nat → Nat → Int} {f : Int} {c : Nat → Int} {I : q_I} {L : q_I} {P : q_P} (h : q_GC T b V bk tp B R f c I L P) : I b 4 = (tp : Int) := h.2.2.2.2.2.1
theorem q_GC.by9 {T : q_T} {b : Nat} {V : Nat → Nat} {bk : Nat} {tp : Nat} {B : Nat → Int} {R : Nat → Nat → Int} {f : Int} {c : Nat → Int} {I : q_I} {L : q_I} {P : q_P} (h : q_GC T b V bk tp B R f c I L P) : ∀ k : Nat, k < 600 → I (b + 2) k = B k := h.2.2.2.2.2.2.1
theorem q_GC.b7 {T : q_T} {b : Nat} {V : Nat → Nat} {bk : Nat} {tp : Nat} {B : Nat → Int} {R : Nat → Nat → Int} {f : Int} {c : Nat → Int} {I : q_I} {L : q_I} {P : q_P} (h : q_GC T b V bk tp B R f c I L P) : I b 5 = f := h.2.2.2.2.2.2.2.1
theorem q_GC.cn {T : q_T} {b : Nat} {V : Nat → Nat} {bk : Nat} {tp : Nat} {B : Nat → Int} {R : Nat → Nat → Int} {f : Int} {c : Nat → Int} {I : q_I} {L : q_I} {P : q_P} (h : q_GC T b V bk tp B R f c I L P) : ∀ i : Nat, i < 3 → I b (7 + i) = c i := h.2.2.2.2.2.2.2.2.1
theorem q_GC.ch {T : q_T} {b : Nat} {V : Nat → Nat} {bk : Nat} {tp : Nat} {B : Nat → Int} {R : Nat → Nat → Int} {f : Int} {c : Nat → Int} {I : q_I} {L : q_I} {P : q_P} (h : q_GC T b V bk tp B R f c I L P) : q_chg L b := h.2.2.2.2.2.2.2.2.2
def q_GP (bk : Nat) (tp : Nat) (B : Nat → Int) (R : Nat → Nat → Int) : Prop := (bk ≤ 8) ∧ (tp ≤ 600) ∧ (∀ k : Nat, 0 ≤ B k ∧ B k ≤ 255) ∧ (∀ j : Nat, j ≤ bk → q_RO (R j))
theorem q_GP.bk {bk : Nat} {tp : Nat} {B : Nat → Int} {R : Nat → Nat → Int} (h : q_GP bk tp B R) : bk ≤ 8 := h.1
theorem q_GP.tp {bk : Nat} {tp : Nat} {B : Nat → Int} {R : Nat → Nat → Int} (h : q_GP bk tp B R) : tp ≤ 600 := h.2.1
theorem q_GP.br {bk : Nat} {tp : Nat} {B : Nat → Int} {R : Nat → Nat → Int} (h : q_GP bk tp B R) : ∀ k : Nat, 0 ≤ B k ∧ B k ≤ 255 := h.2.2.1
theorem q_GP.ro {bk : Nat} {tp : Nat} {B : Nat → Int} {R : Nat → Nat → Int} (h : q_GP bk tp B R) : ∀ j : Nat, j ≤ bk → q_RO (R j) := h.2.2.2
/-- the rows behind an act -/
def g_Rn (R : Nat → Nat → Int) (bk : Nat) (r' : Nat → Int) : Nat → Nat → Int := fun j => if j = 0 then r' else if j = g_nb bk then R 0 else if bk = 8 then R (1 + j) else R j
section
variable {T : q_T} {b bk tp : Nat} {V : Nat → Nat} {B : Nat → Int} {R : Nat → Nat → Int} {f : Int} {c : Nat → Int} {I L I' L' : q_I} {P P' : q_P}
theorem q_GC.fr (h : q_GC T b V bk tp B R f c I L P) (hP : q_GP bk tp B R) (hI : ∀ q k, b ≤ q → q < b + 452 → I' q k = I q k) (hL : ∀ q k, b ≤ q → q < b + 452 → L' q k = L q k) : q_GC T b V bk tp B R f c I' L' P := by
  have hbk := hP.bk
  refine ⟨h.st, h.pv, h.ov, (hI _ _ (by omega) (by omega)).trans h.b8, fun j hj => ?_, (hI _ _ (by omega) (by omega)).trans h.b6, fun k hk => (hI _ _ (by omega) (by omega)).trans (h.by9 k hk), (hI _ _ (by omega) (by omega)).trans h.b7, fun i hi => (hI _ _ (by omega) (by omega)).trans (h.cn i hi), fun i hi => by rw [hL _ _ (by omega) (by omega)]; exact h.ch i hi⟩
  have hr := h.ov.r (i := j) (by omega)
  exact (h.wr j hj).fr (hP.ro j hj).1.1 (fun q k h1 h2 => hI q k (by omega) (by omega)) (fun q k h1 h2 _ => hL q k (by omega) (by omega))
/-- what lies outside of the class's object is as it was -/
def q_Ou (b : Nat) (I L : q_I) (P : q_P) (I' L' : q_I) (P' : q_P) : Prop := (∀ q k, q < b ∨ b + 452 ≤ q → I' q k = I q k) ∧ (∀ q k, q < b ∨ b + 452 ≤ q → L' q k = L q k) ∧ (∀ q k, b + 452 ≤ q → P' q k = P q k)
def q_CE (T : q_T) (b bk tp : Nat) (B : Nat → Int) (R : Nat → Nat → Int) (I L : q_I) (P : q_P) : Prop := ∃ (V : Nat → Nat) (f : Int) (c : Nat → Int), q_GC T b V bk tp B R f c I L P ∧ q_GP bk tp B R
theorem q_Ou.rfl' : q_Ou b I L P I L P := ⟨fun _ _ _ => rfl, fun _ _ _ => rfl, fun _ _ _ => rfl⟩
theorem q_Ou.tr {I2 L2 : q_I} {P2 : q_P} (h : q_Ou b I L P I' L' P') (h2 : q_Ou b I' L' P' I2 L2 P2) : q_Ou b I L P I2 L2 P2 := ⟨fun q k x => (h2.1 q k x).trans (h.1 q k x), fun q k x => (h2.2.1 q k x).trans (h.2.1 q k x), fun q k x => (h2.2.2 q k x).trans (h.2.2 q k x)⟩
theorem q_CE.ro (h : q_CE T b bk tp B R I L P) : ∀ j : Nat, j ≤ bk → q_RO (R j) := by obtain ⟨V, f, c, hC, hP⟩ := h; exact hP.ro
theorem q_CE.bk8 (h : q_CE T b bk tp B R I L P) : bk ≤ 8 := by obtain ⟨V, f, c, hC, hP⟩ := h; exact hP.bk
theorem q_CE.tp6 (h : q_CE T b bk tp B R I L P) : tp ≤ 600 := by obtain ⟨V, f, c, hC, hP⟩ := h; exact hP.tp
theorem q_CE.t0 (h : q_CE T b bk tp B R I L P) : T b = some (.inl 6) := by obtain ⟨V, f, c, hC, hP⟩ := h; exact hC.st.t0
/-- a call refused -/
theorem q_GC.rf (hC : q_GC T b V bk tp B R f c I L P) (hP : q_GP bk tp B R) (i : Nat) (hi : i < 3) (v : Int) : q_CE T b bk tp B R (u2 I b (7 + i) v) L P ∧ q_Ou b I L P (u2 I b (7 + i) v) L P := by
  have hbk := hP.bk
  have e1 : ∀ q k, (q ≠ b ∨ k ≠ 7 + i) → (u2 I b (7 + i) v) q k = I q k := fun q k h3 => if_neg (fun x => h3.elim (fun y => y x.1) (fun y => y x.2))
  refine ⟨⟨V, f, fun k => if k = i then v else c k, ⟨hC.st, hC.pv, hC.ov, (e1 _ _ (by omega)).trans hC.b8, fun j hj => ?_, (e1 _ _ (by omega)).trans hC.b6, fun k hk => (e1 _ _ (by omega)).trans (hC.by9 k hk), (e1 _ _ (by omega)).trans hC.b7, fun k hk => ?_, hC.ch⟩, hP⟩, ⟨fun q k x => e1 _ _ (by omega), fun _ _ _ => rfl, fun _ _ _ => rfl⟩⟩
  · have hr := hC.ov.r (i := j) (by omega)
    exact (hC.wr j hj).fr (hP.ro j hj).1.1 (fun q k h1 h2 => e1 q k (by omega)) (fun _ _ _ _ _ => rfl)
  · dsimp only
    by_cases e : k = i
    · subst e
      rw [if_pos rfl, u2_s]
    · rw [if_neg e, e1 _ _ (by omega)]; exact hC.cn k hk
/-- the rules' stack alone is changed -/
theorem q_GC.sl {N : q_I} (hC : q_GC T b V bk tp B R f c I L P) (hP : q_GP bk tp B R) (hN : ∀ q k, q ≠ V 0 + 8 → N q k = L q k) : q_CE T b bk tp B R I N P ∧ q_Ou b I L P I N P := by
  have hbk := hP.bk
  have hr0 := hC.ov.r (i := 0) (by omega)
  refine ⟨⟨V, f, c, ⟨hC.st, hC.pv, hC.ov, hC.b8, fun j hj => ?_, hC.b6, hC.by9, hC.b7, hC.cn, fun i hi => ?_⟩, hP⟩, ⟨fun _ _ _ => rfl, fun q k x => hN _ _ (by omega), fun _ _ _ => rfl⟩⟩
  · have hr := hC.ov.r (i := j) (by omega)
    by_cases e : j = 0
    · subst e
      exact (hC.wr 0 hj).fr (hP.ro 0 hj).1.1 (fun _ _ _ _ => rfl) (fun q k h1 h2 h3 => hN q k h3)
    · have hd := hC.ov.d (i := j) (j := 0) (by omega) (by omega) e
      exact (hC.wr j hj).fr (hP.ro j hj).1.1 (fun _ _ _ _ => rfl) (fun q k h1 h2 h3 => hN q k (by omega))
  · rw [hN _ _ (by omega)]; exact hC.ch i hi
theorem g_Rn_ro {r' : Nat → Int} (hP : q_GP bk tp B R) (hro : q_RO r') : ∀ j, j ≤ g_nb bk → q_RO (g_Rn R bk r' j) := fun j hj => by
  have hbk := hP.bk
  have eT : (bk ≠ 8 ∧ g_nb bk = bk + 1) ∨ (bk = 8 ∧ g_nb bk = 8) := by unfold g_nb; split <;> omega
  unfold g_Rn
  by_cases e0 : j = 0
  · rw [if_pos e0]; exact hro
  · rw [if_neg e0]
    by_cases e1 : j = g_nb bk
    · rw [if_pos e1]; exact hP.ro 0 (by omega)
    · rw [if_neg e1]
      by_cases e8 : bk = 8
      · rw [if_pos e8]; exact hP.ro (1 + j) (by omega)
      · rw [if_neg e8]; exact hP.ro j (by omega)
/-- behind an act, or a text: the object stands by the new row -/
theorem q_GC.new {M N : q_I} {P9 : q_P} {V9 : Nat → Nat} {r' : Nat → Int} {f' : Int} {tp' : Nat} (hC : q_GC T b V bk tp B R f c I L P) (hP : q_GP bk tp B R) (hro : q_RO r') (htp : tp' ≤ tp)
    (a1 : q_ST T P9 b) (a2 : q_PV P9 b V9) (a3 : q_OV b V9) (a5 : ∀ j : Nat, j + 1 < g_nb bk → V9 (1 + j) = if bk = 8 then V (2 + j) else V (1 + j)) (a6 : M b 6 = (g_nb bk : Int)) (a7 : q_WR M N (V9 0) r' (r' 2)) (a8 : q_WR M N (V9 (g_nb bk)) (R 0) (R 0 2))
    (a9 : ∀ q k, b + 28 ≤ q ∨ q < b → (q < V9 (g_nb bk) ∨ V9 (g_nb bk) + 47 ≤ q) → (q < V9 0 ∨ V9 0 + 47 ≤ q) → M q k = I q k) (a9b : ∀ k, k < 600 → M (b + 2) k = I (b + 2) k) (a9c : ∀ k, 7 ≤ k → M b k = I b k)
    (a10 : ∀ q k, (q < V9 (g_nb bk) ∨ V9 (g_nb bk) + 47 ≤ q) → (q < V9 0 ∨ V9 0 + 47 ≤ q) → N q k = L q k) (a11 : ∀ q k, b + 452 ≤ q → P9 q k = P q k) (h4 : M b 4 = (tp' : Int)) (h5 : M b 5 = f') : q_CE T b (g_nb bk) tp' B (g_Rn R bk r') M N P9 ∧ q_Ou b I L P M N P9 := by
  have hbk := hP.bk
  have hnb := g_nb_r hbk
  have hr0 := a3.r (i := 0) (by omega)
  have hr1 := a3.r (i := g_nb bk) (by omega)
  have eT : (bk ≠ 8 ∧ g_nb bk = bk + 1) ∨ (bk = 8 ∧ g_nb bk = 8) := by unfold g_nb; split <;> omega
  have hd : ∀ j : Nat, j + 1 < g_nb bk → bk = 8 ∧ V9 (1 + j) = V (2 + j) ∧ 1 + j < bk ∨ bk ≠ 8 ∧ V9 (1 + j) = V (1 + j) ∧ j < bk := fun j hj => by
    have q := a5 j hj
    by_cases e : bk = 8
    · rw [if_pos e] at q
      exact Or.inl ⟨e, q, by omega⟩
    · rw [if_neg e] at q
      exact Or.inr ⟨e, q, by omega⟩
  refine ⟨⟨V9, f', c, ⟨a1, a2, a3, a6, fun j hj => ?_, h4, fun k hk => (a9b k hk).trans (hC.by9 k hk), h5, fun i hi => (a9c _ (by omega)).trans (hC.cn i hi), fun i hi => ?_⟩, ⟨hnb.2, Nat.le_trans htp hP.tp, hP.br, g_Rn_ro hP hro⟩⟩, ⟨fun q k x => a9 q k (by omega) (by omega) (by omega), fun q k x => a10 q k (by omega) (by omega), a11⟩⟩
  · have hrj := a3.r (i := j) (by omega)
    unfold g_Rn
    by_cases e0 : j = 0
    · subst e0
      rw [if_pos rfl]
      exact a7
    · rw [if_neg e0]
      by_cases e1 : j = g_nb bk
      · subst e1
        rw [if_pos rfl]
        exact a8
      · rw [if_neg e1]
        have q := hd (j - 1) (by omega)
        rw [show 1 + (j - 1) = j by omega, show 2 + (j - 1) = 1 + j by omega] at q
        have hdd0 := a3.d (i := j) (j := 0) (by omega) (by omega) (by omega)
        have hdd1 := a3.d (i := j) (j := g_nb bk) (by omega) (by omega) (by omega)
        rcases q with ⟨x1, x2, x3⟩ | ⟨x1, x2, x3⟩
        · rw [if_pos x1, x2]
          rw [x2] at hrj hdd0 hdd1
          exact (hC.wr (1 + j) (by omega)).fr (hP.ro (1 + j) (by omega)).1.1 (fun q k h1 h2 => a9 q k (by omega) (by omega) (by omega)) (fun q k h1 h2 _ => a10 q k (by omega) (by omega))
        · rw [if_neg x1, x2]
          rw [x2] at hrj hdd0 hdd1
          exact (hC.wr j (by omega)).fr (hP.ro j (by omega)).1.1 (fun q k h1 h2 => a9 q k (by omega) (by omega) (by omega)) (fun q k h1 h2 _ => a10 q k (by omega) (by omega))
  · rw [a10 _ _ (by omega) (by omega)]; exact hC.ch i hi
theorem q_AF.ce {M N : q_I} {P9 : q_P} {V9 : Nat → Nat} {r' : Nat → Int} (hA : q_AF T b V bk I L P (R 0) r' M N P9 V9) (hC : q_GC T b V bk tp B R f c I L P) (hP : q_GP bk tp B R) (hro : q_RO r') : q_CE T b (g_nb bk) tp B (g_Rn R bk r') M N P9 ∧ q_Ou b I L P M N P9 := by
  obtain ⟨a1, a2, a3, a4, a5, a6, a7, a8, a9, a10, a11⟩ := hA
  have hbk := hP.bk
  have hnb := g_nb_r hbk
  have hr0 := a3.r (i := 0) (by omega)
  have hr1 := a3.r (i := g_nb bk) (by omega)
  exact hC.new hP hro (Nat.le_refl _) a1 a2 a3 a5 a6 a7 a8 (fun q k x => a9 q k (Or.inl (by omega))) (fun k _ => a9 _ _ (Or.inl (by omega)) (by omega) (by omega)) (fun k hk => a9 _ _ (Or.inr (by omega)) (by omega) (by omega)) a10 a11 ((a9 _ _ (Or.inr (by decide)) (by omega) (by omega)).trans hC.b6) ((a9 _ _ (Or.inr (by decide)) (by omega) (by omega)).trans hC.b7)
theorem q_TF.ce {M N : q_I} {P9 : q_P} {V9 : Nat → Nat} {r' : Nat → Int} (hA : q_TF T b V bk I L P (R 0) r' M N P9 V9) (hC : q_GC T b V bk tp B R f c I L P) (hP : q_GP bk tp B R) (hro : q_RO r') : q_CE T b (g_nb bk) 0 B (g_Rn R bk r') M N P9 ∧ q_Ou b I L P M N P9 := by
  obtain ⟨a1, a2, a3, a4, a5, a6, a7, a8, a9, a10, a11, a12, a13⟩ := hA
  have hbk := hP.bk
  have hnb := g_nb_r hbk
  have hr0 := a3.r (i := 0) (by omega)
  have hr1 := a3.r (i := g_nb bk) (by omega)
  exact hC.new hP hro (Nat.zero_le _) a1 a2 a3 a5 a6 a7 a8 (fun q k x => a9 q k (by omega) (by omega)) (fun k _ => a9 _ _ (by omega) (by omega) (by omega) (by omega)) (fun k hk => a9 _ _ (by omega) (by omega) (by omega) (by omega)) a10 a13 a11 a12
/-- taken back: the newest of what was remembered stands -/
theorem q_GC.ud {n : Nat} {P9 : q_P} (hC : q_GC T b V (1 + n) tp B R f c I L P) (hP : q_GP (1 + n) tp B R) (a1 : q_ST T P9 b) (a2 : q_PV P9 b (g_swp V n)) (a3 : q_OV b (g_swp V n)) (a4 : ∀ q k, b + 452 ≤ q → P9 q k = P q k) : q_CE T b n tp B (fun j => if j = 0 then R (1 + n) else R j) (u2 I b 6 (n : Int)) L P9 ∧ q_Ou b I L P (u2 I b 6 (n : Int)) L P9 := by
  have hbk := hP.bk
  have e1 : ∀ q k, (q ≠ b ∨ k ≠ 6) → (u2 I b 6 (n : Int)) q k = I q k := fun q k h3 => if_neg (fun x => h3.elim (fun y => y x.1) (fun y => y x.2))
  refine ⟨⟨g_swp V n, f, c, ⟨a1, a2, a3, u2_s _ _ _ _, fun j hj => ?_, (e1 _ _ (by omega)).trans hC.b6, fun k hk => (e1 _ _ (by omega)).trans (hC.by9 k hk), (e1 _ _ (by omega)).trans hC.b7, fun i hi => (e1 _ _ (by omega)).trans (hC.cn i hi), hC.ch⟩, ⟨by omega, hP.tp, hP.br, fun j hj => ?_⟩⟩, ⟨fun q k x => e1 _ _ (by omega), fun _ _ _ => rfl, a4⟩⟩
  · have hr := a3.r (i := j) (by omega)
    have hv : q_RO (if j = 0 then R (1 + n) else R j) := by
      by_cases e : j = 0
      · rw [if_pos e]; exact hP.ro _ (Nat.le_refl _)
      · rw [if_neg e]; exact hP.ro _ (by omega)
    refine q_WR.fr ?_ hv.1.1 (fun q k h1 h2 => e1 q k (by omega)) (fun _ _ _ _ _ => rfl)
    show q_WR I L (g_swp V n j) (if j = 0 then R (1 + n) else R j) ((if j = 0 then R (1 + n) else R j) 2)
    unfold g_swp
    by_cases e : j = 0
    · rw [if_pos e, if_pos e]; exact hC.wr _ (Nat.le_refl _)
    · rw [if_neg e, if_neg e, if_neg (by omega)]; exact hC.wr _ (by omega)
  · show q_RO (if j = 0 then R (1 + n) else R j)
    by_cases e : j = 0
    · rw [if_pos e]; exact hP.ro _ (Nat.le_refl _)
    · rw [if_neg e]; exact hP.ro _ (by omega)
end
theorem q_RO.of {r : Nat → Int} {b : Int} (h : g_VM r 0 b) (h2 : r 2 = b) (h3 : g_RW r) (h4 : g_Zr r) (h5 : g_SL r) : q_RO r := ⟨by subst h2; exact h, h3, h4, h5⟩
theorem q_RO.months {r : Nat → Int} (h : q_RO r) (n : Nat) : q_RO (g_months n r).2 := ⟨(g_months_z n h.2.2.1 h.1).2, g_months_rw n h.2.1 h.2.2.1 h.1, (g_months_z n h.2.2.1 h.1).1, g_months_SL n h.2.2.2 h.2.2.1 h.1⟩
theorem q_hasRoom {s : State} {pl : Platform} {r r' : Room} (hf : r.frames ≤ r'.frames) (hl : r.locals ≤ r'.locals) (hc : r.cells ≤ r'.cells) (hs : r.slots ≤ r'.slots) (h : s.hasRoom pl r' = true) : s.hasRoom pl r = true := by
  simp only [State.hasRoom, Bool.and_eq_true, decide_eq_true_eq] at h ⊢
  obtain ⟨⟨⟨⟨y, a, b, c, d, e⟩, f⟩, g⟩, i⟩ := h
  exact ⟨⟨⟨⟨by omega, by omega, by omega, by omega, by omega, e⟩, by omega⟩, by omega⟩, i⟩
/-- with more room -/
theorem qC.wide {G : q_G} {h h' mc mc' ms ms' : Nat} {Y : q_Y} {av : List Value} {sz : Nat} {T : q_T} {I L : q_I} {P : q_P} {Q : q_Q} (hh : h ≤ h') (hc : mc ≤ mc') (hs : ms ≤ ms') (k : qC G h mc ms Y av sz T I L P Q) : qC G h' mc' ms' Y av sz T I L P Q := by
  intro p e ha hcs hk s m args below hfr happ hP hK
  obtain ⟨a1, a2, a3, a4, a5, a6, a7, a8⟩ := (Spec.appliesLoose_iff hfr).mp happ
  obtain ⟨n, o, h1, h2, h3, h4⟩ := k p e ha hcs hk s m args below hfr ((Spec.appliesLoose_iff hfr).mpr ⟨a1, a2, a3, a4, a5, a6, q_hasRoom (r := q_rm h mc ms) (r' := q_rm h' mc' ms') (show h + 12 ≤ h' + 12 by omega) (show 260 + 60 * h ≤ 260 + 60 * h' by omega) hc hs a7, a8⟩) hP hK
  refine ⟨n, o, h1, h2, h3, ?_⟩
  rcases h4 with ⟨x, L9, hf, hq⟩ | ⟨q, hq, E, ce, L9, b1, b2, b3, b4, b5, b6, b7⟩
  · exact Or.inl ⟨x, L9, ⟨hf.1, hf.2.1, hf.2.2.mono hc hs⟩, hq⟩
  · exact Or.inr ⟨q, hq, E, ce, L9, b1, b2, b3, b4, b5, b6.mono hc hs, b7⟩
