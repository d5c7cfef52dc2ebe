/-! the class: its parts, its worlds -/
def g_wd (b n : Nat) : Nat := if n = 0 then b + 28 else b + 29 + 47 * n
def q_ST (T : q_T) (P : q_P) (b : Nat) : Prop := (T b = some (.inl 6)) ∧ (P (b + 1) 0 = some (b + 2)) ∧ (T (b + 2) = some (.inr (0, 600))) ∧ (P b 0 = some (b + 1)) ∧ (T (b + 1) = some (.inl 3)) ∧ (P (b + 1) 2 = some (b + 21)) ∧ (T (b + 21) = some (.inr (0, 601))) ∧ (P (b + 1) 3 = some (b + 22)) ∧ (T (b + 22) = some (.inr (0, 601))) ∧ (P (b + 1) 4 = some (b + 23)) ∧ (T (b + 23) = some (.inr (0, 601))) ∧ (P (b + 1) 5 = some (b + 24)) ∧ (T (b + 24) = some (.inr (5, 601))) ∧ (P (b + 1) 1 = some (b + 3)) ∧ (q_SR T P (b + 3)) ∧ (P b 1 = some (b + 25)) ∧ (T (b + 25) = some (.inl 1)) ∧ (P (b + 25) 0 = some (b + 26)) ∧ (T (b + 26) = some (.inl 0)) ∧ (P (b + 25) 1 = some (b + 27)) ∧ (T (b + 27) = some (.inr (1, 12))) ∧ (P b 2 = some (b + 75)) ∧ (T (b + 75) = some (.inr (4, 8))) ∧ (∀ n : Nat, n < 9 → q_SW T P (g_wd b n))
theorem q_ST.t0 {T : q_T} {P : q_P} {b : Nat} (h : q_ST T P b) : T b = some (.inl 6) := h.1
theorem q_ST.p0 {T : q_T} {P : q_P} {b : Nat} (h : q_ST T P b) : P (b + 1) 0 = some (b + 2) := h.2.1
theorem q_ST.t1 {T : q_T} {P : q_P} {b : Nat} (h : q_ST T P b) : T (b + 2) = some (.inr (0, 600)) := h.2.2.1
theorem q_ST.p1 {T : q_T} {P : q_P} {b : Nat} (h : q_ST T P b) : P b 0 = some (b + 1) := h.2.2.2.1
theorem q_ST.t2 {T : q_T} {P : q_P} {b : Nat} (h : q_ST T P b) : T (b + 1) = some (.inl 3) := h.2.2.2.2.1
theorem q_ST.r1 {T : q_T} {P : q_P} {b : Nat} (h : q_ST T P b) : P (b + 1) 2 = some (b + 21) := h.2.2.2.2.2.1
theorem q_ST.t3 {T : q_T} {P : q_P} {b : Nat} (h : q_ST T P b) : T (b + 21) = some (.inr (0, 601)) := h.2.2.2.2.2.2.1
theorem q_ST.r2 {T : q_T} {P : q_P} {b : Nat} (h : q_ST T P b) : P (b + 1) 3 = some (b + 22) := h.2.2.2.2.2.2.2.1
theorem q_ST.t4 {T : q_T} {P : q_P} {b : Nat} (h : q_ST T P b) : T (b + 22) = some (.inr (0, 601)) := h.2.2.2.2.2.2.2.2.1
theorem q_ST.r3 {T : q_T} {P : q_P} {b : Nat} (h : q_ST T P b) : P (b + 1) 4 = some (b + 23) := h.2.2.2.2.2.2.2.2.2.1
theorem q_ST.t5 {T : q_T} {P : q_P} {b : Nat} (h : q_ST T P b) : T (b + 23) = some (.inr (0, 601)) := h.2.2.2.2.2.2.2.2.2.2.1
theorem q_ST.r4 {T : q_T} {P : q_P} {b : Nat} (h : q_ST T P b) : P (b + 1) 5 = some (b + 24) := h.2.2.2.2.2.2.2.2.2.2.2.1
theorem q_ST.t6 {T : q_T} {P : q_P} {b : Nat} (h : q_ST T P b) : T (b + 24) = some (.inr (5, 601)) := h.2.2.2.2.2.2.2.2.2.2.2.2.1
theorem q_ST.p2 {T : q_T} {P : q_P} {b : Nat} (h : q_ST T P b) : P (b + 1) 1 = some (b + 3) := h.2.2.2.2.2.2.2.2.2.2.2.2.2.1
theorem q_ST.dr {T : q_T} {P : q_P} {b : Nat} (h : q_ST T P b) : q_SR T P (b + 3) := h.2.2.2.2.2.2.2.2.2.2.2.2.2.2.1
theorem q_ST.p3 {T : q_T} {P : q_P} {b : Nat} (h : q_ST T P b) : P b 1 = some (b + 25) := h.2.2.2.2.2.2.2.2.2.2.2.2.2.2.2.1
theorem q_ST.t25 {T : q_T} {P : q_P} {b : Nat} (h : q_ST T P b) : T (b + 25) = some (.inl 1) := h.2.2.2.2.2.2.2.2.2.2.2.2.2.2.2.2.1
theorem q_ST.f0 {T : q_T} {P : q_P} {b : Nat} (h : q_ST T P b) : P (b + 25) 0 = some (b + 26) := h.2.2.2.2.2.2.2.2.2.2.2.2.2.2.2.2.2.1
theorem q_ST.t26 {T : q_T} {P : q_P} {b : Nat} (h : q_ST T P b) : T (b + 26) = some (.inl 0) := h.2.2.2.2.2.2.2.2.2.2.2.2.2.2.2.2.2.2.1
theorem q_ST.f1 {T : q_T} {P : q_P} {b : Nat} (h : q_ST T P b) : P (b + 25) 1 = some (b + 27) := h.2.2.2.2.2.2.2.2.2.2.2.2.2.2.2.2.2.2.2.1
theorem q_ST.t27 {T : q_T} {P : q_P} {b : Nat} (h : q_ST T P b) : T (b + 27) = some (.inr (1, 12)) := h.2.2.2.2.2.2.2.2.2.2.2.2.2.2.2.2.2.2.2.2.1
theorem q_ST.p4 {T : q_T} {P : q_P} {b : Nat} (h : q_ST T P b) : P b 2 = some (b + 75) := h.2.2.2.2.2.2.2.2.2.2.2.2.2.2.2.2.2.2.2.2.2.1
theorem q_ST.t75 {T : q_T} {P : q_P} {b : Nat} (h : q_ST T P b) : T (b + 75) = some (.inr (4, 8)) := h.2.2.2.2.2.2.2.2.2.2.2.2.2.2.2.2.2.2.2.2.2.2.1
theorem q_ST.wo {T : q_T} {P : q_P} {b : Nat} (h : q_ST T P b) : ∀ n : Nat, n < 9 → q_SW T P (g_wd b n) := h.2.2.2.2.2.2.2.2.2.2.2.2.2.2.2.2.2.2.2.2.2.2.2
def q_PV (P : q_P) (b : Nat) (V : Nat → Nat) : Prop := (P b 3 = some (V 0)) ∧ (∀ j : Nat, j < 8 → P (b + 75) j = some (V (1 + j)))
theorem q_PV.w {P : q_P} {b : Nat} {V : Nat → Nat} (h : q_PV P b V) : P b 3 = some (V 0) := h.1
theorem q_PV.pa {P : q_P} {b : Nat} {V : Nat → Nat} (h : q_PV P b V) : ∀ j : Nat, j < 8 → P (b + 75) j = some (V (1 + j)) := h.2
def q_OV (b : Nat) (V : Nat → Nat) : Prop := (∀ i : Nat, i < 9 → ∃ n : Nat, n < 9 ∧ V i = g_wd b n) ∧ ∀ i j : Nat, i < 9 → j < 9 → i ≠ j → V i ≠ V j
theorem g_wd_r {b n : Nat} (h : n < 9) : b + 28 ≤ g_wd b n ∧ g_wd b n + 47 ≤ b + 452 ∧ (g_wd b n + 47 ≤ b + 75 ∨ b + 76 ≤ g_wd b n) := by unfold g_wd; split <;> omega
theorem g_wd_d {b n k : Nat} (h : g_wd b n ≠ g_wd b k) : g_wd b n + 47 ≤ g_wd b k ∨ g_wd b k + 47 ≤ g_wd b n := by unfold g_wd at *; split at h <;> split at h <;> (try split) <;> omega
theorem q_OV.r {b : Nat} {V : Nat → Nat} (h : q_OV b V) {i : Nat} (hi : i < 9) : b + 28 ≤ V i ∧ V i + 47 ≤ b + 452 ∧ (V i + 47 ≤ b + 75 ∨ b + 76 ≤ V i) := by
  obtain ⟨n, h1, h2⟩ := h.1 i hi
  rw [h2]; exact g_wd_r h1
theorem q_OV.d {b : Nat} {V : Nat → Nat} (h : q_OV b V) {i j : Nat} (hi : i < 9) (hj : j < 9) (hn : i ≠ j) : V i + 47 ≤ V j ∨ V j + 47 ≤ V i := by
  have h3 := h.2 i j hi hj hn
  obtain ⟨n, h1, h2⟩ := h.1 i hi
  obtain ⟨k, h4, h5⟩ := h.1 j hj
  rw [h2, h5] at h3 ⊢
  exact g_wd_d h3
theorem q_SR.mv {T : q_T} {P P' : q_P} {u : Nat} (h : q_SR T P u) (hP : ∀ q k, u ≤ q → q < u + 18 → P' q k = P q k) : q_SR T P' u :=
  ⟨h.t0, (hP _ _ (by omega) (by omega)).trans h.p0, h.t1, (hP _ _ (by omega) (by omega)).trans h.p2, h.t2, (hP _ _ (by omega) (by omega)).trans h.p6, h.t3, (hP _ _ (by omega) (by omega)).trans h.p8, h.t4, (hP _ _ (by omega) (by omega)).trans h.p9, h.t5, (hP _ _ (by omega) (by omega)).trans h.p10, h.t6, (hP _ _ (by omega) (by omega)).trans h.p12, h.t7,
   fun l hl => (hP _ _ (by omega) (by omega)).trans (h.pl l hl), h.tl, fun l hl => (hP _ _ (by omega) (by omega)).trans (h.pn l hl), h.tn⟩
theorem q_SW.mv {T : q_T} {P P' : q_P} {w : Nat} (h : q_SW T P w) (hP : ∀ q k, w ≤ q → q < w + 47 → P' q k = P q k) : q_SW T P' w :=
  ⟨h.t0, (hP _ _ (by omega) (by omega)).trans h.p0, h.ru.mv (fun q k h1 h2 => hP q k (by omega) (by omega)), (hP _ _ (by omega) (by omega)).trans h.p1, h.t19, fun i hi => (hP _ _ (by omega) (by omega)).trans (h.pa i hi), h.ta, (hP _ _ (by omega) (by omega)).trans h.p4, h.t20, fun k hk => (hP _ _ (by omega) (by omega)).trans (h.pk k hk), h.tk, (hP _ _ (by omega) (by omega)).trans h.p6, h.t33, (hP _ _ (by omega) (by omega)).trans h.p7, h.t34⟩
theorem q_ST.mv {T : q_T} {P P' : q_P} {b : Nat} (h : q_ST T P b) (hP : ∀ q k, q ≠ b + 75 → (q ≠ b ∨ k ≠ 3) → P' q k = P q k) : q_ST T P' b :=
  ⟨h.t0, (hP _ _ (by omega) (by omega)).trans h.p0, h.t1, (hP _ _ (by omega) (by omega)).trans h.p1, h.t2, (hP _ _ (by omega) (by omega)).trans h.r1, h.t3, (hP _ _ (by omega) (by omega)).trans h.r2, h.t4, (hP _ _ (by omega) (by omega)).trans h.r3, h.t5, (hP _ _ (by omega) (by omega)).trans h.r4, h.t6, (hP _ _ (by omega) (by omega)).trans h.p2, h.dr.mv (fun q k h1 h2 => hP q k (by omega) (by omega)), (hP _ _ (by omega) (by omega)).trans h.p3, h.t25, (hP _ _ (by omega) (by omega)).trans h.f0, h.t26, (hP _ _ (by omega) (by omega)).trans h.f1, h.t27, (hP _ _ (by omega) (by omega)).trans h.p4, h.t75,
   fun n hn => (h.wo n hn).mv (fun q k h1 h2 => hP q k (by have := g_wd_r (b := b) hn; omega) (by have := g_wd_r (b := b) hn; omega))⟩
theorem q_ST.sw {T : q_T} {P : q_P} {b : Nat} {V : Nat → Nat} (h : q_ST T P b) (hO : q_OV b V) {i : Nat} (hi : i < 9) : q_SW T P (V i) := by
  obtain ⟨n, h1, h2⟩ := hO.1 i hi
  rw [h2]; exact h.wo n h1
/-- the oldest past world comes last -/
def g_rot (V : Nat → Nat) : Nat → Nat := fun i => if i = 0 then V 0 else if i < 8 then V (1 + i) else V 1
theorem q_OV.rot {b : Nat} {V : Nat → Nat} (h : q_OV b V) : q_OV b (g_rot V) := by
  constructor
  · intro i hi
    unfold g_rot
    split
    · exact h.1 0 (by omega)
    · split
      · exact h.1 _ (by omega)
      · exact h.1 1 (by omega)
  · intro i j hi hj hn
    unfold g_rot
    (repeat' split) <;> first | omega | exact h.2 _ _ (by omega) (by omega) (by omega)
/-- the world and past world n change places -/
def g_swp (V : Nat → Nat) (n : Nat) : Nat → Nat := fun i => if i = 0 then V (1 + n) else if i = 1 + n then V 0 else V i
theorem q_OV.swp {b : Nat} {V : Nat → Nat} (h : q_OV b V) {n : Nat} (hn : n < 8) : q_OV b (g_swp V n) := by
  constructor
  · intro i hi
    unfold g_swp
    split
    · exact h.1 _ (by omega)
    · split
      · exact h.1 0 (by omega)
      · exact h.1 _ (by omega)
  · intro i j hi hj hne
    unfold g_swp
    (repeat' split) <;> first | omega | exact h.2 _ _ (by omega) (by omega) (by omega)
set_option maxRecDepth 100000 in
theorem lX7_remember {G : q_G} {F : q_F} {h : Nat} {Q : q_Q} {kc ks sz : Nat} {T : q_T} {b : Nat} {V : Nat → Nat} {I L : q_I} {P : q_P} (hF : q_ok G F YX7_remember h) (hS : q_ST T P b) (hA : q_A G b) (hPV : q_PV P b V) (hO : q_OV b V) (kx : ∀ P9 : q_P, (∀ q k, q ≠ b + 75 → P9 q k = P q k) → (∀ j : Nat, j < 8 → P9 (b + 75) j = some (if j < 7 then V (2 + j) else V (1 + j))) → qX G F Q kc ks 50 [(0, .ref b), (1, .ref (V 1))] [] sz T I L P9) : ∀ (n : Nat) (k : Nat) (P9 : q_P), 8 - k < n → k ≤ 7 → (∀ q k, q ≠ b + 75 → P9 q k = P q k) → (∀ j : Nat, j < 8 → P9 (b + 75) j = some (if j < k then V (2 + j) else V (1 + j))) → qX G F Q kc ks 21 [(2, qI ((1 + k : Nat) : Int)), (0, .ref b), (1, .ref (V 1))] [] sz T I L P9 := by
  intro n
  induction n with
  | zero => intro k P9 hn; exact absurd hn (Nat.not_lt_zero _)
  | succ n ih =>
    intro k P9 hn hk hPq hPc
    refine q_iload_n hF 0 rfl rfl dX7_remember_21 ?_
    refine q_aload_n hF 1 rfl rfl dX7_remember_22 ?_
    refine q_getA hF fl_RX7_30 rfl hS.t0 ((hPq _ _ (by omega)).trans hS.p4) dX7_remember_23 ?_
    refine q_alen hF (n := 8) hS.t75 dX7_remember_26 ?_
    refine q_icmpge hF (by omega) (by decide) dX7_remember_27 (fun c27 => ?_) (fun c27 => ?_)
    · refine q_sub [1, 2] rfl ?_
      refine kx P9 hPq (fun j hj => ?_)
      rw [hPc j hj, show k = 7 by omega]
    · refine q_aload_n hF 1 rfl rfl dX7_remember_30 ?_
      refine q_getA hF fl_RX7_30 rfl hS.t0 ((hPq _ _ (by omega)).trans hS.p4) dX7_remember_31 ?_
      refine q_iload_n hF 0 rfl rfl dX7_remember_34 ?_
      refine q_iconst hF dX7_remember_35 ?_
      refine q_isub hF dX7_remember_36 ?_
      refine q_aload_n hF 1 rfl rfl dX7_remember_37 ?_
      refine q_getA hF fl_RX7_30 rfl hS.t0 ((hPq _ _ (by omega)).trans hS.p4) dX7_remember_38 ?_
      refine q_iload_n hF 0 rfl rfl dX7_remember_41 ?_
      refine q_aaloadv hF (b := V (2 + k)) (1 + k) hS.t75 (by decide) (by omega) (by omega) (by decide) (by rw [hPc (1 + k) (by omega), if_neg (by omega), show 1 + (1 + k) = 2 + k by omega]) dX7_remember_42 ?_
      refine q_aastorev hF (n := 8) (ci := 5) k hS.t75 (hS.sw hO (i := 2 + k) (by omega)).t0 rfl rfl (q_Ale hA (by omega)) (by omega) (by omega) (by decide) dX7_remember_43 ?_
      refine q_iinc hF (z' := ((1 + (1 + k) : Nat) : Int)) (ls' := [(2, qI ((1 + (1 + k) : Nat) : Int)), (0, .ref b), (1, .ref (V 1))]) 0 rfl (by first | rfl | omega) (by decide) rfl dX7_remember_44 ?_
      refine q_goto hF dX7_remember_47 ?_
      exact ih (1 + k) (u2 P9 (b + 75) k (some (V (2 + k)))) (by omega) (by omega) (fun q j h => (u2_a _ _ h).trans (hPq q j h)) (fun j hj => by
        by_cases e : j = k
        · subst e; rw [u2_s, if_pos (by omega)]
        · rw [u2_k _ _ e, hPc j hj]
          congr 1
          (repeat' split) <;> first | rfl | omega)
theorem q_PV.rot {P P9 : q_P} {b : Nat} {V : Nat → Nat} (h : q_PV P b V) (hq : ∀ q k, q ≠ b + 75 → P9 q k = P q k) (hc : ∀ j : Nat, j < 8 → P9 (b + 75) j = some (if j < 7 then V (2 + j) else V 1)) : q_PV P9 b (g_rot V) := by
  refine ⟨(hq _ _ (by omega)).trans h.w, fun j hj => ?_⟩
  rw [hc j hj]
  unfold g_rot
  congr 1
  by_cases e : j < 7
  · rw [if_pos e, if_neg (by omega), if_pos (by omega), show 1 + (1 + j) = 2 + j by omega]
  · rw [if_neg e, if_neg (by omega), if_neg (by omega)]
set_option maxRecDepth 100000 in
theorem tX7_remember {G : q_G} {F : q_F} {h kc ks sz : Nat} {T : q_T} {I L : q_I} {P : q_P} {Q : q_Q} {b n : Nat} {V : Nat → Nat} {mo : Int} {r : Nat → Int} (h3 : 3 ≤ h) (hF : q_ok G F YX7_remember h) (hS : q_ST T P b) (hA : q_A G b) (hPV : q_PV P b V) (hO : q_OV b V) (hb : I b 6 = (n : Int)) (hn : n < 8) (hWR : q_WR I L (V 0) r mo) (hv : g_V0 r) (hnl : ∀ i : Nat, (i : Int) < r 1 → 0 ≤ r (1049 + 12 * i) ∧ r (1049 + 12 * i) ≤ 1) (k0 : ∀ (M8 N8 : q_I), M8 b 6 = ((1 + n : Nat) : Int) → (∀ q k, (q ≠ b ∨ k ≠ 6) → (q < V (1 + n) ∨ V (1 + n) + 47 ≤ q) → M8 q k = I q k) → (∀ q k, (q < V (1 + n) ∨ V (1 + n) + 47 ≤ q) → N8 q k = L q k) → q_WR M8 N8 (V (1 + n)) r mo → Q (.inl none) sz T M8 N8 P) : qX G F Q kc ks 74 [(0, .ref b)] [] sz T I L P := by
  refine q_aload_n hF 0 rfl rfl dX7_remember_74 ?_
  refine q_getA hF fl_RX7_30 rfl hS.t0 hS.p4 dX7_remember_75 ?_
  refine q_aload_n hF 0 rfl rfl dX7_remember_78 ?_
  refine q_getIv hF (z := (n : Int)) fl_RX7_158 hS.t0 hb dX7_remember_79 ?_
  refine q_aaloadv hF (b := V (1 + n)) n hS.t75 (by decide) rfl (by omega) (by decide) (by first | exact hPV.pa _ (by omega) | (have q9 := hPV.pa (n) (by omega); simpa using q9)) dX7_remember_82 ?_
  refine q_aload_n hF 0 rfl rfl dX7_remember_83 ?_
  refine q_getA hF fl_RX7_26 rfl hS.t0 hPV.w dX7_remember_84 ?_
  refine q_callV (kc := kc) (ks := ks) (mc' := 0) (ms' := 0) (h' := 2) (st := []) hF vl_RX7_317 rfl [.ref (V 0)] rfl rfl (hS.sw hO (i := 1 + n) (by omega)).t0 (by omega) (Nat.le_of_ble_eq_true rfl) dX7_remember_87 ?_
  refine mX6_copyFrom (r := r) (mo := mo) (hS.sw hO (by omega)) (q_Ale hA (by have := hO.r (i := 1 + n) (by omega); omega)) (hS.sw hO (by omega)) hWR hv hnl (by have := hO.d (i := 1 + n) (j := 0) (by omega) (by omega) (by omega); omega) (fun M9 N9 c87_0 c87_1 c87_2 => ?_)
  refine q_aload_n hF 0 rfl rfl dX7_remember_90 ?_
  refine q_dup hF rfl dX7_remember_91 ?_
  refine q_getIv hF (z := (n : Int)) fl_RX7_158 hS.t0 ((c87_0 _ _ (by have := hO.r (i := 1 + n) (by omega); omega)).trans hb) dX7_remember_92 ?_
  refine q_iconst hF dX7_remember_95 ?_
  refine q_iadd hF dX7_remember_96 ?_
  refine q_putI hF fl_RX7_158 hS.t0 hA dX7_remember_97 ?_
  refine q_return hF rfl dX7_remember_100 ?_
  exact k0 _ N9 ((u2_s _ _ _ _).trans (by omega)) (fun q k h1 h2 => (q_u2o h1).trans (c87_0 q k h2)) (fun q k h => c87_1 q k h) (c87_2.fr hv (fun q k h1 h2 => u2_a _ _ (by have := hO.r (i := 1 + n) (by omega); omega)) (fun _ _ _ _ _ => rfl))
set_option maxRecDepth 100000 in
theorem mX7_remember {G : q_G} {sz : Nat} {T : q_T} {I L : q_I} {P : q_P} {Q : q_Q} {b bk : Nat} {V : Nat → Nat} {mo : Int} {r : Nat → Int} (hS : q_ST T P b) (hA : q_A G b) (hPV : q_PV P b V) (hO : q_OV b V) (hb : I b 6 = (bk : Int)) (hbk : bk ≤ 8) (hWR : q_WR I L (V 0) r mo) (hv : g_V0 r) (hnl : ∀ i : Nat, (i : Int) < r 1 → 0 ≤ r (1049 + 12 * i) ∧ r (1049 + 12 * i) ≤ 1) (k0 : ∀ (M9 N9 : q_I) (P9 : q_P) (V9 : Nat → Nat), q_ST T P9 b → q_PV P9 b V9 → q_OV b V9 → V9 0 = V 0 → (∀ j : Nat, j + 1 < g_nb bk → V9 (1 + j) = if bk = 8 then V (2 + j) else V (1 + j)) → M9 b 6 = (g_nb bk : Int) → (∀ q k, (q ≠ b ∨ k ≠ 6) → (q < V9 (g_nb bk) ∨ V9 (g_nb bk) + 47 ≤ q) → M9 q k = I q k) → (∀ q k, (q < V9 (g_nb bk) ∨ V9 (g_nb bk) + 47 ≤ q) → N9 q k = L q k) → q_WR M9 N9 (V9 (g_nb bk)) r mo → (∀ q k, b + 452 ≤ q → P9 q k = P q k) → Q (.inl none) sz T M9 N9 P9) : qC G 3 0 0 YX7_remember [.ref b] sz T I L P Q := by
  refine qC_of (by decide +kernel) rfl rfl (Nat.le_of_ble_eq_true rfl) (fun F hF _ _ => ?_)
  refine q_aload_n hF 0 rfl rfl dX7_remember_0 ?_
  refine q_getIv hF (z := (bk : Int)) fl_RX7_158 hS.t0 hb dX7_remember_1 ?_
  refine q_aload_n hF 0 rfl rfl dX7_remember_4 ?_
  refine q_getA hF fl_RX7_30 rfl hS.t0 hS.p4 dX7_remember_5 ?_
  refine q_alen hF (n := 8) hS.t75 dX7_remember_8 ?_
  refine q_icmplt hF (by omega) (by decide) dX7_remember_9 (fun c9 => ?_) (fun c9 => ?_)
  · have enb : g_nb bk = 1 + bk := by unfold g_nb; rw [if_neg (by omega)]; omega
    refine tX7_remember (n := bk) (by decide) hF hS hA hPV hO hb (by omega) hWR hv hnl (fun M8 N8 e1 e2 e3 e4 => ?_)
    exact k0 M8 N8 P V hS hPV hO rfl (fun j hj => by rw [if_neg (by omega)]) (by rw [enb]; exact e1) (by rw [enb]; exact e2) (by rw [enb]; exact e3) (by rw [enb]; exact e4) (fun _ _ _ => rfl)
  · refine q_aload_n hF 0 rfl rfl dX7_remember_12 ?_
    refine q_getA hF fl_RX7_30 rfl hS.t0 hS.p4 dX7_remember_13 ?_
    refine q_iconst hF dX7_remember_16 ?_
    refine q_aaloadv hF (b := V 1) 0 hS.t75 (by decide) rfl (by decide) (by decide) (hPV.pa 0 (by decide)) dX7_remember_17 ?_
    refine q_astore_n hF (ls' := [(1, .ref (V 1)), (0, .ref b)]) rfl (by decide) rfl dX7_remember_18 ?_
    refine q_iconst hF dX7_remember_19 ?_
    refine q_istore_n hF (ls' := [(2, qI 1), (1, .ref (V 1)), (0, .ref b)]) rfl (by decide) rfl dX7_remember_20 ?_
    refine q_sub [0, 2, 1] rfl ?_
    refine lX7_remember (V := V) hF hS hA hPV hO (fun P9 hPq hPc => ?_) 9 0 P (by omega) (by omega) (fun _ _ _ => rfl) (fun j hj => by rw [if_neg (by omega)]; exact hPV.pa j hj)
    refine q_aload_n hF 0 rfl rfl dX7_remember_50 ?_
    refine q_getA hF fl_RX7_30 rfl hS.t0 ((hPq _ _ (by omega)).trans hS.p4) dX7_remember_51 ?_
    refine q_aload_n hF 0 rfl rfl dX7_remember_54 ?_
    refine q_getA hF fl_RX7_30 rfl hS.t0 ((hPq _ _ (by omega)).trans hS.p4) dX7_remember_55 ?_
    refine q_alen hF (n := 8) hS.t75 dX7_remember_58 ?_
    refine q_iconst hF dX7_remember_59 ?_
    refine q_isub hF dX7_remember_60 ?_
    refine q_aload_n hF 1 rfl rfl dX7_remember_61 ?_
    refine q_aastorev hF (n := 8) (ci := 5) 7 hS.t75 (hS.sw hO (i := 1) (by omega)).t0 rfl rfl (q_Ale hA (by omega)) (by omega) (by omega) (by decide) dX7_remember_62 ?_
    refine q_aload_n hF 0 rfl rfl dX7_remember_63 ?_
    refine q_aload_n hF 0 rfl rfl dX7_remember_64 ?_
    refine q_getA hF fl_RX7_30 rfl hS.t0 ((u2_k _ _ (by decide)).trans ((hPq _ _ (by omega)).trans hS.p4)) dX7_remember_65 ?_
    refine q_alen hF (n := 8) hS.t75 dX7_remember_68 ?_
    refine q_iconst hF dX7_remember_69 ?_
    refine q_isub hF dX7_remember_70 ?_
    refine q_putI hF fl_RX7_158 hS.t0 hA dX7_remember_71 ?_
    obtain ⟨P8, hP8⟩ : ∃ P8 : q_P, P8 = u2 P9 (b + 75) 7 (some (V 1)) := ⟨_, rfl⟩
    rw [← hP8]
    have e8 : bk = 8 := by omega
    subst e8
    have hq8 : ∀ q k, q ≠ b + 75 → P8 q k = P q k := fun q k h => by rw [hP8, u2_a _ _ h]; exact hPq q k h
    have hc8 : ∀ j : Nat, j < 8 → P8 (b + 75) j = some (if j < 7 then V (2 + j) else V 1) := fun j hj => by
      by_cases e : j = 7
      · subst e; rw [hP8, u2_s, if_neg (by omega)]
      · rw [hP8, u2_k _ _ e, hPc j hj, if_pos (by omega), if_pos (by omega)]
    have hS8 : q_ST T P8 b := hS.mv (fun q k h1 h2 => hq8 q k h1)
    have hr0 : g_rot V 0 = V 0 := rfl
    rw [show ((8 : Nat) : Int) - 1 = ((7 : Nat) : Int) from rfl]
    refine q_sub [0] rfl ?_
    refine tX7_remember (n := 7) (V := g_rot V) (by decide) hF hS8 hA (hPV.rot hq8 hc8) hO.rot (u2_s _ _ _ _) (by omega) (by rw [hr0]; exact hWR.fr hv (fun q k h1 h2 => u2_a _ _ (by have := hO.r (i := 0) (by omega); omega)) (fun _ _ _ _ _ => rfl)) hv hnl (fun M8 N8 e1 e2 e3 e4 => ?_)
    exact k0 M8 N8 P8 (g_rot V) hS8 (hPV.rot hq8 hc8) hO.rot rfl (fun j hj => by
      have hj : j + 1 < 8 := hj
      unfold g_rot
      rw [if_pos rfl, if_neg (by omega), if_pos (by omega), show 1 + (1 + j) = 2 + j by omega]) e1 (fun q k h1 h2 => (e2 q k h1 h2).trans (q_u2o h1)) e3 e4 (fun q k h => hq8 q k (by omega))
