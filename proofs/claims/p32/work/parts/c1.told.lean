/-! the text told, byte by byte -/
theorem q_ST.mvT {T T' : q_T} {P P' : q_P} {b : Nat} (h : q_ST T P b) (hT : ∀ q, b ≤ q → q < b + 452 → T' q = T q) (hP : ∀ q k, b ≤ q → q < b + 452 → P' q k = P q k) : q_ST T' P' b := by
  obtain ⟨a0, a1, a2, a3, a4, a5, a6, a7, a8, a9, a10, a11, a12, a13, a14, a15, a16, a17, a18, a19, a20, a21, a22, a23⟩ := h
  exact ⟨(hT _ (by omega) (by omega)).trans a0, (hP _ _ (by omega) (by omega)).trans a1, (hT _ (by omega) (by omega)).trans a2, (hP _ _ (by omega) (by omega)).trans a3, (hT _ (by omega) (by omega)).trans a4, (hP _ _ (by omega) (by omega)).trans a5, (hT _ (by omega) (by omega)).trans a6, (hP _ _ (by omega) (by omega)).trans a7, (hT _ (by omega) (by omega)).trans a8, (hP _ _ (by omega) (by omega)).trans a9, (hT _ (by omega) (by omega)).trans a10, (hP _ _ (by omega) (by omega)).trans a11, (hT _ (by omega) (by omega)).trans a12, (hP _ _ (by omega) (by omega)).trans a13, a14.mvT (fun q h1 h2 => hT q (by omega) (by omega)) (fun q k h1 h2 => hP q k (by omega) (by omega)), (hP _ _ (by omega) (by omega)).trans a15, (hT _ (by omega) (by omega)).trans a16, (hP _ _ (by omega) (by omega)).trans a17, (hT _ (by omega) (by omega)).trans a18, (hP _ _ (by omega) (by omega)).trans a19, (hT _ (by omega) (by omega)).trans a20, (hP _ _ (by omega) (by omega)).trans a21, (hT _ (by omega) (by omega)).trans a22, fun n hn => (a23 n hn).mvT (fun q h1 h2 => hT q (by have := g_wd_r (b := b) hn; omega) (by have := g_wd_r (b := b) hn; omega)) (fun q k h1 h2 => hP q k (by have := g_wd_r (b := b) hn; omega) (by have := g_wd_r (b := b) hn; omega))⟩
theorem q_CE.mv {T T' : q_T} {b bk tp : Nat} {B : Nat → Int} {R : Nat → Nat → Int} {I L I' L' : q_I} {P P' : q_P} (h : q_CE T b bk tp B R I L P) (hT : ∀ q, b ≤ q → q < b + 452 → T' q = T q) (hI : ∀ q k, b ≤ q → q < b + 452 → I' q k = I q k) (hL : ∀ q k, b ≤ q → q < b + 452 → L' q k = L q k) (hP : ∀ q k, b ≤ q → q < b + 452 → P' q k = P q k) : q_CE T' b bk tp B R I' L' P' := by
  obtain ⟨V, f, c, hC, hQ⟩ := h
  have hC1 := hC.fr hQ hI hL
  exact ⟨V, f, c, ⟨hC1.st.mvT hT hP, ⟨(hP _ _ (by omega) (by omega)).trans hC1.pv.w, fun j hj => (hP _ _ (by omega) (by omega)).trans (hC1.pv.pa j hj)⟩, hC1.ov, hC1.b8, hC1.wr, hC1.b6, hC1.by9, hC1.b7, hC1.cn, hC1.ch⟩, hQ⟩
theorem q_CE.by' {T : q_T} {b bk tp : Nat} {B B' : Nat → Int} {R : Nat → Nat → Int} {I L : q_I} {P : q_P} (h : q_CE T b bk tp B R I L P) (e : B = B') : q_CE T b bk tp B' R I L P := by subst e; exact h
def g_by (bs : List Nat) (k : Nat) : Nat := bs.getD k 0
theorem g_by_ge {bs : List Nat} {k : Nat} (h : bs.length ≤ k) : g_by bs k = 0 := by
  unfold g_by
  rw [List.getD_eq_getElem?_getD, List.getElem?_eq_none h]; rfl
theorem g_by_l {bs cs : List Nat} {k : Nat} (h : k < bs.length) : g_by (bs ++ cs) k = g_by bs k := by
  unfold g_by
  rw [List.getD_eq_getElem?_getD, List.getD_eq_getElem?_getD, List.getElem?_append_left h]
theorem g_by_r {bs cs : List Nat} {k : Nat} (h : bs.length ≤ k) : g_by (bs ++ cs) k = g_by cs (k - bs.length) := by
  unfold g_by
  rw [List.getD_eq_getElem?_getD, List.getD_eq_getElem?_getD, List.getElem?_append_right h]
theorem g_by_at {bs : List Nat} {c : Nat} : g_by (bs ++ [c]) bs.length = c := by
  rw [g_by_r (Nat.le_refl _), Nat.sub_self]; rfl
/-- seven bits -/
def q_B7 (bs : List Nat) : Prop := ∀ k, g_by bs k < 128
theorem q_B7.app {bs cs : List Nat} (h : q_B7 bs) (h2 : q_B7 cs) : q_B7 (bs ++ cs) := fun k => by
  by_cases e : k < bs.length
  · rw [g_by_l e]; exact h k
  · rw [g_by_r (by omega)]; exact h2 _
theorem q_B7.of {bs : List Nat} (h : ∀ c ∈ bs, c < 128) : q_B7 bs := fun k => by
  by_cases e : k < bs.length
  · unfold g_by
    rw [List.getD_eq_getElem?_getD, List.getElem?_eq_getElem e]
    exact h _ (List.getElem_mem e)
  · rw [g_by_ge (by omega)]; decide
def g_wd4 (bs : List Nat) (k : Nat) : Int := ((g_pk (g_by bs k) (g_by bs (k + 1)) (g_by bs (k + 2)) (g_by bs (k + 3)) : Nat) : Int)
def q_TW (I : q_I) (ta tp : Nat) (bs : List Nat) : Prop := ∀ j : Nat, j < 5 → I ta (1 + j) = g_wd4 bs (tp + 4 * j)
/-- what has been told: bs; the first twenties are on the tape, the rest waits in the words of ta -/
def q_TB (T : q_T) (b bk : Nat) (R : Nat → Nat → Int) (I L : q_I) (P : q_P) (ta : Nat) (bs : List Nat) : Prop := T ta = some (.inr (0, 8)) ∧ b + 452 ≤ ta ∧ q_B7 bs ∧ I ta 0 = (bs.length : Int) ∧ q_TW I ta (20 * (bs.length / 20)) bs ∧ ∃ B, q_CE T b bk (20 * (bs.length / 20)) B R I L P ∧ ∀ k, k < 20 * (bs.length / 20) → B k = (g_by bs k : Int)
/-- memory where the text's walk writes nothing -/
def q_Tk (b ta : Nat) (I I' : q_I) : Prop := ∀ q k, (q < b ∨ b + 452 ≤ q) → q ≠ ta → I' q k = I q k
theorem q_shl_p {x p : Nat} (hx : x < 128) (hp : p < 4) : Int32.ofInt (x : Int) <<< (Int32.ofInt (24 - (8 * (p : Int))) &&& 31) = Int32.ofInt ((x * 2 ^ (24 - 8 * p) : Nat) : Int) := by
  have q := q_shl_all ⟨x, hx⟩
  rcases (show p = 0 ∨ p = 1 ∨ p = 2 ∨ p = 3 by omega) with rfl | rfl | rfl | rfl
  · exact q.1
  · exact q.2.1
  · exact q.2.2.1
  · have e := q.2.2.2
    rw [show (x * 2 ^ (24 - 8 * 3) : Nat) = x by rw [show 24 - 8 * 3 = 0 by decide, Nat.pow_zero, Nat.mul_one]]
    exact e
theorem q_TW.put {I : q_I} {ta tp n j p c : Nat} {bs : List Nat} (h : q_TW I ta tp bs) (hn : bs.length = n) (htp : tp = 20 * (n / 20)) (hj : j = n % 20 / 4) (hp : p = n % 4) (h7 : q_B7 bs) (hc : c < 128) : Int32.ofInt (I ta (1 + j)) ||| Int32.ofInt ((c * 2 ^ (24 - 8 * p) : Nat) : Int) = Int32.ofInt (g_wd4 (bs ++ [c]) (tp + 4 * j)) := by
  have hj5 : j < 5 := by omega
  have hnn : n = tp + 4 * j + p := by omega
  have lo : ∀ k, k < n → g_by (bs ++ [c]) k = g_by bs k := fun k hk => g_by_l (by omega)
  have at0 : g_by (bs ++ [c]) n = c := by rw [← hn]; exact g_by_at
  have hi : ∀ k, n < k → g_by (bs ++ [c]) k = 0 := fun k hk => g_by_ge (by rw [List.length_append]; simp only [List.length_cons, List.length_nil]; omega)
  have hi0 : ∀ k, n ≤ k → g_by bs k = 0 := fun k hk => g_by_ge (by omega)
  rw [h j hj5]
  unfold g_wd4
  rcases (show p = 0 ∨ p = 1 ∨ p = 2 ∨ p = 3 by omega) with e | e | e | e
  · subst e
    rw [hi0 _ (by omega), hi0 _ (by omega), hi0 _ (by omega), hi0 _ (by omega), hi (tp + 4 * j + 1) (by omega), hi (tp + 4 * j + 2) (by omega), hi (tp + 4 * j + 3) (by omega), show tp + 4 * j = n by omega, at0]
    exact g_pk_or0 hc
  · subst e
    rw [hi0 (tp + 4 * j + 1) (by omega), hi0 (tp + 4 * j + 2) (by omega), hi0 (tp + 4 * j + 3) (by omega), lo (tp + 4 * j) (by omega), hi (tp + 4 * j + 2) (by omega), hi (tp + 4 * j + 3) (by omega), show tp + 4 * j + 1 = n by omega, at0]
    exact g_pk_or1 (h7 _) hc
  · subst e
    rw [hi0 (tp + 4 * j + 2) (by omega), hi0 (tp + 4 * j + 3) (by omega), lo (tp + 4 * j) (by omega), lo (tp + 4 * j + 1) (by omega), hi (tp + 4 * j + 3) (by omega), show tp + 4 * j + 2 = n by omega, at0]
    exact g_pk_or2 (h7 _) (h7 _) hc
  · subst e
    rw [hi0 (tp + 4 * j + 3) (by omega), lo (tp + 4 * j) (by omega), lo (tp + 4 * j + 1) (by omega), lo (tp + 4 * j + 2) (by omega), show tp + 4 * j + 3 = n by omega, at0, show c * 2 ^ (24 - 8 * 3) = c by rw [show 24 - 8 * 3 = 0 by decide, Nat.pow_zero, Nat.mul_one]]
    exact g_pk_or3 (h7 _) (h7 _) (h7 _) hc
theorem q_TW.put2 {I : q_I} {ta tp n j c : Nat} {bs : List Nat} {v : Int} (h : q_TW I ta tp bs) (hn : bs.length = n) (htp : tp = 20 * (n / 20)) (hj : j = n % 20 / 4) : q_TW (u2 (u2 I ta (1 + j) (g_wd4 (bs ++ [c]) (tp + 4 * j))) ta 0 v) ta tp (bs ++ [c]) := fun i hi => by
  rw [u2_k _ _ (by omega)]
  by_cases e : i = j
  · subst e; rw [u2_s]
  · rw [u2_k _ _ (by omega), h i hi]
    unfold g_wd4
    by_cases e2 : i < j
    · rw [g_by_l (by omega), g_by_l (by omega), g_by_l (by omega), g_by_l (by omega)]
    · have z : ∀ k, n < k → g_by (bs ++ [c]) k = g_by bs k := fun k hk => by rw [g_by_ge (by rw [List.length_append]; simp only [List.length_cons, List.length_nil]; omega), g_by_ge (by omega)]
      rw [z _ (by omega), z _ (by omega), z _ (by omega), z _ (by omega)]
theorem g_wd4_r {bs : List Nat} (h : q_B7 bs) (k : Nat) : 0 ≤ g_wd4 bs k ∧ g_wd4 bs k < 2147483648 := by
  unfold g_wd4
  have := g_pk_lt (h k) (h (k + 1)) (h (k + 2)) (h (k + 3))
  omega
theorem g_wd4_0 {bs : List Nat} {k : Nat} (h : bs.length ≤ k) : g_wd4 bs k = 0 := by
  unfold g_wd4
  rw [g_by_ge (by omega), g_by_ge (by omega), g_by_ge (by omega), g_by_ge (by omega)]; rfl
theorem q_TW.fed {I : q_I} {ta tp : Nat} {bs : List Nat} (h : q_TW I ta tp bs) (h7 : q_B7 bs) {k : Nat} (hk : k < 20) : g_fed (I ta 1) (I ta 2) (I ta 3) (I ta 4) (I ta 5) k = (g_by bs (tp + k) : Int) := by
  have e0 := h 0 (by decide)
  have e1 := h 1 (by decide)
  have e2 := h 2 (by decide)
  have e3 := h 3 (by decide)
  have e4 := h 4 (by decide)
  rw [show I ta 1 = _ from e0, show I ta 2 = _ from e1, show I ta 3 = _ from e2, show I ta 4 = _ from e3, show I ta 5 = _ from e4]
  exact g_fed_pk (w := fun k => g_by bs (tp + k)) (fun k => h7 _) hk
