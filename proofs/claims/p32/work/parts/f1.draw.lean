/-! the law's bank while it is told -/
def q_OD (T : q_T) (I : q_I) (P : q_P) (K sz cd : Nat) (t : Nat → Int) : Prop := I K 4 = t 3 ∧ I K 5 = t 4 ∧ I K 6 = t 5 ∧ (∀ l i : Nat, (l : Int) < t 0 → l < 5 → i < 4 → I (K + 2 + l) i = t (31 + 13 * l + i)) ∧ (∀ i : Nat, i < 5 → I (K + 13) i = t (12 + i)) ∧ (∃ o n : Nat, P K 7 = some o ∧ ((o = K + 14 ∨ K + 20 ≤ o) ∧ o < sz) ∧ T o = some (.inr (0, n)) ∧ t 8 = (n : Int) ∧ n ≤ 3 ∧ ∀ j : Nat, j < n → I o j = t (9 + j)) ∧ (∀ i j : Nat, i < 5 → j < 5 → q_OL (fun q => K + 20 ≤ q ∧ q < sz) T I P K t i j ∧ t (90 + 2 * (5 * i + j)) ≤ (cd : Int))
def q_DS (T : q_T) (I L : q_I) (P : q_P) (K sz l9 cd : Nat) (t : Nat → Int) : Prop := q_OT T P K ∧ I K 0 = (l9 : Int) ∧ q_OD T I P K sz cd t ∧ (P K 9 = some (K + 15) ∧ P K 10 = some (K + 16) ∧ T (K + 15) = some (.inr (8, 0)) ∧ T (K + 16) = some (.inr (6, 0)) ∧ I K 8 = 0 ∧ I K 11 = 0) ∧ (∀ q j, K ≤ q → L q j = 0) ∧ q_F0 sz I L P ∧ K + 20 ≤ sz
section
variable {T T' : q_T} {I L I' L' : q_I} {P P' : q_P} {K sz sz' l9 cd cd' : Nat} {t t' : Nat → Int}
theorem q_DS.ot (h : q_DS T I L P K sz l9 cd t) : q_OT T P K := h.1
theorem q_DS.ln (h : q_DS T I L P K sz l9 cd t) : I K 0 = (l9 : Int) := h.2.1
theorem q_DS.od (h : q_DS T I L P K sz l9 cd t) : q_OD T I P K sz cd t := h.2.2.1
theorem q_DS.z (h : q_DS T I L P K sz l9 cd t) : q_F0 sz I L P := h.2.2.2.2.2.1
theorem q_DS.s20 (h : q_DS T I L P K sz l9 cd t) : K + 20 ≤ sz := h.2.2.2.2.2.2
theorem q_DS.wa (h : q_DS T I L P K sz l9 cd t) : I K 4 = t 3 := h.od.1
theorem q_DS.lt (h : q_DS T I L P K sz l9 cd t) : I K 5 = t 4 := h.od.2.1
theorem q_DS.hm (h : q_DS T I L P K sz l9 cd t) : I K 6 = t 5 := h.od.2.2.1
/-- nothing above K has changed but what is told -/
theorem q_DS.hi (h : q_DS T I L P K sz l9 cd t) (hI : ∀ q j, K ≤ q → I' q j = I q j) : q_DS T I' L P K sz l9 cd t := by
  obtain ⟨a1, a2, ⟨b1, b2, b3, b4, b5, ⟨o, n, o1, o2, o3, o4, o5, o6⟩, b7⟩, ⟨c1, c2, c3, c4, c5, c6⟩, a5, a6, a7⟩ := h
  refine ⟨a1, (hI _ _ (by omega)).trans a2, ⟨(hI _ _ (by omega)).trans b1, (hI _ _ (by omega)).trans b2, (hI _ _ (by omega)).trans b3, fun l i x y z => (hI _ _ (by omega)).trans (b4 l i x y z), fun i x => (hI _ _ (by omega)).trans (b5 i x), ⟨o, n, o1, o2, o3, o4, o5, fun j hj => (hI _ _ (by omega)).trans (o6 j hj)⟩, fun i j x y => ⟨(b7 i j x y).1.mv (fun _ z => z) (fun _ _ => rfl) rfl (fun q hq _ x => hI q x (by have := hq.1; omega)), (b7 i j x y).2⟩⟩, ⟨c1, c2, c3, c4, (hI _ _ (by omega)).trans c5, (hI _ _ (by omega)).trans c6⟩, a5, fun q j hq => ⟨(hI _ _ (by omega)).trans (a6 q j hq).1, (a6 q j hq).2⟩, a7⟩
theorem q_OL.rw' {E : Nat → Prop} {i j : Nat} (h : q_OL E T I P K t i j) (hcd : t (90 + 2 * (5 * i + j)) ≤ (cd : Int)) (e1 : t' (90 + 2 * (5 * i + j)) = t (90 + 2 * (5 * i + j))) (e2 : t' (89 + 2 * (5 * i + j)) = t (89 + 2 * (5 * i + j))) (e3 : ∀ x, x < cd → t' (139 + x) = t (139 + x)) : q_OL E T I P K t' i j := by
  unfold q_OL
  rw [e1, e2, g_dec_ext (t := t) (t' := t') _ _ (fun x _ h2 => e3 x (by omega))]
  exact h
/-- the laws stand as they were -/
theorem q_OD.lws (h : q_OD T I P K sz cd t) (hs : sz ≤ sz') (hc : cd ≤ cd') (hT : ∀ q, K ≤ q → q < sz → T' q = T q) (hI : ∀ q j, K + 20 ≤ q → q < sz → I' q j = I q j) (hP : ∀ q j, K + 8 ≤ q → q < K + 13 → P' q j = P q j) (ht : ∀ x, 89 ≤ x → x < 139 + cd → t' x = t x) : ∀ i j : Nat, i < 5 → j < 5 → q_OL (fun q => K + 20 ≤ q ∧ q < sz') T' I' P' K t' i j ∧ t' (90 + 2 * (5 * i + j)) ≤ (cd' : Int) := fun i j hi hj => by
  obtain ⟨x, y⟩ := h.2.2.2.2.2.2 i j hi hj
  have e1 := ht (90 + 2 * (5 * i + j)) (by omega) (by omega)
  refine ⟨(x.mv (E' := fun q => K + 20 ≤ q ∧ q < sz') (fun q z => ⟨z.1, by have := z.2; omega⟩) (fun q z => hT q (by have := z.1; omega) z.2) (hP _ _ (by omega) (by omega)) (fun q z _ a => hI q a z.1 z.2)).rw' y e1 (ht _ (by omega) (by omega)) (fun a ha => ht _ (by omega) (by omega)), by rw [e1]; omega⟩
/-- one stage on -/
theorem q_DS.upd (h : q_DS T I L P K sz l9 cd t) (hs : sz ≤ sz') (hT : ∀ q, K ≤ q → q < sz → T' q = T q) (hL : ∀ q j, K ≤ q → L' q j = L q j) (hP : ∀ q j, K ≤ q → q < K + 8 → (q = K → j ≠ 7) → P' q j = P q j) (h0 : I' K 0 = I K 0) (h8 : I' K 8 = I K 8) (h11 : I' K 11 = I K 11) (hz : ∀ q j, sz' ≤ q → I' q j = I q j ∧ P' q j = P q j) (hod : q_OD T' I' P' K sz' cd' t') : q_DS T' I' L' P' K sz' l9 cd' t' := by
  obtain ⟨a1, a2, -, ⟨c1, c2, c3, c4, c5, c6⟩, a5, a6, a7⟩ := h
  exact ⟨a1.mv (fun q a b => hT q a (by omega)) (fun q j a b c d => hP q j a (by by_cases z : K + 8 ≤ q; exact (d z).elim; omega) (fun z => (c z).1)), h0.trans a2, hod, ⟨(hP _ _ (by omega) (by omega) (by omega)).trans c1, (hP _ _ (by omega) (by omega) (by omega)).trans c2, (hT _ (by omega) (by omega)).trans c3, (hT _ (by omega) (by omega)).trans c4, h8.trans c5, h11.trans c6⟩, fun q j hq => (hL q j hq).trans (a5 q j hq), fun q j hq => ⟨(hz q j hq).1.trans (a6 q j (by omega)).1, (hL q j (by omega)).trans (a6 q j (by omega)).2.1, (hz q j hq).2.trans (a6 q j (by omega)).2.2⟩, by omega⟩
theorem g_t1_n {l c : Nat} {v1 v2 v3 v4 : Int} {x : Nat} (h : x < 30 + 13 * l ∨ 34 + 13 * l < x) : g_t1 t l c v1 v2 v3 v4 x = t x := by
  unfold g_t1
  rw [g_up_n _ _ (by omega), g_up_n _ _ (by omega), g_up_n _ _ (by omega), g_up_n _ _ (by omega), g_up_n _ _ (by omega)]
theorem e_len6 : ∀ l, l < 5 → g_len (68 + l) ≤ 6 := by decide +kernel
theorem e_len7 : ∀ l, l < 5 → g_len (63 + l) ≤ 7 := by decide +kernel
theorem e_len8 : ∀ l, l < 3 → g_len (73 + l) ≤ 7 := by decide +kernel
theorem e_lt_n {l v1 v2 v3 v4 x : Nat} (hl : l < 5) (h0 : x ≠ 0) (h : x < 24 + 13 * l ∨ 34 + 13 * l < x) : e_lt l v1 v2 v3 v4 t x = t x := by
  have := e_len6 l hl
  unfold e_lt
  rw [g_up_n _ _ h0, g_t1_n (by omega)]
  rw [if_neg (by omega)]
theorem e_lt_v {l v1 v2 v3 v4 : Nat} (i : Nat) (hi : i < 4) : e_lt l v1 v2 v3 v4 t (31 + 13 * l + i) = ((if i = 0 then v1 else if i = 1 then v2 else if i = 2 then v3 else v4 : Nat) : Int) := by
  unfold e_lt g_t1
  rw [g_up_n _ _ (by omega)]
  rcases (show i = 0 ∨ i = 1 ∨ i = 2 ∨ i = 3 by omega) with rfl | rfl | rfl | rfl
  · rw [g_up_n _ _ (by omega), g_up_n _ _ (by omega), g_up_n _ _ (by omega)]; exact g_up_s _ _ _
  · rw [g_up_n _ _ (by omega), g_up_n _ _ (by omega), show 31 + 13 * l + 1 = 32 + 13 * l by omega]; exact g_up_s _ _ _
  · rw [g_up_n _ _ (by omega), show 31 + 13 * l + 2 = 33 + 13 * l by omega]; exact g_up_s _ _ _
  · rw [show 31 + 13 * l + 3 = 34 + 13 * l by omega]; exact g_up_s _ _ _
theorem e_lt_nms {l v1 v2 v3 v4 : Nat} (hl : l < 5) (h : e_nms t l) : e_nms (e_lt l v1 v2 v3 v4 t) (l + 1) := fun j hj => by
  have h6 := e_len6 l hl
  by_cases e : j = l
  · subst e
    refine ⟨?_, fun k hk => ?_⟩
    · unfold e_lt g_t1
      rw [g_up_n _ _ (by omega), g_up_n _ _ (by omega), g_up_n _ _ (by omega), g_up_n _ _ (by omega), g_up_n _ _ (by omega), g_up_s]
    · unfold e_lt
      rw [g_up_n _ _ (by omega), g_t1_n (by omega)]
      rw [if_pos (by omega), show 24 + 13 * j + k - (24 + 13 * j) = k by omega]
  · have h7 := e_len6 j (by omega)
    obtain ⟨h1, h2⟩ := h j (by omega)
    exact ⟨(e_lt_n hl (by omega) (by omega)).trans h1, fun k hk => (e_lt_n hl (by omega) (by omega)).trans (h2 k hk)⟩
theorem e_nms.mv {L : Nat} (h : e_nms t L) (hL : L ≤ 5) (e : ∀ x, 24 ≤ x → x < 89 → t' x = t x) : e_nms t' L := fun j hj => by
  have h6 := e_len6 j (by omega)
  exact ⟨(e _ (by omega) (by omega)).trans (h j hj).1, fun k hk => (e _ (by omega) (by omega)).trans ((h j hj).2 k hk)⟩
/-- a land told -/
theorem q_DS.land {l v1 v2 v3 v4 : Nat} (h : q_DS T I L P K sz l9 cd t) (h0 : t 0 = (l : Int)) (hl : l < 5) (hT : ∀ q, K ≤ q → q < sz → T' q = T q) (hI : ∀ q j, K ≤ q → q ≠ K + 2 + l → q ≠ sz → I' q j = I q j) (hv : ∀ i, i < 4 → I' (K + 2 + l) i = ((if i = 0 then v1 else if i = 1 then v2 else if i = 2 then v3 else v4 : Nat) : Int)) : q_DS T' I' L P K (sz + 1) l9 cd (e_lt l v1 v2 v3 v4 t) := by
  have hs := h.s20
  have en : ∀ x, x ≠ 0 → (x < 24 + 13 * l ∨ 34 + 13 * l < x) → e_lt l v1 v2 v3 v4 t x = t x := fun x a b => e_lt_n hl a b
  refine h.upd (by omega) hT (fun _ _ _ => rfl) (fun _ _ _ _ _ => rfl) (hI _ _ (by omega) (by omega) (by omega)) (hI _ _ (by omega) (by omega) (by omega)) (hI _ _ (by omega) (by omega) (by omega)) (fun q j hq => ⟨hI q j (by omega) (by omega) (by omega), rfl⟩) ?_
  have hod := h.od
  obtain ⟨b1, b2, b3, b4, b5, ⟨o, n, o1, o2, o3, o4, o5, o6⟩, b7⟩ := hod
  refine ⟨(hI _ _ (by omega) (by omega) (by omega)).trans (b1.trans (en _ (by omega) (by omega)).symm), (hI _ _ (by omega) (by omega) (by omega)).trans (b2.trans (en _ (by omega) (by omega)).symm), (hI _ _ (by omega) (by omega) (by omega)).trans (b3.trans (en _ (by omega) (by omega)).symm), fun l' i x y z => ?_, fun i hi => (hI _ _ (by omega) (by omega) (by omega)).trans ((b5 i hi).trans (en _ (by omega) (by omega)).symm), ⟨o, n, o1, ⟨o2.1, by omega⟩, (hT _ (by omega) o2.2).trans o3, (en _ (by omega) (by omega)).trans o4, o5, fun j hj => (hI _ _ (by omega) (by omega) (by omega)).trans ((o6 j hj).trans (en _ (by omega) (by omega)).symm)⟩, h.od.lws (by omega) (Nat.le_refl _) hT (fun q j a b => hI q j (by omega) (by omega) (by omega)) (fun _ _ _ _ => rfl) (fun x a b => en x (by omega) (by omega))⟩
  by_cases e : l' = l
  · subst e; rw [e_lt_v i z]; exact hv i z
  · have x2 : (l' : Int) < (l : Int) + 1 := x
    exact (hI _ _ (by omega) (by omega) (by omega)).trans ((b4 l' i (by omega) y z).trans (en _ (by omega) (by omega)).symm)
/-- pays told -/
theorem q_DS.pays {k : Nat} {v : Int} (h : q_DS T I L P K sz l9 cd t) (hk : k < 5) : q_DS T (u2 I (K + 13) k v) L P K sz l9 cd (g_up t (12 + k) v) := by
  have hs := h.s20
  have e : ∀ x, x ≠ 12 + k → g_up t (12 + k) v x = t x := fun x hx => g_up_n _ _ hx
  have hI : ∀ q j, q ≠ K + 13 → u2 I (K + 13) k v q j = I q j := fun q j hq => u2_a _ _ hq
  refine h.upd (Nat.le_refl _) (fun _ _ _ => rfl) (fun _ _ _ => rfl) (fun _ _ _ _ _ => rfl) (hI _ _ (by omega)) (hI _ _ (by omega)) (hI _ _ (by omega)) (fun q j hq => ⟨hI q j (by omega), rfl⟩) ?_
  obtain ⟨b1, b2, b3, b4, b5, ⟨o, n, o1, o2, o3, o4, o5, o6⟩, b7⟩ := h.od
  refine ⟨(hI _ _ (by omega)).trans (b1.trans (e _ (by omega)).symm), (hI _ _ (by omega)).trans (b2.trans (e _ (by omega)).symm), (hI _ _ (by omega)).trans (b3.trans (e _ (by omega)).symm), fun l' i x y z => (hI _ _ (by omega)).trans ((b4 l' i (by rw [e 0 (by omega)] at x; exact x) y z).trans (e _ (by omega)).symm), fun i hi => ?_, ⟨o, n, o1, o2, o3, (e _ (by omega)).trans o4, o5, fun j hj => (hI _ _ (by omega)).trans ((o6 j hj).trans (e _ (by omega)).symm)⟩, h.od.lws (Nat.le_refl _) (Nat.le_refl _) (fun _ _ _ => rfl) (fun q j a b => hI q j (by omega)) (fun _ _ _ _ => rfl) (fun x a b => e x (by omega))⟩
  by_cases z : i = k
  · subst z; rw [u2_s, g_up_s]
  · rw [u2_k _ _ z, e _ (by omega)]; exact b5 i hi
/-- wait, letter, home told -/
theorem q_DS.one {c : Nat} {v : Int} (h : q_DS T I L P K sz l9 cd t) (hc : c = 3 ∨ c = 4 ∨ c = 5) : q_DS T (u2 I K (c + 1) v) L P K sz l9 cd (g_up t c v) := by
  have hs := h.s20
  have e : ∀ x, x ≠ c → g_up t c v x = t x := fun x hx => g_up_n _ _ hx
  have hI : ∀ q j, q ≠ K → u2 I K (c + 1) v q j = I q j := fun q j hq => u2_a _ _ hq
  have hK : ∀ j, j ≠ c + 1 → u2 I K (c + 1) v K j = I K j := fun j hj => u2_k _ _ hj
  refine h.upd (Nat.le_refl _) (fun _ _ _ => rfl) (fun _ _ _ => rfl) (fun _ _ _ _ _ => rfl) (hK _ (by omega)) (hK _ (by omega)) (hK _ (by omega)) (fun q j hq => ⟨hI q j (by omega), rfl⟩) ?_
  obtain ⟨b1, b2, b3, b4, b5, ⟨o, n, o1, o2, o3, o4, o5, o6⟩, b7⟩ := h.od
  refine ⟨?_, ?_, ?_, fun l' i x y z => (hI _ _ (by omega)).trans ((b4 l' i (by rw [e 0 (by omega)] at x; exact x) y z).trans (e _ (by omega)).symm), fun i hi => (hI _ _ (by omega)).trans ((b5 i hi).trans (e _ (by omega)).symm), ⟨o, n, o1, o2, o3, (e _ (by omega)).trans o4, o5, fun j hj => (hI _ _ (by omega)).trans ((o6 j hj).trans (e _ (by omega)).symm)⟩, h.od.lws (Nat.le_refl _) (Nat.le_refl _) (fun _ _ _ => rfl) (fun q j a b => hI q j (by omega)) (fun _ _ _ _ => rfl) (fun x a b => e x (by omega))⟩
  · by_cases z : c = 3
    · subst z; rw [u2_s, g_up_s]
    · rw [hK _ (by omega), e _ (by omega)]; exact b1
  · by_cases z : c = 4
    · subst z; rw [u2_s, g_up_s]
    · rw [hK _ (by omega), e _ (by omega)]; exact b2
  · by_cases z : c = 5
    · subst z; rw [u2_s, g_up_s]
    · rw [hK _ (by omega), e _ (by omega)]; exact b3
/-- the order told -/
theorem q_DS.order {n : Nat} (h : q_DS T I L P K sz l9 cd t) (hn : n ≤ 3) (hT : ∀ q, K ≤ q → q < sz → T' q = T q) (hTn : T' sz = some (.inr (0, n))) (hI : ∀ q j, K ≤ q → q ≠ sz → I' q j = I q j) (hv : ∀ j, j < n → I' sz j = t' (9 + j)) (h8 : t' 8 = (n : Int)) (ht : ∀ x, (x < 8 ∨ 11 < x) → t' x = t x) : q_DS T' I' L (u2 P K 7 (some sz)) K (sz + 1) l9 cd t' := by
  have hs := h.s20
  refine h.upd (by omega) hT (fun _ _ _ => rfl) (fun q j a b c => u2_ne0 _ (fun z => c z.1 z.2)) (hI _ _ (by omega) (by omega)) (hI _ _ (by omega) (by omega)) (hI _ _ (by omega) (by omega)) (fun q j hq => ⟨hI q j (by omega) (by omega), u2_a _ _ (by omega)⟩) ?_
  obtain ⟨b1, b2, b3, b4, b5, -, b7⟩ := h.od
  exact ⟨(hI _ _ (by omega) (by omega)).trans (b1.trans (ht _ (by omega)).symm), (hI _ _ (by omega) (by omega)).trans (b2.trans (ht _ (by omega)).symm), (hI _ _ (by omega) (by omega)).trans (b3.trans (ht _ (by omega)).symm), fun l' i x y z => (hI _ _ (by omega) (by omega)).trans ((b4 l' i (by rw [ht 0 (by omega)] at x; exact x) y z).trans (ht _ (by omega)).symm), fun i hi => (hI _ _ (by omega) (by omega)).trans ((b5 i hi).trans (ht _ (by omega)).symm), ⟨sz, n, u2_s _ _ _ _, ⟨Or.inr hs, by omega⟩, hTn, h8, hn, hv⟩, h.od.lws (by omega) (Nat.le_refl _) hT (fun q j a b => hI q j (by omega) (by omega)) (fun q j a b => u2_a _ _ (by omega)) (fun x a b => ht x (by omega))⟩
theorem e_cds_10 (s0 s1 s2 s3 : Nat) : ∀ c, c ∈ e_cds s0 s1 s2 s3 → -10 ≤ c := fun c hc => by
  unfold e_cds e_k1 e_k2 e_k3 at hc
  rcases List.mem_cons.1 hc with z | z
  · omega
  · rcases List.mem_append.1 z with z | z
    · split at z
      · cases z
      · simp only [List.mem_cons, List.not_mem_nil, or_false] at z; omega
    · rcases List.mem_append.1 z with z | z
      · split at z
        · cases z
        · simp only [List.mem_cons, List.not_mem_nil, or_false] at z; omega
      · split at z
        · cases z
        · simp only [List.mem_cons, List.not_mem_nil, or_false] at z; omega
theorem e_cds_el (s0 s1 s2 s3 : Nat) : 0 < g_el (e_cds s0 s1 s2 s3) ∧ g_el (e_cds s0 s1 s2 s3) < 100 := by
  unfold e_cds
  rw [g_el_pos (by omega), g_el_app, g_el_app]
  have h1 : g_el (e_k1 s1) ≤ 10 := by
    unfold e_k1
    split
    · decide
    · rw [g_el_neg (by omega), g_el_pos (by omega), g_el_neg (by omega), g_el_neg (by omega), g_el_nil]; decide
  have h2 : g_el (e_k2 s2) ≤ 10 := by
    unfold e_k2
    split
    · decide
    · rw [g_el_neg (by omega), g_el_pos (by omega), g_el_neg (by omega), g_el_neg (by omega), g_el_nil]; decide
  have h3 : g_el (e_k3 s3) ≤ 20 := by
    unfold e_k3
    split
    · decide
    · rw [g_el_neg (by omega), g_el_pos (by omega), g_el_pos (by omega), g_el_pos (by omega), g_el_neg (by omega), g_el_neg (by omega), g_el_nil]; decide
  omega
/-- a law of sleep told -/
theorem q_DS.law {k l s0 s1 s2 s3 : Nat} (h : q_DS T I L P K sz l9 cd t) (hk : k < 5) (hl : l < 5) (hs4 : s0 < 14 ∧ s1 < 4 ∧ s2 < 10 ∧ s3 < 30000) (hT : ∀ q, K ≤ q → q < sz → T' q = T q) (hTn : T' sz = some (.inr (0, 4))) (hI : ∀ q j, K ≤ q → q ≠ sz → I' q j = I q j) (hv : I' sz 0 = (s0 : Int) ∧ I' sz 1 = (s1 : Int) ∧ I' sz 2 = (s2 : Int) ∧ I' sz 3 = (s3 : Int)) : q_DS T' I' L (u2 P (K + 8 + k) l (some sz)) K (sz + 1) l9 (cd + g_el (e_cds s0 s1 s2 s3)) (e_st k l (e_cds s0 s1 s2 s3) cd t) := by
  have hs := h.s20
  have hel := e_cds_el s0 s1 s2 s3
  have e1 : ∀ x, x < 139 + cd → x ≠ 89 + 2 * (5 * k + l) → x ≠ 90 + 2 * (5 * k + l) → e_st k l (e_cds s0 s1 s2 s3) cd t x = t x := fun x a b c => by
    unfold e_st
    rw [g_up_n _ _ c, g_up_n _ _ b, g_app_lo _ _ _ _ (by omega)]
  have e2 : e_st k l (e_cds s0 s1 s2 s3) cd t (89 + 2 * (5 * k + l)) = (cd : Int) := by unfold e_st; rw [g_up_n _ _ (by omega), g_up_s]
  have e3 : e_st k l (e_cds s0 s1 s2 s3) cd t (90 + 2 * (5 * k + l)) = ((cd + g_el (e_cds s0 s1 s2 s3) : Nat) : Int) := by unfold e_st; rw [g_up_s]
  have e4 : g_dec (e_st k l (e_cds s0 s1 s2 s3) cd t) 901 cd (cd + g_el (e_cds s0 s1 s2 s3)) = e_cds s0 s1 s2 s3 := by
    refine g_dec_encs _ _ _ (e_cds_10 s0 s1 s2 s3) (by omega) (g_at_ext (t := g_app t (139 + cd) (g_encs (e_cds s0 s1 s2 s3))) _ _ (fun i a b => ?_) (g_at_app _ _ _))
    unfold e_st
    rw [g_up_n _ _ (by omega), g_up_n _ _ (by omega)]
  refine h.upd (by omega) hT (fun _ _ _ => rfl) (fun q j a b c => u2_a _ _ (by omega)) (hI _ _ (by omega) (by omega)) (hI _ _ (by omega) (by omega)) (hI _ _ (by omega) (by omega)) (fun q j hq => ⟨hI q j (by omega) (by omega), u2_a _ _ (by omega)⟩) ?_
  obtain ⟨b1, b2, b3, b4, b5, ⟨o, n, o1, o2, o3, o4, o5, o6⟩, b7⟩ := h.od
  refine ⟨(hI _ _ (by omega) (by omega)).trans (b1.trans (e1 _ (by omega) (by omega) (by omega)).symm), (hI _ _ (by omega) (by omega)).trans (b2.trans (e1 _ (by omega) (by omega) (by omega)).symm), (hI _ _ (by omega) (by omega)).trans (b3.trans (e1 _ (by omega) (by omega) (by omega)).symm), fun l' i x y z => (hI _ _ (by omega) (by omega)).trans ((b4 l' i (by rw [e1 0 (by omega) (by omega) (by omega)] at x; exact x) y z).trans (e1 _ (by omega) (by omega) (by omega)).symm), fun i hi => (hI _ _ (by omega) (by omega)).trans ((b5 i hi).trans (e1 _ (by omega) (by omega) (by omega)).symm), ⟨o, n, (u2_a _ _ (by omega)).trans o1, ⟨o2.1, by omega⟩, (hT _ (by omega) o2.2).trans o3, (e1 _ (by omega) (by omega) (by omega)).trans o4, o5, fun j hj => (hI _ _ (by omega) (by omega)).trans ((o6 j hj).trans (e1 _ (by omega) (by omega) (by omega)).symm)⟩, fun i j hi hj => ?_⟩
  by_cases e : i = k ∧ j = l
  · obtain ⟨rfl, rfl⟩ := e
    refine ⟨Or.inr ⟨by rw [e3]; omega, sz, s0, s1, s2, s3, u2_s _ _ _ _, ⟨hs, by omega⟩, hTn, hv, hs4, ?_⟩, by rw [e3]; exact Int.le_refl _⟩
    rw [e2, e3, Int.toNat_natCast, Int.toNat_natCast]
    exact e4
  · obtain ⟨x, y⟩ := b7 i j hi hj
    have f1 := e1 (90 + 2 * (5 * i + j)) (by omega) (by omega) (by omega)
    refine ⟨(x.mv (E' := fun q => K + 20 ≤ q ∧ q < sz + 1) (fun q z => ⟨z.1, by have := z.2; omega⟩) (fun q z => hT q (by have := z.1; omega) z.2) (u2_ne0 _ (by omega)) (fun q z _ a => hI q a (by have := z.1; omega) (by have := z.2; omega))).rw' y f1 (e1 _ (by omega) (by omega) (by omega)) (fun a ha => e1 _ (by omega) (by omega) (by omega)), by rw [f1]; omega⟩
end
theorem g_dge_lt (v : Nat) : (v < 10 → g_dge v = 0) ∧ (v < 100 → g_dge v ≤ 1) ∧ (v < 1000 → g_dge v ≤ 2) ∧ (v < 10000 → g_dge v ≤ 3) ∧ g_dge v ≤ 4 := by
  unfold g_dge
  split
  · omega
  · split
    · omega
    · split
      · omega
      · split <;> omega
theorem g_nb9_len (v : Nat) : (g_nb9 v).length = g_dge v + 2 := by
  unfold g_nb9
  rw [List.length_append, g_sts_len, g_dg9_len, show g_len 49 = 1 from by decide +kernel]
  omega
