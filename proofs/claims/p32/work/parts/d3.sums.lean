/-! the lines told: order; sleep with its sum -/
theorem e_ords : ∀ a, a < 3 → g_sts (73 + a) = g_sts (32 + a) ∧ (∀ j, j < a → 0 < g_len (32 + j) ∧ 0 < g_len (73 + a) ∧ g_ch (32 + j) 0 ≠ g_ch (73 + a) 0) ∧ 0 < g_len (73 + a) ∧ 97 ≤ g_ch (73 + a) 0 ∧ g_ch (73 + a) 0 ≤ 122 := by decide +kernel
theorem e_rdO {B : Nat → Int} {n q a f c : Nat} {s : g_PS} {t : Nat → Int} {u : List Nat} {r : List Nat} (ha : a < 3) (h : e_at B n q (g_sts (73 + a) ++ c :: r)) (hc : ¬ (97 ≤ c ∧ c ≤ 122)) : g_rdO B n s (f + 1) t u q = g_rdO1 B n s t u q a ((g_sts (73 + a)).length + q) (g_rdO B n s f) := by
  obtain ⟨a1, a2, -⟩ := e_ords a ha
  have k1 : g_isW B n (32 + a) q := e_isW (by omega) (by rw [← a1]; exact h) hc
  have k2 : ∀ j, j < a → ¬ g_isW B n (32 + j) q := fun j hj z => by
    obtain ⟨b1, b2, b3⟩ := a2 j hj
    exact b3 ((z.1 0 b1).symm.trans (by rw [h.lf 0 (by rw [g_sts_len]; exact b2), g_by_sts (by omega) b2]))
  rw [a1, g_sts_len]
  show (if g_isW B n 32 q then _ else if g_isW B n 33 q then _ else if g_isW B n 34 q then _ else _) = _
  rcases (show a = 0 ∨ a = 1 ∨ a = 2 by omega) with rfl | rfl | rfl
  · rw [if_pos k1]
  · rw [if_neg (k2 0 (by decide)), if_pos k1]
  · rw [if_neg (k2 0 (by decide)), if_neg (k2 1 (by decide)), if_pos k1]
def e_od1 (a : Nat) : List Nat := g_sts 62 ++ (g_sts 49 ++ (g_sts (73 + a) ++ g_sts 52))
def e_od2 (a b : Nat) : List Nat := g_sts 62 ++ (g_sts 49 ++ (g_sts (73 + a) ++ (g_sts 49 ++ (g_sts (73 + b) ++ g_sts 52))))
theorem e_ohd {B : Nat → Int} {n q a : Nat} {X : List Nat} (ha : a < 3) (h : e_at B n q (g_sts (73 + a) ++ X)) : g_sk B n q = q ∧ g_sm (g_bt B n q) := by
  obtain ⟨-, -, a3, a4, a5⟩ := e_ords a ha
  have e : g_bt B n q = g_ch (73 + a) 0 := by
    have := h.lf 0 (by rw [g_sts_len]; exact a3)
    rw [g_by_sts (by omega) a3] at this
    exact this
  exact ⟨g_sk_e (by rw [e]; omega), by rw [e]; exact ⟨a4, a5⟩⟩
theorem e_order0 {B : Nat → Int} {n p cd on : Nat} {hp : Int} {t : Nat → Int} {X : List Nat} (h : e_at B n p (g_sts 62 ++ (g_sts 49 ++ X))) (hx : g_sk B n (p + (g_sts 62).length + 1) = p + (g_sts 62).length + 1) (hon : on < 8) : g_sk B n p = p ∧ g_bt B n p ≠ -1 ∧ g_bt B n p ≠ 32 ∧ g_lnB B n 4000 (g_mk p 0 (-1) cd 0 (on : Int) hp) t p = g_rdO B n (g_mk (g_len 43 + p) 0 (-1) cd 0 ((on + 8 : Nat) : Int) hp) 4 t [] (p + (g_sts 62).length + 1) := by
  have h1 : e_at B n p (111 :: 114 :: 100 :: 101 :: 114 :: _) := h.cg (by rw [g_sts_62]; rfl)
  obtain ⟨c26, c39, c40, c41, c42, c34, c1⟩ := e_c0
  have hw : g_isW B n 43 p := e_isW (c := 32) (by decide) (h.cg (by rw [g_sts_62, g_sts_26.2.2.2.2.2.2, g_sts_49]; rfl)) (by decide)
  obtain ⟨b1, b2⟩ := e_bits 3 (by decide) on (by omega) hon
  have h2 := h.ri
  rw [g_sts_49] at h2
  have hs : g_sk B n (g_len 43 + p) = p + (g_sts 62).length + 1 := by
    rw [show g_len 43 + p = p + (g_sts 62).length by rw [g_len_26.2.2.2.2.2.2, g_sts_62]; exact Nat.add_comm _ _, e_sp h2]
    exact hx
  refine ⟨e_sk h1 (by decide), by rw [h1.hd]; decide, by rw [h1.hd]; decide, ?_⟩
  unfold g_lnB
  rw [if_neg (e_no h1 c26 (by decide)), if_neg (e_no h1 c39 (by decide)), if_neg (e_no h1 c40 (by decide)), if_neg (fun z => e_no h1 c41 (by decide) z.1), if_neg (fun z => e_no h1 c42 (by decide) z.1), if_neg (fun z => e_no h1 c34 (by decide) z.1), if_pos ⟨hw, b1⟩, hs]
  show g_rdOrder B n (g_mk (g_len 43 + p) 0 (-1) cd 0 (g_or (on : Int) (g_shl 1 3)) hp) t _ = _
  rw [show g_or (on : Int) (g_shl 1 3) = ((on + 8 : Nat) : Int) from b2]
  rfl
theorem e_order1 {a p cd on : Nat} {hp : Int} {t : Nat → Int} (ha : a < 3) (hon : on < 8) : e_ln (e_od1 a) p cd (on : Int) hp t cd ((on + 8 : Nat) : Int) hp (g_up (g_up t 9 (a : Int)) 8 1) := fun B n h => by
  unfold e_od1 at h ⊢
  have h2 := h.ri
  have h3 := h2.ri
  rw [g_sts_49] at h3
  have h4 : e_at B n (p + (g_sts 62).length + 1) (g_sts (73 + a) ++ g_sts 52) := h3
  have h5 := h4.ri
  rw [g_sts_52] at h4 h5
  obtain ⟨x1, x2⟩ := e_ohd ha h4
  obtain ⟨y1, y2, y3, y4⟩ := e_order0 (cd := cd) (hp := hp) (t := t) h x1 hon
  refine ⟨p, y1, y2, y3, ?_⟩
  rw [y4, e_rdO ha h4 (by decide)]
  have h6 := h5.to (show p + (g_sts 62).length + 1 + (g_sts (73 + a)).length = (g_sts (73 + a)).length + (p + (g_sts 62).length + 1) by omega)
  unfold g_rdO1
  rw [if_neg (by simp), e_sk h6 (by decide), if_neg (by rw [h6.hd]; unfold g_sm; omega)]
  refine (e_after h6).trans ?_
  have e9 : (g_sts (73 + a)).length + (p + (g_sts 62).length + 1) + 1 = p + (g_sts 62 ++ (g_sts 49 ++ (g_sts (73 + a) ++ g_sts 52))).length := by
    simp only [List.length_append, g_sts_len, show g_len 52 = 1 by decide +kernel, show g_len 49 = 1 by decide +kernel]; omega
  rw [e9]; rfl
theorem e_order2 {a b p cd on : Nat} {hp : Int} {t : Nat → Int} (ha : a < 3) (hb : b < 3) (hab : b ≠ a) (hon : on < 8) : e_ln (e_od2 a b) p cd (on : Int) hp t cd ((on + 8 : Nat) : Int) hp (g_up (g_up (g_up t 9 (a : Int)) 10 (b : Int)) 8 2) := fun B n h => by
  unfold e_od2 at h ⊢
  have h2 := h.ri
  have h3 := h2.ri
  have h4 : e_at B n (p + (g_sts 62).length + 1) (g_sts (73 + a) ++ (g_sts 49 ++ (g_sts (73 + b) ++ g_sts 52))) := h3.to (by rw [g_sts_49]; rfl)
  have h5 := h4.ri
  have h6 := h5.ri
  have h7 := h6.ri
  rw [g_sts_52] at h6 h7
  rw [g_sts_49] at h5
  obtain ⟨x1, x2⟩ := e_ohd ha h4
  obtain ⟨y1, y2, y3, y4⟩ := e_order0 (cd := cd) (hp := hp) (t := t) h x1 hon
  refine ⟨p, y1, y2, y3, ?_⟩
  have h4' : e_at B n (p + (g_sts 62).length + 1) (g_sts (73 + a) ++ 32 :: (g_sts (73 + b) ++ g_sts 52)) := h4.cg (by rw [g_sts_49]; rfl)
  rw [y4, e_rdO ha h4' (by decide)]
  have e1 : (g_sts (73 + a)).length + (p + (g_sts 62).length + 1) = p + (g_sts 62).length + 1 + (g_sts (73 + a)).length := by omega
  have h6' : e_at B n (p + (g_sts 62).length + 1 + (g_sts (73 + a)).length + 1) (g_sts (73 + b) ++ [59]) := h6.to (by rw [g_sts_49]; rfl)
  obtain ⟨z1, z2⟩ := e_ohd hb h6'
  have hs : g_sk B n ((g_sts (73 + a)).length + (p + (g_sts 62).length + 1)) = p + (g_sts 62).length + 1 + (g_sts (73 + a)).length + 1 := by
    rw [e1, e_sp h5]; exact z1
  have h8 : e_at B n ((g_sts (73 + b)).length + (p + (g_sts 62).length + 1 + (g_sts (73 + a)).length + 1)) [59] := h7.to (by rw [g_sts_49, show [32].length = 1 from rfl]; omega)
  rw [g_rdO1, if_neg (by simp), hs, if_pos z2, e_rdO hb h6' (by decide), g_rdO1, if_neg (by simp only [List.mem_cons, List.not_mem_nil, or_false]; exact hab), e_sk h8 (by decide), if_neg (by rw [h8.hd]; unfold g_sm; omega)]
  refine (e_after h8).trans ?_
  have e9 : (g_sts (73 + b)).length + (p + (g_sts 62).length + 1 + (g_sts (73 + a)).length + 1) + 1 = p + (g_sts 62 ++ (g_sts 49 ++ (g_sts (73 + a) ++ (g_sts 49 ++ (g_sts (73 + b) ++ g_sts 52))))).length := by
    simp only [List.length_append, g_sts_len, show g_len 52 = 1 by decide +kernel, show g_len 49 = 1 by decide +kernel]; omega
  rw [e9]; rfl
/-! sums -/
theorem e_w0 : (0 < g_len 35 ∧ g_ch 35 0 = 99) ∧ (0 < g_len 36 ∧ g_ch 36 0 = 97) ∧ (0 < g_len 37 ∧ g_ch 37 0 = 115) ∧ (0 < g_len 38 ∧ g_ch 38 0 = 108) ∧ (0 < g_len 44 ∧ g_ch 44 0 = 109) ∧ (0 < g_len 45 ∧ g_ch 45 0 = 105) := by decide +kernel
theorem e_w1 : g_sts 35 = [99, 101, 110, 116, 115] ∧ g_sts 36 = [97, 103, 101] ∧ g_sts 38 = [108, 101, 116, 116, 101, 114, 115] ∧ g_sts 45 = [105, 102] ∧ g_sts 46 = [108, 101, 115, 115] ∧ g_sts 47 = [116, 104, 101, 110] ∧ g_sts 48 = [101, 108, 115, 101] := by decide +kernel
theorem e_w2 : g_len 35 = 5 ∧ g_len 36 = 3 ∧ g_len 38 = 7 ∧ g_len 45 = 2 ∧ g_len 46 = 4 ∧ g_len 47 = 4 ∧ g_len 48 = 4 := by decide +kernel
section
variable {B : Nat → Int} {n p q f : Nat} {r : List Nat} {c : Nat}
theorem e_bd {p : Nat} {cs : List Int} {F : Nat → List Int → g_Re} : (g_Re.ok p cs).bd F = F p cs := rfl
/-- a number as a factor -/
theorem e_f0 {v o : Nat} (hs : g_sk B n p = q) (hv : v < 100000) (h : e_at B n q (g_dg9 v ++ c :: r)) (hc : ¬ (48 ≤ c ∧ c ≤ 57)) : g_ex B n (f + 1) 0 o p = .ok (q + (g_dg9 v).length) [(v : Int)] := by
  obtain ⟨a1, a2, a3⟩ := e_num hv h hc
  rw [g_ex_0, hs, g_fac_num a1, a3, if_pos (by omega), a2]
/-- no more factors -/
theorem e_p0 {o : Nat} (h : e_at B n p (c :: r)) (hc : c ≠ 32 ∧ c ≠ 42 ∧ c ≠ 47) : g_ex B n (f + 1) 2 o p = .ok p [] := by
  rw [g_ex_2, e_sk h hc.1]
  unfold g_prL
  rw [if_neg (by rw [h.hd]; omega)]
/-- a number by itself as a product -/
theorem e_n1 {v o : Nat} (hs : g_sk B n p = q) (hv : v < 100000) (h : e_at B n q (g_dg9 v ++ c :: r)) (hc : ¬ (48 ≤ c ∧ c ≤ 57)) (hc2 : c ≠ 32 ∧ c ≠ 42 ∧ c ≠ 47) : g_ex B n (f + 2) 1 o p = .ok (q + (g_dg9 v).length) [(v : Int)] := by
  rw [g_ex_1, e_f0 hs hv h hc, e_bd, e_p0 h.ri hc2, e_bd]; rfl
/-- no more summands -/
theorem e_s0 {o : Nat} (h : e_at B n p (c :: r)) (hc : c ≠ 32 ∧ c ≠ 43 ∧ c ≠ 45) : g_ex B n (f + 1) 4 o p = .ok p [] := by
  rw [g_ex_4, e_sk h hc.1]
  unfold g_smL
  rw [if_neg (by rw [h.hd]; omega)]
/-- a word as a factor -/
theorem e_fw {o i : Nat} {m : Int} (hi : i = 35 ∧ m = -1 ∨ i = 36 ∧ m = -2 ∨ i = 38 ∧ m = -4) (hs : g_sk B n p = q) (h : e_at B n q (g_sts i ++ c :: r)) (hc : ¬ (97 ≤ c ∧ c ≤ 122)) : g_ex B n (f + 1) 0 o p = .ok (g_len i + q) [m] := by
  obtain ⟨c35, c36, c37, c38, c44, c45⟩ := e_w0
  have hw : g_isW B n i q := e_isW (by omega) h hc
  rw [g_ex_0, hs]
  unfold g_fac
  rcases hi with ⟨rfl, rfl⟩ | ⟨rfl, rfl⟩ | ⟨rfl, rfl⟩
  · have h1 : e_at B n q (99 :: _) := h.cg (by rw [e_w1.1]; rfl)
    rw [if_neg (by rw [h1.hd]; unfold g_dg; omega), if_pos hw]
  · have h1 : e_at B n q (97 :: _) := h.cg (by rw [e_w1.2.1]; rfl)
    rw [if_neg (by rw [h1.hd]; unfold g_dg; omega), if_neg (e_no h1 c35 (by decide)), if_pos hw]
  · have h1 : e_at B n q (108 :: _) := h.cg (by rw [e_w1.2.2.1]; rfl)
    rw [if_neg (by rw [h1.hd]; unfold g_dg; omega), if_neg (e_no h1 c35 (by decide)), if_neg (e_no h1 c36 (by decide)), if_neg (e_no h1 c37 (by decide)), if_pos hw]
/-- a word, then * or / and a number -/
theorem e_wn {o i v s : Nat} {m : Int} (hi : i = 35 ∧ m = -1 ∨ i = 36 ∧ m = -2 ∨ i = 38 ∧ m = -4) (hsn : s = 42 ∨ s = 47) (hs : g_sk B n p = p) (hv : v < 100000) (h : e_at B n p (g_sts i ++ (s :: (g_dg9 v ++ c :: r)))) (hc : ¬ (48 ≤ c ∧ c ≤ 57)) (hc2 : c ≠ 32 ∧ c ≠ 42 ∧ c ≠ 47) : g_ex B n (f + 3) 1 o p = .ok (p + (g_sts i).length + 1 + (g_dg9 v).length) [m, (v : Int), if s = 42 then -7 else -8] := by
  have h2 := h.ri
  have h3 := h2.tl
  have hsk : g_sk B n (1 + (p + (g_sts i).length)) = p + (g_sts i).length + 1 := by
    rw [Nat.add_comm 1]
    have := (e_num hv h3 hc).1
    exact g_sk_e (fun z => by rw [z] at this; unfold g_dg at this; omega)
  rw [g_ex_1, e_fw hi hs h (by omega), e_bd, g_ex_2, show g_len i + p = p + (g_sts i).length by rw [g_sts_len]; omega, e_sk h2 (by omega)]
  unfold g_prL
  rw [if_pos (by rw [h2.hd]; omega), e_f0 hsk hv h3 hc, e_bd, e_p0 h3.ri hc2, e_bd, e_bd, h2.hd]
  rcases hsn with rfl | rfl
  · rfl
  · rfl
/-- a word that must stand there, behind a blank -/
theorem e_mst {i : Nat} (hi : i < 76) (h : e_at B n p (32 :: (g_sts i ++ 32 :: r))) (h0 : ∃ a b, g_sts i = a :: b ∧ a ≠ 32) : g_mst B n i p = .ok (p + 1 + (g_sts i).length) [] := by
  obtain ⟨a, b, e, ha⟩ := h0
  have h1 := h.tl
  have h2 := h1
  rw [e] at h2
  have hs : g_sk B n p = p + 1 := by rw [e_sp h]; exact e_sk h2 ha
  unfold g_mst
  rw [hs, if_pos (e_isW hi h1 (by decide)), g_sts_len, Nat.add_comm]
end
