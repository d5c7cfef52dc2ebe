/-! the lines told: land, pays, wait, letter, home, order -/
theorem e_nb (v : Nat) (x : List Nat) : g_nb9 v ++ x = 32 :: (g_dg9 v ++ x) := by unfold g_nb9; rw [g_sts_49]; rfl
theorem e_nb_len (v : Nat) : (g_nb9 v).length = 1 + (g_dg9 v).length := by unfold g_nb9; rw [g_sts_49]; exact Nat.add_comm _ _
section
variable {B : Nat → Int} {n p q q2 : Nat} {X r : List Nat} {t : Nat → Int} {cd : Nat} {on hp : Int}
theorem e_nu2 {v v2 : Nat} {lo hi : Int} {K : Int → Nat → g_Rl} (hv : v < 100000) (h : e_at B n p (g_nb9 v ++ (g_nb9 v2 ++ X))) (h1 : lo ≤ (v : Int)) (h2 : (v : Int) ≤ hi) : g_nu B n lo hi p K = K (v : Int) (p + (g_nb9 v).length) := by
  rw [e_nb v2] at h
  exact e_nu hv h (by decide) h1 h2
def e_lnd (l v1 v2 v3 v4 : Nat) : List Nat := (if l % 2 = 0 then g_sts 50 else g_sts 51) ++ (g_sts (68 + l) ++ (g_nb9 v1 ++ (g_nb9 v2 ++ (g_nb9 v3 ++ (g_nb9 v4 ++ g_sts 52)))))
def e_lt (l v1 v2 v3 v4 : Nat) (t : Nat → Int) : Nat → Int := g_up (g_t1 (fun i => if 24 + 13 * l ≤ i ∧ i < 24 + 13 * l + g_len (68 + l) then g_ch (68 + l) (i - (24 + 13 * l)) else t i) l (g_len (68 + l)) v1 v2 v3 v4) 0 ((l : Int) + 1)
theorem e_land2 {l v1 v2 v3 v4 : Nat} (hw : g_isW B n 26 q) (hs : g_sk B n (g_len 26 + q) = q2) (h : e_at B n q2 (g_sts (68 + l) ++ (g_nb9 v1 ++ (g_nb9 v2 ++ (g_nb9 v3 ++ (g_nb9 v4 ++ g_sts 52)))))) (hl : l < 3) (h0 : t 0 = (l : Int)) (ht : e_nms t l) (b1 : v1 ≤ 11) (b2 : v2 ≤ 9999) (b3 : v3 ≤ 999) (b4 : 1 ≤ v4 ∧ v4 ≤ 50) : g_after B n (g_lnB B n 4000 (g_mk q 0 (-1) cd 0 on hp) t q) = .ok (g_mk (q2 + (g_sts (68 + l) ++ (g_nb9 v1 ++ (g_nb9 v2 ++ (g_nb9 v3 ++ (g_nb9 v4 ++ g_sts 52))))).length) 0 (-1) cd 0 on hp) (e_lt l v1 v2 v3 v4 t) := by
  obtain ⟨n1, n2, n3⟩ := e_nm (c := 32) (r := g_dg9 v1 ++ (g_nb9 v2 ++ (g_nb9 v3 ++ (g_nb9 v4 ++ g_sts 52)))) hl (by rw [← e_nb]; exact h) (by decide)
  have a1 := h.ri.to (show q2 + (g_sts (68 + l)).length = g_len (68 + l) + q2 by rw [g_sts_len]; omega)
  have a2 := a1.ri
  have a3 := a2.ri
  have a4 := a3.ri
  have a5 := a4.ri
  rw [g_sts_52] at a4 a5
  have hl6 := (e_nm3 l hl).2.1
  have eT : g_up (g_t1 (g_nms B n t l q2 (g_len (68 + l))) l (g_len (68 + l)) v1 v2 v3 v4) 0 (g_t1 (g_nms B n t l q2 (g_len (68 + l))) l (g_len (68 + l)) v1 v2 v3 v4 0 + 1) = e_lt l v1 v2 v3 v4 t := by
    have e0 : g_t1 (g_nms B n t l q2 (g_len (68 + l))) l (g_len (68 + l)) v1 v2 v3 v4 0 = (l : Int) := by
      unfold g_t1
      rw [g_up_n _ _ (by omega), g_up_n _ _ (by omega), g_up_n _ _ (by omega), g_up_n _ _ (by omega), g_up_n _ _ (by omega)]
      unfold g_nms
      rw [if_neg (by omega)]; exact h0
    have en : g_nms B n t l q2 (g_len (68 + l)) = (fun i => if 24 + 13 * l ≤ i ∧ i < 24 + 13 * l + g_len (68 + l) then g_ch (68 + l) (i - (24 + 13 * l)) else t i) := by
      funext i
      unfold g_nms
      by_cases c : 24 + 13 * l ≤ i ∧ i < 24 + 13 * l + g_len (68 + l)
      · rw [if_pos c, if_pos c]; exact n3 _ (by omega)
      · rw [if_neg c, if_neg c]
    rw [e0, en]; rfl
  unfold g_lnB
  rw [if_pos hw, hs]
  unfold g_rdLand
  rw [if_neg (show ¬ (((t 0).toNat : Nat) : Int) = 5 by omega), if_pos n2, n1, e_land_new ht h0 hl, if_pos rfl, show (t 0).toNat = l by omega]
  rw [e_nu2 (by omega) a1 (by omega) (by omega), e_nu2 (by omega) a2 (by omega) (by omega), e_nu2 (by omega) a3 (by omega) (by omega), e_nu (by omega) a4 (by decide) (by omega) (by omega)]
  refine (e_after a5).trans ?_
  rw [eT, show q2 + (g_sts (68 + l) ++ (g_nb9 v1 ++ (g_nb9 v2 ++ (g_nb9 v3 ++ (g_nb9 v4 ++ g_sts 52))))).length = g_len (68 + l) + q2 + (g_nb9 v1).length + (g_nb9 v2).length + (g_nb9 v3).length + (g_nb9 v4).length + 1 by simp only [List.length_append, g_sts_len, show g_len 52 = 1 by decide +kernel]; omega]
end
theorem g_len_26 : g_len 26 = 4 ∧ g_len 39 = 5 ∧ g_len 40 = 4 ∧ g_len 41 = 4 ∧ g_len 42 = 6 ∧ g_len 34 = 4 ∧ g_len 43 = 5 := by decide +kernel
theorem g_sts_26 : g_sts 26 = [108, 97, 110, 100] ∧ g_sts 39 = [115, 108, 101, 101, 112] ∧ g_sts 40 = [112, 97, 121, 115] ∧ g_sts 41 = [119, 97, 105, 116] ∧ g_sts 42 = [108, 101, 116, 116, 101, 114] ∧ g_sts 34 = [104, 111, 109, 101] ∧ g_sts 43 = [111, 114, 100, 101, 114] := by decide +kernel
/-- first letters -/
theorem e_c0 : (0 < g_len 26 ∧ g_ch 26 0 = 108) ∧ (0 < g_len 39 ∧ g_ch 39 0 = 115) ∧ (0 < g_len 40 ∧ g_ch 40 0 = 112) ∧ (0 < g_len 41 ∧ g_ch 41 0 = 119) ∧ (0 < g_len 42 ∧ g_ch 42 0 = 108) ∧ (0 < g_len 34 ∧ g_ch 34 0 = 104) ∧ (1 < g_len 26 ∧ g_ch 26 1 = 97) := by decide +kernel
theorem e_no {B : Nat → Int} {n p i c x : Nat} {r : List Nat} (h : e_at B n p (c :: r)) (hi : 0 < g_len i ∧ g_ch i 0 = (x : Int)) (hx : c ≠ x) : ¬ g_isW B n i p := e_nw0 h ⟨hi.1, by rw [hi.2]; omega⟩
theorem e_land {l v1 v2 v3 v4 p cd : Nat} {on hp : Int} {t : Nat → Int} (hl : l < 3) (h0 : t 0 = (l : Int)) (ht : e_nms t l) (b1 : v1 ≤ 11) (b2 : v2 ≤ 9999) (b3 : v3 ≤ 999) (b4 : 1 ≤ v4 ∧ v4 ≤ 50) : e_ln (e_lnd l v1 v2 v3 v4) p cd on hp t cd on hp (e_lt l v1 v2 v3 v4 t) := fun B n h => by
  unfold e_lnd at h ⊢
  obtain ⟨k1, k2, -⟩ := e_nm3 l hl
  obtain ⟨x0, xr, hx, hx1⟩ : ∃ x0 xr, g_sts (68 + l) = x0 :: xr ∧ 97 ≤ x0 := by
    have := (e_nm3 l hl).2.2
    match e : g_sts (68 + l) with
    | [] => have q := g_sts_len (68 + l); rw [e] at q; have : 0 = g_len (68 + l) := q; omega
    | a :: b => exact ⟨a, b, rfl, by rw [e] at this; exact (this a List.mem_cons_self).1⟩
  by_cases c : l % 2 = 0
  · rw [if_pos c] at h ⊢
    have h2 := h.ri
    have h1 : e_at B n p (108 :: 97 :: 110 :: 100 :: 32 :: _) := h.cg (by rw [g_sts_50]; rfl)
    refine ⟨p, e_sk h1 (by decide), by rw [h1.hd]; decide, by rw [h1.hd]; decide, ?_⟩
    have hw : g_isW B n 26 p := e_isW (c := 32) (by decide) (h.cg (by rw [g_sts_50, g_sts_26.1]; rfl)) (by decide)
    have h4 := h1.tl.tl.tl.tl
    have h5 := h2
    rw [hx] at h5
    have hs : g_sk B n (g_len 26 + p) = p + (g_sts 50).length := by
      rw [g_len_26.1, show 4 + p = p + 1 + 1 + 1 + 1 by omega, e_sp h4, show p + 1 + 1 + 1 + 1 + 1 = p + (g_sts 50).length by rw [g_sts_50]; rfl]
      exact e_sk h5 (by omega)
    rw [e_land2 hw hs h2 hl h0 ht b1 b2 b3 b4, List.length_append (as := g_sts 50), Nat.add_assoc]
  · rw [if_neg c] at h ⊢
    have h2 := h.ri
    have h1 : e_at B n p (32 :: 32 :: 108 :: 97 :: 110 :: 100 :: 32 :: 32 :: _) := h.cg (by rw [g_sts_51]; rfl)
    have e1 : g_sk B n p = p + 1 + 1 := by rw [e_sp h1, e_sp h1.tl]; exact e_sk h1.tl.tl (by decide)
    refine ⟨p + 1 + 1, e1, by rw [h1.tl.tl.hd]; decide, by rw [h1.tl.tl.hd]; decide, ?_⟩
    have hw : g_isW B n 26 (p + 1 + 1) := e_isW (c := 32) (by decide) (h1.tl.tl.cg (by rw [g_sts_26.1]; rfl)) (by decide)
    have h4 := h1.tl.tl.tl.tl.tl.tl
    have h5 := h2
    rw [hx] at h5
    have hs : g_sk B n (g_len 26 + (p + 1 + 1)) = p + (g_sts 51).length := by
      rw [g_len_26.1, show 4 + (p + 1 + 1) = p + 1 + 1 + 1 + 1 + 1 + 1 by omega, e_sp h4, e_sp h4.tl, show p + 1 + 1 + 1 + 1 + 1 + 1 + 1 + 1 = p + (g_sts 51).length by rw [g_sts_51]; rfl]
      exact e_sk h5 (by omega)
    rw [e_land2 hw hs h2 hl h0 ht b1 b2 b3 b4, List.length_append (as := g_sts 51), Nat.add_assoc]
/-- kinds -/
theorem e_kinds : ∀ k, k < 5 → g_sts (63 + k) = g_sts (27 + k) ∧ ∀ j, j < k → 0 < g_len (27 + j) ∧ 0 < g_len (63 + k) ∧ (g_ch (27 + j) 0 ≠ g_ch (63 + k) 0 ∨ (1 < g_len (27 + j) ∧ 1 < g_len (63 + k) ∧ g_ch (27 + j) 1 ≠ g_ch (63 + k) 1)) := by decide +kernel
theorem e_kd {B : Nat → Int} {n q k c : Nat} {r : List Nat} (hk : k < 5) (h : e_at B n q (g_sts (63 + k) ++ c :: r)) (hc : ¬ (97 ≤ c ∧ c ≤ 122)) : g_isW B n (27 + k) q ∧ ∀ j, j < k → ¬ g_isW B n (27 + j) q := by
  obtain ⟨a, b⟩ := e_kinds k hk
  refine ⟨e_isW (by omega) (by rw [← a]; exact h) hc, fun j hj z => ?_⟩
  obtain ⟨b1, b2, b3⟩ := b j hj
  have hb : ∀ i, i < g_len (63 + k) → g_bt B n (q + i) = g_ch (63 + k) i := fun i hi => by rw [h.lf i (by rw [g_sts_len]; exact hi), g_by_sts (by omega) hi]
  rcases b3 with e | ⟨e1, e2, e3⟩
  · exact e ((z.1 0 b1).symm.trans (hb 0 b2))
  · exact e3 ((z.1 1 e1).symm.trans (hb 1 e2))
def e_pay (k v : Nat) : List Nat := g_sts 58 ++ (g_sts (63 + k) ++ (g_nb9 v ++ g_sts 52))
theorem e_rdPays {B : Nat → Int} {n q k : Nat} {s : g_PS} {t : Nat → Int} (hk : k < 5) (h1 : g_isW B n (27 + k) q) (h2 : ∀ j, j < k → ¬ g_isW B n (27 + j) q) : g_rdPays B n s t q = g_rdP B n s t k (k : Int) (g_len (27 + k) + q) q := by
  unfold g_rdPays
  rcases (show k = 0 ∨ k = 1 ∨ k = 2 ∨ k = 3 ∨ k = 4 by omega) with rfl | rfl | rfl | rfl | rfl
  · rw [if_pos h1]; rfl
  · rw [if_neg (h2 0 (by decide)), if_pos h1]; rfl
  · rw [if_neg (h2 0 (by decide)), if_neg (h2 1 (by decide)), if_pos h1]; rfl
  · rw [if_neg (h2 0 (by decide)), if_neg (h2 1 (by decide)), if_neg (h2 2 (by decide)), if_pos h1]; rfl
  · rw [if_neg (h2 0 (by decide)), if_neg (h2 1 (by decide)), if_neg (h2 2 (by decide)), if_neg (h2 3 (by decide)), if_pos h1]; rfl
theorem e_rdSl {B : Nat → Int} {n f q k : Nat} {s : g_PS} {t : Nat → Int} (hk : k < 5) (h1 : g_isW B n (27 + k) q) (h2 : ∀ j, j < k → ¬ g_isW B n (27 + j) q) : g_rdSleep B n f s t q = g_rdS B n f s t (k : Int) (g_sk B n (g_len (27 + k) + q)) := by
  unfold g_rdSleep
  rcases (show k = 0 ∨ k = 1 ∨ k = 2 ∨ k = 3 ∨ k = 4 by omega) with rfl | rfl | rfl | rfl | rfl
  · rw [if_pos h1]; rfl
  · rw [if_neg (h2 0 (by decide)), if_pos h1]; rfl
  · rw [if_neg (h2 0 (by decide)), if_neg (h2 1 (by decide)), if_pos h1]; rfl
  · rw [if_neg (h2 0 (by decide)), if_neg (h2 1 (by decide)), if_neg (h2 2 (by decide)), if_pos h1]; rfl
  · rw [if_neg (h2 0 (by decide)), if_neg (h2 1 (by decide)), if_neg (h2 2 (by decide)), if_neg (h2 3 (by decide)), if_pos h1]; rfl
theorem e_c1 (k : Nat) (hk : k < 5) : ∃ a b, g_sts (63 + k) = a :: b ∧ 97 ≤ a ∧ a ≤ 122 := by
  rcases (show k = 0 ∨ k = 1 ∨ k = 2 ∨ k = 3 ∨ k = 4 by omega) with rfl | rfl | rfl | rfl | rfl
  · exact ⟨_, _, g_sts_63, by decide⟩
  · exact ⟨_, _, g_sts_64, by decide⟩
  · exact ⟨_, _, g_sts_65, by decide⟩
  · exact ⟨_, _, g_sts_66, by decide⟩
  · exact ⟨_, _, g_sts_67, by decide⟩
theorem e_len27 (k : Nat) (hk : k < 5) : g_len (27 + k) = (g_sts (63 + k)).length := by rw [(e_kinds k hk).1, g_sts_len]
theorem e_pays {k v p cd hp : Nat} {on : Int} {t : Nat → Int} (hk : k < 5) (hv : v ≤ 999) (hh : hp < 2 ^ k) : e_ln (e_pay k v) p cd on (hp : Int) t cd on ((hp + 2 ^ k : Nat) : Int) (g_up t (12 + k) (v : Int)) := fun B n h => by
  unfold e_pay at h ⊢
  have h2 := h.ri
  have h1 : e_at B n p (112 :: 97 :: 121 :: 115 :: 32 :: _) := h.cg (by rw [g_sts_58]; rfl)
  refine ⟨p, e_sk h1 (by decide), by rw [h1.hd]; decide, by rw [h1.hd]; decide, ?_⟩
  obtain ⟨c26, c39, c40, c41, c42, c34, -⟩ := e_c0
  have hw : g_isW B n 40 p := e_isW (c := 32) (by decide) (h1.cg (by rw [g_sts_26.2.2.1]; rfl)) (by decide)
  obtain ⟨a, b, hx, hx1, hx2⟩ := e_c1 k hk
  have h5 := h2
  rw [hx] at h5
  have hs : g_sk B n (g_len 40 + p) = p + (g_sts 58).length := by
    rw [g_len_26.2.2.1, show 4 + p = p + 1 + 1 + 1 + 1 by omega, e_sp h1.tl.tl.tl.tl, show p + 1 + 1 + 1 + 1 + 1 = p + (g_sts 58).length by rw [g_sts_58]; rfl]
    exact e_sk h5 (by omega)
  have h6 := h2
  rw [e_nb] at h6
  obtain ⟨k1, k2⟩ := e_kd hk h6 (by decide)
  have a1 := h2.ri
  have a2 := a1.ri
  rw [g_sts_52] at a1 a2
  have hp32 : hp < 32 := by
    rcases (show k = 0 ∨ k = 1 ∨ k = 2 ∨ k = 3 ∨ k = 4 by omega) with rfl | rfl | rfl | rfl | rfl <;> omega
  obtain ⟨b1, b2⟩ := e_bits k hk hp hp32 hh
  rw [e_nb] at a1
  obtain ⟨d1, d2, d3⟩ := e_num (v := v) (by omega) a1.tl (by decide)
  have hsk : g_sk B n (g_len (27 + k) + (p + (g_sts 58).length)) = p + (g_sts 58).length + (g_sts (63 + k)).length + 1 := by
    rw [e_len27 k hk, Nat.add_comm, e_sp a1]
    exact g_sk_e (fun z => by rw [z] at d1; unfold g_dg at d1; omega)
  unfold g_lnB
  rw [if_neg (e_no h1 c26 (by decide)), if_neg (e_no h1 c39 (by decide)), if_pos hw, hs, e_rdPays hk k1 k2]
  unfold g_rdP
  rw [if_neg (show ¬ g_and (g_shr (g_mk (g_len 40 + p) (g_mk p 0 (-1) cd 0 on (hp : Int)).fl (g_mk p 0 (-1) cd 0 on (hp : Int)).fa (g_mk p 0 (-1) cd 0 on (hp : Int)).cd (g_mk p 0 (-1) cd 0 on (hp : Int)).op (g_mk p 0 (-1) cd 0 on (hp : Int)).on (g_mk p 0 (-1) cd 0 on (hp : Int)).hp).hp (k : Int)) 1 = 1 from b1), hsk, if_pos d1, d3, if_pos ⟨by omega, by omega⟩, d2]
  refine (e_after (a2.to ?_)).trans ?_
  · rw [e_nb_len]; omega
  · have e9 : p + (g_sts 58).length + (g_sts (63 + k)).length + 1 + (g_dg9 v).length + 1 = p + (g_sts 58 ++ (g_sts (63 + k) ++ (g_nb9 v ++ g_sts 52))).length := by
      simp only [List.length_append, e_nb_len, g_sts_len, show g_len 52 = 1 by decide +kernel]; omega
    rw [e9, ← b2]
def e_wt (v : Nat) : List Nat := g_sts 59 ++ (g_nb9 v ++ g_sts 52)
theorem e_wait {v p cd : Nat} {hp : Int} {t : Nat → Int} (hv : v ≤ 60) : e_ln (e_wt v) p cd 0 hp t cd 1 hp (g_up t 3 (v : Int)) := fun B n h => by
  unfold e_wt at h ⊢
  have h2 := h.ri
  have h1 : e_at B n p (119 :: 97 :: 105 :: 116 :: _) := h.cg (by rw [g_sts_59]; rfl)
  refine ⟨p, e_sk h1 (by decide), by rw [h1.hd]; decide, by rw [h1.hd]; decide, ?_⟩
  obtain ⟨c26, c39, c40, c41, c42, c34, -⟩ := e_c0
  have hw : g_isW B n 41 p := e_isW (c := 32) (by decide) (h.cg (by rw [g_sts_59, g_sts_26.2.2.2.1, e_nb])) (by decide)
  have a2 := h2.ri
  rw [g_sts_52] at h2 a2
  have h3 := h2.to (show p + (g_sts 59).length = g_len 41 + p by rw [g_sts_59, g_len_26.2.2.2.1]; exact Nat.add_comm _ _)
  unfold g_lnB
  rw [if_neg (e_no h1 c26 (by decide)), if_neg (e_no h1 c39 (by decide)), if_neg (e_no h1 c40 (by decide)), if_pos ⟨hw, show g_and (g_shr 0 0) 1 ≠ 1 by decide +kernel⟩, e_nu (by omega) h3 (by decide) (by omega) (by omega)]
  refine (e_after (a2.to ?_)).trans ?_
  · rw [g_sts_59, g_len_26.2.2.2.1, show [119, 97, 105, 116].length = 4 from rfl]; omega
  · have e9 : g_len 41 + p + (g_nb9 v).length + 1 = p + (g_sts 59 ++ (g_nb9 v ++ g_sts 52)).length := by
      simp only [List.length_append, g_sts_len, show g_len 52 = 1 by decide +kernel, show g_len 59 = 4 by decide +kernel, g_len_26.2.2.2.1]; omega
    rw [e9, show g_or (g_mk p 0 (-1) cd 0 0 hp).on (g_shl 1 0) = 1 by show g_or 0 (g_shl 1 0) = 1; decide +kernel]
/-- on: which of wait, letter, home, order were told -/
def e_lr (v : Nat) : List Nat := g_sts 60 ++ (g_nb9 v ++ g_sts 52)
theorem e_letter {v p cd on : Nat} {hp : Int} {t : Nat → Int} (hv : v ≤ 999) (hon : on < 2) : e_ln (e_lr v) p cd (on : Int) hp t cd ((on + 2 : Nat) : Int) hp (g_up t 4 (v : Int)) := fun B n h => by
  unfold e_lr at h ⊢
  have h2 := h.ri
  have h1 : e_at B n p (108 :: 101 :: 116 :: 116 :: 101 :: 114 :: _) := h.cg (by rw [g_sts_60]; rfl)
  refine ⟨p, e_sk h1 (by decide), by rw [h1.hd]; decide, by rw [h1.hd]; decide, ?_⟩
  obtain ⟨c26, c39, c40, c41, c42, c34, c1⟩ := e_c0
  have hw : g_isW B n 42 p := e_isW (c := 32) (by decide) (h.cg (by rw [g_sts_60, g_sts_26.2.2.2.2.1, e_nb])) (by decide)
  have a2 := h2.ri
  rw [g_sts_52] at h2 a2
  have h3 := h2.to (show p + (g_sts 60).length = g_len 42 + p by rw [g_sts_60, g_len_26.2.2.2.2.1]; exact Nat.add_comm _ _)
  have n26 : ¬ g_isW B n 26 p := fun z => by
    have := (z.1 1 c1.1).symm.trans h1.tl.hd
    rw [c1.2] at this
    omega
  obtain ⟨b1, b2⟩ := e_bits 1 (by decide) on (by omega) hon
  unfold g_lnB
  rw [if_neg n26, if_neg (e_no h1 c39 (by decide)), if_neg (e_no h1 c40 (by decide)), if_neg (fun z => e_no h1 c41 (by decide) z.1), if_pos ⟨hw, b1⟩, e_nu (by omega) h3 (by decide) (by omega) (by omega)]
  refine (e_after (a2.to ?_)).trans ?_
  · rw [g_sts_60, g_len_26.2.2.2.2.1, show [108, 101, 116, 116, 101, 114].length = 6 from rfl]; omega
  · have e9 : g_len 42 + p + (g_nb9 v).length + 1 = p + (g_sts 60 ++ (g_nb9 v ++ g_sts 52)).length := by
      simp only [List.length_append, g_sts_len, show g_len 52 = 1 by decide +kernel, show g_len 60 = 6 by decide +kernel, g_len_26.2.2.2.2.1]; omega
    rw [e9]
    show _ = g_Rl.ok (g_mk _ 0 (-1) cd 0 ((on + 2 ^ 1 : Nat) : Int) hp) _
    rw [← b2]; rfl
def e_hm (l : Nat) : List Nat := g_sts 61 ++ (g_sts (68 + l) ++ g_sts 52)
theorem e_home {l L p cd on : Nat} {hp : Int} {t : Nat → Int} (hl : l < L) (hL : L ≤ 3) (h0 : t 0 = (L : Int)) (ht : e_nms t L) (hon : on < 4) : e_ln (e_hm l) p cd (on : Int) hp t cd ((on + 4 : Nat) : Int) hp (g_up t 5 (l : Int)) := fun B n h => by
  unfold e_hm at h ⊢
  have h2 := h.ri
  have h1 : e_at B n p (104 :: 111 :: 109 :: 101 :: 32 :: _) := h.cg (by rw [g_sts_61]; rfl)
  refine ⟨p, e_sk h1 (by decide), by rw [h1.hd]; decide, by rw [h1.hd]; decide, ?_⟩
  obtain ⟨c26, c39, c40, c41, c42, c34, c1⟩ := e_c0
  have hw : g_isW B n 34 p := e_isW (c := 32) (by decide) (h1.cg (by rw [g_sts_26.2.2.2.2.2.1]; rfl)) (by decide)
  have a2 := h2.ri
  rw [g_sts_52] at h2 a2
  obtain ⟨n1, n2, n3⟩ := e_nm (by omega) h2 (by decide)
  obtain ⟨x0, xr, hx, hx1⟩ : ∃ x0 xr, g_sts (68 + l) = x0 :: xr ∧ 97 ≤ x0 := by
    have k := e_nm3 l (by omega)
    match e : g_sts (68 + l) with
    | [] => have q := g_sts_len (68 + l); rw [e] at q; have : 0 = g_len (68 + l) := q; omega
    | a :: b => exact ⟨a, b, rfl, by have := k.2.2; rw [e] at this; exact (this a List.mem_cons_self).1⟩
  have h5 := h2
  rw [hx] at h5
  have hs : g_sk B n (g_len 34 + p) = p + (g_sts 61).length := by
    rw [g_len_26.2.2.2.2.2.1, show 4 + p = p + 1 + 1 + 1 + 1 by omega, e_sp h1.tl.tl.tl.tl, show p + 1 + 1 + 1 + 1 + 1 = p + (g_sts 61).length by rw [g_sts_61]; rfl]
    exact e_sk h5 (by omega)
  obtain ⟨b1, b2⟩ := e_bits 2 (by decide) on (by omega) hon
  have el := e_land_of (q := p + (g_sts 61).length) ht h0 hL hl n3
  unfold g_lnB
  rw [if_neg (e_no h1 c26 (by decide)), if_neg (e_no h1 c39 (by decide)), if_neg (e_no h1 c40 (by decide)), if_neg (fun z => e_no h1 c41 (by decide) z.1), if_neg (fun z => e_no h1 c42 (by decide) z.1), if_pos ⟨hw, b1⟩, hs, if_pos n2, n1, el, if_neg (by omega)]
  refine (e_after (a2.to ?_)).trans ?_
  · rw [g_sts_len (68 + l)]; omega
  · have e9 : g_len (68 + l) + (p + (g_sts 61).length) + 1 = p + (g_sts 61 ++ (g_sts (68 + l) ++ g_sts 52)).length := by
      simp only [List.length_append, g_sts_len, show g_len 52 = 1 by decide +kernel]; omega
    rw [e9]
    show _ = g_Rl.ok (g_mk _ 0 (-1) cd 0 ((on + 2 ^ 2 : Nat) : Int) hp) _
    rw [← b2]; rfl
