/-! a sleep line and its sum -/
def e_g1 (s : Nat) : List Nat := if s = 0 then [] else g_sts 54 ++ g_dg9 s
def e_g2 (s : Nat) : List Nat := if s = 0 then [] else g_sts 55 ++ g_dg9 s
def e_g3 (s : Nat) : List Nat := if s = 0 then [] else g_sts 56 ++ (g_nb9 s ++ g_sts 57)
def e_k1 (s : Nat) : List Int := if s = 0 then [] else [-4, (s : Int), -7, -5]
def e_k2 (s : Nat) : List Int := if s = 0 then [] else [-2, (s : Int), -8, -6]
def e_k3 (s : Nat) : List Int := if s = 0 then [] else [-1, (s : Int), 5, 0, -10, -5]
def e_cds (s0 s1 s2 s3 : Nat) : List Int := (s0 : Int) :: (e_k1 s1 ++ (e_k2 s2 ++ e_k3 s3))
theorem e_d5 : g_dg9 5 = [53] ∧ g_dg9 0 = [48] := by decide +kernel
section
variable {B : Nat → Int} {n p q f : Nat} {r : List Nat} {c : Nat}
theorem e_if {v : Nat} (hv : v < 100000) (h : e_at B n p (105 :: 102 :: 32 :: (g_sts 35 ++ (32 :: (g_sts 46 ++ (g_nb9 v ++ (32 :: (g_sts 47 ++ (32 :: (g_dg9 5 ++ (32 :: (g_sts 48 ++ (32 :: (g_dg9 0 ++ (c :: r))))))))))))))) (hc : ¬ (48 ≤ c ∧ c ≤ 57)) (hc2 : c ≠ 32 ∧ c ≠ 42 ∧ c ≠ 47) : g_ex B n (f + 4) 1 0 p = .ok (p + 3 + 5 + 5 + (g_nb9 v).length + 5 + 2 + 5 + 2) [-1, (v : Int), 5, 0, -10] := by
  obtain ⟨c35, c36, c37, c38, c44, c45⟩ := e_w0
  obtain ⟨w35, w36, w38, w45, w46, w47, w48⟩ := e_w1
  obtain ⟨l35, l36, l38, l45, l46, l47, l48⟩ := e_w2
  have hw : g_isW B n 45 p := e_isW (c := 32) (by decide) (h.cg (by rw [w45]; rfl)) (by decide)
  have h3 := h.tl.tl
  have s1 : g_sk B n (g_len 45 + p) = p + 3 := by
    rw [l45, show 2 + p = p + 1 + 1 by omega, e_sp h3]
    have h4 := h3.tl
    rw [w35] at h4
    exact e_sk h4 (by decide)
  have h4 := h3.tl.to (show p + 1 + 1 + 1 = p + 3 by omega)
  have h5 := h4.ri.to (show p + 3 + (g_sts 35).length = p + 3 + 5 by rw [g_sts_len, l35])
  have h6 := h5.tl
  have h7 := h6.ri.to (show p + 3 + 5 + 1 + (g_sts 46).length = p + 3 + 5 + 5 by rw [g_sts_len, l46])
  have h7' := h7
  rw [e_nb] at h7'
  have h8 := h7.ri
  have h9 := h8.tl
  have h10 := h9.ri.to (show p + 3 + 5 + 5 + (g_nb9 v).length + 1 + (g_sts 47).length = p + 3 + 5 + 5 + (g_nb9 v).length + 5 by rw [g_sts_len, l47])
  have h11 := h10.tl
  have h12 := h11.ri.to (show p + 3 + 5 + 5 + (g_nb9 v).length + 5 + 1 + (g_dg9 5).length = p + 3 + 5 + 5 + (g_nb9 v).length + 5 + 2 by rw [e_d5.1]; rfl)
  have h13 := h12.tl
  have h14 := h13.ri.to (show p + 3 + 5 + 5 + (g_nb9 v).length + 5 + 2 + 1 + (g_sts 48).length = p + 3 + 5 + 5 + (g_nb9 v).length + 5 + 2 + 5 by rw [g_sts_len, l48])
  have h15 := h14.tl
  have h16 := h15.ri.to (show p + 3 + 5 + 5 + (g_nb9 v).length + 5 + 2 + 5 + 1 + (g_dg9 0).length = p + 3 + 5 + 5 + (g_nb9 v).length + 5 + 2 + 5 + 2 by rw [e_d5.2]; rfl)
  have nk : ∀ {x v9 c9 : Nat} {r9 : List Nat}, e_at B n x (32 :: (g_dg9 v9 ++ c9 :: r9)) → v9 < 100000 → ¬ (48 ≤ c9 ∧ c9 ≤ 57) → g_sk B n x = x + 1 := fun hx hv9 hc9 => by
    rw [e_sp hx]
    have := (e_num hv9 hx.tl hc9).1
    exact g_sk_e (fun z => by rw [z] at this; unfold g_dg at this; omega)
  have sk2 : g_ex B n (f + 2) 2 0 (p + 3 + 5 + 5 + (g_nb9 v).length + 5 + 2 + 5 + 2) = .ok (p + 3 + 5 + 5 + (g_nb9 v).length + 5 + 2 + 5 + 2) [] := e_p0 (f := f + 1) h16 hc2
  rw [g_ex_1, g_ex_0, e_sk h (by decide)]
  unfold g_fac
  rw [if_neg (by rw [h.hd]; unfold g_dg; omega), if_neg (e_no h c35 (by decide)), if_neg (e_no h c36 (by decide)), if_neg (e_no h c37 (by decide)), if_neg (e_no h c38 (by decide)), if_neg (by rw [h.hd]; omega), if_neg (e_no h c44 (by decide)), if_pos hw]
  unfold g_facI
  rw [if_neg (by decide), e_fw (i := 35) (m := -1) (Or.inl ⟨rfl, rfl⟩) s1 h4 (by decide), e_bd, show g_len 35 + (p + 3) = p + 3 + 5 by rw [l35]; omega]
  have m46 := e_mst (i := 46) (by decide) (h5.cg (by rw [e_nb])) (by rw [w46]; exact ⟨_, _, rfl, by decide⟩)
  rw [m46, e_bd, show p + 3 + 5 + 1 + (g_sts 46).length = p + 3 + 5 + 5 by rw [g_sts_len, l46]]
  rw [e_f0 (nk h7' hv (by decide)) hv h7'.tl (by decide), e_bd, show p + 3 + 5 + 5 + 1 + (g_dg9 v).length = p + 3 + 5 + 5 + (g_nb9 v).length by rw [e_nb_len]; omega]
  rw [e_mst (i := 47) (by decide) h8 (by rw [w47]; exact ⟨_, _, rfl, by decide⟩), e_bd, show p + 3 + 5 + 5 + (g_nb9 v).length + 1 + (g_sts 47).length = p + 3 + 5 + 5 + (g_nb9 v).length + 5 by rw [g_sts_len, l47]]
  rw [e_f0 (nk h10 (by decide) (by decide)) (by decide) h11 (by decide), e_bd, show p + 3 + 5 + 5 + (g_nb9 v).length + 5 + 1 + (g_dg9 5).length = p + 3 + 5 + 5 + (g_nb9 v).length + 5 + 2 by rw [e_d5.1]; rfl]
  rw [e_mst (i := 48) (by decide) h12 (by rw [w48]; exact ⟨_, _, rfl, by decide⟩), e_bd, show p + 3 + 5 + 5 + (g_nb9 v).length + 5 + 2 + 1 + (g_sts 48).length = p + 3 + 5 + 5 + (g_nb9 v).length + 5 + 2 + 5 by rw [g_sts_len, l48]]
  rw [e_f0 (nk h14 (by decide) hc) (by decide) h15 hc, e_bd, show p + 3 + 5 + 5 + (g_nb9 v).length + 5 + 2 + 5 + 1 + (g_dg9 0).length = p + 3 + 5 + 5 + (g_nb9 v).length + 5 + 2 + 5 + 2 by rw [e_d5.2]; rfl]
  rw [e_bd]
  show (g_ex B n (f + 3) 2 0 _).bd _ = _
  rw [e_p0 (f := f + 2) h16 hc2, e_bd]
  rfl
theorem e_s3 {s : Nat} (hs : s < 100000) (h : e_at B n p (e_g3 s ++ [59])) : g_ex B n (f + 5) 4 0 p = .ok (p + (e_g3 s).length) (e_k3 s) := by
  unfold e_g3 at h ⊢
  unfold e_k3
  by_cases c : s = 0
  · rw [if_pos c] at h ⊢
    rw [if_pos c]
    exact e_s0 (f := f + 4) h (by decide)
  · rw [if_neg c] at h ⊢
    rw [if_neg c]
    obtain ⟨w35, w36, w38, w45, w46, w47, w48⟩ := e_w1
    have h1 : e_at B n p (43 :: 105 :: 102 :: 32 :: (g_sts 35 ++ (32 :: (g_sts 46 ++ (g_nb9 s ++ (32 :: (g_sts 47 ++ (32 :: (g_dg9 5 ++ (32 :: (g_sts 48 ++ (32 :: (g_dg9 0 ++ (59 :: [])))))))))))))) := h.cg (by rw [List.append_assoc, List.append_assoc, g_sts_56, g_sts_57, w35, w46, w47, w48, e_d5.1, e_d5.2]; rfl)
    have e := e_if (f := f) hs h1.tl (by decide) (by decide)
    have h9 := h.ri
    have e9 : p + 1 + 3 + 5 + 5 + (g_nb9 s).length + 5 + 2 + 5 + 2 = p + (g_sts 56 ++ (g_nb9 s ++ g_sts 57)).length := by
      simp only [List.length_append, g_sts_len, show g_len 56 = 14 by decide +kernel, show g_len 57 = 14 by decide +kernel]; omega
    rw [g_ex_4, e_sk h1 (by decide)]
    unfold g_smL
    rw [if_pos (by rw [h1.hd]; omega), Nat.add_comm 1 p, e, e_bd, e9, e_s0 (f := f + 3) h9 (by decide), e_bd, h1.hd]
    rfl
theorem e_h3 (s : Nat) : ∃ c r, e_g3 s ++ [59] = c :: r ∧ (c = 43 ∨ c = 59) := by
  unfold e_g3
  by_cases c : s = 0
  · rw [if_pos c]; exact ⟨_, _, rfl, Or.inr rfl⟩
  · rw [if_neg c, g_sts_56]; exact ⟨_, _, rfl, Or.inl rfl⟩
theorem e_s2 {s s3 : Nat} (hs : s < 100000) (hs3 : s3 < 100000) (h : e_at B n p (e_g2 s ++ (e_g3 s3 ++ [59]))) : g_ex B n (f + 6) 4 0 p = .ok (p + (e_g2 s).length + (e_g3 s3).length) (e_k2 s ++ e_k3 s3) := by
  unfold e_g2 at h ⊢
  unfold e_k2
  by_cases c : s = 0
  · rw [if_pos c] at h ⊢
    rw [if_pos c]
    exact e_s3 (f := f + 1) hs3 h
  · rw [if_neg c] at h ⊢
    rw [if_neg c]
    obtain ⟨w35, w36, w38, w45, w46, w47, w48⟩ := e_w1
    obtain ⟨x, xr, hx, hx1⟩ := e_h3 s3
    have h1 : e_at B n p (45 :: (g_sts 36 ++ (47 :: (g_dg9 s ++ x :: xr)))) := h.cg (by rw [hx, List.append_assoc, g_sts_55, w36]; rfl)
    have h0 := h1.tl
    rw [w36] at h0
    have e := e_wn (o := 0) (f := f + 2) (i := 36) (m := -2) (Or.inr (Or.inl ⟨rfl, rfl⟩)) (Or.inr rfl) (e_sk h0 (by decide)) hs h1.tl (by omega) (by omega)
    have e9 : p + 1 + (g_sts 36).length + 1 + (g_dg9 s).length = p + (g_sts 55 ++ g_dg9 s).length := by
      simp only [List.length_append, g_sts_len, show g_len 55 = 5 by decide +kernel, e_w2.2.1]; omega
    have h9 := h.ri
    rw [g_ex_4, e_sk h1 (by decide)]
    unfold g_smL
    rw [if_pos (by rw [h1.hd]; omega), Nat.add_comm 1 p, e, e_bd, e9, e_s3 hs3 h9, e_bd, h1.hd]
    rfl
theorem e_h2 (s s3 : Nat) : ∃ c r, e_g2 s ++ (e_g3 s3 ++ [59]) = c :: r ∧ (c = 43 ∨ c = 45 ∨ c = 59) := by
  unfold e_g2
  by_cases c : s = 0
  · rw [if_pos c]
    obtain ⟨x, r, e, h⟩ := e_h3 s3
    exact ⟨x, r, e, by omega⟩
  · rw [if_neg c, g_sts_55]; exact ⟨_, _, rfl, Or.inr (Or.inl rfl)⟩
theorem e_s1 {s s2 s3 : Nat} (hs : s < 100000) (hs2 : s2 < 100000) (hs3 : s3 < 100000) (h : e_at B n p (e_g1 s ++ (e_g2 s2 ++ (e_g3 s3 ++ [59])))) : g_ex B n (f + 7) 4 0 p = .ok (p + (e_g1 s).length + (e_g2 s2).length + (e_g3 s3).length) (e_k1 s ++ (e_k2 s2 ++ e_k3 s3)) := by
  unfold e_g1 at h ⊢
  unfold e_k1
  by_cases c : s = 0
  · rw [if_pos c] at h ⊢
    rw [if_pos c]
    exact e_s2 (f := f + 1) hs2 hs3 h
  · rw [if_neg c] at h ⊢
    rw [if_neg c]
    obtain ⟨w35, w36, w38, w45, w46, w47, w48⟩ := e_w1
    obtain ⟨x, xr, hx, hx1⟩ := e_h2 s2 s3
    have h1 : e_at B n p (43 :: (g_sts 38 ++ (42 :: (g_dg9 s ++ x :: xr)))) := h.cg (by rw [hx, List.append_assoc, g_sts_54, w38]; rfl)
    have h0 := h1.tl
    rw [w38] at h0
    have e := e_wn (o := 0) (f := f + 3) (i := 38) (m := -4) (Or.inr (Or.inr ⟨rfl, rfl⟩)) (Or.inl rfl) (e_sk h0 (by decide)) hs h1.tl (by omega) (by omega)
    have e9 : p + 1 + (g_sts 38).length + 1 + (g_dg9 s).length = p + (g_sts 54 ++ g_dg9 s).length := by
      simp only [List.length_append, g_sts_len, show g_len 54 = 9 by decide +kernel, e_w2.2.2.1]; omega
    have h9 := h.ri
    rw [g_ex_4, e_sk h1 (by decide)]
    unfold g_smL
    rw [if_pos (by rw [h1.hd]; omega), Nat.add_comm 1 p, e, e_bd, e9, e_s2 hs2 hs3 h9, e_bd, h1.hd]
    rfl
theorem e_h1 (s s2 s3 : Nat) : ∃ c r, e_g1 s ++ (e_g2 s2 ++ (e_g3 s3 ++ [59])) = c :: r ∧ (c = 43 ∨ c = 45 ∨ c = 59) := by
  unfold e_g1
  by_cases c : s = 0
  · rw [if_pos c]; exact e_h2 s2 s3
  · rw [if_neg c, g_sts_54]; exact ⟨_, _, rfl, Or.inl rfl⟩
/-- the whole sum -/
theorem e_ex {s0 s1 s2 s3 : Nat} (h0 : s0 < 100000) (h1 : s1 < 100000) (h2 : s2 < 100000) (h3 : s3 < 100000) (h : e_at B n p (g_nb9 s0 ++ (e_g1 s1 ++ (e_g2 s2 ++ (e_g3 s3 ++ [59]))))) : g_ex B n 4000 3 0 p = .ok (p + (g_nb9 s0).length + (e_g1 s1).length + (e_g2 s2).length + (e_g3 s3).length) (e_cds s0 s1 s2 s3) := by
  obtain ⟨x, xr, hx, hx1⟩ := e_h1 s1 s2 s3
  have ha := h
  rw [hx, e_nb] at ha
  have hs : g_sk B n p = p + 1 := by
    rw [e_sp ha]
    have := (e_num h0 ha.tl (by omega)).1
    exact g_sk_e (fun z => by rw [z] at this; unfold g_dg at this; omega)
  show g_ex B n (3991 + 8 + 1) 3 0 p = _
  rw [g_ex_3, e_n1 (o := 0) (f := 3991 + 6) hs h0 ha.tl (by omega) (by omega), e_bd, show p + 1 + (g_dg9 s0).length = p + (g_nb9 s0).length by rw [e_nb_len]; omega]
  rw [e_s1 (f := 3991 + 1) h1 h2 h3 h.ri, e_bd]
  rfl
end
def e_slp (k l s0 s1 s2 s3 : Nat) : List Nat := g_sts 53 ++ (g_sts (63 + k) ++ (g_sts 49 ++ (g_sts (68 + l) ++ (g_nb9 s0 ++ (e_g1 s1 ++ (e_g2 s2 ++ (e_g3 s3 ++ g_sts 52)))))))
def e_st (k l : Nat) (cs : List Int) (cd : Nat) (t : Nat → Int) : Nat → Int := g_up (g_up (g_app t (139 + cd) (g_encs cs)) (89 + 2 * (5 * k + l)) (cd : Int)) (90 + 2 * (5 * k + l)) ((cd + g_el cs : Nat) : Int)
theorem e_sleep {k l L s0 s1 s2 s3 p cd : Nat} {on hp : Int} {t : Nat → Int} (hk : k < 5) (hl : l < L) (hL : L ≤ 3) (h0 : t 0 = (L : Int)) (ht : e_nms t L) (hz : ¬ 0 < t (90 + 2 * (5 * k + l))) (b0 : s0 < 100000) (b1 : s1 < 100000) (b2 : s2 < 100000) (b3 : s3 < 100000) : e_ln (e_slp k l s0 s1 s2 s3) p cd on hp t (cd + g_el (e_cds s0 s1 s2 s3)) on hp (e_st k l (e_cds s0 s1 s2 s3) cd t) := fun B n h => by
  unfold e_slp at h ⊢
  have h2 := h.ri
  have h3 := h2.ri
  have h4 := h3.ri
  have h5 := h4.ri
  have h1 : e_at B n p (115 :: 108 :: 101 :: 101 :: 112 :: 32 :: _) := h.cg (by rw [g_sts_53]; rfl)
  refine ⟨p, e_sk h1 (by decide), by rw [h1.hd]; decide, by rw [h1.hd]; decide, ?_⟩
  obtain ⟨c26, c39, c40, c41, c42, c34, -⟩ := e_c0
  have hw : g_isW B n 39 p := e_isW (c := 32) (by decide) (h1.cg (by rw [g_sts_26.2.1]; rfl)) (by decide)
  obtain ⟨a, b, hx, hx1, hx2⟩ := e_c1 k hk
  have h6 := h2
  rw [hx] at h6
  have hs : g_sk B n (g_len 39 + p) = p + (g_sts 53).length := by
    rw [g_len_26.2.1, show 5 + p = p + 1 + 1 + 1 + 1 + 1 by omega, e_sp h1.tl.tl.tl.tl.tl, show p + 1 + 1 + 1 + 1 + 1 + 1 = p + (g_sts 53).length by rw [g_sts_53]; rfl]
    exact e_sk h6 (by omega)
  obtain ⟨k1, k2⟩ := e_kd (c := 32) (r := g_sts (68 + l) ++ (g_nb9 s0 ++ (e_g1 s1 ++ (e_g2 s2 ++ (e_g3 s3 ++ g_sts 52))))) hk (h2.cg (by rw [g_sts_49]; rfl)) (by decide)
  have h3' := h3
  rw [g_sts_49] at h3'
  obtain ⟨x0, xr, hy, hy1⟩ : ∃ x0 xr, g_sts (68 + l) = x0 :: xr ∧ 97 ≤ x0 := by
    have k := e_nm3 l (by omega)
    match e : g_sts (68 + l) with
    | [] => have q := g_sts_len (68 + l); rw [e] at q; have : 0 = g_len (68 + l) := q; omega
    | a :: b => exact ⟨a, b, rfl, by have := k.2.2; rw [e] at this; exact (this a List.mem_cons_self).1⟩
  have h4' := h4.to (show p + (g_sts 53).length + (g_sts (63 + k)).length + (g_sts 49).length = p + (g_sts 53).length + (g_sts (63 + k)).length + 1 by rw [g_sts_49]; rfl)
  have hs2 : g_sk B n (g_len (27 + k) + (p + (g_sts 53).length)) = p + (g_sts 53).length + (g_sts (63 + k)).length + 1 := by
    rw [e_len27 k hk, Nat.add_comm (g_sts (63 + k)).length, e_sp h3']
    have h7 := h4'
    rw [hy] at h7
    exact e_sk h7 (by omega)
  obtain ⟨n1, n2, n3⟩ := e_nm (l := l) (c := 32) (r := g_dg9 s0 ++ (e_g1 s1 ++ (e_g2 s2 ++ (e_g3 s3 ++ g_sts 52)))) (by omega) (h4'.cg (by rw [e_nb])) (by decide)
  have el := e_land_of (q := p + (g_sts 53).length + (g_sts (63 + k)).length + 1) ht h0 hL hl n3
  have h5' := h5.to (show p + (g_sts 53).length + (g_sts (63 + k)).length + (g_sts 49).length + (g_sts (68 + l)).length = g_len (68 + l) + (p + (g_sts 53).length + (g_sts (63 + k)).length + 1) by rw [g_sts_49, g_sts_len (68 + l), show [32].length = 1 from rfl]; omega)
  rw [g_sts_52] at h5'
  have hex := e_ex b0 b1 b2 b3 h5'
  have h9 := h5'.ri.ri.ri.ri
  unfold g_lnB
  rw [if_neg (e_no h1 c26 (by decide)), if_pos hw, hs, e_rdSl hk k1 k2, hs2]
  unfold g_rdS
  rw [if_pos n2, n1, el, if_neg (by omega), if_neg (by rw [show (89 + 2 * (5 * (k : Int) + (l : Int)) + 1).toNat = 90 + 2 * (5 * k + l) by omega]; exact hz), hex]
  refine (e_after h9).trans ?_
  have e9 : g_len (68 + l) + (p + (g_sts 53).length + (g_sts (63 + k)).length + 1) + (g_nb9 s0).length + (e_g1 s1).length + (e_g2 s2).length + (e_g3 s3).length + 1 = p + (g_sts 53 ++ (g_sts (63 + k) ++ (g_sts 49 ++ (g_sts (68 + l) ++ (g_nb9 s0 ++ (e_g1 s1 ++ (e_g2 s2 ++ (e_g3 s3 ++ g_sts 52)))))))).length := by
    simp only [List.length_append, g_sts_len, show g_len 52 = 1 by decide +kernel, show g_len 49 = 1 by decide +kernel]; omega
  rw [e9, show (89 + 2 * (5 * (k : Int) + (l : Int))).toNat = 89 + 2 * (5 * k + l) by omega, show (89 + 2 * (5 * (k : Int) + (l : Int)) + 1).toNat = 90 + 2 * (5 * k + l) by omega]
  rfl
/-! what the codes come to -/
theorem e_hid {v : Int} (h : -1000000000000 ≤ v ∧ v ≤ 1000000000000) : g_held v = v := by unfold g_held; rw [if_neg (by omega), if_neg (by omega)]
/-- the law's own way to reckon a sleep -/
def e_sl (s0 s1 s2 s3 ce ag le : Int) : Int := s0 + s1 * le - (if s2 = 0 then 0 else ag.tdiv s2) + (if ce < s3 then 5 else 0)
theorem e_ev {s0 s1 s2 s3 : Nat} {ce ag si le : Int} (b0 : s0 < 100) (b1 : s1 < 100) (b2 : s2 < 100) (b3 : s3 < 100000) (hce : 0 ≤ ce ∧ ce ≤ 100000000) (hag : 0 ≤ ag ∧ ag ≤ 7000) (hle : 0 ≤ le ∧ le ≤ 7000) : (g_ev ce ag si le (e_cds s0 s1 s2 s3) []).headD 0 = e_sl (s0 : Int) (s1 : Int) (s2 : Int) (s3 : Int) ce ag le := by
  have hp1 : 0 ≤ le * (s1 : Int) ∧ le * (s1 : Int) ≤ 700000 := ⟨Int.mul_nonneg hle.1 (by omega), by
    have := Int.mul_le_mul hle.2 (show (s1 : Int) ≤ 100 by omega) (by omega) (by decide)
    omega⟩
  have hd : ∀ s : Nat, s ≠ 0 → 0 ≤ ag / (s : Int) ∧ ag / (s : Int) ≤ 7000 := fun s hs => ⟨Int.ediv_nonneg hag.1 (by omega), Int.le_trans (Int.ediv_le_self _ hag.1) hag.2⟩
  have hif : 0 ≤ (if ce < (s3 : Int) then (5 : Int) else 0) ∧ (if ce < (s3 : Int) then (5 : Int) else 0) ≤ 5 := by split <;> omega
  unfold e_cds e_k1 e_k2 e_k3 e_sl
  by_cases c1 : s1 = 0 <;> by_cases c2 : s2 = 0 <;> by_cases c3 : s3 = 0
  all_goals simp only [c1, c2, c3, if_true, if_false, g_ev, List.foldl_cons, List.foldl_nil, List.nil_append, List.cons_append, List.append_nil]
  · rw [g_op_lit (c := (s0 : Int)) (by omega)]
    rw [if_pos (show ((0 : Nat) : Int) = 0 from rfl), if_neg (by omega)]
    show (s0 : Int) = _
    omega
  · rw [g_op_lit (c := (s0 : Int)) (by omega), g_op_1, g_op_lit (c := (s3 : Int)) (by omega), g_op_lit (c := 5) (by omega), g_op_lit (c := 0) (by omega), g_op_10, g_op_5, e_hid (by omega)]
    rw [if_pos (show ((0 : Nat) : Int) = 0 from rfl)]
    show (s0 : Int) + _ = _
    omega
  · have := hd s2 c2
    rw [g_op_lit (c := (s0 : Int)) (by omega), g_op_2, g_op_lit (c := (s2 : Int)) (by omega), g_op_8, if_neg (by omega), Int.fdiv_eq_ediv_of_nonneg _ (by omega), g_op_6, e_hid (by omega)]
    rw [if_neg (show ¬ (s2 : Int) = 0 by omega), Int.tdiv_eq_ediv_of_nonneg hag.1, if_neg (by omega)]
    show (s0 : Int) - _ = _
    omega
  · have := hd s2 c2
    rw [g_op_lit (c := (s0 : Int)) (by omega), g_op_2, g_op_lit (c := (s2 : Int)) (by omega), g_op_8, if_neg (by omega), Int.fdiv_eq_ediv_of_nonneg _ (by omega), g_op_6, e_hid (by omega), g_op_1, g_op_lit (c := (s3 : Int)) (by omega), g_op_lit (c := 5) (by omega), g_op_lit (c := 0) (by omega), g_op_10, g_op_5, e_hid (by omega)]
    rw [if_neg (show ¬ (s2 : Int) = 0 by omega), Int.tdiv_eq_ediv_of_nonneg hag.1]
    show (s0 : Int) - _ + _ = _
    omega
  · rw [g_op_lit (c := (s0 : Int)) (by omega), g_op_4, g_op_lit (c := (s1 : Int)) (by omega), g_op_7, e_hid (by omega), g_op_5, e_hid (by omega)]
    rw [if_pos (show ((0 : Nat) : Int) = 0 from rfl), if_neg (by omega), Int.mul_comm (s1 : Int)]
    show (s0 : Int) + _ = _
    omega
  · rw [g_op_lit (c := (s0 : Int)) (by omega), g_op_4, g_op_lit (c := (s1 : Int)) (by omega), g_op_7, e_hid (by omega), g_op_5, e_hid (by omega), g_op_1, g_op_lit (c := (s3 : Int)) (by omega), g_op_lit (c := 5) (by omega), g_op_lit (c := 0) (by omega), g_op_10, g_op_5, e_hid (by omega)]
    rw [if_pos (show ((0 : Nat) : Int) = 0 from rfl), Int.mul_comm (s1 : Int)]
    show (s0 : Int) + _ + _ = _
    omega
  · have := hd s2 c2
    rw [g_op_lit (c := (s0 : Int)) (by omega), g_op_4, g_op_lit (c := (s1 : Int)) (by omega), g_op_7, e_hid (by omega), g_op_5, e_hid (by omega), g_op_2, g_op_lit (c := (s2 : Int)) (by omega), g_op_8, if_neg (by omega), Int.fdiv_eq_ediv_of_nonneg _ (by omega), g_op_6, e_hid (by omega)]
    rw [if_neg (show ¬ (s2 : Int) = 0 by omega), Int.tdiv_eq_ediv_of_nonneg hag.1, if_neg (by omega), Int.mul_comm (s1 : Int)]
    show (s0 : Int) + _ - _ = _
    omega
  · have := hd s2 c2
    rw [g_op_lit (c := (s0 : Int)) (by omega), g_op_4, g_op_lit (c := (s1 : Int)) (by omega), g_op_7, e_hid (by omega), g_op_5, e_hid (by omega), g_op_2, g_op_lit (c := (s2 : Int)) (by omega), g_op_8, if_neg (by omega), Int.fdiv_eq_ediv_of_nonneg _ (by omega), g_op_6, e_hid (by omega), g_op_1, g_op_lit (c := (s3 : Int)) (by omega), g_op_lit (c := 5) (by omega), g_op_lit (c := 0) (by omega), g_op_10, g_op_5, e_hid (by omega)]
    rw [if_neg (show ¬ (s2 : Int) = 0 by omega), Int.tdiv_eq_ediv_of_nonneg hag.1, Int.mul_comm (s1 : Int)]
    show (s0 : Int) + _ - _ + _ = _
    omega
