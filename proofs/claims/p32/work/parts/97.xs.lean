/-! the class's Reader and its draft: what it writes as it reads an expression -/
/-- the memory with the Reader's place, number, fault, its place, and the codes told so far -/
def q_xs (I : q_I) (a u j : Nat) (nu fl pl : Int) (kk : Nat) (C : Nat → Int) : q_I := fun q i =>
  if q = a then (if i = 6 then (j : Int) else if i = 7 then nu else if i = 8 then fl else if i = 9 then pl else I a i)
  else if q = u then (if i = 11 then (kk : Int) else I u i)
  else if q = u + 6 then C i else I q i
section
variable {I : q_I} {a u j : Nat} {nu fl pl : Int} {kk : Nat} {C : Nat → Int}
theorem q_xs_5 : q_xs I a u j nu fl pl kk C a 6 = (j : Int) := by simp [q_xs]
theorem q_xs_6 : q_xs I a u j nu fl pl kk C a 7 = nu := by simp [q_xs]
theorem q_xs_8 : q_xs I a u j nu fl pl kk C a 8 = fl := by simp [q_xs]
theorem q_xs_9 : q_xs I a u j nu fl pl kk C a 9 = pl := by simp [q_xs]
theorem q_xs_a {i : Nat} (h : i ≠ 6 ∧ i ≠ 7 ∧ i ≠ 8 ∧ i ≠ 9) : q_xs I a u j nu fl pl kk C a i = I a i := by simp [q_xs, h]
theorem q_xs_11 (h : a < u) : q_xs I a u j nu fl pl kk C u 11 = (kk : Int) := by
  unfold q_xs; rw [if_neg (by omega), if_pos rfl, if_pos rfl]
theorem q_xs_u (h : a < u) {i : Nat} (hi : i ≠ 11) : q_xs I a u j nu fl pl kk C u i = I u i := by
  unfold q_xs; rw [if_neg (by omega), if_pos rfl, if_neg hi]
theorem q_xs_C (h : a < u) {i : Nat} : q_xs I a u j nu fl pl kk C (u + 6) i = C i := by
  unfold q_xs; rw [if_neg (by omega), if_neg (by omega), if_pos rfl]
theorem q_xs_n {q i : Nat} (h : q ≠ a ∧ q ≠ u ∧ q ≠ u + 6) : q_xs I a u j nu fl pl kk C q i = I q i := by
  unfold q_xs; rw [if_neg h.1, if_neg h.2.1, if_neg h.2.2]
theorem q_xs_w5 {v : Int} {x : Nat} (h : v = x) : u2 (q_xs I a u j nu fl pl kk C) a 6 v = q_xs I a u x nu fl pl kk C := by
  subst h; funext q i; unfold u2 q_xs
  by_cases e1 : q = a <;> by_cases e4 : i = 6 <;> simp_all
theorem q_xs_w6 {v : Int} : u2 (q_xs I a u j nu fl pl kk C) a 7 v = q_xs I a u j v fl pl kk C := by
  funext q i; unfold u2 q_xs
  by_cases e1 : q = a <;> by_cases e4 : i = 7 <;> simp_all
theorem q_xs_w8 {v : Int} : u2 (q_xs I a u j nu fl pl kk C) a 8 v = q_xs I a u j nu v pl kk C := by
  funext q i; unfold u2 q_xs
  by_cases e1 : q = a <;> by_cases e4 : i = 8 <;> simp_all
theorem q_xs_w9 {v : Int} : u2 (q_xs I a u j nu fl pl kk C) a 9 v = q_xs I a u j nu fl v kk C := by
  funext q i; unfold u2 q_xs
  by_cases e1 : q = a <;> by_cases e4 : i = 9 <;> simp_all
theorem q_xs_w11 (ha : a < u) {v : Int} {x : Nat} (h : v = x) : u2 (q_xs I a u j nu fl pl kk C) u 11 v = q_xs I a u j nu fl pl x C := by
  subst h; funext q i; unfold u2 q_xs
  by_cases e1 : q = u
  · subst e1
    have e0 : ¬ q = a := by omega
    by_cases e4 : i = 11 <;> simp_all
  · rw [if_neg (fun h => e1 h.1), if_neg e1, if_neg e1]
theorem q_xs_wC (ha : a < u) {i : Nat} {v : Int} : u2 (q_xs I a u j nu fl pl kk C) (u + 6) i v = q_xs I a u j nu fl pl kk (g_up C i v) := by
  funext q k; unfold u2 q_xs g_up
  by_cases e1 : q = u + 6
  · subst e1
    have e0 : ¬ (u + 6 = a) := by omega
    have e2 : ¬ (u + 6 = u) := by omega
    by_cases e4 : k = i <;> simp_all
  · rw [if_neg (fun h => e1 h.1), if_neg e1, if_neg e1]
/-- a write elsewhere -/
theorem q_xs_o {q i : Nat} {v : Int} (h : q ≠ a ∧ q ≠ u + 6 ∧ (q ≠ u ∨ i ≠ 11)) : u2 (q_xs I a u j nu fl pl kk C) q i v = q_xs (u2 I q i v) a u j nu fl pl kk C := by
  funext q2 k; unfold u2 q_xs; dsimp only
  by_cases e1 : q2 = q ∧ k = i
  · obtain ⟨rfl, rfl⟩ := e1
    rw [if_pos ⟨rfl, rfl⟩, if_neg h.1]
    by_cases e2 : q2 = u
    · rw [if_pos e2, if_neg (by omega), if_pos ⟨e2.symm, rfl⟩]
    · rw [if_neg e2, if_neg h.2.1, if_pos ⟨rfl, rfl⟩]
  · rw [if_neg e1]
    by_cases e2 : q2 = a
    · rw [if_pos e2, if_pos e2, if_neg (show ¬ (a = q ∧ k = i) from fun x => h.1 x.1.symm)]
    · rw [if_neg e2, if_neg e2]
      by_cases e3 : q2 = u
      · rw [if_pos e3, if_pos e3, if_neg (show ¬ (u = q ∧ k = i) from fun x => e1 ⟨e3.trans x.1, x.2⟩)]
      · rw [if_neg e3, if_neg e3, if_neg e1]
theorem q_xs_self (ha : a < u) (h5 : I a 6 = (j : Int)) (h8 : I a 8 = fl) (hk : I u 11 = (kk : Int)) : I = q_xs I a u j (I a 7) fl (I a 9) kk (I (u + 6)) := by
  subst h8; funext q i; unfold q_xs
  by_cases e1 : q = a
  · subst e1; rw [if_pos rfl]
    by_cases e5 : i = 6
    · subst e5; rw [if_pos rfl, h5]
    · rw [if_neg e5]
      by_cases e6 : i = 7
      · subst e6; rw [if_pos rfl]
      · rw [if_neg e6]
        by_cases e8 : i = 8
        · subst e8; rw [if_pos rfl]
        · rw [if_neg e8]
          by_cases e9 : i = 9
          · subst e9; rw [if_pos rfl]
          · rw [if_neg e9]
  · rw [if_neg e1]
    by_cases e2 : q = u
    · subst e2; rw [if_pos rfl]
      by_cases e11 : i = 11
      · subst e11; rw [if_pos rfl, hk]
      · rw [if_neg e11]
    · rw [if_neg e2]
      by_cases e3 : q = u + 6
      · subst e3; rw [if_pos rfl]
      · rw [if_neg e3]
end
/-- a sign put off -/
def g_po (v : Int) : List Int := if v = 0 then [] else [v]
/-- codes before a result's -/
def g_pre (xs : List Int) (r : g_Re) : g_Re := r.bd fun p cs => g_Re.ok p (xs ++ cs)
theorem g_pre_k (xs : List Int) (p : Nat) (cs : List Int) : g_pre xs (g_Re.ok p cs) = g_Re.ok p (xs ++ cs) := rfl
theorem g_pre_e (xs : List Int) (w : Int) (x : Nat) : g_pre xs (g_Re.er w x) = g_Re.er w x := rfl
theorem g_pre_nz {xs : List Int} {r : g_Re} (h : g_pre xs r ≠ .er 0 0) : r ≠ .er 0 0 := fun e => h (by rw [e]; rfl)
theorem g_pre_bd {xs : List Int} {r : g_Re} {f g : Nat → List Int → g_Re} (h : ∀ p c, f p c = g_pre xs (g p c)) : r.bd f = g_pre xs (r.bd g) := by
  cases r with
  | inl c => exact h c.1 c.2
  | inr e => rfl
theorem g_bd_bd {r : g_Re} {f g : Nat → List Int → g_Re} : (r.bd f).bd g = r.bd fun p c => (f p c).bd g := by
  cases r with
  | inl c => rfl
  | inr e => rfl
theorem g_bd_nz1 {r : g_Re} {f : Nat → List Int → g_Re} (h : r.bd f ≠ .er 0 0) : r ≠ .er 0 0 := fun e => h (by rw [e]; rfl)
/-- what a sum in the middle is: the rest of a product, the sign put off, the rest of the sum -/
def g_mid (B : Nat → Int) (n f2 f4 o p : Nat) (put : Int) : g_Re :=
  (g_ex B n f2 2 o p).bd fun p2 c2 => (g_ex B n f4 4 o p2).bd fun p4 c4 => g_Re.ok p4 (c2 ++ (g_po put ++ c4))
/-- how the class has met a fault: it has told it, or it stands at it -/
def g_bad (w : Int) (x : Nat) (fl pl : Int) (s : Nat) : Prop := (fl = 0 ∧ w = 1 ∧ x = s) ∨ (fl = w ∧ (1 ≤ w ∧ w ≤ 7) ∧ pl = (x : Int))
theorem g_mid_mul {B : Nat → Int} {n f2 f4 o p q : Nat} {put v : Int} (hq : g_sk B n p = q) (hs : g_bt B n q = 42 ∧ v = -7 ∨ g_bt B n q = 47 ∧ v = -8) : g_mid B n (f2 + 1) f4 o p put = (g_ex B n f2 0 o (1 + q)).bd fun p1 c1 => g_pre (c1 ++ [v]) (g_mid B n f2 f4 o p1 put) := by
  unfold g_mid
  rw [g_ex_2, hq]
  unfold g_prL
  rw [if_pos (by omega), g_bd_bd]
  congr 1
  funext p1 c1
  rw [g_bd_bd]
  refine g_pre_bd (fun p2 c2 => ?_)
  rw [g_bd_k]
  refine g_pre_bd (fun p4 c4 => ?_)
  rw [g_pre_k]
  rw [show (if g_bt B n q = 42 then (-7 : Int) else -8) = v from by split <;> omega]
  simp
theorem g_mid_add {B : Nat → Int} {n f2 f4 o p q : Nat} {put v : Int} (hq : g_sk B n p = q) (hqq : g_sk B n q = q) (hs : g_bt B n q = 43 ∧ v = -5 ∨ g_bt B n q = 45 ∧ v = -6) : g_mid B n (f2 + 1) (f4 + 1 + 1) o p put = (g_ex B n f4 0 o (1 + q)).bd fun p1 c1 => g_pre (g_po put ++ c1) (g_mid B n f4 (f4 + 1) o p1 v) := by
  unfold g_mid
  rw [g_ex_2, hq]
  unfold g_prL
  rw [if_neg (by omega), g_bd_k, g_ex_4, hqq]
  unfold g_smL
  rw [if_pos (by omega), g_ex_1, g_bd_bd, g_bd_bd]
  congr 1
  funext p1 c1
  rw [g_bd_bd]
  refine g_pre_bd (fun p2 c2 => ?_)
  rw [g_bd_k, g_bd_bd]
  refine g_pre_bd (fun p4 c4 => ?_)
  rw [g_bd_k, g_pre_k]
  rw [show (if g_bt B n q = 43 then (-5 : Int) else -6) = v from by split <;> omega]
  rw [show g_po v = [v] from if_neg (by omega)]
  simp
theorem g_mid_end {B : Nat → Int} {n f2 f4 o p q : Nat} {put : Int} (hq : g_sk B n p = q) (hqq : g_sk B n q = q) (hs : g_bt B n q ≠ 42 ∧ g_bt B n q ≠ 47 ∧ g_bt B n q ≠ 43 ∧ g_bt B n q ≠ 45) : g_mid B n (f2 + 1) (f4 + 1) o p put = g_Re.ok q (g_po put) := by
  unfold g_mid
  rw [g_ex_2, hq]
  unfold g_prL
  rw [if_neg (by omega), g_bd_k, g_ex_4, hqq]
  unfold g_smL
  rw [if_neg (by omega), g_bd_k]
  simp
theorem g_mid_0 {B : Nat → Int} {n f o p : Nat} : g_ex B n (f + 1 + 1) 3 o p = (g_ex B n f 0 o p).bd fun p1 c1 => g_pre c1 (g_mid B n f (f + 1) o p1 0) := by
  rw [g_ex_3, g_ex_1, g_bd_bd]
  congr 1
  funext p1 c1
  rw [g_bd_bd]
  unfold g_mid
  refine g_pre_bd (fun p2 c2 => ?_)
  rw [g_bd_k]
  refine g_pre_bd (fun p4 c4 => ?_)
  rw [g_pre_k]
  simp [g_po]
theorem g_mid_z2 {B : Nat → Int} {n f4 o p : Nat} {put : Int} : g_mid B n 0 f4 o p put = .er 0 0 := rfl
theorem g_mid_z4 {B : Nat → Int} {n f2 o p q : Nat} {put : Int} (hq : g_sk B n p = q) (hs : g_bt B n q ≠ 42 ∧ g_bt B n q ≠ 47) : g_mid B n (f2 + 1) 0 o p put = .er 0 0 := by
  unfold g_mid
  rw [g_ex_2, hq]
  unfold g_prL
  rw [if_neg (by omega)]
  rfl
theorem g_mid_z5 {B : Nat → Int} {n f2 o p q : Nat} {put : Int} (hq : g_sk B n p = q) (hqq : g_sk B n q = q) (hs : g_bt B n q = 43 ∨ g_bt B n q = 45) : g_mid B n (f2 + 1) (0 + 1) o p put = .er 0 0 := by
  unfold g_mid
  rw [g_ex_2, hq]
  unfold g_prL
  rw [if_neg (by omega), g_bd_k, g_ex_4, hqq]
  unfold g_smL
  rw [if_pos (by omega)]
  rfl
/-- a factor, case by case -/
theorem g_fac_num {B : Nat → Int} {n : Nat} {R : Nat → Nat → Nat → g_Re} {o q : Nat} (h : g_dg (g_bt B n q)) : g_fac B n R o q = if g_nv B n q 0 ≤ 999999 then g_Re.ok (g_nd B n q) [g_nv B n q 0] else g_Re.er 2 q := by
  unfold g_fac; rw [if_pos h]
section
variable {B : Nat → Int} {N c j : Nat} {S E : Nat → Nat} {R : Nat → Nat → Nat → g_Re} {o : Nat}
theorem g_no_w (ht : g_TK B N c S E) (hj : j ≤ c) {i x : Nat} (hi : i < 23) (h : g_wo B (S j) (E j) = some x) (hx : x ≠ i) : ¬ g_isW B N (g_ri i) (S j) := fun e => by
  rw [g_wo_is ht hj hi, h] at e
  exact hx (Option.some.inj e)
theorem g_fac_if (ht : g_TK B N c S E) (hj : j ≤ c) (h : g_wo B (S j) (E j) = some 14) : g_fac B N R o (S j) = g_facI B N R o (S j) := by
  have hb := (g_wo_end ht hj h).2.2.2
  unfold g_fac
  rw [if_neg (by omega), if_neg (show ¬ g_isW B N 35 (S j) from g_no_w ht hj (i := 9) (by decide) h (by decide)), if_neg (show ¬ g_isW B N 36 (S j) from g_no_w ht hj (i := 10) (by decide) h (by decide)), if_neg (show ¬ g_isW B N 37 (S j) from g_no_w ht hj (i := 11) (by decide) h (by decide)), if_neg (show ¬ g_isW B N 38 (S j) from g_no_w ht hj (i := 12) (by decide) h (by decide)), if_neg (by omega), if_neg (show ¬ g_isW B N 44 (S j) from g_no_w ht hj (i := 13) (by decide) h (by decide)), if_pos (show g_isW B N 45 (S j) from (g_wo_is ht hj (i := 14) (by decide)).mpr h)]
theorem g_fac_min (ht : g_TK B N c S E) (hj : j ≤ c) (h : g_wo B (S j) (E j) = some 13) : g_fac B N R o (S j) = g_facM B N R o (S (j + 1)) := by
  have hb := g_wo_end ht hj h
  have hb3 := hb.2.2.2
  unfold g_fac
  rw [if_neg (by omega), if_neg (show ¬ g_isW B N 35 (S j) from g_no_w ht hj (i := 9) (by decide) h (by decide)), if_neg (show ¬ g_isW B N 36 (S j) from g_no_w ht hj (i := 10) (by decide) h (by decide)), if_neg (show ¬ g_isW B N 37 (S j) from g_no_w ht hj (i := 11) (by decide) h (by decide)), if_neg (show ¬ g_isW B N 38 (S j) from g_no_w ht hj (i := 12) (by decide) h (by decide)), if_neg (by omega), if_pos (show g_isW B N 44 (S j) from (g_wo_is ht hj (i := 13) (by decide)).mpr h)]
  rw [hb.2.2.1, ← hb.2.1]
  rfl
theorem g_fac_br (ht : g_TK B N c S E) (hj : j ≤ c) (h : g_bt B N (S j) = 40) : g_fac B N R o (S j) = g_facB B N R o (S j) := by
  have hw : ∀ i, i < 23 → ¬ g_isW B N (g_ri i) (S j) := fun i hi e => by
    have := (g_wo_end ht hj ((g_wo_is ht hj hi).mp e)).2.2.2
    omega
  unfold g_fac
  rw [if_neg (by omega), if_neg (show ¬ g_isW B N 35 (S j) from hw 9 (by decide)), if_neg (show ¬ g_isW B N 36 (S j) from hw 10 (by decide)), if_neg (show ¬ g_isW B N 37 (S j) from hw 11 (by decide)), if_neg (show ¬ g_isW B N 38 (S j) from hw 12 (by decide)), if_pos h]
theorem g_fac_push (ht : g_TK B N c S E) (hj : j ≤ c) (h : g_psh (g_wo B (S j) (E j)) ≠ 0) : g_fac B N R o (S j) = g_Re.ok (E j) [g_psh (g_wo B (S j) (E j))] ∧ j < c ∧ S (j + 1) = g_sk B N (E j) := by
  have hx : ∃ x, g_wo B (S j) (E j) = some x ∧ (x = 9 ∨ x = 10 ∨ x = 11 ∨ x = 12) := by
    unfold g_psh at h
    split at h
    · exact ⟨9, by assumption, by decide⟩
    split at h
    · exact ⟨10, by assumption, by decide⟩
    split at h
    · exact ⟨11, by assumption, by decide⟩
    split at h
    · exact ⟨12, by assumption, by decide⟩
    · exact absurd rfl h
  obtain ⟨x, hx, hc⟩ := hx
  have hb := g_wo_end ht hj hx
  have hb3 := hb.2.2.2
  refine ⟨?_, hb.1, hb.2.2.1⟩
  unfold g_fac
  rw [if_neg (by omega)]
  rcases hc with rfl | rfl | rfl | rfl
  · rw [if_pos (show g_isW B N 35 (S j) from (g_wo_is ht hj (i := 9) (by decide)).mpr hx), hx, ← hb.2.1]; rfl
  · rw [if_neg (show ¬ g_isW B N 35 (S j) from g_no_w ht hj (i := 9) (by decide) hx (by decide)), if_pos (show g_isW B N 36 (S j) from (g_wo_is ht hj (i := 10) (by decide)).mpr hx), hx, ← hb.2.1]; rfl
  · rw [if_neg (show ¬ g_isW B N 35 (S j) from g_no_w ht hj (i := 9) (by decide) hx (by decide)), if_neg (show ¬ g_isW B N 36 (S j) from g_no_w ht hj (i := 10) (by decide) hx (by decide)), if_pos (show g_isW B N 37 (S j) from (g_wo_is ht hj (i := 11) (by decide)).mpr hx), hx, ← hb.2.1]; rfl
  · rw [if_neg (show ¬ g_isW B N 35 (S j) from g_no_w ht hj (i := 9) (by decide) hx (by decide)), if_neg (show ¬ g_isW B N 36 (S j) from g_no_w ht hj (i := 10) (by decide) hx (by decide)), if_neg (show ¬ g_isW B N 37 (S j) from g_no_w ht hj (i := 11) (by decide) hx (by decide)), if_pos (show g_isW B N 38 (S j) from (g_wo_is ht hj (i := 12) (by decide)).mpr hx), hx, ← hb.2.1]; rfl
theorem g_fac_none (ht : g_TK B N c S E) (hj : j ≤ c) (h1 : g_wo B (S j) (E j) ≠ some 14) (h2 : g_wo B (S j) (E j) ≠ some 13) (h3 : g_bt B N (S j) ≠ 40) (h4 : g_psh (g_wo B (S j) (E j)) = 0) (h5 : ¬ g_dg (g_bt B N (S j))) : g_fac B N R o (S j) = g_Re.er 1 (S j) := by
  have no : ∀ i, i < 23 → g_wo B (S j) (E j) ≠ some i → ¬ g_isW B N (g_ri i) (S j) := fun i hi h e => h ((g_wo_is ht hj hi).mp e)
  have w9 : g_wo B (S j) (E j) ≠ some 9 := fun e => by rw [e] at h4; exact absurd h4 (by decide)
  have w10 : g_wo B (S j) (E j) ≠ some 10 := fun e => by rw [e] at h4; exact absurd h4 (by decide)
  have w11 : g_wo B (S j) (E j) ≠ some 11 := fun e => by rw [e] at h4; exact absurd h4 (by decide)
  have w12 : g_wo B (S j) (E j) ≠ some 12 := fun e => by rw [e] at h4; exact absurd h4 (by decide)
  unfold g_fac
  rw [if_neg h5, if_neg (show ¬ g_isW B N 35 (S j) from no 9 (by decide) w9), if_neg (show ¬ g_isW B N 36 (S j) from no 10 (by decide) w10), if_neg (show ¬ g_isW B N 37 (S j) from no 11 (by decide) w11), if_neg (show ¬ g_isW B N 38 (S j) from no 12 (by decide) w12), if_neg h3, if_neg (show ¬ g_isW B N 44 (S j) from no 13 (by decide) h2), if_neg (show ¬ g_isW B N 45 (S j) from no 14 (by decide) h1)]
end
