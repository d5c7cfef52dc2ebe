/-! the frame, more: System.arraycopy -/
section QY
variable {G : q_G} {F : q_F} {Y : q_Y} {h : Nat} {Q : q_Q} {kc ks pc pc' tgt : Nat} {ls : List (Nat × Value)} {st : List Value} {sz : Nat} {T : q_T} {I L : q_I} {P : q_P}
theorem q_copyi (hF : q_ok G F Y h) {idx a0 a n0 n1 m : Nat} {z : Int} (w1 : Cond.methodLink Y.1.cls idx arraycopyName ∈ q_all) (w2 : Cond.native arraycopyName ∈ q_all) (w3 : Cond.static arraycopyName ∈ q_all) (w4 : Cond.initialized "java/lang/System" ∈ q_all) (hz : z = (m : Int)) (hT0 : T a0 = some (.inr (0, n0))) (hT1 : T a = some (.inr (0, n1))) (hA : q_A G a) (hm0 : m ≤ n0) (hm1 : m ≤ n1) (hn : m < 1000000) (hst : (st.map fun v => v.category).sum ≤ 8) (d : q_d Y.2.1 pc pc' (.invokestatic idx) 3) (k : qX G F Q kc ks pc' ls st sz T (cpL I a0 a m) (L) P) : qX G F Q kc ks pc ls (qI z :: qI 0 :: .ref a :: qI 0 :: .ref a0 :: st) sz T I L P := by
  obtain ⟨p, l, e, R, s, mm, args, below, meth, c, mc, ms⟩ := F
  obtain ⟨hx, hb, hr, hlk, hml, ho, hnm, htb, hg, hR, -⟩ := hF
  obtain ⟨d, rfl⟩ := d
  subst hz
  intro H locs cells slots lsA z1 z2 z3 z4 z5 z6
  obtain ⟨-, hc0⟩ := z2 a0 _ hT0
  obtain ⟨-, hc1⟩ := z2 a _ hT1
  obtain ⟨-, k0, hk0, cm0, hkk0⟩ := (hg.2.1.2 0 _ rfl).1 n0 (fun j => q_fv (q_ty 0) I L P a0 j)
  obtain ⟨-, k1, hk1, cm1, hkk1⟩ := (hg.2.1.2 0 _ rfl).1 n1 (fun j => q_fv (q_ty 0) I L P a j)
  have e3 : ¬ Int32.ofInt (m : Int) < 0 := by rw [qi_lt0 (by omega)]; omega
  have e4 : (Int32.ofInt (m : Int)).toNatClampNeg = m := by rw [qi_cl (by omega)]; omega
  have e5 : (Int32.ofInt 0).toNatClampNeg = 0 := by decide
  have t3 : (Int32.ofInt (m : Int)).toInt = (m : Int) := qi_toInt (by omega)
  have t5 : (Int32.ofInt 0).toInt = 0 := by decide
  refine fun T0 hT X => ?_
  obtain ⟨vm', X', step⟩ := X.arraycopy hx ho (hg.at w1 args) (hg.at w2 args) (hg.at w3 args) (hg.at w4 args) (src := a0) (dst := a) (cs := arrV (G.2.2.1 0) n0 (fun j => q_fv (q_ty 0) I L P a0 j)) (cd := arrV (G.2.2.1 0) n1 (fun j => q_fv (q_ty 0) I L P a j)) (srcPos := Int32.ofInt 0) (destPos := Int32.ofInt 0) (n := Int32.ofInt (m : Int)) (by rw [hT]; exact hc0) (by rw [hT]; exact hc1)
    (fun _ h => by cases h) (fun _ h => by cases h) (fun h => by cases h) (fun h => by cases h) hk0 hk1 hkk0 hkk1 (by simp [refKind]) (by decide) (by decide) e3
    (by rw [t5, t3, arrV_size]; omega)
    (by rw [t5, t3, arrV_size]; omega)
    (fun vm₁ _ i hi => by
      rw [e4] at hi
      rw [e5]
      have e : (arrV (G.2.2.1 0) n0 (fun j => q_fv (q_ty 0) I L P a0 j)).slots.getD (0 + i) .null = .int (Int32.ofInt (I a0 (0 + i))) := by
        rw [Array.getD_eq_getD_getElem?, arrV_read _ _ (by omega)]
        rfl
      rw [e]
      exact ⟨rfl, trivial⟩)
    (g := F0 mm pc lsA (qI (m : Int) :: qI 0 :: .ref a :: qI 0 :: .ref a0 :: st)) rfl (by rw [z4.1]) (rest := st) rfl (by rw [hb]; exact d) (by rw [hR]; exact Nat.succ_le_of_lt (Nat.lt_of_lt_of_le (by decide) (Nat.le_add_left 12 h))) (by rw [hR]; show 2 * 0 + _ + _ ≤ 260 + 60 * h; have hnw : nativeFrameWords "java/lang/System" "arraycopy" 5 ≤ 60 := (by decide +kernel); omega)
  have e1 : copied (arrV (G.2.2.1 0) n0 (fun j => q_fv (q_ty 0) I L P a0 j)) (arrV (G.2.2.1 0) n1 (fun j => q_fv (q_ty 0) I L P a j)) (Int32.ofInt 0) (Int32.ofInt 0) (Int32.ofInt (m : Int)) = arrV (G.2.2.1 0) n1 (fun j => q_fv (q_ty 0) (cpL I a0 a m) (L) P a j) := by
    refine (va_copied (fun v => .int v) (G.2.2.1 0) (G.2.2.1 0) (fun j => Int32.ofInt (I a0 j)) (fun j => Int32.ofInt (I a j)) (by rw [e4, e5]; omega)).trans ?_
    rw [e4, e5]
    congr 1
    funext j
    show Value.int _ = Value.int (Int32.ofInt (cpL I a0 a m a j))
    congr 1
    unfold va_cpy cpL
    by_cases hj : j < m
    · rw [if_pos ⟨Nat.zero_le _, by omega⟩, if_pos ⟨rfl, hj⟩]
      show Int32.ofInt (I a0 (0 + (j - 0))) = _
      rw [Nat.sub_zero, Nat.zero_add]
    · rw [if_neg (fun q => hj (by omega)), if_neg (fun q => hj q.2)]
  rw [e1] at X' step
  have hl : a < H.size := (Array.getElem?_eq_some_iff.mp hc1).1
  have hheap : ((T0.setVm vm').setCell a (arrV (G.2.2.1 0) n1 (fun j => q_fv (q_ty 0) (cpL I a0 a m) (L) P a j))).heap = H.setIfInBounds a (arrV (G.2.2.1 0) n1 (fun j => q_fv (q_ty 0) (cpL I a0 a m) (L) P a j)) := by rw [← hT]; rfl
  have oq : ∀ q : Nat, q ≠ a → (H.setIfInBounds a (arrV (G.2.2.1 0) n1 (fun j => q_fv (q_ty 0) (cpL I a0 a m) (L) P a j)))[q]? = H[q]? := fun q hq => by simp [Array.getElem?_setIfInBounds, Ne.symm hq]
  obtain ⟨t, a1, b1⟩ := k _ _ cells slots lsA (by simpa using z1) (z2.put oq (fun q i hq => cpL_ne _ _ _ hq) (fun _ _ _ => rfl) (fun _ _ _ => rfl) (fun kk hk => by
      cases hT1.symm.trans hk
      exact ⟨by decide, by simp [Array.getElem?_setIfInBounds, hl]⟩)) ⟨by simp; exact z3.1, fun q g1 g2 => by
      rw [oq q (fun e => g2 (by rw [e]; exact hA))]
      exact z3.2.1 q g1 g2, fun q hq => by
      rcases List.mem_append.mp hq with h | h
      · exact z3.2.2 q h
      · obtain ⟨z, -, hz⟩ := List.mem_map.mp h
        rw [← hz]
        exact hA⟩ z4 z5 z6 _ hheap X'
  exact ⟨t, step t a1, b1⟩
theorem q_copyl (hF : q_ok G F Y h) {idx a0 a n0 n1 m : Nat} {z : Int} (w1 : Cond.methodLink Y.1.cls idx arraycopyName ∈ q_all) (w2 : Cond.native arraycopyName ∈ q_all) (w3 : Cond.static arraycopyName ∈ q_all) (w4 : Cond.initialized "java/lang/System" ∈ q_all) (hz : z = (m : Int)) (hT0 : T a0 = some (.inr (1, n0))) (hT1 : T a = some (.inr (1, n1))) (hA : q_A G a) (hm0 : m ≤ n0) (hm1 : m ≤ n1) (hn : m < 1000000) (hst : (st.map fun v => v.category).sum ≤ 8) (d : q_d Y.2.1 pc pc' (.invokestatic idx) 3) (k : qX G F Q kc ks pc' ls st sz T (I) (cpL L a0 a m) P) : qX G F Q kc ks pc ls (qI z :: qI 0 :: .ref a :: qI 0 :: .ref a0 :: st) sz T I L P := by
  obtain ⟨p, l, e, R, s, mm, args, below, meth, c, mc, ms⟩ := F
  obtain ⟨hx, hb, hr, hlk, hml, ho, hnm, htb, hg, hR, -⟩ := hF
  obtain ⟨d, rfl⟩ := d
  subst hz
  intro H locs cells slots lsA z1 z2 z3 z4 z5 z6
  obtain ⟨-, hc0⟩ := z2 a0 _ hT0
  obtain ⟨-, hc1⟩ := z2 a _ hT1
  obtain ⟨-, k0, hk0, cm0, hkk0⟩ := (hg.2.1.2 1 _ rfl).1 n0 (fun j => q_fv (q_ty 1) I L P a0 j)
  obtain ⟨-, k1, hk1, cm1, hkk1⟩ := (hg.2.1.2 1 _ rfl).1 n1 (fun j => q_fv (q_ty 1) I L P a j)
  have e3 : ¬ Int32.ofInt (m : Int) < 0 := by rw [qi_lt0 (by omega)]; omega
  have e4 : (Int32.ofInt (m : Int)).toNatClampNeg = m := by rw [qi_cl (by omega)]; omega
  have e5 : (Int32.ofInt 0).toNatClampNeg = 0 := by decide
  have t3 : (Int32.ofInt (m : Int)).toInt = (m : Int) := qi_toInt (by omega)
  have t5 : (Int32.ofInt 0).toInt = 0 := by decide
  refine fun T0 hT X => ?_
  obtain ⟨vm', X', step⟩ := X.arraycopy hx ho (hg.at w1 args) (hg.at w2 args) (hg.at w3 args) (hg.at w4 args) (src := a0) (dst := a) (cs := arrV (G.2.2.1 1) n0 (fun j => q_fv (q_ty 1) I L P a0 j)) (cd := arrV (G.2.2.1 1) n1 (fun j => q_fv (q_ty 1) I L P a j)) (srcPos := Int32.ofInt 0) (destPos := Int32.ofInt 0) (n := Int32.ofInt (m : Int)) (by rw [hT]; exact hc0) (by rw [hT]; exact hc1)
    (fun _ h => by cases h) (fun _ h => by cases h) (fun h => by cases h) (fun h => by cases h) hk0 hk1 hkk0 hkk1 (by simp [refKind]) (by decide) (by decide) e3
    (by rw [t5, t3, arrV_size]; omega)
    (by rw [t5, t3, arrV_size]; omega)
    (fun vm₁ _ i hi => by
      rw [e4] at hi
      rw [e5]
      have e : (arrV (G.2.2.1 1) n0 (fun j => q_fv (q_ty 1) I L P a0 j)).slots.getD (0 + i) .null = .long (Int64.ofInt (L a0 (0 + i))) := by
        rw [Array.getD_eq_getD_getElem?, arrV_read _ _ (by omega)]
        rfl
      rw [e]
      exact ⟨rfl, trivial⟩)
    (g := F0 mm pc lsA (qI (m : Int) :: qI 0 :: .ref a :: qI 0 :: .ref a0 :: st)) rfl (by rw [z4.1]) (rest := st) rfl (by rw [hb]; exact d) (by rw [hR]; exact Nat.succ_le_of_lt (Nat.lt_of_lt_of_le (by decide) (Nat.le_add_left 12 h))) (by rw [hR]; show 2 * 0 + _ + _ ≤ 260 + 60 * h; have hnw : nativeFrameWords "java/lang/System" "arraycopy" 5 ≤ 60 := (by decide +kernel); omega)
  have e1 : copied (arrV (G.2.2.1 1) n0 (fun j => q_fv (q_ty 1) I L P a0 j)) (arrV (G.2.2.1 1) n1 (fun j => q_fv (q_ty 1) I L P a j)) (Int32.ofInt 0) (Int32.ofInt 0) (Int32.ofInt (m : Int)) = arrV (G.2.2.1 1) n1 (fun j => q_fv (q_ty 1) (I) (cpL L a0 a m) P a j) := by
    refine (va_copied (fun v => .long v) (G.2.2.1 1) (G.2.2.1 1) (fun j => Int64.ofInt (L a0 j)) (fun j => Int64.ofInt (L a j)) (by rw [e4, e5]; omega)).trans ?_
    rw [e4, e5]
    congr 1
    funext j
    show Value.long _ = Value.long (Int64.ofInt (cpL L a0 a m a j))
    congr 1
    unfold va_cpy cpL
    by_cases hj : j < m
    · rw [if_pos ⟨Nat.zero_le _, by omega⟩, if_pos ⟨rfl, hj⟩]
      show Int64.ofInt (L a0 (0 + (j - 0))) = _
      rw [Nat.sub_zero, Nat.zero_add]
    · rw [if_neg (fun q => hj (by omega)), if_neg (fun q => hj q.2)]
  rw [e1] at X' step
  have hl : a < H.size := (Array.getElem?_eq_some_iff.mp hc1).1
  have hheap : ((T0.setVm vm').setCell a (arrV (G.2.2.1 1) n1 (fun j => q_fv (q_ty 1) (I) (cpL L a0 a m) P a j))).heap = H.setIfInBounds a (arrV (G.2.2.1 1) n1 (fun j => q_fv (q_ty 1) (I) (cpL L a0 a m) P a j)) := by rw [← hT]; rfl
  have oq : ∀ q : Nat, q ≠ a → (H.setIfInBounds a (arrV (G.2.2.1 1) n1 (fun j => q_fv (q_ty 1) (I) (cpL L a0 a m) P a j)))[q]? = H[q]? := fun q hq => by simp [Array.getElem?_setIfInBounds, Ne.symm hq]
  obtain ⟨t, a1, b1⟩ := k _ _ cells slots lsA (by simpa using z1) (z2.put oq (fun _ _ _ => rfl) (fun q i hq => cpL_ne _ _ _ hq) (fun _ _ _ => rfl) (fun kk hk => by
      cases hT1.symm.trans hk
      exact ⟨by decide, by simp [Array.getElem?_setIfInBounds, hl]⟩)) ⟨by simp; exact z3.1, fun q g1 g2 => by
      rw [oq q (fun e => g2 (by rw [e]; exact hA))]
      exact z3.2.1 q g1 g2, fun q hq => by
      rcases List.mem_append.mp hq with h | h
      · exact z3.2.2 q h
      · obtain ⟨z, -, hz⟩ := List.mem_map.mp h
        rw [← hz]
        exact hA⟩ z4 z5 z6 _ hheap X'
  exact ⟨t, step t a1, b1⟩
theorem q_ldcw (hF : q_ok G F Y h) {n : Int} {i : Nat} (hw : Cond.constant Y.1.cls i (Int32.ofInt n) ∈ q_all) (d : q_d Y.2.1 pc pc' (.ldc_w i) 3) (k : qX G F Q kc ks pc' ls (qI n :: st) sz T I L P) : qX G F Q kc ks pc ls st sz T I L P := by
  obtain ⟨p, l, e, R, s, m, args, below, meth, c, mc, ms⟩ := F
  obtain ⟨hx, hb, hr, hlk, hml, ho, hnm, htb, hg, -⟩ := hF
  obtain ⟨d, rfl⟩ := d
  intro H locs cells slots lsA z1 z2 z3 z4 z5 z6
  exact lv_ldcw hx hb ho (hg.at hw args) d (k H locs cells slots lsA z1 z2 z3 z4 z5 z6)
theorem q_aastorev (hF : q_ok G F Y h) {a b n t ci : Nat} {i : Int} {r : vw_C} (j : Nat) (hT : T a = some (.inr (t, n))) (hTb : T b = some (.inl ci)) (h1 : q_cl[ci]? = some r) (h2 : q_ty t = .object r.1) (hA : q_A G a) (hj : i = (j : Int)) (hn : j < n) (hbn : (n : Int) < 2147483648) (d : q_d Y.2.1 pc pc' .aastore 1) (k : qX G F Q kc ks pc' ls st sz T I L (u2 P a j (some b))) : qX G F Q kc ks pc ls (.ref b :: qI i :: .ref a :: st) sz T I L P := by
  obtain ⟨p, l, e, R, s, m, args, below, meth, c, mc, ms⟩ := F
  obtain ⟨hx, hb, hr, hlk, hml, ho, hnm, htb, hg, -⟩ := hF
  obtain ⟨d, rfl⟩ := d
  subst hj
  intro H locs cells slots lsA z1 z2 z3 z4 z5 z6
  obtain ⟨w1, w2, w3⟩ := q_ix (i := (j : Int)) (n := n) (by omega) hbn
  obtain ⟨ht, hc⟩ := z2 a _ hT
  obtain ⟨r', h1', cell, g1, g2, g3, g4⟩ := z2 b _ hTb
  cases h1.symm.trans h1'
  have hcls := (hg.2.1.1 ci r h1).2
  have h9 := hg.2.1.2 t _ (q_tys_at G.2.2.1 ht)
  have h9' := h9
  rw [h2] at h9'
  obtain ⟨kA, comp, k1, k2, k3, -⟩ := h9'.2
  have hcomp : comp = G.2.1.1 ci := Option.some.inj (k3.symm.trans hcls.1)
  subst hcomp
  obtain ⟨kC, hkC, -⟩ := hcls.2
  refine W.aast hx hb hc (fun q h => by cases h) (fun h => by cases h) k1 k2 rfl hkC ⟨by intro q; exact w1 (Or.inl q), by show _ < (arrV _ _ _).slots.size; rw [arrV_size, w2]; exact w3⟩ g1 (fun q h => by rw [g3] at h; cases h) (by rw [g2]; exact hkC) (by rw [g2]; exact va_assign hcls) rfl rfl d fun H' e1 e2 e3 => ?_
  rw [w2] at e1 ⊢
  rw [Int.toNat_natCast] at e1 ⊢
  refine k H' _ cells slots lsA (e2.trans z1) (z2.put e3 (fun _ _ _ => rfl) (fun _ _ _ => rfl) (fun q i hq => q_u2o (Or.inl hq)) (fun kk hk => ?_)) (z3.put e2 e3 hA) z4 z5 z6
  cases hT.symm.trans hk
  exact q_upd_ar ht e1 (by rw [h2]; show qR (u2 P a _ (some b) a _) = _; rw [u2_s]; rfl) (fun i hi => by rw [h2]; show qR (u2 P a _ (some b) a i) = qR _; rw [q_u2o (Or.inr hi)])
end QY
