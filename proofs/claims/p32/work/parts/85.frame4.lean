/-! the frame, more: a word laid into an array of words -/
theorem q_word_at {G : q_G} {s : State} (hg : q_Gs G s) (args : Array Value) {c : ClassId} (h : s.vm.findClass "IdleMoney$Word" = some c) : ClassAt s "IdleMoney$Word" c := by
  obtain ⟨c', k, h1, h2, h3, -⟩ := Cond.instantiable_spec (hg.at (w := Cond.instantiable "IdleMoney$Word" 5) (q_mem 1189 (by decide +kernel) rfl) args)
  cases h1.symm.trans h
  exact ⟨h1, k, h2, h3⟩
theorem q_aastoreW {G : q_G} {F : q_F} {Y : q_Y} {h : Nat} {Q : q_Q} {kc ks pc pc' : Nat} {ls : List (Nat × Value)} {st : List Value} {sz : Nat} {T : q_T} {I L : q_I} {P : q_P} (hF : q_ok G F Y h) {a n : Nat} {i : Int} {w : Option Nat} (j : Nat) (hT : T a = some (.inr (5, n))) (hw : ∀ x, w = some x → x < 23) (hA : q_A G a) (hj : i = (j : Int)) (hn : j < n) (hbn : (n : Int) < 2147483648) (d : q_d Y.2.1 pc pc' .aastore 1) (k : qX G F Q kc ks pc' ls st sz T I L (u2 P a j (w.map (q_E G)))) : qX G F Q kc ks pc ls (qR (w.map (q_E G)) :: qI i :: .ref a :: st) sz T I L P := by
  obtain ⟨p, l, e, R, s, m, args, below, meth, c, mc, ms⟩ := F
  obtain ⟨hx, hb, hr, hlk, hml, ho, hnm, htb, hg, -⟩ := hF
  obtain ⟨d, rfl⟩ := d
  subst hj
  intro H locs cells slots lsA z1 z2 z3 z4 z5 z6
  obtain ⟨w1, w2, w3⟩ := q_ix (i := (j : Int)) (n := n) (by omega) hbn
  obtain ⟨ht, hc⟩ := z2 a _ hT
  have h9 := hg.2.1.2 5 _ (q_tys_at G.2.2.1 ht)
  obtain ⟨kA, comp, k1, k2, k3, -⟩ := h9.2
  have hcls := q_word_at hg args k3
  obtain ⟨kC, hkC, -⟩ := hcls.2
  cases w with
  | none =>
    refine va_WaastN (C := "IdleMoney$Word") hx hb hc (h9.1 n _) (fun h => by cases h) (by show ¬ (_ ∨ (arrV _ _ _).slots.size ≤ _); rw [arrV_size, w2]; exact fun q => q.elim (fun q => w1 (Or.inl q)) (fun q => by omega)) rfl rfl d fun H' e1 e2 e3 => ?_
    rw [w2] at e1 ⊢
    rw [Int.toNat_natCast] at e1 ⊢
    refine k H' _ cells slots lsA (e2.trans z1) (z2.put e3 (fun _ _ _ => rfl) (fun _ _ _ => rfl) (fun q i hq => q_u2o (Or.inl hq)) (fun kk hk => ?_)) (z3.put e2 e3 hA) z4 z5 z6
    cases hT.symm.trans hk
    exact q_upd_ar ht e1 (by show qR (u2 P a _ none a _) = _; rw [u2_s]; rfl) (fun i hi => by show qR (u2 P a _ none a i) = qR _; rw [q_u2o (Or.inr hi)])
  | some x =>
    obtain ⟨cell, g1, g2, g3, -⟩ := (q_O_E (hw x rfl) s hg).kept z3.2.1
    have hcc : comp = cell.cls := Option.some.inj (k3.symm.trans g3)
    refine W.aast hx hb hc (fun q h => by cases h) (fun h => by cases h) k1 k2 rfl hkC ⟨by intro q; exact w1 (Or.inl q), by show _ < (arrV _ _ _).slots.size; rw [arrV_size, w2]; exact w3⟩ g1 (fun q h => by rw [h] at g2; cases g2) (by rw [← hcc]; exact hkC) (by rw [← hcc]; exact va_assign hcls) rfl rfl d fun H' e1 e2 e3 => ?_
    rw [w2] at e1 ⊢
    rw [Int.toNat_natCast] at e1 ⊢
    refine k H' _ cells slots lsA (e2.trans z1) (z2.put e3 (fun _ _ _ => rfl) (fun _ _ _ => rfl) (fun q i hq => q_u2o (Or.inl hq)) (fun kk hk => ?_)) (z3.put e2 e3 hA) z4 z5 z6
    cases hT.symm.trans hk
    exact q_upd_ar ht e1 (by show qR (u2 P a _ (some (q_E G x)) a _) = _; rw [u2_s]; rfl) (fun i hi => by show qR (u2 P a _ (some (q_E G x)) a i) = qR _; rw [q_u2o (Or.inr hi)])
