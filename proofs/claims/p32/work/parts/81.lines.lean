/-! fuel enough; the lines of a text -/
theorem g_bd_nz {r : g_Re} {f : Nat → List Int → g_Re} (h1 : r ≠ .er 0 0) (h2 : ∀ p c, r = .ok p c → f p c ≠ .er 0 0) : r.bd f ≠ .er 0 0 := by
  cases r with
  | inl c => exact h2 c.1 c.2 rfl
  | inr e => intro h; exact h1 h
theorem g_er_nz {w : Int} {x : Nat} (h : w ≠ 0) : g_Re.er w x ≠ .er 0 0 := fun e => h (congrArg Prod.fst (Sum.inr.inj e))
theorem g_ok_nz {p : Nat} {cs : List Int} : g_Re.ok p cs ≠ .er 0 0 := fun e => by cases e
theorem g_sig_nz {B : Nat → Int} {n p : Nat} {c : Int} : g_sig B n c p ≠ .er 0 0 := by
  unfold g_sig; split
  · exact g_ok_nz
  · exact g_er_nz (by decide)
theorem g_mst_nz {B : Nat → Int} {n i p : Nat} : g_mst B n i p ≠ .er 0 0 := by
  unfold g_mst; split
  · exact g_ok_nz
  · exact g_er_nz (by decide)
def g_wt (k : Nat) : Nat := if k = 1 then 2 else if k = 3 then 3 else 1
theorem g_ex_fuel {B : Nat → Int} {n : Nat} (hw : ∀ i q, i < 76 → g_isW B n i q → 1 ≤ g_len i ∧ g_len i + q ≤ n) (hl : ∀ i, i < 76 → 1 ≤ g_len i) (hfar : ∀ f k o p p' cs, k < 5 → p ≤ n → g_ex B n f k o p = .ok p' cs → g_far n k p p' cs) : ∀ f k o p, k < 5 → p ≤ n → 5 * (n - p) + g_wt k ≤ f → g_ex B n f k o p ≠ .er 0 0
  | 0, k, _, _, _, _, h => by unfold g_wt at h; split at h <;> (try split at h) <;> omega
  | f + 1, k, o, p, hk, hp, hf => by
    have ih := g_ex_fuel hw hl hfar f
    have hq := g_sk_r (B := B) hp
    rcases (show k = 0 ∨ k = 1 ∨ k = 2 ∨ k = 3 ∨ k = 4 by omega) with rfl | rfl | rfl | rfl | rfl
    · have hf : 5 * (n - p) + 1 ≤ f + 1 := hf
      rw [g_ex_0]
      generalize g_sk B n p = q at hq
      unfold g_fac
      split
      · split
        · exact g_ok_nz
        · exact g_er_nz (by decide)
      split
      · exact g_ok_nz
      split
      · exact g_ok_nz
      split
      · exact g_ok_nz
      split
      · exact g_ok_nz
      split
      · rename_i b1
        have hqn := g_bt_in (B := B) (n := n) (k := q) (by rw [b1]; decide)
        unfold g_facB
        split
        · exact g_er_nz (by decide)
        refine g_bd_nz (ih 3 _ _ (by decide) (by omega) (by show 5 * (n - (1 + q)) + 3 ≤ f; omega)) (fun p1 c1 e1 => g_bd_nz g_sig_nz (fun p2 c2 e2 => g_ok_nz))
      split
      · rename_i w2
        have hw2 := hw 44 q (by decide) w2
        have hq2 := g_sk_r (B := B) hw2.2
        generalize g_sk B n (g_len 44 + q) = q2 at hq2
        unfold g_facM
        split
        · rename_i b1
          have hqn := g_bt_in (B := B) (n := n) (k := q2) (by rw [b1]; decide)
          split
          · exact g_er_nz (by decide)
          refine g_bd_nz (ih 3 _ _ (by decide) (by omega) (by show 5 * (n - (1 + q2)) + 3 ≤ f; omega)) (fun p1 c1 e1 => g_bd_nz g_sig_nz (fun p2 c2 e2 => ?_))
          have i1 := hfar _ _ _ _ _ _ (by decide) (by omega) e1
          have i2 := g_sig_ok (by decide) i1.1 e2
          have j1 := i1.2
          rw [if_neg (by decide)] at j1
          exact g_bd_nz (ih 3 _ _ (by decide) i2.2 (by show 5 * (n - p2) + 3 ≤ f; omega)) (fun p3 c3 e3 => g_bd_nz g_sig_nz (fun p4 c4 e4 => g_ok_nz))
        · exact g_er_nz (by decide)
      split
      · rename_i w3
        have hw3 := hw 45 q (by decide) w3
        unfold g_facI
        split
        · exact g_er_nz (by decide)
        refine g_bd_nz (ih 0 _ _ (by decide) hw3.2 (by show 5 * (n - (g_len 45 + q)) + 1 ≤ f; omega)) (fun p1 c1 e1 => g_bd_nz g_mst_nz (fun p2 c2 e2 => ?_))
        have i1 := hfar _ _ _ _ _ _ (by decide) hw3.2 e1
        have i2 := g_mst_ok (fun q h => (hw 46 q (by decide) h).2) (hl 46 (by decide)) i1.1 e2
        have j1 := i1.2
        rw [if_neg (by decide)] at j1
        refine g_bd_nz (ih 0 _ _ (by decide) i2.2 (by show 5 * (n - p2) + 1 ≤ f; omega)) (fun p3 c3 e3 => g_bd_nz g_mst_nz (fun p4 c4 e4 => ?_))
        have i3 := hfar _ _ _ _ _ _ (by decide) i2.2 e3
        have i4 := g_mst_ok (fun q h => (hw 47 q (by decide) h).2) (hl 47 (by decide)) i3.1 e4
        have j3 := i3.2
        rw [if_neg (by decide)] at j3
        refine g_bd_nz (ih 0 _ _ (by decide) i4.2 (by show 5 * (n - p4) + 1 ≤ f; omega)) (fun p5 c5 e5 => g_bd_nz g_mst_nz (fun p6 c6 e6 => ?_))
        have i5 := hfar _ _ _ _ _ _ (by decide) i4.2 e5
        have i6 := g_mst_ok (fun q h => (hw 48 q (by decide) h).2) (hl 48 (by decide)) i5.1 e6
        have j5 := i5.2
        rw [if_neg (by decide)] at j5
        exact g_bd_nz (ih 0 _ _ (by decide) i6.2 (by show 5 * (n - p6) + 1 ≤ f; omega)) (fun p7 c7 e7 => g_ok_nz)
      · exact g_er_nz (by decide)
    · have hf : 5 * (n - p) + 2 ≤ f + 1 := hf
      rw [g_ex_1]
      refine g_bd_nz (ih 0 _ _ (by decide) hp (by show 5 * (n - p) + 1 ≤ f; omega)) (fun p1 c1 e1 => ?_)
      have i1 := hfar _ _ _ _ _ _ (by decide) hp e1
      have j1 := i1.2
      rw [if_neg (by decide)] at j1
      exact g_bd_nz (ih 2 _ _ (by decide) i1.1 (by show 5 * (n - p1) + 1 ≤ f; omega)) (fun _ _ _ => g_ok_nz)
    · have hf : 5 * (n - p) + 1 ≤ f + 1 := hf
      rw [g_ex_2]
      generalize g_sk B n p = q at hq
      unfold g_prL
      split
      · rename_i b1
        have hqn := g_bt_in (B := B) (n := n) (k := q) (by omega)
        refine g_bd_nz (ih 0 _ _ (by decide) (by omega) (by show 5 * (n - (1 + q)) + 1 ≤ f; omega)) (fun p1 c1 e1 => ?_)
        have i1 := hfar _ _ _ _ _ _ (by decide) (by omega) e1
        have j1 := i1.2
        rw [if_neg (by decide)] at j1
        exact g_bd_nz (ih 2 _ _ (by decide) i1.1 (by show 5 * (n - p1) + 1 ≤ f; omega)) (fun _ _ _ => g_ok_nz)
      · exact g_ok_nz
    · have hf : 5 * (n - p) + 3 ≤ f + 1 := hf
      rw [g_ex_3]
      refine g_bd_nz (ih 1 _ _ (by decide) hp (by show 5 * (n - p) + 2 ≤ f; omega)) (fun p1 c1 e1 => ?_)
      have i1 := hfar _ _ _ _ _ _ (by decide) hp e1
      have j1 := i1.2
      rw [if_neg (by decide)] at j1
      exact g_bd_nz (ih 4 _ _ (by decide) i1.1 (by show 5 * (n - p1) + 1 ≤ f; omega)) (fun _ _ _ => g_ok_nz)
    · have hf : 5 * (n - p) + 1 ≤ f + 1 := hf
      rw [g_ex_4]
      generalize g_sk B n p = q at hq
      unfold g_smL
      split
      · rename_i b1
        have hqn := g_bt_in (B := B) (n := n) (k := q) (by omega)
        refine g_bd_nz (ih 1 _ _ (by decide) (by omega) (by show 5 * (n - (1 + q)) + 2 ≤ f; omega)) (fun p1 c1 e1 => ?_)
        have i1 := hfar _ _ _ _ _ _ (by decide) (by omega) e1
        have j1 := i1.2
        rw [if_neg (by decide)] at j1
        exact g_bd_nz (ih 4 _ _ (by decide) i1.1 (by show 5 * (n - p1) + 1 ≤ f; omega)) (fun _ _ _ => g_ok_nz)
      · exact g_ok_nz
theorem g_fuel_of {I : q_I} {m n : Nat} {B : Nat → Int} (hB : q_BT I m B n) : ∀ p, p ≤ n → g_ex B n 4000 3 0 p ≠ .er 0 0 := fun p hp =>
  g_ex_fuel (g_hB hB) g_words_ok (fun f k o p p' cs hk hp h => g_far_of hB hk hp h) 4000 3 0 p (by decide) hp (by have := hB.2.1; show 5 * (n - p) + 3 ≤ 4000; omega)