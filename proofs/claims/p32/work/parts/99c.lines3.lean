/-! the class's lines: pure -/
def q_LL (I : q_I) (C : Nat → Int) (u : Nat) (t : Nat → Int) (kk : Nat) (s : g_PS) : Prop := q_D1 I u t ∧ q_D2 I u t s.on ∧ q_D3 I u t s.hp ∧ q_D4 I C u t kk s.cd ∧ g_fresh t
theorem g_fresh.tr {t t' : Nat → Int} (h : g_fresh t) (h1 : ∀ x, (x = 1 ∨ x = 2 ∨ x = 6 ∨ x = 7 ∨ (17 ≤ x ∧ x < 24)) → t' x = t x) (h2 : ∀ l, l < 5 → t' (35 + 13 * l) = t (35 + 13 * l) ∧ t' (36 + 13 * l) = t (36 + 13 * l)) : g_fresh t' := by
  obtain ⟨a, b, c, d, e, f⟩ := h
  refine ⟨by rw [h1 1 (by decide), a], by rw [h1 2 (by decide), b], by rw [h1 6 (by decide), c], by rw [h1 7 (by decide), d], fun k h3 h4 => by rw [h1 k (by omega)]; exact e k h3 h4, fun l hl => ?_⟩
  rw [(h2 l hl).1, (h2 l hl).2]
  exact f l hl
theorem g_fresh.up {t : Nat → Int} (h : g_fresh t) {k : Nat} {v : Int} (h1 : ∀ x, (x = 1 ∨ x = 2 ∨ x = 6 ∨ x = 7 ∨ (17 ≤ x ∧ x < 24)) → x ≠ k) (h2 : ∀ l, l < 5 → 35 + 13 * l ≠ k ∧ 36 + 13 * l ≠ k) : g_fresh (g_up t k v) :=
  h.tr (fun x hx => g_up_n _ _ (h1 x hx)) (fun l hl => ⟨g_up_n _ _ (h2 l hl).1, g_up_n _ _ (h2 l hl).2⟩)
/-- the kind that a word names -/
def g_kd (w : Option Nat) : Int := match w with
  | some x => if 18 ≤ x then (x : Int) - 18 else -1
  | none => -1
theorem g_kd_y {w : Option Nat} (hw : ∀ x, w = some x → x < 23) (h : g_kd w ≠ -1) : ∃ k : Nat, k < 5 ∧ w = some (18 + k) ∧ g_kd w = (k : Int) := by
  cases w with
  | none => exact absurd rfl h
  | some x =>
    have hx := hw x rfl
    by_cases c : 18 ≤ x
    · refine ⟨x - 18, by omega, by rw [show 18 + (x - 18) = x by omega], ?_⟩
      show (if 18 ≤ x then (x : Int) - 18 else -1) = _
      rw [if_pos c]; omega
    · exact absurd (show (if 18 ≤ x then (x : Int) - 18 else -1) = -1 from if_neg c) h
theorem g_kd_n {w : Option Nat} (h : g_kd w = -1) : ∀ k : Nat, k < 5 → w ≠ some (18 + k) := by
  intro k hk e
  rw [e] at h
  have h2 : (if 18 ≤ 18 + k then ((18 + k : Nat) : Int) - 18 else -1) = -1 := h
  rw [if_pos (by omega)] at h2
  omega
theorem g_kd_r (w : Option Nat) (hw : ∀ x, w = some x → x < 23) : -1 ≤ g_kd w ∧ g_kd w < 5 := by
  by_cases h : g_kd w = -1
  · omega
  · obtain ⟨k, hk, -, e⟩ := g_kd_y hw h; omega
section
variable {B : Nat → Int} {N c j : Nat} {S E : Nat → Nat} {s : g_PS} {t : Nat → Int}
theorem g_rdPays_y (ht : g_TK B N c S E) (hj : j ≤ c) {k : Nat} (hk : k < 5) (h : g_wo B (S j) (E j) = some (18 + k)) : g_rdPays B N s t (S j) = g_rdP B N s t k (k : Int) (E j) (S j) := by
  have he := (g_wo_end ht hj h).2.1
  have no : ∀ i, i < 23 → i ≠ 18 + k → ¬ g_isW B N (g_ri i) (S j) := fun i hi hn => g_no_w ht hj hi h (fun x => hn x.symm)
  have yes : g_isW B N (g_ri (18 + k)) (S j) := (g_wo_is ht hj (by omega)).mpr h
  unfold g_rdPays
  rcases (show k = 0 ∨ k = 1 ∨ k = 2 ∨ k = 3 ∨ k = 4 by omega) with rfl | rfl | rfl | rfl | rfl
  · rw [if_pos (show g_isW B N 27 (S j) from yes), ← he]; rfl
  · rw [if_neg (show ¬ g_isW B N 27 (S j) from no 18 (by decide) (by decide)), if_pos (show g_isW B N 28 (S j) from yes), ← he]; rfl
  · rw [if_neg (show ¬ g_isW B N 27 (S j) from no 18 (by decide) (by decide)), if_neg (show ¬ g_isW B N 28 (S j) from no 19 (by decide) (by decide)), if_pos (show g_isW B N 29 (S j) from yes), ← he]; rfl
  · rw [if_neg (show ¬ g_isW B N 27 (S j) from no 18 (by decide) (by decide)), if_neg (show ¬ g_isW B N 28 (S j) from no 19 (by decide) (by decide)), if_neg (show ¬ g_isW B N 29 (S j) from no 20 (by decide) (by decide)), if_pos (show g_isW B N 30 (S j) from yes), ← he]; rfl
  · rw [if_neg (show ¬ g_isW B N 27 (S j) from no 18 (by decide) (by decide)), if_neg (show ¬ g_isW B N 28 (S j) from no 19 (by decide) (by decide)), if_neg (show ¬ g_isW B N 29 (S j) from no 20 (by decide) (by decide)), if_neg (show ¬ g_isW B N 30 (S j) from no 21 (by decide) (by decide)), if_pos (show g_isW B N 31 (S j) from yes), ← he]; rfl
theorem g_rdPays_n (ht : g_TK B N c S E) (hj : j ≤ c) (h : ∀ k : Nat, k < 5 → g_wo B (S j) (E j) ≠ some (18 + k)) : g_rdPays B N s t (S j) = g_Rl.er 1 (S j) := by
  have no : ∀ k, k < 5 → ¬ g_isW B N (g_ri (18 + k)) (S j) := fun k hk e => h k hk ((g_wo_is ht hj (by omega)).mp e)
  unfold g_rdPays
  rw [if_neg (show ¬ g_isW B N 27 (S j) from no 0 (by decide)), if_neg (show ¬ g_isW B N 28 (S j) from no 1 (by decide)), if_neg (show ¬ g_isW B N 29 (S j) from no 2 (by decide)), if_neg (show ¬ g_isW B N 30 (S j) from no 3 (by decide)), if_neg (show ¬ g_isW B N 31 (S j) from no 4 (by decide))]
theorem g_rdSleep_y {f : Nat} (ht : g_TK B N c S E) (hj : j ≤ c) {k : Nat} (hk : k < 5) (h : g_wo B (S j) (E j) = some (18 + k)) : g_rdSleep B N f s t (S j) = g_rdS B N f s t (k : Int) (S (j + 1)) := by
  have hw := g_wo_end ht hj h
  have he : S (j + 1) = g_sk B N (g_len (g_ri (18 + k)) + S j) := by rw [hw.2.1, hw.2.2.1]
  have no : ∀ i, i < 23 → i ≠ 18 + k → ¬ g_isW B N (g_ri i) (S j) := fun i hi hn => g_no_w ht hj hi h (fun x => hn x.symm)
  have yes : g_isW B N (g_ri (18 + k)) (S j) := (g_wo_is ht hj (by omega)).mpr h
  unfold g_rdSleep
  rcases (show k = 0 ∨ k = 1 ∨ k = 2 ∨ k = 3 ∨ k = 4 by omega) with rfl | rfl | rfl | rfl | rfl
  · rw [if_pos (show g_isW B N 27 (S j) from yes), he]; rfl
  · rw [if_neg (show ¬ g_isW B N 27 (S j) from no 18 (by decide) (by decide)), if_pos (show g_isW B N 28 (S j) from yes), he]; rfl
  · rw [if_neg (show ¬ g_isW B N 27 (S j) from no 18 (by decide) (by decide)), if_neg (show ¬ g_isW B N 28 (S j) from no 19 (by decide) (by decide)), if_pos (show g_isW B N 29 (S j) from yes), he]; rfl
  · rw [if_neg (show ¬ g_isW B N 27 (S j) from no 18 (by decide) (by decide)), if_neg (show ¬ g_isW B N 28 (S j) from no 19 (by decide) (by decide)), if_neg (show ¬ g_isW B N 29 (S j) from no 20 (by decide) (by decide)), if_pos (show g_isW B N 30 (S j) from yes), he]; rfl
  · rw [if_neg (show ¬ g_isW B N 27 (S j) from no 18 (by decide) (by decide)), if_neg (show ¬ g_isW B N 28 (S j) from no 19 (by decide) (by decide)), if_neg (show ¬ g_isW B N 29 (S j) from no 20 (by decide) (by decide)), if_neg (show ¬ g_isW B N 30 (S j) from no 21 (by decide) (by decide)), if_pos (show g_isW B N 31 (S j) from yes), he]; rfl
theorem g_rdSleep_n {f : Nat} (ht : g_TK B N c S E) (hj : j ≤ c) (h : ∀ k : Nat, k < 5 → g_wo B (S j) (E j) ≠ some (18 + k)) : g_rdSleep B N f s t (S j) = g_Rl.er 1 (S j) := by
  have no : ∀ k, k < 5 → ¬ g_isW B N (g_ri (18 + k)) (S j) := fun k hk e => h k hk ((g_wo_is ht hj (by omega)).mp e)
  unfold g_rdSleep
  rw [if_neg (show ¬ g_isW B N 27 (S j) from no 0 (by decide)), if_neg (show ¬ g_isW B N 28 (S j) from no 1 (by decide)), if_neg (show ¬ g_isW B N 29 (S j) from no 2 (by decide)), if_neg (show ¬ g_isW B N 30 (S j) from no 3 (by decide)), if_neg (show ¬ g_isW B N 31 (S j) from no 4 (by decide))]
/-- a number that must stand -/
theorem g_nu_y {lo hi : Int} {p : Nat} {F : Int → Nat → g_Rl} (hS : S j = g_sk B N p) (h : g_dg (g_bt B N (S j))) (h2 : lo ≤ g_nv B N (S j) 0 ∧ g_nv B N (S j) 0 ≤ hi) : g_nu B N lo hi p F = F (g_nv B N (S j) 0) (g_nd B N (S j)) := by
  unfold g_nu; rw [← hS, if_pos h, if_pos h2]
theorem g_nu_2 {lo hi : Int} {p : Nat} {F : Int → Nat → g_Rl} (hS : S j = g_sk B N p) (h : g_dg (g_bt B N (S j))) (h2 : ¬ (lo ≤ g_nv B N (S j) 0 ∧ g_nv B N (S j) 0 ≤ hi)) : g_nu B N lo hi p F = g_Rl.er 2 (S j) := by
  unfold g_nu; rw [← hS, if_pos h, if_neg h2]
theorem g_nu_1 {lo hi : Int} {p : Nat} {F : Int → Nat → g_Rl} (hS : S j = g_sk B N p) (h : ¬ g_dg (g_bt B N (S j))) : g_nu B N lo hi p F = g_Rl.er 1 (S j) := by
  unfold g_nu; rw [← hS, if_neg h]
/-- one word of the order -/
theorem g_ord_y {w : Option Nat} (h : g_ord w ≠ -1) : ∃ o i : Nat, o < 3 ∧ i < 23 ∧ w = some i ∧ g_ord w = (o : Int) ∧ g_ri i = 32 + o := by
  unfold g_ord at h ⊢
  split at h
  · rename_i e; rw [e]; exact ⟨0, 7, by decide, by decide, rfl, rfl, rfl⟩
  split at h
  · rename_i e; rw [e]; exact ⟨1, 8, by decide, by decide, rfl, rfl, rfl⟩
  split at h
  · rename_i e; rw [e]; exact ⟨2, 5, by decide, by decide, rfl, rfl, rfl⟩
  · exact absurd rfl h
theorem g_rdO_y {f o i : Nat} {ul : List Nat} (ht : g_TK B N c S E) (hj : j ≤ c) (ho : o < 3) (hi : i < 23) (h : g_wo B (S j) (E j) = some i) (hr : g_ri i = 32 + o) : g_rdO B N s (f + 1) t ul (S j) = g_rdO1 B N s t ul (S j) o (E j) (g_rdO B N s f) := by
  have he := (g_wo_end ht hj h).2.1
  have yes : g_isW B N (g_ri i) (S j) := (g_wo_is ht hj hi).mpr h
  have no : ∀ i', i' < 23 → i' ≠ i → ¬ g_isW B N (g_ri i') (S j) := fun i' hi' hn => g_no_w ht hj hi' h (fun x => hn x.symm)
  rw [hr] at he yes
  unfold g_rdO
  rcases (show o = 0 ∨ o = 1 ∨ o = 2 by omega) with rfl | rfl | rfl
  · rw [if_pos (show g_isW B N 32 (S j) from yes), ← he]
  · rw [if_neg (show ¬ g_isW B N 32 (S j) from no 7 (by decide) (fun x => by rw [← x] at hr; exact absurd hr (by decide))), if_pos (show g_isW B N 33 (S j) from yes), ← he]
  · rw [if_neg (show ¬ g_isW B N 32 (S j) from no 7 (by decide) (fun x => by rw [← x] at hr; exact absurd hr (by decide))), if_neg (show ¬ g_isW B N 33 (S j) from no 8 (by decide) (fun x => by rw [← x] at hr; exact absurd hr (by decide))), if_pos (show g_isW B N 34 (S j) from yes), ← he]
theorem g_rdO_n {f : Nat} {ul : List Nat} (ht : g_TK B N c S E) (hj : j ≤ c) (h : g_ord (g_wo B (S j) (E j)) = -1) : g_rdO B N s (f + 1) t ul (S j) = g_Rl.er 1 (S j) := by
  have no : ∀ i, i < 23 → g_ord (some i) ≠ -1 → ¬ g_isW B N (g_ri i) (S j) := fun i hi hn e => by
    rw [(g_wo_is ht hj hi).mp e] at h
    exact hn h
  unfold g_rdO
  rw [if_neg (show ¬ g_isW B N 32 (S j) from no 7 (by decide) (by decide)), if_neg (show ¬ g_isW B N 33 (S j) from no 8 (by decide) (by decide)), if_neg (show ¬ g_isW B N 34 (S j) from no 5 (by decide) (by decide))]
theorem g_so_sm (hB : ∀ k, 0 ≤ B k ∧ B k ≤ 255) {s : Nat} (hs : s ≤ N) : g_so B N s = 256 ↔ g_sm (g_bt B N s) := by
  unfold g_so
  by_cases e : s = N
  · rw [if_pos e, e, g_bt_n]; exact ⟨fun h => by omega, fun h => by omega⟩
  · rw [if_neg e, show g_bt B N s = B s from if_pos (by omega)]
    exact (g_srt_w (hB _)).1
theorem g_lnd_r {q len : Nat} (h : g_lnd B N t q len ≠ -1) : ∃ l : Nat, g_lnd B N t q len = (l : Int) ∧ (l : Int) < t 0 := by
  have hl := g_lndF_r (B := B) (n := N) (t := t) (q := q) (c := len) 6 0
  change -1 ≤ g_lnd B N t q len ∧ (g_lnd B N t q len = -1 ∨ g_lnd B N t q len < t 0) at hl
  exact ⟨(g_lnd B N t q len).toNat, by omega, by omega⟩
/-- the cases of a line -/
theorem g_lnB_land {f : Nat} (ht : g_TK B N c S E) (hj : j ≤ c) (h : g_wo B (S j) (E j) = some 0) : g_lnB B N f s t (S j) = g_rdLand B N (g_mk (E j) s.fl s.fa s.cd s.op s.on s.hp) t (t 0).toNat (S j) (S (j + 1)) := by
  have hw := g_wo_end ht hj h
  have hl : g_len 26 + S j = E j := hw.2.1
  unfold g_lnB
  rw [if_pos (show g_isW B N 26 (S j) from (g_wo_is ht hj (i := 0) (by decide)).mpr h), hl, ← hw.2.2.1]
theorem g_lnB_sleep {f : Nat} (ht : g_TK B N c S E) (hj : j ≤ c) (h : g_wo B (S j) (E j) = some 1) : g_lnB B N f s t (S j) = g_rdSleep B N f (g_mk (E j) s.fl s.fa s.cd s.op s.on s.hp) t (S (j + 1)) := by
  have hw := g_wo_end ht hj h
  have hl : g_len 39 + S j = E j := hw.2.1
  unfold g_lnB
  rw [if_neg (show ¬ g_isW B N 26 (S j) from g_no_w ht hj (i := 0) (by decide) h (by decide)), if_pos (show g_isW B N 39 (S j) from (g_wo_is ht hj (i := 1) (by decide)).mpr h), hl, ← hw.2.2.1]
theorem g_lnB_pays {f : Nat} (ht : g_TK B N c S E) (hj : j ≤ c) (h : g_wo B (S j) (E j) = some 2) : g_lnB B N f s t (S j) = g_rdPays B N (g_mk (E j) s.fl s.fa s.cd s.op s.on s.hp) t (S (j + 1)) := by
  have hw := g_wo_end ht hj h
  have hl : g_len 40 + S j = E j := hw.2.1
  unfold g_lnB
  rw [if_neg (show ¬ g_isW B N 26 (S j) from g_no_w ht hj (i := 0) (by decide) h (by decide)), if_neg (show ¬ g_isW B N 39 (S j) from g_no_w ht hj (i := 1) (by decide) h (by decide)), if_pos (show g_isW B N 40 (S j) from (g_wo_is ht hj (i := 2) (by decide)).mpr h), hl, ← hw.2.2.1]
theorem g_lnB_wait {f : Nat} (ht : g_TK B N c S E) (hj : j ≤ c) (h : g_wo B (S j) (E j) = some 3) (hb : ¬ g_bq s.on 0) : g_lnB B N f s t (S j) = g_nu B N 0 60 (E j) fun v p1 => g_Rl.ok (g_mk p1 s.fl s.fa s.cd s.op (g_or s.on (g_shl 1 0)) s.hp) (g_up t 3 v) := by
  have hw := g_wo_end ht hj h
  have hl : g_len 41 + S j = E j := hw.2.1
  unfold g_lnB
  rw [if_neg (show ¬ g_isW B N 26 (S j) from g_no_w ht hj (i := 0) (by decide) h (by decide)), if_neg (show ¬ g_isW B N 39 (S j) from g_no_w ht hj (i := 1) (by decide) h (by decide)), if_neg (show ¬ g_isW B N 40 (S j) from g_no_w ht hj (i := 2) (by decide) h (by decide)), if_pos ⟨show g_isW B N 41 (S j) from (g_wo_is ht hj (i := 3) (by decide)).mpr h, hb⟩, hl]
theorem g_lnB_letter {f : Nat} (ht : g_TK B N c S E) (hj : j ≤ c) (h : g_wo B (S j) (E j) = some 4) (hb : ¬ g_bq s.on 1) : g_lnB B N f s t (S j) = g_nu B N 0 999 (E j) fun v p1 => g_Rl.ok (g_mk p1 s.fl s.fa s.cd s.op (g_or s.on (g_shl 1 1)) s.hp) (g_up t 4 v) := by
  have hw := g_wo_end ht hj h
  have hl : g_len 42 + S j = E j := hw.2.1
  unfold g_lnB
  rw [if_neg (show ¬ g_isW B N 26 (S j) from g_no_w ht hj (i := 0) (by decide) h (by decide)), if_neg (show ¬ g_isW B N 39 (S j) from g_no_w ht hj (i := 1) (by decide) h (by decide)), if_neg (show ¬ g_isW B N 40 (S j) from g_no_w ht hj (i := 2) (by decide) h (by decide)), if_neg (fun x => (show ¬ g_isW B N 41 (S j) from g_no_w ht hj (i := 3) (by decide) h (by decide)) x.1), if_pos ⟨show g_isW B N 42 (S j) from (g_wo_is ht hj (i := 4) (by decide)).mpr h, hb⟩, hl]
theorem g_lnB_home {f : Nat} (ht : g_TK B N c S E) (hj : j ≤ c) (h : g_wo B (S j) (E j) = some 5) (hb : ¬ g_bq s.on 2) : g_lnB B N f s t (S j) = (if g_nm B N (S (j + 1)) then (if g_lnd B N t (S (j + 1)) (g_nl B N (S (j + 1))) = -1 then g_Rl.er 3 (S (j + 1)) else g_Rl.ok (g_mk (g_nl B N (S (j + 1)) + S (j + 1)) s.fl s.fa s.cd s.op (g_or s.on (g_shl 1 2)) s.hp) (g_up t 5 (g_lnd B N t (S (j + 1)) (g_nl B N (S (j + 1)))))) else g_Rl.er 1 (S (j + 1))) := by
  have hw := g_wo_end ht hj h
  have hl : g_len 34 + S j = E j := hw.2.1
  unfold g_lnB
  rw [if_neg (show ¬ g_isW B N 26 (S j) from g_no_w ht hj (i := 0) (by decide) h (by decide)), if_neg (show ¬ g_isW B N 39 (S j) from g_no_w ht hj (i := 1) (by decide) h (by decide)), if_neg (show ¬ g_isW B N 40 (S j) from g_no_w ht hj (i := 2) (by decide) h (by decide)), if_neg (fun x => (show ¬ g_isW B N 41 (S j) from g_no_w ht hj (i := 3) (by decide) h (by decide)) x.1), if_neg (fun x => (show ¬ g_isW B N 42 (S j) from g_no_w ht hj (i := 4) (by decide) h (by decide)) x.1), if_pos ⟨show g_isW B N 34 (S j) from (g_wo_is ht hj (i := 5) (by decide)).mpr h, hb⟩, hl, ← hw.2.2.1]
theorem g_lnB_order {f : Nat} (ht : g_TK B N c S E) (hj : j ≤ c) (h : g_wo B (S j) (E j) = some 6) (hb : ¬ g_bq s.on 3) : g_lnB B N f s t (S j) = g_rdO B N (g_mk (E j) s.fl s.fa s.cd s.op (g_or s.on (g_shl 1 3)) s.hp) 4 t [] (S (j + 1)) := by
  have hw := g_wo_end ht hj h
  have hl : g_len 43 + S j = E j := hw.2.1
  unfold g_lnB
  rw [if_neg (show ¬ g_isW B N 26 (S j) from g_no_w ht hj (i := 0) (by decide) h (by decide)), if_neg (show ¬ g_isW B N 39 (S j) from g_no_w ht hj (i := 1) (by decide) h (by decide)), if_neg (show ¬ g_isW B N 40 (S j) from g_no_w ht hj (i := 2) (by decide) h (by decide)), if_neg (fun x => (show ¬ g_isW B N 41 (S j) from g_no_w ht hj (i := 3) (by decide) h (by decide)) x.1), if_neg (fun x => (show ¬ g_isW B N 42 (S j) from g_no_w ht hj (i := 4) (by decide) h (by decide)) x.1), if_neg (fun x => (show ¬ g_isW B N 34 (S j) from g_no_w ht hj (i := 5) (by decide) h (by decide)) x.1), if_pos ⟨show g_isW B N 43 (S j) from (g_wo_is ht hj (i := 6) (by decide)).mpr h, hb⟩, hl, ← hw.2.2.1]
  rfl
theorem g_lnB_none {f : Nat} (ht : g_TK B N c S E) (hj : j ≤ c) (h0 : g_wo B (S j) (E j) ≠ some 0) (h1 : g_wo B (S j) (E j) ≠ some 1) (h2 : g_wo B (S j) (E j) ≠ some 2) (h3 : ¬ (g_wo B (S j) (E j) = some 3 ∧ ¬ g_bq s.on 0)) (h4 : ¬ (g_wo B (S j) (E j) = some 4 ∧ ¬ g_bq s.on 1)) (h5 : ¬ (g_wo B (S j) (E j) = some 5 ∧ ¬ g_bq s.on 2)) (h6 : ¬ (g_wo B (S j) (E j) = some 6 ∧ ¬ g_bq s.on 3)) : g_lnB B N f s t (S j) = g_Rl.er 1 (S j) := by
  have no : ∀ i, i < 23 → g_wo B (S j) (E j) ≠ some i → ¬ g_isW B N (g_ri i) (S j) := fun i hi h e => h ((g_wo_is ht hj hi).mp e)
  have on : ∀ i, i < 23 → g_isW B N (g_ri i) (S j) → g_wo B (S j) (E j) = some i := fun i hi e => (g_wo_is ht hj hi).mp e
  unfold g_lnB
  rw [if_neg (show ¬ g_isW B N 26 (S j) from no 0 (by decide) h0), if_neg (show ¬ g_isW B N 39 (S j) from no 1 (by decide) h1), if_neg (show ¬ g_isW B N 40 (S j) from no 2 (by decide) h2), if_neg (fun x => h3 ⟨on 3 (by decide) x.1, x.2⟩), if_neg (fun x => h4 ⟨on 4 (by decide) x.1, x.2⟩), if_neg (fun x => h5 ⟨on 5 (by decide) x.1, x.2⟩), if_neg (fun x => h6 ⟨on 6 (by decide) x.1, x.2⟩)]
end
