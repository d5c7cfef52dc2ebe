/-! what a line leaves -/
def g_IV (lo n : Nat) (s : g_PS) (t : Nat → Int) : Prop := (s.fl = 0 ∧ s.fa = -1) ∧ s.p ≤ n ∧ (2 * s.cd ≤ 3 * s.p ∧ lo ≤ s.p) ∧ g_TR t
theorem g_ok_inj {s s' : g_PS} {t t' : Nat → Int} (h : g_Rl.ok s t = g_Rl.ok s' t') : s = s' ∧ t = t' := by
  have h2 := Sum.inl.inj h
  exact ⟨congrArg Prod.fst h2, congrArg Prod.snd h2⟩
theorem g_er_ok {s : g_PS} {t : Nat → Int} {w : Int} {x : Nat} (h : g_Rl.er w x = g_Rl.ok s t) : False := by cases h
theorem g_wn {B : Nat → Int} {n i q : Nat} (hB : ∀ i q, i < 49 → g_isW B n i q → 1 ≤ g_len i ∧ g_len i + q ≤ n) (hi : i < 49) (h : g_isW B n i q) : g_len i + q ≤ n := (hB i q hi h).2
theorem g_rdP_iv {B : Nat → Int} {lo n : Nat} {s s' : g_PS} {t t' : Nat → Int} {k : Nat} {kz : Int} {p wh : Nat} (hv : g_IV lo n s t) (hp : s.p ≤ p ∧ p ≤ n) (h : g_rdP B n s t k kz p wh = .ok s' t') : g_IV lo n s' t' := by
  unfold g_rdP at h
  have hs := g_sk_r (B := B) hp.2
  split at h
  · exact absurd h (fun x => g_er_ok x)
  split at h
  · rename_i hd
    have hn := g_nd_gt hs.2 hd
    split at h
    · rename_i hr
      obtain ⟨rfl, rfl⟩ := g_ok_inj h
      refine ⟨hv.1, ?_, ?_, hv.2.2.2.up (by omega) (Or.inl (by omega))⟩
      · show g_nd B n (g_sk B n p) ≤ n; omega
      · have := hv.2.2.1; show 2 * s.cd ≤ 3 * g_nd B n (g_sk B n p) ∧ lo ≤ g_nd B n (g_sk B n p); omega
    · exact absurd h (fun x => g_er_ok x)
  · exact absurd h (fun x => g_er_ok x)
theorem g_rdPays_iv {B : Nat → Int} {lo n : Nat} {s s' : g_PS} {t t' : Nat → Int} {q : Nat} (hB : ∀ i q, i < 49 → g_isW B n i q → 1 ≤ g_len i ∧ g_len i + q ≤ n) (hv : g_IV lo n s t) (hq : s.p ≤ q ∧ q ≤ n) (h : g_rdPays B n s t q = .ok s' t') : g_IV lo n s' t' := by
  unfold g_rdPays at h
  split at h
  · rename_i hw; exact g_rdP_iv hv ⟨by omega, g_wn hB (by decide) hw⟩ h
  split at h
  · rename_i hw; exact g_rdP_iv hv ⟨by omega, g_wn hB (by decide) hw⟩ h
  split at h
  · rename_i hw; exact g_rdP_iv hv ⟨by omega, g_wn hB (by decide) hw⟩ h
  split at h
  · rename_i hw; exact g_rdP_iv hv ⟨by omega, g_wn hB (by decide) hw⟩ h
  split at h
  · rename_i hw; exact g_rdP_iv hv ⟨by omega, g_wn hB (by decide) hw⟩ h
  · exact absurd h (fun x => g_er_ok x)
theorem g_nu_ok {B : Nat → Int} {n : Nat} {lo hi : Int} {p : Nat} {f : Int → Nat → g_Rl} {s' : g_PS} {t' : Nat → Int} (hp : p ≤ n) (h : g_nu B n lo hi p f = .ok s' t') : ∃ v p', f v p' = .ok s' t' ∧ lo ≤ v ∧ v ≤ hi ∧ p + 1 ≤ p' ∧ p' ≤ n := by
  unfold g_nu at h
  have hs := g_sk_r (B := B) hp
  split at h
  · rename_i hd
    have hn := g_nd_gt hs.2 hd
    split at h
    · rename_i hr
      exact ⟨_, _, h, hr.1, hr.2, by omega, hn.2⟩
    · exact absurd h (fun x => g_er_ok x)
  · exact absurd h (fun x => g_er_ok x)
theorem g_nms_lo {B : Nat → Int} {n : Nat} {t : Nat → Int} {l q k i : Nat} (h : i < 24 + 13 * l) : g_nms B n t l q k i = t i := if_neg (by omega)
theorem g_TR.nms {B : Nat → Int} {n : Nat} (hB : ∀ k, 0 ≤ B k ∧ B k ≤ 255) {t : Nat → Int} (h : g_TR t) (l q k : Nat) : g_TR (g_nms B n t l q k) := by
  refine ⟨fun i hi => ?_, by rw [g_nms_lo (by omega)]; exact h.2⟩
  unfold g_nms
  split
  · unfold g_bt; split
    · have := hB (q + (i - (24 + 13 * l))); omega
    · decide
  · exact h.1 i hi
theorem g_rdLand_iv {B : Nat → Int} {lo n : Nat} {s s' : g_PS} {t t' : Nat → Int} {l wh q : Nat} (hB : ∀ k, 0 ≤ B k ∧ B k ≤ 255) (hv : g_IV lo n s t) (hl : t 0 = (l : Int)) (hq : s.p ≤ q ∧ q ≤ n) (h : g_rdLand B n s t l wh q = .ok s' t') : g_IV lo n s' t' := by
  unfold g_rdLand at h
  split at h
  · exact absurd h (fun x => g_er_ok x)
  rename_i hl5
  have ht0 := hv.2.2.2.2
  split at h
  · rename_i hnm
    have hnl := g_nl_r (B := B) hq.2
    have hnm1 := hnm.1
    split at h
    · obtain ⟨v1, p1, h, a1, b1, c1, d1⟩ := g_nu_ok (by omega) h
      obtain ⟨v2, p2, h, a2, b2, c2, d2⟩ := g_nu_ok d1 h
      obtain ⟨v3, p3, h, a3, b3, c3, d3⟩ := g_nu_ok d2 h
      obtain ⟨v4, p4, h, a4, b4, c4, d4⟩ := g_nu_ok d3 h
      obtain ⟨rfl, rfl⟩ := g_ok_inj h
      refine ⟨hv.1, d4, ?_, ?_⟩
      · have := hv.2.2.1; show 2 * s.cd ≤ 3 * p4 ∧ lo ≤ p4; omega
      · have h5 : g_TR (g_t1 (g_nms B n t l q (g_nl B n q)) l (g_nl B n q) v1 v2 v3 v4) := (((((hv.2.2.2.nms hB l q _).up (by omega) (Or.inl (by omega))).up (by omega) (Or.inl (by omega))).up (by omega) (Or.inl (by omega))).up (by omega) (Or.inl (by omega))).up (by omega) (Or.inl (by omega))
        have e0 : g_t1 (g_nms B n t l q (g_nl B n q)) l (g_nl B n q) v1 v2 v3 v4 0 = (l : Int) := by
          unfold g_t1
          rw [g_up_n _ _ (by omega), g_up_n _ _ (by omega), g_up_n _ _ (by omega), g_up_n _ _ (by omega), g_up_n _ _ (by omega), g_nms_lo (by omega), hl]
        exact h5.up (by rw [e0]; omega) (Or.inr (by rw [e0]; omega))
    · exact absurd h (fun x => g_er_ok x)
  · exact absurd h (fun x => g_er_ok x)
theorem g_rdS_iv {B : Nat → Int} {lo n f : Nat} {s s' : g_PS} {t t' : Nat → Int} {kz : Int} {q : Nat} (hfar : ∀ p p' cs, p ≤ n → g_ex B n f 3 0 p = .ok p' cs → g_far n 3 p p' cs) (hkz : 0 ≤ kz ∧ kz ≤ 4) (hv : g_IV lo n s t) (hq : s.p + 3 ≤ q ∧ q ≤ n) (hn6 : n ≤ 600) (h : g_rdS B n f s t kz q = .ok s' t') : g_IV lo n s' t' := by
  unfold g_rdS at h
  split at h
  · rename_i hnm
    have hnl := g_nl_r (B := B) hq.2
    have hlf := g_lndF_r (B := B) (n := n) (t := t) (q := q) (c := g_nl B n q) 6 0
    change -1 ≤ g_lnd B n t q (g_nl B n q) ∧ (g_lnd B n t q (g_nl B n q) = -1 ∨ g_lnd B n t q (g_nl B n q) < t 0) at hlf
    have ht0 := hv.2.2.2.2
    split at h
    · exact absurd h (fun x => g_er_ok x)
    rename_i hl1
    split at h
    · exact absurd h (fun x => g_er_ok x)
    cases e : g_ex B n f 3 0 (g_nl B n q + q) with
    | inr w => rw [e] at h; exact absurd h (fun x => g_er_ok x)
    | inl c =>
      rw [e] at h
      have hf := hfar _ _ _ (by omega) (show g_ex B n f 3 0 (g_nl B n q + q) = .ok c.1 c.2 from e)
      have hf1 := hf.1
      have hf2 := hf.2
      rw [if_neg (by decide)] at hf2
      obtain ⟨rfl, rfl⟩ := g_ok_inj h
      have hcd := hv.2.2.1
      refine ⟨hv.1, hf1, ?_, ?_⟩
      · show 2 * (s.cd + g_el c.2) ≤ 3 * c.1 ∧ lo ≤ c.1; omega
      · exact ((hv.2.2.2.app (by omega) _).up (by omega) (Or.inl (by omega))).up (by omega) (Or.inl (by omega))
  · exact absurd h (fun x => g_er_ok x)
theorem g_rdSleep_iv {B : Nat → Int} {lo n f : Nat} {s s' : g_PS} {t t' : Nat → Int} {q : Nat} (hB : ∀ i q, i < 49 → g_isW B n i q → 1 ≤ g_len i ∧ g_len i + q ≤ n) (h3 : 3 ≤ g_len 27 ∧ 3 ≤ g_len 28 ∧ 3 ≤ g_len 29 ∧ 3 ≤ g_len 30 ∧ 3 ≤ g_len 31) (hfar : ∀ p p' cs, p ≤ n → g_ex B n f 3 0 p = .ok p' cs → g_far n 3 p p' cs) (hv : g_IV lo n s t) (hq : s.p ≤ q ∧ q ≤ n) (hn6 : n ≤ 600) (h : g_rdSleep B n f s t q = .ok s' t') : g_IV lo n s' t' := by
  unfold g_rdSleep at h
  split at h
  · rename_i hw; have w := g_wn hB (by decide) hw; have hs := g_sk_r (B := B) w; exact g_rdS_iv hfar (by decide) hv ⟨by omega, hs.2⟩ hn6 h
  split at h
  · rename_i hw; have w := g_wn hB (by decide) hw; have hs := g_sk_r (B := B) w; exact g_rdS_iv hfar (by decide) hv ⟨by omega, hs.2⟩ hn6 h
  split at h
  · rename_i hw; have w := g_wn hB (by decide) hw; have hs := g_sk_r (B := B) w; exact g_rdS_iv hfar (by decide) hv ⟨by omega, hs.2⟩ hn6 h
  split at h
  · rename_i hw; have w := g_wn hB (by decide) hw; have hs := g_sk_r (B := B) w; exact g_rdS_iv hfar (by decide) hv ⟨by omega, hs.2⟩ hn6 h
  split at h
  · rename_i hw; have w := g_wn hB (by decide) hw; have hs := g_sk_r (B := B) w; exact g_rdS_iv hfar (by decide) hv ⟨by omega, hs.2⟩ hn6 h
  · exact absurd h (fun x => g_er_ok x)
theorem g_rdO_iv {B : Nat → Int} {lo n : Nat} {s s' : g_PS} (hB : ∀ i q, i < 49 → g_isW B n i q → 1 ≤ g_len i ∧ g_len i + q ≤ n) : ∀ (f : Nat) (t t' : Nat → Int) (u : List Nat) (q : Nat), u.length ≤ 60 → f ≤ 4 → g_IV lo n s t → s.p ≤ q ∧ q ≤ n → u.length + f ≤ 4 → g_rdO B n s f t u q = .ok s' t' → g_IV lo n s' t'
  | 0, _, _, _, _, _, _, _, _, _, h => absurd h (fun x => g_er_ok x)
  | f + 1, t, t', u, q, hu, hf, hv, hq, huf, h => by
    have one : ∀ j i : Nat, i < 49 → g_isW B n i q → j < 3 → g_rdO1 B n s t u q j (g_len i + q) (g_rdO B n s f) = .ok s' t' → g_IV lo n s' t' := fun j i hi hw hj h => by
      have w := g_wn hB hi hw
      have hs := g_sk_r (B := B) w
      unfold g_rdO1 at h
      split at h
      · exact absurd h (fun x => g_er_ok x)
      split at h
      · exact g_rdO_iv hB f _ _ _ _ (by show u.length + 1 ≤ 60; omega) (by omega) ⟨hv.1, hv.2.1, hv.2.2.1, hv.2.2.2.up (by omega) (Or.inl (by omega))⟩ ⟨by omega, hs.2⟩ (by show u.length + 1 + f ≤ 4; omega) h
      · obtain ⟨rfl, rfl⟩ := g_ok_inj h
        have := hv.2.2.1
        refine ⟨hv.1, hs.2, ?_, (hv.2.2.2.up (by omega) (Or.inl (by omega))).up (by omega) (Or.inl (by omega))⟩
        show 2 * s.cd ≤ 3 * g_sk B n (g_len i + q) ∧ lo ≤ g_sk B n (g_len i + q)
        omega
    unfold g_rdO at h
    split at h
    · rename_i hw; exact one 0 32 (by decide) hw (by decide) h
    split at h
    · rename_i hw; exact one 1 33 (by decide) hw (by decide) h
    split at h
    · rename_i hw; exact one 2 34 (by decide) hw (by decide) h
    · exact absurd h (fun x => g_er_ok x)
/-- the sign behind a line -/
def g_after (B : Nat → Int) (n : Nat) (r : g_Rl) : g_Rl := match r with
  | .inl c => if g_bt B n (g_sk B n c.1.p) = 59 then g_Rl.ok (g_mk (1 + g_sk B n c.1.p) c.1.fl c.1.fa c.1.cd c.1.op c.1.on c.1.hp) c.2 else g_Rl.er 1 (g_sk B n c.1.p)
  | .inr e => .inr e
theorem g_after_ok {B : Nat → Int} {n : Nat} {s : g_PS} {t : Nat → Int} (h : g_bt B n (g_sk B n s.p) = 59) : g_after B n (g_Rl.ok s t) = g_Rl.ok (g_mk (1 + g_sk B n s.p) s.fl s.fa s.cd s.op s.on s.hp) t := if_pos h
theorem g_after_er {B : Nat → Int} {n : Nat} {s : g_PS} {t : Nat → Int} (h : g_bt B n (g_sk B n s.p) ≠ 59) : g_after B n (g_Rl.ok s t) = g_Rl.er 1 (g_sk B n s.p) := if_neg h
theorem g_after_e {B : Nat → Int} {n : Nat} {w : Int} {x : Nat} : g_after B n (g_Rl.er w x) = g_Rl.er w x := rfl
/-- a line that begins at q -/
def g_lnB (B : Nat → Int) (n f : Nat) (s : g_PS) (t : Nat → Int) (q : Nat) : g_Rl :=
  if g_isW B n 26 q then g_rdLand B n (g_mk (g_len 26 + q) s.fl s.fa s.cd s.op s.on s.hp) t (t 0).toNat q (g_sk B n (g_len 26 + q))
  else if g_isW B n 39 q then g_rdSleep B n f (g_mk (g_len 39 + q) s.fl s.fa s.cd s.op s.on s.hp) t (g_sk B n (g_len 39 + q))
  else if g_isW B n 40 q then g_rdPays B n (g_mk (g_len 40 + q) s.fl s.fa s.cd s.op s.on s.hp) t (g_sk B n (g_len 40 + q))
  else if g_isW B n 41 q ∧ g_and (g_shr s.on 0) 1 ≠ 1 then g_nu B n 0 60 (g_len 41 + q) fun v p1 => g_Rl.ok (g_mk p1 s.fl s.fa s.cd s.op (g_or s.on (g_shl 1 0)) s.hp) (g_up t 3 v)
  else if g_isW B n 42 q ∧ g_and (g_shr s.on 1) 1 ≠ 1 then g_nu B n 0 999 (g_len 42 + q) fun v p1 => g_Rl.ok (g_mk p1 s.fl s.fa s.cd s.op (g_or s.on (g_shl 1 1)) s.hp) (g_up t 4 v)
  else if g_isW B n 34 q ∧ g_and (g_shr s.on 2) 1 ≠ 1 then
    (if g_nm B n (g_sk B n (g_len 34 + q)) then (if g_lnd B n t (g_sk B n (g_len 34 + q)) (g_nl B n (g_sk B n (g_len 34 + q))) = -1 then g_Rl.er 3 (g_sk B n (g_len 34 + q)) else
      g_Rl.ok (g_mk (g_nl B n (g_sk B n (g_len 34 + q)) + g_sk B n (g_len 34 + q)) s.fl s.fa s.cd s.op (g_or s.on (g_shl 1 2)) s.hp) (g_up t 5 (g_lnd B n t (g_sk B n (g_len 34 + q)) (g_nl B n (g_sk B n (g_len 34 + q)))))) else g_Rl.er 1 (g_sk B n (g_len 34 + q)))
  else if g_isW B n 43 q ∧ g_and (g_shr s.on 3) 1 ≠ 1 then g_rdOrder B n (g_mk (g_len 43 + q) s.fl s.fa s.cd s.op (g_or s.on (g_shl 1 3)) s.hp) t (g_sk B n (g_len 43 + q))
  else g_Rl.er 1 q
def g_line (B : Nat → Int) (n f : Nat) (s : g_PS) (t : Nat → Int) : g_Rl := g_after B n (g_lnB B n f s t (g_sk B n s.p))
theorem g_lnB_iv {I : q_I} {m n f : Nat} {B : Nat → Int} (hB : q_BT I m B n) {s s' : g_PS} {t t' : Nat → Int} {q : Nat} (hw : ∀ i q, i < 49 → g_isW B n i q → 1 ≤ g_len i ∧ g_len i + q ≤ n) (h3 : 3 ≤ g_len 27 ∧ 3 ≤ g_len 28 ∧ 3 ≤ g_len 29 ∧ 3 ≤ g_len 30 ∧ 3 ≤ g_len 31) (hfar : ∀ p p' cs, p ≤ n → g_ex B n f 3 0 p = .ok p' cs → g_far n 3 p p' cs) (hfl : s.fl = 0 ∧ s.fa = -1) (hcd : 2 * s.cd ≤ 3 * q) (ht : g_TR t) (h : g_lnB B n f s t q = .ok s' t') : g_IV q n s' t' := by
  unfold g_lnB at h
  have ht0 := ht.2
  split at h
  · rename_i w; have w := (hw _ _ (by decide) w).2; have hs := g_sk_r (B := B) w
    exact g_rdLand_iv (s := g_mk (g_len 26 + q) s.fl s.fa s.cd s.op s.on s.hp) hB.2.2.2 ⟨hfl, w, by show 2 * s.cd ≤ 3 * (g_len 26 + q) ∧ q ≤ g_len 26 + q; omega, ht⟩ (by omega) ⟨hs.1, hs.2⟩ h
  split at h
  · rename_i w; have w := (hw _ _ (by decide) w).2; have hs := g_sk_r (B := B) w
    exact g_rdSleep_iv (s := g_mk (g_len 39 + q) s.fl s.fa s.cd s.op s.on s.hp) hw h3 hfar ⟨hfl, w, by show 2 * s.cd ≤ 3 * (g_len 39 + q) ∧ q ≤ g_len 39 + q; omega, ht⟩ ⟨hs.1, hs.2⟩ hB.2.1 h
  split at h
  · rename_i w; have w := (hw _ _ (by decide) w).2; have hs := g_sk_r (B := B) w
    exact g_rdPays_iv (s := g_mk (g_len 40 + q) s.fl s.fa s.cd s.op s.on s.hp) hw ⟨hfl, w, by show 2 * s.cd ≤ 3 * (g_len 40 + q) ∧ q ≤ g_len 40 + q; omega, ht⟩ ⟨hs.1, hs.2⟩ h
  split at h
  · rename_i w; have w := (hw _ _ (by decide) w.1).2
    obtain ⟨v, p1, h, a, b, c, d⟩ := g_nu_ok w h
    obtain ⟨rfl, rfl⟩ := g_ok_inj h
    exact ⟨hfl, d, by show 2 * s.cd ≤ 3 * p1 ∧ q ≤ p1; omega, ht.up (by omega) (Or.inl (by omega))⟩
  split at h
  · rename_i w; have w := (hw _ _ (by decide) w.1).2
    obtain ⟨v, p1, h, a, b, c, d⟩ := g_nu_ok w h
    obtain ⟨rfl, rfl⟩ := g_ok_inj h
    exact ⟨hfl, d, by show 2 * s.cd ≤ 3 * p1 ∧ q ≤ p1; omega, ht.up (by omega) (Or.inl (by omega))⟩
  split at h
  · rename_i w; have w := (hw _ _ (by decide) w.1).2; have hs := g_sk_r (B := B) w
    generalize g_sk B n (g_len 34 + q) = q2 at hs h
    have hnl := g_nl_r (B := B) hs.2
    have hlf := g_lndF_r (B := B) (n := n) (t := t) (q := q2) (c := g_nl B n q2) 6 0
    change -1 ≤ g_lnd B n t q2 (g_nl B n q2) ∧ (g_lnd B n t q2 (g_nl B n q2) = -1 ∨ g_lnd B n t q2 (g_nl B n q2) < t 0) at hlf
    split at h
    · split at h
      · exact absurd h (fun x => g_er_ok x)
      · obtain ⟨rfl, rfl⟩ := g_ok_inj h
        exact ⟨hfl, by show g_nl B n q2 + q2 ≤ n; omega, by show 2 * s.cd ≤ 3 * (g_nl B n q2 + q2) ∧ q ≤ g_nl B n q2 + q2; omega, ht.up (by omega) (Or.inl (by omega))⟩
    · exact absurd h (fun x => g_er_ok x)
  split at h
  · rename_i w; have w := (hw _ _ (by decide) w.1).2; have hs := g_sk_r (B := B) w
    exact g_rdO_iv (s := g_mk (g_len 43 + q) s.fl s.fa s.cd s.op (g_or s.on (g_shl 1 3)) s.hp) hw 4 t _ [] _ (by decide) (by decide) ⟨hfl, w, by show 2 * s.cd ≤ 3 * (g_len 43 + q) ∧ q ≤ g_len 43 + q; omega, ht⟩ ⟨hs.1, hs.2⟩ (by decide) h
  · exact absurd h (fun x => g_er_ok x)
theorem g_line_iv {I : q_I} {m n f : Nat} {B : Nat → Int} (hB : q_BT I m B n) {s s' : g_PS} {t t' : Nat → Int} (hw : ∀ i q, i < 49 → g_isW B n i q → 1 ≤ g_len i ∧ g_len i + q ≤ n) (h3 : 3 ≤ g_len 27 ∧ 3 ≤ g_len 28 ∧ 3 ≤ g_len 29 ∧ 3 ≤ g_len 30 ∧ 3 ≤ g_len 31) (hfar : ∀ p p' cs, p ≤ n → g_ex B n f 3 0 p = .ok p' cs → g_far n 3 p p' cs) (hp : s.p ≤ n) (hfl : s.fl = 0 ∧ s.fa = -1) (hcd : 2 * s.cd ≤ 3 * s.p) (ht : g_TR t) (h : g_line B n f s t = .ok s' t') : g_IV (s.p + 1) n s' t' := by
  unfold g_line at h
  have hs := g_sk_r (B := B) hp
  cases e : g_lnB B n f s t (g_sk B n s.p) with
  | inr w => rw [e] at h; cases h
  | inl c =>
    rw [e] at h
    have iv := g_lnB_iv hB (s' := c.1) (t' := c.2) hw h3 hfar hfl (by omega) ht e
    obtain ⟨i1, i2, i3, i4⟩ := iv
    have hs2 := g_sk_r (B := B) i2
    by_cases c59 : g_bt B n (g_sk B n c.1.p) = 59
    · have hn := g_bt_in (B := B) (n := n) (k := g_sk B n c.1.p) (by rw [c59]; decide)
      rw [show g_after B n (Sum.inl c) = g_Rl.ok (g_mk (1 + g_sk B n c.1.p) c.1.fl c.1.fa c.1.cd c.1.op c.1.on c.1.hp) c.2 from g_after_ok c59] at h
      obtain ⟨rfl, rfl⟩ := g_ok_inj h
      exact ⟨i1, by show 1 + g_sk B n c.1.p ≤ n; omega, by show 2 * c.1.cd ≤ 3 * (1 + g_sk B n c.1.p) ∧ s.p + 1 ≤ 1 + g_sk B n c.1.p; omega, i4⟩
    · rw [show g_after B n (Sum.inl c) = g_Rl.er 1 (g_sk B n c.1.p) from g_after_er c59] at h
      cases h
/-- the lines of a text; fuel w -/
def g_lines (B : Nat → Int) (n f : Nat) : Nat → g_PS → (Nat → Int) → g_Rl
  | 0, _, _ => g_Rl.er 0 0
  | w + 1, s, t =>
    if g_bt B n (g_sk B n s.p) = -1 then g_Rl.ok (g_mk (g_sk B n s.p) s.fl s.fa s.cd s.op s.on s.hp) t
    else match g_line B n f (g_mk (g_sk B n s.p) s.fl s.fa s.cd s.op s.on s.hp) t with
      | .inl c => g_lines B n f w c.1 c.2
      | .inr e => .inr e
theorem g_lines_e {B : Nat → Int} {n f w : Nat} {s : g_PS} {t : Nat → Int} (h : g_bt B n (g_sk B n s.p) = -1) : g_lines B n f (w + 1) s t = g_Rl.ok (g_mk (g_sk B n s.p) s.fl s.fa s.cd s.op s.on s.hp) t := if_pos h
theorem g_lines_k {B : Nat → Int} {n f w : Nat} {s s' : g_PS} {t t' : Nat → Int} (h : g_bt B n (g_sk B n s.p) ≠ -1) (e : g_line B n f (g_mk (g_sk B n s.p) s.fl s.fa s.cd s.op s.on s.hp) t = .ok s' t') : g_lines B n f (w + 1) s t = g_lines B n f w s' t' := by
  rw [g_lines, if_neg h, e]
theorem g_lines_x {B : Nat → Int} {n f w : Nat} {s : g_PS} {t : Nat → Int} {v : Int} {x : Nat} (h : g_bt B n (g_sk B n s.p) ≠ -1) (e : g_line B n f (g_mk (g_sk B n s.p) s.fl s.fa s.cd s.op s.on s.hp) t = .er v x) : g_lines B n f (w + 1) s t = .er v x := by
  rw [g_lines, if_neg h, e]
theorem g_hB {I : q_I} {m n : Nat} {B : Nat → Int} (hB : q_BT I m B n) : ∀ i q, i < 49 → g_isW B n i q → 1 ≤ g_len i ∧ g_len i + q ≤ n := fun i q hi hw => ⟨g_words_ok i hi, g_isW_n (g_words_ok i hi) (fun k hk => by have := g_ch_r hi hk; omega) hw⟩
theorem g_len3 : 3 ≤ g_len 27 ∧ 3 ≤ g_len 28 ∧ 3 ≤ g_len 29 ∧ 3 ≤ g_len 30 ∧ 3 ≤ g_len 31 := by decide +kernel
set_option maxRecDepth 100000 in
theorem mX8_readsLineP {G : q_G} {sz : Nat} {T : q_T} {I L : q_I} {P : q_P} {Q : q_Q} {m : Nat} {f : Nat} {r : g_Rl} {s : g_PS} {B : Nat → Int} {n : Nat} {t : Nat → Int} (hS : q_SM T P m) (hSA : q_A G m) (hB : q_BT I m B n) (hp : s.p ≤ n) (hfl : s.fl = 0) (ht : g_TR t) (ih3 : q_CE G T P m n B f 3 YX8_sum (fun o => 9 + 3 * (3 - o) + 2)) (hfu : ∀ p, p ≤ n → g_ex B n f 3 0 p ≠ .er 0 0) (hcd : 2 * s.cd ≤ 3 * s.p) (hfa : s.fa = -1) (hne2 : g_line B n f s t = r) (k0 : ∀ s' t', r = .ok s' t' → Q (.inl none) sz T (q_ps I m s') (q_row L (m + 4) t') P) (k1 : ∀ (w : Int) (x : Nat) (s' : g_PS) (t' : Nat → Int), r = .er w x → (1 ≤ w ∧ w ≤ 7) → s'.fl = w → s'.fa = (x : Int) → s'.p ≤ n → Q (.inl none) sz T (q_ps I m s') (q_row L (m + 4) t') P) : qC G 24 0 0 YX8_readsLine [.ref m] sz T (q_ps I m s) (q_row L (m + 4) t) P Q := by
  refine qC_of (by decide +kernel) rfl rfl (Nat.le_of_ble_eq_true rfl) (fun F hF _ _ => ?_)
  have hn6 := hB.2.1
  obtain ⟨q, hsk⟩ : ∃ q, g_sk B n s.p = q := ⟨_, rfl⟩
  have hq := g_sk_r (B := B) hp
  rw [hsk] at hq
  have hqq : g_sk B n q = q := by rw [← hsk]; exact g_sk_sk hp
  have hx2 : g_after B n (g_lnB B n f s t q) = r := by rw [← hne2, g_line, hsk]
  have ht0 := ht.2
  refine q_aload_n hF 0 rfl rfl dX8_readsLine_0 ?_
  refine q_callV (kc := 0) (ks := 0) (mc' := 0) (ms' := 0) (h' := 1) (st := []) hF vl_RX8_78 rfl [] rfl rfl hS.t0 (by omega) (Nat.le_of_ble_eq_true rfl) dX8_readsLine_1 ?_
  refine mX8_herePQ (B := B) (n := n) hS hSA hB (show s.p ≤ n by omega) hsk ?_
  show qX G F Q 0 0 4 [(0, .ref m)] [qI (g_bt B n q)] sz T (q_ps I m (g_mk q s.fl s.fa s.cd s.op s.on s.hp)) (q_row L (m + 4) t) P
  refine q_pop hF rfl dX8_readsLine_4 ?_
  refine q_aload_n hF 0 rfl rfl dX8_readsLine_5 ?_
  refine q_getIv hF (z := (q : Int)) fl_RX8_65 hS.t0 q_ps_4 dX8_readsLine_6 ?_
  refine q_istore_n hF (ls' := [(1, qI (q : Int)), (0, .ref m)]) rfl (by decide) rfl dX8_readsLine_9 ?_
  refine q_aload_n hF 1 rfl rfl dX8_readsLine_10 ?_
  refine q_ldcK hF (i := 26) (by decide) rfl rfl dX8_readsLine_11 ?_
  refine q_callV (kc := 0) (ks := 0) (mc' := 0) (ms' := 0) (h' := 5) (st := []) hF vl_RX8_103 rfl [.ref (q_KS G 26)] rfl rfl hS.t0 (by omega) (Nat.le_of_ble_eq_true rfl) dX8_readsLine_13 ?_
  refine mX8_takesPQ (i := 26) hS hSA hB (by decide) (show q ≤ n by omega) hfl hqq (fun (c13_0_2 : ¬ (g_isW B n 26 q)) => ?_) (fun (c13_0_2 : g_isW B n 26 q) => ?_)
  · show qX G F Q 0 0 16 [(1, qI (q : Int)), (0, .ref m)] [qI 0] sz T (q_ps I m (g_mk q s.fl s.fa s.cd s.op s.on s.hp)) (q_row L (m + 4) t) P
    refine q_ifeq hF (by decide) dX8_readsLine_16 (fun c16 => ?_) (fun c16 => ?_)
    · refine q_aload_n hF 1 rfl rfl dX8_readsLine_27 ?_
      refine q_ldcK hF (i := 39) (by decide) rfl rfl dX8_readsLine_28 ?_
      refine q_callV (kc := 0) (ks := 0) (mc' := 0) (ms' := 0) (h' := 5) (st := []) hF vl_RX8_103 rfl [.ref (q_KS G 39)] rfl rfl hS.t0 (by omega) (Nat.le_of_ble_eq_true rfl) dX8_readsLine_30 ?_
      refine mX8_takesPQ (i := 39) hS hSA hB (by decide) (show q ≤ n by omega) hfl hqq (fun (c30_0_3 : ¬ (g_isW B n 39 q)) => ?_) (fun (c30_0_3 : g_isW B n 39 q) => ?_)
      · show qX G F Q 0 0 33 [(1, qI (q : Int)), (0, .ref m)] [qI 0] sz T (q_ps I m (g_mk q s.fl s.fa s.cd s.op s.on s.hp)) (q_row L (m + 4) t) P
        refine q_ifeq hF (by decide) dX8_readsLine_33 (fun c33 => ?_) (fun c33 => ?_)
        · refine q_aload_n hF 1 rfl rfl dX8_readsLine_43 ?_
          refine q_ldcK hF (i := 40) (by decide) rfl rfl dX8_readsLine_44 ?_
          refine q_callV (kc := 0) (ks := 0) (mc' := 0) (ms' := 0) (h' := 5) (st := []) hF vl_RX8_103 rfl [.ref (q_KS G 40)] rfl rfl hS.t0 (by omega) (Nat.le_of_ble_eq_true rfl) dX8_readsLine_46 ?_
          refine mX8_takesPQ (i := 40) hS hSA hB (by decide) (show q ≤ n by omega) hfl hqq (fun (c46_0_4 : ¬ (g_isW B n 40 q)) => ?_) (fun (c46_0_4 : g_isW B n 40 q) => ?_)
          · show qX G F Q 0 0 49 [(1, qI (q : Int)), (0, .ref m)] [qI 0] sz T (q_ps I m (g_mk q s.fl s.fa s.cd s.op s.on s.hp)) (q_row L (m + 4) t) P
            refine q_ifeq hF (by decide) dX8_readsLine_49 (fun c49 => ?_) (fun c49 => ?_)
            · refine q_aload_n hF 1 rfl rfl dX8_readsLine_59 ?_
              refine q_ldcK hF (i := 41) (by decide) rfl rfl dX8_readsLine_60 ?_
              refine q_iconst hF dX8_readsLine_62 ?_
              refine q_callV (kc := 0) (ks := 0) (mc' := 0) (ms' := 0) (h' := 6) (st := []) hF vl_RX8_244 rfl [.ref (q_KS G 41), qI 0] rfl rfl hS.t0 (by omega) (Nat.le_of_ble_eq_true rfl) dX8_readsLine_63 ?_
              refine mX8_isOnceP (i := 41) hS hSA hB (by decide) (show q ≤ n by omega) hfl hqq (fun (c63_0_5 : ¬ (g_isW B n 41 q)) => ?_) (fun (c63_0_5 : g_isW B n 41 q) (c63_1_5 : g_and (g_shr s.on 0) 1 = 1) => ?_) (fun (c63_0_5 : g_isW B n 41 q) (c63_1_5 : g_and (g_shr s.on 0) 1 ≠ 1) => ?_)
              · show qX G F Q 0 0 66 [(1, qI (q : Int)), (0, .ref m)] [qI 0] sz T (q_ps I m (g_mk q s.fl s.fa s.cd s.op s.on s.hp)) (q_row L (m + 4) t) P
                refine q_ifeq hF (by decide) dX8_readsLine_66 (fun c66 => ?_) (fun c66 => ?_)
                · refine q_aload_n hF 1 rfl rfl dX8_readsLine_86 ?_
                  refine q_ldcK hF (i := 42) (by decide) rfl rfl dX8_readsLine_87 ?_
                  refine q_iconst hF dX8_readsLine_89 ?_
                  refine q_callV (kc := 0) (ks := 0) (mc' := 0) (ms' := 0) (h' := 6) (st := []) hF vl_RX8_244 rfl [.ref (q_KS G 42), qI 1] rfl rfl hS.t0 (by omega) (Nat.le_of_ble_eq_true rfl) dX8_readsLine_90 ?_
                  refine mX8_isOnceP (i := 42) hS hSA hB (by decide) (show q ≤ n by omega) hfl hqq (fun (c90_0_6 : ¬ (g_isW B n 42 q)) => ?_) (fun (c90_0_6 : g_isW B n 42 q) (c90_1_6 : g_and (g_shr s.on 1) 1 = 1) => ?_) (fun (c90_0_6 : g_isW B n 42 q) (c90_1_6 : g_and (g_shr s.on 1) 1 ≠ 1) => ?_)
                  · show qX G F Q 0 0 93 [(1, qI (q : Int)), (0, .ref m)] [qI 0] sz T (q_ps I m (g_mk q s.fl s.fa s.cd s.op s.on s.hp)) (q_row L (m + 4) t) P
                    refine q_ifeq hF (by decide) dX8_readsLine_93 (fun c93 => ?_) (fun c93 => ?_)
                    · refine q_aload_n hF 1 rfl rfl dX8_readsLine_114 ?_
                      refine q_ldcK hF (i := 34) (by decide) rfl rfl dX8_readsLine_115 ?_
                      refine q_iconst hF dX8_readsLine_117 ?_
                      refine q_callV (kc := 0) (ks := 0) (mc' := 0) (ms' := 0) (h' := 6) (st := []) hF vl_RX8_244 rfl [.ref (q_KS G 34), qI 2] rfl rfl hS.t0 (by omega) (Nat.le_of_ble_eq_true rfl) dX8_readsLine_118 ?_
                      refine mX8_isOnceP (i := 34) hS hSA hB (by decide) (show q ≤ n by omega) hfl hqq (fun (c118_0_7 : ¬ (g_isW B n 34 q)) => ?_) (fun (c118_0_7 : g_isW B n 34 q) (c118_1_7 : g_and (g_shr s.on 2) 1 = 1) => ?_) (fun (c118_0_7 : g_isW B n 34 q) (c118_1_7 : g_and (g_shr s.on 2) 1 ≠ 1) => ?_)
                      · show qX G F Q 0 0 121 [(1, qI (q : Int)), (0, .ref m)] [qI 0] sz T (q_ps I m (g_mk q s.fl s.fa s.cd s.op s.on s.hp)) (q_row L (m + 4) t) P
                        refine q_ifeq hF (by decide) dX8_readsLine_121 (fun c121 => ?_) (fun c121 => ?_)
                        · refine q_aload_n hF 1 rfl rfl dX8_readsLine_138 ?_
                          refine q_ldcK hF (i := 43) (by decide) rfl rfl dX8_readsLine_139 ?_
                          refine q_iconst hF dX8_readsLine_141 ?_
                          refine q_callV (kc := 0) (ks := 0) (mc' := 0) (ms' := 0) (h' := 6) (st := []) hF vl_RX8_244 rfl [.ref (q_KS G 43), qI 3] rfl rfl hS.t0 (by omega) (Nat.le_of_ble_eq_true rfl) dX8_readsLine_142 ?_
                          refine mX8_isOnceP (i := 43) hS hSA hB (by decide) (show q ≤ n by omega) hfl hqq (fun (c142_0_8 : ¬ (g_isW B n 43 q)) => ?_) (fun (c142_0_8 : g_isW B n 43 q) (c142_1_8 : g_and (g_shr s.on 3) 1 = 1) => ?_) (fun (c142_0_8 : g_isW B n 43 q) (c142_1_8 : g_and (g_shr s.on 3) 1 ≠ 1) => ?_)
                          · show qX G F Q 0 0 145 [(1, qI (q : Int)), (0, .ref m)] [qI 0] sz T (q_ps I m (g_mk q s.fl s.fa s.cd s.op s.on s.hp)) (q_row L (m + 4) t) P
                            refine q_ifeq hF (by decide) dX8_readsLine_145 (fun c145 => ?_) (fun c145 => ?_)
                            · refine q_aload_n hF 1 rfl rfl dX8_readsLine_155 ?_
                              refine q_iconst hF dX8_readsLine_156 ?_
                              refine q_iload_n hF 0 rfl rfl dX8_readsLine_157 ?_
                              refine q_callV (kc := 0) (ks := 0) (mc' := 0) (ms' := 0) (h' := 0) (st := []) hF vl_RX8_106 rfl [qI 1, qI (q : Int)] rfl rfl hS.t0 (by omega) (Nat.le_of_ble_eq_true rfl) dX8_readsLine_158 ?_
                              refine mX8_wrongA hS hSA hfl ?_
                              show qX G F Q 0 0 161 [(1, qI (q : Int)), (0, .ref m)] [] sz T (q_ps I m (g_mk q 1 (q : Int) s.cd s.op s.on s.hp)) (q_row L (m + 4) t) P
                              refine q_aload_n hF 1 rfl rfl dX8_readsLine_161 ?_
                              refine q_bipush hF (n := 59) rfl dX8_readsLine_162 ?_
                              refine q_callV (kc := 0) (ks := 0) (mc' := 0) (ms' := 0) (h' := 2) (st := []) hF vl_RX8_204 rfl [qI 59] rfl rfl hS.t0 (by omega) (Nat.le_of_ble_eq_true rfl) dX8_readsLine_164 ?_
                              refine mX8_sign0 hS hSA (show (1 : Int) ≠ 0 by decide) (show -2147483648 ≤ 1 ∧ 1 < 2147483648 by first | decide | omega | assumption) ?_
                              refine q_return hF rfl dX8_readsLine_167 ?_
                              show Q (.inl none) sz T (q_ps I m (g_mk q 1 (q : Int) s.cd s.op s.on s.hp)) (q_row L (m + 4) t) P
                              exact k1 1 q _ _ (by rw [← hx2, g_lnB, if_neg c13_0_2, if_neg c30_0_3, if_neg c46_0_4, if_neg (fun h => c63_0_5 h.1), if_neg (fun h => c90_0_6 h.1), if_neg (fun h => c118_0_7 h.1), if_neg (fun h => c142_0_8 h.1), g_after_e]) (by decide) rfl rfl (show q ≤ n by omega)
                            · exact absurd c145 (by decide)
                          · show qX G F Q 0 0 145 [(1, qI (q : Int)), (0, .ref m)] [qI 0] sz T (q_ps I m (g_mk q s.fl s.fa s.cd s.op s.on s.hp)) (q_row L (m + 4) t) P
                            refine q_ifeq hF (by decide) dX8_readsLine_145 (fun c145 => ?_) (fun c145 => ?_)
                            · refine q_aload_n hF 1 rfl rfl dX8_readsLine_155 ?_
                              refine q_iconst hF dX8_readsLine_156 ?_
                              refine q_iload_n hF 0 rfl rfl dX8_readsLine_157 ?_
                              refine q_callV (kc := 0) (ks := 0) (mc' := 0) (ms' := 0) (h' := 0) (st := []) hF vl_RX8_106 rfl [qI 1, qI (q : Int)] rfl rfl hS.t0 (by omega) (Nat.le_of_ble_eq_true rfl) dX8_readsLine_158 ?_
                              refine mX8_wrongA hS hSA hfl ?_
                              show qX G F Q 0 0 161 [(1, qI (q : Int)), (0, .ref m)] [] sz T (q_ps I m (g_mk q 1 (q : Int) s.cd s.op s.on s.hp)) (q_row L (m + 4) t) P
                              refine q_aload_n hF 1 rfl rfl dX8_readsLine_161 ?_
                              refine q_bipush hF (n := 59) rfl dX8_readsLine_162 ?_
                              refine q_callV (kc := 0) (ks := 0) (mc' := 0) (ms' := 0) (h' := 2) (st := []) hF vl_RX8_204 rfl [qI 59] rfl rfl hS.t0 (by omega) (Nat.le_of_ble_eq_true rfl) dX8_readsLine_164 ?_
                              refine mX8_sign0 hS hSA (show (1 : Int) ≠ 0 by decide) (show -2147483648 ≤ 1 ∧ 1 < 2147483648 by first | decide | omega | assumption) ?_
                              refine q_return hF rfl dX8_readsLine_167 ?_
                              show Q (.inl none) sz T (q_ps I m (g_mk q 1 (q : Int) s.cd s.op s.on s.hp)) (q_row L (m + 4) t) P
                              exact k1 1 q _ _ (by rw [← hx2, g_lnB, if_neg c13_0_2, if_neg c30_0_3, if_neg c46_0_4, if_neg (fun h => c63_0_5 h.1), if_neg (fun h => c90_0_6 h.1), if_neg (fun h => c118_0_7 h.1), if_neg (fun h => h.2 c142_1_8), g_after_e]) (by decide) rfl rfl (show q ≤ n by omega)
                            · exact absurd c145 (by decide)
                          · show qX G F Q 0 0 145 [(1, qI (q : Int)), (0, .ref m)] [qI 1] sz T (q_ps I m (g_mk (g_len 43 + q) s.fl s.fa s.cd s.op (g_or s.on (g_shl 1 3)) s.hp)) (q_row L (m + 4) t) P
                            refine q_ifeq hF (by decide) dX8_readsLine_145 (fun c145 => ?_) (fun c145 => ?_)
                            · exact absurd c145 (by decide)
                            · have hwl := g_words_ok 43 (by decide)
                              have hwn := g_isW_n (g_words_ok 43 (by decide)) (fun k hk => by have := g_ch_r (i := 43) (by decide) hk; omega) c142_0_8
                              have hsr := g_sk_r (B := B) (n := n) (k := g_len 43 + q) (by omega)
                              refine q_aload_n hF 1 rfl rfl dX8_readsLine_148 ?_
                              refine q_callV (kc := 0) (ks := 0) (mc' := 0) (ms' := 0) (h' := 7) (st := []) hF vl_RX8_248 rfl [] rfl rfl hS.t0 (by omega) (Nat.le_of_ble_eq_true rfl) dX8_readsLine_149 ?_
                              refine mX8_readsOrderP hS hSA hB (show g_len 43 + q ≤ n by omega) hfl  rfl rfl (fun s13 t13 e13 => ?_) (fun w13 x13 s13 t13 e13 hw13 hfl13 hfa13 hpn13 => ?_)
                              · have iv13 := (fun hv hq he => g_rdO_iv (g_hB hB) 4 t _ [] _ (by decide) (by decide) hv hq (by decide) he) (show g_IV q n (g_mk (g_len 43 + q) s.fl s.fa s.cd s.op (g_or s.on (g_shl 1 3)) s.hp) t from ⟨⟨hfl, hfa⟩, (show g_len 43 + q ≤ n by omega), (show 2 * s.cd ≤ 3 * (g_len 43 + q) ∧ q ≤ g_len 43 + q by omega), ht⟩) ⟨(show g_len 43 + q ≤ g_sk B n (g_len 43 + q) from (g_sk_r (B := B) (show g_len 43 + q ≤ n by omega)).1), (g_sk_r (B := B) (show g_len 43 + q ≤ n by omega)).2⟩ e13
                                have hvf13 : s13.fl = 0 := iv13.1.1
                                have hvp13 : s13.p ≤ n := iv13.2.1
                                have hvs13 := g_sk_r (B := B) hvp13
                                refine q_goto hF dX8_readsLine_152 ?_
                                refine q_aload_n hF 1 rfl rfl dX8_readsLine_161 ?_
                                refine q_bipush hF (n := 59) rfl dX8_readsLine_162 ?_
                                refine q_callV (kc := 0) (ks := 0) (mc' := 0) (ms' := 0) (h' := 2) (st := []) hF vl_RX8_204 rfl [qI 59] rfl rfl hS.t0 (by omega) (Nat.le_of_ble_eq_true rfl) dX8_readsLine_164 ?_
                                refine mX8_signPQ hS hSA hB (by decide) (show s13.p ≤ n by omega) hvf13 rfl (fun (c164_0_14 : (g_bt B n (g_sk B n s13.p)) = 59) => ?_) (fun (c164_0_14 : (g_bt B n (g_sk B n s13.p)) ≠ 59) => ?_)
                                · show qX G F Q 0 0 167 [(1, qI (q : Int)), (0, .ref m)] [] sz T (q_ps I m (g_mk (1 + (g_sk B n s13.p)) s13.fl s13.fa s13.cd s13.op s13.on s13.hp)) (q_row L (m + 4) t13) P
                                  refine q_return hF rfl dX8_readsLine_167 ?_
                                  exact k0 _ _ (by rw [← hx2, g_lnB, if_neg c13_0_2, if_neg c30_0_3, if_neg c46_0_4, if_neg (fun h => c63_0_5 h.1), if_neg (fun h => c90_0_6 h.1), if_neg (fun h => c118_0_7 h.1), if_pos ⟨c142_0_8, c142_1_8⟩, e13, g_after_ok (by exact c164_0_14)])
                                · show qX G F Q 0 0 167 [(1, qI (q : Int)), (0, .ref m)] [] sz T (q_ps I m (g_mk (g_sk B n s13.p) 1 (g_sk B n s13.p : Int) s13.cd s13.op s13.on s13.hp)) (q_row L (m + 4) t13) P
                                  refine q_return hF rfl dX8_readsLine_167 ?_
                                  show Q (.inl none) sz T (q_ps I m (g_mk (g_sk B n s13.p) 1 (g_sk B n s13.p : Int) s13.cd s13.op s13.on s13.hp)) (q_row L (m + 4) t13) P
                                  exact k1 1 (g_sk B n s13.p) _ _ (by rw [← hx2, g_lnB, if_neg c13_0_2, if_neg c30_0_3, if_neg c46_0_4, if_neg (fun h => c63_0_5 h.1), if_neg (fun h => c90_0_6 h.1), if_neg (fun h => c118_0_7 h.1), if_pos ⟨c142_0_8, c142_1_8⟩, e13, g_after_er (by exact c164_0_14)]) (by decide) rfl rfl (show g_sk B n s13.p ≤ n by omega)
                              · have her13 : s13.fl ≠ 0 := by omega
                                have hrf13 : -2147483648 ≤ s13.fl ∧ s13.fl < 2147483648 := by omega
                                refine q_goto hF dX8_readsLine_152 ?_
                                refine q_aload_n hF 1 rfl rfl dX8_readsLine_161 ?_
                                refine q_bipush hF (n := 59) rfl dX8_readsLine_162 ?_
                                refine q_callV (kc := 0) (ks := 0) (mc' := 0) (ms' := 0) (h' := 2) (st := []) hF vl_RX8_204 rfl [qI 59] rfl rfl hS.t0 (by omega) (Nat.le_of_ble_eq_true rfl) dX8_readsLine_164 ?_
                                refine mX8_sign0 hS hSA her13 (show -2147483648 ≤ s13.fl ∧ s13.fl < 2147483648 by first | decide | omega | assumption) ?_
                                refine q_return hF rfl dX8_readsLine_167 ?_
                                show Q (.inl none) sz T (q_ps I m s13) (q_row L (m + 4) t13) P
                                exact k1 w13 x13 _ _ (by rw [← hx2, g_lnB, if_neg c13_0_2, if_neg c30_0_3, if_neg c46_0_4, if_neg (fun h => c63_0_5 h.1), if_neg (fun h => c90_0_6 h.1), if_neg (fun h => c118_0_7 h.1), if_pos ⟨c142_0_8, c142_1_8⟩, e13, g_after_e]) hw13 hfl13 hfa13 hpn13
                        · exact absurd c121 (by decide)
                      · show qX G F Q 0 0 121 [(1, qI (q : Int)), (0, .ref m)] [qI 0] sz T (q_ps I m (g_mk q s.fl s.fa s.cd s.op s.on s.hp)) (q_row L (m + 4) t) P
                        refine q_ifeq hF (by decide) dX8_readsLine_121 (fun c121 => ?_) (fun c121 => ?_)
                        · refine q_aload_n hF 1 rfl rfl dX8_readsLine_138 ?_
                          refine q_ldcK hF (i := 43) (by decide) rfl rfl dX8_readsLine_139 ?_
                          refine q_iconst hF dX8_readsLine_141 ?_
                          refine q_callV (kc := 0) (ks := 0) (mc' := 0) (ms' := 0) (h' := 6) (st := []) hF vl_RX8_244 rfl [.ref (q_KS G 43), qI 3] rfl rfl hS.t0 (by omega) (Nat.le_of_ble_eq_true rfl) dX8_readsLine_142 ?_
                          refine mX8_isOnceP (i := 43) hS hSA hB (by decide) (show q ≤ n by omega) hfl hqq (fun (c142_0_16 : ¬ (g_isW B n 43 q)) => ?_) (fun (c142_0_16 : g_isW B n 43 q) (c142_1_16 : g_and (g_shr s.on 3) 1 = 1) => ?_) (fun (c142_0_16 : g_isW B n 43 q) (c142_1_16 : g_and (g_shr s.on 3) 1 ≠ 1) => ?_)
                          · show qX G F Q 0 0 145 [(1, qI (q : Int)), (0, .ref m)] [qI 0] sz T (q_ps I m (g_mk q s.fl s.fa s.cd s.op s.on s.hp)) (q_row L (m + 4) t) P
                            refine q_ifeq hF (by decide) dX8_readsLine_145 (fun c145 => ?_) (fun c145 => ?_)
                            · refine q_aload_n hF 1 rfl rfl dX8_readsLine_155 ?_
                              refine q_iconst hF dX8_readsLine_156 ?_
                              refine q_iload_n hF 0 rfl rfl dX8_readsLine_157 ?_
                              refine q_callV (kc := 0) (ks := 0) (mc' := 0) (ms' := 0) (h' := 0) (st := []) hF vl_RX8_106 rfl [qI 1, qI (q : Int)] rfl rfl hS.t0 (by omega) (Nat.le_of_ble_eq_true rfl) dX8_readsLine_158 ?_
                              refine mX8_wrongA hS hSA hfl ?_
                              show qX G F Q 0 0 161 [(1, qI (q : Int)), (0, .ref m)] [] sz T (q_ps I m (g_mk q 1 (q : Int) s.cd s.op s.on s.hp)) (q_row L (m + 4) t) P
                              refine q_aload_n hF 1 rfl rfl dX8_readsLine_161 ?_
                              refine q_bipush hF (n := 59) rfl dX8_readsLine_162 ?_
                              refine q_callV (kc := 0) (ks := 0) (mc' := 0) (ms' := 0) (h' := 2) (st := []) hF vl_RX8_204 rfl [qI 59] rfl rfl hS.t0 (by omega) (Nat.le_of_ble_eq_true rfl) dX8_readsLine_164 ?_
                              refine mX8_sign0 hS hSA (show (1 : Int) ≠ 0 by decide) (show -2147483648 ≤ 1 ∧ 1 < 2147483648 by first | decide | omega | assumption) ?_
                              refine q_return hF rfl dX8_readsLine_167 ?_
                              show Q (.inl none) sz T (q_ps I m (g_mk q 1 (q : Int) s.cd s.op s.on s.hp)) (q_row L (m + 4) t) P
                              exact k1 1 q _ _ (by rw [← hx2, g_lnB, if_neg c13_0_2, if_neg c30_0_3, if_neg c46_0_4, if_neg (fun h => c63_0_5 h.1), if_neg (fun h => c90_0_6 h.1), if_neg (fun h => h.2 c118_1_7), if_neg (fun h => c142_0_16 h.1), g_after_e]) (by decide) rfl rfl (show q ≤ n by omega)
                            · exact absurd c145 (by decide)
                          · show qX G F Q 0 0 145 [(1, qI (q : Int)), (0, .ref m)] [qI 0] sz T (q_ps I m (g_mk q s.fl s.fa s.cd s.op s.on s.hp)) (q_row L (m + 4) t) P
                            refine q_ifeq hF (by decide) dX8_readsLine_145 (fun c145 => ?_) (fun c145 => ?_)
                            · refine q_aload_n hF 1 rfl rfl dX8_readsLine_155 ?_
                              refine q_iconst hF dX8_readsLine_156 ?_
                              refine q_iload_n hF 0 rfl rfl dX8_readsLine_157 ?_
                              refine q_callV (kc := 0) (ks := 0) (mc' := 0) (ms' := 0) (h' := 0) (st := []) hF vl_RX8_106 rfl [qI 1, qI (q : Int)] rfl rfl hS.t0 (by omega) (Nat.le_of_ble_eq_true rfl) dX8_readsLine_158 ?_
                              refine mX8_wrongA hS hSA hfl ?_
                              show qX G F Q 0 0 161 [(1, qI (q : Int)), (0, .ref m)] [] sz T (q_ps I m (g_mk q 1 (q : Int) s.cd s.op s.on s.hp)) (q_row L (m + 4) t) P
                              refine q_aload_n hF 1 rfl rfl dX8_readsLine_161 ?_
                              refine q_bipush hF (n := 59) rfl dX8_readsLine_162 ?_
                              refine q_callV (kc := 0) (ks := 0) (mc' := 0) (ms' := 0) (h' := 2) (st := []) hF vl_RX8_204 rfl [qI 59] rfl rfl hS.t0 (by omega) (Nat.le_of_ble_eq_true rfl) dX8_readsLine_164 ?_
                              refine mX8_sign0 hS hSA (show (1 : Int) ≠ 0 by decide) (show -2147483648 ≤ 1 ∧ 1 < 2147483648 by first | decide | omega | assumption) ?_
                              refine q_return hF rfl dX8_readsLine_167 ?_
                              show Q (.inl none) sz T (q_ps I m (g_mk q 1 (q : Int) s.cd s.op s.on s.hp)) (q_row L (m + 4) t) P
                              exact k1 1 q _ _ (by rw [← hx2, g_lnB, if_neg c13_0_2, if_neg c30_0_3, if_neg c46_0_4, if_neg (fun h => c63_0_5 h.1), if_neg (fun h => c90_0_6 h.1), if_neg (fun h => h.2 c118_1_7), if_neg (fun h => h.2 c142_1_16), g_after_e]) (by decide) rfl rfl (show q ≤ n by omega)
                            · exact absurd c145 (by decide)
                          · show qX G F Q 0 0 145 [(1, qI (q : Int)), (0, .ref m)] [qI 1] sz T (q_ps I m (g_mk (g_len 43 + q) s.fl s.fa s.cd s.op (g_or s.on (g_shl 1 3)) s.hp)) (q_row L (m + 4) t) P
                            refine q_ifeq hF (by decide) dX8_readsLine_145 (fun c145 => ?_) (fun c145 => ?_)
                            · exact absurd c145 (by decide)
                            · have hwl := g_words_ok 43 (by decide)
                              have hwn := g_isW_n (g_words_ok 43 (by decide)) (fun k hk => by have := g_ch_r (i := 43) (by decide) hk; omega) c142_0_16
                              have hsr := g_sk_r (B := B) (n := n) (k := g_len 43 + q) (by omega)
                              refine q_aload_n hF 1 rfl rfl dX8_readsLine_148 ?_
                              refine q_callV (kc := 0) (ks := 0) (mc' := 0) (ms' := 0) (h' := 7) (st := []) hF vl_RX8_248 rfl [] rfl rfl hS.t0 (by omega) (Nat.le_of_ble_eq_true rfl) dX8_readsLine_149 ?_
                              refine mX8_readsOrderP hS hSA hB (show g_len 43 + q ≤ n by omega) hfl  rfl rfl (fun s21 t21 e21 => ?_) (fun w21 x21 s21 t21 e21 hw21 hfl21 hfa21 hpn21 => ?_)
                              · have iv21 := (fun hv hq he => g_rdO_iv (g_hB hB) 4 t _ [] _ (by decide) (by decide) hv hq (by decide) he) (show g_IV q n (g_mk (g_len 43 + q) s.fl s.fa s.cd s.op (g_or s.on (g_shl 1 3)) s.hp) t from ⟨⟨hfl, hfa⟩, (show g_len 43 + q ≤ n by omega), (show 2 * s.cd ≤ 3 * (g_len 43 + q) ∧ q ≤ g_len 43 + q by omega), ht⟩) ⟨(show g_len 43 + q ≤ g_sk B n (g_len 43 + q) from (g_sk_r (B := B) (show g_len 43 + q ≤ n by omega)).1), (g_sk_r (B := B) (show g_len 43 + q ≤ n by omega)).2⟩ e21
                                have hvf21 : s21.fl = 0 := iv21.1.1
                                have hvp21 : s21.p ≤ n := iv21.2.1
                                have hvs21 := g_sk_r (B := B) hvp21
                                refine q_goto hF dX8_readsLine_152 ?_
                                refine q_aload_n hF 1 rfl rfl dX8_readsLine_161 ?_
                                refine q_bipush hF (n := 59) rfl dX8_readsLine_162 ?_
                                refine q_callV (kc := 0) (ks := 0) (mc' := 0) (ms' := 0) (h' := 2) (st := []) hF vl_RX8_204 rfl [qI 59] rfl rfl hS.t0 (by omega) (Nat.le_of_ble_eq_true rfl) dX8_readsLine_164 ?_
                                refine mX8_signPQ hS hSA hB (by decide) (show s21.p ≤ n by omega) hvf21 rfl (fun (c164_0_22 : (g_bt B n (g_sk B n s21.p)) = 59) => ?_) (fun (c164_0_22 : (g_bt B n (g_sk B n s21.p)) ≠ 59) => ?_)
                                · show qX G F Q 0 0 167 [(1, qI (q : Int)), (0, .ref m)] [] sz T (q_ps I m (g_mk (1 + (g_sk B n s21.p)) s21.fl s21.fa s21.cd s21.op s21.on s21.hp)) (q_row L (m + 4) t21) P
                                  refine q_return hF rfl dX8_readsLine_167 ?_
                                  exact k0 _ _ (by rw [← hx2, g_lnB, if_neg c13_0_2, if_neg c30_0_3, if_neg c46_0_4, if_neg (fun h => c63_0_5 h.1), if_neg (fun h => c90_0_6 h.1), if_neg (fun h => h.2 c118_1_7), if_pos ⟨c142_0_16, c142_1_16⟩, e21, g_after_ok (by exact c164_0_22)])
                                · show qX G F Q 0 0 167 [(1, qI (q : Int)), (0, .ref m)] [] sz T (q_ps I m (g_mk (g_sk B n s21.p) 1 (g_sk B n s21.p : Int) s21.cd s21.op s21.on s21.hp)) (q_row L (m + 4) t21) P
                                  refine q_return hF rfl dX8_readsLine_167 ?_
                                  show Q (.inl none) sz T (q_ps I m (g_mk (g_sk B n s21.p) 1 (g_sk B n s21.p : Int) s21.cd s21.op s21.on s21.hp)) (q_row L (m + 4) t21) P
                                  exact k1 1 (g_sk B n s21.p) _ _ (by rw [← hx2, g_lnB, if_neg c13_0_2, if_neg c30_0_3, if_neg c46_0_4, if_neg (fun h => c63_0_5 h.1), if_neg (fun h => c90_0_6 h.1), if_neg (fun h => h.2 c118_1_7), if_pos ⟨c142_0_16, c142_1_16⟩, e21, g_after_er (by exact c164_0_22)]) (by decide) rfl rfl (show g_sk B n s21.p ≤ n by omega)
                              · have her21 : s21.fl ≠ 0 := by omega
                                have hrf21 : -2147483648 ≤ s21.fl ∧ s21.fl < 2147483648 := by omega
                                refine q_goto hF dX8_readsLine_152 ?_
                                refine q_aload_n hF 1 rfl rfl dX8_readsLine_161 ?_
                                refine q_bipush hF (n := 59) rfl dX8_readsLine_162 ?_
                                refine q_callV (kc := 0) (ks := 0) (mc' := 0) (ms' := 0) (h' := 2) (st := []) hF vl_RX8_204 rfl [qI 59] rfl rfl hS.t0 (by omega) (Nat.le_of_ble_eq_true rfl) dX8_readsLine_164 ?_
                                refine mX8_sign0 hS hSA her21 (show -2147483648 ≤ s21.fl ∧ s21.fl < 2147483648 by first | decide | omega | assumption) ?_
                                refine q_return hF rfl dX8_readsLine_167 ?_
                                show Q (.inl none) sz T (q_ps I m s21) (q_row L (m + 4) t21) P
                                exact k1 w21 x21 _ _ (by rw [← hx2, g_lnB, if_neg c13_0_2, if_neg c30_0_3, if_neg c46_0_4, if_neg (fun h => c63_0_5 h.1), if_neg (fun h => c90_0_6 h.1), if_neg (fun h => h.2 c118_1_7), if_pos ⟨c142_0_16, c142_1_16⟩, e21, g_after_e]) hw21 hfl21 hfa21 hpn21
                        · exact absurd c121 (by decide)
                      · show qX G F Q 0 0 121 [(1, qI (q : Int)), (0, .ref m)] [qI 1] sz T (q_ps I m (g_mk (g_len 34 + q) s.fl s.fa s.cd s.op (g_or s.on (g_shl 1 2)) s.hp)) (q_row L (m + 4) t) P
                        refine q_ifeq hF (by decide) dX8_readsLine_121 (fun c121 => ?_) (fun c121 => ?_)
                        · exact absurd c121 (by decide)
                        · have hwl := g_words_ok 34 (by decide)
                          have hwn := g_isW_n (g_words_ok 34 (by decide)) (fun k hk => by have := g_ch_r (i := 34) (by decide) hk; omega) c118_0_7
                          have hsr := g_sk_r (B := B) (n := n) (k := g_len 34 + q) (by omega)
                          have hnl := g_nl_r (B := B) (n := n) (q := (g_sk B n (g_len 34 + q))) hsr.2
                          have hsr2 := g_sk_r (B := B) (n := n) (k := g_nl B n (g_sk B n (g_len 34 + q)) + (g_sk B n (g_len 34 + q))) (by omega)
                          have hlf := g_lndF_r (B := B) (n := n) (t := t) (q := (g_sk B n (g_len 34 + q))) (c := g_nl B n (g_sk B n (g_len 34 + q))) 6 0
                          change -1 ≤ g_lnd B n t (g_sk B n (g_len 34 + q)) (g_nl B n (g_sk B n (g_len 34 + q))) ∧ (g_lnd B n t (g_sk B n (g_len 34 + q)) (g_nl B n (g_sk B n (g_len 34 + q))) = -1 ∨ g_lnd B n t (g_sk B n (g_len 34 + q)) (g_nl B n (g_sk B n (g_len 34 + q))) < t 0) at hlf
                          refine q_aload_n hF 1 rfl rfl dX8_readsLine_124 ?_
                          refine q_getA hF fl_RX8_24 rfl hS.t0 hS.p10 dX8_readsLine_125 ?_
                          refine q_iconst hF dX8_readsLine_128 ?_
                          refine q_aload_n hF 1 rfl rfl dX8_readsLine_129 ?_
                          refine q_callV (kc := 0) (ks := 0) (mc' := 0) (ms' := 0) (h' := 7) (st := [qI 5, .ref (m + 4)]) hF vl_RX8_223 rfl [] rfl rfl hS.t0 (by omega) (Nat.le_of_ble_eq_true rfl) dX8_readsLine_130 ?_
                          refine mX8_landHereP hS hSA hB (show (g_len 34 + q) ≤ n by omega) hfl ht rfl (fun (c130_0_24 : g_nm B n (g_sk B n (g_len 34 + q))) (c130_1_24 : g_lnd B n t (g_sk B n (g_len 34 + q)) (g_nl B n (g_sk B n (g_len 34 + q))) ≠ -1) => ?_) (fun (c130_0_24 : g_nm B n (g_sk B n (g_len 34 + q))) (c130_1_24 : g_lnd B n t (g_sk B n (g_len 34 + q)) (g_nl B n (g_sk B n (g_len 34 + q))) = -1) => ?_) (fun (c130_0_24 : ¬ (g_nm B n (g_sk B n (g_len 34 + q)))) => ?_)
                          · show qX G F Q 0 0 133 [(1, qI (q : Int)), (0, .ref m)] [qI (g_lnd B n t (g_sk B n (g_len 34 + q)) (g_nl B n (g_sk B n (g_len 34 + q)))), qI 5, .ref (m + 4)] sz T (q_ps I m (g_mk (g_nl B n (g_sk B n (g_len 34 + q)) + (g_sk B n (g_len 34 + q))) s.fl s.fa s.cd s.op (g_or s.on (g_shl 1 2)) s.hp)) (q_row L (m + 4) t) P
                            refine q_i2l hF (by omega) dX8_readsLine_133 ?_
                            refine q_lastorev hF (n := 1243) 5 hS.t4 (q_Ale hSA (by omega)) rfl (by decide) (by decide) dX8_readsLine_134 ?_
                            rw [q_row_u]
                            refine q_goto hF dX8_readsLine_135 ?_
                            refine q_aload_n hF 1 rfl rfl dX8_readsLine_161 ?_
                            refine q_bipush hF (n := 59) rfl dX8_readsLine_162 ?_
                            refine q_callV (kc := 0) (ks := 0) (mc' := 0) (ms' := 0) (h' := 2) (st := []) hF vl_RX8_204 rfl [qI 59] rfl rfl hS.t0 (by omega) (Nat.le_of_ble_eq_true rfl) dX8_readsLine_164 ?_
                            refine mX8_signPQ hS hSA hB (by decide) (show (g_nl B n (g_sk B n (g_len 34 + q)) + (g_sk B n (g_len 34 + q))) ≤ n by omega) hfl rfl (fun (c164_0_25 : (g_bt B n (g_sk B n (g_nl B n (g_sk B n (g_len 34 + q)) + (g_sk B n (g_len 34 + q))))) = 59) => ?_) (fun (c164_0_25 : (g_bt B n (g_sk B n (g_nl B n (g_sk B n (g_len 34 + q)) + (g_sk B n (g_len 34 + q))))) ≠ 59) => ?_)
                            · show qX G F Q 0 0 167 [(1, qI (q : Int)), (0, .ref m)] [] sz T (q_ps I m (g_mk (1 + (g_sk B n (g_nl B n (g_sk B n (g_len 34 + q)) + (g_sk B n (g_len 34 + q))))) s.fl s.fa s.cd s.op (g_or s.on (g_shl 1 2)) s.hp)) (q_row L (m + 4) (g_up t 5 (g_lnd B n t (g_sk B n (g_len 34 + q)) (g_nl B n (g_sk B n (g_len 34 + q)))))) P
                              refine q_return hF rfl dX8_readsLine_167 ?_
                              exact k0 _ _ (by rw [← hx2, g_lnB, if_neg c13_0_2, if_neg c30_0_3, if_neg c46_0_4, if_neg (fun h => c63_0_5 h.1), if_neg (fun h => c90_0_6 h.1), if_pos ⟨c118_0_7, c118_1_7⟩, if_pos c130_0_24, if_neg c130_1_24, g_after_ok (by exact c164_0_25)])
                            · show qX G F Q 0 0 167 [(1, qI (q : Int)), (0, .ref m)] [] sz T (q_ps I m (g_mk (g_sk B n (g_nl B n (g_sk B n (g_len 34 + q)) + (g_sk B n (g_len 34 + q)))) 1 ((g_sk B n (g_nl B n (g_sk B n (g_len 34 + q)) + (g_sk B n (g_len 34 + q))) : Nat) : Int) s.cd s.op (g_or s.on (g_shl 1 2)) s.hp)) (q_row L (m + 4) (g_up t 5 (g_lnd B n t (g_sk B n (g_len 34 + q)) (g_nl B n (g_sk B n (g_len 34 + q)))))) P
                              refine q_return hF rfl dX8_readsLine_167 ?_
                              show Q (.inl none) sz T (q_ps I m (g_mk (g_sk B n (g_nl B n (g_sk B n (g_len 34 + q)) + (g_sk B n (g_len 34 + q)))) 1 ((g_sk B n (g_nl B n (g_sk B n (g_len 34 + q)) + (g_sk B n (g_len 34 + q))) : Nat) : Int) s.cd s.op (g_or s.on (g_shl 1 2)) s.hp)) (q_row L (m + 4) (g_up t 5 (g_lnd B n t (g_sk B n (g_len 34 + q)) (g_nl B n (g_sk B n (g_len 34 + q)))))) P
                              exact k1 1 (g_sk B n (g_nl B n (g_sk B n (g_len 34 + q)) + (g_sk B n (g_len 34 + q)))) _ _ (by rw [← hx2, g_lnB, if_neg c13_0_2, if_neg c30_0_3, if_neg c46_0_4, if_neg (fun h => c63_0_5 h.1), if_neg (fun h => c90_0_6 h.1), if_pos ⟨c118_0_7, c118_1_7⟩, if_pos c130_0_24, if_neg c130_1_24, g_after_er (by exact c164_0_25)]) (by decide) rfl rfl (show g_sk B n (g_nl B n (g_sk B n (g_len 34 + q)) + (g_sk B n (g_len 34 + q))) ≤ n by omega)
                          · show qX G F Q 0 0 133 [(1, qI (q : Int)), (0, .ref m)] [qI (-1), qI 5, .ref (m + 4)] sz T (q_ps I m (g_mk (g_nl B n (g_sk B n (g_len 34 + q)) + (g_sk B n (g_len 34 + q))) 3 ((g_sk B n (g_len 34 + q) : Nat) : Int) s.cd s.op (g_or s.on (g_shl 1 2)) s.hp)) (q_row L (m + 4) t) P
                            refine q_i2l hF (by decide) dX8_readsLine_133 ?_
                            refine q_lastorev hF (n := 1243) 5 hS.t4 (q_Ale hSA (by omega)) rfl (by decide) (by decide) dX8_readsLine_134 ?_
                            rw [q_row_u]
                            refine q_goto hF dX8_readsLine_135 ?_
                            refine q_aload_n hF 1 rfl rfl dX8_readsLine_161 ?_
                            refine q_bipush hF (n := 59) rfl dX8_readsLine_162 ?_
                            refine q_callV (kc := 0) (ks := 0) (mc' := 0) (ms' := 0) (h' := 2) (st := []) hF vl_RX8_204 rfl [qI 59] rfl rfl hS.t0 (by omega) (Nat.le_of_ble_eq_true rfl) dX8_readsLine_164 ?_
                            refine mX8_sign0 hS hSA (show (3 : Int) ≠ 0 by decide) (show -2147483648 ≤ 3 ∧ 3 < 2147483648 by first | decide | omega | assumption) ?_
                            refine q_return hF rfl dX8_readsLine_167 ?_
                            show Q (.inl none) sz T (q_ps I m (g_mk (g_nl B n (g_sk B n (g_len 34 + q)) + (g_sk B n (g_len 34 + q))) 3 ((g_sk B n (g_len 34 + q) : Nat) : Int) s.cd s.op (g_or s.on (g_shl 1 2)) s.hp)) (q_row L (m + 4) (g_up t 5 (-1))) P
                            exact k1 3 (g_sk B n (g_len 34 + q)) _ _ (by rw [← hx2, g_lnB, if_neg c13_0_2, if_neg c30_0_3, if_neg c46_0_4, if_neg (fun h => c63_0_5 h.1), if_neg (fun h => c90_0_6 h.1), if_pos ⟨c118_0_7, c118_1_7⟩, if_pos c130_0_24, if_pos c130_1_24, g_after_e]) (by decide) rfl rfl (show g_nl B n (g_sk B n (g_len 34 + q)) + (g_sk B n (g_len 34 + q)) ≤ n by omega)
                          · show qX G F Q 0 0 133 [(1, qI (q : Int)), (0, .ref m)] [qI (-1), qI 5, .ref (m + 4)] sz T (q_ps I m (g_mk (g_sk B n (g_len 34 + q)) 1 ((g_sk B n (g_len 34 + q) : Nat) : Int) s.cd s.op (g_or s.on (g_shl 1 2)) s.hp)) (q_row L (m + 4) t) P
                            refine q_i2l hF (by decide) dX8_readsLine_133 ?_
                            refine q_lastorev hF (n := 1243) 5 hS.t4 (q_Ale hSA (by omega)) rfl (by decide) (by decide) dX8_readsLine_134 ?_
                            rw [q_row_u]
                            refine q_goto hF dX8_readsLine_135 ?_
                            refine q_aload_n hF 1 rfl rfl dX8_readsLine_161 ?_
                            refine q_bipush hF (n := 59) rfl dX8_readsLine_162 ?_
                            refine q_callV (kc := 0) (ks := 0) (mc' := 0) (ms' := 0) (h' := 2) (st := []) hF vl_RX8_204 rfl [qI 59] rfl rfl hS.t0 (by omega) (Nat.le_of_ble_eq_true rfl) dX8_readsLine_164 ?_
                            refine mX8_sign0 hS hSA (show (1 : Int) ≠ 0 by decide) (show -2147483648 ≤ 1 ∧ 1 < 2147483648 by first | decide | omega | assumption) ?_
                            refine q_return hF rfl dX8_readsLine_167 ?_
                            show Q (.inl none) sz T (q_ps I m (g_mk (g_sk B n (g_len 34 + q)) 1 ((g_sk B n (g_len 34 + q) : Nat) : Int) s.cd s.op (g_or s.on (g_shl 1 2)) s.hp)) (q_row L (m + 4) (g_up t 5 (-1))) P
                            exact k1 1 (g_sk B n (g_len 34 + q)) _ _ (by rw [← hx2, g_lnB, if_neg c13_0_2, if_neg c30_0_3, if_neg c46_0_4, if_neg (fun h => c63_0_5 h.1), if_neg (fun h => c90_0_6 h.1), if_pos ⟨c118_0_7, c118_1_7⟩, if_neg c130_0_24, g_after_e]) (by decide) rfl rfl (show g_sk B n (g_len 34 + q) ≤ n by omega)
                    · exact absurd c93 (by decide)
                  · show qX G F Q 0 0 93 [(1, qI (q : Int)), (0, .ref m)] [qI 0] sz T (q_ps I m (g_mk q s.fl s.fa s.cd s.op s.on s.hp)) (q_row L (m + 4) t) P
                    refine q_ifeq hF (by decide) dX8_readsLine_93 (fun c93 => ?_) (fun c93 => ?_)
                    · refine q_aload_n hF 1 rfl rfl dX8_readsLine_114 ?_
                      refine q_ldcK hF (i := 34) (by decide) rfl rfl dX8_readsLine_115 ?_
                      refine q_iconst hF dX8_readsLine_117 ?_
                      refine q_callV (kc := 0) (ks := 0) (mc' := 0) (ms' := 0) (h' := 6) (st := []) hF vl_RX8_244 rfl [.ref (q_KS G 34), qI 2] rfl rfl hS.t0 (by omega) (Nat.le_of_ble_eq_true rfl) dX8_readsLine_118 ?_
                      refine mX8_isOnceP (i := 34) hS hSA hB (by decide) (show q ≤ n by omega) hfl hqq (fun (c118_0_28 : ¬ (g_isW B n 34 q)) => ?_) (fun (c118_0_28 : g_isW B n 34 q) (c118_1_28 : g_and (g_shr s.on 2) 1 = 1) => ?_) (fun (c118_0_28 : g_isW B n 34 q) (c118_1_28 : g_and (g_shr s.on 2) 1 ≠ 1) => ?_)
                      · show qX G F Q 0 0 121 [(1, qI (q : Int)), (0, .ref m)] [qI 0] sz T (q_ps I m (g_mk q s.fl s.fa s.cd s.op s.on s.hp)) (q_row L (m + 4) t) P
                        refine q_ifeq hF (by decide) dX8_readsLine_121 (fun c121 => ?_) (fun c121 => ?_)
                        · refine q_aload_n hF 1 rfl rfl dX8_readsLine_138 ?_
                          refine q_ldcK hF (i := 43) (by decide) rfl rfl dX8_readsLine_139 ?_
                          refine q_iconst hF dX8_readsLine_141 ?_
                          refine q_callV (kc := 0) (ks := 0) (mc' := 0) (ms' := 0) (h' := 6) (st := []) hF vl_RX8_244 rfl [.ref (q_KS G 43), qI 3] rfl rfl hS.t0 (by omega) (Nat.le_of_ble_eq_true rfl) dX8_readsLine_142 ?_
                          refine mX8_isOnceP (i := 43) hS hSA hB (by decide) (show q ≤ n by omega) hfl hqq (fun (c142_0_29 : ¬ (g_isW B n 43 q)) => ?_) (fun (c142_0_29 : g_isW B n 43 q) (c142_1_29 : g_and (g_shr s.on 3) 1 = 1) => ?_) (fun (c142_0_29 : g_isW B n 43 q) (c142_1_29 : g_and (g_shr s.on 3) 1 ≠ 1) => ?_)
                          · show qX G F Q 0 0 145 [(1, qI (q : Int)), (0, .ref m)] [qI 0] sz T (q_ps I m (g_mk q s.fl s.fa s.cd s.op s.on s.hp)) (q_row L (m + 4) t) P
                            refine q_ifeq hF (by decide) dX8_readsLine_145 (fun c145 => ?_) (fun c145 => ?_)
                            · refine q_aload_n hF 1 rfl rfl dX8_readsLine_155 ?_
                              refine q_iconst hF dX8_readsLine_156 ?_
                              refine q_iload_n hF 0 rfl rfl dX8_readsLine_157 ?_
                              refine q_callV (kc := 0) (ks := 0) (mc' := 0) (ms' := 0) (h' := 0) (st := []) hF vl_RX8_106 rfl [qI 1, qI (q : Int)] rfl rfl hS.t0 (by omega) (Nat.le_of_ble_eq_true rfl) dX8_readsLine_158 ?_
                              refine mX8_wrongA hS hSA hfl ?_
                              show qX G F Q 0 0 161 [(1, qI (q : Int)), (0, .ref m)] [] sz T (q_ps I m (g_mk q 1 (q : Int) s.cd s.op s.on s.hp)) (q_row L (m + 4) t) P
                              refine q_aload_n hF 1 rfl rfl dX8_readsLine_161 ?_
                              refine q_bipush hF (n := 59) rfl dX8_readsLine_162 ?_
                              refine q_callV (kc := 0) (ks := 0) (mc' := 0) (ms' := 0) (h' := 2) (st := []) hF vl_RX8_204 rfl [qI 59] rfl rfl hS.t0 (by omega) (Nat.le_of_ble_eq_true rfl) dX8_readsLine_164 ?_
                              refine mX8_sign0 hS hSA (show (1 : Int) ≠ 0 by decide) (show -2147483648 ≤ 1 ∧ 1 < 2147483648 by first | decide | omega | assumption) ?_
                              refine q_return hF rfl dX8_readsLine_167 ?_
                              show Q (.inl none) sz T (q_ps I m (g_mk q 1 (q : Int) s.cd s.op s.on s.hp)) (q_row L (m + 4) t) P
                              exact k1 1 q _ _ (by rw [← hx2, g_lnB, if_neg c13_0_2, if_neg c30_0_3, if_neg c46_0_4, if_neg (fun h => c63_0_5 h.1), if_neg (fun h => h.2 c90_1_6), if_neg (fun h => c118_0_28 h.1), if_neg (fun h => c142_0_29 h.1), g_after_e]) (by decide) rfl rfl (show q ≤ n by omega)
                            · exact absurd c145 (by decide)
                          · show qX G F Q 0 0 145 [(1, qI (q : Int)), (0, .ref m)] [qI 0] sz T (q_ps I m (g_mk q s.fl s.fa s.cd s.op s.on s.hp)) (q_row L (m + 4) t) P
                            refine q_ifeq hF (by decide) dX8_readsLine_145 (fun c145 => ?_) (fun c145 => ?_)
                            · refine q_aload_n hF 1 rfl rfl dX8_readsLine_155 ?_
                              refine q_iconst hF dX8_readsLine_156 ?_
                              refine q_iload_n hF 0 rfl rfl dX8_readsLine_157 ?_
                              refine q_callV (kc := 0) (ks := 0) (mc' := 0) (ms' := 0) (h' := 0) (st := []) hF vl_RX8_106 rfl [qI 1, qI (q : Int)] rfl rfl hS.t0 (by omega) (Nat.le_of_ble_eq_true rfl) dX8_readsLine_158 ?_
                              refine mX8_wrongA hS hSA hfl ?_
                              show qX G F Q 0 0 161 [(1, qI (q : Int)), (0, .ref m)] [] sz T (q_ps I m (g_mk q 1 (q : Int) s.cd s.op s.on s.hp)) (q_row L (m + 4) t) P
                              refine q_aload_n hF 1 rfl rfl dX8_readsLine_161 ?_
                              refine q_bipush hF (n := 59) rfl dX8_readsLine_162 ?_
                              refine q_callV (kc := 0) (ks := 0) (mc' := 0) (ms' := 0) (h' := 2) (st := []) hF vl_RX8_204 rfl [qI 59] rfl rfl hS.t0 (by omega) (Nat.le_of_ble_eq_true rfl) dX8_readsLine_164 ?_
                              refine mX8_sign0 hS hSA (show (1 : Int) ≠ 0 by decide) (show -2147483648 ≤ 1 ∧ 1 < 2147483648 by first | decide | omega | assumption) ?_
                              refine q_return hF rfl dX8_readsLine_167 ?_
                              show Q (.inl none) sz T (q_ps I m (g_mk q 1 (q : Int) s.cd s.op s.on s.hp)) (q_row L (m + 4) t) P
                              exact k1 1 q _ _ (by rw [← hx2, g_lnB, if_neg c13_0_2, if_neg c30_0_3, if_neg c46_0_4, if_neg (fun h => c63_0_5 h.1), if_neg (fun h => h.2 c90_1_6), if_neg (fun h => c118_0_28 h.1), if_neg (fun h => h.2 c142_1_29), g_after_e]) (by decide) rfl rfl (show q ≤ n by omega)
                            · exact absurd c145 (by decide)
                          · show qX G F Q 0 0 145 [(1, qI (q : Int)), (0, .ref m)] [qI 1] sz T (q_ps I m (g_mk (g_len 43 + q) s.fl s.fa s.cd s.op (g_or s.on (g_shl 1 3)) s.hp)) (q_row L (m + 4) t) P
                            refine q_ifeq hF (by decide) dX8_readsLine_145 (fun c145 => ?_) (fun c145 => ?_)
                            · exact absurd c145 (by decide)
                            · have hwl := g_words_ok 43 (by decide)
                              have hwn := g_isW_n (g_words_ok 43 (by decide)) (fun k hk => by have := g_ch_r (i := 43) (by decide) hk; omega) c142_0_29
                              have hsr := g_sk_r (B := B) (n := n) (k := g_len 43 + q) (by omega)
                              refine q_aload_n hF 1 rfl rfl dX8_readsLine_148 ?_
                              refine q_callV (kc := 0) (ks := 0) (mc' := 0) (ms' := 0) (h' := 7) (st := []) hF vl_RX8_248 rfl [] rfl rfl hS.t0 (by omega) (Nat.le_of_ble_eq_true rfl) dX8_readsLine_149 ?_
                              refine mX8_readsOrderP hS hSA hB (show g_len 43 + q ≤ n by omega) hfl  rfl rfl (fun s34 t34 e34 => ?_) (fun w34 x34 s34 t34 e34 hw34 hfl34 hfa34 hpn34 => ?_)
                              · have iv34 := (fun hv hq he => g_rdO_iv (g_hB hB) 4 t _ [] _ (by decide) (by decide) hv hq (by decide) he) (show g_IV q n (g_mk (g_len 43 + q) s.fl s.fa s.cd s.op (g_or s.on (g_shl 1 3)) s.hp) t from ⟨⟨hfl, hfa⟩, (show g_len 43 + q ≤ n by omega), (show 2 * s.cd ≤ 3 * (g_len 43 + q) ∧ q ≤ g_len 43 + q by omega), ht⟩) ⟨(show g_len 43 + q ≤ g_sk B n (g_len 43 + q) from (g_sk_r (B := B) (show g_len 43 + q ≤ n by omega)).1), (g_sk_r (B := B) (show g_len 43 + q ≤ n by omega)).2⟩ e34
                                have hvf34 : s34.fl = 0 := iv34.1.1
                                have hvp34 : s34.p ≤ n := iv34.2.1
                                have hvs34 := g_sk_r (B := B) hvp34
                                refine q_goto hF dX8_readsLine_152 ?_
                                refine q_aload_n hF 1 rfl rfl dX8_readsLine_161 ?_
                                refine q_bipush hF (n := 59) rfl dX8_readsLine_162 ?_
                                refine q_callV (kc := 0) (ks := 0) (mc' := 0) (ms' := 0) (h' := 2) (st := []) hF vl_RX8_204 rfl [qI 59] rfl rfl hS.t0 (by omega) (Nat.le_of_ble_eq_true rfl) dX8_readsLine_164 ?_
                                refine mX8_signPQ hS hSA hB (by decide) (show s34.p ≤ n by omega) hvf34 rfl (fun (c164_0_35 : (g_bt B n (g_sk B n s34.p)) = 59) => ?_) (fun (c164_0_35 : (g_bt B n (g_sk B n s34.p)) ≠ 59) => ?_)
                                · show qX G F Q 0 0 167 [(1, qI (q : Int)), (0, .ref m)] [] sz T (q_ps I m (g_mk (1 + (g_sk B n s34.p)) s34.fl s34.fa s34.cd s34.op s34.on s34.hp)) (q_row L (m + 4) t34) P
                                  refine q_return hF rfl dX8_readsLine_167 ?_
                                  exact k0 _ _ (by rw [← hx2, g_lnB, if_neg c13_0_2, if_neg c30_0_3, if_neg c46_0_4, if_neg (fun h => c63_0_5 h.1), if_neg (fun h => h.2 c90_1_6), if_neg (fun h => c118_0_28 h.1), if_pos ⟨c142_0_29, c142_1_29⟩, e34, g_after_ok (by exact c164_0_35)])
                                · show qX G F Q 0 0 167 [(1, qI (q : Int)), (0, .ref m)] [] sz T (q_ps I m (g_mk (g_sk B n s34.p) 1 (g_sk B n s34.p : Int) s34.cd s34.op s34.on s34.hp)) (q_row L (m + 4) t34) P
                                  refine q_return hF rfl dX8_readsLine_167 ?_
                                  show Q (.inl none) sz T (q_ps I m (g_mk (g_sk B n s34.p) 1 (g_sk B n s34.p : Int) s34.cd s34.op s34.on s34.hp)) (q_row L (m + 4) t34) P
                                  exact k1 1 (g_sk B n s34.p) _ _ (by rw [← hx2, g_lnB, if_neg c13_0_2, if_neg c30_0_3, if_neg c46_0_4, if_neg (fun h => c63_0_5 h.1), if_neg (fun h => h.2 c90_1_6), if_neg (fun h => c118_0_28 h.1), if_pos ⟨c142_0_29, c142_1_29⟩, e34, g_after_er (by exact c164_0_35)]) (by decide) rfl rfl (show g_sk B n s34.p ≤ n by omega)
                              · have her34 : s34.fl ≠ 0 := by omega
                                have hrf34 : -2147483648 ≤ s34.fl ∧ s34.fl < 2147483648 := by omega
                                refine q_goto hF dX8_readsLine_152 ?_
                                refine q_aload_n hF 1 rfl rfl dX8_readsLine_161 ?_
                                refine q_bipush hF (n := 59) rfl dX8_readsLine_162 ?_
                                refine q_callV (kc := 0) (ks := 0) (mc' := 0) (ms' := 0) (h' := 2) (st := []) hF vl_RX8_204 rfl [qI 59] rfl rfl hS.t0 (by omega) (Nat.le_of_ble_eq_true rfl) dX8_readsLine_164 ?_
                                refine mX8_sign0 hS hSA her34 (show -2147483648 ≤ s34.fl ∧ s34.fl < 2147483648 by first | decide | omega | assumption) ?_
                                refine q_return hF rfl dX8_readsLine_167 ?_
                                show Q (.inl none) sz T (q_ps I m s34) (q_row L (m + 4) t34) P
                                exact k1 w34 x34 _ _ (by rw [← hx2, g_lnB, if_neg c13_0_2, if_neg c30_0_3, if_neg c46_0_4, if_neg (fun h => c63_0_5 h.1), if_neg (fun h => h.2 c90_1_6), if_neg (fun h => c118_0_28 h.1), if_pos ⟨c142_0_29, c142_1_29⟩, e34, g_after_e]) hw34 hfl34 hfa34 hpn34
                        · exact absurd c121 (by decide)
                      · show qX G F Q 0 0 121 [(1, qI (q : Int)), (0, .ref m)] [qI 0] sz T (q_ps I m (g_mk q s.fl s.fa s.cd s.op s.on s.hp)) (q_row L (m + 4) t) P
                        refine q_ifeq hF (by decide) dX8_readsLine_121 (fun c121 => ?_) (fun c121 => ?_)
                        · refine q_aload_n hF 1 rfl rfl dX8_readsLine_138 ?_
                          refine q_ldcK hF (i := 43) (by decide) rfl rfl dX8_readsLine_139 ?_
                          refine q_iconst hF dX8_readsLine_141 ?_
                          refine q_callV (kc := 0) (ks := 0) (mc' := 0) (ms' := 0) (h' := 6) (st := []) hF vl_RX8_244 rfl [.ref (q_KS G 43), qI 3] rfl rfl hS.t0 (by omega) (Nat.le_of_ble_eq_true rfl) dX8_readsLine_142 ?_
                          refine mX8_isOnceP (i := 43) hS hSA hB (by decide) (show q ≤ n by omega) hfl hqq (fun (c142_0_37 : ¬ (g_isW B n 43 q)) => ?_) (fun (c142_0_37 : g_isW B n 43 q) (c142_1_37 : g_and (g_shr s.on 3) 1 = 1) => ?_) (fun (c142_0_37 : g_isW B n 43 q) (c142_1_37 : g_and (g_shr s.on 3) 1 ≠ 1) => ?_)
                          · show qX G F Q 0 0 145 [(1, qI (q : Int)), (0, .ref m)] [qI 0] sz T (q_ps I m (g_mk q s.fl s.fa s.cd s.op s.on s.hp)) (q_row L (m + 4) t) P
                            refine q_ifeq hF (by decide) dX8_readsLine_145 (fun c145 => ?_) (fun c145 => ?_)
                            · refine q_aload_n hF 1 rfl rfl dX8_readsLine_155 ?_
                              refine q_iconst hF dX8_readsLine_156 ?_
                              refine q_iload_n hF 0 rfl rfl dX8_readsLine_157 ?_
                              refine q_callV (kc := 0) (ks := 0) (mc' := 0) (ms' := 0) (h' := 0) (st := []) hF vl_RX8_106 rfl [qI 1, qI (q : Int)] rfl rfl hS.t0 (by omega) (Nat.le_of_ble_eq_true rfl) dX8_readsLine_158 ?_
                              refine mX8_wrongA hS hSA hfl ?_
                              show qX G F Q 0 0 161 [(1, qI (q : Int)), (0, .ref m)] [] sz T (q_ps I m (g_mk q 1 (q : Int) s.cd s.op s.on s.hp)) (q_row L (m + 4) t) P
                              refine q_aload_n hF 1 rfl rfl dX8_readsLine_161 ?_
                              refine q_bipush hF (n := 59) rfl dX8_readsLine_162 ?_
                              refine q_callV (kc := 0) (ks := 0) (mc' := 0) (ms' := 0) (h' := 2) (st := []) hF vl_RX8_204 rfl [qI 59] rfl rfl hS.t0 (by omega) (Nat.le_of_ble_eq_true rfl) dX8_readsLine_164 ?_
                              refine mX8_sign0 hS hSA (show (1 : Int) ≠ 0 by decide) (show -2147483648 ≤ 1 ∧ 1 < 2147483648 by first | decide | omega | assumption) ?_
                              refine q_return hF rfl dX8_readsLine_167 ?_
                              show Q (.inl none) sz T (q_ps I m (g_mk q 1 (q : Int) s.cd s.op s.on s.hp)) (q_row L (m + 4) t) P
                              exact k1 1 q _ _ (by rw [← hx2, g_lnB, if_neg c13_0_2, if_neg c30_0_3, if_neg c46_0_4, if_neg (fun h => c63_0_5 h.1), if_neg (fun h => h.2 c90_1_6), if_neg (fun h => h.2 c118_1_28), if_neg (fun h => c142_0_37 h.1), g_after_e]) (by decide) rfl rfl (show q ≤ n by omega)
                            · exact absurd c145 (by decide)
                          · show qX G F Q 0 0 145 [(1, qI (q : Int)), (0, .ref m)] [qI 0] sz T (q_ps I m (g_mk q s.fl s.fa s.cd s.op s.on s.hp)) (q_row L (m + 4) t) P
                            refine q_ifeq hF (by decide) dX8_readsLine_145 (fun c145 => ?_) (fun c145 => ?_)
                            · refine q_aload_n hF 1 rfl rfl dX8_readsLine_155 ?_
                              refine q_iconst hF dX8_readsLine_156 ?_
                              refine q_iload_n hF 0 rfl rfl dX8_readsLine_157 ?_
                              refine q_callV (kc := 0) (ks := 0) (mc' := 0) (ms' := 0) (h' := 0) (st := []) hF vl_RX8_106 rfl [qI 1, qI (q : Int)] rfl rfl hS.t0 (by omega) (Nat.le_of_ble_eq_true rfl) dX8_readsLine_158 ?_
                              refine mX8_wrongA hS hSA hfl ?_
                              show qX G F Q 0 0 161 [(1, qI (q : Int)), (0, .ref m)] [] sz T (q_ps I m (g_mk q 1 (q : Int) s.cd s.op s.on s.hp)) (q_row L (m + 4) t) P
                              refine q_aload_n hF 1 rfl rfl dX8_readsLine_161 ?_
                              refine q_bipush hF (n := 59) rfl dX8_readsLine_162 ?_
                              refine q_callV (kc := 0) (ks := 0) (mc' := 0) (ms' := 0) (h' := 2) (st := []) hF vl_RX8_204 rfl [qI 59] rfl rfl hS.t0 (by omega) (Nat.le_of_ble_eq_true rfl) dX8_readsLine_164 ?_
                              refine mX8_sign0 hS hSA (show (1 : Int) ≠ 0 by decide) (show -2147483648 ≤ 1 ∧ 1 < 2147483648 by first | decide | omega | assumption) ?_
                              refine q_return hF rfl dX8_readsLine_167 ?_
                              show Q (.inl none) sz T (q_ps I m (g_mk q 1 (q : Int) s.cd s.op s.on s.hp)) (q_row L (m + 4) t) P
                              exact k1 1 q _ _ (by rw [← hx2, g_lnB, if_neg c13_0_2, if_neg c30_0_3, if_neg c46_0_4, if_neg (fun h => c63_0_5 h.1), if_neg (fun h => h.2 c90_1_6), if_neg (fun h => h.2 c118_1_28), if_neg (fun h => h.2 c142_1_37), g_after_e]) (by decide) rfl rfl (show q ≤ n by omega)
                            · exact absurd c145 (by decide)
                          · show qX G F Q 0 0 145 [(1, qI (q : Int)), (0, .ref m)] [qI 1] sz T (q_ps I m (g_mk (g_len 43 + q) s.fl s.fa s.cd s.op (g_or s.on (g_shl 1 3)) s.hp)) (q_row L (m + 4) t) P
                            refine q_ifeq hF (by decide) dX8_readsLine_145 (fun c145 => ?_) (fun c145 => ?_)
                            · exact absurd c145 (by decide)
                            · have hwl := g_words_ok 43 (by decide)
                              have hwn := g_isW_n (g_words_ok 43 (by decide)) (fun k hk => by have := g_ch_r (i := 43) (by decide) hk; omega) c142_0_37
                              have hsr := g_sk_r (B := B) (n := n) (k := g_len 43 + q) (by omega)
                              refine q_aload_n hF 1 rfl rfl dX8_readsLine_148 ?_
                              refine q_callV (kc := 0) (ks := 0) (mc' := 0) (ms' := 0) (h' := 7) (st := []) hF vl_RX8_248 rfl [] rfl rfl hS.t0 (by omega) (Nat.le_of_ble_eq_true rfl) dX8_readsLine_149 ?_
                              refine mX8_readsOrderP hS hSA hB (show g_len 43 + q ≤ n by omega) hfl  rfl rfl (fun s42 t42 e42 => ?_) (fun w42 x42 s42 t42 e42 hw42 hfl42 hfa42 hpn42 => ?_)
                              · have iv42 := (fun hv hq he => g_rdO_iv (g_hB hB) 4 t _ [] _ (by decide) (by decide) hv hq (by decide) he) (show g_IV q n (g_mk (g_len 43 + q) s.fl s.fa s.cd s.op (g_or s.on (g_shl 1 3)) s.hp) t from ⟨⟨hfl, hfa⟩, (show g_len 43 + q ≤ n by omega), (show 2 * s.cd ≤ 3 * (g_len 43 + q) ∧ q ≤ g_len 43 + q by omega), ht⟩) ⟨(show g_len 43 + q ≤ g_sk B n (g_len 43 + q) from (g_sk_r (B := B) (show g_len 43 + q ≤ n by omega)).1), (g_sk_r (B := B) (show g_len 43 + q ≤ n by omega)).2⟩ e42
                                have hvf42 : s42.fl = 0 := iv42.1.1
                                have hvp42 : s42.p ≤ n := iv42.2.1
                                have hvs42 := g_sk_r (B := B) hvp42
                                refine q_goto hF dX8_readsLine_152 ?_
                                refine q_aload_n hF 1 rfl rfl dX8_readsLine_161 ?_
                                refine q_bipush hF (n := 59) rfl dX8_readsLine_162 ?_
                                refine q_callV (kc := 0) (ks := 0) (mc' := 0) (ms' := 0) (h' := 2) (st := []) hF vl_RX8_204 rfl [qI 59] rfl rfl hS.t0 (by omega) (Nat.le_of_ble_eq_true rfl) dX8_readsLine_164 ?_
                                refine mX8_signPQ hS hSA hB (by decide) (show s42.p ≤ n by omega) hvf42 rfl (fun (c164_0_43 : (g_bt B n (g_sk B n s42.p)) = 59) => ?_) (fun (c164_0_43 : (g_bt B n (g_sk B n s42.p)) ≠ 59) => ?_)
                                · show qX G F Q 0 0 167 [(1, qI (q : Int)), (0, .ref m)] [] sz T (q_ps I m (g_mk (1 + (g_sk B n s42.p)) s42.fl s42.fa s42.cd s42.op s42.on s42.hp)) (q_row L (m + 4) t42) P
                                  refine q_return hF rfl dX8_readsLine_167 ?_
                                  exact k0 _ _ (by rw [← hx2, g_lnB, if_neg c13_0_2, if_neg c30_0_3, if_neg c46_0_4, if_neg (fun h => c63_0_5 h.1), if_neg (fun h => h.2 c90_1_6), if_neg (fun h => h.2 c118_1_28), if_pos ⟨c142_0_37, c142_1_37⟩, e42, g_after_ok (by exact c164_0_43)])
                                · show qX G F Q 0 0 167 [(1, qI (q : Int)), (0, .ref m)] [] sz T (q_ps I m (g_mk (g_sk B n s42.p) 1 (g_sk B n s42.p : Int) s42.cd s42.op s42.on s42.hp)) (q_row L (m + 4) t42) P
                                  refine q_return hF rfl dX8_readsLine_167 ?_
                                  show Q (.inl none) sz T (q_ps I m (g_mk (g_sk B n s42.p) 1 (g_sk B n s42.p : Int) s42.cd s42.op s42.on s42.hp)) (q_row L (m + 4) t42) P
                                  exact k1 1 (g_sk B n s42.p) _ _ (by rw [← hx2, g_lnB, if_neg c13_0_2, if_neg c30_0_3, if_neg c46_0_4, if_neg (fun h => c63_0_5 h.1), if_neg (fun h => h.2 c90_1_6), if_neg (fun h => h.2 c118_1_28), if_pos ⟨c142_0_37, c142_1_37⟩, e42, g_after_er (by exact c164_0_43)]) (by decide) rfl rfl (show g_sk B n s42.p ≤ n by omega)
                              · have her42 : s42.fl ≠ 0 := by omega
                                have hrf42 : -2147483648 ≤ s42.fl ∧ s42.fl < 2147483648 := by omega
                                refine q_goto hF dX8_readsLine_152 ?_
                                refine q_aload_n hF 1 rfl rfl dX8_readsLine_161 ?_
                                refine q_bipush hF (n := 59) rfl dX8_readsLine_162 ?_
                                refine q_callV (kc := 0) (ks := 0) (mc' := 0) (ms' := 0) (h' := 2) (st := []) hF vl_RX8_204 rfl [qI 59] rfl rfl hS.t0 (by omega) (Nat.le_of_ble_eq_true rfl) dX8_readsLine_164 ?_
                                refine mX8_sign0 hS hSA her42 (show -2147483648 ≤ s42.fl ∧ s42.fl < 2147483648 by first | decide | omega | assumption) ?_
                                refine q_return hF rfl dX8_readsLine_167 ?_
                                show Q (.inl none) sz T (q_ps I m s42) (q_row L (m + 4) t42) P
                                exact k1 w42 x42 _ _ (by rw [← hx2, g_lnB, if_neg c13_0_2, if_neg c30_0_3, if_neg c46_0_4, if_neg (fun h => c63_0_5 h.1), if_neg (fun h => h.2 c90_1_6), if_neg (fun h => h.2 c118_1_28), if_pos ⟨c142_0_37, c142_1_37⟩, e42, g_after_e]) hw42 hfl42 hfa42 hpn42
                        · exact absurd c121 (by decide)
                      · show qX G F Q 0 0 121 [(1, qI (q : Int)), (0, .ref m)] [qI 1] sz T (q_ps I m (g_mk (g_len 34 + q) s.fl s.fa s.cd s.op (g_or s.on (g_shl 1 2)) s.hp)) (q_row L (m + 4) t) P
                        refine q_ifeq hF (by decide) dX8_readsLine_121 (fun c121 => ?_) (fun c121 => ?_)
                        · exact absurd c121 (by decide)
                        · have hwl := g_words_ok 34 (by decide)
                          have hwn := g_isW_n (g_words_ok 34 (by decide)) (fun k hk => by have := g_ch_r (i := 34) (by decide) hk; omega) c118_0_28
                          have hsr := g_sk_r (B := B) (n := n) (k := g_len 34 + q) (by omega)
                          have hnl := g_nl_r (B := B) (n := n) (q := (g_sk B n (g_len 34 + q))) hsr.2
                          have hsr2 := g_sk_r (B := B) (n := n) (k := g_nl B n (g_sk B n (g_len 34 + q)) + (g_sk B n (g_len 34 + q))) (by omega)
                          have hlf := g_lndF_r (B := B) (n := n) (t := t) (q := (g_sk B n (g_len 34 + q))) (c := g_nl B n (g_sk B n (g_len 34 + q))) 6 0
                          change -1 ≤ g_lnd B n t (g_sk B n (g_len 34 + q)) (g_nl B n (g_sk B n (g_len 34 + q))) ∧ (g_lnd B n t (g_sk B n (g_len 34 + q)) (g_nl B n (g_sk B n (g_len 34 + q))) = -1 ∨ g_lnd B n t (g_sk B n (g_len 34 + q)) (g_nl B n (g_sk B n (g_len 34 + q))) < t 0) at hlf
                          refine q_aload_n hF 1 rfl rfl dX8_readsLine_124 ?_
                          refine q_getA hF fl_RX8_24 rfl hS.t0 hS.p10 dX8_readsLine_125 ?_
                          refine q_iconst hF dX8_readsLine_128 ?_
                          refine q_aload_n hF 1 rfl rfl dX8_readsLine_129 ?_
                          refine q_callV (kc := 0) (ks := 0) (mc' := 0) (ms' := 0) (h' := 7) (st := [qI 5, .ref (m + 4)]) hF vl_RX8_223 rfl [] rfl rfl hS.t0 (by omega) (Nat.le_of_ble_eq_true rfl) dX8_readsLine_130 ?_
                          refine mX8_landHereP hS hSA hB (show (g_len 34 + q) ≤ n by omega) hfl ht rfl (fun (c130_0_45 : g_nm B n (g_sk B n (g_len 34 + q))) (c130_1_45 : g_lnd B n t (g_sk B n (g_len 34 + q)) (g_nl B n (g_sk B n (g_len 34 + q))) ≠ -1) => ?_) (fun (c130_0_45 : g_nm B n (g_sk B n (g_len 34 + q))) (c130_1_45 : g_lnd B n t (g_sk B n (g_len 34 + q)) (g_nl B n (g_sk B n (g_len 34 + q))) = -1) => ?_) (fun (c130_0_45 : ¬ (g_nm B n (g_sk B n (g_len 34 + q)))) => ?_)
                          · show qX G F Q 0 0 133 [(1, qI (q : Int)), (0, .ref m)] [qI (g_lnd B n t (g_sk B n (g_len 34 + q)) (g_nl B n (g_sk B n (g_len 34 + q)))), qI 5, .ref (m + 4)] sz T (q_ps I m (g_mk (g_nl B n (g_sk B n (g_len 34 + q)) + (g_sk B n (g_len 34 + q))) s.fl s.fa s.cd s.op (g_or s.on (g_shl 1 2)) s.hp)) (q_row L (m + 4) t) P
                            refine q_i2l hF (by omega) dX8_readsLine_133 ?_
                            refine q_lastorev hF (n := 1243) 5 hS.t4 (q_Ale hSA (by omega)) rfl (by decide) (by decide) dX8_readsLine_134 ?_
                            rw [q_row_u]
                            refine q_goto hF dX8_readsLine_135 ?_
                            refine q_aload_n hF 1 rfl rfl dX8_readsLine_161 ?_
                            refine q_bipush hF (n := 59) rfl dX8_readsLine_162 ?_
                            refine q_callV (kc := 0) (ks := 0) (mc' := 0) (ms' := 0) (h' := 2) (st := []) hF vl_RX8_204 rfl [qI 59] rfl rfl hS.t0 (by omega) (Nat.le_of_ble_eq_true rfl) dX8_readsLine_164 ?_
                            refine mX8_signPQ hS hSA hB (by decide) (show (g_nl B n (g_sk B n (g_len 34 + q)) + (g_sk B n (g_len 34 + q))) ≤ n by omega) hfl rfl (fun (c164_0_46 : (g_bt B n (g_sk B n (g_nl B n (g_sk B n (g_len 34 + q)) + (g_sk B n (g_len 34 + q))))) = 59) => ?_) (fun (c164_0_46 : (g_bt B n (g_sk B n (g_nl B n (g_sk B n (g_len 34 + q)) + (g_sk B n (g_len 34 + q))))) ≠ 59) => ?_)
                            · show qX G F Q 0 0 167 [(1, qI (q : Int)), (0, .ref m)] [] sz T (q_ps I m (g_mk (1 + (g_sk B n (g_nl B n (g_sk B n (g_len 34 + q)) + (g_sk B n (g_len 34 + q))))) s.fl s.fa s.cd s.op (g_or s.on (g_shl 1 2)) s.hp)) (q_row L (m + 4) (g_up t 5 (g_lnd B n t (g_sk B n (g_len 34 + q)) (g_nl B n (g_sk B n (g_len 34 + q)))))) P
                              refine q_return hF rfl dX8_readsLine_167 ?_
                              exact k0 _ _ (by rw [← hx2, g_lnB, if_neg c13_0_2, if_neg c30_0_3, if_neg c46_0_4, if_neg (fun h => c63_0_5 h.1), if_neg (fun h => h.2 c90_1_6), if_pos ⟨c118_0_28, c118_1_28⟩, if_pos c130_0_45, if_neg c130_1_45, g_after_ok (by exact c164_0_46)])
                            · show qX G F Q 0 0 167 [(1, qI (q : Int)), (0, .ref m)] [] sz T (q_ps I m (g_mk (g_sk B n (g_nl B n (g_sk B n (g_len 34 + q)) + (g_sk B n (g_len 34 + q)))) 1 ((g_sk B n (g_nl B n (g_sk B n (g_len 34 + q)) + (g_sk B n (g_len 34 + q))) : Nat) : Int) s.cd s.op (g_or s.on (g_shl 1 2)) s.hp)) (q_row L (m + 4) (g_up t 5 (g_lnd B n t (g_sk B n (g_len 34 + q)) (g_nl B n (g_sk B n (g_len 34 + q)))))) P
                              refine q_return hF rfl dX8_readsLine_167 ?_
                              show Q (.inl none) sz T (q_ps I m (g_mk (g_sk B n (g_nl B n (g_sk B n (g_len 34 + q)) + (g_sk B n (g_len 34 + q)))) 1 ((g_sk B n (g_nl B n (g_sk B n (g_len 34 + q)) + (g_sk B n (g_len 34 + q))) : Nat) : Int) s.cd s.op (g_or s.on (g_shl 1 2)) s.hp)) (q_row L (m + 4) (g_up t 5 (g_lnd B n t (g_sk B n (g_len 34 + q)) (g_nl B n (g_sk B n (g_len 34 + q)))))) P
                              exact k1 1 (g_sk B n (g_nl B n (g_sk B n (g_len 34 + q)) + (g_sk B n (g_len 34 + q)))) _ _ (by rw [← hx2, g_lnB, if_neg c13_0_2, if_neg c30_0_3, if_neg c46_0_4, if_neg (fun h => c63_0_5 h.1), if_neg (fun h => h.2 c90_1_6), if_pos ⟨c118_0_28, c118_1_28⟩, if_pos c130_0_45, if_neg c130_1_45, g_after_er (by exact c164_0_46)]) (by decide) rfl rfl (show g_sk B n (g_nl B n (g_sk B n (g_len 34 + q)) + (g_sk B n (g_len 34 + q))) ≤ n by omega)
                          · show qX G F Q 0 0 133 [(1, qI (q : Int)), (0, .ref m)] [qI (-1), qI 5, .ref (m + 4)] sz T (q_ps I m (g_mk (g_nl B n (g_sk B n (g_len 34 + q)) + (g_sk B n (g_len 34 + q))) 3 ((g_sk B n (g_len 34 + q) : Nat) : Int) s.cd s.op (g_or s.on (g_shl 1 2)) s.hp)) (q_row L (m + 4) t) P
                            refine q_i2l hF (by decide) dX8_readsLine_133 ?_
                            refine q_lastorev hF (n := 1243) 5 hS.t4 (q_Ale hSA (by omega)) rfl (by decide) (by decide) dX8_readsLine_134 ?_
                            rw [q_row_u]
                            refine q_goto hF dX8_readsLine_135 ?_
                            refine q_aload_n hF 1 rfl rfl dX8_readsLine_161 ?_
                            refine q_bipush hF (n := 59) rfl dX8_readsLine_162 ?_
                            refine q_callV (kc := 0) (ks := 0) (mc' := 0) (ms' := 0) (h' := 2) (st := []) hF vl_RX8_204 rfl [qI 59] rfl rfl hS.t0 (by omega) (Nat.le_of_ble_eq_true rfl) dX8_readsLine_164 ?_
                            refine mX8_sign0 hS hSA (show (3 : Int) ≠ 0 by decide) (show -2147483648 ≤ 3 ∧ 3 < 2147483648 by first | decide | omega | assumption) ?_
                            refine q_return hF rfl dX8_readsLine_167 ?_
                            show Q (.inl none) sz T (q_ps I m (g_mk (g_nl B n (g_sk B n (g_len 34 + q)) + (g_sk B n (g_len 34 + q))) 3 ((g_sk B n (g_len 34 + q) : Nat) : Int) s.cd s.op (g_or s.on (g_shl 1 2)) s.hp)) (q_row L (m + 4) (g_up t 5 (-1))) P
                            exact k1 3 (g_sk B n (g_len 34 + q)) _ _ (by rw [← hx2, g_lnB, if_neg c13_0_2, if_neg c30_0_3, if_neg c46_0_4, if_neg (fun h => c63_0_5 h.1), if_neg (fun h => h.2 c90_1_6), if_pos ⟨c118_0_28, c118_1_28⟩, if_pos c130_0_45, if_pos c130_1_45, g_after_e]) (by decide) rfl rfl (show g_nl B n (g_sk B n (g_len 34 + q)) + (g_sk B n (g_len 34 + q)) ≤ n by omega)
                          · show qX G F Q 0 0 133 [(1, qI (q : Int)), (0, .ref m)] [qI (-1), qI 5, .ref (m + 4)] sz T (q_ps I m (g_mk (g_sk B n (g_len 34 + q)) 1 ((g_sk B n (g_len 34 + q) : Nat) : Int) s.cd s.op (g_or s.on (g_shl 1 2)) s.hp)) (q_row L (m + 4) t) P
                            refine q_i2l hF (by decide) dX8_readsLine_133 ?_
                            refine q_lastorev hF (n := 1243) 5 hS.t4 (q_Ale hSA (by omega)) rfl (by decide) (by decide) dX8_readsLine_134 ?_
                            rw [q_row_u]
                            refine q_goto hF dX8_readsLine_135 ?_
                            refine q_aload_n hF 1 rfl rfl dX8_readsLine_161 ?_
                            refine q_bipush hF (n := 59) rfl dX8_readsLine_162 ?_
                            refine q_callV (kc := 0) (ks := 0) (mc' := 0) (ms' := 0) (h' := 2) (st := []) hF vl_RX8_204 rfl [qI 59] rfl rfl hS.t0 (by omega) (Nat.le_of_ble_eq_true rfl) dX8_readsLine_164 ?_
                            refine mX8_sign0 hS hSA (show (1 : Int) ≠ 0 by decide) (show -2147483648 ≤ 1 ∧ 1 < 2147483648 by first | decide | omega | assumption) ?_
                            refine q_return hF rfl dX8_readsLine_167 ?_
                            show Q (.inl none) sz T (q_ps I m (g_mk (g_sk B n (g_len 34 + q)) 1 ((g_sk B n (g_len 34 + q) : Nat) : Int) s.cd s.op (g_or s.on (g_shl 1 2)) s.hp)) (q_row L (m + 4) (g_up t 5 (-1))) P
                            exact k1 1 (g_sk B n (g_len 34 + q)) _ _ (by rw [← hx2, g_lnB, if_neg c13_0_2, if_neg c30_0_3, if_neg c46_0_4, if_neg (fun h => c63_0_5 h.1), if_neg (fun h => h.2 c90_1_6), if_pos ⟨c118_0_28, c118_1_28⟩, if_neg c130_0_45, g_after_e]) (by decide) rfl rfl (show g_sk B n (g_len 34 + q) ≤ n by omega)
                    · exact absurd c93 (by decide)
                  · show qX G F Q 0 0 93 [(1, qI (q : Int)), (0, .ref m)] [qI 1] sz T (q_ps I m (g_mk (g_len 42 + q) s.fl s.fa s.cd s.op (g_or s.on (g_shl 1 1)) s.hp)) (q_row L (m + 4) t) P
                    refine q_ifeq hF (by decide) dX8_readsLine_93 (fun c93 => ?_) (fun c93 => ?_)
                    · exact absurd c93 (by decide)
                    · have hwl := g_words_ok 42 (by decide)
                      have hwn := g_isW_n (g_words_ok 42 (by decide)) (fun k hk => by have := g_ch_r (i := 42) (by decide) hk; omega) c90_0_6
                      have hsr := g_sk_r (B := B) (n := n) (k := g_len 42 + q) (by omega)
                      have hnd := g_nd_r (B := B) (n := n) (k := g_sk B n (g_len 42 + q)) (by omega)
                      have hsr2 := g_sk_r (B := B) (n := n) (k := g_nd B n (g_sk B n (g_len 42 + q))) (by omega)
                      have hnv := g_nv_r (B := B) (n := n) _ (g_sk B n (g_len 42 + q)) 0 (Nat.lt_succ_self _) (by decide) (by decide)
                      refine q_aload_n hF 1 rfl rfl dX8_readsLine_96 ?_
                      refine q_getA hF fl_RX8_24 rfl hS.t0 hS.p10 dX8_readsLine_97 ?_
                      refine q_iconst hF dX8_readsLine_100 ?_
                      refine q_aload_n hF 1 rfl rfl dX8_readsLine_101 ?_
                      refine q_iconst hF dX8_readsLine_102 ?_
                      refine q_sipush hF (n := 999) rfl dX8_readsLine_103 ?_
                      refine q_callV (kc := 0) (ks := 0) (mc' := 0) (ms' := 0) (h' := 2) (st := [qI 4, .ref (m + 4)]) hF vl_RX8_187 rfl [qI 0, qI 999] rfl rfl hS.t0 (by omega) (Nat.le_of_ble_eq_true rfl) dX8_readsLine_106 ?_
                      refine mX8_numberPQ hS hSA hB (by first | decide | omega) (by first | decide | omega) (show (g_len 42 + q) ≤ n by omega) hfl rfl (fun (c106_0_49 : ¬ (48 ≤ (g_bt B n (g_sk B n (g_len 42 + q))) ∧ (g_bt B n (g_sk B n (g_len 42 + q))) ≤ 57)) => ?_) (fun (c106_0_49 : 48 ≤ (g_bt B n (g_sk B n (g_len 42 + q))) ∧ (g_bt B n (g_sk B n (g_len 42 + q))) ≤ 57) (c106_1_49 : 0 ≤ g_nv B n (g_sk B n (g_len 42 + q)) 0 ∧ g_nv B n (g_sk B n (g_len 42 + q)) 0 ≤ 999) => ?_) (fun (c106_0_49 : 48 ≤ (g_bt B n (g_sk B n (g_len 42 + q))) ∧ (g_bt B n (g_sk B n (g_len 42 + q))) ≤ 57) (c106_1_49 : ¬ (0 ≤ g_nv B n (g_sk B n (g_len 42 + q)) 0 ∧ g_nv B n (g_sk B n (g_len 42 + q)) 0 ≤ 999)) => ?_)
                      · show qX G F Q 0 0 109 [(1, qI (q : Int)), (0, .ref m)] [qI 0, qI 4, .ref (m + 4)] sz T (q_ps I m (g_mk (g_sk B n (g_len 42 + q)) 1 ((g_sk B n (g_len 42 + q) : Nat) : Int) s.cd s.op (g_or s.on (g_shl 1 1)) s.hp)) (q_row L (m + 4) t) P
                        refine q_i2l hF (by decide) dX8_readsLine_109 ?_
                        refine q_lastorev hF (n := 1243) 4 hS.t4 (q_Ale hSA (by omega)) rfl (by decide) (by decide) dX8_readsLine_110 ?_
                        rw [q_row_u]
                        refine q_goto hF dX8_readsLine_111 ?_
                        refine q_aload_n hF 1 rfl rfl dX8_readsLine_161 ?_
                        refine q_bipush hF (n := 59) rfl dX8_readsLine_162 ?_
                        refine q_callV (kc := 0) (ks := 0) (mc' := 0) (ms' := 0) (h' := 2) (st := []) hF vl_RX8_204 rfl [qI 59] rfl rfl hS.t0 (by omega) (Nat.le_of_ble_eq_true rfl) dX8_readsLine_164 ?_
                        refine mX8_sign0 hS hSA (show (1 : Int) ≠ 0 by decide) (show -2147483648 ≤ 1 ∧ 1 < 2147483648 by first | decide | omega | assumption) ?_
                        refine q_return hF rfl dX8_readsLine_167 ?_
                        show Q (.inl none) sz T (q_ps I m (g_mk (g_sk B n (g_len 42 + q)) 1 ((g_sk B n (g_len 42 + q) : Nat) : Int) s.cd s.op (g_or s.on (g_shl 1 1)) s.hp)) (q_row L (m + 4) (g_up t 4 0)) P
                        exact k1 1 (g_sk B n (g_len 42 + q)) _ _ (by rw [← hx2, g_lnB, if_neg c13_0_2, if_neg c30_0_3, if_neg c46_0_4, if_neg (fun h => c63_0_5 h.1), if_pos ⟨c90_0_6, c90_1_6⟩, g_nu, if_neg c106_0_49, g_after_e]) (by decide) rfl rfl (show g_sk B n (g_len 42 + q) ≤ n by omega)
                      · show qX G F Q 0 0 109 [(1, qI (q : Int)), (0, .ref m)] [qI (g_nv B n (g_sk B n (g_len 42 + q)) 0), qI 4, .ref (m + 4)] sz T (q_ps I m (g_mk (g_nd B n (g_sk B n (g_len 42 + q))) s.fl s.fa s.cd s.op (g_or s.on (g_shl 1 1)) s.hp)) (q_row L (m + 4) t) P
                        refine q_i2l hF (by omega) dX8_readsLine_109 ?_
                        refine q_lastorev hF (n := 1243) 4 hS.t4 (q_Ale hSA (by omega)) rfl (by decide) (by decide) dX8_readsLine_110 ?_
                        rw [q_row_u]
                        refine q_goto hF dX8_readsLine_111 ?_
                        refine q_aload_n hF 1 rfl rfl dX8_readsLine_161 ?_
                        refine q_bipush hF (n := 59) rfl dX8_readsLine_162 ?_
                        refine q_callV (kc := 0) (ks := 0) (mc' := 0) (ms' := 0) (h' := 2) (st := []) hF vl_RX8_204 rfl [qI 59] rfl rfl hS.t0 (by omega) (Nat.le_of_ble_eq_true rfl) dX8_readsLine_164 ?_
                        refine mX8_signPQ hS hSA hB (by decide) (show (g_nd B n (g_sk B n (g_len 42 + q))) ≤ n by omega) hfl rfl (fun (c164_0_51 : (g_bt B n (g_sk B n (g_nd B n (g_sk B n (g_len 42 + q))))) = 59) => ?_) (fun (c164_0_51 : (g_bt B n (g_sk B n (g_nd B n (g_sk B n (g_len 42 + q))))) ≠ 59) => ?_)
                        · show qX G F Q 0 0 167 [(1, qI (q : Int)), (0, .ref m)] [] sz T (q_ps I m (g_mk (1 + (g_sk B n (g_nd B n (g_sk B n (g_len 42 + q))))) s.fl s.fa s.cd s.op (g_or s.on (g_shl 1 1)) s.hp)) (q_row L (m + 4) (g_up t 4 (g_nv B n (g_sk B n (g_len 42 + q)) 0))) P
                          refine q_return hF rfl dX8_readsLine_167 ?_
                          exact k0 _ _ (by rw [← hx2, g_lnB, if_neg c13_0_2, if_neg c30_0_3, if_neg c46_0_4, if_neg (fun h => c63_0_5 h.1), if_pos ⟨c90_0_6, c90_1_6⟩, g_nu, if_pos c106_0_49, if_pos c106_1_49, g_after_ok (by exact c164_0_51)])
                        · show qX G F Q 0 0 167 [(1, qI (q : Int)), (0, .ref m)] [] sz T (q_ps I m (g_mk (g_sk B n (g_nd B n (g_sk B n (g_len 42 + q)))) 1 ((g_sk B n (g_nd B n (g_sk B n (g_len 42 + q))) : Nat) : Int) s.cd s.op (g_or s.on (g_shl 1 1)) s.hp)) (q_row L (m + 4) (g_up t 4 (g_nv B n (g_sk B n (g_len 42 + q)) 0))) P
                          refine q_return hF rfl dX8_readsLine_167 ?_
                          show Q (.inl none) sz T (q_ps I m (g_mk (g_sk B n (g_nd B n (g_sk B n (g_len 42 + q)))) 1 ((g_sk B n (g_nd B n (g_sk B n (g_len 42 + q))) : Nat) : Int) s.cd s.op (g_or s.on (g_shl 1 1)) s.hp)) (q_row L (m + 4) (g_up t 4 (g_nv B n (g_sk B n (g_len 42 + q)) 0))) P
                          exact k1 1 (g_sk B n (g_nd B n (g_sk B n (g_len 42 + q)))) _ _ (by rw [← hx2, g_lnB, if_neg c13_0_2, if_neg c30_0_3, if_neg c46_0_4, if_neg (fun h => c63_0_5 h.1), if_pos ⟨c90_0_6, c90_1_6⟩, g_nu, if_pos c106_0_49, if_pos c106_1_49, g_after_er (by exact c164_0_51)]) (by decide) rfl rfl (show g_sk B n (g_nd B n (g_sk B n (g_len 42 + q))) ≤ n by omega)
                      · show qX G F Q 0 0 109 [(1, qI (q : Int)), (0, .ref m)] [qI (g_nv B n (g_sk B n (g_len 42 + q)) 0), qI 4, .ref (m + 4)] sz T (q_ps I m (g_mk (g_nd B n (g_sk B n (g_len 42 + q))) 2 ((g_sk B n (g_len 42 + q) : Nat) : Int) s.cd s.op (g_or s.on (g_shl 1 1)) s.hp)) (q_row L (m + 4) t) P
                        refine q_i2l hF (by omega) dX8_readsLine_109 ?_
                        refine q_lastorev hF (n := 1243) 4 hS.t4 (q_Ale hSA (by omega)) rfl (by decide) (by decide) dX8_readsLine_110 ?_
                        rw [q_row_u]
                        refine q_goto hF dX8_readsLine_111 ?_
                        refine q_aload_n hF 1 rfl rfl dX8_readsLine_161 ?_
                        refine q_bipush hF (n := 59) rfl dX8_readsLine_162 ?_
                        refine q_callV (kc := 0) (ks := 0) (mc' := 0) (ms' := 0) (h' := 2) (st := []) hF vl_RX8_204 rfl [qI 59] rfl rfl hS.t0 (by omega) (Nat.le_of_ble_eq_true rfl) dX8_readsLine_164 ?_
                        refine mX8_sign0 hS hSA (show (2 : Int) ≠ 0 by decide) (show -2147483648 ≤ 2 ∧ 2 < 2147483648 by first | decide | omega | assumption) ?_
                        refine q_return hF rfl dX8_readsLine_167 ?_
                        show Q (.inl none) sz T (q_ps I m (g_mk (g_nd B n (g_sk B n (g_len 42 + q))) 2 ((g_sk B n (g_len 42 + q) : Nat) : Int) s.cd s.op (g_or s.on (g_shl 1 1)) s.hp)) (q_row L (m + 4) (g_up t 4 (g_nv B n (g_sk B n (g_len 42 + q)) 0))) P
                        exact k1 2 (g_sk B n (g_len 42 + q)) _ _ (by rw [← hx2, g_lnB, if_neg c13_0_2, if_neg c30_0_3, if_neg c46_0_4, if_neg (fun h => c63_0_5 h.1), if_pos ⟨c90_0_6, c90_1_6⟩, g_nu, if_pos c106_0_49, if_neg c106_1_49, g_after_e]) (by decide) rfl rfl (show g_nd B n (g_sk B n (g_len 42 + q)) ≤ n by omega)
                · exact absurd c66 (by decide)
              · show qX G F Q 0 0 66 [(1, qI (q : Int)), (0, .ref m)] [qI 0] sz T (q_ps I m (g_mk q s.fl s.fa s.cd s.op s.on s.hp)) (q_row L (m + 4) t) P
                refine q_ifeq hF (by decide) dX8_readsLine_66 (fun c66 => ?_) (fun c66 => ?_)
                · refine q_aload_n hF 1 rfl rfl dX8_readsLine_86 ?_
                  refine q_ldcK hF (i := 42) (by decide) rfl rfl dX8_readsLine_87 ?_
                  refine q_iconst hF dX8_readsLine_89 ?_
                  refine q_callV (kc := 0) (ks := 0) (mc' := 0) (ms' := 0) (h' := 6) (st := []) hF vl_RX8_244 rfl [.ref (q_KS G 42), qI 1] rfl rfl hS.t0 (by omega) (Nat.le_of_ble_eq_true rfl) dX8_readsLine_90 ?_
                  refine mX8_isOnceP (i := 42) hS hSA hB (by decide) (show q ≤ n by omega) hfl hqq (fun (c90_0_53 : ¬ (g_isW B n 42 q)) => ?_) (fun (c90_0_53 : g_isW B n 42 q) (c90_1_53 : g_and (g_shr s.on 1) 1 = 1) => ?_) (fun (c90_0_53 : g_isW B n 42 q) (c90_1_53 : g_and (g_shr s.on 1) 1 ≠ 1) => ?_)
                  · show qX G F Q 0 0 93 [(1, qI (q : Int)), (0, .ref m)] [qI 0] sz T (q_ps I m (g_mk q s.fl s.fa s.cd s.op s.on s.hp)) (q_row L (m + 4) t) P
                    refine q_ifeq hF (by decide) dX8_readsLine_93 (fun c93 => ?_) (fun c93 => ?_)
                    · refine q_aload_n hF 1 rfl rfl dX8_readsLine_114 ?_
                      refine q_ldcK hF (i := 34) (by decide) rfl rfl dX8_readsLine_115 ?_
                      refine q_iconst hF dX8_readsLine_117 ?_
                      refine q_callV (kc := 0) (ks := 0) (mc' := 0) (ms' := 0) (h' := 6) (st := []) hF vl_RX8_244 rfl [.ref (q_KS G 34), qI 2] rfl rfl hS.t0 (by omega) (Nat.le_of_ble_eq_true rfl) dX8_readsLine_118 ?_
                      refine mX8_isOnceP (i := 34) hS hSA hB (by decide) (show q ≤ n by omega) hfl hqq (fun (c118_0_54 : ¬ (g_isW B n 34 q)) => ?_) (fun (c118_0_54 : g_isW B n 34 q) (c118_1_54 : g_and (g_shr s.on 2) 1 = 1) => ?_) (fun (c118_0_54 : g_isW B n 34 q) (c118_1_54 : g_and (g_shr s.on 2) 1 ≠ 1) => ?_)
                      · show qX G F Q 0 0 121 [(1, qI (q : Int)), (0, .ref m)] [qI 0] sz T (q_ps I m (g_mk q s.fl s.fa s.cd s.op s.on s.hp)) (q_row L (m + 4) t) P
                        refine q_ifeq hF (by decide) dX8_readsLine_121 (fun c121 => ?_) (fun c121 => ?_)
                        · refine q_aload_n hF 1 rfl rfl dX8_readsLine_138 ?_
                          refine q_ldcK hF (i := 43) (by decide) rfl rfl dX8_readsLine_139 ?_
                          refine q_iconst hF dX8_readsLine_141 ?_
                          refine q_callV (kc := 0) (ks := 0) (mc' := 0) (ms' := 0) (h' := 6) (st := []) hF vl_RX8_244 rfl [.ref (q_KS G 43), qI 3] rfl rfl hS.t0 (by omega) (Nat.le_of_ble_eq_true rfl) dX8_readsLine_142 ?_
                          refine mX8_isOnceP (i := 43) hS hSA hB (by decide) (show q ≤ n by omega) hfl hqq (fun (c142_0_55 : ¬ (g_isW B n 43 q)) => ?_) (fun (c142_0_55 : g_isW B n 43 q) (c142_1_55 : g_and (g_shr s.on 3) 1 = 1) => ?_) (fun (c142_0_55 : g_isW B n 43 q) (c142_1_55 : g_and (g_shr s.on 3) 1 ≠ 1) => ?_)
                          · show qX G F Q 0 0 145 [(1, qI (q : Int)), (0, .ref m)] [qI 0] sz T (q_ps I m (g_mk q s.fl s.fa s.cd s.op s.on s.hp)) (q_row L (m + 4) t) P
                            refine q_ifeq hF (by decide) dX8_readsLine_145 (fun c145 => ?_) (fun c145 => ?_)
                            · refine q_aload_n hF 1 rfl rfl dX8_readsLine_155 ?_
                              refine q_iconst hF dX8_readsLine_156 ?_
                              refine q_iload_n hF 0 rfl rfl dX8_readsLine_157 ?_
                              refine q_callV (kc := 0) (ks := 0) (mc' := 0) (ms' := 0) (h' := 0) (st := []) hF vl_RX8_106 rfl [qI 1, qI (q : Int)] rfl rfl hS.t0 (by omega) (Nat.le_of_ble_eq_true rfl) dX8_readsLine_158 ?_
                              refine mX8_wrongA hS hSA hfl ?_
                              show qX G F Q 0 0 161 [(1, qI (q : Int)), (0, .ref m)] [] sz T (q_ps I m (g_mk q 1 (q : Int) s.cd s.op s.on s.hp)) (q_row L (m + 4) t) P
                              refine q_aload_n hF 1 rfl rfl dX8_readsLine_161 ?_
                              refine q_bipush hF (n := 59) rfl dX8_readsLine_162 ?_
                              refine q_callV (kc := 0) (ks := 0) (mc' := 0) (ms' := 0) (h' := 2) (st := []) hF vl_RX8_204 rfl [qI 59] rfl rfl hS.t0 (by omega) (Nat.le_of_ble_eq_true rfl) dX8_readsLine_164 ?_
                              refine mX8_sign0 hS hSA (show (1 : Int) ≠ 0 by decide) (show -2147483648 ≤ 1 ∧ 1 < 2147483648 by first | decide | omega | assumption) ?_
                              refine q_return hF rfl dX8_readsLine_167 ?_
                              show Q (.inl none) sz T (q_ps I m (g_mk q 1 (q : Int) s.cd s.op s.on s.hp)) (q_row L (m + 4) t) P
                              exact k1 1 q _ _ (by rw [← hx2, g_lnB, if_neg c13_0_2, if_neg c30_0_3, if_neg c46_0_4, if_neg (fun h => h.2 c63_1_5), if_neg (fun h => c90_0_53 h.1), if_neg (fun h => c118_0_54 h.1), if_neg (fun h => c142_0_55 h.1), g_after_e]) (by decide) rfl rfl (show q ≤ n by omega)
                            · exact absurd c145 (by decide)
                          · show qX G F Q 0 0 145 [(1, qI (q : Int)), (0, .ref m)] [qI 0] sz T (q_ps I m (g_mk q s.fl s.fa s.cd s.op s.on s.hp)) (q_row L (m + 4) t) P
                            refine q_ifeq hF (by decide) dX8_readsLine_145 (fun c145 => ?_) (fun c145 => ?_)
                            · refine q_aload_n hF 1 rfl rfl dX8_readsLine_155 ?_
                              refine q_iconst hF dX8_readsLine_156 ?_
                              refine q_iload_n hF 0 rfl rfl dX8_readsLine_157 ?_
                              refine q_callV (kc := 0) (ks := 0) (mc' := 0) (ms' := 0) (h' := 0) (st := []) hF vl_RX8_106 rfl [qI 1, qI (q : Int)] rfl rfl hS.t0 (by omega) (Nat.le_of_ble_eq_true rfl) dX8_readsLine_158 ?_
                              refine mX8_wrongA hS hSA hfl ?_
                              show qX G F Q 0 0 161 [(1, qI (q : Int)), (0, .ref m)] [] sz T (q_ps I m (g_mk q 1 (q : Int) s.cd s.op s.on s.hp)) (q_row L (m + 4) t) P
                              refine q_aload_n hF 1 rfl rfl dX8_readsLine_161 ?_
                              refine q_bipush hF (n := 59) rfl dX8_readsLine_162 ?_
                              refine q_callV (kc := 0) (ks := 0) (mc' := 0) (ms' := 0) (h' := 2) (st := []) hF vl_RX8_204 rfl [qI 59] rfl rfl hS.t0 (by omega) (Nat.le_of_ble_eq_true rfl) dX8_readsLine_164 ?_
                              refine mX8_sign0 hS hSA (show (1 : Int) ≠ 0 by decide) (show -2147483648 ≤ 1 ∧ 1 < 2147483648 by first | decide | omega | assumption) ?_
                              refine q_return hF rfl dX8_readsLine_167 ?_
                              show Q (.inl none) sz T (q_ps I m (g_mk q 1 (q : Int) s.cd s.op s.on s.hp)) (q_row L (m + 4) t) P
                              exact k1 1 q _ _ (by rw [← hx2, g_lnB, if_neg c13_0_2, if_neg c30_0_3, if_neg c46_0_4, if_neg (fun h => h.2 c63_1_5), if_neg (fun h => c90_0_53 h.1), if_neg (fun h => c118_0_54 h.1), if_neg (fun h => h.2 c142_1_55), g_after_e]) (by decide) rfl rfl (show q ≤ n by omega)
                            · exact absurd c145 (by decide)
                          · show qX G F Q 0 0 145 [(1, qI (q : Int)), (0, .ref m)] [qI 1] sz T (q_ps I m (g_mk (g_len 43 + q) s.fl s.fa s.cd s.op (g_or s.on (g_shl 1 3)) s.hp)) (q_row L (m + 4) t) P
                            refine q_ifeq hF (by decide) dX8_readsLine_145 (fun c145 => ?_) (fun c145 => ?_)
                            · exact absurd c145 (by decide)
                            · have hwl := g_words_ok 43 (by decide)
                              have hwn := g_isW_n (g_words_ok 43 (by decide)) (fun k hk => by have := g_ch_r (i := 43) (by decide) hk; omega) c142_0_55
                              have hsr := g_sk_r (B := B) (n := n) (k := g_len 43 + q) (by omega)
                              refine q_aload_n hF 1 rfl rfl dX8_readsLine_148 ?_
                              refine q_callV (kc := 0) (ks := 0) (mc' := 0) (ms' := 0) (h' := 7) (st := []) hF vl_RX8_248 rfl [] rfl rfl hS.t0 (by omega) (Nat.le_of_ble_eq_true rfl) dX8_readsLine_149 ?_
                              refine mX8_readsOrderP hS hSA hB (show g_len 43 + q ≤ n by omega) hfl  rfl rfl (fun s60 t60 e60 => ?_) (fun w60 x60 s60 t60 e60 hw60 hfl60 hfa60 hpn60 => ?_)
                              · have iv60 := (fun hv hq he => g_rdO_iv (g_hB hB) 4 t _ [] _ (by decide) (by decide) hv hq (by decide) he) (show g_IV q n (g_mk (g_len 43 + q) s.fl s.fa s.cd s.op (g_or s.on (g_shl 1 3)) s.hp) t from ⟨⟨hfl, hfa⟩, (show g_len 43 + q ≤ n by omega), (show 2 * s.cd ≤ 3 * (g_len 43 + q) ∧ q ≤ g_len 43 + q by omega), ht⟩) ⟨(show g_len 43 + q ≤ g_sk B n (g_len 43 + q) from (g_sk_r (B := B) (show g_len 43 + q ≤ n by omega)).1), (g_sk_r (B := B) (show g_len 43 + q ≤ n by omega)).2⟩ e60
                                have hvf60 : s60.fl = 0 := iv60.1.1
                                have hvp60 : s60.p ≤ n := iv60.2.1
                                have hvs60 := g_sk_r (B := B) hvp60
                                refine q_goto hF dX8_readsLine_152 ?_
                                refine q_aload_n hF 1 rfl rfl dX8_readsLine_161 ?_
                                refine q_bipush hF (n := 59) rfl dX8_readsLine_162 ?_
                                refine q_callV (kc := 0) (ks := 0) (mc' := 0) (ms' := 0) (h' := 2) (st := []) hF vl_RX8_204 rfl [qI 59] rfl rfl hS.t0 (by omega) (Nat.le_of_ble_eq_true rfl) dX8_readsLine_164 ?_
                                refine mX8_signPQ hS hSA hB (by decide) (show s60.p ≤ n by omega) hvf60 rfl (fun (c164_0_61 : (g_bt B n (g_sk B n s60.p)) = 59) => ?_) (fun (c164_0_61 : (g_bt B n (g_sk B n s60.p)) ≠ 59) => ?_)
                                · show qX G F Q 0 0 167 [(1, qI (q : Int)), (0, .ref m)] [] sz T (q_ps I m (g_mk (1 + (g_sk B n s60.p)) s60.fl s60.fa s60.cd s60.op s60.on s60.hp)) (q_row L (m + 4) t60) P
                                  refine q_return hF rfl dX8_readsLine_167 ?_
                                  exact k0 _ _ (by rw [← hx2, g_lnB, if_neg c13_0_2, if_neg c30_0_3, if_neg c46_0_4, if_neg (fun h => h.2 c63_1_5), if_neg (fun h => c90_0_53 h.1), if_neg (fun h => c118_0_54 h.1), if_pos ⟨c142_0_55, c142_1_55⟩, e60, g_after_ok (by exact c164_0_61)])
                                · show qX G F Q 0 0 167 [(1, qI (q : Int)), (0, .ref m)] [] sz T (q_ps I m (g_mk (g_sk B n s60.p) 1 (g_sk B n s60.p : Int) s60.cd s60.op s60.on s60.hp)) (q_row L (m + 4) t60) P
                                  refine q_return hF rfl dX8_readsLine_167 ?_
                                  show Q (.inl none) sz T (q_ps I m (g_mk (g_sk B n s60.p) 1 (g_sk B n s60.p : Int) s60.cd s60.op s60.on s60.hp)) (q_row L (m + 4) t60) P
                                  exact k1 1 (g_sk B n s60.p) _ _ (by rw [← hx2, g_lnB, if_neg c13_0_2, if_neg c30_0_3, if_neg c46_0_4, if_neg (fun h => h.2 c63_1_5), if_neg (fun h => c90_0_53 h.1), if_neg (fun h => c118_0_54 h.1), if_pos ⟨c142_0_55, c142_1_55⟩, e60, g_after_er (by exact c164_0_61)]) (by decide) rfl rfl (show g_sk B n s60.p ≤ n by omega)
                              · have her60 : s60.fl ≠ 0 := by omega
                                have hrf60 : -2147483648 ≤ s60.fl ∧ s60.fl < 2147483648 := by omega
                                refine q_goto hF dX8_readsLine_152 ?_
                                refine q_aload_n hF 1 rfl rfl dX8_readsLine_161 ?_
                                refine q_bipush hF (n := 59) rfl dX8_readsLine_162 ?_
                                refine q_callV (kc := 0) (ks := 0) (mc' := 0) (ms' := 0) (h' := 2) (st := []) hF vl_RX8_204 rfl [qI 59] rfl rfl hS.t0 (by omega) (Nat.le_of_ble_eq_true rfl) dX8_readsLine_164 ?_
                                refine mX8_sign0 hS hSA her60 (show -2147483648 ≤ s60.fl ∧ s60.fl < 2147483648 by first | decide | omega | assumption) ?_
                                refine q_return hF rfl dX8_readsLine_167 ?_
                                show Q (.inl none) sz T (q_ps I m s60) (q_row L (m + 4) t60) P
                                exact k1 w60 x60 _ _ (by rw [← hx2, g_lnB, if_neg c13_0_2, if_neg c30_0_3, if_neg c46_0_4, if_neg (fun h => h.2 c63_1_5), if_neg (fun h => c90_0_53 h.1), if_neg (fun h => c118_0_54 h.1), if_pos ⟨c142_0_55, c142_1_55⟩, e60, g_after_e]) hw60 hfl60 hfa60 hpn60
                        · exact absurd c121 (by decide)
                      · show qX G F Q 0 0 121 [(1, qI (q : Int)), (0, .ref m)] [qI 0] sz T (q_ps I m (g_mk q s.fl s.fa s.cd s.op s.on s.hp)) (q_row L (m + 4) t) P
                        refine q_ifeq hF (by decide) dX8_readsLine_121 (fun c121 => ?_) (fun c121 => ?_)
                        · refine q_aload_n hF 1 rfl rfl dX8_readsLine_138 ?_
                          refine q_ldcK hF (i := 43) (by decide) rfl rfl dX8_readsLine_139 ?_
                          refine q_iconst hF dX8_readsLine_141 ?_
                          refine q_callV (kc := 0) (ks := 0) (mc' := 0) (ms' := 0) (h' := 6) (st := []) hF vl_RX8_244 rfl [.ref (q_KS G 43), qI 3] rfl rfl hS.t0 (by omega) (Nat.le_of_ble_eq_true rfl) dX8_readsLine_142 ?_
                          refine mX8_isOnceP (i := 43) hS hSA hB (by decide) (show q ≤ n by omega) hfl hqq (fun (c142_0_63 : ¬ (g_isW B n 43 q)) => ?_) (fun (c142_0_63 : g_isW B n 43 q) (c142_1_63 : g_and (g_shr s.on 3) 1 = 1) => ?_) (fun (c142_0_63 : g_isW B n 43 q) (c142_1_63 : g_and (g_shr s.on 3) 1 ≠ 1) => ?_)
                          · show qX G F Q 0 0 145 [(1, qI (q : Int)), (0, .ref m)] [qI 0] sz T (q_ps I m (g_mk q s.fl s.fa s.cd s.op s.on s.hp)) (q_row L (m + 4) t) P
                            refine q_ifeq hF (by decide) dX8_readsLine_145 (fun c145 => ?_) (fun c145 => ?_)
                            · refine q_aload_n hF 1 rfl rfl dX8_readsLine_155 ?_
                              refine q_iconst hF dX8_readsLine_156 ?_
                              refine q_iload_n hF 0 rfl rfl dX8_readsLine_157 ?_
                              refine q_callV (kc := 0) (ks := 0) (mc' := 0) (ms' := 0) (h' := 0) (st := []) hF vl_RX8_106 rfl [qI 1, qI (q : Int)] rfl rfl hS.t0 (by omega) (Nat.le_of_ble_eq_true rfl) dX8_readsLine_158 ?_
                              refine mX8_wrongA hS hSA hfl ?_
                              show qX G F Q 0 0 161 [(1, qI (q : Int)), (0, .ref m)] [] sz T (q_ps I m (g_mk q 1 (q : Int) s.cd s.op s.on s.hp)) (q_row L (m + 4) t) P
                              refine q_aload_n hF 1 rfl rfl dX8_readsLine_161 ?_
                              refine q_bipush hF (n := 59) rfl dX8_readsLine_162 ?_
                              refine q_callV (kc := 0) (ks := 0) (mc' := 0) (ms' := 0) (h' := 2) (st := []) hF vl_RX8_204 rfl [qI 59] rfl rfl hS.t0 (by omega) (Nat.le_of_ble_eq_true rfl) dX8_readsLine_164 ?_
                              refine mX8_sign0 hS hSA (show (1 : Int) ≠ 0 by decide) (show -2147483648 ≤ 1 ∧ 1 < 2147483648 by first | decide | omega | assumption) ?_
                              refine q_return hF rfl dX8_readsLine_167 ?_
                              show Q (.inl none) sz T (q_ps I m (g_mk q 1 (q : Int) s.cd s.op s.on s.hp)) (q_row L (m + 4) t) P
                              exact k1 1 q _ _ (by rw [← hx2, g_lnB, if_neg c13_0_2, if_neg c30_0_3, if_neg c46_0_4, if_neg (fun h => h.2 c63_1_5), if_neg (fun h => c90_0_53 h.1), if_neg (fun h => h.2 c118_1_54), if_neg (fun h => c142_0_63 h.1), g_after_e]) (by decide) rfl rfl (show q ≤ n by omega)
                            · exact absurd c145 (by decide)
                          · show qX G F Q 0 0 145 [(1, qI (q : Int)), (0, .ref m)] [qI 0] sz T (q_ps I m (g_mk q s.fl s.fa s.cd s.op s.on s.hp)) (q_row L (m + 4) t) P
                            refine q_ifeq hF (by decide) dX8_readsLine_145 (fun c145 => ?_) (fun c145 => ?_)
                            · refine q_aload_n hF 1 rfl rfl dX8_readsLine_155 ?_
                              refine q_iconst hF dX8_readsLine_156 ?_
                              refine q_iload_n hF 0 rfl rfl dX8_readsLine_157 ?_
                              refine q_callV (kc := 0) (ks := 0) (mc' := 0) (ms' := 0) (h' := 0) (st := []) hF vl_RX8_106 rfl [qI 1, qI (q : Int)] rfl rfl hS.t0 (by omega) (Nat.le_of_ble_eq_true rfl) dX8_readsLine_158 ?_
                              refine mX8_wrongA hS hSA hfl ?_
                              show qX G F Q 0 0 161 [(1, qI (q : Int)), (0, .ref m)] [] sz T (q_ps I m (g_mk q 1 (q : Int) s.cd s.op s.on s.hp)) (q_row L (m + 4) t) P
                              refine q_aload_n hF 1 rfl rfl dX8_readsLine_161 ?_
                              refine q_bipush hF (n := 59) rfl dX8_readsLine_162 ?_
                              refine q_callV (kc := 0) (ks := 0) (mc' := 0) (ms' := 0) (h' := 2) (st := []) hF vl_RX8_204 rfl [qI 59] rfl rfl hS.t0 (by omega) (Nat.le_of_ble_eq_true rfl) dX8_readsLine_164 ?_
                              refine mX8_sign0 hS hSA (show (1 : Int) ≠ 0 by decide) (show -2147483648 ≤ 1 ∧ 1 < 2147483648 by first | decide | omega | assumption) ?_
                              refine q_return hF rfl dX8_readsLine_167 ?_
                              show Q (.inl none) sz T (q_ps I m (g_mk q 1 (q : Int) s.cd s.op s.on s.hp)) (q_row L (m + 4) t) P
                              exact k1 1 q _ _ (by rw [← hx2, g_lnB, if_neg c13_0_2, if_neg c30_0_3, if_neg c46_0_4, if_neg (fun h => h.2 c63_1_5), if_neg (fun h => c90_0_53 h.1), if_neg (fun h => h.2 c118_1_54), if_neg (fun h => h.2 c142_1_63), g_after_e]) (by decide) rfl rfl (show q ≤ n by omega)
                            · exact absurd c145 (by decide)
                          · show qX G F Q 0 0 145 [(1, qI (q : Int)), (0, .ref m)] [qI 1] sz T (q_ps I m (g_mk (g_len 43 + q) s.fl s.fa s.cd s.op (g_or s.on (g_shl 1 3)) s.hp)) (q_row L (m + 4) t) P
                            refine q_ifeq hF (by decide) dX8_readsLine_145 (fun c145 => ?_) (fun c145 => ?_)
                            · exact absurd c145 (by decide)
                            · have hwl := g_words_ok 43 (by decide)
                              have hwn := g_isW_n (g_words_ok 43 (by decide)) (fun k hk => by have := g_ch_r (i := 43) (by decide) hk; omega) c142_0_63
                              have hsr := g_sk_r (B := B) (n := n) (k := g_len 43 + q) (by omega)
                              refine q_aload_n hF 1 rfl rfl dX8_readsLine_148 ?_
                              refine q_callV (kc := 0) (ks := 0) (mc' := 0) (ms' := 0) (h' := 7) (st := []) hF vl_RX8_248 rfl [] rfl rfl hS.t0 (by omega) (Nat.le_of_ble_eq_true rfl) dX8_readsLine_149 ?_
                              refine mX8_readsOrderP hS hSA hB (show g_len 43 + q ≤ n by omega) hfl  rfl rfl (fun s68 t68 e68 => ?_) (fun w68 x68 s68 t68 e68 hw68 hfl68 hfa68 hpn68 => ?_)
                              · have iv68 := (fun hv hq he => g_rdO_iv (g_hB hB) 4 t _ [] _ (by decide) (by decide) hv hq (by decide) he) (show g_IV q n (g_mk (g_len 43 + q) s.fl s.fa s.cd s.op (g_or s.on (g_shl 1 3)) s.hp) t from ⟨⟨hfl, hfa⟩, (show g_len 43 + q ≤ n by omega), (show 2 * s.cd ≤ 3 * (g_len 43 + q) ∧ q ≤ g_len 43 + q by omega), ht⟩) ⟨(show g_len 43 + q ≤ g_sk B n (g_len 43 + q) from (g_sk_r (B := B) (show g_len 43 + q ≤ n by omega)).1), (g_sk_r (B := B) (show g_len 43 + q ≤ n by omega)).2⟩ e68
                                have hvf68 : s68.fl = 0 := iv68.1.1
                                have hvp68 : s68.p ≤ n := iv68.2.1
                                have hvs68 := g_sk_r (B := B) hvp68
                                refine q_goto hF dX8_readsLine_152 ?_
                                refine q_aload_n hF 1 rfl rfl dX8_readsLine_161 ?_
                                refine q_bipush hF (n := 59) rfl dX8_readsLine_162 ?_
                                refine q_callV (kc := 0) (ks := 0) (mc' := 0) (ms' := 0) (h' := 2) (st := []) hF vl_RX8_204 rfl [qI 59] rfl rfl hS.t0 (by omega) (Nat.le_of_ble_eq_true rfl) dX8_readsLine_164 ?_
                                refine mX8_signPQ hS hSA hB (by decide) (show s68.p ≤ n by omega) hvf68 rfl (fun (c164_0_69 : (g_bt B n (g_sk B n s68.p)) = 59) => ?_) (fun (c164_0_69 : (g_bt B n (g_sk B n s68.p)) ≠ 59) => ?_)
                                · show qX G F Q 0 0 167 [(1, qI (q : Int)), (0, .ref m)] [] sz T (q_ps I m (g_mk (1 + (g_sk B n s68.p)) s68.fl s68.fa s68.cd s68.op s68.on s68.hp)) (q_row L (m + 4) t68) P
                                  refine q_return hF rfl dX8_readsLine_167 ?_
                                  exact k0 _ _ (by rw [← hx2, g_lnB, if_neg c13_0_2, if_neg c30_0_3, if_neg c46_0_4, if_neg (fun h => h.2 c63_1_5), if_neg (fun h => c90_0_53 h.1), if_neg (fun h => h.2 c118_1_54), if_pos ⟨c142_0_63, c142_1_63⟩, e68, g_after_ok (by exact c164_0_69)])
                                · show qX G F Q 0 0 167 [(1, qI (q : Int)), (0, .ref m)] [] sz T (q_ps I m (g_mk (g_sk B n s68.p) 1 (g_sk B n s68.p : Int) s68.cd s68.op s68.on s68.hp)) (q_row L (m + 4) t68) P
                                  refine q_return hF rfl dX8_readsLine_167 ?_
                                  show Q (.inl none) sz T (q_ps I m (g_mk (g_sk B n s68.p) 1 (g_sk B n s68.p : Int) s68.cd s68.op s68.on s68.hp)) (q_row L (m + 4) t68) P
                                  exact k1 1 (g_sk B n s68.p) _ _ (by rw [← hx2, g_lnB, if_neg c13_0_2, if_neg c30_0_3, if_neg c46_0_4, if_neg (fun h => h.2 c63_1_5), if_neg (fun h => c90_0_53 h.1), if_neg (fun h => h.2 c118_1_54), if_pos ⟨c142_0_63, c142_1_63⟩, e68, g_after_er (by exact c164_0_69)]) (by decide) rfl rfl (show g_sk B n s68.p ≤ n by omega)
                              · have her68 : s68.fl ≠ 0 := by omega
                                have hrf68 : -2147483648 ≤ s68.fl ∧ s68.fl < 2147483648 := by omega
                                refine q_goto hF dX8_readsLine_152 ?_
                                refine q_aload_n hF 1 rfl rfl dX8_readsLine_161 ?_
                                refine q_bipush hF (n := 59) rfl dX8_readsLine_162 ?_
                                refine q_callV (kc := 0) (ks := 0) (mc' := 0) (ms' := 0) (h' := 2) (st := []) hF vl_RX8_204 rfl [qI 59] rfl rfl hS.t0 (by omega) (Nat.le_of_ble_eq_true rfl) dX8_readsLine_164 ?_
                                refine mX8_sign0 hS hSA her68 (show -2147483648 ≤ s68.fl ∧ s68.fl < 2147483648 by first | decide | omega | assumption) ?_
                                refine q_return hF rfl dX8_readsLine_167 ?_
                                show Q (.inl none) sz T (q_ps I m s68) (q_row L (m + 4) t68) P
                                exact k1 w68 x68 _ _ (by rw [← hx2, g_lnB, if_neg c13_0_2, if_neg c30_0_3, if_neg c46_0_4, if_neg (fun h => h.2 c63_1_5), if_neg (fun h => c90_0_53 h.1), if_neg (fun h => h.2 c118_1_54), if_pos ⟨c142_0_63, c142_1_63⟩, e68, g_after_e]) hw68 hfl68 hfa68 hpn68
                        · exact absurd c121 (by decide)
                      · show qX G F Q 0 0 121 [(1, qI (q : Int)), (0, .ref m)] [qI 1] sz T (q_ps I m (g_mk (g_len 34 + q) s.fl s.fa s.cd s.op (g_or s.on (g_shl 1 2)) s.hp)) (q_row L (m + 4) t) P
                        refine q_ifeq hF (by decide) dX8_readsLine_121 (fun c121 => ?_) (fun c121 => ?_)
                        · exact absurd c121 (by decide)
                        · have hwl := g_words_ok 34 (by decide)
                          have hwn := g_isW_n (g_words_ok 34 (by decide)) (fun k hk => by have := g_ch_r (i := 34) (by decide) hk; omega) c118_0_54
                          have hsr := g_sk_r (B := B) (n := n) (k := g_len 34 + q) (by omega)
                          have hnl := g_nl_r (B := B) (n := n) (q := (g_sk B n (g_len 34 + q))) hsr.2
                          have hsr2 := g_sk_r (B := B) (n := n) (k := g_nl B n (g_sk B n (g_len 34 + q)) + (g_sk B n (g_len 34 + q))) (by omega)
                          have hlf := g_lndF_r (B := B) (n := n) (t := t) (q := (g_sk B n (g_len 34 + q))) (c := g_nl B n (g_sk B n (g_len 34 + q))) 6 0
                          change -1 ≤ g_lnd B n t (g_sk B n (g_len 34 + q)) (g_nl B n (g_sk B n (g_len 34 + q))) ∧ (g_lnd B n t (g_sk B n (g_len 34 + q)) (g_nl B n (g_sk B n (g_len 34 + q))) = -1 ∨ g_lnd B n t (g_sk B n (g_len 34 + q)) (g_nl B n (g_sk B n (g_len 34 + q))) < t 0) at hlf
                          refine q_aload_n hF 1 rfl rfl dX8_readsLine_124 ?_
                          refine q_getA hF fl_RX8_24 rfl hS.t0 hS.p10 dX8_readsLine_125 ?_
                          refine q_iconst hF dX8_readsLine_128 ?_
                          refine q_aload_n hF 1 rfl rfl dX8_readsLine_129 ?_
                          refine q_callV (kc := 0) (ks := 0) (mc' := 0) (ms' := 0) (h' := 7) (st := [qI 5, .ref (m + 4)]) hF vl_RX8_223 rfl [] rfl rfl hS.t0 (by omega) (Nat.le_of_ble_eq_true rfl) dX8_readsLine_130 ?_
                          refine mX8_landHereP hS hSA hB (show (g_len 34 + q) ≤ n by omega) hfl ht rfl (fun (c130_0_71 : g_nm B n (g_sk B n (g_len 34 + q))) (c130_1_71 : g_lnd B n t (g_sk B n (g_len 34 + q)) (g_nl B n (g_sk B n (g_len 34 + q))) ≠ -1) => ?_) (fun (c130_0_71 : g_nm B n (g_sk B n (g_len 34 + q))) (c130_1_71 : g_lnd B n t (g_sk B n (g_len 34 + q)) (g_nl B n (g_sk B n (g_len 34 + q))) = -1) => ?_) (fun (c130_0_71 : ¬ (g_nm B n (g_sk B n (g_len 34 + q)))) => ?_)
                          · show qX G F Q 0 0 133 [(1, qI (q : Int)), (0, .ref m)] [qI (g_lnd B n t (g_sk B n (g_len 34 + q)) (g_nl B n (g_sk B n (g_len 34 + q)))), qI 5, .ref (m + 4)] sz T (q_ps I m (g_mk (g_nl B n (g_sk B n (g_len 34 + q)) + (g_sk B n (g_len 34 + q))) s.fl s.fa s.cd s.op (g_or s.on (g_shl 1 2)) s.hp)) (q_row L (m + 4) t) P
                            refine q_i2l hF (by omega) dX8_readsLine_133 ?_
                            refine q_lastorev hF (n := 1243) 5 hS.t4 (q_Ale hSA (by omega)) rfl (by decide) (by decide) dX8_readsLine_134 ?_
                            rw [q_row_u]
                            refine q_goto hF dX8_readsLine_135 ?_
                            refine q_aload_n hF 1 rfl rfl dX8_readsLine_161 ?_
                            refine q_bipush hF (n := 59) rfl dX8_readsLine_162 ?_
                            refine q_callV (kc := 0) (ks := 0) (mc' := 0) (ms' := 0) (h' := 2) (st := []) hF vl_RX8_204 rfl [qI 59] rfl rfl hS.t0 (by omega) (Nat.le_of_ble_eq_true rfl) dX8_readsLine_164 ?_
                            refine mX8_signPQ hS hSA hB (by decide) (show (g_nl B n (g_sk B n (g_len 34 + q)) + (g_sk B n (g_len 34 + q))) ≤ n by omega) hfl rfl (fun (c164_0_72 : (g_bt B n (g_sk B n (g_nl B n (g_sk B n (g_len 34 + q)) + (g_sk B n (g_len 34 + q))))) = 59) => ?_) (fun (c164_0_72 : (g_bt B n (g_sk B n (g_nl B n (g_sk B n (g_len 34 + q)) + (g_sk B n (g_len 34 + q))))) ≠ 59) => ?_)
                            · show qX G F Q 0 0 167 [(1, qI (q : Int)), (0, .ref m)] [] sz T (q_ps I m (g_mk (1 + (g_sk B n (g_nl B n (g_sk B n (g_len 34 + q)) + (g_sk B n (g_len 34 + q))))) s.fl s.fa s.cd s.op (g_or s.on (g_shl 1 2)) s.hp)) (q_row L (m + 4) (g_up t 5 (g_lnd B n t (g_sk B n (g_len 34 + q)) (g_nl B n (g_sk B n (g_len 34 + q)))))) P
                              refine q_return hF rfl dX8_readsLine_167 ?_
                              exact k0 _ _ (by rw [← hx2, g_lnB, if_neg c13_0_2, if_neg c30_0_3, if_neg c46_0_4, if_neg (fun h => h.2 c63_1_5), if_neg (fun h => c90_0_53 h.1), if_pos ⟨c118_0_54, c118_1_54⟩, if_pos c130_0_71, if_neg c130_1_71, g_after_ok (by exact c164_0_72)])
                            · show qX G F Q 0 0 167 [(1, qI (q : Int)), (0, .ref m)] [] sz T (q_ps I m (g_mk (g_sk B n (g_nl B n (g_sk B n (g_len 34 + q)) + (g_sk B n (g_len 34 + q)))) 1 ((g_sk B n (g_nl B n (g_sk B n (g_len 34 + q)) + (g_sk B n (g_len 34 + q))) : Nat) : Int) s.cd s.op (g_or s.on (g_shl 1 2)) s.hp)) (q_row L (m + 4) (g_up t 5 (g_lnd B n t (g_sk B n (g_len 34 + q)) (g_nl B n (g_sk B n (g_len 34 + q)))))) P
                              refine q_return hF rfl dX8_readsLine_167 ?_
                              show Q (.inl none) sz T (q_ps I m (g_mk (g_sk B n (g_nl B n (g_sk B n (g_len 34 + q)) + (g_sk B n (g_len 34 + q)))) 1 ((g_sk B n (g_nl B n (g_sk B n (g_len 34 + q)) + (g_sk B n (g_len 34 + q))) : Nat) : Int) s.cd s.op (g_or s.on (g_shl 1 2)) s.hp)) (q_row L (m + 4) (g_up t 5 (g_lnd B n t (g_sk B n (g_len 34 + q)) (g_nl B n (g_sk B n (g_len 34 + q)))))) P
                              exact k1 1 (g_sk B n (g_nl B n (g_sk B n (g_len 34 + q)) + (g_sk B n (g_len 34 + q)))) _ _ (by rw [← hx2, g_lnB, if_neg c13_0_2, if_neg c30_0_3, if_neg c46_0_4, if_neg (fun h => h.2 c63_1_5), if_neg (fun h => c90_0_53 h.1), if_pos ⟨c118_0_54, c118_1_54⟩, if_pos c130_0_71, if_neg c130_1_71, g_after_er (by exact c164_0_72)]) (by decide) rfl rfl (show g_sk B n (g_nl B n (g_sk B n (g_len 34 + q)) + (g_sk B n (g_len 34 + q))) ≤ n by omega)
                          · show qX G F Q 0 0 133 [(1, qI (q : Int)), (0, .ref m)] [qI (-1), qI 5, .ref (m + 4)] sz T (q_ps I m (g_mk (g_nl B n (g_sk B n (g_len 34 + q)) + (g_sk B n (g_len 34 + q))) 3 ((g_sk B n (g_len 34 + q) : Nat) : Int) s.cd s.op (g_or s.on (g_shl 1 2)) s.hp)) (q_row L (m + 4) t) P
                            refine q_i2l hF (by decide) dX8_readsLine_133 ?_
                            refine q_lastorev hF (n := 1243) 5 hS.t4 (q_Ale hSA (by omega)) rfl (by decide) (by decide) dX8_readsLine_134 ?_
                            rw [q_row_u]
                            refine q_goto hF dX8_readsLine_135 ?_
                            refine q_aload_n hF 1 rfl rfl dX8_readsLine_161 ?_
                            refine q_bipush hF (n := 59) rfl dX8_readsLine_162 ?_
                            refine q_callV (kc := 0) (ks := 0) (mc' := 0) (ms' := 0) (h' := 2) (st := []) hF vl_RX8_204 rfl [qI 59] rfl rfl hS.t0 (by omega) (Nat.le_of_ble_eq_true rfl) dX8_readsLine_164 ?_
                            refine mX8_sign0 hS hSA (show (3 : Int) ≠ 0 by decide) (show -2147483648 ≤ 3 ∧ 3 < 2147483648 by first | decide | omega | assumption) ?_
                            refine q_return hF rfl dX8_readsLine_167 ?_
                            show Q (.inl none) sz T (q_ps I m (g_mk (g_nl B n (g_sk B n (g_len 34 + q)) + (g_sk B n (g_len 34 + q))) 3 ((g_sk B n (g_len 34 + q) : Nat) : Int) s.cd s.op (g_or s.on (g_shl 1 2)) s.hp)) (q_row L (m + 4) (g_up t 5 (-1))) P
                            exact k1 3 (g_sk B n (g_len 34 + q)) _ _ (by rw [← hx2, g_lnB, if_neg c13_0_2, if_neg c30_0_3, if_neg c46_0_4, if_neg (fun h => h.2 c63_1_5), if_neg (fun h => c90_0_53 h.1), if_pos ⟨c118_0_54, c118_1_54⟩, if_pos c130_0_71, if_pos c130_1_71, g_after_e]) (by decide) rfl rfl (show g_nl B n (g_sk B n (g_len 34 + q)) + (g_sk B n (g_len 34 + q)) ≤ n by omega)
                          · show qX G F Q 0 0 133 [(1, qI (q : Int)), (0, .ref m)] [qI (-1), qI 5, .ref (m + 4)] sz T (q_ps I m (g_mk (g_sk B n (g_len 34 + q)) 1 ((g_sk B n (g_len 34 + q) : Nat) : Int) s.cd s.op (g_or s.on (g_shl 1 2)) s.hp)) (q_row L (m + 4) t) P
                            refine q_i2l hF (by decide) dX8_readsLine_133 ?_
                            refine q_lastorev hF (n := 1243) 5 hS.t4 (q_Ale hSA (by omega)) rfl (by decide) (by decide) dX8_readsLine_134 ?_
                            rw [q_row_u]
                            refine q_goto hF dX8_readsLine_135 ?_
                            refine q_aload_n hF 1 rfl rfl dX8_readsLine_161 ?_
                            refine q_bipush hF (n := 59) rfl dX8_readsLine_162 ?_
                            refine q_callV (kc := 0) (ks := 0) (mc' := 0) (ms' := 0) (h' := 2) (st := []) hF vl_RX8_204 rfl [qI 59] rfl rfl hS.t0 (by omega) (Nat.le_of_ble_eq_true rfl) dX8_readsLine_164 ?_
                            refine mX8_sign0 hS hSA (show (1 : Int) ≠ 0 by decide) (show -2147483648 ≤ 1 ∧ 1 < 2147483648 by first | decide | omega | assumption) ?_
                            refine q_return hF rfl dX8_readsLine_167 ?_
                            show Q (.inl none) sz T (q_ps I m (g_mk (g_sk B n (g_len 34 + q)) 1 ((g_sk B n (g_len 34 + q) : Nat) : Int) s.cd s.op (g_or s.on (g_shl 1 2)) s.hp)) (q_row L (m + 4) (g_up t 5 (-1))) P
                            exact k1 1 (g_sk B n (g_len 34 + q)) _ _ (by rw [← hx2, g_lnB, if_neg c13_0_2, if_neg c30_0_3, if_neg c46_0_4, if_neg (fun h => h.2 c63_1_5), if_neg (fun h => c90_0_53 h.1), if_pos ⟨c118_0_54, c118_1_54⟩, if_neg c130_0_71, g_after_e]) (by decide) rfl rfl (show g_sk B n (g_len 34 + q) ≤ n by omega)
                    · exact absurd c93 (by decide)
                  · show qX G F Q 0 0 93 [(1, qI (q : Int)), (0, .ref m)] [qI 0] sz T (q_ps I m (g_mk q s.fl s.fa s.cd s.op s.on s.hp)) (q_row L (m + 4) t) P
                    refine q_ifeq hF (by decide) dX8_readsLine_93 (fun c93 => ?_) (fun c93 => ?_)
                    · refine q_aload_n hF 1 rfl rfl dX8_readsLine_114 ?_
                      refine q_ldcK hF (i := 34) (by decide) rfl rfl dX8_readsLine_115 ?_
                      refine q_iconst hF dX8_readsLine_117 ?_
                      refine q_callV (kc := 0) (ks := 0) (mc' := 0) (ms' := 0) (h' := 6) (st := []) hF vl_RX8_244 rfl [.ref (q_KS G 34), qI 2] rfl rfl hS.t0 (by omega) (Nat.le_of_ble_eq_true rfl) dX8_readsLine_118 ?_
                      refine mX8_isOnceP (i := 34) hS hSA hB (by decide) (show q ≤ n by omega) hfl hqq (fun (c118_0_75 : ¬ (g_isW B n 34 q)) => ?_) (fun (c118_0_75 : g_isW B n 34 q) (c118_1_75 : g_and (g_shr s.on 2) 1 = 1) => ?_) (fun (c118_0_75 : g_isW B n 34 q) (c118_1_75 : g_and (g_shr s.on 2) 1 ≠ 1) => ?_)
                      · show qX G F Q 0 0 121 [(1, qI (q : Int)), (0, .ref m)] [qI 0] sz T (q_ps I m (g_mk q s.fl s.fa s.cd s.op s.on s.hp)) (q_row L (m + 4) t) P
                        refine q_ifeq hF (by decide) dX8_readsLine_121 (fun c121 => ?_) (fun c121 => ?_)
                        · refine q_aload_n hF 1 rfl rfl dX8_readsLine_138 ?_
                          refine q_ldcK hF (i := 43) (by decide) rfl rfl dX8_readsLine_139 ?_
                          refine q_iconst hF dX8_readsLine_141 ?_
                          refine q_callV (kc := 0) (ks := 0) (mc' := 0) (ms' := 0) (h' := 6) (st := []) hF vl_RX8_244 rfl [.ref (q_KS G 43), qI 3] rfl rfl hS.t0 (by omega) (Nat.le_of_ble_eq_true rfl) dX8_readsLine_142 ?_
                          refine mX8_isOnceP (i := 43) hS hSA hB (by decide) (show q ≤ n by omega) hfl hqq (fun (c142_0_76 : ¬ (g_isW B n 43 q)) => ?_) (fun (c142_0_76 : g_isW B n 43 q) (c142_1_76 : g_and (g_shr s.on 3) 1 = 1) => ?_) (fun (c142_0_76 : g_isW B n 43 q) (c142_1_76 : g_and (g_shr s.on 3) 1 ≠ 1) => ?_)
                          · show qX G F Q 0 0 145 [(1, qI (q : Int)), (0, .ref m)] [qI 0] sz T (q_ps I m (g_mk q s.fl s.fa s.cd s.op s.on s.hp)) (q_row L (m + 4) t) P
                            refine q_ifeq hF (by decide) dX8_readsLine_145 (fun c145 => ?_) (fun c145 => ?_)
                            · refine q_aload_n hF 1 rfl rfl dX8_readsLine_155 ?_
                              refine q_iconst hF dX8_readsLine_156 ?_
                              refine q_iload_n hF 0 rfl rfl dX8_readsLine_157 ?_
                              refine q_callV (kc := 0) (ks := 0) (mc' := 0) (ms' := 0) (h' := 0) (st := []) hF vl_RX8_106 rfl [qI 1, qI (q : Int)] rfl rfl hS.t0 (by omega) (Nat.le_of_ble_eq_true rfl) dX8_readsLine_158 ?_
                              refine mX8_wrongA hS hSA hfl ?_
                              show qX G F Q 0 0 161 [(1, qI (q : Int)), (0, .ref m)] [] sz T (q_ps I m (g_mk q 1 (q : Int) s.cd s.op s.on s.hp)) (q_row L (m + 4) t) P
                              refine q_aload_n hF 1 rfl rfl dX8_readsLine_161 ?_
                              refine q_bipush hF (n := 59) rfl dX8_readsLine_162 ?_
                              refine q_callV (kc := 0) (ks := 0) (mc' := 0) (ms' := 0) (h' := 2) (st := []) hF vl_RX8_204 rfl [qI 59] rfl rfl hS.t0 (by omega) (Nat.le_of_ble_eq_true rfl) dX8_readsLine_164 ?_
                              refine mX8_sign0 hS hSA (show (1 : Int) ≠ 0 by decide) (show -2147483648 ≤ 1 ∧ 1 < 2147483648 by first | decide | omega | assumption) ?_
                              refine q_return hF rfl dX8_readsLine_167 ?_
                              show Q (.inl none) sz T (q_ps I m (g_mk q 1 (q : Int) s.cd s.op s.on s.hp)) (q_row L (m + 4) t) P
                              exact k1 1 q _ _ (by rw [← hx2, g_lnB, if_neg c13_0_2, if_neg c30_0_3, if_neg c46_0_4, if_neg (fun h => h.2 c63_1_5), if_neg (fun h => h.2 c90_1_53), if_neg (fun h => c118_0_75 h.1), if_neg (fun h => c142_0_76 h.1), g_after_e]) (by decide) rfl rfl (show q ≤ n by omega)
                            · exact absurd c145 (by decide)
                          · show qX G F Q 0 0 145 [(1, qI (q : Int)), (0, .ref m)] [qI 0] sz T (q_ps I m (g_mk q s.fl s.fa s.cd s.op s.on s.hp)) (q_row L (m + 4) t) P
                            refine q_ifeq hF (by decide) dX8_readsLine_145 (fun c145 => ?_) (fun c145 => ?_)
                            · refine q_aload_n hF 1 rfl rfl dX8_readsLine_155 ?_
                              refine q_iconst hF dX8_readsLine_156 ?_
                              refine q_iload_n hF 0 rfl rfl dX8_readsLine_157 ?_
                              refine q_callV (kc := 0) (ks := 0) (mc' := 0) (ms' := 0) (h' := 0) (st := []) hF vl_RX8_106 rfl [qI 1, qI (q : Int)] rfl rfl hS.t0 (by omega) (Nat.le_of_ble_eq_true rfl) dX8_readsLine_158 ?_
                              refine mX8_wrongA hS hSA hfl ?_
                              show qX G F Q 0 0 161 [(1, qI (q : Int)), (0, .ref m)] [] sz T (q_ps I m (g_mk q 1 (q : Int) s.cd s.op s.on s.hp)) (q_row L (m + 4) t) P
                              refine q_aload_n hF 1 rfl rfl dX8_readsLine_161 ?_
                              refine q_bipush hF (n := 59) rfl dX8_readsLine_162 ?_
                              refine q_callV (kc := 0) (ks := 0) (mc' := 0) (ms' := 0) (h' := 2) (st := []) hF vl_RX8_204 rfl [qI 59] rfl rfl hS.t0 (by omega) (Nat.le_of_ble_eq_true rfl) dX8_readsLine_164 ?_
                              refine mX8_sign0 hS hSA (show (1 : Int) ≠ 0 by decide) (show -2147483648 ≤ 1 ∧ 1 < 2147483648 by first | decide | omega | assumption) ?_
                              refine q_return hF rfl dX8_readsLine_167 ?_
                              show Q (.inl none) sz T (q_ps I m (g_mk q 1 (q : Int) s.cd s.op s.on s.hp)) (q_row L (m + 4) t) P
                              exact k1 1 q _ _ (by rw [← hx2, g_lnB, if_neg c13_0_2, if_neg c30_0_3, if_neg c46_0_4, if_neg (fun h => h.2 c63_1_5), if_neg (fun h => h.2 c90_1_53), if_neg (fun h => c118_0_75 h.1), if_neg (fun h => h.2 c142_1_76), g_after_e]) (by decide) rfl rfl (show q ≤ n by omega)
                            · exact absurd c145 (by decide)
                          · show qX G F Q 0 0 145 [(1, qI (q : Int)), (0, .ref m)] [qI 1] sz T (q_ps I m (g_mk (g_len 43 + q) s.fl s.fa s.cd s.op (g_or s.on (g_shl 1 3)) s.hp)) (q_row L (m + 4) t) P
                            refine q_ifeq hF (by decide) dX8_readsLine_145 (fun c145 => ?_) (fun c145 => ?_)
                            · exact absurd c145 (by decide)
                            · have hwl := g_words_ok 43 (by decide)
                              have hwn := g_isW_n (g_words_ok 43 (by decide)) (fun k hk => by have := g_ch_r (i := 43) (by decide) hk; omega) c142_0_76
                              have hsr := g_sk_r (B := B) (n := n) (k := g_len 43 + q) (by omega)
                              refine q_aload_n hF 1 rfl rfl dX8_readsLine_148 ?_
                              refine q_callV (kc := 0) (ks := 0) (mc' := 0) (ms' := 0) (h' := 7) (st := []) hF vl_RX8_248 rfl [] rfl rfl hS.t0 (by omega) (Nat.le_of_ble_eq_true rfl) dX8_readsLine_149 ?_
                              refine mX8_readsOrderP hS hSA hB (show g_len 43 + q ≤ n by omega) hfl  rfl rfl (fun s81 t81 e81 => ?_) (fun w81 x81 s81 t81 e81 hw81 hfl81 hfa81 hpn81 => ?_)
                              · have iv81 := (fun hv hq he => g_rdO_iv (g_hB hB) 4 t _ [] _ (by decide) (by decide) hv hq (by decide) he) (show g_IV q n (g_mk (g_len 43 + q) s.fl s.fa s.cd s.op (g_or s.on (g_shl 1 3)) s.hp) t from ⟨⟨hfl, hfa⟩, (show g_len 43 + q ≤ n by omega), (show 2 * s.cd ≤ 3 * (g_len 43 + q) ∧ q ≤ g_len 43 + q by omega), ht⟩) ⟨(show g_len 43 + q ≤ g_sk B n (g_len 43 + q) from (g_sk_r (B := B) (show g_len 43 + q ≤ n by omega)).1), (g_sk_r (B := B) (show g_len 43 + q ≤ n by omega)).2⟩ e81
                                have hvf81 : s81.fl = 0 := iv81.1.1
                                have hvp81 : s81.p ≤ n := iv81.2.1
                                have hvs81 := g_sk_r (B := B) hvp81
                                refine q_goto hF dX8_readsLine_152 ?_
                                refine q_aload_n hF 1 rfl rfl dX8_readsLine_161 ?_
                                refine q_bipush hF (n := 59) rfl dX8_readsLine_162 ?_
                                refine q_callV (kc := 0) (ks := 0) (mc' := 0) (ms' := 0) (h' := 2) (st := []) hF vl_RX8_204 rfl [qI 59] rfl rfl hS.t0 (by omega) (Nat.le_of_ble_eq_true rfl) dX8_readsLine_164 ?_
                                refine mX8_signPQ hS hSA hB (by decide) (show s81.p ≤ n by omega) hvf81 rfl (fun (c164_0_82 : (g_bt B n (g_sk B n s81.p)) = 59) => ?_) (fun (c164_0_82 : (g_bt B n (g_sk B n s81.p)) ≠ 59) => ?_)
                                · show qX G F Q 0 0 167 [(1, qI (q : Int)), (0, .ref m)] [] sz T (q_ps I m (g_mk (1 + (g_sk B n s81.p)) s81.fl s81.fa s81.cd s81.op s81.on s81.hp)) (q_row L (m + 4) t81) P
                                  refine q_return hF rfl dX8_readsLine_167 ?_
                                  exact k0 _ _ (by rw [← hx2, g_lnB, if_neg c13_0_2, if_neg c30_0_3, if_neg c46_0_4, if_neg (fun h => h.2 c63_1_5), if_neg (fun h => h.2 c90_1_53), if_neg (fun h => c118_0_75 h.1), if_pos ⟨c142_0_76, c142_1_76⟩, e81, g_after_ok (by exact c164_0_82)])
                                · show qX G F Q 0 0 167 [(1, qI (q : Int)), (0, .ref m)] [] sz T (q_ps I m (g_mk (g_sk B n s81.p) 1 (g_sk B n s81.p : Int) s81.cd s81.op s81.on s81.hp)) (q_row L (m + 4) t81) P
                                  refine q_return hF rfl dX8_readsLine_167 ?_
                                  show Q (.inl none) sz T (q_ps I m (g_mk (g_sk B n s81.p) 1 (g_sk B n s81.p : Int) s81.cd s81.op s81.on s81.hp)) (q_row L (m + 4) t81) P
                                  exact k1 1 (g_sk B n s81.p) _ _ (by rw [← hx2, g_lnB, if_neg c13_0_2, if_neg c30_0_3, if_neg c46_0_4, if_neg (fun h => h.2 c63_1_5), if_neg (fun h => h.2 c90_1_53), if_neg (fun h => c118_0_75 h.1), if_pos ⟨c142_0_76, c142_1_76⟩, e81, g_after_er (by exact c164_0_82)]) (by decide) rfl rfl (show g_sk B n s81.p ≤ n by omega)
                              · have her81 : s81.fl ≠ 0 := by omega
                                have hrf81 : -2147483648 ≤ s81.fl ∧ s81.fl < 2147483648 := by omega
                                refine q_goto hF dX8_readsLine_152 ?_
                                refine q_aload_n hF 1 rfl rfl dX8_readsLine_161 ?_
                                refine q_bipush hF (n := 59) rfl dX8_readsLine_162 ?_
                                refine q_callV (kc := 0) (ks := 0) (mc' := 0) (ms' := 0) (h' := 2) (st := []) hF vl_RX8_204 rfl [qI 59] rfl rfl hS.t0 (by omega) (Nat.le_of_ble_eq_true rfl) dX8_readsLine_164 ?_
                                refine mX8_sign0 hS hSA her81 (show -2147483648 ≤ s81.fl ∧ s81.fl < 2147483648 by first | decide | omega | assumption) ?_
                                refine q_return hF rfl dX8_readsLine_167 ?_
                                show Q (.inl none) sz T (q_ps I m s81) (q_row L (m + 4) t81) P
                                exact k1 w81 x81 _ _ (by rw [← hx2, g_lnB, if_neg c13_0_2, if_neg c30_0_3, if_neg c46_0_4, if_neg (fun h => h.2 c63_1_5), if_neg (fun h => h.2 c90_1_53), if_neg (fun h => c118_0_75 h.1), if_pos ⟨c142_0_76, c142_1_76⟩, e81, g_after_e]) hw81 hfl81 hfa81 hpn81
                        · exact absurd c121 (by decide)
                      · show qX G F Q 0 0 121 [(1, qI (q : Int)), (0, .ref m)] [qI 0] sz T (q_ps I m (g_mk q s.fl s.fa s.cd s.op s.on s.hp)) (q_row L (m + 4) t) P
                        refine q_ifeq hF (by decide) dX8_readsLine_121 (fun c121 => ?_) (fun c121 => ?_)
                        · refine q_aload_n hF 1 rfl rfl dX8_readsLine_138 ?_
                          refine q_ldcK hF (i := 43) (by decide) rfl rfl dX8_readsLine_139 ?_
                          refine q_iconst hF dX8_readsLine_141 ?_
                          refine q_callV (kc := 0) (ks := 0) (mc' := 0) (ms' := 0) (h' := 6) (st := []) hF vl_RX8_244 rfl [.ref (q_KS G 43), qI 3] rfl rfl hS.t0 (by omega) (Nat.le_of_ble_eq_true rfl) dX8_readsLine_142 ?_
                          refine mX8_isOnceP (i := 43) hS hSA hB (by decide) (show q ≤ n by omega) hfl hqq (fun (c142_0_84 : ¬ (g_isW B n 43 q)) => ?_) (fun (c142_0_84 : g_isW B n 43 q) (c142_1_84 : g_and (g_shr s.on 3) 1 = 1) => ?_) (fun (c142_0_84 : g_isW B n 43 q) (c142_1_84 : g_and (g_shr s.on 3) 1 ≠ 1) => ?_)
                          · show qX G F Q 0 0 145 [(1, qI (q : Int)), (0, .ref m)] [qI 0] sz T (q_ps I m (g_mk q s.fl s.fa s.cd s.op s.on s.hp)) (q_row L (m + 4) t) P
                            refine q_ifeq hF (by decide) dX8_readsLine_145 (fun c145 => ?_) (fun c145 => ?_)
                            · refine q_aload_n hF 1 rfl rfl dX8_readsLine_155 ?_
                              refine q_iconst hF dX8_readsLine_156 ?_
                              refine q_iload_n hF 0 rfl rfl dX8_readsLine_157 ?_
                              refine q_callV (kc := 0) (ks := 0) (mc' := 0) (ms' := 0) (h' := 0) (st := []) hF vl_RX8_106 rfl [qI 1, qI (q : Int)] rfl rfl hS.t0 (by omega) (Nat.le_of_ble_eq_true rfl) dX8_readsLine_158 ?_
                              refine mX8_wrongA hS hSA hfl ?_
                              show qX G F Q 0 0 161 [(1, qI (q : Int)), (0, .ref m)] [] sz T (q_ps I m (g_mk q 1 (q : Int) s.cd s.op s.on s.hp)) (q_row L (m + 4) t) P
                              refine q_aload_n hF 1 rfl rfl dX8_readsLine_161 ?_
                              refine q_bipush hF (n := 59) rfl dX8_readsLine_162 ?_
                              refine q_callV (kc := 0) (ks := 0) (mc' := 0) (ms' := 0) (h' := 2) (st := []) hF vl_RX8_204 rfl [qI 59] rfl rfl hS.t0 (by omega) (Nat.le_of_ble_eq_true rfl) dX8_readsLine_164 ?_
                              refine mX8_sign0 hS hSA (show (1 : Int) ≠ 0 by decide) (show -2147483648 ≤ 1 ∧ 1 < 2147483648 by first | decide | omega | assumption) ?_
                              refine q_return hF rfl dX8_readsLine_167 ?_
                              show Q (.inl none) sz T (q_ps I m (g_mk q 1 (q : Int) s.cd s.op s.on s.hp)) (q_row L (m + 4) t) P
                              exact k1 1 q _ _ (by rw [← hx2, g_lnB, if_neg c13_0_2, if_neg c30_0_3, if_neg c46_0_4, if_neg (fun h => h.2 c63_1_5), if_neg (fun h => h.2 c90_1_53), if_neg (fun h => h.2 c118_1_75), if_neg (fun h => c142_0_84 h.1), g_after_e]) (by decide) rfl rfl (show q ≤ n by omega)
                            · exact absurd c145 (by decide)
                          · show qX G F Q 0 0 145 [(1, qI (q : Int)), (0, .ref m)] [qI 0] sz T (q_ps I m (g_mk q s.fl s.fa s.cd s.op s.on s.hp)) (q_row L (m + 4) t) P
                            refine q_ifeq hF (by decide) dX8_readsLine_145 (fun c145 => ?_) (fun c145 => ?_)
                            · refine q_aload_n hF 1 rfl rfl dX8_readsLine_155 ?_
                              refine q_iconst hF dX8_readsLine_156 ?_
                              refine q_iload_n hF 0 rfl rfl dX8_readsLine_157 ?_
                              refine q_callV (kc := 0) (ks := 0) (mc' := 0) (ms' := 0) (h' := 0) (st := []) hF vl_RX8_106 rfl [qI 1, qI (q : Int)] rfl rfl hS.t0 (by omega) (Nat.le_of_ble_eq_true rfl) dX8_readsLine_158 ?_
                              refine mX8_wrongA hS hSA hfl ?_
                              show qX G F Q 0 0 161 [(1, qI (q : Int)), (0, .ref m)] [] sz T (q_ps I m (g_mk q 1 (q : Int) s.cd s.op s.on s.hp)) (q_row L (m + 4) t) P
                              refine q_aload_n hF 1 rfl rfl dX8_readsLine_161 ?_
                              refine q_bipush hF (n := 59) rfl dX8_readsLine_162 ?_
                              refine q_callV (kc := 0) (ks := 0) (mc' := 0) (ms' := 0) (h' := 2) (st := []) hF vl_RX8_204 rfl [qI 59] rfl rfl hS.t0 (by omega) (Nat.le_of_ble_eq_true rfl) dX8_readsLine_164 ?_
                              refine mX8_sign0 hS hSA (show (1 : Int) ≠ 0 by decide) (show -2147483648 ≤ 1 ∧ 1 < 2147483648 by first | decide | omega | assumption) ?_
                              refine q_return hF rfl dX8_readsLine_167 ?_
                              show Q (.inl none) sz T (q_ps I m (g_mk q 1 (q : Int) s.cd s.op s.on s.hp)) (q_row L (m + 4) t) P
                              exact k1 1 q _ _ (by rw [← hx2, g_lnB, if_neg c13_0_2, if_neg c30_0_3, if_neg c46_0_4, if_neg (fun h => h.2 c63_1_5), if_neg (fun h => h.2 c90_1_53), if_neg (fun h => h.2 c118_1_75), if_neg (fun h => h.2 c142_1_84), g_after_e]) (by decide) rfl rfl (show q ≤ n by omega)
                            · exact absurd c145 (by decide)
                          · show qX G F Q 0 0 145 [(1, qI (q : Int)), (0, .ref m)] [qI 1] sz T (q_ps I m (g_mk (g_len 43 + q) s.fl s.fa s.cd s.op (g_or s.on (g_shl 1 3)) s.hp)) (q_row L (m + 4) t) P
                            refine q_ifeq hF (by decide) dX8_readsLine_145 (fun c145 => ?_) (fun c145 => ?_)
                            · exact absurd c145 (by decide)
                            · have hwl := g_words_ok 43 (by decide)
                              have hwn := g_isW_n (g_words_ok 43 (by decide)) (fun k hk => by have := g_ch_r (i := 43) (by decide) hk; omega) c142_0_84
                              have hsr := g_sk_r (B := B) (n := n) (k := g_len 43 + q) (by omega)
                              refine q_aload_n hF 1 rfl rfl dX8_readsLine_148 ?_
                              refine q_callV (kc := 0) (ks := 0) (mc' := 0) (ms' := 0) (h' := 7) (st := []) hF vl_RX8_248 rfl [] rfl rfl hS.t0 (by omega) (Nat.le_of_ble_eq_true rfl) dX8_readsLine_149 ?_
                              refine mX8_readsOrderP hS hSA hB (show g_len 43 + q ≤ n by omega) hfl  rfl rfl (fun s89 t89 e89 => ?_) (fun w89 x89 s89 t89 e89 hw89 hfl89 hfa89 hpn89 => ?_)
                              · have iv89 := (fun hv hq he => g_rdO_iv (g_hB hB) 4 t _ [] _ (by decide) (by decide) hv hq (by decide) he) (show g_IV q n (g_mk (g_len 43 + q) s.fl s.fa s.cd s.op (g_or s.on (g_shl 1 3)) s.hp) t from ⟨⟨hfl, hfa⟩, (show g_len 43 + q ≤ n by omega), (show 2 * s.cd ≤ 3 * (g_len 43 + q) ∧ q ≤ g_len 43 + q by omega), ht⟩) ⟨(show g_len 43 + q ≤ g_sk B n (g_len 43 + q) from (g_sk_r (B := B) (show g_len 43 + q ≤ n by omega)).1), (g_sk_r (B := B) (show g_len 43 + q ≤ n by omega)).2⟩ e89
                                have hvf89 : s89.fl = 0 := iv89.1.1
                                have hvp89 : s89.p ≤ n := iv89.2.1
                                have hvs89 := g_sk_r (B := B) hvp89
                                refine q_goto hF dX8_readsLine_152 ?_
                                refine q_aload_n hF 1 rfl rfl dX8_readsLine_161 ?_
                                refine q_bipush hF (n := 59) rfl dX8_readsLine_162 ?_
                                refine q_callV (kc := 0) (ks := 0) (mc' := 0) (ms' := 0) (h' := 2) (st := []) hF vl_RX8_204 rfl [qI 59] rfl rfl hS.t0 (by omega) (Nat.le_of_ble_eq_true rfl) dX8_readsLine_164 ?_
                                refine mX8_signPQ hS hSA hB (by decide) (show s89.p ≤ n by omega) hvf89 rfl (fun (c164_0_90 : (g_bt B n (g_sk B n s89.p)) = 59) => ?_) (fun (c164_0_90 : (g_bt B n (g_sk B n s89.p)) ≠ 59) => ?_)
                                · show qX G F Q 0 0 167 [(1, qI (q : Int)), (0, .ref m)] [] sz T (q_ps I m (g_mk (1 + (g_sk B n s89.p)) s89.fl s89.fa s89.cd s89.op s89.on s89.hp)) (q_row L (m + 4) t89) P
                                  refine q_return hF rfl dX8_readsLine_167 ?_
                                  exact k0 _ _ (by rw [← hx2, g_lnB, if_neg c13_0_2, if_neg c30_0_3, if_neg c46_0_4, if_neg (fun h => h.2 c63_1_5), if_neg (fun h => h.2 c90_1_53), if_neg (fun h => h.2 c118_1_75), if_pos ⟨c142_0_84, c142_1_84⟩, e89, g_after_ok (by exact c164_0_90)])
                                · show qX G F Q 0 0 167 [(1, qI (q : Int)), (0, .ref m)] [] sz T (q_ps I m (g_mk (g_sk B n s89.p) 1 (g_sk B n s89.p : Int) s89.cd s89.op s89.on s89.hp)) (q_row L (m + 4) t89) P
                                  refine q_return hF rfl dX8_readsLine_167 ?_
                                  show Q (.inl none) sz T (q_ps I m (g_mk (g_sk B n s89.p) 1 (g_sk B n s89.p : Int) s89.cd s89.op s89.on s89.hp)) (q_row L (m + 4) t89) P
                                  exact k1 1 (g_sk B n s89.p) _ _ (by rw [← hx2, g_lnB, if_neg c13_0_2, if_neg c30_0_3, if_neg c46_0_4, if_neg (fun h => h.2 c63_1_5), if_neg (fun h => h.2 c90_1_53), if_neg (fun h => h.2 c118_1_75), if_pos ⟨c142_0_84, c142_1_84⟩, e89, g_after_er (by exact c164_0_90)]) (by decide) rfl rfl (show g_sk B n s89.p ≤ n by omega)
                              · have her89 : s89.fl ≠ 0 := by omega
                                have hrf89 : -2147483648 ≤ s89.fl ∧ s89.fl < 2147483648 := by omega
                                refine q_goto hF dX8_readsLine_152 ?_
                                refine q_aload_n hF 1 rfl rfl dX8_readsLine_161 ?_
                                refine q_bipush hF (n := 59) rfl dX8_readsLine_162 ?_
                                refine q_callV (kc := 0) (ks := 0) (mc' := 0) (ms' := 0) (h' := 2) (st := []) hF vl_RX8_204 rfl [qI 59] rfl rfl hS.t0 (by omega) (Nat.le_of_ble_eq_true rfl) dX8_readsLine_164 ?_
                                refine mX8_sign0 hS hSA her89 (show -2147483648 ≤ s89.fl ∧ s89.fl < 2147483648 by first | decide | omega | assumption) ?_
                                refine q_return hF rfl dX8_readsLine_167 ?_
                                show Q (.inl none) sz T (q_ps I m s89) (q_row L (m + 4) t89) P
                                exact k1 w89 x89 _ _ (by rw [← hx2, g_lnB, if_neg c13_0_2, if_neg c30_0_3, if_neg c46_0_4, if_neg (fun h => h.2 c63_1_5), if_neg (fun h => h.2 c90_1_53), if_neg (fun h => h.2 c118_1_75), if_pos ⟨c142_0_84, c142_1_84⟩, e89, g_after_e]) hw89 hfl89 hfa89 hpn89
                        · exact absurd c121 (by decide)
                      · show qX G F Q 0 0 121 [(1, qI (q : Int)), (0, .ref m)] [qI 1] sz T (q_ps I m (g_mk (g_len 34 + q) s.fl s.fa s.cd s.op (g_or s.on (g_shl 1 2)) s.hp)) (q_row L (m + 4) t) P
                        refine q_ifeq hF (by decide) dX8_readsLine_121 (fun c121 => ?_) (fun c121 => ?_)
                        · exact absurd c121 (by decide)
                        · have hwl := g_words_ok 34 (by decide)
                          have hwn := g_isW_n (g_words_ok 34 (by decide)) (fun k hk => by have := g_ch_r (i := 34) (by decide) hk; omega) c118_0_75
                          have hsr := g_sk_r (B := B) (n := n) (k := g_len 34 + q) (by omega)
                          have hnl := g_nl_r (B := B) (n := n) (q := (g_sk B n (g_len 34 + q))) hsr.2
                          have hsr2 := g_sk_r (B := B) (n := n) (k := g_nl B n (g_sk B n (g_len 34 + q)) + (g_sk B n (g_len 34 + q))) (by omega)
                          have hlf := g_lndF_r (B := B) (n := n) (t := t) (q := (g_sk B n (g_len 34 + q))) (c := g_nl B n (g_sk B n (g_len 34 + q))) 6 0
                          change -1 ≤ g_lnd B n t (g_sk B n (g_len 34 + q)) (g_nl B n (g_sk B n (g_len 34 + q))) ∧ (g_lnd B n t (g_sk B n (g_len 34 + q)) (g_nl B n (g_sk B n (g_len 34 + q))) = -1 ∨ g_lnd B n t (g_sk B n (g_len 34 + q)) (g_nl B n (g_sk B n (g_len 34 + q))) < t 0) at hlf
                          refine q_aload_n hF 1 rfl rfl dX8_readsLine_124 ?_
                          refine q_getA hF fl_RX8_24 rfl hS.t0 hS.p10 dX8_readsLine_125 ?_
                          refine q_iconst hF dX8_readsLine_128 ?_
                          refine q_aload_n hF 1 rfl rfl dX8_readsLine_129 ?_
                          refine q_callV (kc := 0) (ks := 0) (mc' := 0) (ms' := 0) (h' := 7) (st := [qI 5, .ref (m + 4)]) hF vl_RX8_223 rfl [] rfl rfl hS.t0 (by omega) (Nat.le_of_ble_eq_true rfl) dX8_readsLine_130 ?_
                          refine mX8_landHereP hS hSA hB (show (g_len 34 + q) ≤ n by omega) hfl ht rfl (fun (c130_0_92 : g_nm B n (g_sk B n (g_len 34 + q))) (c130_1_92 : g_lnd B n t (g_sk B n (g_len 34 + q)) (g_nl B n (g_sk B n (g_len 34 + q))) ≠ -1) => ?_) (fun (c130_0_92 : g_nm B n (g_sk B n (g_len 34 + q))) (c130_1_92 : g_lnd B n t (g_sk B n (g_len 34 + q)) (g_nl B n (g_sk B n (g_len 34 + q))) = -1) => ?_) (fun (c130_0_92 : ¬ (g_nm B n (g_sk B n (g_len 34 + q)))) => ?_)
                          · show qX G F Q 0 0 133 [(1, qI (q : Int)), (0, .ref m)] [qI (g_lnd B n t (g_sk B n (g_len 34 + q)) (g_nl B n (g_sk B n (g_len 34 + q)))), qI 5, .ref (m + 4)] sz T (q_ps I m (g_mk (g_nl B n (g_sk B n (g_len 34 + q)) + (g_sk B n (g_len 34 + q))) s.fl s.fa s.cd s.op (g_or s.on (g_shl 1 2)) s.hp)) (q_row L (m + 4) t) P
                            refine q_i2l hF (by omega) dX8_readsLine_133 ?_
                            refine q_lastorev hF (n := 1243) 5 hS.t4 (q_Ale hSA (by omega)) rfl (by decide) (by decide) dX8_readsLine_134 ?_
                            rw [q_row_u]
                            refine q_goto hF dX8_readsLine_135 ?_
                            refine q_aload_n hF 1 rfl rfl dX8_readsLine_161 ?_
                            refine q_bipush hF (n := 59) rfl dX8_readsLine_162 ?_
                            refine q_callV (kc := 0) (ks := 0) (mc' := 0) (ms' := 0) (h' := 2) (st := []) hF vl_RX8_204 rfl [qI 59] rfl rfl hS.t0 (by omega) (Nat.le_of_ble_eq_true rfl) dX8_readsLine_164 ?_
                            refine mX8_signPQ hS hSA hB (by decide) (show (g_nl B n (g_sk B n (g_len 34 + q)) + (g_sk B n (g_len 34 + q))) ≤ n by omega) hfl rfl (fun (c164_0_93 : (g_bt B n (g_sk B n (g_nl B n (g_sk B n (g_len 34 + q)) + (g_sk B n (g_len 34 + q))))) = 59) => ?_) (fun (c164_0_93 : (g_bt B n (g_sk B n (g_nl B n (g_sk B n (g_len 34 + q)) + (g_sk B n (g_len 34 + q))))) ≠ 59) => ?_)
                            · show qX G F Q 0 0 167 [(1, qI (q : Int)), (0, .ref m)] [] sz T (q_ps I m (g_mk (1 + (g_sk B n (g_nl B n (g_sk B n (g_len 34 + q)) + (g_sk B n (g_len 34 + q))))) s.fl s.fa s.cd s.op (g_or s.on (g_shl 1 2)) s.hp)) (q_row L (m + 4) (g_up t 5 (g_lnd B n t (g_sk B n (g_len 34 + q)) (g_nl B n (g_sk B n (g_len 34 + q)))))) P
                              refine q_return hF rfl dX8_readsLine_167 ?_
                              exact k0 _ _ (by rw [← hx2, g_lnB, if_neg c13_0_2, if_neg c30_0_3, if_neg c46_0_4, if_neg (fun h => h.2 c63_1_5), if_neg (fun h => h.2 c90_1_53), if_pos ⟨c118_0_75, c118_1_75⟩, if_pos c130_0_92, if_neg c130_1_92, g_after_ok (by exact c164_0_93)])
                            · show qX G F Q 0 0 167 [(1, qI (q : Int)), (0, .ref m)] [] sz T (q_ps I m (g_mk (g_sk B n (g_nl B n (g_sk B n (g_len 34 + q)) + (g_sk B n (g_len 34 + q)))) 1 ((g_sk B n (g_nl B n (g_sk B n (g_len 34 + q)) + (g_sk B n (g_len 34 + q))) : Nat) : Int) s.cd s.op (g_or s.on (g_shl 1 2)) s.hp)) (q_row L (m + 4) (g_up t 5 (g_lnd B n t (g_sk B n (g_len 34 + q)) (g_nl B n (g_sk B n (g_len 34 + q)))))) P
                              refine q_return hF rfl dX8_readsLine_167 ?_
                              show Q (.inl none) sz T (q_ps I m (g_mk (g_sk B n (g_nl B n (g_sk B n (g_len 34 + q)) + (g_sk B n (g_len 34 + q)))) 1 ((g_sk B n (g_nl B n (g_sk B n (g_len 34 + q)) + (g_sk B n (g_len 34 + q))) : Nat) : Int) s.cd s.op (g_or s.on (g_shl 1 2)) s.hp)) (q_row L (m + 4) (g_up t 5 (g_lnd B n t (g_sk B n (g_len 34 + q)) (g_nl B n (g_sk B n (g_len 34 + q)))))) P
                              exact k1 1 (g_sk B n (g_nl B n (g_sk B n (g_len 34 + q)) + (g_sk B n (g_len 34 + q)))) _ _ (by rw [← hx2, g_lnB, if_neg c13_0_2, if_neg c30_0_3, if_neg c46_0_4, if_neg (fun h => h.2 c63_1_5), if_neg (fun h => h.2 c90_1_53), if_pos ⟨c118_0_75, c118_1_75⟩, if_pos c130_0_92, if_neg c130_1_92, g_after_er (by exact c164_0_93)]) (by decide) rfl rfl (show g_sk B n (g_nl B n (g_sk B n (g_len 34 + q)) + (g_sk B n (g_len 34 + q))) ≤ n by omega)
                          · show qX G F Q 0 0 133 [(1, qI (q : Int)), (0, .ref m)] [qI (-1), qI 5, .ref (m + 4)] sz T (q_ps I m (g_mk (g_nl B n (g_sk B n (g_len 34 + q)) + (g_sk B n (g_len 34 + q))) 3 ((g_sk B n (g_len 34 + q) : Nat) : Int) s.cd s.op (g_or s.on (g_shl 1 2)) s.hp)) (q_row L (m + 4) t) P
                            refine q_i2l hF (by decide) dX8_readsLine_133 ?_
                            refine q_lastorev hF (n := 1243) 5 hS.t4 (q_Ale hSA (by omega)) rfl (by decide) (by decide) dX8_readsLine_134 ?_
                            rw [q_row_u]
                            refine q_goto hF dX8_readsLine_135 ?_
                            refine q_aload_n hF 1 rfl rfl dX8_readsLine_161 ?_
                            refine q_bipush hF (n := 59) rfl dX8_readsLine_162 ?_
                            refine q_callV (kc := 0) (ks := 0) (mc' := 0) (ms' := 0) (h' := 2) (st := []) hF vl_RX8_204 rfl [qI 59] rfl rfl hS.t0 (by omega) (Nat.le_of_ble_eq_true rfl) dX8_readsLine_164 ?_
                            refine mX8_sign0 hS hSA (show (3 : Int) ≠ 0 by decide) (show -2147483648 ≤ 3 ∧ 3 < 2147483648 by first | decide | omega | assumption) ?_
                            refine q_return hF rfl dX8_readsLine_167 ?_
                            show Q (.inl none) sz T (q_ps I m (g_mk (g_nl B n (g_sk B n (g_len 34 + q)) + (g_sk B n (g_len 34 + q))) 3 ((g_sk B n (g_len 34 + q) : Nat) : Int) s.cd s.op (g_or s.on (g_shl 1 2)) s.hp)) (q_row L (m + 4) (g_up t 5 (-1))) P
                            exact k1 3 (g_sk B n (g_len 34 + q)) _ _ (by rw [← hx2, g_lnB, if_neg c13_0_2, if_neg c30_0_3, if_neg c46_0_4, if_neg (fun h => h.2 c63_1_5), if_neg (fun h => h.2 c90_1_53), if_pos ⟨c118_0_75, c118_1_75⟩, if_pos c130_0_92, if_pos c130_1_92, g_after_e]) (by decide) rfl rfl (show g_nl B n (g_sk B n (g_len 34 + q)) + (g_sk B n (g_len 34 + q)) ≤ n by omega)
                          · show qX G F Q 0 0 133 [(1, qI (q : Int)), (0, .ref m)] [qI (-1), qI 5, .ref (m + 4)] sz T (q_ps I m (g_mk (g_sk B n (g_len 34 + q)) 1 ((g_sk B n (g_len 34 + q) : Nat) : Int) s.cd s.op (g_or s.on (g_shl 1 2)) s.hp)) (q_row L (m + 4) t) P
                            refine q_i2l hF (by decide) dX8_readsLine_133 ?_
                            refine q_lastorev hF (n := 1243) 5 hS.t4 (q_Ale hSA (by omega)) rfl (by decide) (by decide) dX8_readsLine_134 ?_
                            rw [q_row_u]
                            refine q_goto hF dX8_readsLine_135 ?_
                            refine q_aload_n hF 1 rfl rfl dX8_readsLine_161 ?_
                            refine q_bipush hF (n := 59) rfl dX8_readsLine_162 ?_
                            refine q_callV (kc := 0) (ks := 0) (mc' := 0) (ms' := 0) (h' := 2) (st := []) hF vl_RX8_204 rfl [qI 59] rfl rfl hS.t0 (by omega) (Nat.le_of_ble_eq_true rfl) dX8_readsLine_164 ?_
                            refine mX8_sign0 hS hSA (show (1 : Int) ≠ 0 by decide) (show -2147483648 ≤ 1 ∧ 1 < 2147483648 by first | decide | omega | assumption) ?_
                            refine q_return hF rfl dX8_readsLine_167 ?_
                            show Q (.inl none) sz T (q_ps I m (g_mk (g_sk B n (g_len 34 + q)) 1 ((g_sk B n (g_len 34 + q) : Nat) : Int) s.cd s.op (g_or s.on (g_shl 1 2)) s.hp)) (q_row L (m + 4) (g_up t 5 (-1))) P
                            exact k1 1 (g_sk B n (g_len 34 + q)) _ _ (by rw [← hx2, g_lnB, if_neg c13_0_2, if_neg c30_0_3, if_neg c46_0_4, if_neg (fun h => h.2 c63_1_5), if_neg (fun h => h.2 c90_1_53), if_pos ⟨c118_0_75, c118_1_75⟩, if_neg c130_0_92, g_after_e]) (by decide) rfl rfl (show g_sk B n (g_len 34 + q) ≤ n by omega)
                    · exact absurd c93 (by decide)
                  · show qX G F Q 0 0 93 [(1, qI (q : Int)), (0, .ref m)] [qI 1] sz T (q_ps I m (g_mk (g_len 42 + q) s.fl s.fa s.cd s.op (g_or s.on (g_shl 1 1)) s.hp)) (q_row L (m + 4) t) P
                    refine q_ifeq hF (by decide) dX8_readsLine_93 (fun c93 => ?_) (fun c93 => ?_)
                    · exact absurd c93 (by decide)
                    · have hwl := g_words_ok 42 (by decide)
                      have hwn := g_isW_n (g_words_ok 42 (by decide)) (fun k hk => by have := g_ch_r (i := 42) (by decide) hk; omega) c90_0_53
                      have hsr := g_sk_r (B := B) (n := n) (k := g_len 42 + q) (by omega)
                      have hnd := g_nd_r (B := B) (n := n) (k := g_sk B n (g_len 42 + q)) (by omega)
                      have hsr2 := g_sk_r (B := B) (n := n) (k := g_nd B n (g_sk B n (g_len 42 + q))) (by omega)
                      have hnv := g_nv_r (B := B) (n := n) _ (g_sk B n (g_len 42 + q)) 0 (Nat.lt_succ_self _) (by decide) (by decide)
                      refine q_aload_n hF 1 rfl rfl dX8_readsLine_96 ?_
                      refine q_getA hF fl_RX8_24 rfl hS.t0 hS.p10 dX8_readsLine_97 ?_
                      refine q_iconst hF dX8_readsLine_100 ?_
                      refine q_aload_n hF 1 rfl rfl dX8_readsLine_101 ?_
                      refine q_iconst hF dX8_readsLine_102 ?_
                      refine q_sipush hF (n := 999) rfl dX8_readsLine_103 ?_
                      refine q_callV (kc := 0) (ks := 0) (mc' := 0) (ms' := 0) (h' := 2) (st := [qI 4, .ref (m + 4)]) hF vl_RX8_187 rfl [qI 0, qI 999] rfl rfl hS.t0 (by omega) (Nat.le_of_ble_eq_true rfl) dX8_readsLine_106 ?_
                      refine mX8_numberPQ hS hSA hB (by first | decide | omega) (by first | decide | omega) (show (g_len 42 + q) ≤ n by omega) hfl rfl (fun (c106_0_96 : ¬ (48 ≤ (g_bt B n (g_sk B n (g_len 42 + q))) ∧ (g_bt B n (g_sk B n (g_len 42 + q))) ≤ 57)) => ?_) (fun (c106_0_96 : 48 ≤ (g_bt B n (g_sk B n (g_len 42 + q))) ∧ (g_bt B n (g_sk B n (g_len 42 + q))) ≤ 57) (c106_1_96 : 0 ≤ g_nv B n (g_sk B n (g_len 42 + q)) 0 ∧ g_nv B n (g_sk B n (g_len 42 + q)) 0 ≤ 999) => ?_) (fun (c106_0_96 : 48 ≤ (g_bt B n (g_sk B n (g_len 42 + q))) ∧ (g_bt B n (g_sk B n (g_len 42 + q))) ≤ 57) (c106_1_96 : ¬ (0 ≤ g_nv B n (g_sk B n (g_len 42 + q)) 0 ∧ g_nv B n (g_sk B n (g_len 42 + q)) 0 ≤ 999)) => ?_)
                      · show qX G F Q 0 0 109 [(1, qI (q : Int)), (0, .ref m)] [qI 0, qI 4, .ref (m + 4)] sz T (q_ps I m (g_mk (g_sk B n (g_len 42 + q)) 1 ((g_sk B n (g_len 42 + q) : Nat) : Int) s.cd s.op (g_or s.on (g_shl 1 1)) s.hp)) (q_row L (m + 4) t) P
                        refine q_i2l hF (by decide) dX8_readsLine_109 ?_
                        refine q_lastorev hF (n := 1243) 4 hS.t4 (q_Ale hSA (by omega)) rfl (by decide) (by decide) dX8_readsLine_110 ?_
                        rw [q_row_u]
                        refine q_goto hF dX8_readsLine_111 ?_
                        refine q_aload_n hF 1 rfl rfl dX8_readsLine_161 ?_
                        refine q_bipush hF (n := 59) rfl dX8_readsLine_162 ?_
                        refine q_callV (kc := 0) (ks := 0) (mc' := 0) (ms' := 0) (h' := 2) (st := []) hF vl_RX8_204 rfl [qI 59] rfl rfl hS.t0 (by omega) (Nat.le_of_ble_eq_true rfl) dX8_readsLine_164 ?_
                        refine mX8_sign0 hS hSA (show (1 : Int) ≠ 0 by decide) (show -2147483648 ≤ 1 ∧ 1 < 2147483648 by first | decide | omega | assumption) ?_
                        refine q_return hF rfl dX8_readsLine_167 ?_
                        show Q (.inl none) sz T (q_ps I m (g_mk (g_sk B n (g_len 42 + q)) 1 ((g_sk B n (g_len 42 + q) : Nat) : Int) s.cd s.op (g_or s.on (g_shl 1 1)) s.hp)) (q_row L (m + 4) (g_up t 4 0)) P
                        exact k1 1 (g_sk B n (g_len 42 + q)) _ _ (by rw [← hx2, g_lnB, if_neg c13_0_2, if_neg c30_0_3, if_neg c46_0_4, if_neg (fun h => h.2 c63_1_5), if_pos ⟨c90_0_53, c90_1_53⟩, g_nu, if_neg c106_0_96, g_after_e]) (by decide) rfl rfl (show g_sk B n (g_len 42 + q) ≤ n by omega)
                      · show qX G F Q 0 0 109 [(1, qI (q : Int)), (0, .ref m)] [qI (g_nv B n (g_sk B n (g_len 42 + q)) 0), qI 4, .ref (m + 4)] sz T (q_ps I m (g_mk (g_nd B n (g_sk B n (g_len 42 + q))) s.fl s.fa s.cd s.op (g_or s.on (g_shl 1 1)) s.hp)) (q_row L (m + 4) t) P
                        refine q_i2l hF (by omega) dX8_readsLine_109 ?_
                        refine q_lastorev hF (n := 1243) 4 hS.t4 (q_Ale hSA (by omega)) rfl (by decide) (by decide) dX8_readsLine_110 ?_
                        rw [q_row_u]
                        refine q_goto hF dX8_readsLine_111 ?_
                        refine q_aload_n hF 1 rfl rfl dX8_readsLine_161 ?_
                        refine q_bipush hF (n := 59) rfl dX8_readsLine_162 ?_
                        refine q_callV (kc := 0) (ks := 0) (mc' := 0) (ms' := 0) (h' := 2) (st := []) hF vl_RX8_204 rfl [qI 59] rfl rfl hS.t0 (by omega) (Nat.le_of_ble_eq_true rfl) dX8_readsLine_164 ?_
                        refine mX8_signPQ hS hSA hB (by decide) (show (g_nd B n (g_sk B n (g_len 42 + q))) ≤ n by omega) hfl rfl (fun (c164_0_98 : (g_bt B n (g_sk B n (g_nd B n (g_sk B n (g_len 42 + q))))) = 59) => ?_) (fun (c164_0_98 : (g_bt B n (g_sk B n (g_nd B n (g_sk B n (g_len 42 + q))))) ≠ 59) => ?_)
                        · show qX G F Q 0 0 167 [(1, qI (q : Int)), (0, .ref m)] [] sz T (q_ps I m (g_mk (1 + (g_sk B n (g_nd B n (g_sk B n (g_len 42 + q))))) s.fl s.fa s.cd s.op (g_or s.on (g_shl 1 1)) s.hp)) (q_row L (m + 4) (g_up t 4 (g_nv B n (g_sk B n (g_len 42 + q)) 0))) P
                          refine q_return hF rfl dX8_readsLine_167 ?_
                          exact k0 _ _ (by rw [← hx2, g_lnB, if_neg c13_0_2, if_neg c30_0_3, if_neg c46_0_4, if_neg (fun h => h.2 c63_1_5), if_pos ⟨c90_0_53, c90_1_53⟩, g_nu, if_pos c106_0_96, if_pos c106_1_96, g_after_ok (by exact c164_0_98)])
                        · show qX G F Q 0 0 167 [(1, qI (q : Int)), (0, .ref m)] [] sz T (q_ps I m (g_mk (g_sk B n (g_nd B n (g_sk B n (g_len 42 + q)))) 1 ((g_sk B n (g_nd B n (g_sk B n (g_len 42 + q))) : Nat) : Int) s.cd s.op (g_or s.on (g_shl 1 1)) s.hp)) (q_row L (m + 4) (g_up t 4 (g_nv B n (g_sk B n (g_len 42 + q)) 0))) P
                          refine q_return hF rfl dX8_readsLine_167 ?_
                          show Q (.inl none) sz T (q_ps I m (g_mk (g_sk B n (g_nd B n (g_sk B n (g_len 42 + q)))) 1 ((g_sk B n (g_nd B n (g_sk B n (g_len 42 + q))) : Nat) : Int) s.cd s.op (g_or s.on (g_shl 1 1)) s.hp)) (q_row L (m + 4) (g_up t 4 (g_nv B n (g_sk B n (g_len 42 + q)) 0))) P
                          exact k1 1 (g_sk B n (g_nd B n (g_sk B n (g_len 42 + q)))) _ _ (by rw [← hx2, g_lnB, if_neg c13_0_2, if_neg c30_0_3, if_neg c46_0_4, if_neg (fun h => h.2 c63_1_5), if_pos ⟨c90_0_53, c90_1_53⟩, g_nu, if_pos c106_0_96, if_pos c106_1_96, g_after_er (by exact c164_0_98)]) (by decide) rfl rfl (show g_sk B n (g_nd B n (g_sk B n (g_len 42 + q))) ≤ n by omega)
                      · show qX G F Q 0 0 109 [(1, qI (q : Int)), (0, .ref m)] [qI (g_nv B n (g_sk B n (g_len 42 + q)) 0), qI 4, .ref (m + 4)] sz T (q_ps I m (g_mk (g_nd B n (g_sk B n (g_len 42 + q))) 2 ((g_sk B n (g_len 42 + q) : Nat) : Int) s.cd s.op (g_or s.on (g_shl 1 1)) s.hp)) (q_row L (m + 4) t) P
                        refine q_i2l hF (by omega) dX8_readsLine_109 ?_
                        refine q_lastorev hF (n := 1243) 4 hS.t4 (q_Ale hSA (by omega)) rfl (by decide) (by decide) dX8_readsLine_110 ?_
                        rw [q_row_u]
                        refine q_goto hF dX8_readsLine_111 ?_
                        refine q_aload_n hF 1 rfl rfl dX8_readsLine_161 ?_
                        refine q_bipush hF (n := 59) rfl dX8_readsLine_162 ?_
                        refine q_callV (kc := 0) (ks := 0) (mc' := 0) (ms' := 0) (h' := 2) (st := []) hF vl_RX8_204 rfl [qI 59] rfl rfl hS.t0 (by omega) (Nat.le_of_ble_eq_true rfl) dX8_readsLine_164 ?_
                        refine mX8_sign0 hS hSA (show (2 : Int) ≠ 0 by decide) (show -2147483648 ≤ 2 ∧ 2 < 2147483648 by first | decide | omega | assumption) ?_
                        refine q_return hF rfl dX8_readsLine_167 ?_
                        show Q (.inl none) sz T (q_ps I m (g_mk (g_nd B n (g_sk B n (g_len 42 + q))) 2 ((g_sk B n (g_len 42 + q) : Nat) : Int) s.cd s.op (g_or s.on (g_shl 1 1)) s.hp)) (q_row L (m + 4) (g_up t 4 (g_nv B n (g_sk B n (g_len 42 + q)) 0))) P
                        exact k1 2 (g_sk B n (g_len 42 + q)) _ _ (by rw [← hx2, g_lnB, if_neg c13_0_2, if_neg c30_0_3, if_neg c46_0_4, if_neg (fun h => h.2 c63_1_5), if_pos ⟨c90_0_53, c90_1_53⟩, g_nu, if_pos c106_0_96, if_neg c106_1_96, g_after_e]) (by decide) rfl rfl (show g_nd B n (g_sk B n (g_len 42 + q)) ≤ n by omega)
                · exact absurd c66 (by decide)
              · show qX G F Q 0 0 66 [(1, qI (q : Int)), (0, .ref m)] [qI 1] sz T (q_ps I m (g_mk (g_len 41 + q) s.fl s.fa s.cd s.op (g_or s.on (g_shl 1 0)) s.hp)) (q_row L (m + 4) t) P
                refine q_ifeq hF (by decide) dX8_readsLine_66 (fun c66 => ?_) (fun c66 => ?_)
                · exact absurd c66 (by decide)
                · have hwl := g_words_ok 41 (by decide)
                  have hwn := g_isW_n (g_words_ok 41 (by decide)) (fun k hk => by have := g_ch_r (i := 41) (by decide) hk; omega) c63_0_5
                  have hsr := g_sk_r (B := B) (n := n) (k := g_len 41 + q) (by omega)
                  have hnd := g_nd_r (B := B) (n := n) (k := g_sk B n (g_len 41 + q)) (by omega)
                  have hsr2 := g_sk_r (B := B) (n := n) (k := g_nd B n (g_sk B n (g_len 41 + q))) (by omega)
                  have hnv := g_nv_r (B := B) (n := n) _ (g_sk B n (g_len 41 + q)) 0 (Nat.lt_succ_self _) (by decide) (by decide)
                  refine q_aload_n hF 1 rfl rfl dX8_readsLine_69 ?_
                  refine q_getA hF fl_RX8_24 rfl hS.t0 hS.p10 dX8_readsLine_70 ?_
                  refine q_iconst hF dX8_readsLine_73 ?_
                  refine q_aload_n hF 1 rfl rfl dX8_readsLine_74 ?_
                  refine q_iconst hF dX8_readsLine_75 ?_
                  refine q_bipush hF (n := 60) rfl dX8_readsLine_76 ?_
                  refine q_callV (kc := 0) (ks := 0) (mc' := 0) (ms' := 0) (h' := 2) (st := [qI 3, .ref (m + 4)]) hF vl_RX8_187 rfl [qI 0, qI 60] rfl rfl hS.t0 (by omega) (Nat.le_of_ble_eq_true rfl) dX8_readsLine_78 ?_
                  refine mX8_numberPQ hS hSA hB (by first | decide | omega) (by first | decide | omega) (show (g_len 41 + q) ≤ n by omega) hfl rfl (fun (c78_0_100 : ¬ (48 ≤ (g_bt B n (g_sk B n (g_len 41 + q))) ∧ (g_bt B n (g_sk B n (g_len 41 + q))) ≤ 57)) => ?_) (fun (c78_0_100 : 48 ≤ (g_bt B n (g_sk B n (g_len 41 + q))) ∧ (g_bt B n (g_sk B n (g_len 41 + q))) ≤ 57) (c78_1_100 : 0 ≤ g_nv B n (g_sk B n (g_len 41 + q)) 0 ∧ g_nv B n (g_sk B n (g_len 41 + q)) 0 ≤ 60) => ?_) (fun (c78_0_100 : 48 ≤ (g_bt B n (g_sk B n (g_len 41 + q))) ∧ (g_bt B n (g_sk B n (g_len 41 + q))) ≤ 57) (c78_1_100 : ¬ (0 ≤ g_nv B n (g_sk B n (g_len 41 + q)) 0 ∧ g_nv B n (g_sk B n (g_len 41 + q)) 0 ≤ 60)) => ?_)
                  · show qX G F Q 0 0 81 [(1, qI (q : Int)), (0, .ref m)] [qI 0, qI 3, .ref (m + 4)] sz T (q_ps I m (g_mk (g_sk B n (g_len 41 + q)) 1 ((g_sk B n (g_len 41 + q) : Nat) : Int) s.cd s.op (g_or s.on (g_shl 1 0)) s.hp)) (q_row L (m + 4) t) P
                    refine q_i2l hF (by decide) dX8_readsLine_81 ?_
                    refine q_lastorev hF (n := 1243) 3 hS.t4 (q_Ale hSA (by omega)) rfl (by decide) (by decide) dX8_readsLine_82 ?_
                    rw [q_row_u]
                    refine q_goto hF dX8_readsLine_83 ?_
                    refine q_aload_n hF 1 rfl rfl dX8_readsLine_161 ?_
                    refine q_bipush hF (n := 59) rfl dX8_readsLine_162 ?_
                    refine q_callV (kc := 0) (ks := 0) (mc' := 0) (ms' := 0) (h' := 2) (st := []) hF vl_RX8_204 rfl [qI 59] rfl rfl hS.t0 (by omega) (Nat.le_of_ble_eq_true rfl) dX8_readsLine_164 ?_
                    refine mX8_sign0 hS hSA (show (1 : Int) ≠ 0 by decide) (show -2147483648 ≤ 1 ∧ 1 < 2147483648 by first | decide | omega | assumption) ?_
                    refine q_return hF rfl dX8_readsLine_167 ?_
                    show Q (.inl none) sz T (q_ps I m (g_mk (g_sk B n (g_len 41 + q)) 1 ((g_sk B n (g_len 41 + q) : Nat) : Int) s.cd s.op (g_or s.on (g_shl 1 0)) s.hp)) (q_row L (m + 4) (g_up t 3 0)) P
                    exact k1 1 (g_sk B n (g_len 41 + q)) _ _ (by rw [← hx2, g_lnB, if_neg c13_0_2, if_neg c30_0_3, if_neg c46_0_4, if_pos ⟨c63_0_5, c63_1_5⟩, g_nu, if_neg c78_0_100, g_after_e]) (by decide) rfl rfl (show g_sk B n (g_len 41 + q) ≤ n by omega)
                  · show qX G F Q 0 0 81 [(1, qI (q : Int)), (0, .ref m)] [qI (g_nv B n (g_sk B n (g_len 41 + q)) 0), qI 3, .ref (m + 4)] sz T (q_ps I m (g_mk (g_nd B n (g_sk B n (g_len 41 + q))) s.fl s.fa s.cd s.op (g_or s.on (g_shl 1 0)) s.hp)) (q_row L (m + 4) t) P
                    refine q_i2l hF (by omega) dX8_readsLine_81 ?_
                    refine q_lastorev hF (n := 1243) 3 hS.t4 (q_Ale hSA (by omega)) rfl (by decide) (by decide) dX8_readsLine_82 ?_
                    rw [q_row_u]
                    refine q_goto hF dX8_readsLine_83 ?_
                    refine q_aload_n hF 1 rfl rfl dX8_readsLine_161 ?_
                    refine q_bipush hF (n := 59) rfl dX8_readsLine_162 ?_
                    refine q_callV (kc := 0) (ks := 0) (mc' := 0) (ms' := 0) (h' := 2) (st := []) hF vl_RX8_204 rfl [qI 59] rfl rfl hS.t0 (by omega) (Nat.le_of_ble_eq_true rfl) dX8_readsLine_164 ?_
                    refine mX8_signPQ hS hSA hB (by decide) (show (g_nd B n (g_sk B n (g_len 41 + q))) ≤ n by omega) hfl rfl (fun (c164_0_102 : (g_bt B n (g_sk B n (g_nd B n (g_sk B n (g_len 41 + q))))) = 59) => ?_) (fun (c164_0_102 : (g_bt B n (g_sk B n (g_nd B n (g_sk B n (g_len 41 + q))))) ≠ 59) => ?_)
                    · show qX G F Q 0 0 167 [(1, qI (q : Int)), (0, .ref m)] [] sz T (q_ps I m (g_mk (1 + (g_sk B n (g_nd B n (g_sk B n (g_len 41 + q))))) s.fl s.fa s.cd s.op (g_or s.on (g_shl 1 0)) s.hp)) (q_row L (m + 4) (g_up t 3 (g_nv B n (g_sk B n (g_len 41 + q)) 0))) P
                      refine q_return hF rfl dX8_readsLine_167 ?_
                      exact k0 _ _ (by rw [← hx2, g_lnB, if_neg c13_0_2, if_neg c30_0_3, if_neg c46_0_4, if_pos ⟨c63_0_5, c63_1_5⟩, g_nu, if_pos c78_0_100, if_pos c78_1_100, g_after_ok (by exact c164_0_102)])
                    · show qX G F Q 0 0 167 [(1, qI (q : Int)), (0, .ref m)] [] sz T (q_ps I m (g_mk (g_sk B n (g_nd B n (g_sk B n (g_len 41 + q)))) 1 ((g_sk B n (g_nd B n (g_sk B n (g_len 41 + q))) : Nat) : Int) s.cd s.op (g_or s.on (g_shl 1 0)) s.hp)) (q_row L (m + 4) (g_up t 3 (g_nv B n (g_sk B n (g_len 41 + q)) 0))) P
                      refine q_return hF rfl dX8_readsLine_167 ?_
                      show Q (.inl none) sz T (q_ps I m (g_mk (g_sk B n (g_nd B n (g_sk B n (g_len 41 + q)))) 1 ((g_sk B n (g_nd B n (g_sk B n (g_len 41 + q))) : Nat) : Int) s.cd s.op (g_or s.on (g_shl 1 0)) s.hp)) (q_row L (m + 4) (g_up t 3 (g_nv B n (g_sk B n (g_len 41 + q)) 0))) P
                      exact k1 1 (g_sk B n (g_nd B n (g_sk B n (g_len 41 + q)))) _ _ (by rw [← hx2, g_lnB, if_neg c13_0_2, if_neg c30_0_3, if_neg c46_0_4, if_pos ⟨c63_0_5, c63_1_5⟩, g_nu, if_pos c78_0_100, if_pos c78_1_100, g_after_er (by exact c164_0_102)]) (by decide) rfl rfl (show g_sk B n (g_nd B n (g_sk B n (g_len 41 + q))) ≤ n by omega)
                  · show qX G F Q 0 0 81 [(1, qI (q : Int)), (0, .ref m)] [qI (g_nv B n (g_sk B n (g_len 41 + q)) 0), qI 3, .ref (m + 4)] sz T (q_ps I m (g_mk (g_nd B n (g_sk B n (g_len 41 + q))) 2 ((g_sk B n (g_len 41 + q) : Nat) : Int) s.cd s.op (g_or s.on (g_shl 1 0)) s.hp)) (q_row L (m + 4) t) P
                    refine q_i2l hF (by omega) dX8_readsLine_81 ?_
                    refine q_lastorev hF (n := 1243) 3 hS.t4 (q_Ale hSA (by omega)) rfl (by decide) (by decide) dX8_readsLine_82 ?_
                    rw [q_row_u]
                    refine q_goto hF dX8_readsLine_83 ?_
                    refine q_aload_n hF 1 rfl rfl dX8_readsLine_161 ?_
                    refine q_bipush hF (n := 59) rfl dX8_readsLine_162 ?_
                    refine q_callV (kc := 0) (ks := 0) (mc' := 0) (ms' := 0) (h' := 2) (st := []) hF vl_RX8_204 rfl [qI 59] rfl rfl hS.t0 (by omega) (Nat.le_of_ble_eq_true rfl) dX8_readsLine_164 ?_
                    refine mX8_sign0 hS hSA (show (2 : Int) ≠ 0 by decide) (show -2147483648 ≤ 2 ∧ 2 < 2147483648 by first | decide | omega | assumption) ?_
                    refine q_return hF rfl dX8_readsLine_167 ?_
                    show Q (.inl none) sz T (q_ps I m (g_mk (g_nd B n (g_sk B n (g_len 41 + q))) 2 ((g_sk B n (g_len 41 + q) : Nat) : Int) s.cd s.op (g_or s.on (g_shl 1 0)) s.hp)) (q_row L (m + 4) (g_up t 3 (g_nv B n (g_sk B n (g_len 41 + q)) 0))) P
                    exact k1 2 (g_sk B n (g_len 41 + q)) _ _ (by rw [← hx2, g_lnB, if_neg c13_0_2, if_neg c30_0_3, if_neg c46_0_4, if_pos ⟨c63_0_5, c63_1_5⟩, g_nu, if_pos c78_0_100, if_neg c78_1_100, g_after_e]) (by decide) rfl rfl (show g_nd B n (g_sk B n (g_len 41 + q)) ≤ n by omega)
            · exact absurd c49 (by decide)
          · show qX G F Q 0 0 49 [(1, qI (q : Int)), (0, .ref m)] [qI 1] sz T (q_ps I m (g_mk (g_len 40 + q) s.fl s.fa s.cd s.op s.on s.hp)) (q_row L (m + 4) t) P
            refine q_ifeq hF (by decide) dX8_readsLine_49 (fun c49 => ?_) (fun c49 => ?_)
            · exact absurd c49 (by decide)
            · have hwl := g_words_ok 40 (by decide)
              have hwn := g_isW_n (g_words_ok 40 (by decide)) (fun k hk => by have := g_ch_r (i := 40) (by decide) hk; omega) c46_0_4
              have hsr := g_sk_r (B := B) (n := n) (k := g_len 40 + q) (by omega)
              refine q_aload_n hF 1 rfl rfl dX8_readsLine_52 ?_
              refine q_callV (kc := 0) (ks := 0) (mc' := 0) (ms' := 0) (h' := 7) (st := []) hF vl_RX8_241 rfl [] rfl rfl hS.t0 (by omega) (Nat.le_of_ble_eq_true rfl) dX8_readsLine_53 ?_
              refine mX8_readsPaysP hS hSA hB (show g_len 40 + q ≤ n by omega) hfl  rfl rfl (fun s104 t104 e104 => ?_) (fun w104 x104 s104 t104 e104 hw104 hfl104 hfa104 hpn104 => ?_)
              · have iv104 := g_rdPays_iv (g_hB hB) (show g_IV q n (g_mk (g_len 40 + q) s.fl s.fa s.cd s.op s.on s.hp) t from ⟨⟨hfl, hfa⟩, (show g_len 40 + q ≤ n by omega), (show 2 * s.cd ≤ 3 * (g_len 40 + q) ∧ q ≤ g_len 40 + q by omega), ht⟩) ⟨(show g_len 40 + q ≤ g_sk B n (g_len 40 + q) from (g_sk_r (B := B) (show g_len 40 + q ≤ n by omega)).1), (g_sk_r (B := B) (show g_len 40 + q ≤ n by omega)).2⟩ e104
                have hvf104 : s104.fl = 0 := iv104.1.1
                have hvp104 : s104.p ≤ n := iv104.2.1
                have hvs104 := g_sk_r (B := B) hvp104
                refine q_goto hF dX8_readsLine_56 ?_
                refine q_aload_n hF 1 rfl rfl dX8_readsLine_161 ?_
                refine q_bipush hF (n := 59) rfl dX8_readsLine_162 ?_
                refine q_callV (kc := 0) (ks := 0) (mc' := 0) (ms' := 0) (h' := 2) (st := []) hF vl_RX8_204 rfl [qI 59] rfl rfl hS.t0 (by omega) (Nat.le_of_ble_eq_true rfl) dX8_readsLine_164 ?_
                refine mX8_signPQ hS hSA hB (by decide) (show s104.p ≤ n by omega) hvf104 rfl (fun (c164_0_105 : (g_bt B n (g_sk B n s104.p)) = 59) => ?_) (fun (c164_0_105 : (g_bt B n (g_sk B n s104.p)) ≠ 59) => ?_)
                · show qX G F Q 0 0 167 [(1, qI (q : Int)), (0, .ref m)] [] sz T (q_ps I m (g_mk (1 + (g_sk B n s104.p)) s104.fl s104.fa s104.cd s104.op s104.on s104.hp)) (q_row L (m + 4) t104) P
                  refine q_return hF rfl dX8_readsLine_167 ?_
                  exact k0 _ _ (by rw [← hx2, g_lnB, if_neg c13_0_2, if_neg c30_0_3, if_pos c46_0_4, e104, g_after_ok (by exact c164_0_105)])
                · show qX G F Q 0 0 167 [(1, qI (q : Int)), (0, .ref m)] [] sz T (q_ps I m (g_mk (g_sk B n s104.p) 1 (g_sk B n s104.p : Int) s104.cd s104.op s104.on s104.hp)) (q_row L (m + 4) t104) P
                  refine q_return hF rfl dX8_readsLine_167 ?_
                  show Q (.inl none) sz T (q_ps I m (g_mk (g_sk B n s104.p) 1 (g_sk B n s104.p : Int) s104.cd s104.op s104.on s104.hp)) (q_row L (m + 4) t104) P
                  exact k1 1 (g_sk B n s104.p) _ _ (by rw [← hx2, g_lnB, if_neg c13_0_2, if_neg c30_0_3, if_pos c46_0_4, e104, g_after_er (by exact c164_0_105)]) (by decide) rfl rfl (show g_sk B n s104.p ≤ n by omega)
              · have her104 : s104.fl ≠ 0 := by omega
                have hrf104 : -2147483648 ≤ s104.fl ∧ s104.fl < 2147483648 := by omega
                refine q_goto hF dX8_readsLine_56 ?_
                refine q_aload_n hF 1 rfl rfl dX8_readsLine_161 ?_
                refine q_bipush hF (n := 59) rfl dX8_readsLine_162 ?_
                refine q_callV (kc := 0) (ks := 0) (mc' := 0) (ms' := 0) (h' := 2) (st := []) hF vl_RX8_204 rfl [qI 59] rfl rfl hS.t0 (by omega) (Nat.le_of_ble_eq_true rfl) dX8_readsLine_164 ?_
                refine mX8_sign0 hS hSA her104 (show -2147483648 ≤ s104.fl ∧ s104.fl < 2147483648 by first | decide | omega | assumption) ?_
                refine q_return hF rfl dX8_readsLine_167 ?_
                show Q (.inl none) sz T (q_ps I m s104) (q_row L (m + 4) t104) P
                exact k1 w104 x104 _ _ (by rw [← hx2, g_lnB, if_neg c13_0_2, if_neg c30_0_3, if_pos c46_0_4, e104, g_after_e]) hw104 hfl104 hfa104 hpn104
        · exact absurd c33 (by decide)
      · show qX G F Q 0 0 33 [(1, qI (q : Int)), (0, .ref m)] [qI 1] sz T (q_ps I m (g_mk (g_len 39 + q) s.fl s.fa s.cd s.op s.on s.hp)) (q_row L (m + 4) t) P
        refine q_ifeq hF (by decide) dX8_readsLine_33 (fun c33 => ?_) (fun c33 => ?_)
        · exact absurd c33 (by decide)
        · have hwl := g_words_ok 39 (by decide)
          have hwn := g_isW_n (g_words_ok 39 (by decide)) (fun k hk => by have := g_ch_r (i := 39) (by decide) hk; omega) c30_0_3
          have hsr := g_sk_r (B := B) (n := n) (k := g_len 39 + q) (by omega)
          refine q_aload_n hF 1 rfl rfl dX8_readsLine_36 ?_
          refine q_callV (kc := 0) (ks := 0) (mc' := 0) (ms' := 0) (h' := 22) (st := []) hF vl_RX8_238 rfl [] rfl rfl hS.t0 (by omega) (Nat.le_of_ble_eq_true rfl) dX8_readsLine_37 ?_
          refine mX8_readsSleepP hS hSA hB (show g_len 39 + q ≤ n by omega) hfl ht ih3 hfu (show 2 * s.cd ≤ 3 * (g_len 39 + q) by omega) rfl rfl (fun s107 t107 e107 => ?_) (fun w107 x107 s107 t107 e107 hw107 hfl107 hfa107 hpn107 => ?_)
          · have iv107 := g_rdSleep_iv (g_hB hB) g_len3 (fun p p' cs h1 h2 => g_far_of hB (by decide) h1 h2) (show g_IV q n (g_mk (g_len 39 + q) s.fl s.fa s.cd s.op s.on s.hp) t from ⟨⟨hfl, hfa⟩, (show g_len 39 + q ≤ n by omega), (show 2 * s.cd ≤ 3 * (g_len 39 + q) ∧ q ≤ g_len 39 + q by omega), ht⟩) ⟨(show g_len 39 + q ≤ g_sk B n (g_len 39 + q) from (g_sk_r (B := B) (show g_len 39 + q ≤ n by omega)).1), (g_sk_r (B := B) (show g_len 39 + q ≤ n by omega)).2⟩ hB.2.1 e107
            have hvf107 : s107.fl = 0 := iv107.1.1
            have hvp107 : s107.p ≤ n := iv107.2.1
            have hvs107 := g_sk_r (B := B) hvp107
            refine q_goto hF dX8_readsLine_40 ?_
            refine q_aload_n hF 1 rfl rfl dX8_readsLine_161 ?_
            refine q_bipush hF (n := 59) rfl dX8_readsLine_162 ?_
            refine q_callV (kc := 0) (ks := 0) (mc' := 0) (ms' := 0) (h' := 2) (st := []) hF vl_RX8_204 rfl [qI 59] rfl rfl hS.t0 (by omega) (Nat.le_of_ble_eq_true rfl) dX8_readsLine_164 ?_
            refine mX8_signPQ hS hSA hB (by decide) (show s107.p ≤ n by omega) hvf107 rfl (fun (c164_0_108 : (g_bt B n (g_sk B n s107.p)) = 59) => ?_) (fun (c164_0_108 : (g_bt B n (g_sk B n s107.p)) ≠ 59) => ?_)
            · show qX G F Q 0 0 167 [(1, qI (q : Int)), (0, .ref m)] [] sz T (q_ps I m (g_mk (1 + (g_sk B n s107.p)) s107.fl s107.fa s107.cd s107.op s107.on s107.hp)) (q_row L (m + 4) t107) P
              refine q_return hF rfl dX8_readsLine_167 ?_
              exact k0 _ _ (by rw [← hx2, g_lnB, if_neg c13_0_2, if_pos c30_0_3, e107, g_after_ok (by exact c164_0_108)])
            · show qX G F Q 0 0 167 [(1, qI (q : Int)), (0, .ref m)] [] sz T (q_ps I m (g_mk (g_sk B n s107.p) 1 (g_sk B n s107.p : Int) s107.cd s107.op s107.on s107.hp)) (q_row L (m + 4) t107) P
              refine q_return hF rfl dX8_readsLine_167 ?_
              show Q (.inl none) sz T (q_ps I m (g_mk (g_sk B n s107.p) 1 (g_sk B n s107.p : Int) s107.cd s107.op s107.on s107.hp)) (q_row L (m + 4) t107) P
              exact k1 1 (g_sk B n s107.p) _ _ (by rw [← hx2, g_lnB, if_neg c13_0_2, if_pos c30_0_3, e107, g_after_er (by exact c164_0_108)]) (by decide) rfl rfl (show g_sk B n s107.p ≤ n by omega)
          · have her107 : s107.fl ≠ 0 := by omega
            have hrf107 : -2147483648 ≤ s107.fl ∧ s107.fl < 2147483648 := by omega
            refine q_goto hF dX8_readsLine_40 ?_
            refine q_aload_n hF 1 rfl rfl dX8_readsLine_161 ?_
            refine q_bipush hF (n := 59) rfl dX8_readsLine_162 ?_
            refine q_callV (kc := 0) (ks := 0) (mc' := 0) (ms' := 0) (h' := 2) (st := []) hF vl_RX8_204 rfl [qI 59] rfl rfl hS.t0 (by omega) (Nat.le_of_ble_eq_true rfl) dX8_readsLine_164 ?_
            refine mX8_sign0 hS hSA her107 (show -2147483648 ≤ s107.fl ∧ s107.fl < 2147483648 by first | decide | omega | assumption) ?_
            refine q_return hF rfl dX8_readsLine_167 ?_
            show Q (.inl none) sz T (q_ps I m s107) (q_row L (m + 4) t107) P
            exact k1 w107 x107 _ _ (by rw [← hx2, g_lnB, if_neg c13_0_2, if_pos c30_0_3, e107, g_after_e]) hw107 hfl107 hfa107 hpn107
    · exact absurd c16 (by decide)
  · show qX G F Q 0 0 16 [(1, qI (q : Int)), (0, .ref m)] [qI 1] sz T (q_ps I m (g_mk (g_len 26 + q) s.fl s.fa s.cd s.op s.on s.hp)) (q_row L (m + 4) t) P
    refine q_ifeq hF (by decide) dX8_readsLine_16 (fun c16 => ?_) (fun c16 => ?_)
    · exact absurd c16 (by decide)
    · have hwl := g_words_ok 26 (by decide)
      have hwn := g_isW_n (g_words_ok 26 (by decide)) (fun k hk => by have := g_ch_r (i := 26) (by decide) hk; omega) c13_0_2
      have hsr := g_sk_r (B := B) (n := n) (k := g_len 26 + q) (by omega)
      refine q_aload_n hF 1 rfl rfl dX8_readsLine_19 ?_
      refine q_iload_n hF 0 rfl rfl dX8_readsLine_20 ?_
      refine q_callV (kc := 0) (ks := 0) (mc' := 0) (ms' := 0) (h' := 7) (st := []) hF vl_RX8_235 rfl [qI (q : Int)] rfl rfl hS.t0 (by omega) (Nat.le_of_ble_eq_true rfl) dX8_readsLine_21 ?_
      refine mX8_readsLandP hS hSA hB (show g_len 26 + q ≤ n by omega) hfl ht (show t 0 = (((t 0).toNat : Nat) : Int) by omega) rfl rfl (fun s110 t110 e110 => ?_) (fun w110 x110 s110 t110 e110 hw110 hfl110 hfa110 hpn110 => ?_)
      · have iv110 := g_rdLand_iv hB.2.2.2 (show g_IV q n (g_mk (g_len 26 + q) s.fl s.fa s.cd s.op s.on s.hp) t from ⟨⟨hfl, hfa⟩, (show g_len 26 + q ≤ n by omega), (show 2 * s.cd ≤ 3 * (g_len 26 + q) ∧ q ≤ g_len 26 + q by omega), ht⟩) (show t 0 = (((t 0).toNat : Nat) : Int) by omega) ⟨(show g_len 26 + q ≤ g_sk B n (g_len 26 + q) from (g_sk_r (B := B) (show g_len 26 + q ≤ n by omega)).1), (g_sk_r (B := B) (show g_len 26 + q ≤ n by omega)).2⟩ e110
        have hvf110 : s110.fl = 0 := iv110.1.1
        have hvp110 : s110.p ≤ n := iv110.2.1
        have hvs110 := g_sk_r (B := B) hvp110
        refine q_goto hF dX8_readsLine_24 ?_
        refine q_aload_n hF 1 rfl rfl dX8_readsLine_161 ?_
        refine q_bipush hF (n := 59) rfl dX8_readsLine_162 ?_
        refine q_callV (kc := 0) (ks := 0) (mc' := 0) (ms' := 0) (h' := 2) (st := []) hF vl_RX8_204 rfl [qI 59] rfl rfl hS.t0 (by omega) (Nat.le_of_ble_eq_true rfl) dX8_readsLine_164 ?_
        refine mX8_signPQ hS hSA hB (by decide) (show s110.p ≤ n by omega) hvf110 rfl (fun (c164_0_111 : (g_bt B n (g_sk B n s110.p)) = 59) => ?_) (fun (c164_0_111 : (g_bt B n (g_sk B n s110.p)) ≠ 59) => ?_)
        · show qX G F Q 0 0 167 [(1, qI (q : Int)), (0, .ref m)] [] sz T (q_ps I m (g_mk (1 + (g_sk B n s110.p)) s110.fl s110.fa s110.cd s110.op s110.on s110.hp)) (q_row L (m + 4) t110) P
          refine q_return hF rfl dX8_readsLine_167 ?_
          exact k0 _ _ (by rw [← hx2, g_lnB, if_pos c13_0_2, e110, g_after_ok (by exact c164_0_111)])
        · show qX G F Q 0 0 167 [(1, qI (q : Int)), (0, .ref m)] [] sz T (q_ps I m (g_mk (g_sk B n s110.p) 1 (g_sk B n s110.p : Int) s110.cd s110.op s110.on s110.hp)) (q_row L (m + 4) t110) P
          refine q_return hF rfl dX8_readsLine_167 ?_
          show Q (.inl none) sz T (q_ps I m (g_mk (g_sk B n s110.p) 1 (g_sk B n s110.p : Int) s110.cd s110.op s110.on s110.hp)) (q_row L (m + 4) t110) P
          exact k1 1 (g_sk B n s110.p) _ _ (by rw [← hx2, g_lnB, if_pos c13_0_2, e110, g_after_er (by exact c164_0_111)]) (by decide) rfl rfl (show g_sk B n s110.p ≤ n by omega)
      · have her110 : s110.fl ≠ 0 := by omega
        have hrf110 : -2147483648 ≤ s110.fl ∧ s110.fl < 2147483648 := by omega
        refine q_goto hF dX8_readsLine_24 ?_
        refine q_aload_n hF 1 rfl rfl dX8_readsLine_161 ?_
        refine q_bipush hF (n := 59) rfl dX8_readsLine_162 ?_
        refine q_callV (kc := 0) (ks := 0) (mc' := 0) (ms' := 0) (h' := 2) (st := []) hF vl_RX8_204 rfl [qI 59] rfl rfl hS.t0 (by omega) (Nat.le_of_ble_eq_true rfl) dX8_readsLine_164 ?_
        refine mX8_sign0 hS hSA her110 (show -2147483648 ≤ s110.fl ∧ s110.fl < 2147483648 by first | decide | omega | assumption) ?_
        refine q_return hF rfl dX8_readsLine_167 ?_
        show Q (.inl none) sz T (q_ps I m s110) (q_row L (m + 4) t110) P
        exact k1 w110 x110 _ _ (by rw [← hx2, g_lnB, if_pos c13_0_2, e110, g_after_e]) hw110 hfl110 hfa110 hpn110
