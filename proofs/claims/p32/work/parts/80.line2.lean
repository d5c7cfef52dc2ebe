/-! what a line leaves -/
def g_IV (lo n : Nat) (s : g_PS) (t : Nat → Int) : Prop := (s.fl = 0 ∧ s.fa = -1) ∧ s.p ≤ n ∧ (2 * s.cd ≤ 3 * s.p ∧ lo ≤ s.p) ∧ g_TR t
theorem g_ok_inj {s s' : g_PS} {t t' : Nat → Int} (h : g_Rl.ok s t = g_Rl.ok s' t') : s = s' ∧ t = t' := by
  have h2 := Sum.inl.inj h
  exact ⟨congrArg Prod.fst h2, congrArg Prod.snd h2⟩
theorem g_er_ok {s : g_PS} {t : Nat → Int} {w : Int} {x : Nat} (h : g_Rl.er w x = g_Rl.ok s t) : False := by cases h
theorem g_wn {B : Nat → Int} {n i q : Nat} (hB : ∀ i q, i < 76 → g_isW B n i q → 1 ≤ g_len i ∧ g_len i + q ≤ n) (hi : i < 76) (h : g_isW B n i q) : g_len i + q ≤ n := (hB i q hi h).2
theorem g_rdP_iv {B : Nat → Int} {lo n : Nat} {s s' : g_PS} {t t' : Nat → Int} {k : Nat} {kz : Int} {p wh : Nat} (hv : g_IV lo n s t) (hp : s.p ≤ p ∧ p ≤ n) (h : g_rdP B n s t k kz p wh = .ok s' t') : g_IV lo n s' t' := by
  unfold g_rdP at h
  have hs := g_sk_r (B := B) hp.2
  split at h
  · exact absurd h (fun x => g_er_ok x)
  split at h
  · rename_i hd
    have hn := g_nd_gt hs.2 hd
    split at h
    · rename_i hr
      obtain ⟨rfl, rfl⟩ := g_ok_inj h
      refine ⟨hv.1, ?_, ?_, hv.2.2.2.up (by omega) (Or.inl (by omega))⟩
      · show g_nd B n (g_sk B n p) ≤ n; omega
      · have := hv.2.2.1; show 2 * s.cd ≤ 3 * g_nd B n (g_sk B n p) ∧ lo ≤ g_nd B n (g_sk B n p); omega
    · exact absurd h (fun x => g_er_ok x)
  · exact absurd h (fun x => g_er_ok x)
theorem g_rdPays_iv {B : Nat → Int} {lo n : Nat} {s s' : g_PS} {t t' : Nat → Int} {q : Nat} (hB : ∀ i q, i < 76 → g_isW B n i q → 1 ≤ g_len i ∧ g_len i + q ≤ n) (hv : g_IV lo n s t) (hq : s.p ≤ q ∧ q ≤ n) (h : g_rdPays B n s t q = .ok s' t') : g_IV lo n s' t' := by
  unfold g_rdPays at h
  split at h
  · rename_i hw; exact g_rdP_iv hv ⟨by omega, g_wn hB (by decide) hw⟩ h
  split at h
  · rename_i hw; exact g_rdP_iv hv ⟨by omega, g_wn hB (by decide) hw⟩ h
  split at h
  · rename_i hw; exact g_rdP_iv hv ⟨by omega, g_wn hB (by decide) hw⟩ h
  split at h
  · rename_i hw; exact g_rdP_iv hv ⟨by omega, g_wn hB (by decide) hw⟩ h
  split at h
  · rename_i hw; exact g_rdP_iv hv ⟨by omega, g_wn hB (by decide) hw⟩ h
  · exact absurd h (fun x => g_er_ok x)
theorem g_nu_ok {B : Nat → Int} {n : Nat} {lo hi : Int} {p : Nat} {f : Int → Nat → g_Rl} {s' : g_PS} {t' : Nat → Int} (hp : p ≤ n) (h : g_nu B n lo hi p f = .ok s' t') : ∃ v p', f v p' = .ok s' t' ∧ lo ≤ v ∧ v ≤ hi ∧ p + 1 ≤ p' ∧ p' ≤ n := by
  unfold g_nu at h
  have hs := g_sk_r (B := B) hp
  split at h
  · rename_i hd
    have hn := g_nd_gt hs.2 hd
    split at h
    · rename_i hr
      exact ⟨_, _, h, hr.1, hr.2, by omega, hn.2⟩
    · exact absurd h (fun x => g_er_ok x)
  · exact absurd h (fun x => g_er_ok x)
theorem g_nms_lo {B : Nat → Int} {n : Nat} {t : Nat → Int} {l q k i : Nat} (h : i < 24 + 13 * l) : g_nms B n t l q k i = t i := if_neg (by omega)
theorem g_TR.nms {B : Nat → Int} {n : Nat} (hB : ∀ k, 0 ≤ B k ∧ B k ≤ 255) {t : Nat → Int} (h : g_TR t) (l q k : Nat) : g_TR (g_nms B n t l q k) := by
  refine ⟨fun i hi => ?_, by rw [g_nms_lo (by omega)]; exact h.2⟩
  unfold g_nms
  split
  · unfold g_bt; split
    · have := hB (q + (i - (24 + 13 * l))); omega
    · decide
  · exact h.1 i hi
theorem g_rdLand_iv {B : Nat → Int} {lo n : Nat} {s s' : g_PS} {t t' : Nat → Int} {l wh q : Nat} (hB : ∀ k, 0 ≤ B k ∧ B k ≤ 255) (hv : g_IV lo n s t) (hl : t 0 = (l : Int)) (hq : s.p ≤ q ∧ q ≤ n) (h : g_rdLand B n s t l wh q = .ok s' t') : g_IV lo n s' t' := by
  unfold g_rdLand at h
  split at h
  · exact absurd h (fun x => g_er_ok x)
  rename_i hl5
  have ht0 := hv.2.2.2.2
  split at h
  · rename_i hnm
    have hnl := g_nl_r (B := B) hq.2
    have hnm1 := hnm.1
    split at h
    · obtain ⟨v1, p1, h, a1, b1, c1, d1⟩ := g_nu_ok (by omega) h
      obtain ⟨v2, p2, h, a2, b2, c2, d2⟩ := g_nu_ok d1 h
      obtain ⟨v3, p3, h, a3, b3, c3, d3⟩ := g_nu_ok d2 h
      obtain ⟨v4, p4, h, a4, b4, c4, d4⟩ := g_nu_ok d3 h
      obtain ⟨rfl, rfl⟩ := g_ok_inj h
      refine ⟨hv.1, d4, ?_, ?_⟩
      · have := hv.2.2.1; show 2 * s.cd ≤ 3 * p4 ∧ lo ≤ p4; omega
      · have h5 : g_TR (g_t1 (g_nms B n t l q (g_nl B n q)) l (g_nl B n q) v1 v2 v3 v4) := (((((hv.2.2.2.nms hB l q _).up (by omega) (Or.inl (by omega))).up (by omega) (Or.inl (by omega))).up (by omega) (Or.inl (by omega))).up (by omega) (Or.inl (by omega))).up (by omega) (Or.inl (by omega))
        have e0 : g_t1 (g_nms B n t l q (g_nl B n q)) l (g_nl B n q) v1 v2 v3 v4 0 = (l : Int) := by
          unfold g_t1
          rw [g_up_n _ _ (by omega), g_up_n _ _ (by omega), g_up_n _ _ (by omega), g_up_n _ _ (by omega), g_up_n _ _ (by omega), g_nms_lo (by omega), hl]
        exact h5.up (by rw [e0]; omega) (Or.inr (by rw [e0]; omega))
    · exact absurd h (fun x => g_er_ok x)
  · exact absurd h (fun x => g_er_ok x)
theorem g_rdS_iv {B : Nat → Int} {lo n f : Nat} {s s' : g_PS} {t t' : Nat → Int} {kz : Int} {q : Nat} (hfar : ∀ p p' cs, p ≤ n → g_ex B n f 3 0 p = .ok p' cs → g_far n 3 p p' cs) (hkz : 0 ≤ kz ∧ kz ≤ 4) (hv : g_IV lo n s t) (hq : s.p + 3 ≤ q ∧ q ≤ n) (hn6 : n ≤ 600) (h : g_rdS B n f s t kz q = .ok s' t') : g_IV lo n s' t' := by
  unfold g_rdS at h
  split at h
  · rename_i hnm
    have hnl := g_nl_r (B := B) hq.2
    have hlf := g_lndF_r (B := B) (n := n) (t := t) (q := q) (c := g_nl B n q) 6 0
    change -1 ≤ g_lnd B n t q (g_nl B n q) ∧ (g_lnd B n t q (g_nl B n q) = -1 ∨ g_lnd B n t q (g_nl B n q) < t 0) at hlf
    have ht0 := hv.2.2.2.2
    split at h
    · exact absurd h (fun x => g_er_ok x)
    rename_i hl1
    split at h
    · exact absurd h (fun x => g_er_ok x)
    cases e : g_ex B n f 3 0 (g_nl B n q + q) with
    | inr w => rw [e] at h; exact absurd h (fun x => g_er_ok x)
    | inl c =>
      rw [e] at h
      have hf := hfar _ _ _ (by omega) (show g_ex B n f 3 0 (g_nl B n q + q) = .ok c.1 c.2 from e)
      have hf1 := hf.1
      have hf2 := hf.2
      rw [if_neg (by decide)] at hf2
      obtain ⟨rfl, rfl⟩ := g_ok_inj h
      have hcd := hv.2.2.1
      refine ⟨hv.1, hf1, ?_, ?_⟩
      · show 2 * (s.cd + g_el c.2) ≤ 3 * c.1 ∧ lo ≤ c.1; omega
      · exact ((hv.2.2.2.app (by omega) _).up (by omega) (Or.inl (by omega))).up (by omega) (Or.inl (by omega))
  · exact absurd h (fun x => g_er_ok x)
theorem g_rdSleep_iv {B : Nat → Int} {lo n f : Nat} {s s' : g_PS} {t t' : Nat → Int} {q : Nat} (hB : ∀ i q, i < 76 → g_isW B n i q → 1 ≤ g_len i ∧ g_len i + q ≤ n) (h3 : 3 ≤ g_len 27 ∧ 3 ≤ g_len 28 ∧ 3 ≤ g_len 29 ∧ 3 ≤ g_len 30 ∧ 3 ≤ g_len 31) (hfar : ∀ p p' cs, p ≤ n → g_ex B n f 3 0 p = .ok p' cs → g_far n 3 p p' cs) (hv : g_IV lo n s t) (hq : s.p ≤ q ∧ q ≤ n) (hn6 : n ≤ 600) (h : g_rdSleep B n f s t q = .ok s' t') : g_IV lo n s' t' := by
  unfold g_rdSleep at h
  split at h
  · rename_i hw; have w := g_wn hB (by decide) hw; have hs := g_sk_r (B := B) w; exact g_rdS_iv hfar (by decide) hv ⟨by omega, hs.2⟩ hn6 h
  split at h
  · rename_i hw; have w := g_wn hB (by decide) hw; have hs := g_sk_r (B := B) w; exact g_rdS_iv hfar (by decide) hv ⟨by omega, hs.2⟩ hn6 h
  split at h
  · rename_i hw; have w := g_wn hB (by decide) hw; have hs := g_sk_r (B := B) w; exact g_rdS_iv hfar (by decide) hv ⟨by omega, hs.2⟩ hn6 h
  split at h
  · rename_i hw; have w := g_wn hB (by decide) hw; have hs := g_sk_r (B := B) w; exact g_rdS_iv hfar (by decide) hv ⟨by omega, hs.2⟩ hn6 h
  split at h
  · rename_i hw; have w := g_wn hB (by decide) hw; have hs := g_sk_r (B := B) w; exact g_rdS_iv hfar (by decide) hv ⟨by omega, hs.2⟩ hn6 h
  · exact absurd h (fun x => g_er_ok x)
theorem g_rdO_iv {B : Nat → Int} {lo n : Nat} {s s' : g_PS} (hB : ∀ i q, i < 76 → g_isW B n i q → 1 ≤ g_len i ∧ g_len i + q ≤ n) : ∀ (f : Nat) (t t' : Nat → Int) (u : List Nat) (q : Nat), u.length ≤ 60 → f ≤ 4 → g_IV lo n s t → s.p ≤ q ∧ q ≤ n → u.length + f ≤ 4 → g_rdO B n s f t u q = .ok s' t' → g_IV lo n s' t'
  | 0, _, _, _, _, _, _, _, _, _, h => absurd h (fun x => g_er_ok x)
  | f + 1, t, t', u, q, hu, hf, hv, hq, huf, h => by
    have one : ∀ j i : Nat, i < 76 → g_isW B n i q → j < 3 → g_rdO1 B n s t u q j (g_len i + q) (g_rdO B n s f) = .ok s' t' → g_IV lo n s' t' := fun j i hi hw hj h => by
      have w := g_wn hB hi hw
      have hs := g_sk_r (B := B) w
      unfold g_rdO1 at h
      split at h
      · exact absurd h (fun x => g_er_ok x)
      split at h
      · exact g_rdO_iv hB f _ _ _ _ (by show u.length + 1 ≤ 60; omega) (by omega) ⟨hv.1, hv.2.1, hv.2.2.1, hv.2.2.2.up (by omega) (Or.inl (by omega))⟩ ⟨by omega, hs.2⟩ (by show u.length + 1 + f ≤ 4; omega) h
      · obtain ⟨rfl, rfl⟩ := g_ok_inj h
        have := hv.2.2.1
        refine ⟨hv.1, hs.2, ?_, (hv.2.2.2.up (by omega) (Or.inl (by omega))).up (by omega) (Or.inl (by omega))⟩
        show 2 * s.cd ≤ 3 * g_sk B n (g_len i + q) ∧ lo ≤ g_sk B n (g_len i + q)
        omega
    unfold g_rdO at h
    split at h
    · rename_i hw; exact one 0 32 (by decide) hw (by decide) h
    split at h
    · rename_i hw; exact one 1 33 (by decide) hw (by decide) h
    split at h
    · rename_i hw; exact one 2 34 (by decide) hw (by decide) h
    · exact absurd h (fun x => g_er_ok x)
/-- the sign behind a line -/
def g_after (B : Nat → Int) (n : Nat) (r : g_Rl) : g_Rl := match r with
  | .inl c => if g_bt B n (g_sk B n c.1.p) = 59 then g_Rl.ok (g_mk (1 + g_sk B n c.1.p) c.1.fl c.1.fa c.1.cd c.1.op c.1.on c.1.hp) c.2 else g_Rl.er 1 (g_sk B n c.1.p)
  | .inr e => .inr e
theorem g_after_ok {B : Nat → Int} {n : Nat} {s : g_PS} {t : Nat → Int} (h : g_bt B n (g_sk B n s.p) = 59) : g_after B n (g_Rl.ok s t) = g_Rl.ok (g_mk (1 + g_sk B n s.p) s.fl s.fa s.cd s.op s.on s.hp) t := if_pos h
theorem g_after_er {B : Nat → Int} {n : Nat} {s : g_PS} {t : Nat → Int} (h : g_bt B n (g_sk B n s.p) ≠ 59) : g_after B n (g_Rl.ok s t) = g_Rl.er 1 (g_sk B n s.p) := if_neg h
theorem g_after_e {B : Nat → Int} {n : Nat} {w : Int} {x : Nat} : g_after B n (g_Rl.er w x) = g_Rl.er w x := rfl
/-- a line that begins at q -/
def g_lnB (B : Nat → Int) (n f : Nat) (s : g_PS) (t : Nat → Int) (q : Nat) : g_Rl :=
  if g_isW B n 26 q then g_rdLand B n (g_mk (g_len 26 + q) s.fl s.fa s.cd s.op s.on s.hp) t (t 0).toNat q (g_sk B n (g_len 26 + q))
  else if g_isW B n 39 q then g_rdSleep B n f (g_mk (g_len 39 + q) s.fl s.fa s.cd s.op s.on s.hp) t (g_sk B n (g_len 39 + q))
  else if g_isW B n 40 q then g_rdPays B n (g_mk (g_len 40 + q) s.fl s.fa s.cd s.op s.on s.hp) t (g_sk B n (g_len 40 + q))
  else if g_isW B n 41 q ∧ g_and (g_shr s.on 0) 1 ≠ 1 then g_nu B n 0 60 (g_len 41 + q) fun v p1 => g_Rl.ok (g_mk p1 s.fl s.fa s.cd s.op (g_or s.on (g_shl 1 0)) s.hp) (g_up t 3 v)
  else if g_isW B n 42 q ∧ g_and (g_shr s.on 1) 1 ≠ 1 then g_nu B n 0 999 (g_len 42 + q) fun v p1 => g_Rl.ok (g_mk p1 s.fl s.fa s.cd s.op (g_or s.on (g_shl 1 1)) s.hp) (g_up t 4 v)
  else if g_isW B n 34 q ∧ g_and (g_shr s.on 2) 1 ≠ 1 then
    (if g_nm B n (g_sk B n (g_len 34 + q)) then (if g_lnd B n t (g_sk B n (g_len 34 + q)) (g_nl B n (g_sk B n (g_len 34 + q))) = -1 then g_Rl.er 3 (g_sk B n (g_len 34 + q)) else
      g_Rl.ok (g_mk (g_nl B n (g_sk B n (g_len 34 + q)) + g_sk B n (g_len 34 + q)) s.fl s.fa s.cd s.op (g_or s.on (g_shl 1 2)) s.hp) (g_up t 5 (g_lnd B n t (g_sk B n (g_len 34 + q)) (g_nl B n (g_sk B n (g_len 34 + q)))))) else g_Rl.er 1 (g_sk B n (g_len 34 + q)))
  else if g_isW B n 43 q ∧ g_and (g_shr s.on 3) 1 ≠ 1 then g_rdOrder B n (g_mk (g_len 43 + q) s.fl s.fa s.cd s.op (g_or s.on (g_shl 1 3)) s.hp) t (g_sk B n (g_len 43 + q))
  else g_Rl.er 1 q
def g_line (B : Nat → Int) (n f : Nat) (s : g_PS) (t : Nat → Int) : g_Rl := g_after B n (g_lnB B n f s t (g_sk B n s.p))
theorem g_lnB_iv {I : q_I} {m n f : Nat} {B : Nat → Int} (hB : q_BT I m B n) {s s' : g_PS} {t t' : Nat → Int} {q : Nat} (hw : ∀ i q, i < 76 → g_isW B n i q → 1 ≤ g_len i ∧ g_len i + q ≤ n) (h3 : 3 ≤ g_len 27 ∧ 3 ≤ g_len 28 ∧ 3 ≤ g_len 29 ∧ 3 ≤ g_len 30 ∧ 3 ≤ g_len 31) (hfar : ∀ p p' cs, p ≤ n → g_ex B n f 3 0 p = .ok p' cs → g_far n 3 p p' cs) (hfl : s.fl = 0 ∧ s.fa = -1) (hcd : 2 * s.cd ≤ 3 * q) (ht : g_TR t) (h : g_lnB B n f s t q = .ok s' t') : g_IV q n s' t' := by
  unfold g_lnB at h
  have ht0 := ht.2
  split at h
  · rename_i w; have w := (hw _ _ (by decide) w).2; have hs := g_sk_r (B := B) w
    exact g_rdLand_iv (s := g_mk (g_len 26 + q) s.fl s.fa s.cd s.op s.on s.hp) hB.2.2.2 ⟨hfl, w, by show 2 * s.cd ≤ 3 * (g_len 26 + q) ∧ q ≤ g_len 26 + q; omega, ht⟩ (by omega) ⟨hs.1, hs.2⟩ h
  split at h
  · rename_i w; have w := (hw _ _ (by decide) w).2; have hs := g_sk_r (B := B) w
    exact g_rdSleep_iv (s := g_mk (g_len 39 + q) s.fl s.fa s.cd s.op s.on s.hp) hw h3 hfar ⟨hfl, w, by show 2 * s.cd ≤ 3 * (g_len 39 + q) ∧ q ≤ g_len 39 + q; omega, ht⟩ ⟨hs.1, hs.2⟩ hB.2.1 h
  split at h
  · rename_i w; have w := (hw _ _ (by decide) w).2; have hs := g_sk_r (B := B) w
    exact g_rdPays_iv (s := g_mk (g_len 40 + q) s.fl s.fa s.cd s.op s.on s.hp) hw ⟨hfl, w, by show 2 * s.cd ≤ 3 * (g_len 40 + q) ∧ q ≤ g_len 40 + q; omega, ht⟩ ⟨hs.1, hs.2⟩ h
  split at h
  · rename_i w; have w := (hw _ _ (by decide) w.1).2
    obtain ⟨v, p1, h, a, b, c, d⟩ := g_nu_ok w h
    obtain ⟨rfl, rfl⟩ := g_ok_inj h
    exact ⟨hfl, d, by show 2 * s.cd ≤ 3 * p1 ∧ q ≤ p1; omega, ht.up (by omega) (Or.inl (by omega))⟩
  split at h
  · rename_i w; have w := (hw _ _ (by decide) w.1).2
    obtain ⟨v, p1, h, a, b, c, d⟩ := g_nu_ok w h
    obtain ⟨rfl, rfl⟩ := g_ok_inj h
    exact ⟨hfl, d, by show 2 * s.cd ≤ 3 * p1 ∧ q ≤ p1; omega, ht.up (by omega) (Or.inl (by omega))⟩
  split at h
  · rename_i w; have w := (hw _ _ (by decide) w.1).2; have hs := g_sk_r (B := B) w
    generalize g_sk B n (g_len 34 + q) = q2 at hs h
    have hnl := g_nl_r (B := B) hs.2
    have hlf := g_lndF_r (B := B) (n := n) (t := t) (q := q2) (c := g_nl B n q2) 6 0
    change -1 ≤ g_lnd B n t q2 (g_nl B n q2) ∧ (g_lnd B n t q2 (g_nl B n q2) = -1 ∨ g_lnd B n t q2 (g_nl B n q2) < t 0) at hlf
    split at h
    · split at h
      · exact absurd h (fun x => g_er_ok x)
      · obtain ⟨rfl, rfl⟩ := g_ok_inj h
        exact ⟨hfl, by show g_nl B n q2 + q2 ≤ n; omega, by show 2 * s.cd ≤ 3 * (g_nl B n q2 + q2) ∧ q ≤ g_nl B n q2 + q2; omega, ht.up (by omega) (Or.inl (by omega))⟩
    · exact absurd h (fun x => g_er_ok x)
  split at h
  · rename_i w; have w := (hw _ _ (by decide) w.1).2; have hs := g_sk_r (B := B) w
    exact g_rdO_iv (s := g_mk (g_len 43 + q) s.fl s.fa s.cd s.op (g_or s.on (g_shl 1 3)) s.hp) hw 4 t _ [] _ (by decide) (by decide) ⟨hfl, w, by show 2 * s.cd ≤ 3 * (g_len 43 + q) ∧ q ≤ g_len 43 + q; omega, ht⟩ ⟨hs.1, hs.2⟩ (by decide) h
  · exact absurd h (fun x => g_er_ok x)
theorem g_line_iv {I : q_I} {m n f : Nat} {B : Nat → Int} (hB : q_BT I m B n) {s s' : g_PS} {t t' : Nat → Int} (hw : ∀ i q, i < 76 → g_isW B n i q → 1 ≤ g_len i ∧ g_len i + q ≤ n) (h3 : 3 ≤ g_len 27 ∧ 3 ≤ g_len 28 ∧ 3 ≤ g_len 29 ∧ 3 ≤ g_len 30 ∧ 3 ≤ g_len 31) (hfar : ∀ p p' cs, p ≤ n → g_ex B n f 3 0 p = .ok p' cs → g_far n 3 p p' cs) (hp : s.p ≤ n) (hfl : s.fl = 0 ∧ s.fa = -1) (hcd : 2 * s.cd ≤ 3 * s.p) (ht : g_TR t) (h : g_line B n f s t = .ok s' t') : g_IV (s.p + 1) n s' t' := by
  unfold g_line at h
  have hs := g_sk_r (B := B) hp
  cases e : g_lnB B n f s t (g_sk B n s.p) with
  | inr w => rw [e] at h; cases h
  | inl c =>
    rw [e] at h
    have iv := g_lnB_iv hB (s' := c.1) (t' := c.2) hw h3 hfar hfl (by omega) ht e
    obtain ⟨i1, i2, i3, i4⟩ := iv
    have hs2 := g_sk_r (B := B) i2
    by_cases c59 : g_bt B n (g_sk B n c.1.p) = 59
    · have hn := g_bt_in (B := B) (n := n) (k := g_sk B n c.1.p) (by rw [c59]; decide)
      rw [show g_after B n (Sum.inl c) = g_Rl.ok (g_mk (1 + g_sk B n c.1.p) c.1.fl c.1.fa c.1.cd c.1.op c.1.on c.1.hp) c.2 from g_after_ok c59] at h
      obtain ⟨rfl, rfl⟩ := g_ok_inj h
      exact ⟨i1, by show 1 + g_sk B n c.1.p ≤ n; omega, by show 2 * c.1.cd ≤ 3 * (1 + g_sk B n c.1.p) ∧ s.p + 1 ≤ 1 + g_sk B n c.1.p; omega, i4⟩
    · rw [show g_after B n (Sum.inl c) = g_Rl.er 1 (g_sk B n c.1.p) from g_after_er c59] at h
      cases h
/-- the lines of a text; fuel w -/
def g_lines (B : Nat → Int) (n f : Nat) : Nat → g_PS → (Nat → Int) → g_Rl
  | 0, _, _ => g_Rl.er 0 0
  | w + 1, s, t =>
    if g_bt B n (g_sk B n s.p) = -1 then g_Rl.ok (g_mk (g_sk B n s.p) s.fl s.fa s.cd s.op s.on s.hp) t
    else match g_line B n f (g_mk (g_sk B n s.p) s.fl s.fa s.cd s.op s.on s.hp) t with
      | .inl c => g_lines B n f w c.1 c.2
      | .inr e => .inr e
theorem g_lines_e {B : Nat → Int} {n f w : Nat} {s : g_PS} {t : Nat → Int} (h : g_bt B n (g_sk B n s.p) = -1) : g_lines B n f (w + 1) s t = g_Rl.ok (g_mk (g_sk B n s.p) s.fl s.fa s.cd s.op s.on s.hp) t := if_pos h
theorem g_lines_k {B : Nat → Int} {n f w : Nat} {s s' : g_PS} {t t' : Nat → Int} (h : g_bt B n (g_sk B n s.p) ≠ -1) (e : g_line B n f (g_mk (g_sk B n s.p) s.fl s.fa s.cd s.op s.on s.hp) t = .ok s' t') : g_lines B n f (w + 1) s t = g_lines B n f w s' t' := by
  rw [g_lines, if_neg h, e]
theorem g_lines_x {B : Nat → Int} {n f w : Nat} {s : g_PS} {t : Nat → Int} {v : Int} {x : Nat} (h : g_bt B n (g_sk B n s.p) ≠ -1) (e : g_line B n f (g_mk (g_sk B n s.p) s.fl s.fa s.cd s.op s.on s.hp) t = .er v x) : g_lines B n f (w + 1) s t = .er v x := by
  rw [g_lines, if_neg h, e]
theorem g_hB {I : q_I} {m n : Nat} {B : Nat → Int} (hB : q_BT I m B n) : ∀ i q, i < 76 → g_isW B n i q → 1 ≤ g_len i ∧ g_len i + q ≤ n := fun i q hi hw => ⟨g_words_ok i hi, g_isW_n (g_words_ok i hi) (fun k hk => by have := g_ch_r hi hk; omega) hw⟩
theorem g_len3 : 3 ≤ g_len 27 ∧ 3 ≤ g_len 28 ∧ 3 ≤ g_len 29 ∧ 3 ≤ g_len 30 ∧ 3 ≤ g_len 31 := by decide +kernel