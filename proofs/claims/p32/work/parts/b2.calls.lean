/-! what each call upon the class does -/
set_option maxRecDepth 100000 in
theorem a_told {G : q_G} {sz : Nat} {T : q_T} {I L : q_I} {P : q_P} {Q : q_Q} {b bk tp : Nat} {B : Nat → Int} {R : Nat → Nat → Int} {n v : Int} (hA : q_A G b) (hE : q_CE T b bk tp B R I L P) (hn : 0 ≤ n ∧ n ≤ 9) (hv0 : g_toldQ (R 0) tp bk n = v) (k0 : Q (.inl (some (qI v))) sz T I L P) : qC G 4 1 6 YL_told [.ref b, qI n] sz T I L P Q := by
  obtain ⟨V, f, cn, hC, hP⟩ := hE
  have hV := (hP.ro 0 (Nat.zero_le _)).1
  have hv := hV.1
  have hw2 := hv.month
  have hmany := hv.many
  have hlands := hv.lands
  have hrows := hv.rows
  have hmn : R 0 1 = ((R 0 1).toNat : Int) := by omega
  have hrn : R 0 6 = ((R 0 6).toNat : Int) := by omega
  have hm12 : (R 0 1).toNat ≤ 12 := by omega
  have hRW := (hP.ro 0 (Nat.zero_le _)).2.1
  have hZ := (hP.ro 0 (Nat.zero_le _)).2.2.1
  have hSL := (hP.ro 0 (Nat.zero_le _)).2.2.2
  have hvs : ∀ i : Nat, i < (R 0 1).toNat → g_VA (R 0) i (R 0 2) := fun i hi => by have q := hV.2.1 i (by omega); rwa [if_neg (Nat.not_lt_zero _)] at q
  refine mL_told (hx := 3) hC.st.t0 (fun Q1 k1 => ?_)
  refine qC.wide (h := 3) (mc := 1) (ms := 6) (by decide) (by decide) (by decide) ?_
  refine mX7_told hC.st hA hC.pv hC.ov rfl (hC.wr 0 (Nat.zero_le _)) hV hmn hSL (by omega) (fun sz' hsz h1 => absurd hn h1) (fun _ => ?_)
  refine k1 _ _ _ _ _ _ (q_LR.okI ?_)
  rw [hC.b6, hC.b8, hv0]
  exact k0

set_option maxRecDepth 100000 in
theorem a_told1 {G : q_G} {sz : Nat} {T : q_T} {I L : q_I} {P : q_P} {Q : q_Q} {b bk tp : Nat} {B : Nat → Int} {R : Nat → Nat → Int} {n : Int} (hA : q_A G b) (hE : q_CE T b bk tp B R I L P) (hn9 : -2147483648 ≤ n ∧ n < 2147483648) (hn : ¬ (0 ≤ n ∧ n ≤ 9)) (kA : ∀ (sz' : Nat) (I' : q_I), sz ≤ sz' → q_CE T b bk tp B R I' L P → q_Ou b I L P I' L P → Q (.inl (some (qI (-2000000098)))) sz' T I' L P) : qC G 4 1 6 YL_told [.ref b, qI n] sz T I L P Q := by
  obtain ⟨V, f, cn, hC, hP⟩ := hE
  have hV := (hP.ro 0 (Nat.zero_le _)).1
  have hv := hV.1
  have hw2 := hv.month
  have hmany := hv.many
  have hlands := hv.lands
  have hrows := hv.rows
  have hmn : R 0 1 = ((R 0 1).toNat : Int) := by omega
  have hrn : R 0 6 = ((R 0 6).toNat : Int) := by omega
  have hm12 : (R 0 1).toNat ≤ 12 := by omega
  have hRW := (hP.ro 0 (Nat.zero_le _)).2.1
  have hZ := (hP.ro 0 (Nat.zero_le _)).2.2.1
  have hSL := (hP.ro 0 (Nat.zero_le _)).2.2.2
  have hvs : ∀ i : Nat, i < (R 0 1).toNat → g_VA (R 0) i (R 0 2) := fun i hi => by have q := hV.2.1 i (by omega); rwa [if_neg (Nat.not_lt_zero _)] at q
  refine mL_told (hx := 3) hC.st.t0 (fun Q1 k1 => ?_)
  refine qC.wide (h := 3) (mc := 1) (ms := 6) (by decide) (by decide) (by decide) ?_
  refine mX7_told hC.st hA hC.pv hC.ov rfl (hC.wr 0 (Nat.zero_le _)) hV hmn hSL hn9 (fun sz' hsz h1 => ?_) (fun h => absurd h hn)
  refine k1 _ _ _ _ _ _ (q_LR.erI 0 rfl g_cIA ?_)
  have hr9 := hC.rf hP 1 (by decide) ((I b (7 + 1)) + 1)
  exact kA _ _ hsz hr9.1 hr9.2

set_option maxRecDepth 100000 in
theorem a_pays {G : q_G} {sz : Nat} {T : q_T} {I L : q_I} {P : q_P} {Q : q_Q} {b bk tp : Nat} {B : Nat → Int} {R : Nat → Nat → Int} {n : Int} (hA : q_A G b) (hE : q_CE T b bk tp B R I L P) (hn : 0 ≤ n ∧ n ≤ 4) (k0 : Q (.inl (some (qI (R 0 (12 + n.toNat))))) sz T I L P) : qC G 4 1 6 YL_pays [.ref b, qI n] sz T I L P Q := by
  obtain ⟨V, f, cn, hC, hP⟩ := hE
  have hV := (hP.ro 0 (Nat.zero_le _)).1
  have hv := hV.1
  have hw2 := hv.month
  have hmany := hv.many
  have hlands := hv.lands
  have hrows := hv.rows
  have hmn : R 0 1 = ((R 0 1).toNat : Int) := by omega
  have hrn : R 0 6 = ((R 0 6).toNat : Int) := by omega
  have hm12 : (R 0 1).toNat ≤ 12 := by omega
  have hRW := (hP.ro 0 (Nat.zero_le _)).2.1
  have hZ := (hP.ro 0 (Nat.zero_le _)).2.2.1
  have hSL := (hP.ro 0 (Nat.zero_le _)).2.2.2
  have hvs : ∀ i : Nat, i < (R 0 1).toNat → g_VA (R 0) i (R 0 2) := fun i hi => by have q := hV.2.1 i (by omega); rwa [if_neg (Nat.not_lt_zero _)] at q
  refine mL_pays (hx := 3) hC.st.t0 (fun Q1 k1 => ?_)
  refine qC.wide (h := 3) (mc := 1) (ms := 6) (by decide) (by decide) (by decide) ?_
  refine mX7_pays hC.st hA hC.pv hC.ov rfl (hC.wr 0 (Nat.zero_le _)) hV (by omega) (fun sz' hsz h1 => absurd hn h1) (fun _ => ?_)
  refine k1 _ _ _ _ _ _ (q_LR.okI ?_)
  exact k0

set_option maxRecDepth 100000 in
theorem a_pays1 {G : q_G} {sz : Nat} {T : q_T} {I L : q_I} {P : q_P} {Q : q_Q} {b bk tp : Nat} {B : Nat → Int} {R : Nat → Nat → Int} {n : Int} (hA : q_A G b) (hE : q_CE T b bk tp B R I L P) (hn9 : -2147483648 ≤ n ∧ n < 2147483648) (hn : ¬ (0 ≤ n ∧ n ≤ 4)) (kA : ∀ (sz' : Nat) (I' : q_I), sz ≤ sz' → q_CE T b bk tp B R I' L P → q_Ou b I L P I' L P → Q (.inl (some (qI (-2000000098)))) sz' T I' L P) : qC G 4 1 6 YL_pays [.ref b, qI n] sz T I L P Q := by
  obtain ⟨V, f, cn, hC, hP⟩ := hE
  have hV := (hP.ro 0 (Nat.zero_le _)).1
  have hv := hV.1
  have hw2 := hv.month
  have hmany := hv.many
  have hlands := hv.lands
  have hrows := hv.rows
  have hmn : R 0 1 = ((R 0 1).toNat : Int) := by omega
  have hrn : R 0 6 = ((R 0 6).toNat : Int) := by omega
  have hm12 : (R 0 1).toNat ≤ 12 := by omega
  have hRW := (hP.ro 0 (Nat.zero_le _)).2.1
  have hZ := (hP.ro 0 (Nat.zero_le _)).2.2.1
  have hSL := (hP.ro 0 (Nat.zero_le _)).2.2.2
  have hvs : ∀ i : Nat, i < (R 0 1).toNat → g_VA (R 0) i (R 0 2) := fun i hi => by have q := hV.2.1 i (by omega); rwa [if_neg (Nat.not_lt_zero _)] at q
  refine mL_pays (hx := 3) hC.st.t0 (fun Q1 k1 => ?_)
  refine qC.wide (h := 3) (mc := 1) (ms := 6) (by decide) (by decide) (by decide) ?_
  refine mX7_pays hC.st hA hC.pv hC.ov rfl (hC.wr 0 (Nat.zero_le _)) hV hn9 (fun sz' hsz h1 => ?_) (fun h => absurd h hn)
  refine k1 _ _ _ _ _ _ (q_LR.erI 0 rfl g_cIA ?_)
  have hr9 := hC.rf hP 1 (by decide) ((I b (7 + 1)) + 1)
  exact kA _ _ hsz hr9.1 hr9.2

set_option maxRecDepth 100000 in
theorem a_land {G : q_G} {sz : Nat} {T : q_T} {I L : q_I} {P : q_P} {Q : q_Q} {b bk tp : Nat} {B : Nat → Int} {R : Nat → Nat → Int} {n v : Int} {l : Nat} (hA : q_A G b) (hE : q_CE T b bk tp B R I L P) (hl : (l : Int) < R 0 0) (hn : 0 ≤ n ∧ n ≤ 5) (hv0 : g_landQ (R 0) l (R 0 1).toNat n = v) (k0 : Q (.inl (some (qI v))) sz T I L P) : qC G 6 1 6 YL_land [.ref b, qI (l : Int), qI n] sz T I L P Q := by
  obtain ⟨V, f, cn, hC, hP⟩ := hE
  have hV := (hP.ro 0 (Nat.zero_le _)).1
  have hv := hV.1
  have hw2 := hv.month
  have hmany := hv.many
  have hlands := hv.lands
  have hrows := hv.rows
  have hmn : R 0 1 = ((R 0 1).toNat : Int) := by omega
  have hrn : R 0 6 = ((R 0 6).toNat : Int) := by omega
  have hm12 : (R 0 1).toNat ≤ 12 := by omega
  have hRW := (hP.ro 0 (Nat.zero_le _)).2.1
  have hZ := (hP.ro 0 (Nat.zero_le _)).2.2.1
  have hSL := (hP.ro 0 (Nat.zero_le _)).2.2.2
  have hvs : ∀ i : Nat, i < (R 0 1).toNat → g_VA (R 0) i (R 0 2) := fun i hi => by have q := hV.2.1 i (by omega); rwa [if_neg (Nat.not_lt_zero _)] at q
  refine mL_land (hx := 5) hC.st.t0 (fun Q1 k1 => ?_)
  refine qC.wide (h := 5) (mc := 1) (ms := 6) (by decide) (by decide) (by decide) ?_
  refine mX7_land hC.st hA hC.pv hC.ov rfl (hC.wr 0 (Nat.zero_le _)) hV hmn hl (by omega) (fun sz' hsz h1 => absurd hn h1) (fun _ => ?_)
  refine k1 _ _ _ _ _ _ (q_LR.okI ?_)
  rw [hv0]
  exact k0

set_option maxRecDepth 100000 in
theorem a_land0 {G : q_G} {sz : Nat} {T : q_T} {I L : q_I} {P : q_P} {Q : q_Q} {b bk tp : Nat} {B : Nat → Int} {R : Nat → Nat → Int} {a n : Int} (hA : q_A G b) (hE : q_CE T b bk tp B R I L P) (ha9 : -2147483648 ≤ a ∧ a < 2147483648) (hn : ¬ (0 ≤ a ∧ a < R 0 0)) (kA : ∀ (sz' : Nat) (I' : q_I), sz ≤ sz' → q_CE T b bk tp B R I' L P → q_Ou b I L P I' L P → Q (.inl (some (qI (-2000000096)))) sz' T I' L P) : qC G 6 1 6 YL_land [.ref b, qI a, qI n] sz T I L P Q := by
  obtain ⟨V, f, cn, hC, hP⟩ := hE
  have hV := (hP.ro 0 (Nat.zero_le _)).1
  have hv := hV.1
  have hw2 := hv.month
  have hmany := hv.many
  have hlands := hv.lands
  have hrows := hv.rows
  have hmn : R 0 1 = ((R 0 1).toNat : Int) := by omega
  have hrn : R 0 6 = ((R 0 6).toNat : Int) := by omega
  have hm12 : (R 0 1).toNat ≤ 12 := by omega
  have hRW := (hP.ro 0 (Nat.zero_le _)).2.1
  have hZ := (hP.ro 0 (Nat.zero_le _)).2.2.1
  have hSL := (hP.ro 0 (Nat.zero_le _)).2.2.2
  have hvs : ∀ i : Nat, i < (R 0 1).toNat → g_VA (R 0) i (R 0 2) := fun i hi => by have q := hV.2.1 i (by omega); rwa [if_neg (Nat.not_lt_zero _)] at q
  refine mL_land (hx := 5) hC.st.t0 (fun Q1 k1 => ?_)
  refine qC.wide (h := 4) (mc := 1) (ms := 6) (by decide) (by decide) (by decide) ?_
  refine mX7_land0 hC.st hA hC.pv hC.ov rfl (hC.wr 0 (Nat.zero_le _)) hV ha9 hn (fun sz' hsz => ?_)
  refine k1 _ _ _ _ _ _ (q_LR.erI 0 rfl g_cNS ?_)
  have hr9 := hC.rf hP 0 (by decide) ((I b (7 + 0)) + 1)
  exact kA _ _ hsz hr9.1 hr9.2

set_option maxRecDepth 100000 in
theorem a_account0 {G : q_G} {sz : Nat} {T : q_T} {I L : q_I} {P : q_P} {Q : q_Q} {b bk tp : Nat} {B : Nat → Int} {R : Nat → Nat → Int} {a n : Int} (hA : q_A G b) (hE : q_CE T b bk tp B R I L P) (ha9 : -2147483648 ≤ a ∧ a < 2147483648) (hn : ¬ (0 ≤ a ∧ a < R 0 1)) (kA : ∀ (sz' : Nat) (I' : q_I), sz ≤ sz' → q_CE T b bk tp B R I' L P → q_Ou b I L P I' L P → Q (.inl (some (qI (-2000000096)))) sz' T I' L P) : qC G 5 1 6 YL_account [.ref b, qI a, qI n] sz T I L P Q := by
  obtain ⟨V, f, cn, hC, hP⟩ := hE
  have hV := (hP.ro 0 (Nat.zero_le _)).1
  have hv := hV.1
  have hw2 := hv.month
  have hmany := hv.many
  have hlands := hv.lands
  have hrows := hv.rows
  have hmn : R 0 1 = ((R 0 1).toNat : Int) := by omega
  have hrn : R 0 6 = ((R 0 6).toNat : Int) := by omega
  have hm12 : (R 0 1).toNat ≤ 12 := by omega
  have hRW := (hP.ro 0 (Nat.zero_le _)).2.1
  have hZ := (hP.ro 0 (Nat.zero_le _)).2.2.1
  have hSL := (hP.ro 0 (Nat.zero_le _)).2.2.2
  have hvs : ∀ i : Nat, i < (R 0 1).toNat → g_VA (R 0) i (R 0 2) := fun i hi => by have q := hV.2.1 i (by omega); rwa [if_neg (Nat.not_lt_zero _)] at q
  refine mL_account (hx := 4) hC.st.t0 (fun Q1 k1 => ?_)
  refine qC.wide (h := 4) (mc := 1) (ms := 6) (by decide) (by decide) (by decide) ?_
  refine mX7_account0 hC.st hA hC.pv hC.ov rfl (hC.wr 0 (Nat.zero_le _)) hV ha9 hn (fun sz' hsz => ?_)
  refine k1 _ _ _ _ _ _ (q_LR.erI 0 rfl g_cNS ?_)
  have hr9 := hC.rf hP 0 (by decide) ((I b (7 + 0)) + 1)
  exact kA _ _ hsz hr9.1 hr9.2

set_option maxRecDepth 100000 in
theorem a_contact0 {G : q_G} {sz : Nat} {T : q_T} {I L : q_I} {P : q_P} {Q : q_Q} {b bk tp : Nat} {B : Nat → Int} {R : Nat → Nat → Int} {a : Int} (hA : q_A G b) (hE : q_CE T b bk tp B R I L P) (ha9 : -2147483648 ≤ a ∧ a < 2147483648) (hn : ¬ (0 ≤ a ∧ a < R 0 1)) (kA : ∀ (sz' : Nat) (I' : q_I), sz ≤ sz' → q_CE T b bk tp B R I' L P → q_Ou b I L P I' L P → Q (.inl (some (qI (-2000000096)))) sz' T I' L P) : qC G 5 1 6 YL_contact [.ref b, qI a] sz T I L P Q := by
  obtain ⟨V, f, cn, hC, hP⟩ := hE
  have hV := (hP.ro 0 (Nat.zero_le _)).1
  have hv := hV.1
  have hw2 := hv.month
  have hmany := hv.many
  have hlands := hv.lands
  have hrows := hv.rows
  have hmn : R 0 1 = ((R 0 1).toNat : Int) := by omega
  have hrn : R 0 6 = ((R 0 6).toNat : Int) := by omega
  have hm12 : (R 0 1).toNat ≤ 12 := by omega
  have hRW := (hP.ro 0 (Nat.zero_le _)).2.1
  have hZ := (hP.ro 0 (Nat.zero_le _)).2.2.1
  have hSL := (hP.ro 0 (Nat.zero_le _)).2.2.2
  have hvs : ∀ i : Nat, i < (R 0 1).toNat → g_VA (R 0) i (R 0 2) := fun i hi => by have q := hV.2.1 i (by omega); rwa [if_neg (Nat.not_lt_zero _)] at q
  refine mL_contact (hx := 4) hC.st.t0 (fun Q1 k1 => ?_)
  refine qC.wide (h := 4) (mc := 1) (ms := 6) (by decide) (by decide) (by decide) ?_
  refine mX7_contact0 hC.st hA hC.pv hC.ov rfl (hC.wr 0 (Nat.zero_le _)) hV ha9 hn (fun sz' hsz => ?_)
  refine k1 _ _ _ _ _ _ (q_LR.erI 0 rfl g_cNS ?_)
  have hr9 := hC.rf hP 0 (by decide) ((I b (7 + 0)) + 1)
  exact kA _ _ hsz hr9.1 hr9.2

set_option maxRecDepth 100000 in
theorem a_deposit0 {G : q_G} {sz : Nat} {T : q_T} {I L : q_I} {P : q_P} {Q : q_Q} {b bk tp : Nat} {B : Nat → Int} {R : Nat → Nat → Int} {a n : Int} (hA : q_A G b) (hE : q_CE T b bk tp B R I L P) (ha9 : -2147483648 ≤ a ∧ a < 2147483648) (hn : ¬ (0 ≤ a ∧ a < R 0 1)) (kA : ∀ (sz' : Nat) (I' : q_I), sz ≤ sz' → q_CE T b bk tp B R I' L P → q_Ou b I L P I' L P → Q (.inl (some (qI (-2000000096)))) sz' T I' L P) : qC G 5 1 6 YL_deposit [.ref b, qI a, qI n] sz T I L P Q := by
  obtain ⟨V, f, cn, hC, hP⟩ := hE
  have hV := (hP.ro 0 (Nat.zero_le _)).1
  have hv := hV.1
  have hw2 := hv.month
  have hmany := hv.many
  have hlands := hv.lands
  have hrows := hv.rows
  have hmn : R 0 1 = ((R 0 1).toNat : Int) := by omega
  have hrn : R 0 6 = ((R 0 6).toNat : Int) := by omega
  have hm12 : (R 0 1).toNat ≤ 12 := by omega
  have hRW := (hP.ro 0 (Nat.zero_le _)).2.1
  have hZ := (hP.ro 0 (Nat.zero_le _)).2.2.1
  have hSL := (hP.ro 0 (Nat.zero_le _)).2.2.2
  have hvs : ∀ i : Nat, i < (R 0 1).toNat → g_VA (R 0) i (R 0 2) := fun i hi => by have q := hV.2.1 i (by omega); rwa [if_neg (Nat.not_lt_zero _)] at q
  refine mL_deposit (hx := 4) hC.st.t0 (fun Q1 k1 => ?_)
  refine qC.wide (h := 4) (mc := 1) (ms := 6) (by decide) (by decide) (by decide) ?_
  refine mX7_deposit0 hC.st hA hC.pv hC.ov rfl (hC.wr 0 (Nat.zero_le _)) hV ha9 hn (fun sz' hsz => ?_)
  refine k1 _ _ _ _ _ _ (q_LR.erI 0 rfl g_cNS ?_)
  have hr9 := hC.rf hP 0 (by decide) ((I b (7 + 0)) + 1)
  exact kA _ _ hsz hr9.1 hr9.2

set_option maxRecDepth 100000 in
theorem a_draw0 {G : q_G} {sz : Nat} {T : q_T} {I L : q_I} {P : q_P} {Q : q_Q} {b bk tp : Nat} {B : Nat → Int} {R : Nat → Nat → Int} {a n : Int} (hA : q_A G b) (hE : q_CE T b bk tp B R I L P) (ha9 : -2147483648 ≤ a ∧ a < 2147483648) (hn : ¬ (0 ≤ a ∧ a < R 0 1)) (kA : ∀ (sz' : Nat) (I' : q_I), sz ≤ sz' → q_CE T b bk tp B R I' L P → q_Ou b I L P I' L P → Q (.inl (some (qI (-2000000096)))) sz' T I' L P) : qC G 5 1 6 YL_draw [.ref b, qI a, qI n] sz T I L P Q := by
  obtain ⟨V, f, cn, hC, hP⟩ := hE
  have hV := (hP.ro 0 (Nat.zero_le _)).1
  have hv := hV.1
  have hw2 := hv.month
  have hmany := hv.many
  have hlands := hv.lands
  have hrows := hv.rows
  have hmn : R 0 1 = ((R 0 1).toNat : Int) := by omega
  have hrn : R 0 6 = ((R 0 6).toNat : Int) := by omega
  have hm12 : (R 0 1).toNat ≤ 12 := by omega
  have hRW := (hP.ro 0 (Nat.zero_le _)).2.1
  have hZ := (hP.ro 0 (Nat.zero_le _)).2.2.1
  have hSL := (hP.ro 0 (Nat.zero_le _)).2.2.2
  have hvs : ∀ i : Nat, i < (R 0 1).toNat → g_VA (R 0) i (R 0 2) := fun i hi => by have q := hV.2.1 i (by omega); rwa [if_neg (Nat.not_lt_zero _)] at q
  refine mL_draw (hx := 4) hC.st.t0 (fun Q1 k1 => ?_)
  refine qC.wide (h := 4) (mc := 1) (ms := 6) (by decide) (by decide) (by decide) ?_
  refine mX7_draw0 hC.st hA hC.pv hC.ov rfl (hC.wr 0 (Nat.zero_le _)) hV ha9 hn (fun sz' hsz => ?_)
  refine k1 _ _ _ _ _ _ (q_LR.erI 0 rfl g_cNS ?_)
  have hr9 := hC.rf hP 0 (by decide) ((I b (7 + 0)) + 1)
  exact kA _ _ hsz hr9.1 hr9.2

set_option maxRecDepth 100000 in
theorem a_address0 {G : q_G} {sz : Nat} {T : q_T} {I L : q_I} {P : q_P} {Q : q_Q} {b bk tp : Nat} {B : Nat → Int} {R : Nat → Nat → Int} {a n : Int} (hA : q_A G b) (hE : q_CE T b bk tp B R I L P) (ha9 : -2147483648 ≤ a ∧ a < 2147483648) (hn : ¬ (0 ≤ a ∧ a < R 0 1)) (kA : ∀ (sz' : Nat) (I' : q_I), sz ≤ sz' → q_CE T b bk tp B R I' L P → q_Ou b I L P I' L P → Q (.inl (some (qI (-2000000096)))) sz' T I' L P) : qC G 5 1 6 YL_address [.ref b, qI a, qI n] sz T I L P Q := by
  obtain ⟨V, f, cn, hC, hP⟩ := hE
  have hV := (hP.ro 0 (Nat.zero_le _)).1
  have hv := hV.1
  have hw2 := hv.month
  have hmany := hv.many
  have hlands := hv.lands
  have hrows := hv.rows
  have hmn : R 0 1 = ((R 0 1).toNat : Int) := by omega
  have hrn : R 0 6 = ((R 0 6).toNat : Int) := by omega
  have hm12 : (R 0 1).toNat ≤ 12 := by omega
  have hRW := (hP.ro 0 (Nat.zero_le _)).2.1
  have hZ := (hP.ro 0 (Nat.zero_le _)).2.2.1
  have hSL := (hP.ro 0 (Nat.zero_le _)).2.2.2
  have hvs : ∀ i : Nat, i < (R 0 1).toNat → g_VA (R 0) i (R 0 2) := fun i hi => by have q := hV.2.1 i (by omega); rwa [if_neg (Nat.not_lt_zero _)] at q
  refine mL_address (hx := 4) hC.st.t0 (fun Q1 k1 => ?_)
  refine qC.wide (h := 4) (mc := 1) (ms := 6) (by decide) (by decide) (by decide) ?_
  refine mX7_address0 hC.st hA hC.pv hC.ov rfl (hC.wr 0 (Nat.zero_le _)) hV ha9 hn (fun sz' hsz => ?_)
  refine k1 _ _ _ _ _ _ (q_LR.erI 0 rfl g_cNS ?_)
  have hr9 := hC.rf hP 0 (by decide) ((I b (7 + 0)) + 1)
  exact kA _ _ hsz hr9.1 hr9.2

set_option maxRecDepth 100000 in
theorem a_close0 {G : q_G} {sz : Nat} {T : q_T} {I L : q_I} {P : q_P} {Q : q_Q} {b bk tp : Nat} {B : Nat → Int} {R : Nat → Nat → Int} {a : Int} (hA : q_A G b) (hE : q_CE T b bk tp B R I L P) (ha9 : -2147483648 ≤ a ∧ a < 2147483648) (hn : ¬ (0 ≤ a ∧ a < R 0 1)) (kA : ∀ (sz' : Nat) (I' : q_I), sz ≤ sz' → q_CE T b bk tp B R I' L P → q_Ou b I L P I' L P → Q (.inl (some (qI (-2000000096)))) sz' T I' L P) : qC G 5 1 6 YL_close [.ref b, qI a] sz T I L P Q := by
  obtain ⟨V, f, cn, hC, hP⟩ := hE
  have hV := (hP.ro 0 (Nat.zero_le _)).1
  have hv := hV.1
  have hw2 := hv.month
  have hmany := hv.many
  have hlands := hv.lands
  have hrows := hv.rows
  have hmn : R 0 1 = ((R 0 1).toNat : Int) := by omega
  have hrn : R 0 6 = ((R 0 6).toNat : Int) := by omega
  have hm12 : (R 0 1).toNat ≤ 12 := by omega
  have hRW := (hP.ro 0 (Nat.zero_le _)).2.1
  have hZ := (hP.ro 0 (Nat.zero_le _)).2.2.1
  have hSL := (hP.ro 0 (Nat.zero_le _)).2.2.2
  have hvs : ∀ i : Nat, i < (R 0 1).toNat → g_VA (R 0) i (R 0 2) := fun i hi => by have q := hV.2.1 i (by omega); rwa [if_neg (Nat.not_lt_zero _)] at q
  refine mL_close (hx := 4) hC.st.t0 (fun Q1 k1 => ?_)
  refine qC.wide (h := 4) (mc := 1) (ms := 6) (by decide) (by decide) (by decide) ?_
  refine mX7_close0 hC.st hA hC.pv hC.ov rfl (hC.wr 0 (Nat.zero_le _)) hV ha9 hn (fun sz' hsz => ?_)
  refine k1 _ _ _ _ _ _ (q_LR.erI 0 rfl g_cNS ?_)
  have hr9 := hC.rf hP 0 (by decide) ((I b (7 + 0)) + 1)
  exact kA _ _ hsz hr9.1 hr9.2

set_option maxRecDepth 100000 in
theorem a_claim0 {G : q_G} {sz : Nat} {T : q_T} {I L : q_I} {P : q_P} {Q : q_Q} {b bk tp : Nat} {B : Nat → Int} {R : Nat → Nat → Int} {a : Int} (hA : q_A G b) (hE : q_CE T b bk tp B R I L P) (ha9 : -2147483648 ≤ a ∧ a < 2147483648) (hn : ¬ (0 ≤ a ∧ a < R 0 1)) (kA : ∀ (sz' : Nat) (I' : q_I), sz ≤ sz' → q_CE T b bk tp B R I' L P → q_Ou b I L P I' L P → Q (.inl (some (qL (-2000000096)))) sz' T I' L P) : qC G 5 1 6 YL_claim [.ref b, qI a] sz T I L P Q := by
  obtain ⟨V, f, cn, hC, hP⟩ := hE
  have hV := (hP.ro 0 (Nat.zero_le _)).1
  have hv := hV.1
  have hw2 := hv.month
  have hmany := hv.many
  have hlands := hv.lands
  have hrows := hv.rows
  have hmn : R 0 1 = ((R 0 1).toNat : Int) := by omega
  have hrn : R 0 6 = ((R 0 6).toNat : Int) := by omega
  have hm12 : (R 0 1).toNat ≤ 12 := by omega
  have hRW := (hP.ro 0 (Nat.zero_le _)).2.1
  have hZ := (hP.ro 0 (Nat.zero_le _)).2.2.1
  have hSL := (hP.ro 0 (Nat.zero_le _)).2.2.2
  have hvs : ∀ i : Nat, i < (R 0 1).toNat → g_VA (R 0) i (R 0 2) := fun i hi => by have q := hV.2.1 i (by omega); rwa [if_neg (Nat.not_lt_zero _)] at q
  refine mL_claim (hx := 4) hC.st.t0 (fun Q1 k1 => ?_)
  refine qC.wide (h := 4) (mc := 1) (ms := 6) (by decide) (by decide) (by decide) ?_
  refine mX7_claim0 hC.st hA hC.pv hC.ov rfl (hC.wr 0 (Nat.zero_le _)) hV ha9 hn (fun sz' hsz => ?_)
  refine k1 _ _ _ _ _ _ (q_LR.erL 0 rfl g_cNS ?_)
  have hr9 := hC.rf hP 0 (by decide) ((I b (7 + 0)) + 1)
  exact kA _ _ hsz hr9.1 hr9.2

set_option maxRecDepth 100000 in
theorem a_pass0 {G : q_G} {sz : Nat} {T : q_T} {I L : q_I} {P : q_P} {Q : q_Q} {b bk tp : Nat} {B : Nat → Int} {R : Nat → Nat → Int} {a : Int} (hA : q_A G b) (hE : q_CE T b bk tp B R I L P) (ha9 : -2147483648 ≤ a ∧ a < 2147483648) (hn : ¬ (0 ≤ a ∧ a < R 0 1)) (kA : ∀ (sz' : Nat) (I' : q_I), sz ≤ sz' → q_CE T b bk tp B R I' L P → q_Ou b I L P I' L P → Q (.inl (some (qI (-2000000096)))) sz' T I' L P) : qC G 5 1 6 YL_pass [.ref b, qI a] sz T I L P Q := by
  obtain ⟨V, f, cn, hC, hP⟩ := hE
  have hV := (hP.ro 0 (Nat.zero_le _)).1
  have hv := hV.1
  have hw2 := hv.month
  have hmany := hv.many
  have hlands := hv.lands
  have hrows := hv.rows
  have hmn : R 0 1 = ((R 0 1).toNat : Int) := by omega
  have hrn : R 0 6 = ((R 0 6).toNat : Int) := by omega
  have hm12 : (R 0 1).toNat ≤ 12 := by omega
  have hRW := (hP.ro 0 (Nat.zero_le _)).2.1
  have hZ := (hP.ro 0 (Nat.zero_le _)).2.2.1
  have hSL := (hP.ro 0 (Nat.zero_le _)).2.2.2
  have hvs : ∀ i : Nat, i < (R 0 1).toNat → g_VA (R 0) i (R 0 2) := fun i hi => by have q := hV.2.1 i (by omega); rwa [if_neg (Nat.not_lt_zero _)] at q
  refine mL_pass (hx := 4) hC.st.t0 (fun Q1 k1 => ?_)
  refine qC.wide (h := 4) (mc := 1) (ms := 6) (by decide) (by decide) (by decide) ?_
  refine mX7_pass0 hC.st hA hC.pv hC.ov rfl (hC.wr 0 (Nat.zero_le _)) hV ha9 hn (fun sz' hsz => ?_)
  refine k1 _ _ _ _ _ _ (q_LR.erI 0 rfl g_cNS ?_)
  have hr9 := hC.rf hP 0 (by decide) ((I b (7 + 0)) + 1)
  exact kA _ _ hsz hr9.1 hr9.2

set_option maxRecDepth 100000 in
theorem a_purse {G : q_G} {sz : Nat} {T : q_T} {I L : q_I} {P : q_P} {Q : q_Q} {b bk tp : Nat} {B : Nat → Int} {R : Nat → Nat → Int} {n v : Int} {l : Nat} (hA : q_A G b) (hE : q_CE T b bk tp B R I L P) (hl : (l : Int) < R 0 0) (hn : 0 ≤ n ∧ n ≤ 3) (hv0 : g_purseQ (R 0) l (R 0 1).toNat (R 0 6).toNat n = v) (k0 : Q (.inl (some (qL v))) sz T I L P) : qC G 7 1 6 YL_purse [.ref b, qI (l : Int), qI n] sz T I L P Q := by
  obtain ⟨V, f, cn, hC, hP⟩ := hE
  have hV := (hP.ro 0 (Nat.zero_le _)).1
  have hv := hV.1
  have hw2 := hv.month
  have hmany := hv.many
  have hlands := hv.lands
  have hrows := hv.rows
  have hmn : R 0 1 = ((R 0 1).toNat : Int) := by omega
  have hrn : R 0 6 = ((R 0 6).toNat : Int) := by omega
  have hm12 : (R 0 1).toNat ≤ 12 := by omega
  have hRW := (hP.ro 0 (Nat.zero_le _)).2.1
  have hZ := (hP.ro 0 (Nat.zero_le _)).2.2.1
  have hSL := (hP.ro 0 (Nat.zero_le _)).2.2.2
  have hvs : ∀ i : Nat, i < (R 0 1).toNat → g_VA (R 0) i (R 0 2) := fun i hi => by have q := hV.2.1 i (by omega); rwa [if_neg (Nat.not_lt_zero _)] at q
  refine mL_purse (hx := 6) hC.st.t0 (fun Q1 k1 => ?_)
  refine qC.wide (h := 6) (mc := 1) (ms := 6) (by decide) (by decide) (by decide) ?_
  refine mX7_purse hC.st hA hC.pv hC.ov rfl (hC.wr 0 (Nat.zero_le _)) hV hmn hrn hRW hl (by omega) (fun sz' hsz h1 => absurd hn h1) (fun _ => ?_)
  refine k1 _ _ _ _ _ _ (q_LR.okL ?_)
  rw [hv0]
  exact k0

set_option maxRecDepth 100000 in
theorem a_letter {G : q_G} {sz : Nat} {T : q_T} {I L : q_I} {P : q_P} {Q : q_Q} {b bk tp : Nat} {B : Nat → Int} {R : Nat → Nat → Int} {n : Int} {l : Nat} (hA : q_A G b) (hE : q_CE T b bk tp B R I L P) (hl : (l : Int) < R 0 0) (hn9 : -2147483648 ≤ n ∧ n < 2147483648) (hn : 0 ≤ n ∧ n < R 0 (30 + 13 * l)) (k0 : Q (.inl (some (qI (R 0 (24 + 13 * l + n.toNat))))) sz T I L P) : qC G 5 1 6 YL_letter [.ref b, qI (l : Int), qI n] sz T I L P Q := by
  obtain ⟨V, f, cn, hC, hP⟩ := hE
  have hV := (hP.ro 0 (Nat.zero_le _)).1
  have hv := hV.1
  have hw2 := hv.month
  have hmany := hv.many
  have hlands := hv.lands
  have hrows := hv.rows
  have hmn : R 0 1 = ((R 0 1).toNat : Int) := by omega
  have hrn : R 0 6 = ((R 0 6).toNat : Int) := by omega
  have hm12 : (R 0 1).toNat ≤ 12 := by omega
  have hRW := (hP.ro 0 (Nat.zero_le _)).2.1
  have hZ := (hP.ro 0 (Nat.zero_le _)).2.2.1
  have hSL := (hP.ro 0 (Nat.zero_le _)).2.2.2
  have hvs : ∀ i : Nat, i < (R 0 1).toNat → g_VA (R 0) i (R 0 2) := fun i hi => by have q := hV.2.1 i (by omega); rwa [if_neg (Nat.not_lt_zero _)] at q
  refine mL_letter (hx := 4) hC.st.t0 (fun Q1 k1 => ?_)
  refine qC.wide (h := 4) (mc := 1) (ms := 6) (by decide) (by decide) (by decide) ?_
  refine mX7_letter hC.st hA hC.pv hC.ov rfl (hC.wr 0 (Nat.zero_le _)) hV hl hn9 (fun sz' hsz h1 => absurd hn h1) (fun _ => ?_)
  refine k1 _ _ _ _ _ _ (q_LR.okI ?_)
  exact k0

set_option maxRecDepth 100000 in
theorem a_letter1 {G : q_G} {sz : Nat} {T : q_T} {I L : q_I} {P : q_P} {Q : q_Q} {b bk tp : Nat} {B : Nat → Int} {R : Nat → Nat → Int} {n : Int} {l : Nat} (hA : q_A G b) (hE : q_CE T b bk tp B R I L P) (hl : (l : Int) < R 0 0) (hn9 : -2147483648 ≤ n ∧ n < 2147483648) (hn : ¬ (0 ≤ n ∧ n < R 0 (30 + 13 * l))) (kA : ∀ (sz' : Nat) (I' : q_I), sz ≤ sz' → q_CE T b bk tp B R I' L P → q_Ou b I L P I' L P → Q (.inl (some (qI (-2000000096)))) sz' T I' L P) : qC G 5 1 6 YL_letter [.ref b, qI (l : Int), qI n] sz T I L P Q := by
  obtain ⟨V, f, cn, hC, hP⟩ := hE
  have hV := (hP.ro 0 (Nat.zero_le _)).1
  have hv := hV.1
  have hw2 := hv.month
  have hmany := hv.many
  have hlands := hv.lands
  have hrows := hv.rows
  have hmn : R 0 1 = ((R 0 1).toNat : Int) := by omega
  have hrn : R 0 6 = ((R 0 6).toNat : Int) := by omega
  have hm12 : (R 0 1).toNat ≤ 12 := by omega
  have hRW := (hP.ro 0 (Nat.zero_le _)).2.1
  have hZ := (hP.ro 0 (Nat.zero_le _)).2.2.1
  have hSL := (hP.ro 0 (Nat.zero_le _)).2.2.2
  have hvs : ∀ i : Nat, i < (R 0 1).toNat → g_VA (R 0) i (R 0 2) := fun i hi => by have q := hV.2.1 i (by omega); rwa [if_neg (Nat.not_lt_zero _)] at q
  refine mL_letter (hx := 4) hC.st.t0 (fun Q1 k1 => ?_)
  refine qC.wide (h := 4) (mc := 1) (ms := 6) (by decide) (by decide) (by decide) ?_
  refine mX7_letter hC.st hA hC.pv hC.ov rfl (hC.wr 0 (Nat.zero_le _)) hV hl hn9 (fun sz' hsz h1 => ?_) (fun h => absurd h hn)
  refine k1 _ _ _ _ _ _ (q_LR.erI 0 rfl g_cNS ?_)
  have hr9 := hC.rf hP 0 (by decide) ((I b (7 + 0)) + 1)
  exact kA _ _ hsz hr9.1 hr9.2

set_option maxRecDepth 100000 in
theorem a_account {G : q_G} {sz : Nat} {T : q_T} {I L : q_I} {P : q_P} {Q : q_Q} {b bk tp : Nat} {B : Nat → Int} {R : Nat → Nat → Int} {n v : Int} {i : Nat} (hA : q_A G b) (hE : q_CE T b bk tp B R I L P) (hi : (i : Int) < R 0 1) (hn : 0 ≤ n ∧ n ≤ 10) (hv0 : g_account (R 0) i n = v) (k0 : Q (.inl (some (qI v))) sz T I L P) : qC G 5 1 6 YL_account [.ref b, qI (i : Int), qI n] sz T I L P Q := by
  obtain ⟨V, f, cn, hC, hP⟩ := hE
  have hV := (hP.ro 0 (Nat.zero_le _)).1
  have hv := hV.1
  have hw2 := hv.month
  have hmany := hv.many
  have hlands := hv.lands
  have hrows := hv.rows
  have hmn : R 0 1 = ((R 0 1).toNat : Int) := by omega
  have hrn : R 0 6 = ((R 0 6).toNat : Int) := by omega
  have hm12 : (R 0 1).toNat ≤ 12 := by omega
  have hRW := (hP.ro 0 (Nat.zero_le _)).2.1
  have hZ := (hP.ro 0 (Nat.zero_le _)).2.2.1
  have hSL := (hP.ro 0 (Nat.zero_le _)).2.2.2
  have hvs : ∀ i : Nat, i < (R 0 1).toNat → g_VA (R 0) i (R 0 2) := fun i hi => by have q := hV.2.1 i (by omega); rwa [if_neg (Nat.not_lt_zero _)] at q
  refine mL_account (hx := 4) hC.st.t0 (fun Q1 k1 => ?_)
  refine qC.wide (h := 4) (mc := 1) (ms := 6) (by decide) (by decide) (by decide) ?_
  refine mX7_account hC.st hA hC.pv hC.ov rfl (hC.wr 0 (Nat.zero_le _)) hV hi (by omega) (fun sz' hsz h1 => absurd hn h1) (fun _ => ?_)
  refine k1 _ _ _ _ _ _ (q_LR.okI ?_)
  rw [hv0]
  exact k0

set_option maxRecDepth 100000 in
theorem a_sleep {G : q_G} {sz : Nat} {T : q_T} {I L : q_I} {P : q_P} {Q : q_Q} {b bk tp : Nat} {B : Nat → Int} {R : Nat → Nat → Int} {i : Nat} (hA : q_A G b) (hE : q_CE T b bk tp B R I L P) (hi : (i : Int) < R 0 1) (k0 : ∀ N : q_I, q_CE T b bk tp B R I N P → q_Ou b I L P I N P → Q (.inl (some (qI (g_sleepA (R 0) i)))) sz T I N P) : qC G 5 1 6 YL_sleep [.ref b, qI (i : Int)] sz T I L P Q := by
  obtain ⟨V, f, cn, hC, hP⟩ := hE
  have hV := (hP.ro 0 (Nat.zero_le _)).1
  have hv := hV.1
  have hw2 := hv.month
  have hmany := hv.many
  have hlands := hv.lands
  have hrows := hv.rows
  have hmn : R 0 1 = ((R 0 1).toNat : Int) := by omega
  have hrn : R 0 6 = ((R 0 6).toNat : Int) := by omega
  have hm12 : (R 0 1).toNat ≤ 12 := by omega
  have hRW := (hP.ro 0 (Nat.zero_le _)).2.1
  have hZ := (hP.ro 0 (Nat.zero_le _)).2.2.1
  have hSL := (hP.ro 0 (Nat.zero_le _)).2.2.2
  have hvs : ∀ i : Nat, i < (R 0 1).toNat → g_VA (R 0) i (R 0 2) := fun i hi => by have q := hV.2.1 i (by omega); rwa [if_neg (Nat.not_lt_zero _)] at q
  refine mL_sleep (hx := 4) hC.st.t0 (fun Q1 k1 => ?_)
  refine qC.wide (h := 4) (mc := 0) (ms := 0) (by decide) (by decide) (by decide) ?_
  refine mX7_sleep hC.st hA hC.pv hC.ov rfl (hC.wr 0 (Nat.zero_le _)) hV hi (fun N hN => ?_)
  refine k1 _ _ _ _ _ _ (q_LR.okI ?_)
  exact k0 N (hC.sl hP hN).1 (hC.sl hP hN).2

set_option maxRecDepth 100000 in
theorem a_worth {G : q_G} {sz : Nat} {T : q_T} {I L : q_I} {P : q_P} {Q : q_Q} {b bk tp : Nat} {B : Nat → Int} {R : Nat → Nat → Int} {n : Int} {i : Nat} (hA : q_A G b) (hE : q_CE T b bk tp B R I L P) (hi : (i : Int) < R 0 1) (hn : 0 ≤ n ∧ n ≤ 600) (k0 : Q (.inl (some (qL (g_worth (R 0) i n)))) sz T I L P) : qC G 5 1 6 YL_worth [.ref b, qI (i : Int), qI n] sz T I L P Q := by
  obtain ⟨V, f, cn, hC, hP⟩ := hE
  have hV := (hP.ro 0 (Nat.zero_le _)).1
  have hv := hV.1
  have hw2 := hv.month
  have hmany := hv.many
  have hlands := hv.lands
  have hrows := hv.rows
  have hmn : R 0 1 = ((R 0 1).toNat : Int) := by omega
  have hrn : R 0 6 = ((R 0 6).toNat : Int) := by omega
  have hm12 : (R 0 1).toNat ≤ 12 := by omega
  have hRW := (hP.ro 0 (Nat.zero_le _)).2.1
  have hZ := (hP.ro 0 (Nat.zero_le _)).2.2.1
  have hSL := (hP.ro 0 (Nat.zero_le _)).2.2.2
  have hvs : ∀ i : Nat, i < (R 0 1).toNat → g_VA (R 0) i (R 0 2) := fun i hi => by have q := hV.2.1 i (by omega); rwa [if_neg (Nat.not_lt_zero _)] at q
  refine mL_worth (hx := 4) hC.st.t0 (fun Q1 k1 => ?_)
  refine qC.wide (h := 4) (mc := 1) (ms := 6) (by decide) (by decide) (by decide) ?_
  refine mX7_worth hC.st hA hC.pv hC.ov rfl (hC.wr 0 (Nat.zero_le _)) hV hi (by omega) (fun sz' hsz h1 => absurd hn h1) (fun _ => ?_)
  refine k1 _ _ _ _ _ _ (q_LR.okL ?_)
  exact k0

set_option maxRecDepth 100000 in
theorem a_row {G : q_G} {sz : Nat} {T : q_T} {I L : q_I} {P : q_P} {Q : q_Q} {b bk tp : Nat} {B : Nat → Int} {R : Nat → Nat → Int} {k n : Int} (hA : q_A G b) (hE : q_CE T b bk tp B R I L P) (hk : 0 ≤ k ∧ k < R 0 6) (hn : 0 ≤ n ∧ n ≤ 4) (k0 : Q (.inl (some (qI (R 0 (1183 + 5 * k.toNat + n.toNat))))) sz T I L P) : qC G 4 1 6 YL_row [.ref b, qI k, qI n] sz T I L P Q := by
  obtain ⟨V, f, cn, hC, hP⟩ := hE
  have hV := (hP.ro 0 (Nat.zero_le _)).1
  have hv := hV.1
  have hw2 := hv.month
  have hmany := hv.many
  have hlands := hv.lands
  have hrows := hv.rows
  have hmn : R 0 1 = ((R 0 1).toNat : Int) := by omega
  have hrn : R 0 6 = ((R 0 6).toNat : Int) := by omega
  have hm12 : (R 0 1).toNat ≤ 12 := by omega
  have hRW := (hP.ro 0 (Nat.zero_le _)).2.1
  have hZ := (hP.ro 0 (Nat.zero_le _)).2.2.1
  have hSL := (hP.ro 0 (Nat.zero_le _)).2.2.2
  have hvs : ∀ i : Nat, i < (R 0 1).toNat → g_VA (R 0) i (R 0 2) := fun i hi => by have q := hV.2.1 i (by omega); rwa [if_neg (Nat.not_lt_zero _)] at q
  refine mL_row (hx := 3) hC.st.t0 (fun Q1 k1 => ?_)
  refine qC.wide (h := 3) (mc := 1) (ms := 6) (by decide) (by decide) (by decide) ?_
  refine mX7_row hC.st hA hC.pv hC.ov rfl (hC.wr 0 (Nat.zero_le _)) hV (by omega) (by omega) (fun sz' hsz _ h1 => absurd hn h1) (fun sz' hsz h1 => absurd hk h1) (fun _ _ => ?_)
  refine k1 _ _ _ _ _ _ (q_LR.okI ?_)
  exact k0

set_option maxRecDepth 100000 in
theorem a_row0 {G : q_G} {sz : Nat} {T : q_T} {I L : q_I} {P : q_P} {Q : q_Q} {b bk tp : Nat} {B : Nat → Int} {R : Nat → Nat → Int} {k n : Int} (hA : q_A G b) (hE : q_CE T b bk tp B R I L P) (hk9 : -2147483648 ≤ k ∧ k < 2147483648) (hn9 : -2147483648 ≤ n ∧ n < 2147483648) (hk : ¬ (0 ≤ k ∧ k < R 0 6)) (kA : ∀ (sz' : Nat) (I' : q_I), sz ≤ sz' → q_CE T b bk tp B R I' L P → q_Ou b I L P I' L P → Q (.inl (some (qI (-2000000096)))) sz' T I' L P) : qC G 4 1 6 YL_row [.ref b, qI k, qI n] sz T I L P Q := by
  obtain ⟨V, f, cn, hC, hP⟩ := hE
  have hV := (hP.ro 0 (Nat.zero_le _)).1
  have hv := hV.1
  have hw2 := hv.month
  have hmany := hv.many
  have hlands := hv.lands
  have hrows := hv.rows
  have hmn : R 0 1 = ((R 0 1).toNat : Int) := by omega
  have hrn : R 0 6 = ((R 0 6).toNat : Int) := by omega
  have hm12 : (R 0 1).toNat ≤ 12 := by omega
  have hRW := (hP.ro 0 (Nat.zero_le _)).2.1
  have hZ := (hP.ro 0 (Nat.zero_le _)).2.2.1
  have hSL := (hP.ro 0 (Nat.zero_le _)).2.2.2
  have hvs : ∀ i : Nat, i < (R 0 1).toNat → g_VA (R 0) i (R 0 2) := fun i hi => by have q := hV.2.1 i (by omega); rwa [if_neg (Nat.not_lt_zero _)] at q
  refine mL_row (hx := 3) hC.st.t0 (fun Q1 k1 => ?_)
  refine qC.wide (h := 3) (mc := 1) (ms := 6) (by decide) (by decide) (by decide) ?_
  refine mX7_row hC.st hA hC.pv hC.ov rfl (hC.wr 0 (Nat.zero_le _)) hV hk9 hn9 (fun sz' hsz h _ => absurd h hk) (fun sz' hsz h1 => ?_) (fun h => absurd h hk)
  refine k1 _ _ _ _ _ _ (q_LR.erI 0 rfl g_cNS ?_)
  have hr9 := hC.rf hP 0 (by decide) ((I b (7 + 0)) + 1)
  exact kA _ _ hsz hr9.1 hr9.2

set_option maxRecDepth 100000 in
theorem a_books {G : q_G} {sz : Nat} {T : q_T} {I L : q_I} {P : q_P} {Q : q_Q} {b bk tp : Nat} {B : Nat → Int} {R : Nat → Nat → Int} {n v : Int} (hA : q_A G b) (hE : q_CE T b bk tp B R I L P) (hn : 0 ≤ n ∧ n ≤ 6) (hv0 : g_booksQ (R 0) (R 0 1).toNat n = v) (k0 : Q (.inl (some (qL v))) sz T I L P) : qC G 7 1 6 YL_books [.ref b, qI n] sz T I L P Q := by
  obtain ⟨V, f, cn, hC, hP⟩ := hE
  have hV := (hP.ro 0 (Nat.zero_le _)).1
  have hv := hV.1
  have hw2 := hv.month
  have hmany := hv.many
  have hlands := hv.lands
  have hrows := hv.rows
  have hmn : R 0 1 = ((R 0 1).toNat : Int) := by omega
  have hrn : R 0 6 = ((R 0 6).toNat : Int) := by omega
  have hm12 : (R 0 1).toNat ≤ 12 := by omega
  have hRW := (hP.ro 0 (Nat.zero_le _)).2.1
  have hZ := (hP.ro 0 (Nat.zero_le _)).2.2.1
  have hSL := (hP.ro 0 (Nat.zero_le _)).2.2.2
  have hvs : ∀ i : Nat, i < (R 0 1).toNat → g_VA (R 0) i (R 0 2) := fun i hi => by have q := hV.2.1 i (by omega); rwa [if_neg (Nat.not_lt_zero _)] at q
  refine mL_books (hx := 6) hC.st.t0 (fun Q1 k1 => ?_)
  refine qC.wide (h := 6) (mc := 1) (ms := 6) (by decide) (by decide) (by decide) ?_
  refine mX7_books hC.st hA hC.pv hC.ov rfl (hC.wr 0 (Nat.zero_le _)) hV hmn (by omega) (fun sz' hsz h1 => absurd hn h1) (fun _ => ?_)
  refine k1 _ _ _ _ _ _ (q_LR.okL ?_)
  rw [hv0]
  exact k0

set_option maxRecDepth 100000 in
theorem a_contact {G : q_G} {sz : Nat} {T : q_T} {I L : q_I} {P : q_P} {Q : q_Q} {b bk tp : Nat} {B : Nat → Int} {R : Nat → Nat → Int} {i : Nat} (hA : q_A G b) (hE : q_CE T b bk tp B R I L P) (hi : (i : Int) < R 0 1) (ho : R 0 (1043 + 12 * i) = 0 ∨ R 0 (1043 + 12 * i) = 1) (k0 : ∀ (M N : q_I) (P9 : q_P), q_CE T b (g_nb bk) tp B (g_Rn R bk (g_ocontact (R 0) i)) M N P9 → q_Ou b I L P M N P9 → Q (.inl (some (qI (R 0 (1045 + 12 * i))))) sz T M N P9) : qC G 5 1 6 YL_contact [.ref b, qI (i : Int)] sz T I L P Q := by
  obtain ⟨V, f, cn, hC, hP⟩ := hE
  have hV := (hP.ro 0 (Nat.zero_le _)).1
  have hv := hV.1
  have hw2 := hv.month
  have hmany := hv.many
  have hlands := hv.lands
  have hrows := hv.rows
  have hmn : R 0 1 = ((R 0 1).toNat : Int) := by omega
  have hrn : R 0 6 = ((R 0 6).toNat : Int) := by omega
  have hm12 : (R 0 1).toNat ≤ 12 := by omega
  have hRW := (hP.ro 0 (Nat.zero_le _)).2.1
  have hZ := (hP.ro 0 (Nat.zero_le _)).2.2.1
  have hSL := (hP.ro 0 (Nat.zero_le _)).2.2.2
  have hvs : ∀ i : Nat, i < (R 0 1).toNat → g_VA (R 0) i (R 0 2) := fun i hi => by have q := hV.2.1 i (by omega); rwa [if_neg (Nat.not_lt_zero _)] at q
  refine mL_contact (hx := 4) hC.st.t0 (fun Q1 k1 => ?_)
  refine qC.wide (h := 4) (mc := 1) (ms := 6) (by decide) (by decide) (by decide) ?_
  refine mX7_contact hC.st hA hC.pv hC.ov rfl (hC.wr 0 (Nat.zero_le _)) hV hC.b8 hP.bk hi (fun sz' hsz h => absurd ho h) (fun M N P9 V9 _ hAF => ?_)
  have hro : q_RO (g_ocontact (R 0) i) := q_RO.of (b := R 0 2) (g_ocontact_VM hV hi ho) (g_ocontact_n (by omega) (by omega)) (g_ocontact_RW hRW (by omega)) (g_ocontact_Z hZ (by omega)) (g_ocontact_SL hSL)
  refine k1 _ _ _ _ _ _ (q_LR.okI ?_)
  exact k0 _ _ _ (hAF.ce hC hP hro).1 (hAF.ce hC hP hro).2

set_option maxRecDepth 100000 in
theorem a_close {G : q_G} {sz : Nat} {T : q_T} {I L : q_I} {P : q_P} {Q : q_Q} {b bk tp : Nat} {B : Nat → Int} {R : Nat → Nat → Int} {i : Nat} (hA : q_A G b) (hE : q_CE T b bk tp B R I L P) (hi : (i : Int) < R 0 1) (ho : R 0 (1043 + 12 * i) = 0 ∨ R 0 (1043 + 12 * i) = 1) (k0 : ∀ (M N : q_I) (P9 : q_P), q_CE T b (g_nb bk) tp B (g_Rn R bk (g_oclose (R 0) i)) M N P9 → q_Ou b I L P M N P9 → Q (.inl (some (qI (R 0 (1042 + 12 * i))))) sz T M N P9) : qC G 5 1 6 YL_close [.ref b, qI (i : Int)] sz T I L P Q := by
  obtain ⟨V, f, cn, hC, hP⟩ := hE
  have hV := (hP.ro 0 (Nat.zero_le _)).1
  have hv := hV.1
  have hw2 := hv.month
  have hmany := hv.many
  have hlands := hv.lands
  have hrows := hv.rows
  have hmn : R 0 1 = ((R 0 1).toNat : Int) := by omega
  have hrn : R 0 6 = ((R 0 6).toNat : Int) := by omega
  have hm12 : (R 0 1).toNat ≤ 12 := by omega
  have hRW := (hP.ro 0 (Nat.zero_le _)).2.1
  have hZ := (hP.ro 0 (Nat.zero_le _)).2.2.1
  have hSL := (hP.ro 0 (Nat.zero_le _)).2.2.2
  have hvs : ∀ i : Nat, i < (R 0 1).toNat → g_VA (R 0) i (R 0 2) := fun i hi => by have q := hV.2.1 i (by omega); rwa [if_neg (Nat.not_lt_zero _)] at q
  refine mL_close (hx := 4) hC.st.t0 (fun Q1 k1 => ?_)
  refine qC.wide (h := 4) (mc := 1) (ms := 6) (by decide) (by decide) (by decide) ?_
  refine mX7_close hC.st hA hC.pv hC.ov rfl (hC.wr 0 (Nat.zero_le _)) hV hC.b8 hP.bk hi (fun sz' hsz h => absurd ho h) (fun M N P9 V9 _ hAF => ?_)
  have hro : q_RO (g_oclose (R 0) i) := q_RO.of (b := R 0 2) (g_oclose_VM hV hi ho) (g_oclose_n (by omega) (by omega) (by omega)) (g_oclose_RW hRW (by omega)) (g_oclose_Z hZ (by omega)) (g_oclose_SL hSL)
  refine k1 _ _ _ _ _ _ (q_LR.okI ?_)
  exact k0 _ _ _ (hAF.ce hC hP hro).1 (hAF.ce hC hP hro).2

set_option maxRecDepth 100000 in
theorem a_contact2 {G : q_G} {sz : Nat} {T : q_T} {I L : q_I} {P : q_P} {Q : q_Q} {b bk tp : Nat} {B : Nat → Int} {R : Nat → Nat → Int} {i : Nat} (hA : q_A G b) (hE : q_CE T b bk tp B R I L P) (hi : (i : Int) < R 0 1) (ho : ¬ (R 0 (1043 + 12 * i) = 0 ∨ R 0 (1043 + 12 * i) = 1)) (kA : ∀ (sz' : Nat) (I' : q_I), sz ≤ sz' → q_CE T b bk tp B R I' L P → q_Ou b I L P I' L P → Q (.inl (some (qI (-2000000099)))) sz' T I' L P) : qC G 5 1 6 YL_contact [.ref b, qI (i : Int)] sz T I L P Q := by
  obtain ⟨V, f, cn, hC, hP⟩ := hE
  have hV := (hP.ro 0 (Nat.zero_le _)).1
  have hv := hV.1
  have hw2 := hv.month
  have hmany := hv.many
  have hlands := hv.lands
  have hrows := hv.rows
  have hmn : R 0 1 = ((R 0 1).toNat : Int) := by omega
  have hrn : R 0 6 = ((R 0 6).toNat : Int) := by omega
  have hm12 : (R 0 1).toNat ≤ 12 := by omega
  have hRW := (hP.ro 0 (Nat.zero_le _)).2.1
  have hZ := (hP.ro 0 (Nat.zero_le _)).2.2.1
  have hSL := (hP.ro 0 (Nat.zero_le _)).2.2.2
  have hvs : ∀ i : Nat, i < (R 0 1).toNat → g_VA (R 0) i (R 0 2) := fun i hi => by have q := hV.2.1 i (by omega); rwa [if_neg (Nat.not_lt_zero _)] at q
  refine mL_contact (hx := 4) hC.st.t0 (fun Q1 k1 => ?_)
  refine qC.wide (h := 4) (mc := 1) (ms := 6) (by decide) (by decide) (by decide) ?_
  refine mX7_contact hC.st hA hC.pv hC.ov rfl (hC.wr 0 (Nat.zero_le _)) hV hC.b8 hP.bk hi (fun sz' hsz h => ?_) (fun M N P9 V9 h _ => absurd h ho)
  refine k1 _ _ _ _ _ _ (q_LR.erI 1 rfl g_cIS ?_)
  have hr9 := hC.rf hP 2 (by decide) ((I b (7 + 2)) + 1)
  exact kA _ _ hsz hr9.1 hr9.2

set_option maxRecDepth 100000 in
theorem a_deposit {G : q_G} {sz : Nat} {T : q_T} {I L : q_I} {P : q_P} {Q : q_Q} {b bk tp : Nat} {B : Nat → Int} {R : Nat → Nat → Int} {i : Nat} {c : Int} (hA : q_A G b) (hE : q_CE T b bk tp B R I L P) (hi : (i : Int) < R 0 1) (hc : 1 ≤ c ∧ c ≤ 1000000) (ho : (R 0 (1043 + 12 * i) = 0 ∨ R 0 (1043 + 12 * i) = 1) ∧ R 0 (1042 + 12 * i) + c ≤ 100000000) (k0 : ∀ (M N : q_I) (P9 : q_P), q_CE T b (g_nb bk) tp B (g_Rn R bk (g_odeposit (R 0) i c)) M N P9 → q_Ou b I L P M N P9 → Q (.inl (some (qI (R 0 (1042 + 12 * i) + c)))) sz T M N P9) : qC G 5 1 6 YL_deposit [.ref b, qI (i : Int), qI c] sz T I L P Q := by
  obtain ⟨V, f, cn, hC, hP⟩ := hE
  have hV := (hP.ro 0 (Nat.zero_le _)).1
  have hv := hV.1
  have hw2 := hv.month
  have hmany := hv.many
  have hlands := hv.lands
  have hrows := hv.rows
  have hmn : R 0 1 = ((R 0 1).toNat : Int) := by omega
  have hrn : R 0 6 = ((R 0 6).toNat : Int) := by omega
  have hm12 : (R 0 1).toNat ≤ 12 := by omega
  have hRW := (hP.ro 0 (Nat.zero_le _)).2.1
  have hZ := (hP.ro 0 (Nat.zero_le _)).2.2.1
  have hSL := (hP.ro 0 (Nat.zero_le _)).2.2.2
  have hvs : ∀ i : Nat, i < (R 0 1).toNat → g_VA (R 0) i (R 0 2) := fun i hi => by have q := hV.2.1 i (by omega); rwa [if_neg (Nat.not_lt_zero _)] at q
  refine mL_deposit (hx := 4) hC.st.t0 (fun Q1 k1 => ?_)
  refine qC.wide (h := 4) (mc := 1) (ms := 6) (by decide) (by decide) (by decide) ?_
  refine mX7_deposit hC.st hA hC.pv hC.ov rfl (hC.wr 0 (Nat.zero_le _)) hV hC.b8 hP.bk hi (by omega) (fun sz' hsz _ h => absurd ho h) (fun sz' hsz h => absurd hc h) (fun M N P9 V9 _ _ hAF => ?_)
  have hro : q_RO (g_odeposit (R 0) i c) := q_RO.of (b := R 0 2) (g_odeposit_VM hV hi ho.1 ⟨hc.1, ho.2⟩) (g_odeposit_n (by omega) (by omega) (by omega) (by omega)) (g_odeposit_RW hRW (by omega)) (g_odeposit_Z hZ (by omega)) (g_odeposit_SL hSL)
  refine k1 _ _ _ _ _ _ (q_LR.okI ?_)
  exact k0 _ _ _ (hAF.ce hC hP hro).1 (hAF.ce hC hP hro).2

set_option maxRecDepth 100000 in
theorem a_deposit2 {G : q_G} {sz : Nat} {T : q_T} {I L : q_I} {P : q_P} {Q : q_Q} {b bk tp : Nat} {B : Nat → Int} {R : Nat → Nat → Int} {i : Nat} {c : Int} (hA : q_A G b) (hE : q_CE T b bk tp B R I L P) (hi : (i : Int) < R 0 1) (hc : 1 ≤ c ∧ c ≤ 1000000) (ho : ¬ ((R 0 (1043 + 12 * i) = 0 ∨ R 0 (1043 + 12 * i) = 1) ∧ R 0 (1042 + 12 * i) + c ≤ 100000000)) (kA : ∀ (sz' : Nat) (I' : q_I), sz ≤ sz' → q_CE T b bk tp B R I' L P → q_Ou b I L P I' L P → Q (.inl (some (qI (-2000000099)))) sz' T I' L P) : qC G 5 1 6 YL_deposit [.ref b, qI (i : Int), qI c] sz T I L P Q := by
  obtain ⟨V, f, cn, hC, hP⟩ := hE
  have hV := (hP.ro 0 (Nat.zero_le _)).1
  have hv := hV.1
  have hw2 := hv.month
  have hmany := hv.many
  have hlands := hv.lands
  have hrows := hv.rows
  have hmn : R 0 1 = ((R 0 1).toNat : Int) := by omega
  have hrn : R 0 6 = ((R 0 6).toNat : Int) := by omega
  have hm12 : (R 0 1).toNat ≤ 12 := by omega
  have hRW := (hP.ro 0 (Nat.zero_le _)).2.1
  have hZ := (hP.ro 0 (Nat.zero_le _)).2.2.1
  have hSL := (hP.ro 0 (Nat.zero_le _)).2.2.2
  have hvs : ∀ i : Nat, i < (R 0 1).toNat → g_VA (R 0) i (R 0 2) := fun i hi => by have q := hV.2.1 i (by omega); rwa [if_neg (Nat.not_lt_zero _)] at q
  refine mL_deposit (hx := 4) hC.st.t0 (fun Q1 k1 => ?_)
  refine qC.wide (h := 4) (mc := 1) (ms := 6) (by decide) (by decide) (by decide) ?_
  refine mX7_deposit hC.st hA hC.pv hC.ov rfl (hC.wr 0 (Nat.zero_le _)) hV hC.b8 hP.bk hi (by omega) (fun sz' hsz _ h => ?_) (fun sz' hsz h => absurd hc h) (fun M N P9 V9 _ h _ => absurd h ho)
  refine k1 _ _ _ _ _ _ (q_LR.erI 2 rfl g_cIS ?_)
  have hr9 := hC.rf hP 2 (by decide) ((I b (7 + 2)) + 1)
  exact kA _ _ hsz hr9.1 hr9.2

set_option maxRecDepth 100000 in
theorem a_deposit1 {G : q_G} {sz : Nat} {T : q_T} {I L : q_I} {P : q_P} {Q : q_Q} {b bk tp : Nat} {B : Nat → Int} {R : Nat → Nat → Int} {i : Nat} {c : Int} (hA : q_A G b) (hE : q_CE T b bk tp B R I L P) (hi : (i : Int) < R 0 1) (hc9 : -2147483648 ≤ c ∧ c < 2147483648) (hc : ¬ (1 ≤ c ∧ c ≤ 1000000)) (kA : ∀ (sz' : Nat) (I' : q_I), sz ≤ sz' → q_CE T b bk tp B R I' L P → q_Ou b I L P I' L P → Q (.inl (some (qI (-2000000098)))) sz' T I' L P) : qC G 5 1 6 YL_deposit [.ref b, qI (i : Int), qI c] sz T I L P Q := by
  obtain ⟨V, f, cn, hC, hP⟩ := hE
  have hV := (hP.ro 0 (Nat.zero_le _)).1
  have hv := hV.1
  have hw2 := hv.month
  have hmany := hv.many
  have hlands := hv.lands
  have hrows := hv.rows
  have hmn : R 0 1 = ((R 0 1).toNat : Int) := by omega
  have hrn : R 0 6 = ((R 0 6).toNat : Int) := by omega
  have hm12 : (R 0 1).toNat ≤ 12 := by omega
  have hRW := (hP.ro 0 (Nat.zero_le _)).2.1
  have hZ := (hP.ro 0 (Nat.zero_le _)).2.2.1
  have hSL := (hP.ro 0 (Nat.zero_le _)).2.2.2
  have hvs : ∀ i : Nat, i < (R 0 1).toNat → g_VA (R 0) i (R 0 2) := fun i hi => by have q := hV.2.1 i (by omega); rwa [if_neg (Nat.not_lt_zero _)] at q
  refine mL_deposit (hx := 4) hC.st.t0 (fun Q1 k1 => ?_)
  refine qC.wide (h := 4) (mc := 1) (ms := 6) (by decide) (by decide) (by decide) ?_
  refine mX7_deposit hC.st hA hC.pv hC.ov rfl (hC.wr 0 (Nat.zero_le _)) hV hC.b8 hP.bk hi hc9 (fun sz' hsz h _ => absurd h hc) (fun sz' hsz h => ?_) (fun M N P9 V9 h _ _ => absurd h hc)
  refine k1 _ _ _ _ _ _ (q_LR.erI 1 rfl g_cIA ?_)
  have hr9 := hC.rf hP 1 (by decide) ((I b (7 + 1)) + 1)
  exact kA _ _ hsz hr9.1 hr9.2

set_option maxRecDepth 100000 in
theorem a_draw {G : q_G} {sz : Nat} {T : q_T} {I L : q_I} {P : q_P} {Q : q_Q} {b bk tp : Nat} {B : Nat → Int} {R : Nat → Nat → Int} {i : Nat} {c : Int} (hA : q_A G b) (hE : q_CE T b bk tp B R I L P) (hi : (i : Int) < R 0 1) (hc : 1 ≤ c ∧ c ≤ 1000000) (ho : (R 0 (1043 + 12 * i) = 0 ∨ R 0 (1043 + 12 * i) = 1) ∧ c ≤ R 0 (1042 + 12 * i)) (k0 : ∀ (M N : q_I) (P9 : q_P), q_CE T b (g_nb bk) tp B (g_Rn R bk (g_odraw (R 0) i c)) M N P9 → q_Ou b I L P M N P9 → Q (.inl (some (qI (R 0 (1042 + 12 * i) + -c)))) sz T M N P9) : qC G 5 1 6 YL_draw [.ref b, qI (i : Int), qI c] sz T I L P Q := by
  obtain ⟨V, f, cn, hC, hP⟩ := hE
  have hV := (hP.ro 0 (Nat.zero_le _)).1
  have hv := hV.1
  have hw2 := hv.month
  have hmany := hv.many
  have hlands := hv.lands
  have hrows := hv.rows
  have hmn : R 0 1 = ((R 0 1).toNat : Int) := by omega
  have hrn : R 0 6 = ((R 0 6).toNat : Int) := by omega
  have hm12 : (R 0 1).toNat ≤ 12 := by omega
  have hRW := (hP.ro 0 (Nat.zero_le _)).2.1
  have hZ := (hP.ro 0 (Nat.zero_le _)).2.2.1
  have hSL := (hP.ro 0 (Nat.zero_le _)).2.2.2
  have hvs : ∀ i : Nat, i < (R 0 1).toNat → g_VA (R 0) i (R 0 2) := fun i hi => by have q := hV.2.1 i (by omega); rwa [if_neg (Nat.not_lt_zero _)] at q
  refine mL_draw (hx := 4) hC.st.t0 (fun Q1 k1 => ?_)
  refine qC.wide (h := 4) (mc := 1) (ms := 6) (by decide) (by decide) (by decide) ?_
  refine mX7_draw hC.st hA hC.pv hC.ov rfl (hC.wr 0 (Nat.zero_le _)) hV hC.b8 hP.bk hi (by omega) (fun sz' hsz _ h => absurd ho h) (fun sz' hsz h => absurd hc h) (fun M N P9 V9 _ _ hAF => ?_)
  have hro : q_RO (g_odraw (R 0) i c) := q_RO.of (b := R 0 2) (g_odraw_VM hV hi ho.1 ⟨hc.1, ho.2⟩) (g_odraw_n (by omega) (by omega) (by omega) (by omega)) (g_odraw_RW hRW (by omega)) (g_odraw_Z hZ (by omega)) (g_odraw_SL hSL)
  refine k1 _ _ _ _ _ _ (q_LR.okI ?_)
  exact k0 _ _ _ (hAF.ce hC hP hro).1 (hAF.ce hC hP hro).2

set_option maxRecDepth 100000 in
theorem a_draw2 {G : q_G} {sz : Nat} {T : q_T} {I L : q_I} {P : q_P} {Q : q_Q} {b bk tp : Nat} {B : Nat → Int} {R : Nat → Nat → Int} {i : Nat} {c : Int} (hA : q_A G b) (hE : q_CE T b bk tp B R I L P) (hi : (i : Int) < R 0 1) (hc : 1 ≤ c ∧ c ≤ 1000000) (ho : ¬ ((R 0 (1043 + 12 * i) = 0 ∨ R 0 (1043 + 12 * i) = 1) ∧ c ≤ R 0 (1042 + 12 * i))) (kA : ∀ (sz' : Nat) (I' : q_I), sz ≤ sz' → q_CE T b bk tp B R I' L P → q_Ou b I L P I' L P → Q (.inl (some (qI (-2000000099)))) sz' T I' L P) : qC G 5 1 6 YL_draw [.ref b, qI (i : Int), qI c] sz T I L P Q := by
  obtain ⟨V, f, cn, hC, hP⟩ := hE
  have hV := (hP.ro 0 (Nat.zero_le _)).1
  have hv := hV.1
  have hw2 := hv.month
  have hmany := hv.many
  have hlands := hv.lands
  have hrows := hv.rows
  have hmn : R 0 1 = ((R 0 1).toNat : Int) := by omega
  have hrn : R 0 6 = ((R 0 6).toNat : Int) := by omega
  have hm12 : (R 0 1).toNat ≤ 12 := by omega
  have hRW := (hP.ro 0 (Nat.zero_le _)).2.1
  have hZ := (hP.ro 0 (Nat.zero_le _)).2.2.1
  have hSL := (hP.ro 0 (Nat.zero_le _)).2.2.2
  have hvs : ∀ i : Nat, i < (R 0 1).toNat → g_VA (R 0) i (R 0 2) := fun i hi => by have q := hV.2.1 i (by omega); rwa [if_neg (Nat.not_lt_zero _)] at q
  refine mL_draw (hx := 4) hC.st.t0 (fun Q1 k1 => ?_)
  refine qC.wide (h := 4) (mc := 1) (ms := 6) (by decide) (by decide) (by decide) ?_
  refine mX7_draw hC.st hA hC.pv hC.ov rfl (hC.wr 0 (Nat.zero_le _)) hV hC.b8 hP.bk hi (by omega) (fun sz' hsz _ h => ?_) (fun sz' hsz h => absurd hc h) (fun M N P9 V9 _ h _ => absurd h ho)
  refine k1 _ _ _ _ _ _ (q_LR.erI 2 rfl g_cIS ?_)
  have hr9 := hC.rf hP 2 (by decide) ((I b (7 + 2)) + 1)
  exact kA _ _ hsz hr9.1 hr9.2

set_option maxRecDepth 100000 in
theorem a_draw1 {G : q_G} {sz : Nat} {T : q_T} {I L : q_I} {P : q_P} {Q : q_Q} {b bk tp : Nat} {B : Nat → Int} {R : Nat → Nat → Int} {i : Nat} {c : Int} (hA : q_A G b) (hE : q_CE T b bk tp B R I L P) (hi : (i : Int) < R 0 1) (hc9 : -2147483648 ≤ c ∧ c < 2147483648) (hc : ¬ (1 ≤ c ∧ c ≤ 1000000)) (kA : ∀ (sz' : Nat) (I' : q_I), sz ≤ sz' → q_CE T b bk tp B R I' L P → q_Ou b I L P I' L P → Q (.inl (some (qI (-2000000098)))) sz' T I' L P) : qC G 5 1 6 YL_draw [.ref b, qI (i : Int), qI c] sz T I L P Q := by
  obtain ⟨V, f, cn, hC, hP⟩ := hE
  have hV := (hP.ro 0 (Nat.zero_le _)).1
  have hv := hV.1
  have hw2 := hv.month
  have hmany := hv.many
  have hlands := hv.lands
  have hrows := hv.rows
  have hmn : R 0 1 = ((R 0 1).toNat : Int) := by omega
  have hrn : R 0 6 = ((R 0 6).toNat : Int) := by omega
  have hm12 : (R 0 1).toNat ≤ 12 := by omega
  have hRW := (hP.ro 0 (Nat.zero_le _)).2.1
  have hZ := (hP.ro 0 (Nat.zero_le _)).2.2.1
  have hSL := (hP.ro 0 (Nat.zero_le _)).2.2.2
  have hvs : ∀ i : Nat, i < (R 0 1).toNat → g_VA (R 0) i (R 0 2) := fun i hi => by have q := hV.2.1 i (by omega); rwa [if_neg (Nat.not_lt_zero _)] at q
  refine mL_draw (hx := 4) hC.st.t0 (fun Q1 k1 => ?_)
  refine qC.wide (h := 4) (mc := 1) (ms := 6) (by decide) (by decide) (by decide) ?_
  refine mX7_draw hC.st hA hC.pv hC.ov rfl (hC.wr 0 (Nat.zero_le _)) hV hC.b8 hP.bk hi hc9 (fun sz' hsz h _ => absurd h hc) (fun sz' hsz h => ?_) (fun M N P9 V9 h _ _ => absurd h hc)
  refine k1 _ _ _ _ _ _ (q_LR.erI 1 rfl g_cIA ?_)
  have hr9 := hC.rf hP 1 (by decide) ((I b (7 + 1)) + 1)
  exact kA _ _ hsz hr9.1 hr9.2

set_option maxRecDepth 100000 in
theorem a_address {G : q_G} {sz : Nat} {T : q_T} {I L : q_I} {P : q_P} {Q : q_Q} {b bk tp : Nat} {B : Nat → Int} {R : Nat → Nat → Int} {i : Nat} {l : Int} (hA : q_A G b) (hE : q_CE T b bk tp B R I L P) (hi : (i : Int) < R 0 1) (hl : l = -1 ∨ 0 ≤ l ∧ l < R 0 0) (k0 : ∀ (M N : q_I) (P9 : q_P), q_CE T b (g_nb bk) tp B (g_Rn R bk (g_oaddress (R 0) i l)) M N P9 → q_Ou b I L P M N P9 → Q (.inl (some (qI (R 0 (1040 + 12 * i))))) sz T M N P9) : qC G 5 1 6 YL_address [.ref b, qI (i : Int), qI l] sz T I L P Q := by
  obtain ⟨V, f, cn, hC, hP⟩ := hE
  have hV := (hP.ro 0 (Nat.zero_le _)).1
  have hv := hV.1
  have hw2 := hv.month
  have hmany := hv.many
  have hlands := hv.lands
  have hrows := hv.rows
  have hmn : R 0 1 = ((R 0 1).toNat : Int) := by omega
  have hrn : R 0 6 = ((R 0 6).toNat : Int) := by omega
  have hm12 : (R 0 1).toNat ≤ 12 := by omega
  have hRW := (hP.ro 0 (Nat.zero_le _)).2.1
  have hZ := (hP.ro 0 (Nat.zero_le _)).2.2.1
  have hSL := (hP.ro 0 (Nat.zero_le _)).2.2.2
  have hvs : ∀ i : Nat, i < (R 0 1).toNat → g_VA (R 0) i (R 0 2) := fun i hi => by have q := hV.2.1 i (by omega); rwa [if_neg (Nat.not_lt_zero _)] at q
  refine mL_address (hx := 4) hC.st.t0 (fun Q1 k1 => ?_)
  refine qC.wide (h := 4) (mc := 1) (ms := 6) (by decide) (by decide) (by decide) ?_
  refine mX7_address hC.st hA hC.pv hC.ov rfl (hC.wr 0 (Nat.zero_le _)) hV hC.b8 hP.bk hi (by omega) (fun sz' hsz h => absurd hl h) (fun M N P9 V9 _ hAF => ?_)
  have hro : q_RO (g_oaddress (R 0) i l) := q_RO.of (b := R 0 2) (g_oaddress_VM hV hi hl) (g_oaddress_n (by omega)) (g_oaddress_RW hRW (by omega)) (g_oaddress_Z hZ (by omega)) (g_oaddress_SL hSL)
  refine k1 _ _ _ _ _ _ (q_LR.okI ?_)
  exact k0 _ _ _ (hAF.ce hC hP hro).1 (hAF.ce hC hP hro).2

set_option maxRecDepth 100000 in
theorem a_address1 {G : q_G} {sz : Nat} {T : q_T} {I L : q_I} {P : q_P} {Q : q_Q} {b bk tp : Nat} {B : Nat → Int} {R : Nat → Nat → Int} {i : Nat} {l : Int} (hA : q_A G b) (hE : q_CE T b bk tp B R I L P) (hi : (i : Int) < R 0 1) (hl9 : -2147483648 ≤ l ∧ l < 2147483648) (hl : ¬ (l = -1 ∨ 0 ≤ l ∧ l < R 0 0)) (kA : ∀ (sz' : Nat) (I' : q_I), sz ≤ sz' → q_CE T b bk tp B R I' L P → q_Ou b I L P I' L P → Q (.inl (some (qI (-2000000096)))) sz' T I' L P) : qC G 5 1 6 YL_address [.ref b, qI (i : Int), qI l] sz T I L P Q := by
  obtain ⟨V, f, cn, hC, hP⟩ := hE
  have hV := (hP.ro 0 (Nat.zero_le _)).1
  have hv := hV.1
  have hw2 := hv.month
  have hmany := hv.many
  have hlands := hv.lands
  have hrows := hv.rows
  have hmn : R 0 1 = ((R 0 1).toNat : Int) := by omega
  have hrn : R 0 6 = ((R 0 6).toNat : Int) := by omega
  have hm12 : (R 0 1).toNat ≤ 12 := by omega
  have hRW := (hP.ro 0 (Nat.zero_le _)).2.1
  have hZ := (hP.ro 0 (Nat.zero_le _)).2.2.1
  have hSL := (hP.ro 0 (Nat.zero_le _)).2.2.2
  have hvs : ∀ i : Nat, i < (R 0 1).toNat → g_VA (R 0) i (R 0 2) := fun i hi => by have q := hV.2.1 i (by omega); rwa [if_neg (Nat.not_lt_zero _)] at q
  refine mL_address (hx := 4) hC.st.t0 (fun Q1 k1 => ?_)
  refine qC.wide (h := 4) (mc := 1) (ms := 6) (by decide) (by decide) (by decide) ?_
  refine mX7_address hC.st hA hC.pv hC.ov rfl (hC.wr 0 (Nat.zero_le _)) hV hC.b8 hP.bk hi hl9 (fun sz' hsz h => ?_) (fun M N P9 V9 h _ => absurd h hl)
  refine k1 _ _ _ _ _ _ (q_LR.erI 0 rfl g_cNS ?_)
  have hr9 := hC.rf hP 0 (by decide) ((I b (7 + 0)) + 1)
  exact kA _ _ hsz hr9.1 hr9.2

set_option maxRecDepth 100000 in
theorem a_claim {G : q_G} {sz : Nat} {T : q_T} {I L : q_I} {P : q_P} {Q : q_Q} {b bk tp : Nat} {B : Nat → Int} {R : Nat → Nat → Int} {i l : Nat} (hA : q_A G b) (hE : q_CE T b bk tp B R I L P) (hi : (i : Int) < R 0 1) (hl : R 0 (1047 + 12 * i) = (l : Int)) (ho : R 0 (1043 + 12 * i) = 2 ∧ R 0 (1049 + 12 * i) = 0) (k0 : ∀ (M N : q_I) (P9 : q_P), q_CE T b (g_nb bk) tp B (g_Rn R bk (g_oclaim (R 0) i l)) M N P9 → q_Ou b I L P M N P9 → Q (.inl (some (qL (R 0 (1042 + 12 * i) + g_interest (R 0) i 0)))) sz T M N P9) : qC G 5 1 6 YL_claim [.ref b, qI (i : Int)] sz T I L P Q := by
  obtain ⟨V, f, cn, hC, hP⟩ := hE
  have hV := (hP.ro 0 (Nat.zero_le _)).1
  have hv := hV.1
  have hw2 := hv.month
  have hmany := hv.many
  have hlands := hv.lands
  have hrows := hv.rows
  have hmn : R 0 1 = ((R 0 1).toNat : Int) := by omega
  have hrn : R 0 6 = ((R 0 6).toNat : Int) := by omega
  have hm12 : (R 0 1).toNat ≤ 12 := by omega
  have hRW := (hP.ro 0 (Nat.zero_le _)).2.1
  have hZ := (hP.ro 0 (Nat.zero_le _)).2.2.1
  have hSL := (hP.ro 0 (Nat.zero_le _)).2.2.2
  have hvs : ∀ i : Nat, i < (R 0 1).toNat → g_VA (R 0) i (R 0 2) := fun i hi => by have q := hV.2.1 i (by omega); rwa [if_neg (Nat.not_lt_zero _)] at q
  refine mL_claim (hx := 4) hC.st.t0 (fun Q1 k1 => ?_)
  refine qC.wide (h := 4) (mc := 1) (ms := 6) (by decide) (by decide) (by decide) ?_
  refine mX7_claim hC.st hA hC.pv hC.ov rfl (hC.wr 0 (Nat.zero_le _)) hV hC.b8 hP.bk hi (fun sz' hsz h => absurd ho h) (fun M N P9 V9 l9 hl1 hl2 _ hAF => ?_)
  obtain rfl : l9 = l := by omega
  have hl5 : l9 < 5 := by omega
  have hro : q_RO (g_oclaim (R 0) i l9) := q_RO.of (b := R 0 2) (g_oclaim_VM hV hi ho.1 hl5) (g_oclaim_n (by omega) (by omega) (by omega) (by omega)) (g_oclaim_RW hRW (by omega) hl5) (g_oclaim_Z hZ (by omega) hl5) (g_oclaim_SL hSL hl5)
  refine k1 _ _ _ _ _ _ (q_LR.okL ?_)
  exact k0 _ _ _ (hAF.ce hC hP hro).1 (hAF.ce hC hP hro).2

set_option maxRecDepth 100000 in
theorem a_claim2 {G : q_G} {sz : Nat} {T : q_T} {I L : q_I} {P : q_P} {Q : q_Q} {b bk tp : Nat} {B : Nat → Int} {R : Nat → Nat → Int} {i : Nat} (hA : q_A G b) (hE : q_CE T b bk tp B R I L P) (hi : (i : Int) < R 0 1) (ho : ¬ (R 0 (1043 + 12 * i) = 2 ∧ R 0 (1049 + 12 * i) = 0)) (kA : ∀ (sz' : Nat) (I' : q_I), sz ≤ sz' → q_CE T b bk tp B R I' L P → q_Ou b I L P I' L P → Q (.inl (some (qL (-2000000099)))) sz' T I' L P) : qC G 5 1 6 YL_claim [.ref b, qI (i : Int)] sz T I L P Q := by
  obtain ⟨V, f, cn, hC, hP⟩ := hE
  have hV := (hP.ro 0 (Nat.zero_le _)).1
  have hv := hV.1
  have hw2 := hv.month
  have hmany := hv.many
  have hlands := hv.lands
  have hrows := hv.rows
  have hmn : R 0 1 = ((R 0 1).toNat : Int) := by omega
  have hrn : R 0 6 = ((R 0 6).toNat : Int) := by omega
  have hm12 : (R 0 1).toNat ≤ 12 := by omega
  have hRW := (hP.ro 0 (Nat.zero_le _)).2.1
  have hZ := (hP.ro 0 (Nat.zero_le _)).2.2.1
  have hSL := (hP.ro 0 (Nat.zero_le _)).2.2.2
  have hvs : ∀ i : Nat, i < (R 0 1).toNat → g_VA (R 0) i (R 0 2) := fun i hi => by have q := hV.2.1 i (by omega); rwa [if_neg (Nat.not_lt_zero _)] at q
  refine mL_claim (hx := 4) hC.st.t0 (fun Q1 k1 => ?_)
  refine qC.wide (h := 4) (mc := 1) (ms := 6) (by decide) (by decide) (by decide) ?_
  refine mX7_claim hC.st hA hC.pv hC.ov rfl (hC.wr 0 (Nat.zero_le _)) hV hC.b8 hP.bk hi (fun sz' hsz h => ?_) (fun M N P9 V9 l9 _ _ h _ => absurd h ho)
  refine k1 _ _ _ _ _ _ (q_LR.erL 1 rfl g_cIS ?_)
  have hr9 := hC.rf hP 2 (by decide) ((I b (7 + 2)) + 1)
  exact kA _ _ hsz hr9.1 hr9.2

set_option maxRecDepth 100000 in
theorem a_pass {G : q_G} {sz : Nat} {T : q_T} {I L : q_I} {P : q_P} {Q : q_Q} {b bk tp : Nat} {B : Nat → Int} {R : Nat → Nat → Int} {i l : Nat} (hA : q_A G b) (hE : q_CE T b bk tp B R I L P) (hi : (i : Int) < R 0 1) (hl : g_bel (R 0) i = (l : Int)) (ho : R 0 (1043 + 12 * i) = 2 ∧ g_bel (R 0) i ≠ -1 ∧ g_bel (R 0) i ≠ R 0 (1047 + 12 * i)) (k0 : ∀ (M N : q_I) (P9 : q_P), q_CE T b (g_nb bk) tp B (g_Rn R bk (g_opass (R 0) i l)) M N P9 → q_Ou b I L P M N P9 → Q (.inl (some (qI (l : Int)))) sz T M N P9) : qC G 5 1 6 YL_pass [.ref b, qI (i : Int)] sz T I L P Q := by
  obtain ⟨V, f, cn, hC, hP⟩ := hE
  have hV := (hP.ro 0 (Nat.zero_le _)).1
  have hv := hV.1
  have hw2 := hv.month
  have hmany := hv.many
  have hlands := hv.lands
  have hrows := hv.rows
  have hmn : R 0 1 = ((R 0 1).toNat : Int) := by omega
  have hrn : R 0 6 = ((R 0 6).toNat : Int) := by omega
  have hm12 : (R 0 1).toNat ≤ 12 := by omega
  have hRW := (hP.ro 0 (Nat.zero_le _)).2.1
  have hZ := (hP.ro 0 (Nat.zero_le _)).2.2.1
  have hSL := (hP.ro 0 (Nat.zero_le _)).2.2.2
  have hvs : ∀ i : Nat, i < (R 0 1).toNat → g_VA (R 0) i (R 0 2) := fun i hi => by have q := hV.2.1 i (by omega); rwa [if_neg (Nat.not_lt_zero _)] at q
  refine mL_pass (hx := 4) hC.st.t0 (fun Q1 k1 => ?_)
  refine qC.wide (h := 4) (mc := 1) (ms := 6) (by decide) (by decide) (by decide) ?_
  refine mX7_pass hC.st hA hC.pv hC.ov rfl (hC.wr 0 (Nat.zero_le _)) hV hC.b8 hP.bk hi (fun sz' hsz h => absurd ho h) (fun M N P9 V9 l9 hl1 _ hAF => ?_)
  obtain rfl : l9 = l := by omega
  have hVA := hvs i (by omega)
  have hlr := (g_bel_tk hv hVA ho.2.1).1
  rw [hl1] at hlr
  have hl5 : l9 < 5 := by omega
  have hro : q_RO (g_opass (R 0) i l9) := q_RO.of (b := R 0 2) (g_opass_VM hV hi ho.1 hlr.2.1) (g_opass_n (by omega) (by omega)) (g_opass_RW hRW (by omega) hl5) (g_opass_Z hZ (by omega) hl5) (g_opass_SL hSL hl5)
  refine k1 _ _ _ _ _ _ (q_LR.okI ?_)
  exact k0 _ _ _ (hAF.ce hC hP hro).1 (hAF.ce hC hP hro).2

set_option maxRecDepth 100000 in
theorem a_pass2 {G : q_G} {sz : Nat} {T : q_T} {I L : q_I} {P : q_P} {Q : q_Q} {b bk tp : Nat} {B : Nat → Int} {R : Nat → Nat → Int} {i : Nat} (hA : q_A G b) (hE : q_CE T b bk tp B R I L P) (hi : (i : Int) < R 0 1) (ho : ¬ (R 0 (1043 + 12 * i) = 2 ∧ g_bel (R 0) i ≠ -1 ∧ g_bel (R 0) i ≠ R 0 (1047 + 12 * i))) (kA : ∀ (sz' : Nat) (I' : q_I), sz ≤ sz' → q_CE T b bk tp B R I' L P → q_Ou b I L P I' L P → Q (.inl (some (qI (-2000000099)))) sz' T I' L P) : qC G 5 1 6 YL_pass [.ref b, qI (i : Int)] sz T I L P Q := by
  obtain ⟨V, f, cn, hC, hP⟩ := hE
  have hV := (hP.ro 0 (Nat.zero_le _)).1
  have hv := hV.1
  have hw2 := hv.month
  have hmany := hv.many
  have hlands := hv.lands
  have hrows := hv.rows
  have hmn : R 0 1 = ((R 0 1).toNat : Int) := by omega
  have hrn : R 0 6 = ((R 0 6).toNat : Int) := by omega
  have hm12 : (R 0 1).toNat ≤ 12 := by omega
  have hRW := (hP.ro 0 (Nat.zero_le _)).2.1
  have hZ := (hP.ro 0 (Nat.zero_le _)).2.2.1
  have hSL := (hP.ro 0 (Nat.zero_le _)).2.2.2
  have hvs : ∀ i : Nat, i < (R 0 1).toNat → g_VA (R 0) i (R 0 2) := fun i hi => by have q := hV.2.1 i (by omega); rwa [if_neg (Nat.not_lt_zero _)] at q
  refine mL_pass (hx := 4) hC.st.t0 (fun Q1 k1 => ?_)
  refine qC.wide (h := 4) (mc := 1) (ms := 6) (by decide) (by decide) (by decide) ?_
  refine mX7_pass hC.st hA hC.pv hC.ov rfl (hC.wr 0 (Nat.zero_le _)) hV hC.b8 hP.bk hi (fun sz' hsz h => ?_) (fun M N P9 V9 l9 _ h _ => absurd h ho)
  refine k1 _ _ _ _ _ _ (q_LR.erI 1 rfl g_cIS ?_)
  have hr9 := hC.rf hP 2 (by decide) ((I b (7 + 2)) + 1)
  exact kA _ _ hsz hr9.1 hr9.2

set_option maxRecDepth 100000 in
theorem a_months {G : q_G} {sz : Nat} {T : q_T} {I L : q_I} {P : q_P} {Q : q_Q} {b bk tp : Nat} {B : Nat → Int} {R : Nat → Nat → Int} {n : Nat} (hA : q_A G b) (hE : q_CE T b bk tp B R I L P) (hn : 1 ≤ n ∧ n ≤ 120) (h6 : R 0 2 + n ≤ 6000) (k0 : ∀ (M N : q_I) (P9 : q_P), q_CE T b (g_nb bk) tp B (g_Rn R bk ((g_months n (R 0)).2)) M N P9 → q_Ou b I L P M N P9 → Q (.inl (some (qI (g_months n (R 0)).1))) sz T M N P9) : qC G 8 1 6 YL_months [.ref b, qI (n : Int)] sz T I L P Q := by
  obtain ⟨V, f, cn, hC, hP⟩ := hE
  have hV := (hP.ro 0 (Nat.zero_le _)).1
  have hv := hV.1
  have hw2 := hv.month
  have hmany := hv.many
  have hlands := hv.lands
  have hrows := hv.rows
  have hmn : R 0 1 = ((R 0 1).toNat : Int) := by omega
  have hrn : R 0 6 = ((R 0 6).toNat : Int) := by omega
  have hm12 : (R 0 1).toNat ≤ 12 := by omega
  have hRW := (hP.ro 0 (Nat.zero_le _)).2.1
  have hZ := (hP.ro 0 (Nat.zero_le _)).2.2.1
  have hSL := (hP.ro 0 (Nat.zero_le _)).2.2.2
  have hvs : ∀ i : Nat, i < (R 0 1).toNat → g_VA (R 0) i (R 0 2) := fun i hi => by have q := hV.2.1 i (by omega); rwa [if_neg (Nat.not_lt_zero _)] at q
  refine mL_months (hx := 7) hC.st.t0 (fun Q1 k1 => ?_)
  refine qC.wide (h := 7) (mc := 1) (ms := 6) (by decide) (by decide) (by decide) ?_
  refine mX7_months hC.st hA hC.pv hC.ov rfl (hC.wr 0 (Nat.zero_le _)) hV hC.b8 hP.bk hZ hn (fun sz' hsz h => absurd h6 h) (fun M N P9 V9 _ hAF => ?_)
  have hro : q_RO ((g_months n (R 0)).2) := (hP.ro 0 (Nat.zero_le _)).months n
  refine k1 _ _ _ _ _ _ (q_LR.okI ?_)
  exact k0 _ _ _ (hAF.ce hC hP hro).1 (hAF.ce hC hP hro).2

set_option maxRecDepth 100000 in
theorem a_months1 {G : q_G} {sz : Nat} {T : q_T} {I L : q_I} {P : q_P} {Q : q_Q} {b bk tp : Nat} {B : Nat → Int} {R : Nat → Nat → Int} {n : Int} (hA : q_A G b) (hE : q_CE T b bk tp B R I L P) (hn9 : -2147483648 ≤ n ∧ n < 2147483648) (hn : ¬ (1 ≤ n ∧ n ≤ 120)) (kA : ∀ (sz' : Nat) (I' : q_I), sz ≤ sz' → q_CE T b bk tp B R I' L P → q_Ou b I L P I' L P → Q (.inl (some (qI (-2000000098)))) sz' T I' L P) : qC G 8 1 6 YL_months [.ref b, qI n] sz T I L P Q := by
  obtain ⟨V, f, cn, hC, hP⟩ := hE
  have hV := (hP.ro 0 (Nat.zero_le _)).1
  have hv := hV.1
  have hw2 := hv.month
  have hmany := hv.many
  have hlands := hv.lands
  have hrows := hv.rows
  have hmn : R 0 1 = ((R 0 1).toNat : Int) := by omega
  have hrn : R 0 6 = ((R 0 6).toNat : Int) := by omega
  have hm12 : (R 0 1).toNat ≤ 12 := by omega
  have hRW := (hP.ro 0 (Nat.zero_le _)).2.1
  have hZ := (hP.ro 0 (Nat.zero_le _)).2.2.1
  have hSL := (hP.ro 0 (Nat.zero_le _)).2.2.2
  have hvs : ∀ i : Nat, i < (R 0 1).toNat → g_VA (R 0) i (R 0 2) := fun i hi => by have q := hV.2.1 i (by omega); rwa [if_neg (Nat.not_lt_zero _)] at q
  refine mL_months (hx := 7) hC.st.t0 (fun Q1 k1 => ?_)
  refine qC.wide (h := 7) (mc := 1) (ms := 6) (by decide) (by decide) (by decide) ?_
  refine mX7_months0 hC.st hA hC.pv hC.ov rfl (hC.wr 0 (Nat.zero_le _)) hV hn9 hn (fun sz' hsz => ?_)
  refine k1 _ _ _ _ _ _ (q_LR.erI 0 rfl g_cIA ?_)
  have hr9 := hC.rf hP 1 (by decide) ((I b (7 + 1)) + 1)
  exact kA _ _ hsz hr9.1 hr9.2

set_option maxRecDepth 100000 in
theorem a_open {G : q_G} {sz : Nat} {T : q_T} {I L : q_I} {P : q_P} {Q : q_Q} {b bk tp : Nat} {B : Nat → Int} {R : Nat → Nat → Int} {kd ad bi ce : Int} (hA : q_A G b) (hE : q_CE T b bk tp B R I L P) (hkd9 : -2147483648 ≤ kd ∧ kd < 2147483648) (had9 : -2147483648 ≤ ad ∧ ad < 2147483648) (hbi9 : -2147483648 ≤ bi ∧ bi < 2147483648) (hce9 : -2147483648 ≤ ce ∧ ce < 2147483648) (h1 : (ad = -1 ∨ 0 ≤ ad ∧ ad < R 0 0) ∧ (bi = -1 ∨ 0 ≤ bi ∧ bi < R 0 0)) (h2 : (0 ≤ kd ∧ kd ≤ 4) ∧ 0 ≤ ce ∧ ce ≤ 100000000) (h3 : R 0 1 < 12) (k0 : ∀ (M N : q_I) (P9 : q_P), q_CE T b (g_nb bk) tp B (g_Rn R bk (g_oopen (R 0) (R 0 1).toNat kd ad bi ce)) M N P9 → q_Ou b I L P M N P9 → Q (.inl (some (qI (R 0 1)))) sz T M N P9) : qC G 5 1 6 YL_open [.ref b, qI kd, qI ad, qI bi, qI ce] sz T I L P Q := by
  obtain ⟨V, f, cn, hC, hP⟩ := hE
  have hV := (hP.ro 0 (Nat.zero_le _)).1
  have hv := hV.1
  have hw2 := hv.month
  have hmany := hv.many
  have hlands := hv.lands
  have hrows := hv.rows
  have hmn : R 0 1 = ((R 0 1).toNat : Int) := by omega
  have hrn : R 0 6 = ((R 0 6).toNat : Int) := by omega
  have hm12 : (R 0 1).toNat ≤ 12 := by omega
  have hRW := (hP.ro 0 (Nat.zero_le _)).2.1
  have hZ := (hP.ro 0 (Nat.zero_le _)).2.2.1
  have hSL := (hP.ro 0 (Nat.zero_le _)).2.2.2
  have hvs : ∀ i : Nat, i < (R 0 1).toNat → g_VA (R 0) i (R 0 2) := fun i hi => by have q := hV.2.1 i (by omega); rwa [if_neg (Nat.not_lt_zero _)] at q
  refine mL_open (hx := 4) hC.st.t0 (fun Q1 k1 => ?_)
  refine qC.wide (h := 4) (mc := 1) (ms := 6) (by decide) (by decide) (by decide) ?_
  refine mX7_open hC.st hA hC.pv hC.ov rfl (hC.wr 0 (Nat.zero_le _)) hV hC.b8 hP.bk hmn hkd9 had9 hbi9 hce9 (fun sz' hsz x1 => absurd h1 x1) (fun sz' hsz x1 x2 => absurd h2 x2) (fun sz' hsz x1 x2 x3 => absurd x3 (by omega)) (fun M N P9 V9 x1 x2 x3 hAF => ?_)
  rw [← hmn]
  have hro : q_RO (g_oopen (R 0) (R 0 1).toNat kd ad bi ce) := q_RO.of (b := R 0 2) (g_oopen_VM hV hw2.1 hmn x3 x2.1 x1.1 x1.2 x2.2) (g_oopen_n (by omega) (by omega) (by omega)) (g_oopen_RW hRW x3) (g_oopen_Z hZ x3) (g_oopen_SL hSL hmn x3)
  refine k1 _ _ _ _ _ _ (q_LR.okI ?_)
  exact k0 _ _ _ (hAF.ce hC hP hro).1 (hAF.ce hC hP hro).2

set_option maxRecDepth 100000 in
theorem a_open0 {G : q_G} {sz : Nat} {T : q_T} {I L : q_I} {P : q_P} {Q : q_Q} {b bk tp : Nat} {B : Nat → Int} {R : Nat → Nat → Int} {kd ad bi ce : Int} (hA : q_A G b) (hE : q_CE T b bk tp B R I L P) (hkd9 : -2147483648 ≤ kd ∧ kd < 2147483648) (had9 : -2147483648 ≤ ad ∧ ad < 2147483648) (hbi9 : -2147483648 ≤ bi ∧ bi < 2147483648) (hce9 : -2147483648 ≤ ce ∧ ce < 2147483648) (h1 : ¬ ((ad = -1 ∨ 0 ≤ ad ∧ ad < R 0 0) ∧ (bi = -1 ∨ 0 ≤ bi ∧ bi < R 0 0))) (kA : ∀ (sz' : Nat) (I' : q_I), sz ≤ sz' → q_CE T b bk tp B R I' L P → q_Ou b I L P I' L P → Q (.inl (some (qI (-2000000096)))) sz' T I' L P) : qC G 5 1 6 YL_open [.ref b, qI kd, qI ad, qI bi, qI ce] sz T I L P Q := by
  obtain ⟨V, f, cn, hC, hP⟩ := hE
  have hV := (hP.ro 0 (Nat.zero_le _)).1
  have hv := hV.1
  have hw2 := hv.month
  have hmany := hv.many
  have hlands := hv.lands
  have hrows := hv.rows
  have hmn : R 0 1 = ((R 0 1).toNat : Int) := by omega
  have hrn : R 0 6 = ((R 0 6).toNat : Int) := by omega
  have hm12 : (R 0 1).toNat ≤ 12 := by omega
  have hRW := (hP.ro 0 (Nat.zero_le _)).2.1
  have hZ := (hP.ro 0 (Nat.zero_le _)).2.2.1
  have hSL := (hP.ro 0 (Nat.zero_le _)).2.2.2
  have hvs : ∀ i : Nat, i < (R 0 1).toNat → g_VA (R 0) i (R 0 2) := fun i hi => by have q := hV.2.1 i (by omega); rwa [if_neg (Nat.not_lt_zero _)] at q
  refine mL_open (hx := 4) hC.st.t0 (fun Q1 k1 => ?_)
  refine qC.wide (h := 4) (mc := 1) (ms := 6) (by decide) (by decide) (by decide) ?_
  refine mX7_open hC.st hA hC.pv hC.ov rfl (hC.wr 0 (Nat.zero_le _)) hV hC.b8 hP.bk hmn hkd9 had9 hbi9 hce9 (fun sz' hsz x1 => ?_) (fun sz' hsz x1 x2 => absurd x1 h1) (fun sz' hsz x1 x2 x3 => absurd x1 h1) (fun M N P9 V9 x1 x2 x3 hAF => absurd x1 h1)
  refine k1 _ _ _ _ _ _ (q_LR.erI 0 rfl g_cNS ?_)
  have hr9 := hC.rf hP 0 (by decide) ((I b (7 + 0)) + 1)
  exact kA _ _ hsz hr9.1 hr9.2

set_option maxRecDepth 100000 in
theorem a_open1 {G : q_G} {sz : Nat} {T : q_T} {I L : q_I} {P : q_P} {Q : q_Q} {b bk tp : Nat} {B : Nat → Int} {R : Nat → Nat → Int} {kd ad bi ce : Int} (hA : q_A G b) (hE : q_CE T b bk tp B R I L P) (hkd9 : -2147483648 ≤ kd ∧ kd < 2147483648) (had9 : -2147483648 ≤ ad ∧ ad < 2147483648) (hbi9 : -2147483648 ≤ bi ∧ bi < 2147483648) (hce9 : -2147483648 ≤ ce ∧ ce < 2147483648) (h1 : (ad = -1 ∨ 0 ≤ ad ∧ ad < R 0 0) ∧ (bi = -1 ∨ 0 ≤ bi ∧ bi < R 0 0)) (h2 : ¬ ((0 ≤ kd ∧ kd ≤ 4) ∧ 0 ≤ ce ∧ ce ≤ 100000000)) (kA : ∀ (sz' : Nat) (I' : q_I), sz ≤ sz' → q_CE T b bk tp B R I' L P → q_Ou b I L P I' L P → Q (.inl (some (qI (-2000000098)))) sz' T I' L P) : qC G 5 1 6 YL_open [.ref b, qI kd, qI ad, qI bi, qI ce] sz T I L P Q := by
  obtain ⟨V, f, cn, hC, hP⟩ := hE
  have hV := (hP.ro 0 (Nat.zero_le _)).1
  have hv := hV.1
  have hw2 := hv.month
  have hmany := hv.many
  have hlands := hv.lands
  have hrows := hv.rows
  have hmn : R 0 1 = ((R 0 1).toNat : Int) := by omega
  have hrn : R 0 6 = ((R 0 6).toNat : Int) := by omega
  have hm12 : (R 0 1).toNat ≤ 12 := by omega
  have hRW := (hP.ro 0 (Nat.zero_le _)).2.1
  have hZ := (hP.ro 0 (Nat.zero_le _)).2.2.1
  have hSL := (hP.ro 0 (Nat.zero_le _)).2.2.2
  have hvs : ∀ i : Nat, i < (R 0 1).toNat → g_VA (R 0) i (R 0 2) := fun i hi => by have q := hV.2.1 i (by omega); rwa [if_neg (Nat.not_lt_zero _)] at q
  refine mL_open (hx := 4) hC.st.t0 (fun Q1 k1 => ?_)
  refine qC.wide (h := 4) (mc := 1) (ms := 6) (by decide) (by decide) (by decide) ?_
  refine mX7_open hC.st hA hC.pv hC.ov rfl (hC.wr 0 (Nat.zero_le _)) hV hC.b8 hP.bk hmn hkd9 had9 hbi9 hce9 (fun sz' hsz x1 => absurd h1 x1) (fun sz' hsz x1 x2 => ?_) (fun sz' hsz x1 x2 x3 => absurd x2 h2) (fun M N P9 V9 x1 x2 x3 hAF => absurd x2 h2)
  refine k1 _ _ _ _ _ _ (q_LR.erI 1 rfl g_cIA ?_)
  have hr9 := hC.rf hP 1 (by decide) ((I b (7 + 1)) + 1)
  exact kA _ _ hsz hr9.1 hr9.2

set_option maxRecDepth 100000 in
theorem a_rescue {G : q_G} {sz : Nat} {T : q_T} {I L : q_I} {P : q_P} {Q : q_Q} {b bk tp : Nat} {B : Nat → Int} {R : Nat → Nat → Int}  (hA : q_A G b) (hE : q_CE T b bk tp B R I L P) (h0 : R 0 1 = 0) (k0 : ∀ (M N : q_I), q_CE T b bk tp B R M N P → q_Ou b I L P M N P → Q (.inl (some (qL 0))) sz T M N P) : qC G 8 1 6 YL_rescue [.ref b, qI 1, qI 1, qI 0] sz T I L P Q := by
  obtain ⟨V, f, cn, hC, hP⟩ := hE
  have hV := (hP.ro 0 (Nat.zero_le _)).1
  have hv := hV.1
  have hw2 := hv.month
  have hmany := hv.many
  have hlands := hv.lands
  have hrows := hv.rows
  have hmn : R 0 1 = ((R 0 1).toNat : Int) := by omega
  have hrn : R 0 6 = ((R 0 6).toNat : Int) := by omega
  have hm12 : (R 0 1).toNat ≤ 12 := by omega
  have hRW := (hP.ro 0 (Nat.zero_le _)).2.1
  have hZ := (hP.ro 0 (Nat.zero_le _)).2.2.1
  have hSL := (hP.ro 0 (Nat.zero_le _)).2.2.2
  have hvs : ∀ i : Nat, i < (R 0 1).toNat → g_VA (R 0) i (R 0 2) := fun i hi => by have q := hV.2.1 i (by omega); rwa [if_neg (Nat.not_lt_zero _)] at q
  refine mL_rescue (hx := 7) hC.st.t0 (fun Q1 k1 => ?_)
  refine qC.wide (h := 7) (mc := 0) (ms := 0) (by decide) (by decide) (by decide) ?_
  refine mX7_rescue (nn := 1) (mn := 0) hC.st hA hC.pv hC.ov rfl (hC.wr 0 (Nat.zero_le _)) hV (by rw [h0]; rfl) hZ hC.ch (by decide) (by decide) (by decide) (fun x M N hM hN hch hx => ?_)
  refine k1 _ _ _ _ _ _ (q_LR.okL ?_)
  have e0 : x.1 = 0 := by
    unfold g_resc at hx
    have hx : (match g_best (g_good (R 0) 0 (min 1 (g_live (R 0) 0))) (g_val (R 0) 1 0) 0 with
      | none => @ite _ (g_good (R 0) 0 (min 1 (g_live (R 0) 0)) 0) (Classical.propDecidable _) (some (0, g_val (R 0) 1 0 0)) none
      | some x => @ite _ (g_good (R 0) 0 (min 1 (g_live (R 0) 0)) 0 ∧ g_val (R 0) 1 0 0 < x.2) (Classical.propDecidable _) (some (0, g_val (R 0) 1 0 0)) (some x)) = some x := hx
    have hx : @ite _ (g_good (R 0) 0 (min 1 (g_live (R 0) 0)) 0) (Classical.propDecidable _) (some (0, g_val (R 0) 1 0 0)) none = some x := hx
    split at hx
    · cases hx; rfl
    · cases hx
  rw [if_pos rfl, e0]
  have hbk := hP.bk
  have hr0 := hC.ov.r (i := 0) (by omega)
  have eI : ∀ q k, q ≠ b + 26 → q ≠ b + 25 → M q k = I q k := fun q k h1 h2 => hM q k h1 (by omega)
  have eL : ∀ q k, q ≠ b + 26 → q ≠ b + 25 → q ≠ b + 27 → q ≠ V 0 + 8 → N q k = L q k := fun q k h1 h2 h3 h4 => hN q k h1 h4 h3 (by omega)
  refine k0 M N ⟨V, f, cn, ⟨hC.st, hC.pv, hC.ov, (eI _ _ (by omega) (by omega)).trans hC.b8, fun j hj => ?_, (eI _ _ (by omega) (by omega)).trans hC.b6, fun k hk => (eI _ _ (by omega) (by omega)).trans (hC.by9 k hk), (eI _ _ (by omega) (by omega)).trans hC.b7, fun i hi => (eI _ _ (by omega) (by omega)).trans (hC.cn i hi), hch⟩, hP⟩ ⟨fun q k x => eI _ _ (by omega) (by omega), fun q k x => eL _ _ (by omega) (by omega) (by omega) (by omega), fun _ _ _ => rfl⟩
  have hr := hC.ov.r (i := j) (by omega)
  by_cases e : j = 0
  · subst e
    exact (hC.wr 0 hj).fr (hP.ro 0 hj).1.1 (fun q k h1 h2 => eI q k (by omega) (by omega)) (fun q k h1 h2 h3 => eL q k (by omega) (by omega) (by omega) h3)
  · have hd := hC.ov.d (i := j) (j := 0) (by omega) (by omega) e
    exact (hC.wr j hj).fr (hP.ro j hj).1.1 (fun q k h1 h2 => eI q k (by omega) (by omega)) (fun q k h1 h2 h3 => eL q k (by omega) (by omega) (by omega) (by omega))

set_option maxRecDepth 100000 in
theorem a_text {G : q_G} {sz : Nat} {T : q_T} {I L : q_I} {P : q_P} {Q : q_Q} {b bk tp : Nat} {B : Nat → Int} {R : Nat → Nat → Int} {n : Nat} {s9 : g_PS} {t9 : Nat → Int} (hA : q_A G b) (hE : q_CE T b bk tp B R I L P) (o : Int) (hn : n ≤ tp) (ht : g_text B n o = .ok s9 t9) (k0 : ∀ (M N : q_I) (P9 : q_P), (g_V0 (g_zap t9) ∧ g_fresh (g_zap t9) ∧ g_Zr (g_zap t9)) → q_CE T b (g_nb bk) 0 B (g_Rn R bk (g_zap t9)) M N P9 → q_Ou b I L P M N P9 → Q (.inl (some (qI (t9 0)))) sz T M N P9) : qC G 20 1 6 YL_text [.ref b, qI (n : Int)] sz T I L P Q := by
  obtain ⟨V, f, cn, hC, hP⟩ := hE
  have hV := (hP.ro 0 (Nat.zero_le _)).1
  have hv := hV.1
  have hw2 := hv.month
  have hmany := hv.many
  have hlands := hv.lands
  have hrows := hv.rows
  have hmn : R 0 1 = ((R 0 1).toNat : Int) := by omega
  have hrn : R 0 6 = ((R 0 6).toNat : Int) := by omega
  have hm12 : (R 0 1).toNat ≤ 12 := by omega
  have hRW := (hP.ro 0 (Nat.zero_le _)).2.1
  have hZ := (hP.ro 0 (Nat.zero_le _)).2.2.1
  have hSL := (hP.ro 0 (Nat.zero_le _)).2.2.2
  have hvs : ∀ i : Nat, i < (R 0 1).toNat → g_VA (R 0) i (R 0 2) := fun i hi => by have q := hV.2.1 i (by omega); rwa [if_neg (Nat.not_lt_zero _)] at q
  refine mL_text (hx := 19) hC.st.t0 (fun Q1 k1 => ?_)
  have htp := hP.tp
  refine qC.wide (h := 19) (mc := 1) (ms := 6) (by decide) (by decide) (by decide) ?_
  refine mX7_text o hC.st hA hC.pv hC.ov rfl (hC.wr 0 (Nat.zero_le _)) hV hC.b8 hP.bk hC.b6 hP.tp hC.by9 hP.br (by omega) (fun sz' hsz x1 => absurd (show 0 ≤ (n : Int) ∧ (n : Int) ≤ tp by omega) x1) (fun w1 x M P9 hnn he _ _ _ _ _ _ _ => ?_) (fun s' t' M N P9 V9 hnn he hTF hz => ?_)
  · rw [Int.toNat_natCast, ht] at he
    cases he
  · rw [Int.toNat_natCast, ht] at he
    cases he
    have hfr := g_fresh_VR hz.1 hz.2.1
    have hro : q_RO (g_zap t9) := ⟨hfr.1, hfr.2.1, hz.2.2, hfr.2.2⟩
    refine k1 _ _ _ _ _ _ (q_LR.okI ?_)
    exact k0 _ _ _ hz (hTF.ce hC hP hro).1 (hTF.ce hC hP hro).2

set_option maxRecDepth 100000 in
theorem a_print {G : q_G} {sz : Nat} {T : q_T} {I L : q_I} {P : q_P} {Q : q_Q} {b bk tp : Nat} {B : Nat → Int} {R : Nat → Nat → Int}  (hA : q_A G b) (hE : q_CE T b bk tp B R I L P) (k0 : Q (.inl (some (qL (g_print (R 0) (R 0 1).toNat)))) sz T I L P) : qC G 1 0 0 YX7_print [.ref b] sz T I L P Q := by
  obtain ⟨V, f, cn, hC, hP⟩ := hE
  have hV := (hP.ro 0 (Nat.zero_le _)).1
  have hv := hV.1
  have hw2 := hv.month
  have hmany := hv.many
  have hlands := hv.lands
  have hrows := hv.rows
  have hmn : R 0 1 = ((R 0 1).toNat : Int) := by omega
  have hrn : R 0 6 = ((R 0 6).toNat : Int) := by omega
  have hm12 : (R 0 1).toNat ≤ 12 := by omega
  have hRW := (hP.ro 0 (Nat.zero_le _)).2.1
  have hZ := (hP.ro 0 (Nat.zero_le _)).2.2.1
  have hSL := (hP.ro 0 (Nat.zero_le _)).2.2.2
  have hvs : ∀ i : Nat, i < (R 0 1).toNat → g_VA (R 0) i (R 0 2) := fun i hi => by have q := hV.2.1 i (by omega); rwa [if_neg (Nat.not_lt_zero _)] at q
  exact mX7_print hC.st hA hC.pv hC.ov rfl (hC.wr 0 (Nat.zero_le _)) hV hmn hm12 k0

set_option maxRecDepth 100000 in
theorem a_undo0 {G : q_G} {sz : Nat} {T : q_T} {I L : q_I} {P : q_P} {Q : q_Q} {b bk tp : Nat} {B : Nat → Int} {R : Nat → Nat → Int}  (hA : q_A G b) (hE : q_CE T b bk tp B R I L P) (h0 : bk = 0) (k0 : Q (.inl (some (qI (-1)))) sz T I L P) : qC G 0 0 0 YX7_undo [.ref b] sz T I L P Q := by
  obtain ⟨V, f, cn, hC, hP⟩ := hE
  have hV := (hP.ro 0 (Nat.zero_le _)).1
  have hv := hV.1
  have hw2 := hv.month
  have hmany := hv.many
  have hlands := hv.lands
  have hrows := hv.rows
  have hmn : R 0 1 = ((R 0 1).toNat : Int) := by omega
  have hrn : R 0 6 = ((R 0 6).toNat : Int) := by omega
  have hm12 : (R 0 1).toNat ≤ 12 := by omega
  have hRW := (hP.ro 0 (Nat.zero_le _)).2.1
  have hZ := (hP.ro 0 (Nat.zero_le _)).2.2.1
  have hSL := (hP.ro 0 (Nat.zero_le _)).2.2.2
  have hvs : ∀ i : Nat, i < (R 0 1).toNat → g_VA (R 0) i (R 0 2) := fun i hi => by have q := hV.2.1 i (by omega); rwa [if_neg (Nat.not_lt_zero _)] at q
  exact mX7_undo0 hC.st hA hC.pv hC.ov (hC.b8.trans (by rw [h0]; rfl)) k0

set_option maxRecDepth 100000 in
theorem a_undo {G : q_G} {sz : Nat} {T : q_T} {I L : q_I} {P : q_P} {Q : q_Q} {b bk tp : Nat} {B : Nat → Int} {R : Nat → Nat → Int} {n : Nat} (hA : q_A G b) (hE : q_CE T b bk tp B R I L P) (h0 : bk = 1 + n) (k0 : ∀ (M : q_I) (P9 : q_P), q_CE T b n tp B (fun j => if j = 0 then R (1 + n) else R j) M L P9 → q_Ou b I L P M L P9 → Q (.inl (some (qI (n : Int)))) sz T M L P9) : qC G 0 0 0 YX7_undo [.ref b] sz T I L P Q := by
  obtain ⟨V, f, cn, hC, hP⟩ := hE
  have hV := (hP.ro 0 (Nat.zero_le _)).1
  have hv := hV.1
  have hw2 := hv.month
  have hmany := hv.many
  have hlands := hv.lands
  have hrows := hv.rows
  have hmn : R 0 1 = ((R 0 1).toNat : Int) := by omega
  have hrn : R 0 6 = ((R 0 6).toNat : Int) := by omega
  have hm12 : (R 0 1).toNat ≤ 12 := by omega
  have hRW := (hP.ro 0 (Nat.zero_le _)).2.1
  have hZ := (hP.ro 0 (Nat.zero_le _)).2.2.1
  have hSL := (hP.ro 0 (Nat.zero_le _)).2.2.2
  have hvs : ∀ i : Nat, i < (R 0 1).toNat → g_VA (R 0) i (R 0 2) := fun i hi => by have q := hV.2.1 i (by omega); rwa [if_neg (Nat.not_lt_zero _)] at q
  subst h0
  have hbk := hP.bk
  exact mX7_undo hC.st hA hC.pv hC.ov hC.b8 (by omega) (fun P9 a1 a2 a3 a4 => k0 _ _ (hC.ud hP a1 a2 a3 a4).1 (hC.ud hP a1 a2 a3 a4).2)

set_option maxRecDepth 100000 in
theorem a_feed {G : q_G} {sz : Nat} {T : q_T} {I L : q_I} {P : q_P} {Q : q_Q} {b bk tp : Nat} {B : Nat → Int} {R : Nat → Nat → Int} {v1 v2 v3 v4 v5 : Int} (hA : q_A G b) (hE : q_CE T b bk tp B R I L P) (h6 : tp + 20 ≤ 600) (hf : ∀ k : Nat, k < 20 → 0 ≤ g_fed v1 v2 v3 v4 v5 k ∧ g_fed v1 v2 v3 v4 v5 k ≤ 255) (k0 : ∀ I' : q_I, q_CE T b bk (20 + tp) (fun j => if tp ≤ j ∧ j < 20 + tp then g_fed v1 v2 v3 v4 v5 (j - tp) else B j) R I' L P → q_Ou b I L P I' L P → Q (.inl (some (qI ((20 + tp : Nat) : Int)))) sz T I' L P) : qC G 1 0 0 YX7_feed [.ref b, qI v1, qI v2, qI v3, qI v4, qI v5] sz T I L P Q := by
  obtain ⟨V, f, cn, hC, hP⟩ := hE
  have hV := (hP.ro 0 (Nat.zero_le _)).1
  have hv := hV.1
  have hw2 := hv.month
  have hmany := hv.many
  have hlands := hv.lands
  have hrows := hv.rows
  have hmn : R 0 1 = ((R 0 1).toNat : Int) := by omega
  have hrn : R 0 6 = ((R 0 6).toNat : Int) := by omega
  have hm12 : (R 0 1).toNat ≤ 12 := by omega
  have hRW := (hP.ro 0 (Nat.zero_le _)).2.1
  have hZ := (hP.ro 0 (Nat.zero_le _)).2.2.1
  have hSL := (hP.ro 0 (Nat.zero_le _)).2.2.2
  have hvs : ∀ i : Nat, i < (R 0 1).toNat → g_VA (R 0) i (R 0 2) := fun i hi => by have q := hV.2.1 i (by omega); rwa [if_neg (Nat.not_lt_zero _)] at q
  have hbk := hP.bk
  refine mX7_feed hC.st hA hC.b6 (by omega) (fun h => absurd h6 (by omega)) (fun _ I' e1 e2 e3 e4 => ?_)
  have eI : ∀ q k, q ≠ b + 2 → (q ≠ b ∨ k ≠ 4) → I' q k = I q k := e1
  refine k0 I' ⟨V, f, cn, ⟨hC.st, hC.pv, hC.ov, (eI _ _ (by omega) (by omega)).trans hC.b8, fun j hj => ?_, e2, fun k hk => ?_, (eI _ _ (by omega) (by omega)).trans hC.b7, fun i hi => (eI _ _ (by omega) (by omega)).trans (hC.cn i hi), hC.ch⟩, ⟨hbk, by omega, fun k => ?_, hP.ro⟩⟩ ⟨fun q k x => eI _ _ (by omega) (by omega), fun _ _ _ => rfl, fun _ _ _ => rfl⟩
  · have hr := hC.ov.r (i := j) (by omega)
    exact (hC.wr j hj).fr (hP.ro j hj).1.1 (fun q k h1 h2 => eI q k (by omega) (by omega)) (fun _ _ _ _ _ => rfl)
  · dsimp only
    by_cases e : tp ≤ k ∧ k < 20 + tp
    · rw [if_pos e]
      have q := e4 (k - tp) (by omega)
      rw [show k - tp + tp = k by omega] at q
      exact q
    · rw [if_neg e, e3 k (by omega)]; exact hC.by9 k hk
  · dsimp only
    by_cases e : tp ≤ k ∧ k < 20 + tp
    · rw [if_pos e]; exact hf _ (by omega)
    · rw [if_neg e]; exact hP.br k
