/-! constructors: what is made -/
theorem q_aO2 : Cond.arrayOver (.object RX2) ∈ q_nst := List.mem_of_getElem? (i := 8) rfl
theorem q_aO3 : Cond.arrayOver (.object RX0) ∈ q_nst := List.mem_of_getElem? (i := 9) rfl
theorem q_aO4 : Cond.arrayOver (.object RX6) ∈ q_nst := List.mem_of_getElem? (i := 11) rfl
theorem q_aO5 : Cond.arrayOver (.object RX5) ∈ q_nst := List.mem_of_getElem? (i := 7) rfl
theorem q_aO6 : Cond.arrayOver (.array .int) ∈ q_nst := List.mem_of_getElem? (i := 10) rfl
theorem q_aO7 : Cond.arrayOver (.array (.array .int)) ∈ q_nst := List.mem_of_getElem? (i := 12) rfl
section
variable {G : q_G} {F : q_F} {Y : q_Y} {h : Nat} {Q : q_Q} {kc ks pc pc' : Nat} {ls : List (Nat × Value)} {st : List Value} {sz s' : Nat} {T : q_T} {I L : q_I} {P : q_P}
theorem q_aO8 : Cond.arrayOver (.object RX8) ∈ q_nst := List.mem_of_getElem? (i := 13) rfl
theorem q_aO9 : Cond.arrayOver (.object RX10) ∈ q_nst := List.mem_of_getElem? (i := 14) rfl
theorem q_newo (hF : q_ok G F Y h) {idx ci N : Nat} (nl : q_NL Y.1.cls idx ci N) (hI : ∀ k, I sz k = 0) (hL : ∀ k, L sz k = 0) (hP : ∀ k, P sz k = none) (d : q_d Y.2.1 pc pc' (.new idx) 3) (hs : sz + 1 = s')
    (k : qX G F Q kc ks pc' ls (.ref sz :: st) s' (q_upT T sz (.inl ci)) I L P) : qX G F Q (kc + 1) (ks + N) pc ls st sz T I L P := by
  subst hs; exact q_new hF nl hI hL hP d k
theorem q_newaI (hF : q_ok G F Y h) {n : Nat} (hw : Cond.arrayClass .int ∈ q_all) (hI : ∀ k, I sz k = 0) (hL : ∀ k, L sz k = 0) (d : q_d Y.2.1 pc pc' (.newarray .int) 2) (hs : sz + 1 = s')
    (k : qX G F Q kc ks pc' ls (.ref sz :: st) s' (q_upT T sz (.inr (0, n))) I L P) (hn : n < 1000000 := by decide) : qX G F Q (kc + 1) (ks + n) pc ls (qI (n : Int) :: st) sz T I L P := by
  subst hs
  have q := q_newarr (G := G) (F := F) (Y := Y) (h := h) (Q := Q) (kc := kc) (ks := ks) (pc := pc) (pc' := pc') (ls := ls) (st := st) (sz := sz) (T := T) (I := I) (L := L) (P := P) hF (t := 0) (atype := .int) (n := (n : Int)) (Or.inl ⟨rfl, rfl⟩) hw (by omega) hI hL d
  rw [Int.toNat_natCast] at q
  exact q k
theorem q_newaL (hF : q_ok G F Y h) {n : Nat} (hw : Cond.arrayClass .long ∈ q_all) (hI : ∀ k, I sz k = 0) (hL : ∀ k, L sz k = 0) (d : q_d Y.2.1 pc pc' (.newarray .long) 2) (hs : sz + 1 = s')
    (k : qX G F Q kc ks pc' ls (.ref sz :: st) s' (q_upT T sz (.inr (1, n))) I L P) (hn : n < 1000000 := by decide) : qX G F Q (kc + 1) (ks + n) pc ls (qI (n : Int) :: st) sz T I L P := by
  subst hs
  have q := q_newarr (G := G) (F := F) (Y := Y) (h := h) (Q := Q) (kc := kc) (ks := ks) (pc := pc) (pc' := pc') (ls := ls) (st := st) (sz := sz) (T := T) (I := I) (L := L) (P := P) hF (t := 1) (atype := .long) (n := (n : Int)) (Or.inr ⟨rfl, rfl⟩) hw (by omega) hI hL d
  rw [Int.toNat_natCast] at q
  exact q k
theorem q_newr (hF : q_ok G F Y h) {t idx : Nat} {C : String} {n : Nat} (hty : q_ty t = .object C) (h2 : 2 ≤ t) (h8 : t < 10) (w1 : Cond.classLink Y.1.cls idx C ∈ q_all) (w2 : Cond.arrayOver (.object C) ∈ q_nst) (hn : n < 1000000) (hP : ∀ k, P sz k = none) (d : q_d Y.2.1 pc pc' (.anewarray idx) 3) (hs : sz + 1 = s')
    (k : qX G F Q kc ks pc' ls (.ref sz :: st) s' (q_upT T sz (.inr (t, n))) I L P) : qX G F Q (kc + 1) (ks + n) pc ls (qI (n : Int) :: st) sz T I L P := by
  subst hs
  have q := q_anew (G := G) (F := F) (Y := Y) (h := h) (Q := Q) (kc := kc) (ks := ks) (pc := pc) (pc' := pc') (ls := ls) (st := st) (sz := sz) (T := T) (I := I) (L := L) (P := P) hF (n := (n : Int)) hty h2 h8 w1 w2 (by omega) hP d
  rw [Int.toNat_natCast] at q
  exact q k
theorem q_mnew2 (hF : q_ok G F Y h) {t t2 idx n k : Nat} {ty : FieldType} {kz nz : Int}
    (ht : t = 6 ∧ t2 = 0 ∧ ty = .int) (w1 : Cond.classLink Y.1.cls idx ("[" ++ (FieldType.array ty).toString) ∈ q_all) (w2 : Cond.arrayOver (.array ty) ∈ q_nst) (w3 : Cond.arrayClass ty ∈ q_all) (hkz : kz = (k : Int)) (hnz : nz = (n : Int)) (hn : n < 100000) (hk : k < 100000)
    (hA : q_A G sz) (hI : ∀ q j, sz ≤ q → I q j = 0) (hL : ∀ q j, sz ≤ q → L q j = 0) (hP : ∀ q j, sz ≤ q → P q j = none) (d : q_d Y.2.1 pc pc' (.multianewarray idx 2) 4) (hs : sz + 1 + n = s')
    (kk : qX G F Q kc ks pc' ls (.ref sz :: st) s' (q_upTm T sz t n t2 k) I L (q_upPm P sz n)) : qX G F Q (kc + (1 + n)) (ks + (n + n * k)) pc ls (qI kz :: qI nz :: st) sz T I L P := by
  subst hs; exact q_mnew hF (Or.inl ht) w1 w2 (fun args s hg => hg.at w3 args) hkz hnz hn hk hA hI hL hP d kk
end
def q_F0 (s : Nat) (I L : q_I) (P : q_P) : Prop := ∀ q j, s ≤ q → I q j = 0 ∧ L q j = 0 ∧ P q j = none
/-- what lies before a is as it was; from s' on nothing is written -/
def q_ex (a s' : Nat) (T : q_T) (I L : q_I) (P : q_P) (T9 : q_T) (I9 L9 : q_I) (P9 : q_P) : Prop := (∀ q, q < a → T9 q = T q) ∧ (∀ q j, q < a → I9 q j = I q j ∧ L9 q j = L q j ∧ P9 q j = P q j) ∧ q_F0 s' I9 L9 P9
def q_fl (I : q_I) (a n : Nat) (v : Int) : q_I := fun q k => if q = a ∧ k < n then v else I q k
theorem q_fl_0 (I : q_I) (a : Nat) (v : Int) : q_fl I a 0 v = I := by funext q k; unfold q_fl; rw [if_neg (by omega)]
theorem q_fl_s (I : q_I) (a i : Nat) (v : Int) : u2 (q_fl I a i v) a i v = q_fl I a (1 + i) v := by
  funext q k
  unfold u2 q_fl
  by_cases e : q = a <;> by_cases e2 : k = i <;> by_cases e3 : k < i <;> by_cases e4 : k < 1 + i <;> first | omega | simp_all
theorem q_fl_s2 (I : q_I) {a b : Nat} (i : Nat) (v : Int) (h : b ≠ a) : u2 (u2 (q_fl (q_fl I a i v) b i v) a i v) b i v = q_fl (q_fl I a (1 + i) v) b (1 + i) v := by
  funext q k
  unfold u2 q_fl
  by_cases e : q = a
  · subst e
    have h' : q ≠ b := fun e => h e.symm
    by_cases e2 : k = i <;> by_cases e3 : k < i <;> by_cases e4 : k < 1 + i <;> first | omega | simp_all
  · by_cases e1 : q = b <;> by_cases e2 : k = i <;> by_cases e3 : k < i <;> by_cases e4 : k < 1 + i <;> first | omega | simp_all
theorem q_fl_a (I : q_I) {a n q k : Nat} (v : Int) (h : q ≠ a) : q_fl I a n v q k = I q k := if_neg (fun e => h e.1)
theorem q_fl_t (I : q_I) {a n k : Nat} (v : Int) (h : k < n) : q_fl I a n v a k = v := if_pos ⟨rfl, h⟩
def q_clr (I : q_I) (u : Nat) : q_I := q_fl (q_fl (q_fl (u2 (u2 (u2 (u2 (u2 (u2 I u 1 0) u 3 (-1)) u 4 (-1)) u 5 (-1)) u 7 0) u 11 0) (u + 2) 5 (-1)) (u + 4) 25 (-1)) (u + 5) 25 (-1)
set_option maxRecDepth 100000 in
theorem lX4_cleara {G : q_G} {F : q_F} {h : Nat} {Q : q_Q} {kc ks sz : Nat} {T : q_T} {u : Nat} {I L : q_I} {P : q_P} (hF : q_ok G F YX4_clear h) (hU : q_SR T P u) (hUA : q_A G u) (k0 : ∀ v : Int, qX G F Q kc ks 50 [(1, qI v), (0, .ref u)] [] sz T (q_fl I (u + 2) 5 (-1)) L P) : ∀ (n : Nat) (i : Nat), 5 - i < n → i ≤ 5 → qX G F Q kc ks 32 [(1, qI (i : Int)), (0, .ref u)] [] sz T (q_fl I (u + 2) i (-1)) L P := by
  intro n
  induction n with
  | zero => intro i hn; exact absurd hn (Nat.not_lt_zero _)
  | succ n ih =>
    intro i hn hi
    refine q_iload_n hF 0 rfl rfl dX4_clear_32 ?_
    refine q_iconst hF dX4_clear_33 ?_
    refine q_icmpge hF (by omega) (by decide) dX4_clear_34 (fun c34 => ?_) (fun c34 => ?_)
    · obtain rfl : i = 5 := by omega
      exact k0 _
    · refine q_aload_n hF 1 rfl rfl dX4_clear_37 ?_
      refine q_getA hF fl_RX4_17 rfl hU.t0 hU.p2 dX4_clear_38 ?_
      refine q_iload_n hF 0 rfl rfl dX4_clear_41 ?_
      refine q_iconst hF dX4_clear_42 ?_
      refine q_iastorev hF (n := 5) i hU.t2 (q_Ale hUA (by omega)) rfl (by omega) (by decide) dX4_clear_43 ?_
      refine q_iinc hF (z' := ((1 + i : Nat) : Int)) (ls' := [(1, qI ((1 + i : Nat) : Int)), (0, .ref u)]) 0 rfl (by first | rfl | omega) (by decide) rfl dX4_clear_44 ?_
      refine q_goto hF dX4_clear_47 ?_
      rw [q_fl_s]
      exact ih (1 + i) (by omega) (by omega)
set_option maxRecDepth 100000 in
theorem lX4_clearb {G : q_G} {F : q_F} {h : Nat} {Q : q_Q} {kc ks sz : Nat} {T : q_T} {u : Nat} {I L : q_I} {P : q_P} (hF : q_ok G F YX4_clear h) (hU : q_SR T P u) (hUA : q_A G u) (k0 : Q (.inl none) sz T (q_fl (q_fl I (u + 4) 25 (-1)) (u + 5) 25 (-1)) L P) : ∀ (n : Nat) (i : Nat), 25 - i < n → i ≤ 25 → qX G F Q kc ks 52 [(1, qI (i : Int)), (0, .ref u)] [] sz T (q_fl (q_fl I (u + 4) i (-1)) (u + 5) i (-1)) L P := by
  intro n
  induction n with
  | zero => intro i hn; exact absurd hn (Nat.not_lt_zero _)
  | succ n ih =>
    intro i hn hi
    refine q_iload_n hF 0 rfl rfl dX4_clear_52 ?_
    refine q_aload_n hF 1 rfl rfl dX4_clear_53 ?_
    refine q_getA hF fl_RX4_24 rfl hU.t0 hU.p8 dX4_clear_54 ?_
    refine q_alen hF (n := 25) hU.t4 dX4_clear_57 ?_
    refine q_icmpge hF (by omega) (by decide) dX4_clear_58 (fun c58 => ?_) (fun c58 => ?_)
    · refine q_return hF rfl dX4_clear_81 ?_
      obtain rfl : i = 25 := by omega
      exact k0
    · refine q_aload_n hF 1 rfl rfl dX4_clear_61 ?_
      refine q_getA hF fl_RX4_24 rfl hU.t0 hU.p8 dX4_clear_62 ?_
      refine q_iload_n hF 0 rfl rfl dX4_clear_65 ?_
      refine q_iconst hF dX4_clear_66 ?_
      refine q_iastorev hF (n := 25) i hU.t4 (q_Ale hUA (by omega)) rfl (by omega) (by decide) dX4_clear_67 ?_
      refine q_aload_n hF 1 rfl rfl dX4_clear_68 ?_
      refine q_getA hF fl_RX4_27 rfl hU.t0 hU.p9 dX4_clear_69 ?_
      refine q_iload_n hF 0 rfl rfl dX4_clear_72 ?_
      refine q_iconst hF dX4_clear_73 ?_
      refine q_iastorev hF (n := 25) i hU.t5 (q_Ale hUA (by omega)) rfl (by omega) (by decide) dX4_clear_74 ?_
      refine q_iinc hF (z' := ((1 + i : Nat) : Int)) (ls' := [(1, qI ((1 + i : Nat) : Int)), (0, .ref u)]) 0 rfl (by first | rfl | omega) (by decide) rfl dX4_clear_75 ?_
      refine q_goto hF dX4_clear_78 ?_
      rw [q_fl_s2 _ _ _ (by omega)]
      exact ih (1 + i) (by omega) (by omega)
set_option maxRecDepth 100000 in
theorem mX4_clear {G : q_G} {sz : Nat} {T : q_T} {I L : q_I} {P : q_P} {Q : q_Q} {u : Nat} (hU : q_SR T P u) (hUA : q_A G u) (k0 : Q (.inl none) sz T (q_clr I u) L P) : qC G 0 0 0 YX4_clear [.ref u] sz T I L P Q := by
  refine qC_of (by decide +kernel) rfl rfl (Nat.le_of_ble_eq_true rfl) (fun F hF _ _ => ?_)
  refine q_aload_n hF 0 rfl rfl dX4_clear_0 ?_
  refine q_iconst hF dX4_clear_1 ?_
  refine q_putI hF fl_RX4_44 hU.t0 hUA dX4_clear_2 ?_
  refine q_aload_n hF 0 rfl rfl dX4_clear_5 ?_
  refine q_iconst hF dX4_clear_6 ?_
  refine q_putI hF fl_RX4_48 hU.t0 hUA dX4_clear_7 ?_
  refine q_aload_n hF 0 rfl rfl dX4_clear_10 ?_
  refine q_iconst hF dX4_clear_11 ?_
  refine q_putI hF fl_RX4_51 hU.t0 hUA dX4_clear_12 ?_
  refine q_aload_n hF 0 rfl rfl dX4_clear_15 ?_
  refine q_iconst hF dX4_clear_16 ?_
  refine q_putI hF fl_RX4_54 hU.t0 hUA dX4_clear_17 ?_
  refine q_aload_n hF 0 rfl rfl dX4_clear_20 ?_
  refine q_iconst hF dX4_clear_21 ?_
  refine q_putI hF fl_RX4_57 hU.t0 hUA dX4_clear_22 ?_
  refine q_aload_n hF 0 rfl rfl dX4_clear_25 ?_
  refine q_iconst hF dX4_clear_26 ?_
  refine q_putI hF fl_RX4_60 hU.t0 hUA dX4_clear_27 ?_
  refine q_iconst hF dX4_clear_30 ?_
  refine q_istore_n hF (ls' := [(1, qI 0), (0, .ref u)]) rfl (by decide) rfl dX4_clear_31 ?_
  have q := lX4_cleara (Q := Q) (sz := sz) (T := T) (kc := 0) (ks := 0) (L := L) (I := u2 (u2 (u2 (u2 (u2 (u2 I u 1 0) u 3 (-1)) u 4 (-1)) u 5 (-1)) u 7 0) u 11 0) (P := P) hF hU hUA (fun v => ?_) 6 0 (by omega) (by omega)
  · rw [q_fl_0] at q; exact q
  refine q_iconst hF dX4_clear_50 ?_
  refine q_istore_n hF (ls' := [(1, qI 0), (0, .ref u)]) rfl (by decide) rfl dX4_clear_51 ?_
  have q := lX4_clearb (Q := Q) (sz := sz) (T := T) (kc := 0) (ks := 0) (L := L) (I := q_fl (u2 (u2 (u2 (u2 (u2 (u2 I u 1 0) u 3 (-1)) u 4 (-1)) u 5 (-1)) u 7 0) u 11 0) (u + 2) 5 (-1)) (P := P) hF hU hUA k0 26 0 (by omega) (by omega)
  rw [q_fl_0, q_fl_0] at q; exact q
set_option maxRecDepth 100000 in
theorem mX4_addToOrder {G : q_G} {sz : Nat} {T : q_T} {I L : q_I} {P : q_P} {Q : q_Q} {u : Nat} {v : Int} {c : Nat} (hU : q_SR T P u) (hUA : q_A G u) (hc : I u 7 = (c : Int)) (hc3 : c < 3) (k0 : (c : Int) < 3 → Q (.inl none) sz T (u2 (u2 I (u + 3) c v) u 7 ((c : Int) + 1)) L P) : qC G 0 0 0 YX4_addToOrder [.ref u, qI v] sz T I L P Q := by
  refine qC_of (by decide +kernel) rfl rfl (Nat.le_of_ble_eq_true rfl) (fun F hF _ _ => ?_)
  refine q_aload_n hF 0 rfl rfl dX4_addToOrder_0 ?_
  refine q_getIv hF (z := (c : Int)) fl_RX4_57 hU.t0 hc dX4_addToOrder_1 ?_
  refine q_iconst hF dX4_addToOrder_4 ?_
  refine q_icmpge hF (by omega) (by decide) dX4_addToOrder_5 (fun c5 => ?_) (fun c5 => ?_)
  · omega
  · refine q_aload_n hF 0 rfl rfl dX4_addToOrder_8 ?_
    refine q_getA hF fl_RX4_21 rfl hU.t0 hU.p6 dX4_addToOrder_9 ?_
    refine q_aload_n hF 0 rfl rfl dX4_addToOrder_12 ?_
    refine q_getIv hF (z := (c : Int)) fl_RX4_57 hU.t0 hc dX4_addToOrder_13 ?_
    refine q_iload_n hF 1 rfl rfl dX4_addToOrder_16 ?_
    refine q_iastorev hF (n := 3) c hU.t3 (q_Ale hUA (by omega)) rfl (by omega) (by decide) dX4_addToOrder_17 ?_
    refine q_aload_n hF 0 rfl rfl dX4_addToOrder_18 ?_
    refine q_dup hF rfl dX4_addToOrder_19 ?_
    refine q_getIv hF (z := (c : Int)) fl_RX4_57 hU.t0 ((u2_a _ _ (by omega)).trans hc) dX4_addToOrder_20 ?_
    refine q_iconst hF dX4_addToOrder_23 ?_
    refine q_iadd hF dX4_addToOrder_24 ?_
    refine q_putI hF fl_RX4_57 hU.t0 hUA dX4_addToOrder_25 ?_
    refine q_return hF rfl dX4_addToOrder_28 ?_
    exact k0 c5
def q_pd (I : q_I) (u i : Nat) : q_I := fun q k => if q = u + 2 ∧ k < i ∧ I q k = -1 then 0 else I q k
theorem q_pd_0 (I : q_I) (u : Nat) : q_pd I u 0 = I := by funext q k; unfold q_pd; rw [if_neg (by omega)]
theorem q_pd_n (I : q_I) (u : Nat) {q k i : Nat} (h : i ≤ k) : q_pd I u i q k = I q k := by unfold q_pd; rw [if_neg (by omega)]
theorem q_pd_a (I : q_I) (u : Nat) {q k i : Nat} (h : q ≠ u + 2) : q_pd I u i q k = I q k := by unfold q_pd; rw [if_neg (fun e => h e.1)]
theorem q_pd_t (I : q_I) (u : Nat) {k i : Nat} (h : k < i) : q_pd I u i (u + 2) k = if I (u + 2) k = -1 then 0 else I (u + 2) k := by
  unfold q_pd
  by_cases e : I (u + 2) k = -1
  · rw [if_pos ⟨rfl, h, e⟩, if_pos e]
  · rw [if_neg (fun x => e x.2.2), if_neg e]
theorem q_pd_s (I : q_I) (u i : Nat) {v : Int} (hv : v = if I (u + 2) i = -1 then 0 else I (u + 2) i) : u2 (q_pd I u i) (u + 2) i v = q_pd I u (1 + i) := by
  subst hv
  funext q k
  unfold u2 q_pd
  by_cases e : q = u + 2
  · subst e
    by_cases e2 : k = i
    · subst e2
      by_cases e3 : I (u + 2) k = -1
      · rw [if_pos ⟨rfl, rfl⟩, if_pos e3, if_pos ⟨rfl, by omega, e3⟩]
      · rw [if_pos ⟨rfl, rfl⟩, if_neg e3, if_neg (fun x => e3 x.2.2)]
    · rw [if_neg (fun x => e2 x.2)]
      by_cases e3 : k < i ∧ I (u + 2) k = -1
      · rw [if_pos ⟨rfl, e3⟩, if_pos ⟨rfl, by omega, e3.2⟩]
      · rw [if_neg (fun x => e3 x.2), if_neg (fun x => e3 ⟨by omega, x.2.2⟩)]
  · rw [if_neg (fun x => e x.1), if_neg (fun x => e x.1), if_neg (fun x => e x.1)]
def q_tl1 (I : q_I) (u : Nat) : q_I := u2 (u2 (u2 I u 3 (if I u 3 = -1 then 3 else I u 3)) u 4 (if I u 4 = -1 then 0 else I u 4)) u 5 (if I u 5 = -1 ∧ 0 < I u 1 then 0 else I u 5)
def q_tl2 (I : q_I) (u : Nat) : q_I := u2 (u2 (u2 (u2 (u2 (u2 (q_tl1 I u) (u + 3) 0 0) u 7 1) (u + 3) 1 1) u 7 2) (u + 3) 2 2) u 7 3
def q_tld (I : q_I) (u : Nat) : q_I := q_pd (if I u 7 = 0 then q_tl2 I u else q_tl1 I u) u 5
set_option maxRecDepth 100000 in
theorem lX4_told {G : q_G} {F : q_F} {h : Nat} {Q : q_Q} {kc ks sz : Nat} {T : q_T} {u : Nat} {I L : q_I} {P : q_P} (hF : q_ok G F YX4_tellTheUntold h) (hU : q_SR T P u) (hUA : q_A G u) (hp : ∀ k, k < 5 → -2147483648 ≤ I (u + 2) k ∧ I (u + 2) k < 2147483648) (k0 : Q (.inl none) sz T (q_pd I u 5) L P) : ∀ (n : Nat) (i : Nat), 5 - i < n → i ≤ 5 → qX G F Q kc ks 91 [(1, qI (i : Int)), (0, .ref u)] [] sz T (q_pd I u i) L P := by
  intro n
  induction n with
  | zero => intro i hn; exact absurd hn (Nat.not_lt_zero _)
  | succ n ih =>
    intro i hn hi
    refine q_iload_n hF 0 rfl rfl dX4_tellTheUntold_91 ?_
    refine q_iconst hF dX4_tellTheUntold_92 ?_
    refine q_icmpge hF (by omega) (by decide) dX4_tellTheUntold_93 (fun c93 => ?_) (fun c93 => ?_)
    · refine q_return hF rfl dX4_tellTheUntold_128 ?_
      obtain rfl : i = 5 := by omega
      exact k0
    · refine q_aload_n hF 1 rfl rfl dX4_tellTheUntold_96 ?_
      refine q_getA hF fl_RX4_17 rfl hU.t0 hU.p2 dX4_tellTheUntold_97 ?_
      refine q_iload_n hF 0 rfl rfl dX4_tellTheUntold_100 ?_
      refine q_aload_n hF 1 rfl rfl dX4_tellTheUntold_101 ?_
      refine q_getA hF fl_RX4_17 rfl hU.t0 hU.p2 dX4_tellTheUntold_102 ?_
      refine q_iload_n hF 0 rfl rfl dX4_tellTheUntold_105 ?_
      refine q_ialoadv hF (z := I (u + 2) i) (n := 5) i hU.t2 rfl (by omega) (by decide) (q_pd_n _ _ (Nat.le_refl _)) dX4_tellTheUntold_106 ?_
      refine q_iconst hF dX4_tellTheUntold_107 ?_
      refine q_icmpne hF (hp i (by omega)) (by decide) dX4_tellTheUntold_108 (fun c108 => ?_) (fun c108 => ?_)
      · refine q_aload_n hF 1 rfl rfl dX4_tellTheUntold_115 ?_
        refine q_getA hF fl_RX4_17 rfl hU.t0 hU.p2 dX4_tellTheUntold_116 ?_
        refine q_iload_n hF 0 rfl rfl dX4_tellTheUntold_119 ?_
        refine q_ialoadv hF (z := I (u + 2) i) (n := 5) i hU.t2 rfl (by omega) (by decide) (q_pd_n _ _ (Nat.le_refl _)) dX4_tellTheUntold_120 ?_
        refine q_iastorev hF (n := 5) i hU.t2 (q_Ale hUA (by omega)) rfl (by omega) (by decide) dX4_tellTheUntold_121 ?_
        refine q_iinc hF (z' := ((1 + i : Nat) : Int)) (ls' := [(1, qI ((1 + i : Nat) : Int)), (0, .ref u)]) 0 rfl (by first | rfl | omega) (by decide) rfl dX4_tellTheUntold_122 ?_
        refine q_goto hF dX4_tellTheUntold_125 ?_
        rw [q_pd_s _ _ _ (by first | rw [if_pos (by assumption)] | rw [if_neg (by assumption)])]
        exact ih (1 + i) (by omega) (by omega)
      · refine q_iconst hF dX4_tellTheUntold_111 ?_
        refine q_goto hF dX4_tellTheUntold_112 ?_
        refine q_iastorev hF (n := 5) i hU.t2 (q_Ale hUA (by omega)) rfl (by omega) (by decide) dX4_tellTheUntold_121 ?_
        refine q_iinc hF (z' := ((1 + i : Nat) : Int)) (ls' := [(1, qI ((1 + i : Nat) : Int)), (0, .ref u)]) 0 rfl (by first | rfl | omega) (by decide) rfl dX4_tellTheUntold_122 ?_
        refine q_goto hF dX4_tellTheUntold_125 ?_
        rw [q_pd_s _ _ _ (by first | rw [if_pos (by assumption)] | rw [if_neg (by assumption)])]
        exact ih (1 + i) (by omega) (by omega)
set_option maxRecDepth 100000 in
theorem mX4_tellTheUntold {G : q_G} {sz : Nat} {T : q_T} {I L : q_I} {P : q_P} {Q : q_Q} {u : Nat} (hU : q_SR T P u) (hUA : q_A G u) (h1 : -2147483648 ≤ I u 1 ∧ I u 1 < 2147483648) (h3 : -2147483648 ≤ I u 3 ∧ I u 3 < 2147483648) (h4 : -2147483648 ≤ I u 4 ∧ I u 4 < 2147483648) (h5 : -2147483648 ≤ I u 5 ∧ I u 5 < 2147483648) (h7 : -2147483648 ≤ I u 7 ∧ I u 7 < 2147483648) (hp : ∀ k, k < 5 → -2147483648 ≤ I (u + 2) k ∧ I (u + 2) k < 2147483648) (k0 : Q (.inl none) sz T (q_tld I u) L P) : qC G 2 0 0 YX4_tellTheUntold [.ref u] sz T I L P Q := by
  refine qC_of (by decide +kernel) rfl rfl (Nat.le_of_ble_eq_true rfl) (fun F hF _ _ => ?_)
  refine q_aload_n hF 0 rfl rfl dX4_tellTheUntold_0 ?_
  have hJ1 : qX G F Q 0 0 17 [(0, .ref u)] [qI (if I u 3 = -1 then 3 else I u 3), .ref u] sz T I L P := by
    refine q_putI hF fl_RX4_48 hU.t0 hUA dX4_tellTheUntold_17 ?_
    refine q_aload_n hF 0 rfl rfl dX4_tellTheUntold_20 ?_
    have hJ21 : qX G F Q 0 0 37 [(0, .ref u)] [qI (if I u 4 = -1 then 0 else I u 4), .ref u] sz T (u2 I u 3 (if I u 3 = -1 then 3 else I u 3)) L P := by
      refine q_putI hF fl_RX4_51 hU.t0 hUA dX4_tellTheUntold_37 ?_
      refine q_aload_n hF 0 rfl rfl dX4_tellTheUntold_40 ?_
      have hJ41 : qX G F Q 0 0 64 [(0, .ref u)] [qI (if I u 5 = -1 ∧ 0 < I u 1 then 0 else I u 5), .ref u] sz T (u2 (u2 I u 3 (if I u 3 = -1 then 3 else I u 3)) u 4 (if I u 4 = -1 then 0 else I u 4)) L P := by
        refine q_putI hF fl_RX4_54 hU.t0 hUA dX4_tellTheUntold_64 ?_
        refine q_aload_n hF 0 rfl rfl dX4_tellTheUntold_67 ?_
        refine q_getIv hF (z := I u 7) fl_RX4_57 hU.t0 ((u2_k _ _ (by decide)).trans ((u2_k _ _ (by decide)).trans (u2_k _ _ (by decide)))) dX4_tellTheUntold_68 ?_
        refine q_ifne hF (by first | assumption | omega) dX4_tellTheUntold_71 (fun c71 => ?_) (fun c71 => ?_)
        · refine q_iconst hF dX4_tellTheUntold_89 ?_
          refine q_istore_n hF (ls' := [(1, qI 0), (0, .ref u)]) rfl (by decide) rfl dX4_tellTheUntold_90 ?_
          have q := lX4_told (Q := Q) (sz := sz) (T := T) (kc := 0) (ks := 0) (L := L) (I := q_tl1 I u) (P := P) hF hU hUA (fun k hk => ?_) ?_ 6 0 (by omega) (by omega)
          · rw [q_pd_0] at q; exact q
          · have q := hp k hk; unfold q_tl1; rw [u2_a _ _ (by omega), u2_a _ _ (by omega), u2_a _ _ (by omega)]; exact q
          · unfold q_tld at k0; rw [if_neg (by omega)] at k0; exact k0
        · refine q_aload_n hF 0 rfl rfl dX4_tellTheUntold_74 ?_
          refine q_iconst hF dX4_tellTheUntold_75 ?_
          refine q_callV (kc := 0) (ks := 0) (mc' := 0) (ms' := 0) (h' := 0) (st := []) hF vl_RX4_63 rfl [qI 0] rfl rfl hU.t0 (by decide) (Nat.le_of_ble_eq_true rfl) dX4_tellTheUntold_76 ?_
          refine mX4_addToOrder (c := 0) hU hUA (by simp only [u2_s, u2_k _ _ (show (7 : Nat) ≠ 5 by decide), u2_k _ _ (show (7 : Nat) ≠ 4 by decide), u2_k _ _ (show (7 : Nat) ≠ 3 by decide)]; first | rfl | omega) (by omega) (fun c76_0 => ?_)
          refine q_aload_n hF 0 rfl rfl dX4_tellTheUntold_79 ?_
          refine q_iconst hF dX4_tellTheUntold_80 ?_
          refine q_callV (kc := 0) (ks := 0) (mc' := 0) (ms' := 0) (h' := 0) (st := []) hF vl_RX4_63 rfl [qI 1] rfl rfl hU.t0 (by decide) (Nat.le_of_ble_eq_true rfl) dX4_tellTheUntold_81 ?_
          refine mX4_addToOrder (c := 1) hU hUA (u2_s _ _ _ _) (by omega) (fun c81_0 => ?_)
          refine q_aload_n hF 0 rfl rfl dX4_tellTheUntold_84 ?_
          refine q_iconst hF dX4_tellTheUntold_85 ?_
          refine q_callV (kc := 0) (ks := 0) (mc' := 0) (ms' := 0) (h' := 0) (st := []) hF vl_RX4_63 rfl [qI 2] rfl rfl hU.t0 (by decide) (Nat.le_of_ble_eq_true rfl) dX4_tellTheUntold_86 ?_
          refine mX4_addToOrder (c := 2) hU hUA (u2_s _ _ _ _) (by omega) (fun c86_0 => ?_)
          refine q_iconst hF dX4_tellTheUntold_89 ?_
          refine q_istore_n hF (ls' := [(1, qI 0), (0, .ref u)]) rfl (by decide) rfl dX4_tellTheUntold_90 ?_
          have q := lX4_told (Q := Q) (sz := sz) (T := T) (kc := 0) (ks := 0) (L := L) (I := q_tl2 I u) (P := P) hF hU hUA (fun k hk => ?_) ?_ 6 0 (by omega) (by omega)
          · rw [q_pd_0] at q; exact q
          · have q := hp k hk; unfold q_tl2 q_tl1; rw [u2_a _ _ (by omega), u2_a _ _ (by omega), u2_a _ _ (by omega), u2_a _ _ (by omega), u2_a _ _ (by omega), u2_a _ _ (by omega), u2_a _ _ (by omega), u2_a _ _ (by omega), u2_a _ _ (by omega)]; exact q
          · unfold q_tld at k0; rw [if_pos (by omega)] at k0; exact k0
      refine q_aload_n hF 0 rfl rfl dX4_tellTheUntold_41 ?_
      refine q_getIv hF (z := I u 5) fl_RX4_54 hU.t0 ((u2_k _ _ (by decide)).trans (u2_k _ _ (by decide))) dX4_tellTheUntold_42 ?_
      refine q_iconst hF dX4_tellTheUntold_45 ?_
      refine q_icmpne hF (by first | assumption | omega) (by decide) dX4_tellTheUntold_46 (fun c46 => ?_) (fun c46 => ?_)
      · refine q_aload_n hF 0 rfl rfl dX4_tellTheUntold_60 ?_
        refine q_getIv hF (z := I u 5) fl_RX4_54 hU.t0 ((u2_k _ _ (by decide)).trans (u2_k _ _ (by decide))) dX4_tellTheUntold_61 ?_
        rw [show (if I u 5 = -1 ∧ 0 < I u 1 then 0 else I u 5) = (I u 5) from by first | exact if_pos ⟨by assumption, by assumption⟩ | exact if_neg (by omega)] at hJ41; exact hJ41
      · refine q_aload_n hF 0 rfl rfl dX4_tellTheUntold_49 ?_
        refine q_getIv hF (z := I u 1) fl_RX4_44 hU.t0 ((u2_k _ _ (by decide)).trans (u2_k _ _ (by decide))) dX4_tellTheUntold_50 ?_
        refine q_ifle hF (by first | assumption | omega) dX4_tellTheUntold_53 (fun c53 => ?_) (fun c53 => ?_)
        · refine q_aload_n hF 0 rfl rfl dX4_tellTheUntold_60 ?_
          refine q_getIv hF (z := I u 5) fl_RX4_54 hU.t0 ((u2_k _ _ (by decide)).trans (u2_k _ _ (by decide))) dX4_tellTheUntold_61 ?_
          rw [show (if I u 5 = -1 ∧ 0 < I u 1 then 0 else I u 5) = (I u 5) from by first | exact if_pos ⟨by assumption, by assumption⟩ | exact if_neg (by omega)] at hJ41; exact hJ41
        · refine q_iconst hF dX4_tellTheUntold_56 ?_
          refine q_goto hF dX4_tellTheUntold_57 ?_
          rw [show (if I u 5 = -1 ∧ 0 < I u 1 then 0 else I u 5) = 0 from by first | exact if_pos ⟨by assumption, by assumption⟩ | exact if_neg (by omega)] at hJ41; exact hJ41
    refine q_aload_n hF 0 rfl rfl dX4_tellTheUntold_21 ?_
    refine q_getIv hF (z := I u 4) fl_RX4_51 hU.t0 (u2_k _ _ (by decide)) dX4_tellTheUntold_22 ?_
    refine q_iconst hF dX4_tellTheUntold_25 ?_
    refine q_icmpne hF (by first | assumption | omega) (by decide) dX4_tellTheUntold_26 (fun c26 => ?_) (fun c26 => ?_)
    · refine q_aload_n hF 0 rfl rfl dX4_tellTheUntold_33 ?_
      refine q_getIv hF (z := I u 4) fl_RX4_51 hU.t0 (u2_k _ _ (by decide)) dX4_tellTheUntold_34 ?_
      rw [show (if I u 4 = -1 then 0 else I u 4) = (I u 4) from by first | exact if_pos (by assumption) | exact if_neg (by assumption)] at hJ21; exact hJ21
    · refine q_iconst hF dX4_tellTheUntold_29 ?_
      refine q_goto hF dX4_tellTheUntold_30 ?_
      rw [show (if I u 4 = -1 then 0 else I u 4) = 0 from by first | exact if_pos (by assumption) | exact if_neg (by assumption)] at hJ21; exact hJ21
  refine q_aload_n hF 0 rfl rfl dX4_tellTheUntold_1 ?_
  refine q_getIv hF (z := I u 3) fl_RX4_48 hU.t0 rfl dX4_tellTheUntold_2 ?_
  refine q_iconst hF dX4_tellTheUntold_5 ?_
  refine q_icmpne hF (by first | assumption | omega) (by decide) dX4_tellTheUntold_6 (fun c6 => ?_) (fun c6 => ?_)
  · refine q_aload_n hF 0 rfl rfl dX4_tellTheUntold_13 ?_
    refine q_getIv hF (z := I u 3) fl_RX4_48 hU.t0 rfl dX4_tellTheUntold_14 ?_
    rw [show (if I u 3 = -1 then 3 else I u 3) = (I u 3) from by first | exact if_pos (by assumption) | exact if_neg (by assumption)] at hJ1; exact hJ1
  · refine q_iconst hF dX4_tellTheUntold_9 ?_
    refine q_goto hF dX4_tellTheUntold_10 ?_
    rw [show (if I u 3 = -1 then 3 else I u 3) = 3 from by first | exact if_pos (by assumption) | exact if_neg (by assumption)] at hJ1; exact hJ1
