/-! cells made, exceptions thrown and caught, the JDK's own functions -/
def q_upT (T : q_T) (a : Nat) (k : q_K) : q_T := fun q => if q = a then some k else T q
theorem q_upT_s (T : q_T) (a : Nat) (k : q_K) : q_upT T a k a = some k := if_pos rfl
theorem q_upT_n (T : q_T) {a q : Nat} (k : q_K) (h : q ≠ a) : q_upT T a k q = T q := if_neg h
/-- the words of a constructor's call -/
def q_CL (own : String) (idx n ci : Nat) (Y' : q_Y) (nest : Bool) : Prop := (if nest = true then ∃ host : String, Cond.methodLinkNest own idx Y'.1 host ∈ q_nst else Cond.methodLink own idx Y'.1 ∈ q_all) ∧ Cond.initialized Y'.1.cls ∈ q_all ∧ q_code Y' ∈ q_all ∧ (Y'.1.cls ≠ "java/lang/invoke/MethodHandle" ∧ Y'.1.cls ≠ "java/lang/invoke/VarHandle") ∧ (parseMethodDescriptor Y'.1.desc).map (fun d => d.parameters.length) = some n ∧ Y'.2.2.1 ≤ 40 ∧ Y'.1.name = "<init>" ∧ Cond.instanceMethod Y'.1 ∈ q_all ∧ Y'.2.2.2.1 = none
section QMAKE
variable {G : q_G} {F : q_F} {Y : q_Y} {h : Nat} {Q : q_Q} {kc ks pc pc' tgt : Nat} {ls : List (Nat × Value)} {st : List Value} {sz : Nat} {T : q_T} {I L : q_I} {P : q_P}
/-- a constructor's call -/
theorem q_runC {p : Program} {e : Env} {s : State} {m : MethodId} {args : Array Value} {below : List Frame} {meth : Method} {c : Code} {mc ms : Nat} {H : Heap} {locs : List Loc} {cells slots : Nat} {lsA : Array Slot} {idx n ci b h' mc' ms' : Nat} {Y' : q_Y} {nest : Bool} {As : List Value}
    (hx : p.tables.exec = Jvm.exec) (hb : c.code = Y.2.1) (hml : c.maxLocals = Y.2.2.1) (ho : s.vm.findClass Y.1.cls = some m.cls) (hg : q_Gs G s) (vl : q_CL Y.1.cls idx n ci Y' nest) (hh : Y'.2.2.2.2 = []) (hn : As.length = n) (hh' : h' + 1 ≤ h) (hst : (st.map fun v => v.category).sum ≤ 8) (d : decode Y.2.1 pc = .ok (.invokespecial idx, 3))
    (hC : qC G h' mc' ms' Y' (.ref b :: As) sz T I L P Q) (z1 : H.size = sz) (z2 : q_Rep G T I L P H) (z3 : va_S (q_A G) s.heap H locs) (z4 : lv_has lsA c.maxLocals ls) (z5 : cells + mc' ≤ mc) (z6 : slots + ms' ≤ ms) :
    vx_Run p G.1 e (q_rm h mc ms) s m args below meth c H locs cells slots mc' ms' (F0 m pc lsA (As.reverse ++ .ref b :: st)) st (q_Qc G Q (Value.ref b :: As).toArray) (q_XC G Q) (q_A G) := by
  obtain ⟨w1, w2, w3, w4, w5, w6, w7, w8, w9⟩ := vl
  have hcode : q_code Y' = Cond.code Y'.1 Y'.2.1 Y'.2.2.1 none := by unfold q_code; rw [hh, w9]
  have hK : vx_Back G.1 (q_rm h mc ms) p e below s args Y'.1 3 8 (PreOf (q_rm h mc ms) mc' ms' (va_Pc (.ref b :: As) (fun U => q_Gs G U ∧ U.heap.size = sz ∧ q_Rep G T I L P U.heap))) (PostOf (q_Qc G Q) mc' ms' (q_A G)) (vx_Post (q_XC G Q) mc' ms' (q_A G)) :=
    vx_back (bytes := Y'.2.1) (maxL := Y'.2.2.1) (ret := none) hC q_blind rfl rfl (by show h' + 12 + 1 ≤ h + 12; omega) (by show 8 + (_ + 11) + (260 + 60 * h') ≤ 260 + 60 * h; omega) (q_pay hg w3) (by rw [← hcode]; exact List.mem_cons_self) (fun a' U hW => q_word hW (q_all_good w2) (hg.2.2.1 _ w2))
  intro T0 hT0 X
  have hpl : e.platform.magicAccessors = ({} : Platform).magicAccessors := by rw [X.admits.platform]
  have key : ∃ (mk : MethodId) (vm₁ : Vm), s.WarmedH vm₁ ∧ s.methodNamed? Y'.1 = some mk ∧ ∀ target, (∀ acts : List Action, Steps p.tables e below (doInvoke e ((T0.setVm vm₁).setTop { F0 m pc lsA (As.reverse ++ .ref b :: st) with stack := st }) acts mk (Value.ref b :: As).toArray).1 target) → Steps p.tables e below (T0.setTop (F0 m pc lsA (As.reverse ++ .ref b :: st))) target := by
    cases nest with
    | true =>
      obtain ⟨host, w1⟩ := w1
      obtain ⟨mk, methM, cM, kP, vm₁, hnamed, hmethM, hcodeM, -, hlocalsM, -, hkP, -, hW₁, hstep₁⟩ := Steps.initColdArgsNest (e := e) X.here hx X.warmed hpl ho w7 w4 (va_Nw.use rfl (hg.2.2.2.1 _ w1)) (hg.at w8 args) (by rw [← hcode]; exact hg.at w3 args) (f := F0 m pc lsA (As.reverse ++ .ref b :: st)) (a := b) (argsL := As) (rest := st) rfl (fun sig hs => hn.trans (q_len w5 sig hs)) rfl (by rw [hb]; exact d)
      exact ⟨mk, vm₁, hW₁, hnamed, hstep₁⟩
    | false =>
      obtain ⟨mk, methM, cM, kP, vm₁, hnamed, hmethM, hcodeM, -, hlocalsM, -, hkP, -, hW₁, hstep₁⟩ := Steps.initColdArgs (e := e) X.here hx X.warmed hpl ho w7 w4 (hg.at w1 args) (hg.at w8 args) (by rw [← hcode]; exact hg.at w3 args) (f := F0 m pc lsA (As.reverse ++ .ref b :: st)) (a := b) (argsL := As) (rest := st) rfl (fun sig hs => hn.trans (q_len w5 sig hs)) rfl (by rw [hb]; exact d)
      exact ⟨mk, vm₁, hW₁, hnamed, hstep₁⟩
  obtain ⟨mk, vm₁, hW₁, hnamed, hstep₁⟩ := key
  have X₁ := X.noted hW₁
  rcases hK m meth c ⟨T0.setVm vm₁, locs, cells, slots⟩ { F0 m pc lsA (As.reverse ++ .ref b :: st) with stack := st } (.invokespecial idx) mk (Value.ref b :: As).toArray X₁ rfl z4.1 (by rw [hb]; exact d) (lv_room hst) (X₁.named hnamed)
    ⟨by show cells + mc' ≤ mc; omega, by show slots + ms' ≤ ms; omega, rfl, hg.next z3 hT0 hW₁, by rw [show (T0.setVm vm₁).heap = H from hT0]; exact z1, by rw [show (T0.setVm vm₁).heap = H from hT0]; exact z2⟩ with ⟨v, ⟨U', l2, c2, s2⟩, X', ⟨g', mk', t, L9, e1, e2, hq, h1, hL, h2, h3⟩, st9⟩ | ⟨q, ⟨U', l2, c2, s2⟩, X', ⟨g', mk', t, L9, E, ce, e1, e2, hq, hce, hcv, hcl, h1, hL, h2, h3⟩, st9⟩
  · dsimp only [Pt.U, Pt.locs, Pt.cells, Pt.slots] at X' e1 e2 h1 h2 h3 st9
    subst h1; subst h2; subst h3
    exact Or.inl ⟨v, (T0.setVm vm₁).calling g' mk' (Value.ref b :: As).toArray, t, U', L9, hT0, X', hL, e1, e2, hq, fun target h9 => hstep₁ _ fun acts => by rw [doInvoke_state]; exact st9.trans h9⟩
  · dsimp only [Pt.U, Pt.locs, Pt.cells, Pt.slots] at X' e1 e2 h1 h2 h3 st9 hcl
    subst h1; subst h2; subst h3
    exact Or.inr ⟨q, (T0.setVm vm₁).calling g' mk' (Value.ref b :: As).toArray, t, U', L9, E, ce, hT0, X', hL, e1, e2, hq, hce, hcv, vx_cls hW₁ hcl, hstep₁ _ fun acts => by rw [doInvoke_state]; exact st9⟩
theorem q_callC (hF : q_ok G F Y h) {idx n ci b h' mc' ms' : Nat} {Y' : q_Y} {nest : Bool} {stk : List Value} (vl : q_CL Y.1.cls idx n ci Y' nest) (hh : Y'.2.2.2.2 = []) (As : List Value) (hs : stk = As.reverse ++ .ref b :: st) (hn : As.length = n) (hh' : h' + 1 ≤ h) (hst : (st.map fun v => v.category).sum ≤ 8) (d : q_d Y.2.1 pc pc' (.invokespecial idx) 3)
    (hC : qC G h' mc' ms' Y' (.ref b :: As) sz T I L P (q_rt G F Q kc ks pc pc' ls st)) : qX G F Q (kc + mc') (ks + ms') pc ls stk sz T I L P := by
  obtain ⟨p, l, e, R, s, m, args, below, meth, c, mc, ms⟩ := F
  obtain ⟨hx, hb, hr, hlk, hml, ho, hnm, htb, hg, rfl, hst2, rfl⟩ := hF
  obtain ⟨d, hpc⟩ := d
  subst hs
  intro H locs cells slots lsA z1 z2 z3 z4 z5 z6
  exact q_behind hpc (q_runC hx hb hml ho hg vl hh hn hh' hst d hC z1 z2 z3 z4 (by omega) (by omega)) z3 z4 z5 z6
theorem q_objInit (hF : q_ok G F Y h) {idx a : Nat} (w1 : Cond.methodLink Y.1.cls idx Lib.objectInit ∈ q_all) (w2 : Cond.instanceMethod Lib.objectInit ∈ q_all) (w3 : Cond.code Lib.objectInit ⟨#[0xb1]⟩ 1 none ∈ q_all) (hst : (st.map fun v => v.category).sum ≤ 8) (d : q_d Y.2.1 pc pc' (.invokespecial idx) 3)
    (k : qX G F Q kc ks pc' ls st sz T I L P) : qX G F Q kc ks pc ls (.ref a :: st) sz T I L P := by
  obtain ⟨p, l, e, R, s, m, args, below, meth, c, mc, ms⟩ := F
  obtain ⟨hx, hb, hr, hlk, hml, ho, hnm, htb, hg, rfl, -⟩ := hF
  obtain ⟨d, rfl⟩ := d
  intro H locs cells slots lsA z1 z2 z3 z4 z5 z6
  exact W.objInit hx hb ho (hg.at w1 args) (hg.at w2 args) (hg.at w3 args) rfl z4.1 rfl d (by show 1 ≤ h + 12; omega) (by show 2 * 0 + _ + 12 ≤ 260 + 60 * h; omega) (k H locs cells slots lsA z1 z2 z3 z4 z5 z6)
/-- a new cell: what the memory functions hold at its address counts from now on -/
theorem q_Rep.push {G : q_G} {T : q_T} {I L : q_I} {P : q_P} {H H' : Heap} {sz : Nat} {kk : q_K} (z2 : q_Rep G T I L P H) (z1 : H.size = sz) (oq : ∀ q : Nat, q < sz → H'[q]? = H[q]?) (hk : q_at G I L P sz kk H') : q_Rep G (q_upT T sz kk) I L P H' := by
  intro q k9 hk9
  by_cases e : q = sz
  · subst e
    rw [q_upT_s] at hk9
    cases hk9
    exact hk
  · rw [q_upT_n _ _ e] at hk9
    have h0 := z2 q k9 hk9
    exact h0.kept (oq q (by rw [← z1]; exact h0.lt)) (fun _ => rfl) (fun _ => rfl) (fun _ => rfl)
theorem q_Sgrow {A : Nat → Prop} {H0 H H1 : Heap} {locs : List Loc} {sz : Nat} (h : va_S A H0 H locs) (z1 : H.size = sz) (z : sz ≤ H1.size) (o : ∀ q : Nat, q < sz → H1[q]? = H[q]?) : va_S A H0 H1 locs := by
  subst z1
  exact ⟨Nat.le_trans h.1 z, fun q h1 h2 => (o q (Nat.lt_of_lt_of_le h1 h.1)).trans (h.2.1 q h1 h2), h.2.2⟩
def q_NL (own : String) (idx ci : Nat) (N : Nat) : Prop := ∃ r : vw_C, q_cl[ci]? = some r ∧ r.2.2 = N ∧ Cond.classLink own idx r.1 ∈ q_all ∧ Cond.instantiable r.1 N ∈ q_all ∧ Cond.initialized r.1 ∈ q_all
theorem q_dflt (ty : FieldType) (I L : q_I) (P : q_P) (q k : Nat) (hI : I q k = 0) (hL : L q k = 0) (hP : P q k = none) (hty : ty = .int ∨ ty = .boolean ∨ ty = .long ∨ refKind ty = true) : q_fv ty I L P q k = defaultValue ty := by
  unfold q_fv
  rcases hty with rfl | rfl | rfl | hty
  · rw [hI]; rfl
  · rw [hI]; rfl
  · rw [hL]; rfl
  · cases ty <;> first | (cases hty; done) | (rw [hP]; rfl)
theorem q_ft_kind : ∀ (ci : Nat) (r : vw_C), q_cl[ci]? = some r → ∀ k, k < r.2.2 → (q_ft ci k = .int ∨ q_ft ci k = .boolean ∨ q_ft ci k = .long ∨ refKind (q_ft ci k) = true) := by
  intro ci r h
  match ci, h with
  | 0, h => cases h; decide +kernel
  | 1, h => cases h; decide +kernel
  | 2, h => cases h; decide +kernel
  | 3, h => cases h; decide +kernel
  | 4, h => cases h; decide +kernel
  | 5, h => cases h; decide +kernel
  | 6, h => cases h; decide +kernel
  | 7, h => cases h; decide +kernel
  | 8, h => cases h; decide +kernel
  | 9, h => cases h; decide +kernel
  | n + 10, h => simp at h
theorem q_new (hF : q_ok G F Y h) {idx ci N : Nat} (nl : q_NL Y.1.cls idx ci N) (hI : ∀ k, I sz k = 0) (hL : ∀ k, L sz k = 0) (hP : ∀ k, P sz k = none) (d : q_d Y.2.1 pc pc' (.new idx) 3)
    (k : qX G F Q kc ks pc' ls (.ref sz :: st) (sz + 1) (q_upT T sz (.inl ci)) I L P) : qX G F Q (kc + 1) (ks + N) pc ls st sz T I L P := by
  obtain ⟨p, l, e, R, s, m, args, below, meth, c, mc, ms⟩ := F
  obtain ⟨hx, hb, hr, hlk, hml, ho, hnm, htb, hg, rfl, -⟩ := hF
  obtain ⟨d, rfl⟩ := d
  obtain ⟨r, f1, rfl, f3, f4, f5⟩ := nl
  intro H locs cells slots lsA z1 z2 z3 z4 z5 z6
  have hKn := hg.2.1.1 ci _ f1
  refine W.newcK hx hb ho (hg.at f3 args) (hg.at f4 args) (hg.at f5 args) rfl d (by show cells + 1 ≤ mc; omega) (by show slots + _ ≤ ms; omega) hKn.2.1 z1 fun H1 kC hkC e1 y1 o1 => ?_
  refine k H1 locs (cells + 1) (slots + r.2.2) lsA y1 (z2.push z1 o1 ⟨r, f1, ?_⟩) (q_Sgrow z3 z1 (by omega) o1) z4 (by omega) (by omega)
  exact (u_born (q_ft ci) (hg.ts args) (q_lay_in f1) hKn hkC e1 (q_ft_ok ci r f1)).to (fun j hj => (q_dflt _ I L P sz j (hI j) (hL j) (hP j) (q_ft_kind ci r f1 j hj)).symm)
theorem q_arrA {cA cB : ClassId} {s : State} {ty : FieldType} (h1 : s.vm.findClass ("[" ++ ty.toString) = some cA) (h2 : s.vm.findClass ("[" ++ ty.toString) = some cB) : cA = cB := Option.some.inj (h1.symm.trans h2)
theorem q_newarr (hF : q_ok G F Y h) {t : Nat} {atype : ArrayType} {n : Int} (ht : t = 0 ∧ atype = .int ∨ t = 1 ∧ atype = .long) (hw : Cond.arrayClass (newarray.typeOf atype) ∈ q_all) (hn : 0 ≤ n ∧ n < 1000000) (hI : ∀ k, I sz k = 0) (hL : ∀ k, L sz k = 0) (d : q_d Y.2.1 pc pc' (.newarray atype) 2)
    (k : qX G F Q kc ks pc' ls (.ref sz :: st) (sz + 1) (q_upT T sz (.inr (t, n.toNat))) I L P) : qX G F Q (kc + 1) (ks + n.toNat) pc ls (qI n :: st) sz T I L P := by
  obtain ⟨p, l, e, R, s, m, args, below, meth, c, mc, ms⟩ := F
  obtain ⟨hx, hb, hr, hlk, hml, ho, hnm, htb, hg, rfl, -⟩ := hF
  obtain ⟨d, rfl⟩ := d
  intro H locs cells slots lsA z1 z2 z3 z4 z5 z6
  have hcl : (Int32.ofInt n).toNatClampNeg = n.toNat := qi_cl (by omega)
  have hcb : componentBytes (newarray.typeOf atype) ≤ 8 := by rcases ht with ⟨-, rfl⟩ | ⟨-, rfl⟩ <;> decide
  have hbt : n.toNat * componentBytes (newarray.typeOf atype) ≤ 536870912 := Nat.le_trans (Nat.mul_le_mul_left _ hcb) (by omega)
  refine va_newaK hx hb (hg.at hw args) rfl d rfl (by rw [qi_lt0 (by omega)]; omega) hcl hbt (by show cells + 1 ≤ mc; omega) (by show slots + n.toNat ≤ ms; omega) z1 fun H1 cA e1 y1 o1 hAr hNm => ?_
  have hcA : cA = G.2.2.1 t ∧ t < 10 ∧ ∀ j, q_fv (q_ty t) I L P sz j = defaultValue (newarray.typeOf atype) := by
    rcases ht with ⟨rfl, rfl⟩ | ⟨rfl, rfl⟩
    · exact ⟨q_arrA hNm (hg.2.1.2 0 _ rfl).2, by decide, fun j => by show qI (I sz j) = _; rw [hI j]; rfl⟩
    · exact ⟨q_arrA hNm (hg.2.1.2 1 _ rfl).2, by decide, fun j => by show qL (L sz j) = _; rw [hL j]; rfl⟩
  obtain ⟨rfl, h8, hv⟩ := hcA
  refine k H1 locs (cells + 1) (slots + n.toNat) lsA y1 (z2.push z1 o1 ⟨h8, e1.trans ?_⟩) (q_Sgrow z3 z1 (by omega) o1) z4 (by omega) (by omega)
  congr 2
  funext j
  exact (hv j).symm
theorem q_anew (hF : q_ok G F Y h) {t idx : Nat} {C : String} {n : Int} (hty : q_ty t = .object C) (h2 : 2 ≤ t) (h8 : t < 10) (w1 : Cond.classLink Y.1.cls idx C ∈ q_all) (w2 : Cond.arrayOver (.object C) ∈ q_nst) (hn : 0 ≤ n ∧ n < 1000000) (hP : ∀ k, P sz k = none) (d : q_d Y.2.1 pc pc' (.anewarray idx) 3)
    (k : qX G F Q kc ks pc' ls (.ref sz :: st) (sz + 1) (q_upT T sz (.inr (t, n.toNat))) I L P) : qX G F Q (kc + 1) (ks + n.toNat) pc ls (qI n :: st) sz T I L P := by
  obtain ⟨p, l, e, R, s, m, args, below, meth, c, mc, ms⟩ := F
  obtain ⟨hx, hb, hr, hlk, hml, ho, hnm, htb, hg, rfl, -⟩ := hF
  obtain ⟨d, rfl⟩ := d
  intro H locs cells slots lsA z1 z2 z3 z4 z5 z6
  have hcl : (Int32.ofInt n).toNatClampNeg = n.toNat := qi_cl (by omega)
  have hao : va_AO C s := hg.2.2.2.1 _ w2
  refine W.anew hx hb ho (hg.at w1 args) (va_AO.use hao) rfl d rfl (by rw [qi_lt0 (by omega)]; omega) (by rw [hcl]; omega) (by show cells + 1 ≤ mc; omega) (by show slots + _ ≤ ms; rw [hcl]; omega) fun cA kA comp f1 f2 f3 f4 => ?_
  rw [hcl]
  generalize hH1 : H.push ({ cls := cA, slots := Array.replicate n.toNat .null, vm := .none } : Cell) = H1
  have y1 : H1.size = sz + 1 := by rw [← hH1, Array.size_push, z1]
  have e1 : H1[sz]? = some (arrV cA n.toNat (fun _ => .null)) := by rw [← hH1, ← z1, Array.getElem?_push_size, ← arrV_new]
  have o1 : ∀ q : Nat, q < sz → H1[q]? = H[q]? := fun q hq => by rw [← hH1, Array.getElem?_push, if_neg (by rw [z1]; exact Nat.ne_of_lt hq)]
  have hcA : cA = G.2.2.1 t := by
    have hk := (hg.2.1.2 t _ (q_tys_at _ h8)).2
    rw [show (G.2.2.1 t, q_ty t).2 = .object C from hty] at hk
    obtain ⟨kA', comp', k1, k2, k3, k4⟩ := hk
    exact Option.some.inj (f1.symm.trans k4)
  rw [z1]
  subst hcA
  refine k H1 locs (cells + 1) (slots + n.toNat) lsA y1 (z2.push z1 o1 ⟨h8, e1.trans ?_⟩) (q_Sgrow z3 z1 (by omega) o1) z4 (by omega) (by omega)
  congr 2
  funext j
  rw [(q_refty h2 h8).2, hP j]
  rfl
/-! references compared -/
theorem q_ifnull (hF : q_ok G F Y h) {r : Option Nat} (d : q_j Y.2.1 pc pc' tgt (fun o => .ifnull o)) (kt : r = none → qX G F Q kc ks tgt ls st sz T I L P) (kf : r ≠ none → qX G F Q kc ks pc' ls st sz T I L P) : qX G F Q kc ks pc ls (qR r :: st) sz T I L P := by
  obtain ⟨p, l, e, R, s, m, args, below, meth, c, mc, ms⟩ := F
  obtain ⟨hx, hb, -⟩ := hF
  obtain ⟨off, d, rfl, ht⟩ := d
  intro H locs cells slots lsA z1 z2 z3 z4 z5 z6
  cases r with
  | none => exact lv_ifnullN hx hb d ht (kt rfl H locs cells slots lsA z1 z2 z3 z4 z5 z6)
  | some a => exact lv_ifnull hx hb d (kf (fun e => by cases e) H locs cells slots lsA z1 z2 z3 z4 z5 z6)
theorem q_ifnonnull (hF : q_ok G F Y h) {r : Option Nat} (d : q_j Y.2.1 pc pc' tgt (fun o => .ifnonnull o)) (kt : r ≠ none → qX G F Q kc ks tgt ls st sz T I L P) (kf : r = none → qX G F Q kc ks pc' ls st sz T I L P) : qX G F Q kc ks pc ls (qR r :: st) sz T I L P := by
  obtain ⟨p, l, e, R, s, m, args, below, meth, c, mc, ms⟩ := F
  obtain ⟨hx, hb, -⟩ := hF
  obtain ⟨off, d, rfl, ht⟩ := d
  intro H locs cells slots lsA z1 z2 z3 z4 z5 z6
  cases r with
  | none => exact lv_ifnonnullN hx hb d (kf rfl H locs cells slots lsA z1 z2 z3 z4 z5 z6)
  | some a => exact lv_ifnonnull hx hb d ht (kt (fun e => by cases e) H locs cells slots lsA z1 z2 z3 z4 z5 z6)
theorem q_acmpeq (hF : q_ok G F Y h) {rx ry : Option Nat} (d : q_j Y.2.1 pc pc' tgt (fun o => .if_acmp .eq o)) (kt : rx = ry → qX G F Q kc ks tgt ls st sz T I L P) (kf : rx ≠ ry → qX G F Q kc ks pc' ls st sz T I L P) : qX G F Q kc ks pc ls (qR ry :: qR rx :: st) sz T I L P := by
  obtain ⟨p, l, e, R, s, m, args, below, meth, c, mc, ms⟩ := F
  obtain ⟨hx, hb, -⟩ := hF
  obtain ⟨off, d, rfl, ht⟩ := d
  intro H locs cells slots lsA z1 z2 z3 z4 z5 z6
  exact lv_acmp_eq hx hb d ht (fun q => kt q H locs cells slots lsA z1 z2 z3 z4 z5 z6) (fun q => kf q H locs cells slots lsA z1 z2 z3 z4 z5 z6)
theorem q_acmpne (hF : q_ok G F Y h) {rx ry : Option Nat} (d : q_j Y.2.1 pc pc' tgt (fun o => .if_acmp .ne o)) (kt : rx ≠ ry → qX G F Q kc ks tgt ls st sz T I L P) (kf : rx = ry → qX G F Q kc ks pc' ls st sz T I L P) : qX G F Q kc ks pc ls (qR ry :: qR rx :: st) sz T I L P := by
  obtain ⟨p, l, e, R, s, m, args, below, meth, c, mc, ms⟩ := F
  obtain ⟨hx, hb, -⟩ := hF
  obtain ⟨off, d, rfl, ht⟩ := d
  intro H locs cells slots lsA z1 z2 z3 z4 z5 z6
  exact lv_acmp_ne hx hb d ht (fun q => kt q H locs cells slots lsA z1 z2 z3 z4 z5 z6) (fun q => kf q H locs cells slots lsA z1 z2 z3 z4 z5 z6)
/-! switch -/
theorem q_tableIn (hF : q_ok G F Y h) {dflt lo hi : Int} {offs : Array Int} {len : Nat} {z off : Int} (hd : decode Y.2.1 pc = .ok (.tableswitch dflt lo hi offs, len)) (hz : -2147483648 ≤ z ∧ z < 2147483648) (h1 : lo ≤ z) (h2 : z ≤ hi) (ho : offs[(z - lo).toNat]? = some off) (ht : (pc : Int) + off = (tgt : Int)) (k : qX G F Q kc ks tgt ls st sz T I L P) : qX G F Q kc ks pc ls (qI z :: st) sz T I L P := by
  obtain ⟨p, l, e, R, s, m, args, below, meth, c, mc, ms⟩ := F
  obtain ⟨hx, hb, -⟩ := hF
  intro H locs cells slots lsA z1 z2 z3 z4 z5 z6
  exact lv_tableIn hx hb hd (by rw [qi_toInt hz]; omega) (by rw [qi_toInt hz]; omega) (by rw [qi_toInt hz]; exact ho) ht (k H locs cells slots lsA z1 z2 z3 z4 z5 z6)
theorem q_tableOut (hF : q_ok G F Y h) {dflt lo hi : Int} {offs : Array Int} {len : Nat} {z : Int} (hd : decode Y.2.1 pc = .ok (.tableswitch dflt lo hi offs, len)) (hz : -2147483648 ≤ z ∧ z < 2147483648) (h1 : z < lo ∨ hi < z) (ht : (pc : Int) + dflt = (tgt : Int)) (k : qX G F Q kc ks tgt ls st sz T I L P) : qX G F Q kc ks pc ls (qI z :: st) sz T I L P := by
  obtain ⟨p, l, e, R, s, m, args, below, meth, c, mc, ms⟩ := F
  obtain ⟨hx, hb, -⟩ := hF
  intro H locs cells slots lsA z1 z2 z3 z4 z5 z6
  exact lv_tableOut hx hb hd (by rw [qi_toInt hz]; exact h1) ht (k H locs cells slots lsA z1 z2 z3 z4 z5 z6)
/-! Math -/
theorem q_mini (hF : q_ok G F Y h) {idx : Nat} {a b : Int} (w1 : Cond.methodLink Y.1.cls idx Lib.Math.min.name ∈ q_all) (w2 : Cond.static Lib.Math.min.name ∈ q_all) (w3 : Cond.initialized "java/lang/Math" ∈ q_all) (w4 : Cond.code Lib.Math.min.name Lib.Math.min.code 2 (some .int) ∈ q_all) (ha : -2147483648 ≤ a ∧ a < 2147483648) (hb2 : -2147483648 ≤ b ∧ b < 2147483648) (hst : (st.map fun v => v.category).sum ≤ 8) (d : q_d Y.2.1 pc pc' (.invokestatic idx) 3)
    (k : qX G F Q kc ks pc' ls (qI (min a b) :: st) sz T I L P) : qX G F Q kc ks pc ls (qI b :: qI a :: st) sz T I L P := by
  obtain ⟨p, l, e, R, s, m, args, below, meth, c, mc, ms⟩ := F
  obtain ⟨hx, hb, hr, hlk, hml, ho, hnm, htb, hg, rfl, -⟩ := hF
  obtain ⟨d, rfl⟩ := d
  intro H locs cells slots lsA z1 z2 z3 z4 z5 z6
  refine va_mmin hx hb z4.1.symm ho (hg.at w1 args) (hg.at w2 args) (hg.at w3 args) (hg.at w4 args) (by show 1 ≤ h + 12; omega) (by show _ + 13 ≤ 260 + 60 * h; omega) (by show cells ≤ mc; omega) (by show slots ≤ ms; omega) d ?_
  have e0 : (if Int32.ofInt b < Int32.ofInt a then Int32.ofInt b else Int32.ofInt a) = Int32.ofInt (min a b) := by
    by_cases q : b < a
    · rw [if_pos ((qi_lt hb2 ha).mpr q), Int.min_def, if_neg (by omega)]
    · rw [if_neg (mt (qi_lt hb2 ha).mp q), Int.min_def, if_pos (by omega)]
  rw [e0]
  exact k H locs cells slots lsA z1 z2 z3 z4 z5 z6
theorem q_maxi (hF : q_ok G F Y h) {idx : Nat} {a b : Int} (w1 : Cond.methodLink Y.1.cls idx Lib.Math.max.name ∈ q_all) (w2 : Cond.static Lib.Math.max.name ∈ q_all) (w3 : Cond.initialized "java/lang/Math" ∈ q_all) (w4 : Cond.code Lib.Math.max.name Lib.Math.max.code 2 (some .int) ∈ q_all) (ha : -2147483648 ≤ a ∧ a < 2147483648) (hb2 : -2147483648 ≤ b ∧ b < 2147483648) (hst : (st.map fun v => v.category).sum ≤ 8) (d : q_d Y.2.1 pc pc' (.invokestatic idx) 3)
    (k : qX G F Q kc ks pc' ls (qI (max a b) :: st) sz T I L P) : qX G F Q kc ks pc ls (qI b :: qI a :: st) sz T I L P := by
  obtain ⟨p, l, e, R, s, m, args, below, meth, c, mc, ms⟩ := F
  obtain ⟨hx, hb, hr, hlk, hml, ho, hnm, htb, hg, rfl, -⟩ := hF
  obtain ⟨d, rfl⟩ := d
  intro H locs cells slots lsA z1 z2 z3 z4 z5 z6
  refine va_mmax hx hb z4.1.symm ho (hg.at w1 args) (hg.at w2 args) (hg.at w3 args) (hg.at w4 args) (by show 1 ≤ h + 12; omega) (by show _ + 13 ≤ 260 + 60 * h; omega) (by show cells ≤ mc; omega) (by show slots ≤ ms; omega) d ?_
  have e0 : (if Int32.ofInt a < Int32.ofInt b then Int32.ofInt b else Int32.ofInt a) = Int32.ofInt (max a b) := by
    by_cases q : a < b
    · rw [if_pos ((qi_lt ha hb2).mpr q), Int.max_def, if_pos (by omega)]
    · rw [if_neg (mt (qi_lt ha hb2).mp q), Int.max_def]
      split
      · congr 1; omega
      · rfl
  rw [e0]
  exact k H locs cells slots lsA z1 z2 z3 z4 z5 z6
theorem q_minl (hF : q_ok G F Y h) {idx : Nat} {a b : Int} (w1 : Cond.methodLink Y.1.cls idx Lib.MathLoose.min_long.x ∈ q_all) (w2 : Cond.static Lib.MathLoose.min_long.x ∈ q_all) (w3 : Cond.initialized "java/lang/Math" ∈ q_all) (w4 : Cond.code Lib.MathLoose.min_long.x Lib.MathLoose.min_long.code 4 (some .long) ∈ q_all) (ha : -9223372036854775808 ≤ a ∧ a < 9223372036854775808) (hb2 : -9223372036854775808 ≤ b ∧ b < 9223372036854775808) (hst : (st.map fun v => v.category).sum ≤ 8) (d : q_d Y.2.1 pc pc' (.invokestatic idx) 3)
    (k : qX G F Q kc ks pc' ls (qL (min a b) :: st) sz T I L P) : qX G F Q kc ks pc ls (qL b :: qL a :: st) sz T I L P := by
  obtain ⟨p, l, e, R, s, m, args, below, meth, c, mc, ms⟩ := F
  obtain ⟨hx, hb, hr, hlk, hml, ho, hnm, htb, hg, rfl, -⟩ := hF
  obtain ⟨d, rfl⟩ := d
  intro H locs cells slots lsA z1 z2 z3 z4 z5 z6
  refine va_mmin_long hx hb z4.1.symm ho (hg.at w1 args) (hg.at w2 args) (hg.at w3 args) (hg.at w4 args) (by show 1 ≤ h + 12; omega) (by show _ + 15 ≤ 260 + 60 * h; omega) (by show cells ≤ mc; omega) (by show slots ≤ ms; omega) d ?_
  have e0 : (if Int64.ofInt b < Int64.ofInt a then Int64.ofInt b else Int64.ofInt a) = Int64.ofInt (min a b) := by
    by_cases q : b < a
    · rw [if_pos ((ql_lt hb2 ha).mpr q), Int.min_def, if_neg (by omega)]
    · rw [if_neg (mt (ql_lt hb2 ha).mp q), Int.min_def, if_pos (by omega)]
  rw [e0]
  exact k H locs cells slots lsA z1 z2 z3 z4 z5 z6
theorem q_maxl (hF : q_ok G F Y h) {idx : Nat} {a b : Int} (w1 : Cond.methodLink Y.1.cls idx Lib.MathLoose.max_long.x ∈ q_all) (w2 : Cond.static Lib.MathLoose.max_long.x ∈ q_all) (w3 : Cond.initialized "java/lang/Math" ∈ q_all) (w4 : Cond.code Lib.MathLoose.max_long.x Lib.MathLoose.max_long.code 4 (some .long) ∈ q_all) (ha : -9223372036854775808 ≤ a ∧ a < 9223372036854775808) (hb2 : -9223372036854775808 ≤ b ∧ b < 9223372036854775808) (hst : (st.map fun v => v.category).sum ≤ 8) (d : q_d Y.2.1 pc pc' (.invokestatic idx) 3)
    (k : qX G F Q kc ks pc' ls (qL (max a b) :: st) sz T I L P) : qX G F Q kc ks pc ls (qL b :: qL a :: st) sz T I L P := by
  obtain ⟨p, l, e, R, s, m, args, below, meth, c, mc, ms⟩ := F
  obtain ⟨hx, hb, hr, hlk, hml, ho, hnm, htb, hg, rfl, -⟩ := hF
  obtain ⟨d, rfl⟩ := d
  intro H locs cells slots lsA z1 z2 z3 z4 z5 z6
  refine va_mmax_long hx hb z4.1.symm ho (hg.at w1 args) (hg.at w2 args) (hg.at w3 args) (hg.at w4 args) (by show 1 ≤ h + 12; omega) (by show _ + 15 ≤ 260 + 60 * h; omega) (by show cells ≤ mc; omega) (by show slots ≤ ms; omega) d ?_
  have e0 : (if Int64.ofInt b < Int64.ofInt a then Int64.ofInt a else Int64.ofInt b) = Int64.ofInt (max a b) := by
    by_cases q : b < a
    · rw [if_pos ((ql_lt hb2 ha).mpr q), Int.max_def, if_neg (by omega)]
    · rw [if_neg (mt (ql_lt hb2 ha).mp q), Int.max_def, if_pos (by omega)]
  rw [e0]
  exact k H locs cells slots lsA z1 z2 z3 z4 z5 z6
theorem q_absl (hF : q_ok G F Y h) {idx : Nat} {a : Int} (w1 : Cond.methodLink Y.1.cls idx Lib.MathLoose.abs_long.x ∈ q_all) (w2 : Cond.static Lib.MathLoose.abs_long.x ∈ q_all) (w3 : Cond.initialized "java/lang/Math" ∈ q_all) (w4 : Cond.code Lib.MathLoose.abs_long.x Lib.MathLoose.abs_long.code 2 (some .long) ∈ q_all) (ha : -9223372036854775808 ≤ a ∧ a < 9223372036854775808) (hst : (st.map fun v => v.category).sum ≤ 8) (d : q_d Y.2.1 pc pc' (.invokestatic idx) 3)
    (k : qX G F Q kc ks pc' ls (qL (if 0 < a then a else -a) :: st) sz T I L P) : qX G F Q kc ks pc ls (qL a :: st) sz T I L P := by
  obtain ⟨p, l, e, R, s, m, args, below, meth, c, mc, ms⟩ := F
  obtain ⟨hx, hb, hr, hlk, hml, ho, hnm, htb, hg, rfl, -⟩ := hF
  obtain ⟨d, rfl⟩ := d
  intro H locs cells slots lsA z1 z2 z3 z4 z5 z6
  refine va_mabs_long hx hb z4.1.symm ho (hg.at w1 args) (hg.at w2 args) (hg.at w3 args) (hg.at w4 args) (by show 1 ≤ h + 12; omega) (by show _ + 13 ≤ 260 + 60 * h; omega) (by show cells ≤ mc; omega) (by show slots ≤ ms; omega) d ?_
  have e0 : (if 0 < Int64.ofInt a then Int64.ofInt a else -Int64.ofInt a) = Int64.ofInt (if 0 < a then a else -a) := by
    have h0 : (0 : Int64) = Int64.ofInt 0 := rfl
    by_cases q : 0 < a
    · rw [if_pos q, if_pos (by rw [h0]; exact (ql_lt (by decide) ha).mpr q)]
    · rw [if_neg q, if_neg (by rw [h0]; exact mt (ql_lt (by decide) ha).mp q), Int64.ofInt_neg]
  rw [e0]
  exact k H locs cells slots lsA z1 z2 z3 z4 z5 z6
end QMAKE
section QMORE
variable {G : q_G} {F : q_F} {Y : q_Y} {h : Nat} {Q : q_Q} {kc ks pc pc' pc1 tgt : Nat} {ls : List (Nat × Value)} {st : List Value} {sz : Nat} {T : q_T} {I L : q_I} {P : q_P}
theorem q_ifeq_b (hF : q_ok G F Y h) {c : Prop} [Decidable c] (d : q_j Y.2.1 pc pc' tgt (fun o => .ifCond .eq o)) (kt : ¬ c → qX G F Q kc ks tgt ls st sz T I L P) (kf : c → qX G F Q kc ks pc' ls st sz T I L P) : qX G F Q kc ks pc ls (qI (q_b c) :: st) sz T I L P :=
  q_ifeq hF (q_b_r c) d (fun e => kt (q_b_0.mp e)) (fun e => kf (Decidable.byContradiction fun n => e (q_b_0.mpr n)))
theorem q_ifne_b (hF : q_ok G F Y h) {c : Prop} [Decidable c] (d : q_j Y.2.1 pc pc' tgt (fun o => .ifCond .ne o)) (kt : c → qX G F Q kc ks tgt ls st sz T I L P) (kf : ¬ c → qX G F Q kc ks pc' ls st sz T I L P) : qX G F Q kc ks pc ls (qI (q_b c) :: st) sz T I L P :=
  q_ifne hF (q_b_r c) d (fun e => kt (Decidable.byContradiction fun n => e (q_b_0.mpr n))) (fun e => kf (q_b_0.mp e))
/-! a read, told by a value; an index, told by a Nat -/
theorem q_getIv (hF : q_ok G F Y h) {idx ci j a : Nat} {fin : Bool} {z : Int} (fl : q_FL Y.1.cls idx ci j .int fin) (hT : T a = some (.inl ci)) (hz : I a j = z) (d : q_d Y.2.1 pc pc' (.getfield idx) 3) (k : qX G F Q kc ks pc' ls (qI z :: st) sz T I L P) : qX G F Q kc ks pc ls (.ref a :: st) sz T I L P := by subst hz; exact q_getI hF fl hT d k
theorem q_getZv (hF : q_ok G F Y h) {idx ci j a : Nat} {fin : Bool} {z : Int} (fl : q_FL Y.1.cls idx ci j .boolean fin) (hT : T a = some (.inl ci)) (hz : I a j = z) (d : q_d Y.2.1 pc pc' (.getfield idx) 3) (k : qX G F Q kc ks pc' ls (qI z :: st) sz T I L P) : qX G F Q kc ks pc ls (.ref a :: st) sz T I L P := by subst hz; exact q_getZ hF fl hT d k
theorem q_getLv (hF : q_ok G F Y h) {idx ci j a : Nat} {fin : Bool} {z : Int} (fl : q_FL Y.1.cls idx ci j .long fin) (hT : T a = some (.inl ci)) (hz : L a j = z) (d : q_d Y.2.1 pc pc' (.getfield idx) 3) (k : qX G F Q kc ks pc' ls (qL z :: st) sz T I L P) : qX G F Q kc ks pc ls (.ref a :: st) sz T I L P := by subst hz; exact q_getL hF fl hT d k
theorem q_nat {i : Int} {j n : Nat} (hj : i = (j : Int)) (hn : j < n) : (0 ≤ i ∧ i < (n : Int)) ∧ i.toNat = j := by omega
theorem q_ialoadv (hF : q_ok G F Y h) {a n : Nat} {i z : Int} (j : Nat) (hT : T a = some (.inr (0, n))) (hj : i = (j : Int)) (hn : j < n) (hb : (n : Int) < 2147483648) (hz : I a j = z) (d : q_d Y.2.1 pc pc' .iaload 1) (k : qX G F Q kc ks pc' ls (qI z :: st) sz T I L P) : qX G F Q kc ks pc ls (qI i :: .ref a :: st) sz T I L P := by
  obtain ⟨h1, h2⟩ := q_nat hj hn
  subst hz
  exact q_iaload hF hT h1 hb d (by rw [h2]; exact k)
theorem q_laloadv (hF : q_ok G F Y h) {a n : Nat} {i z : Int} (j : Nat) (hT : T a = some (.inr (1, n))) (hj : i = (j : Int)) (hn : j < n) (hb : (n : Int) < 2147483648) (hz : L a j = z) (d : q_d Y.2.1 pc pc' .laload 1) (k : qX G F Q kc ks pc' ls (qL z :: st) sz T I L P) : qX G F Q kc ks pc ls (qI i :: .ref a :: st) sz T I L P := by
  obtain ⟨h1, h2⟩ := q_nat hj hn
  subst hz
  exact q_laload hF hT h1 hb d (by rw [h2]; exact k)
theorem q_aaloadv (hF : q_ok G F Y h) {a n t b : Nat} {i : Int} (j : Nat) (hT : T a = some (.inr (t, n))) (h2 : 2 ≤ t) (hj : i = (j : Int)) (hn : j < n) (hb : (n : Int) < 2147483648) (hp : P a j = some b) (d : q_d Y.2.1 pc pc' .aaload 1) (k : qX G F Q kc ks pc' ls (.ref b :: st) sz T I L P) : qX G F Q kc ks pc ls (qI i :: .ref a :: st) sz T I L P := by
  obtain ⟨h1, h3⟩ := q_nat hj hn
  exact q_aaload hF hT h2 h1 hb (by rw [h3]; exact hp) d k
theorem q_aaloadRv (hF : q_ok G F Y h) {a n t : Nat} {i : Int} {r : Option Nat} (j : Nat) (hT : T a = some (.inr (t, n))) (h2 : 2 ≤ t) (hj : i = (j : Int)) (hn : j < n) (hb : (n : Int) < 2147483648) (hp : P a j = r) (d : q_d Y.2.1 pc pc' .aaload 1) (k : qX G F Q kc ks pc' ls (qR r :: st) sz T I L P) : qX G F Q kc ks pc ls (qI i :: .ref a :: st) sz T I L P := by
  obtain ⟨h1, h3⟩ := q_nat hj hn
  subst hp
  exact q_aaloadR hF hT h2 h1 hb d (by rw [h3]; exact k)
theorem q_iastorev (hF : q_ok G F Y h) {a n : Nat} {i z : Int} (j : Nat) (hT : T a = some (.inr (0, n))) (hA : q_A G a) (hj : i = (j : Int)) (hn : j < n) (hb : (n : Int) < 2147483648) (d : q_d Y.2.1 pc pc' .iastore 1) (k : qX G F Q kc ks pc' ls st sz T (u2 I a j z) L P) : qX G F Q kc ks pc ls (qI z :: qI i :: .ref a :: st) sz T I L P := by
  obtain ⟨h1, h3⟩ := q_nat hj hn
  exact q_iastore hF hT hA h1 hb d (by rw [h3]; exact k)
theorem q_lastorev (hF : q_ok G F Y h) {a n : Nat} {i z : Int} (j : Nat) (hT : T a = some (.inr (1, n))) (hA : q_A G a) (hj : i = (j : Int)) (hn : j < n) (hb : (n : Int) < 2147483648) (d : q_d Y.2.1 pc pc' .lastore 1) (k : qX G F Q kc ks pc' ls st sz T I (u2 L a j z) P) : qX G F Q kc ks pc ls (qL z :: qI i :: .ref a :: st) sz T I L P := by
  obtain ⟨h1, h3⟩ := q_nat hj hn
  exact q_lastore hF hT hA h1 hb d (by rw [h3]; exact k)
theorem q_dup2 (hF : q_ok G F Y h) {v w : Value} (hv : v.category = 1) (hw : w.category = 1) (d : q_d Y.2.1 pc pc' .dup2 1) (k : qX G F Q kc ks pc' ls (v :: w :: v :: w :: st) sz T I L P) : qX G F Q kc ks pc ls (v :: w :: st) sz T I L P := by
  obtain ⟨p, l, e, R, s, m, args, below, meth, c, mc, ms⟩ := F
  obtain ⟨hx, hb, -⟩ := hF
  obtain ⟨d, rfl⟩ := d
  intro H locs cells slots lsA z1 z2 z3 z4 z5 z6
  exact lv_dup2_11 hx hb d hv hw (k H locs cells slots lsA z1 z2 z3 z4 z5 z6)
theorem q_Ale {G : q_G} {a b : Nat} (h : q_A G a) (hab : a ≤ b) : q_A G b := Nat.le_trans h hab
/-- the comparison of two longs and the branch on it -/
theorem q_cmplt (hF : q_ok G F Y h) {a b : Int} (ha : -9223372036854775808 ≤ a ∧ a < 9223372036854775808) (hb2 : -9223372036854775808 ≤ b ∧ b < 9223372036854775808) (d1 : q_d Y.2.1 pc pc1 .lcmp 1) (d2 : q_j Y.2.1 pc1 pc' tgt (fun o => .ifCond .lt o)) (kt : a < b → qX G F Q kc ks tgt ls st sz T I L P) (kf : b ≤ a → qX G F Q kc ks pc' ls st sz T I L P) : qX G F Q kc ks pc ls (qL b :: qL a :: st) sz T I L P :=
  q_lcmp hF ha hb2 d1 (q_iflt hF (q_cmp_r a b) d2 (fun e => kt (q_cmp_lt.mp e)) (fun e => kf (q_cmp_ge.mp e)))
theorem q_cmpge (hF : q_ok G F Y h) {a b : Int} (ha : -9223372036854775808 ≤ a ∧ a < 9223372036854775808) (hb2 : -9223372036854775808 ≤ b ∧ b < 9223372036854775808) (d1 : q_d Y.2.1 pc pc1 .lcmp 1) (d2 : q_j Y.2.1 pc1 pc' tgt (fun o => .ifCond .ge o)) (kt : b ≤ a → qX G F Q kc ks tgt ls st sz T I L P) (kf : a < b → qX G F Q kc ks pc' ls st sz T I L P) : qX G F Q kc ks pc ls (qL b :: qL a :: st) sz T I L P :=
  q_lcmp hF ha hb2 d1 (q_ifge hF (q_cmp_r a b) d2 (fun e => kt (q_cmp_ge.mp e)) (fun e => kf (q_cmp_lt.mp e)))
theorem q_cmpgt (hF : q_ok G F Y h) {a b : Int} (ha : -9223372036854775808 ≤ a ∧ a < 9223372036854775808) (hb2 : -9223372036854775808 ≤ b ∧ b < 9223372036854775808) (d1 : q_d Y.2.1 pc pc1 .lcmp 1) (d2 : q_j Y.2.1 pc1 pc' tgt (fun o => .ifCond .gt o)) (kt : b < a → qX G F Q kc ks tgt ls st sz T I L P) (kf : a ≤ b → qX G F Q kc ks pc' ls st sz T I L P) : qX G F Q kc ks pc ls (qL b :: qL a :: st) sz T I L P :=
  q_lcmp hF ha hb2 d1 (q_ifgt hF (q_cmp_r a b) d2 (fun e => kt (q_cmp_gt.mp e)) (fun e => kf (q_cmp_le.mp e)))
theorem q_cmple (hF : q_ok G F Y h) {a b : Int} (ha : -9223372036854775808 ≤ a ∧ a < 9223372036854775808) (hb2 : -9223372036854775808 ≤ b ∧ b < 9223372036854775808) (d1 : q_d Y.2.1 pc pc1 .lcmp 1) (d2 : q_j Y.2.1 pc1 pc' tgt (fun o => .ifCond .le o)) (kt : a ≤ b → qX G F Q kc ks tgt ls st sz T I L P) (kf : b < a → qX G F Q kc ks pc' ls st sz T I L P) : qX G F Q kc ks pc ls (qL b :: qL a :: st) sz T I L P :=
  q_lcmp hF ha hb2 d1 (q_ifle hF (q_cmp_r a b) d2 (fun e => kt (q_cmp_le.mp e)) (fun e => kf (q_cmp_gt.mp e)))
theorem q_cmpeq (hF : q_ok G F Y h) {a b : Int} (ha : -9223372036854775808 ≤ a ∧ a < 9223372036854775808) (hb2 : -9223372036854775808 ≤ b ∧ b < 9223372036854775808) (d1 : q_d Y.2.1 pc pc1 .lcmp 1) (d2 : q_j Y.2.1 pc1 pc' tgt (fun o => .ifCond .eq o)) (kt : a = b → qX G F Q kc ks tgt ls st sz T I L P) (kf : a ≠ b → qX G F Q kc ks pc' ls st sz T I L P) : qX G F Q kc ks pc ls (qL b :: qL a :: st) sz T I L P :=
  q_lcmp hF ha hb2 d1 (q_ifeq hF (q_cmp_r a b) d2 (fun e => kt (q_cmp_eq.mp e)) (fun e => kf (mt q_cmp_eq.mpr e)))
theorem q_cmpne (hF : q_ok G F Y h) {a b : Int} (ha : -9223372036854775808 ≤ a ∧ a < 9223372036854775808) (hb2 : -9223372036854775808 ≤ b ∧ b < 9223372036854775808) (d1 : q_d Y.2.1 pc pc1 .lcmp 1) (d2 : q_j Y.2.1 pc1 pc' tgt (fun o => .ifCond .ne o)) (kt : a ≠ b → qX G F Q kc ks tgt ls st sz T I L P) (kf : a = b → qX G F Q kc ks pc' ls st sz T I L P) : qX G F Q kc ks pc ls (qL b :: qL a :: st) sz T I L P :=
  q_lcmp hF ha hb2 d1 (q_ifne hF (q_cmp_r a b) d2 (fun e => kt (mt q_cmp_eq.mpr e)) (fun e => kf (q_cmp_eq.mp e)))
end QMORE
/-- fewer locals are told -/
theorem q_sub {G : q_G} {F : q_F} {Q : q_Q} {kc ks pc : Nat} {ls ls' : List (Nat × Value)} {st : List Value} {sz : Nat} {T : q_T} {I L : q_I} {P : q_P} (ps : List Nat) (hl : lv_pick ls ps = ls') (k : qX G F Q kc ks pc ls' st sz T I L P) : qX G F Q kc ks pc ls st sz T I L P := by
  obtain ⟨p, l, e, R, s, m, args, below, meth, c, mc, ms⟩ := F
  intro H locs cells slots lsA z1 z2 z3 z4 z5 z6
  exact k H locs cells slots lsA z1 z2 z3 (lv_sub z4 ps hl) z5 z6
