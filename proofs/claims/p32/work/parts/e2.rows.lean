/-! rows of the frame: arrays of arrays of ints; more room -/
theorem qX.room {G : q_G} {F : q_F} {Q : q_Q} {kc kc' ks ks' pc : Nat} {ls : List (Nat × Value)} {st : List Value} {sz : Nat} {T : q_T} {I L : q_I} {P : q_P} (h1 : kc ≤ kc') (h2 : ks ≤ ks') (k : qX G F Q kc ks pc ls st sz T I L P) : qX G F Q kc' ks' pc ls st sz T I L P := by
  obtain ⟨p, l, e, R, s, m, args, below, meth, c, mc, ms⟩ := F
  intro H locs cells slots lsA z1 z2 z3 z4 z5 z6
  exact k H locs cells slots lsA z1 z2 z3 z4 (by omega) (by omega)
/-- the class of arrays of arrays of ints -/
theorem q_aa6 {G : q_G} {s : State} (hg : q_Gs G s) : ∃ (kA : Class), s.vm.classes[G.2.2.1 6]? = some kA ∧ kA.kind = .array (G.2.2.1 0) (.array .int) ∧ (∃ kC, s.vm.classes[G.2.2.1 0]? = some kC) := by
  obtain ⟨comp, c, k, h1, -, h2, h3, h4⟩ := arrayOverA_spec (va_tabs_over hg q_aO6 #[])
  have e6 : s.vm.findClass ("[" ++ (FieldType.array .int).toString) = some (G.2.2.1 6) := (hg.2.1.2 6 (G.2.2.1 6, q_ty 6) rfl).2
  have e0 : s.vm.findClass ("[" ++ FieldType.int.toString) = some (G.2.2.1 0) := (hg.2.1.2 0 (G.2.2.1 0, q_ty 0) rfl).2
  cases h4.symm.trans e6
  have e1 : s.vm.findClass (FieldType.array .int).toString = some (G.2.2.1 0) := e0
  cases h1.symm.trans e1
  obtain ⟨kC, hkC, -⟩ := Vm.findClass_spec h1
  exact ⟨k, h2, h3, kC, hkC⟩
section
variable {p : Program} {l : Launch} {e : Env} {R : Room} {s : State} {m : MethodId} {args : Array Value} {below : List Frame} {meth : Method} {c : Code} {H : Heap} {locs : List Loc} {cells slots : Nat}
/-- nothing laid into an array of arrays -/
theorem q_WaastO {Q : State → Prop} {cc : ByteArray} (hexec : p.tables.exec = Jvm.exec) (hb : c.code = cc) {a : Addr} {cell : Cell} {j : Int32} (hcell : H[a]? = some cell) (hknown : cell.vm ≠ .unknown) (harr : s.isArrayOf cell (.array .int)) (hin : ¬ (j < 0 ∨ cell.slots.size ≤ j.toNatClampNeg))
    {g : JFrame} (hg : g.method = m) {rest : List Value} (hstack : g.stack = .null :: .int j :: .ref a :: rest) (hdg : decode cc g.pc = .ok (.aastore, 1))
    (kk : ∀ H' : Heap, H'[a]? = some (cell.setSlot j.toNatClampNeg .null) → H'.size = H.size → (∀ q, q ≠ a → H'[q]? = H[q]?) → W p l e R s m args below meth c H' (locs ++ [⟨a, j.toNatClampNeg⟩]) cells slots Q { g with pc := g.pc + 1, stack := rest }) :
    W p l e R s m args below meth c H locs cells slots Q g := by
  intro T hT X
  have hc1 : T.heap[a]? = some cell := by rw [hT]; exact hcell
  have hT1 := State.isArrayOf_alike X.warmed.alike harr
  have hfit : T.fitsSlot cell.cls cell.vm j.toNatClampNeg .null = true := by
    obtain ⟨hobj, k, hk, comp, hkind⟩ := hT1
    cases hvm : cell.vm <;> first | exact absurd hvm (hobj _) | simp [State.fitsSlot, State.slotType?, hk, hkind, fits]
  have hlt : a < T.heap.size := (Array.getElem?_eq_some_iff.mp hc1).1
  obtain ⟨t', a1, b1⟩ := kk _ (heapAt_setCell_self _ hlt) (by rw [size_setCell, hT]) (fun q hq => by rw [heapAt_setCell_ne _ (Ne.symm hq), hT]) (T.setCell a (cell.setSlot j.toNatClampNeg .null)) rfl (X.stored hc1 _ _)
  refine ⟨t', ?_, b1⟩
  subst hg
  have hdg' : decode c.code g.pc = .ok (.aastore, 1) := by rw [hb]; exact hdg
  jvm_step X.here [hexec, hdg']
  refine aastore.wp_of_null (c := cell) (t := .array .int) X.here.top hstack hc1 hT1 hin hknown (Nat.not_le.mp fun q => hin (Or.inr q)) hfit ?_
  intro acts
  rw [afterInstr_ok]
  exact a1
end
section
variable {G : q_G} {F : q_F} {Y : q_Y} {h : Nat} {Q : q_Q} {kc ks pc pc' : Nat} {ls : List (Nat × Value)} {st : List Value} {sz s' : Nat} {T : q_T} {I L : q_I} {P : q_P}
/-- an array of ints, or nothing, laid into an array of arrays -/
theorem q_aastoreO (hF : q_ok G F Y h) {a n : Nat} {i : Int} {w : Option Nat} (j : Nat) (hT : T a = some (.inr (6, n))) (hw : ∀ b, w = some b → ∃ x, T b = some (.inr (0, x))) (hA : q_A G a) (hj : i = (j : Int)) (hn : j < n) (hbn : (n : Int) < 2147483648) (d : q_d Y.2.1 pc pc' .aastore 1) (k : qX G F Q kc ks pc' ls st sz T I L (u2 P a j w)) : qX G F Q kc ks pc ls (qR w :: qI i :: .ref a :: st) sz T I L P := by
  obtain ⟨p, l, e, R, s, m, args, below, meth, c, mc, ms⟩ := F
  obtain ⟨hx, hb, hr, hlk, hml, ho, hnm, htb, hg, -⟩ := hF
  obtain ⟨d, rfl⟩ := d
  subst hj
  intro H locs cells slots lsA z1 z2 z3 z4 z5 z6
  obtain ⟨w1, w2, w3⟩ := q_ix (i := (j : Int)) (n := n) (by omega) hbn
  obtain ⟨ht, hc⟩ := z2 a _ hT
  obtain ⟨kA, k1, k2, kC, hkC⟩ := q_aa6 hg
  cases w with
  | none =>
    refine q_WaastO hx hb hc (fun h => by cases h) ⟨fun q h => (by cases h), kA, k1, _, k2⟩ (by rw [arrV_size, w2]; exact fun q => q.elim (fun q => w1 (Or.inl q)) (fun q => by omega)) rfl rfl d fun H' e1 e2 e3 => ?_
    rw [w2] at e1 ⊢
    rw [Int.toNat_natCast] at e1 ⊢
    refine k H' _ cells slots lsA (e2.trans z1) (z2.put e3 (fun _ _ _ => rfl) (fun _ _ _ => rfl) (fun q i hq => q_u2o (Or.inl hq)) (fun kk hk => ?_)) (z3.put e2 e3 hA) z4 z5 z6
    cases hT.symm.trans hk
    exact q_upd_ar ht e1 (by show qR (u2 P a _ none a _) = _; rw [u2_s]; rfl) (fun i hi => by show qR (u2 P a _ none a i) = qR _; rw [q_u2o (Or.inr hi)])
  | some b =>
    obtain ⟨x, hx2⟩ := hw b rfl
    obtain ⟨hx3, hcb⟩ := z2 b _ hx2
    refine W.aast hx hb hc (fun q h => by cases h) (fun h => by cases h) k1 k2 rfl hkC ⟨by intro q; exact w1 (Or.inl q), by show _ < (arrV _ _ _).slots.size; rw [arrV_size, w2]; exact w3⟩ hcb (fun q h => by cases h) hkC (Jvm.Free.SB.assignable_self _ _) rfl rfl d fun H' e1 e2 e3 => ?_
    rw [w2] at e1 ⊢
    rw [Int.toNat_natCast] at e1 ⊢
    refine k H' _ cells slots lsA (e2.trans z1) (z2.put e3 (fun _ _ _ => rfl) (fun _ _ _ => rfl) (fun q i hq => q_u2o (Or.inl hq)) (fun kk hk => ?_)) (z3.put e2 e3 hA) z4 z5 z6
    cases hT.symm.trans hk
    exact q_upd_ar ht e1 (by show qR (u2 P a _ (some b) a _) = _; rw [u2_s]; rfl) (fun i hi => by show qR (u2 P a _ (some b) a i) = qR _; rw [q_u2o (Or.inr hi)])
/-- a new array of arrays of ints, each still nothing -/
theorem q_newrA (hF : q_ok G F Y h) {idx n : Nat} (w1 : Cond.classLink Y.1.cls idx "[I" ∈ q_all) (hn : n < 1000000) (hP : ∀ k, P sz k = none) (d : q_d Y.2.1 pc pc' (.anewarray idx) 3) (hs : sz + 1 = s')
    (k : qX G F Q kc ks pc' ls (.ref sz :: st) s' (q_upT T sz (.inr (6, n))) I L P) : qX G F Q (kc + 1) (ks + n) pc ls (qI (n : Int) :: st) sz T I L P := by
  subst hs
  obtain ⟨p, l, e, R, s, m, args, below, meth, c, mc, ms⟩ := F
  obtain ⟨hx, hb, hr, hlk, hml, ho, hnm, htb, hg, rfl, -⟩ := hF
  obtain ⟨d, rfl⟩ := d
  intro H locs cells slots lsA z1 z2 z3 z4 z5 z6
  have hcl : (Int32.ofInt (n : Int)).toNatClampNeg = n := by rw [qi_cl (by omega)]; omega
  refine W.anewA hx hb ho (hg.at w1 args) (va_tabs_over hg q_aO6 args) rfl d rfl (by rw [qi_lt0 (by omega)]; omega) (by rw [hcl]; omega) (by show cells + 1 ≤ mc; omega) (by show slots + _ ≤ ms; rw [hcl]; omega) fun cA kA comp f1 f2 f3 f4 => ?_
  rw [hcl]
  generalize hH1 : H.push ({ cls := cA, slots := Array.replicate n .null, vm := .none } : Cell) = H1
  have y1 : H1.size = sz + 1 := by rw [← hH1, Array.size_push, z1]
  have e1 : H1[sz]? = some (arrV cA n (fun _ => .null)) := by rw [← hH1, ← z1, Array.getElem?_push_size, ← arrV_new]
  have o1 : ∀ q : Nat, q < sz → H1[q]? = H[q]? := fun q hq => by rw [← hH1, Array.getElem?_push, if_neg (by rw [z1]; exact Nat.ne_of_lt hq)]
  have hcA : cA = G.2.2.1 6 := Option.some.inj (f1.symm.trans (hg.2.1.2 6 (G.2.2.1 6, q_ty 6) rfl).2)
  rw [z1]
  subst hcA
  refine k H1 locs (cells + 1) (slots + n) lsA y1 (z2.push z1 o1 ⟨by decide, e1.trans ?_⟩) (q_Sgrow z3 z1 (by omega) o1) z4 (by omega) (by omega)
  congr 2
  funext j
  show _ = qR (P sz j)
  rw [hP j]
  rfl
theorem q_mnew3 (hF : q_ok G F Y h) {idx n k : Nat} {kz nz : Int} (w1 : Cond.classLink Y.1.cls idx "[[[I" ∈ q_all) (hkz : kz = (k : Int)) (hnz : nz = (n : Int)) (hn : n < 100000) (hk : k < 100000)
    (hA : q_A G sz) (hI : ∀ q j, sz ≤ q → I q j = 0) (hL : ∀ q j, sz ≤ q → L q j = 0) (hP : ∀ q j, sz ≤ q → P q j = none) (d : q_d Y.2.1 pc pc' (.multianewarray idx 2) 4) (hs : sz + 1 + n = s')
    (kk : qX G F Q kc ks pc' ls (.ref sz :: st) s' (q_upTm T sz 7 n 6 k) I L (q_upPm P sz n)) : qX G F Q (kc + (1 + n)) (ks + (n + n * k)) pc ls (qI kz :: qI nz :: st) sz T I L P := by
  subst hs
  refine q_mnew hF (ty := .array .int) (Or.inr ⟨rfl, rfl, rfl⟩) w1 q_aO7 (fun args s hg => ?_) hkz hnz hn hk hA hI hL hP d kk
  obtain ⟨comp, c, k, h1, h2, h3, h4, h5⟩ := arrayOverA_spec (va_tabs_over hg q_aO6 args)
  show (Cond.arrayClass (.array .int)).holds args s none s [] = true
  simp only [Cond.holds, Cond.value]
  rw [h5]
  simp [h3, h4]
end
