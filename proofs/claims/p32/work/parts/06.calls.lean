/-! how a method ends, begins, calls another, throws, makes cells -/
/-- behind a call: the answer on the stack, or the exception on its way -/
abbrev q_rt (G : q_G) (F : q_F) (Q : q_Q) (kc ks pc pc' : Nat) (ls : List (Nat × Value)) (st : List Value) : q_Q := fun o sz T I L P => match o with
  | .inl none => qX G F Q kc ks pc' ls st sz T I L P
  | .inl (some v) => qX G F Q kc ks pc' ls (v :: st) sz T I L P
  | .inr E => qT G F Q kc ks pc ls st E sz T I L P
theorem q_blind {G : q_G} {av : List Value} {sz : Nat} {T : q_T} {I L : q_I} {P : q_P} : FrameBlind (va_Pc av (fun U => q_Gs G U ∧ U.heap.size = sz ∧ q_Rep G T I L P U.heap)) := fun a U g mk q =>
  ⟨q.1, q.2.1.go (U := U.calling g mk a) (State.WarmedH.refl U) (fun _ _ _ => rfl), q.2.2.1, q.2.2.2⟩
/-- a method by its body -/
theorem qC_of {G : q_G} {h mc ms : Nat} {Y : q_Y} {av : List Value} {sz : Nat} {T : q_T} {I L : q_I} {P : q_P} {Q : q_Q} {la : List (Nat × Value)} (hp : plainName Y.1.cls = true) (hh : Y.2.2.2.2 = []) (hla : lv_args 0 av = la) (hlen : (lg_sl av).length ≤ Y.2.2.1)
    (body : ∀ F : q_F, q_ok G F Y h → F.2.2.2.2.2.2.2.2.2.2.1 = mc → F.2.2.2.2.2.2.2.2.2.2.2 = ms → qX G F Q mc ms 0 la [] sz T I L P) : qC G h mc ms Y av sz T I L P Q := by
  subst hla
  refine vx_ofW (cc := Y.2.1) (maxL := Y.2.2.1) (ret := Y.2.2.2.1) (ws' := q_all) hp (by unfold q_ws q_code; rw [hh]) ?_
  intro p e s m args below meth c s₁ B hml htab hv
  obtain ⟨rfl, hg, hsz, hR⟩ := hv
  have ht : c.exceptionTable.toList = tableOf Y.2.2.2.2 := by
    rw [hh]
    cases hc : c.exceptionTable.toList with
    | nil => rfl
    | cons a r => exact (htab a (by rw [hc]; exact List.mem_cons_self)).elim
  have q := body (p, G.1, e, q_rm h mc ms, s, m, av.toArray, below, meth, c, mc, ms) ⟨B.exec, B.bytes, B.returns, B.notSynchronized, hml, findClass_of_methodNamed B.named, (name_of_methodNamed B.named B.method).1, ht, hg, rfl, hg.1, rfl⟩ rfl rfl
  rw [lg_entry_eq]
  exact q s.heap [] 0 0 _ hsz hR va_S.rf (by rw [hml]; exact lv_entry av hlen) (by omega) (by omega)
theorem qC_ofH {G : q_G} {h mc ms : Nat} {Y : q_Y} {av : List Value} {sz : Nat} {T : q_T} {I L : q_I} {P : q_P} {Q : q_Q} {la : List (Nat × Value)} (hp : plainName Y.1.cls = true) {h1 : Nat × Nat × Nat × Nat} {hr : List (Nat × Nat × Nat × Nat)} (hh : Y.2.2.2.2 = h1 :: hr) (hla : lv_args 0 av = la) (hlen : (lg_sl av).length ≤ Y.2.2.1)
    (body : ∀ F : q_F, q_ok G F Y h → F.2.2.2.2.2.2.2.2.2.2.1 = mc → F.2.2.2.2.2.2.2.2.2.2.2 = ms → qX G F Q mc ms 0 la [] sz T I L P) : qC G h mc ms Y av sz T I L P Q := by
  subst hla
  have hcode : q_code Y = Cond.codeWith Y.1 Y.2.1 Y.2.2.1 Y.2.2.2.1 Y.2.2.2.2 := by unfold q_code; rw [hh]
  refine vx_ofWH (cc := Y.2.1) (maxL := Y.2.2.1) (ret := Y.2.2.2.1) (ws' := q_all) (hh := Y.2.2.2.2) hp (by unfold q_ws; rw [hcode]) ?_
  intro p e s m args below meth c s₁ B hml hv
  obtain ⟨rfl, hg, hsz, hR⟩ := hv
  have ht : c.exceptionTable.toList = tableOf Y.2.2.2.2 := vx_table (x := Y.1) (y := Y.1) (bytes := Y.2.1) (maxL' := Y.2.2.1) (ret' := Y.2.2.2.1) B (by rw [← hcode]; exact atoms_spec (ws := q_ws Y) B.pre _ List.mem_cons_self)
  have q := body (p, G.1, e, q_rm h mc ms, s, m, av.toArray, below, meth, c, mc, ms) ⟨B.exec, B.bytes, B.returns, B.notSynchronized, hml, findClass_of_methodNamed B.named, (name_of_methodNamed B.named B.method).1, ht, hg, rfl, hg.1, rfl⟩ rfl rfl
  rw [lg_entry_eq]
  exact q s.heap [] 0 0 _ hsz hR va_S.rf (by rw [hml]; exact lv_entry av hlen) (by omega) (by omega)
section QCALL
variable {G : q_G} {F : q_F} {Y : q_Y} {h : Nat} {Q : q_Q} {kc ks pc pc' tgt : Nat} {ls : List (Nat × Value)} {st : List Value} {sz : Nat} {T : q_T} {I L : q_I} {P : q_P}
/-! ends -/
theorem q_ireturn (hF : q_ok G F Y h) {z : Int} (hret : Y.2.2.2.1 = some .int) (d : q_d Y.2.1 pc pc' .ireturn 1) (hq : Q (.inl (some (qI z))) sz T I L P) : qX G F Q kc ks pc ls [qI z] sz T I L P := by
  obtain ⟨p, l, e, R, s, m, args, below, meth, c, mc, ms⟩ := F
  obtain ⟨hx, hb, hr, hlk, hml, ho, hnm, htb, hg, -⟩ := hF
  obtain ⟨d, rfl⟩ := d
  intro H locs cells slots lsA z1 z2 z3 z4 z5 z6
  refine W.widen (k := mc) (n := ms) (by omega) (by omega) (vx_ret (W.iret hx hb (hr.trans hret) (fun t ht hW => ⟨⟨_, sz, T, I, L, P, rfl, hq, by rw [ht]; exact z1, by rw [ht]; exact z2⟩, z3.F ht⟩) z3.2.2 d hlk))
theorem q_narb {z : Int} (hz : z = 0 ∨ z = 1) : narrow .boolean (qI z) = qI z := by rcases hz with rfl | rfl <;> decide +kernel
theorem q_zreturn (hF : q_ok G F Y h) {z : Int} (hz : z = 0 ∨ z = 1) (hret : Y.2.2.2.1 = some .boolean) (d : q_d Y.2.1 pc pc' .ireturn 1) (hq : Q (.inl (some (qI z))) sz T I L P) : qX G F Q kc ks pc ls [qI z] sz T I L P := by
  obtain ⟨p, l, e, R, s, m, args, below, meth, c, mc, ms⟩ := F
  obtain ⟨hx, hb, hr, hlk, hml, ho, hnm, htb, hg, -⟩ := hF
  obtain ⟨d, rfl⟩ := d
  intro H locs cells slots lsA z1 z2 z3 z4 z5 z6
  refine W.widen (k := mc) (n := ms) (by omega) (by omega) (vx_ret (W.zret hx hb (hr.trans hret) (q_narb hz) (fun t ht hW => ⟨⟨_, sz, T, I, L, P, rfl, hq, by rw [ht]; exact z1, by rw [ht]; exact z2⟩, z3.F ht⟩) z3.2.2 d hlk))
theorem q_lreturn (hF : q_ok G F Y h) {z : Int} (hret : Y.2.2.2.1 = some .long) (d : q_d Y.2.1 pc pc' .lreturn 1) (hq : Q (.inl (some (qL z))) sz T I L P) : qX G F Q kc ks pc ls [qL z] sz T I L P := by
  obtain ⟨p, l, e, R, s, m, args, below, meth, c, mc, ms⟩ := F
  obtain ⟨hx, hb, hr, hlk, hml, ho, hnm, htb, hg, -⟩ := hF
  obtain ⟨d, rfl⟩ := d
  intro H locs cells slots lsA z1 z2 z3 z4 z5 z6
  refine W.widen (k := mc) (n := ms) (by omega) (by omega) (vx_ret (W.lret hx hb (hr.trans hret) (fun t ht hW => ⟨⟨_, sz, T, I, L, P, rfl, hq, by rw [ht]; exact z1, by rw [ht]; exact z2⟩, z3.F ht⟩) z3.2.2 d hlk))
theorem q_return (hF : q_ok G F Y h) (hret : Y.2.2.2.1 = none) (d : q_d Y.2.1 pc pc' .return_ 1) (hq : Q (.inl none) sz T I L P) : qX G F Q kc ks pc ls [] sz T I L P := by
  obtain ⟨p, l, e, R, s, m, args, below, meth, c, mc, ms⟩ := F
  obtain ⟨hx, hb, hr, hlk, hml, ho, hnm, htb, hg, -⟩ := hF
  obtain ⟨d, rfl⟩ := d
  intro H locs cells slots lsA z1 z2 z3 z4 z5 z6
  refine W.widen (k := mc) (n := ms) (by omega) (by omega) (vx_ret (W.vret hx hb (hr.trans hret) (fun t ht hW => ⟨⟨_, sz, T, I, L, P, rfl, hq, by rw [ht]; exact z1, by rw [ht]; exact z2⟩, z3.F ht⟩) z3.2.2 d hlk))
theorem q_areturn (hF : q_ok G F Y h) {r : Option Nat} {cn : String} (hret : Y.2.2.2.1 = some (.object cn)) (d : q_d Y.2.1 pc pc' .areturn 1) (hq : Q (.inl (some (qR r))) sz T I L P) : qX G F Q kc ks pc ls [qR r] sz T I L P := by
  obtain ⟨p, l, e, R, s, m, args, below, meth, c, mc, ms⟩ := F
  obtain ⟨hx, hb, hr, hlk, hml, ho, hnm, htb, hg, -⟩ := hF
  obtain ⟨d, rfl⟩ := d
  intro H locs cells slots lsA z1 z2 z3 z4 z5 z6
  refine W.widen (k := mc) (n := ms) (by omega) (by omega) (vx_ret (W.aret hx hb (hr.trans hret) (Or.inl ⟨cn, rfl⟩) (va_rf_or r) (fun t ht hW => ⟨⟨_, sz, T, I, L, P, rfl, hq, by rw [ht]; exact z1, by rw [ht]; exact z2⟩, z3.F ht⟩) z3.2.2 d hlk))
/-! an exception that no row of the method's table catches -/
theorem q_out (hF : q_ok G F Y h) {E : String} (hh : Y.2.2.2.2 = []) (hq : Q (.inr E) sz T I L P) : qT G F Q kc ks pc ls st E sz T I L P := by
  obtain ⟨p, l, e, R, s, m, args, below, meth, c, mc, ms⟩ := F
  obtain ⟨hx, hb, hr, hlk, hml, ho, hnm, htb, hg, -⟩ := hF
  intro H locs cells slots lsA q9 ce z1 z2 z3 z4 z5 z6 y1 y2 y3
  exact vx_out (fun x hx => by rw [htb, hh] at hx; cases hx) hlk y1 y2 y3 (fun t ht hv => ⟨⟨sz, T, I, L, P, hq, by rw [ht]; exact z1, by rw [ht]; exact z2⟩, z3.F ht⟩) z3.2.2 (by omega) (by omega)
/-! calls -/
theorem q_behind {p : Program} {l : Launch} {e : Env} {R : Room} {s : State} {m : MethodId} {args : Array Value} {below : List Frame} {meth : Method} {c : Code} {mc ms : Nat} {H : Heap} {locs : List Loc} {cells slots : Nat} {lsA : Array Slot} {mc' ms' : Nat} {stk : List Value} {a : Array Value} (hpc : pc + 3 = pc')
    (hr : vx_Run p l e R s m args below meth c H locs cells slots mc' ms' (F0 m pc lsA stk) st (q_Qc G (q_rt G (p, l, e, R, s, m, args, below, meth, c, mc, ms) Q kc ks pc pc' ls st) a) (q_XC G (q_rt G (p, l, e, R, s, m, args, below, meth, c, mc, ms) Q kc ks pc pc' ls st)) (q_A G))
    (z3 : va_S (q_A G) s.heap H locs) (z4 : lv_has lsA c.maxLocals ls) (z5 : cells + (kc + mc') ≤ mc) (z6 : slots + (ks + ms') ≤ ms) :
    W p l e R s m args below meth c H locs cells slots (vx_MQ below (q_Qc G Q) (q_XC G Q) args s mc ms (q_A G)) (F0 m pc lsA stk) := by
  intro T0 hT0 X0
  rcases hr T0 hT0 X0 with ⟨v, st₀, t, T', Lc, h0, X', hL, e1, e2, ⟨⟨v', sz', T1, I1, L1, P1, hv, hQ, hsz, hRep⟩, hFr⟩, stp⟩ | ⟨q9, st₀, t, T', Lc, E, ce, h0, X', hL, e1, e2, ⟨⟨sz', T1, I1, L1, P1, hQ, hsz, hRep⟩, hFr⟩, hce, hcv, hcl, stp⟩
  · cases hv
    obtain ⟨-, -, k3⟩ := vx_keep h0 e1 z3 (fun q _ h => h) (fun q h => h) hL hFr
    subst hpc
    cases v with
    | none =>
      have k := hQ T'.heap (locs ++ Lc) (cells + mc') (slots + ms') lsA (by rw [e1]; exact hsz) (by rw [e1]; exact hRep) k3 z4 (by omega) (by omega)
      obtain ⟨t2, a1, b1⟩ := k T' rfl X'
      exact ⟨t2, stp t2 a1, b1⟩
    | some v =>
      have k := hQ T'.heap (locs ++ Lc) (cells + mc') (slots + ms') lsA (by rw [e1]; exact hsz) (by rw [e1]; exact hRep) k3 z4 (by omega) (by omega)
      obtain ⟨t2, a1, b1⟩ := k T' rfl X'
      exact ⟨t2, stp t2 a1, b1⟩
  · obtain ⟨-, -, k3⟩ := vx_keep h0 e1 z3 (fun q _ h => h) (fun q h => h) hL hFr
    have k := hQ T'.heap (locs ++ Lc) (cells + mc') (slots + ms') lsA q9 ce (by rw [e1]; exact hsz) (by rw [e1]; exact hRep) k3 z4 (by omega) (by omega) (by rw [e1]; exact hce) hcv hcl
    obtain ⟨t2, a1, b1⟩ := k T' rfl X'
    exact ⟨t2, stp.trans a1, b1⟩
theorem q_Gs.next {G : q_G} {s U : State} {H : Heap} {locs : List Loc} (hg : q_Gs G s) (z3 : va_S (q_A G) s.heap H locs) (hU : U.heap = H) (hW : s.WarmedH U.vm) : q_Gs G U := hg.go hW (fun a h1 h2 => by rw [hU]; exact z3.2.1 a h1 h2)
/-- the words of a call: 0 an instance method, 1 a static one -/
def q_ML (own : String) (idx n : Nat) (Y' : q_Y) : Prop := Cond.methodLink own idx Y'.1 ∈ q_all ∧ Cond.initialized Y'.1.cls ∈ q_all ∧ q_code Y' ∈ q_all ∧ (Y'.1.cls ≠ "java/lang/invoke/MethodHandle" ∧ Y'.1.cls ≠ "java/lang/invoke/VarHandle") ∧ (parseMethodDescriptor Y'.1.desc).map (fun d => d.parameters.length) = some n ∧ Y'.2.2.1 ≤ 40
def q_VL (own : String) (idx n ci : Nat) (Y' : q_Y) : Prop := q_ML own idx n Y' ∧ Cond.instanceMethod Y'.1 ∈ q_all ∧ Cond.selects Y'.1.cls Y'.1 Y'.1 ∈ q_all ∧ ∃ r : vw_C, q_cl[ci]? = some r ∧ r.1 = Y'.1.cls
def q_SL (own : String) (idx n : Nat) (Y' : q_Y) : Prop := q_ML own idx n Y' ∧ Cond.static Y'.1 ∈ q_all
theorem q_len {Y' : q_Y} {n : Nat} (h : (parseMethodDescriptor Y'.1.desc).map (fun d => d.parameters.length) = some n) : ∀ sig, parseMethodDescriptor Y'.1.desc = some sig → n = sig.parameters.length := fun sig hs => by
  rw [hs] at h
  exact (Option.some.inj h).symm
theorem q_pay {G : q_G} {s : State} (hg : q_Gs G s) {Y' : q_Y} (hc : q_code Y' ∈ q_all) : ∀ w ∈ q_ws Y', ∀ (a' : Array Value) (U : State), s.WarmedH U.vm → w.before a' U = true := fun w hw a' U hW => by
  rcases List.mem_cons.mp hw with rfl | hw
  · exact q_word hW (q_all_good hc) (hg.2.2.1 _ hc)
  · exact q_word hW (q_all_good hw) (hg.2.2.1 _ hw)
theorem q_callV (hF : q_ok G F Y h) {idx n ci b h' mc' ms' : Nat} {Y' : q_Y} {stk : List Value} (vl : q_VL Y.1.cls idx n ci Y') (hh : Y'.2.2.2.2 = []) (As : List Value) (hs : stk = As.reverse ++ .ref b :: st) (hn : As.length = n) (hT : T b = some (.inl ci)) (hh' : h' + 1 ≤ h) (hst : (st.map fun v => v.category).sum ≤ 8) (d : q_d Y.2.1 pc pc' (.invokevirtual idx) 3)
    (hC : qC G h' mc' ms' Y' (.ref b :: As) sz T I L P (q_rt G F Q kc ks pc pc' ls st)) : qX G F Q (kc + mc') (ks + ms') pc ls stk sz T I L P := by
  obtain ⟨p, l, e, R, s, m, args, below, meth, c, mc, ms⟩ := F
  obtain ⟨hx, hb, hr, hlk, hml, ho, hnm, htb, hg, rfl, hst2, rfl⟩ := hF
  obtain ⟨d, hpc⟩ := d
  intro H locs cells slots lsA z1 z2 z3 z4 z5 z6
  obtain ⟨⟨w1, w2, w3, w4, w5, w6⟩, w7, w8, r, w9, w10⟩ := vl
  have hcode : q_code Y' = Cond.code Y'.1 Y'.2.1 Y'.2.2.1 Y'.2.2.2.1 := by unfold q_code; rw [hh]
  refine q_behind hpc (vx_runV (Ts := q_all) (own := Y.1.cls) (C := Y'.1.cls) (n := n) (bytes := Y'.2.1) (maxL := Y'.2.2.1) (ret := Y'.2.2.2.1) (As := As) (b := b) ⟨hx, hb, hml, ho, hg.ts args⟩ hC ⟨⟨rfl, rfl, by show h' + 12 + 1 ≤ h + 12; omega, by show 8 + (_ + 11) + (260 + 60 * h') ≤ 260 + 60 * h; omega, q_pay hg w3, by rw [← hcode]; exact List.mem_cons_self, by rw [← hcode]; exact hg.at w3 args, hg.at w2 args, w4, q_len w5, hg.at w1 args⟩, hg.at w7 args, hg.at w8 args⟩ ⟨q_blind, ?_, fun U hU hW => ⟨rfl, hg.next z3 hU hW, by rw [hU]; exact z1, by rw [hU]; exact z2⟩⟩ rfl hn (z4.1.trans hml) hs (lv_room hst) d ⟨by show cells + mc' ≤ mc; omega, by show slots + ms' ≤ ms; omega⟩) z3 z4 z5 z6
  obtain ⟨r', h1, cell, q1, q2, q3, -⟩ := z2 b _ hT
  cases w9.symm.trans h1
  exact ⟨cell, q1, by rw [q3]; rfl, by rw [q2, ← w10]; exact (hg.2.1.1 ci _ w9).2.1⟩
theorem q_callS (hF : q_ok G F Y h) {idx n h' mc' ms' : Nat} {Y' : q_Y} {stk : List Value} (vl : q_SL Y.1.cls idx n Y') (hh : Y'.2.2.2.2 = []) (As : List Value) (hs : stk = As.reverse ++ st) (hn : As.length = n) (hh' : h' + 1 ≤ h) (hst : (st.map fun v => v.category).sum ≤ 8) (d : q_d Y.2.1 pc pc' (.invokestatic idx) 3)
    (hC : qC G h' mc' ms' Y' As sz T I L P (q_rt G F Q kc ks pc pc' ls st)) : qX G F Q (kc + mc') (ks + ms') pc ls stk sz T I L P := by
  obtain ⟨p, l, e, R, s, m, args, below, meth, c, mc, ms⟩ := F
  obtain ⟨hx, hb, hr, hlk, hml, ho, hnm, htb, hg, rfl, hst2, rfl⟩ := hF
  obtain ⟨d, hpc⟩ := d
  intro H locs cells slots lsA z1 z2 z3 z4 z5 z6
  obtain ⟨⟨w1, w2, w3, w4, w5, w6⟩, w7⟩ := vl
  have hcode : q_code Y' = Cond.code Y'.1 Y'.2.1 Y'.2.2.1 Y'.2.2.2.1 := by unfold q_code; rw [hh]
  exact q_behind hpc (vx_runS (Ts := q_all) (own := Y.1.cls) (n := n) (bytes := Y'.2.1) (maxL := Y'.2.2.1) (ret := Y'.2.2.2.1) (As := As) ⟨hx, hb, hml, ho, hg.ts args⟩ hC ⟨⟨rfl, rfl, by show h' + 12 + 1 ≤ h + 12; omega, by show 8 + (_ + 11) + (260 + 60 * h') ≤ 260 + 60 * h; omega, q_pay hg w3, by rw [← hcode]; exact List.mem_cons_self, by rw [← hcode]; exact hg.at w3 args, hg.at w2 args, w4, q_len w5, hg.at w1 args⟩, hg.at w7 args⟩ ⟨q_blind, fun U hU hW => ⟨rfl, hg.next z3 hU hW, by rw [hU]; exact z1, by rw [hU]; exact z2⟩⟩ rfl hn (z4.1.trans hml) hs (lv_room hst) d ⟨by show cells + mc' ≤ mc; omega, by show slots + ms' ≤ ms; omega⟩) z3 z4 z5 z6
theorem q_callSH (hF : q_ok G F Y h) {idx n h' mc' ms' : Nat} {Y' : q_Y} {stk : List Value} (vl : q_SL Y.1.cls idx n Y') {h1 : Nat × Nat × Nat × Nat} {hrr : List (Nat × Nat × Nat × Nat)} (hh : Y'.2.2.2.2 = h1 :: hrr) (As : List Value) (hs : stk = As.reverse ++ st) (hn : As.length = n) (hh' : h' + 1 ≤ h) (hst : (st.map fun v => v.category).sum ≤ 8) (d : q_d Y.2.1 pc pc' (.invokestatic idx) 3)
    (hC : qC G h' mc' ms' Y' As sz T I L P (q_rt G F Q kc ks pc pc' ls st)) : qX G F Q (kc + mc') (ks + ms') pc ls stk sz T I L P := by
  obtain ⟨p, l, e, R, s, m, args, below, meth, c, mc, ms⟩ := F
  obtain ⟨hx, hb, hr, hlk, hml, ho, hnm, htb, hg, rfl, hst2, rfl⟩ := hF
  obtain ⟨d, hpc⟩ := d
  intro H locs cells slots lsA z1 z2 z3 z4 z5 z6
  obtain ⟨⟨w1, w2, w3, w4, w5, w6⟩, w7⟩ := vl
  have hcode : q_code Y' = Cond.codeWith Y'.1 Y'.2.1 Y'.2.2.1 Y'.2.2.2.1 Y'.2.2.2.2 := by unfold q_code; rw [hh]
  exact q_behind hpc (vx_runSX (Ts := q_all) (own := Y.1.cls) (n := n) (bytes := Y'.2.1) (maxL := Y'.2.2.1) (ret := Y'.2.2.2.1) (hh := Y'.2.2.2.2) (As := As) ⟨hx, hb, hml, ho, hg.ts args⟩ hC ⟨⟨rfl, rfl, by show h' + 12 + 1 ≤ h + 12; omega, by show 8 + (_ + 11) + (260 + 60 * h') ≤ 260 + 60 * h; omega, q_pay hg w3, by rw [← hcode]; exact List.mem_cons_self⟩, by rw [← hcode]; exact hg.at w3 args, hg.at w2 args, w4, q_len w5, hg.at w1 args, hg.at w7 args⟩ ⟨q_blind, fun U hU hW => ⟨rfl, hg.next z3 hU hW, by rw [hU]; exact z1, by rw [hU]; exact z2⟩⟩ rfl hn (z4.1.trans hml) hs (lv_room hst) d ⟨by show cells + mc' ≤ mc; omega, by show slots + ms' ≤ ms; omega⟩) z3 z4 z5 z6
end QCALL
