/-! the frame, more: String constants, enum constants, statics -/
/-- the address of String constant i; of its bytes; of enum constant i; of Word.ALL -/
def q_KS (G : q_G) (i : Nat) : Nat := G.2.2.2.2.2.1 i
def q_KV (G : q_G) (i : Nat) : Nat := G.2.2.2.2.2.2.1 i
def q_E (G : q_G) (i : Nat) : Nat := G.2.2.2.2.1 i
def q_ALL (G : q_G) : Nat := G.2.2.2.2.2.2.2
/-- the bytes of String constant i -/
def q_bs (i : Nat) : List Int32 := (q_sr.getD i ("", 0, "", [])).2.2.2
def g_len (i : Nat) : Nat := (q_bs i).length
def g_ch (i k : Nat) : Int := ((q_bs i).getD k 0).toInt
theorem q_bs_ok : ∀ i, i < 76 → (q_bs i).length < 100 ∧ ∀ k, k < (q_bs i).length → 0 ≤ ((q_bs i).getD k 0).toInt ∧ ((q_bs i).getD k 0).toInt < 128 := by decide +kernel
theorem q_sr_at {i : Nat} (h : i < 76) : q_sr[i]? = some (q_sr.getD i ("", 0, "", [])) := by
  have hl : q_sr.length = 76 := by decide +kernel
  rw [List.getD_eq_getElem?_getD, List.getElem?_eq_getElem (by omega)]
  rfl
theorem g_ch_r {i k : Nat} (hi : i < 76) (hk : k < g_len i) : 0 ≤ g_ch i k ∧ g_ch i k < 128 := (q_bs_ok i hi).2 k hk
theorem g_len_r {i : Nat} (hi : i < 76) : g_len i < 100 := (q_bs_ok i hi).1
theorem q_S_of {G : q_G} {s : State} (hg : q_Gs G s) {i : Nat} (hi : i < 76) : q_S1 i (q_sr.getD i ("", 0, "", [])) G.2.2.2.2.2.1 G.2.2.2.2.2.2.1 (q_A G) s s.heap := hg.2.2.2.2.2.2.2.2.2.2.1 i _ (q_sr_at hi)
theorem q_En_of {G : q_G} {s : State} (hg : q_Gs G s) : va_En "IdleMoney$Word" "LIdleMoney$Word;" q_wn q_wF G.2.2.2.2.1 (q_A G) s s.heap := hg.2.2.2.2.2.2.1
section QK
variable {G : q_G} {F : q_F} {Y : q_Y} {h : Nat} {Q : q_Q} {kc ks pc pc' : Nat} {ls : List (Nat × Value)} {st : List Value} {sz : Nat} {T : q_T} {I L : q_I} {P : q_P}
theorem q_nice {z : Int} (v : Int32) (h : v.toInt = z) : Value.int v = qI z := by
  subst h
  show Value.int v = Value.int (Int32.ofInt v.toInt)
  rw [← qi_self]
theorem q_ldcK (hF : q_ok G F Y h) {i idx : Nat} (hi : i < 76) (ho : (q_sr.getD i ("", 0, "", [])).1 = Y.1.cls) (hx2 : (q_sr.getD i ("", 0, "", [])).2.1 = idx) (d : q_d Y.2.1 pc pc' (.ldc idx) 2) (k : qX G F Q kc ks pc' ls (.ref (q_KS G i) :: st) sz T I L P) : qX G F Q kc ks pc ls st sz T I L P := by
  obtain ⟨p, l, e, R, s, m, args, below, meth, c, mc, ms⟩ := F
  obtain ⟨hx, hb, hr, hlk, hml, hoo, hnm, htb, hg, -⟩ := hF
  obtain ⟨d, rfl⟩ := d
  subst hx2
  intro H locs cells slots lsA z1 z2 z3 z4 z5 z6
  exact va_ldcS hx hb (by rw [ho]; exact hoo) (q_S_of hg hi).1 d (k H locs cells slots lsA z1 z2 z3 z4 z5 z6)
theorem q_getsE (hF : q_ok G F Y h) {i idx : Nat} (hi : i < 23) (hw : Cond.fieldLink Y.1.cls idx "IdleMoney$Word" (q_wn.getD i "") "LIdleMoney$Word;" ∈ q_all) (d : q_d Y.2.1 pc pc' (.getstatic idx) 3) (k : qX G F Q kc ks pc' ls (.ref (q_E G i) :: st) sz T I L P) : qX G F Q kc ks pc ls st sz T I L P := by
  obtain ⟨p, l, e, R, s, m, args, below, meth, c, mc, ms⟩ := F
  obtain ⟨hx, hb, hr, hlk, hml, ho, hnm, htb, hg, -⟩ := hF
  obtain ⟨d, rfl⟩ := d
  intro H locs cells slots lsA z1 z2 z3 z4 z5 z6
  exact va_gets hx hb ((q_En_of hg).1 i (by show i < 23; exact hi)).1 z3 ho (hg.at hw args) (fun _ x => x) d (k H locs cells slots lsA z1 z2 z3 z4 z5 z6)
theorem q_getsALL (hF : q_ok G F Y h) {idx : Nat} (hw : Cond.fieldLink Y.1.cls idx "IdleMoney$Word" "ALL" "[LIdleMoney$Word;" ∈ q_all) (d : q_d Y.2.1 pc pc' (.getstatic idx) 3) (k : qX G F Q kc ks pc' ls (.ref (q_ALL G) :: st) sz T I L P) : qX G F Q kc ks pc ls st sz T I L P := by
  obtain ⟨p, l, e, R, s, m, args, below, meth, c, mc, ms⟩ := F
  obtain ⟨hx, hb, hr, hlk, hml, ho, hnm, htb, hg, -⟩ := hF
  obtain ⟨d, rfl⟩ := d
  intro H locs cells slots lsA z1 z2 z3 z4 z5 z6
  exact va_gets hx hb hg.2.2.2.2.2.2.2.2.1 z3 ho (hg.at hw args) (fun _ x => x) d (k H locs cells slots lsA z1 z2 z3 z4 z5 z6)
theorem q_getsCS (hF : q_ok G F Y h) {idx : Nat} (hw : Cond.fieldLink Y.1.cls idx "java/lang/String" "COMPACT_STRINGS" "Z" ∈ q_all) (d : q_d Y.2.1 pc pc' (.getstatic idx) 3) (k : qX G F Q kc ks pc' ls (qI 1 :: st) sz T I L P) : qX G F Q kc ks pc ls st sz T I L P := by
  obtain ⟨p, l, e, R, s, m, args, below, meth, c, mc, ms⟩ := F
  obtain ⟨hx, hb, hr, hlk, hml, ho, hnm, htb, hg, -⟩ := hF
  obtain ⟨d, rfl⟩ := d
  intro H locs cells slots lsA z1 z2 z3 z4 z5 z6
  exact va_gets hx hb hg.2.2.2.2.2.2.2.2.2.2.2.1 z3 ho (hg.at hw args) (fun _ x => x) d (k H locs cells slots lsA z1 z2 z3 z4 z5 z6)
theorem q_getsQ (hF : q_ok G F Y h) {idx : Nat} (hw : Cond.fieldLink Y.1.cls idx "jdk/internal/util/Preconditions" "SIOOBE_FORMATTER" "Ljava/util/function/BiFunction;" ∈ q_all) (d : q_d Y.2.1 pc pc' (.getstatic idx) 3) (k : ∀ r : Option Nat, qX G F Q kc ks pc' ls (qR r :: st) sz T I L P) : qX G F Q kc ks pc ls st sz T I L P := by
  obtain ⟨p, l, e, R, s, m, args, below, meth, c, mc, ms⟩ := F
  obtain ⟨hx, hb, hr, hlk, hml, ho, hnm, htb, hg, -⟩ := hF
  obtain ⟨d, rfl⟩ := d
  intro H locs cells slots lsA z1 z2 z3 z4 z5 z6
  rcases hg.2.2.2.2.2.2.2.2.2.2.2.2.2 with hZ | ⟨t, hZ⟩
  · exact va_gets hx hb hZ z3 ho (hg.at hw args) (fun _ x => x) d (k none H locs cells slots lsA z1 z2 z3 z4 z5 z6)
  · exact va_gets hx hb hZ z3 ho (hg.at hw args) (fun _ x => x) d (k (some t) H locs cells slots lsA z1 z2 z3 z4 z5 z6)
theorem q_lenALL (hF : q_ok G F Y h) (d : q_d Y.2.1 pc pc' .arraylength 1) (k : qX G F Q kc ks pc' ls (qI 23 :: st) sz T I L P) : qX G F Q kc ks pc ls (.ref (q_ALL G) :: st) sz T I L P := by
  obtain ⟨p, l, e, R, s, m, args, below, meth, c, mc, ms⟩ := F
  obtain ⟨hx, hb, hr, hlk, hml, ho, hnm, htb, hg, -⟩ := hF
  obtain ⟨d, rfl⟩ := d
  intro H locs cells slots lsA z1 z2 z3 z4 z5 z6
  exact va_tlen hx hb hg.2.2.2.2.2.2.2.2.2.1 z3 rfl d (k H locs cells slots lsA z1 z2 z3 z4 z5 z6)
theorem q_aldALL (hF : q_ok G F Y h) {i : Int} (j : Nat) (hj : i = (j : Int)) (hn : j < 23) (d : q_d Y.2.1 pc pc' .aaload 1) (k : qX G F Q kc ks pc' ls (.ref (q_E G j) :: st) sz T I L P) : qX G F Q kc ks pc ls (qI i :: .ref (q_ALL G) :: st) sz T I L P := by
  obtain ⟨p, l, e, R, s, m, args, below, meth, c, mc, ms⟩ := F
  obtain ⟨hx, hb, hr, hlk, hml, ho, hnm, htb, hg, -⟩ := hF
  obtain ⟨d, rfl⟩ := d
  subst hj
  intro H locs cells slots lsA z1 z2 z3 z4 z5 z6
  obtain ⟨cell, h1, h2, h3, h4, h5, h6, h7⟩ := hg.2.2.2.2.2.2.2.2.2.1.kept z3.2.1
  have ec : (Int32.ofInt (j : Int)).toNatClampNeg = j := by rw [qi_cl (by omega)]; omega
  exact W.aald (v := .ref (q_E G j)) (ty := .object "IdleMoney$Word") hx hb h1 h2 rfl h3 (by rw [qi_lt0 (by omega), ec]; omega) (by rw [ec]; exact h6 j hn) rfl rfl d (k H locs cells slots lsA z1 z2 z3 z4 z5 z6)
theorem q_kindE (hF : q_ok G F Y h) {i idx : Nat} (hi : i < 23) (hw : Cond.fieldLink Y.1.cls idx "IdleMoney$Word" "kind" "I" ∈ q_all) (d : q_d Y.2.1 pc pc' (.getfield idx) 3) (k : qX G F Q kc ks pc' ls (qI (if 18 ≤ i then (i : Int) - 18 else -1) :: st) sz T I L P) : qX G F Q kc ks pc ls (.ref (q_E G i) :: st) sz T I L P := by
  obtain ⟨p, l, e, R, s, m, args, below, meth, c, mc, ms⟩ := F
  obtain ⟨hx, hb, hr, hlk, hml, ho, hnm, htb, hg, -⟩ := hF
  obtain ⟨d, rfl⟩ := d
  intro H locs cells slots lsA z1 z2 z3 z4 z5 z6
  have hv : Value.int (q_wk.getD i 0) = qI (if 18 ≤ i then (i : Int) - 18 else -1) := by
    have hall : ∀ i, i < 23 → q_wk.getD i 0 = Int32.ofInt (if 18 ≤ i then (i : Int) - 18 else -1) := by decide +kernel
    rw [hall i hi]
  refine va_getE (q := ("IdleMoney$Word", "kind", "I", q_wk)) hx hb (q_En_of hg) (i := i) hi z3 ho (List.mem_cons_self) (hg.at hw args) (fun _ x => x) d ?_
  rw [hv]
  exact k H locs cells slots lsA z1 z2 z3 z4 z5 z6
theorem q_letE (hF : q_ok G F Y h) {i idx : Nat} (hi : i < 23) (hw : Cond.fieldLink Y.1.cls idx "IdleMoney$Word" "letters" "Ljava/lang/String;" ∈ q_all) (d : q_d Y.2.1 pc pc' (.getfield idx) 3) (k : qX G F Q kc ks pc' ls (.ref (q_KS G i) :: st) sz T I L P) : qX G F Q kc ks pc ls (.ref (q_E G i) :: st) sz T I L P := by
  obtain ⟨p, l, e, R, s, m, args, below, meth, c, mc, ms⟩ := F
  obtain ⟨hx, hb, hr, hlk, hml, ho, hnm, htb, hg, -⟩ := hF
  obtain ⟨d, rfl⟩ := d
  intro H locs cells slots lsA z1 z2 z3 z4 z5 z6
  exact va_getX hx hb hg.2.2.2.2.2.2.2.1 (i := i) hi z3 ho (hg.at hw args) (fun _ x => x) d (k H locs cells slots lsA z1 z2 z3 z4 z5 z6)
theorem q_getCoder (hF : q_ok G F Y h) {i idx : Nat} (hi : i < 76) (hw : Cond.fieldLink Y.1.cls idx "java/lang/String" "coder" "B" ∈ q_all) (d : q_d Y.2.1 pc pc' (.getfield idx) 3) (k : qX G F Q kc ks pc' ls (qI 0 :: st) sz T I L P) : qX G F Q kc ks pc ls (.ref (q_KS G i) :: st) sz T I L P := by
  obtain ⟨p, l, e, R, s, m, args, below, meth, c, mc, ms⟩ := F
  obtain ⟨hx, hb, hr, hlk, hml, ho, hnm, htb, hg, -⟩ := hF
  obtain ⟨d, rfl⟩ := d
  intro H locs cells slots lsA z1 z2 z3 z4 z5 z6
  exact vk_getf hx hb (q_S_of hg hi).2.2.1 z3 ho (hg.at hw args) (fun _ x => x) d (k H locs cells slots lsA z1 z2 z3 z4 z5 z6)
theorem q_getValue (hF : q_ok G F Y h) {i idx : Nat} (hi : i < 76) (hw : Cond.fieldLink Y.1.cls idx "java/lang/String" "value" "[B" ∈ q_all) (d : q_d Y.2.1 pc pc' (.getfield idx) 3) (k : qX G F Q kc ks pc' ls (.ref (q_KV G i) :: st) sz T I L P) : qX G F Q kc ks pc ls (.ref (q_KS G i) :: st) sz T I L P := by
  obtain ⟨p, l, e, R, s, m, args, below, meth, c, mc, ms⟩ := F
  obtain ⟨hx, hb, hr, hlk, hml, ho, hnm, htb, hg, -⟩ := hF
  obtain ⟨d, rfl⟩ := d
  intro H locs cells slots lsA z1 z2 z3 z4 z5 z6
  exact vk_getf hx hb (q_S_of hg hi).2.2.2.1 z3 ho (hg.at hw args) (fun _ x => x) d (k H locs cells slots lsA z1 z2 z3 z4 z5 z6)
theorem q_lenV (hF : q_ok G F Y h) {i : Nat} (hi : i < 76) (d : q_d Y.2.1 pc pc' .arraylength 1) (k : qX G F Q kc ks pc' ls (qI (g_len i : Int) :: st) sz T I L P) : qX G F Q kc ks pc ls (.ref (q_KV G i) :: st) sz T I L P := by
  obtain ⟨p, l, e, R, s, m, args, below, meth, c, mc, ms⟩ := F
  obtain ⟨hx, hb, hr, hlk, hml, ho, hnm, htb, hg, -⟩ := hF
  obtain ⟨d, rfl⟩ := d
  intro H locs cells slots lsA z1 z2 z3 z4 z5 z6
  exact va_tlen hx hb (q_S_of hg hi).2.2.2.2 z3 qi_nat.symm d (k H locs cells slots lsA z1 z2 z3 z4 z5 z6)
theorem q_baldV (hF : q_ok G F Y h) {i j : Nat} {z : Int} (hi : i < 76) (hz : z = (j : Int)) (hj : j < g_len i) (d : q_d Y.2.1 pc pc' .baload 1) (k : qX G F Q kc ks pc' ls (qI (g_ch i j) :: st) sz T I L P) : qX G F Q kc ks pc ls (qI z :: .ref (q_KV G i) :: st) sz T I L P := by
  obtain ⟨p, l, e, R, s, m, args, below, meth, c, mc, ms⟩ := F
  obtain ⟨hx, hb, hr, hlk, hml, ho, hnm, htb, hg, -⟩ := hF
  obtain ⟨d, rfl⟩ := d
  subst hz
  intro H locs cells slots lsA z1 z2 z3 z4 z5 z6
  have hl := g_len_r hi
  have ec : (Int32.ofInt (j : Int)).toNatClampNeg = j := by rw [qi_cl (by omega)]; omega
  refine va_tb hx hb (q_S_of hg hi).2.2.2.2 z3 (qi_in (n := g_len i) (by omega) (by omega)) (v := qI (g_ch i j)) ?_ d (k H locs cells slots lsA z1 z2 z3 z4 z5 z6)
  rw [ec]
  exact q_nice _ rfl
theorem q_i2c (hF : q_ok G F Y h) {z : Int} (hz : 0 ≤ z ∧ z < 65536) (d : q_d Y.2.1 pc pc' .i2c 1) (k : qX G F Q kc ks pc' ls (qI z :: st) sz T I L P) : qX G F Q kc ks pc ls (qI z :: st) sz T I L P := by
  obtain ⟨p, l, e, R, s, m, args, below, meth, c, mc, ms⟩ := F
  obtain ⟨hx, hb, hr, hlk, hml, ho, hnm, htb, hg, -⟩ := hF
  obtain ⟨d, rfl⟩ := d
  intro H locs cells slots lsA z1 z2 z3 z4 z5 z6
  refine lv_i2c hx hb d ?_ (k H locs cells slots lsA z1 z2 z3 z4 z5 z6)
  apply Int32.toBitVec_inj.mp
  apply BitVec.eq_of_toNat_eq
  obtain ⟨n, rfl⟩ : ∃ n : Nat, z = (n : Int) := ⟨z.toNat, by omega⟩
  have e : (Int32.ofInt (n : Int)).toBitVec.toNat = n := by
    rw [qi_nat]
    show (BitVec.ofNat 32 n).toNat = n
    rw [BitVec.toNat_ofNat]
    omega
  show ((Int32.ofInt (n : Int)).toUInt32 % 65536).toNat = _
  rw [UInt32.toNat_mod, e]
  show (Int32.ofInt (n : Int)).toBitVec.toNat % 65536 = n
  rw [e]
  omega
theorem q_nar8 {z : Int} (hz : 0 ≤ z ∧ z < 128) : narrow .byte (qI z) = qI z ∧ narrow .char (qI z) = qI z := by
  obtain ⟨n, rfl⟩ : ∃ n : Nat, z = (n : Int) := ⟨z.toNat, by omega⟩
  have hall : ∀ n : Nat, n < 128 → narrow .byte (qI (n : Int)) = qI (n : Int) ∧ narrow .char (qI (n : Int)) = qI (n : Int) := by decide +kernel
  exact hall n (by omega)
theorem q_creturn (hF : q_ok G F Y h) {z : Int} (hz : 0 ≤ z ∧ z < 128) (hret : Y.2.2.2.1 = some .char ∨ Y.2.2.2.1 = some .byte) (d : q_d Y.2.1 pc pc' .ireturn 1) (hq : Q (.inl (some (qI z))) sz T I L P) : qX G F Q kc ks pc ls [qI z] sz T I L P := by
  obtain ⟨p, l, e, R, s, m, args, below, meth, c, mc, ms⟩ := F
  obtain ⟨hx, hb, hr, hlk, hml, ho, hnm, htb, hg, -⟩ := hF
  obtain ⟨d, rfl⟩ := d
  intro H locs cells slots lsA z1 z2 z3 z4 z5 z6
  rcases hret with hret | hret
  · refine W.widen (k := mc) (n := ms) (by omega) (by omega) (vx_ret (W.zret hx hb (hr.trans hret) (q_nar8 hz).2 (fun t ht hW => ⟨⟨_, sz, T, I, L, P, rfl, hq, by rw [ht]; exact z1, by rw [ht]; exact z2⟩, z3.F ht⟩) z3.2.2 d hlk))
  · refine W.widen (k := mc) (n := ms) (by omega) (by omega) (vx_ret (W.zret hx hb (hr.trans hret) (q_nar8 hz).1 (fun t ht hW => ⟨⟨_, sz, T, I, L, P, rfl, hq, by rw [ht]; exact z1, by rw [ht]; exact z2⟩, z3.F ht⟩) z3.2.2 d hlk))
/-- a call of an object that nobody writes -/
def q_VO (own : String) (idx n : Nat) (Y' : q_Y) : Prop := q_ML own idx n Y' ∧ Cond.instanceMethod Y'.1 ∈ q_all ∧ Cond.selects Y'.1.cls Y'.1 Y'.1 ∈ q_all
theorem q_callVO (hF : q_ok G F Y h) {idx n b h' mc' ms' : Nat} {Y' : q_Y} {stk : List Value} (vl : q_VO Y.1.cls idx n Y') (hh : Y'.2.2.2.2 = []) (As : List Value) (hs : stk = As.reverse ++ .ref b :: st) (hn : As.length = n) (hO : ∀ s, q_Gs G s → va_O Y'.1.cls b (q_A G) s s.heap) (hh' : h' + 1 ≤ h) (hst : (st.map fun v => v.category).sum ≤ 8) (d : q_d Y.2.1 pc pc' (.invokevirtual idx) 3)
    (hC : qC G h' mc' ms' Y' (.ref b :: As) sz T I L P (q_rt G F Q kc ks pc pc' ls st)) : qX G F Q (kc + mc') (ks + ms') pc ls stk sz T I L P := by
  obtain ⟨p, l, e, R, s, m, args, below, meth, c, mc, ms⟩ := F
  obtain ⟨hx, hb, hr, hlk, hml, ho, hnm, htb, hg, rfl, hst2, rfl⟩ := hF
  obtain ⟨d, hpc⟩ := d
  intro H locs cells slots lsA z1 z2 z3 z4 z5 z6
  obtain ⟨⟨w1, w2, w3, w4, w5, w6⟩, w7, w8⟩ := vl
  have hcode : q_code Y' = Cond.code Y'.1 Y'.2.1 Y'.2.2.1 Y'.2.2.2.1 := by unfold q_code; rw [hh]
  refine q_behind hpc (vx_runV (Ts := q_all) (own := Y.1.cls) (C := Y'.1.cls) (n := n) (bytes := Y'.2.1) (maxL := Y'.2.2.1) (ret := Y'.2.2.2.1) (As := As) (b := b) ⟨hx, hb, hml, ho, hg.ts args⟩ hC ⟨⟨rfl, rfl, by show h' + 12 + 1 ≤ h + 12; omega, by show 8 + (_ + 11) + (260 + 60 * h') ≤ 260 + 60 * h; omega, q_pay hg w3, by rw [← hcode]; exact List.mem_cons_self, by rw [← hcode]; exact hg.at w3 args, hg.at w2 args, w4, q_len w5, hg.at w1 args⟩, hg.at w7 args, hg.at w8 args⟩ ⟨q_blind, ?_, fun U hU hW => ⟨rfl, hg.next z3 hU hW, by rw [hU]; exact z1, by rw [hU]; exact z2⟩⟩ rfl hn (z4.1.trans hml) hs (lv_room hst) d ⟨by show cells + mc' ≤ mc; omega, by show slots + ms' ≤ ms; omega⟩) z3 z4 z5 z6
  obtain ⟨cell, q1, q2, q3, -⟩ := (hO s hg).kept z3.2.1
  exact ⟨cell, q1, q2, q3⟩
end QK
theorem q_O_K {G : q_G} {i : Nat} (hi : i < 76) : ∀ s, q_Gs G s → va_O "java/lang/String" (q_KS G i) (q_A G) s s.heap := fun _ hg => (q_S_of hg hi).2.1
theorem q_O_E {G : q_G} {i : Nat} (hi : i < 23) : ∀ s, q_Gs G s → va_O "IdleMoney$Word" (q_E G i) (q_A G) s s.heap := fun _ hg => ((q_En_of hg).1 i hi).2.1
