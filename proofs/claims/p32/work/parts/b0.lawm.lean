/-! the law: exceptions caught; rows of its own -/
theorem q_catch {G : q_G} {F : q_F} {Y : q_Y} {h : Nat} {Q : q_Q} {kc ks pc : Nat} {ls : List (Nat × Value)} {st : List Value} {sz : Nat} {T : q_T} {I L : q_I} {P : q_P} (hF : q_ok G F Y h) {E : String} (pre : List (Nat × Nat × Nat × Nat)) (x : Nat × Nat × Nat × Nat) (suf : List (Nat × Nat × Nat × Nat)) (hh : Y.2.2.2.2 = pre ++ x :: suf)
    (hpass : ∀ z ∈ pre, z.2.2.2 ≠ 0 ∧ ∃ nm : String, Cond.classLink Y.1.cls z.2.2.2 nm ∈ q_all ∧ (E, nm) ∈ q_EX) (hx : x.1 ≤ pc ∧ pc < x.2.1) (h0 : x.2.2.2 ≠ 0) (hl : Cond.classLink Y.1.cls x.2.2.2 E ∈ q_all) (hc : Cond.castable E E ∈ q_nst)
    (k : ∀ q9 : Nat, qX G F Q kc ks x.2.2.1 ls [.ref q9] sz T I L P) : qT G F Q kc ks pc ls st E sz T I L P := by
  obtain ⟨p, l, e, R, s, m, args, below, meth, c, mc, ms⟩ := F
  obtain ⟨hx0, hb, hr, hlk, hml, ho, hnm, htb, hg, -⟩ := hF
  intro H locs cells slots lsA q9 ce z1 z2 z3 z4 z5 z6 y1 y2 y3
  refine vx_catch (own := Y.1.cls) (name := E) ho (tableOf pre) ⟨x.1, x.2.1, x.2.2.1, x.2.2.2⟩ (tableOf suf) (by rw [htb, hh]; unfold tableOf; rw [List.map_append]; rfl) (fun z hz => ?_) ?_ h0 (hg.at hl args) (hg.2.2.2.1 _ hc) y1 y2 y3 (k q9 H locs cells slots lsA z1 z2 z3 z4 z5 z6)
  · obtain ⟨w, hw, rfl⟩ := List.mem_map.mp hz
    obtain ⟨hw0, nm, h1, h2⟩ := hpass w hw
    exact Or.inr ⟨hw0, nm, hg.at h1 args, hg.2.2.2.2.2.2.2.2.2.2.2.2.1 _ h2⟩
  · show (decide (x.1 ≤ pc) && decide (pc < x.2.1)) = true
    rw [decide_eq_true hx.1, decide_eq_true hx.2]; rfl
def g_cst (E : String) : Int := if E = "java/util/NoSuchElementException" then -2000000096 else if E = "java/lang/IllegalArgumentException" then -2000000098 else -2000000099
/-- what the law's method makes of the class's answer: the answer itself, or a number for its exception -/
def q_LR (es : List String) (lg : Bool) (T : q_T) (Q : q_Q) : q_Q := fun r sz' T' I' L' P' => match r with
  | .inl (some v) => T' = T ∧ ∃ z : Int, (if lg = true then v = qL z else v = qI z) ∧ Q (.inl (some v)) sz' T' I' L' P'
  | .inl none => False
  | .inr E => T' = T ∧ ∃ n : Nat, es[n]? = some E ∧ Q (.inl (some (if lg = true then qL (g_cst E) else qI (g_cst E)))) sz' T' I' L' P'
theorem q_rtR {G : q_G} {F : q_F} {Q : q_Q} {kc ks pc pc' : Nat} {ls : List (Nat × Value)} {st : List Value} {es : List String} {lg : Bool} {T : q_T} {Q' : q_Q} (kok : ∀ (z : Int) (sz' : Nat) (I' L' : q_I) (P' : q_P), Q' (.inl (some (if lg = true then qL z else qI z))) sz' T I' L' P' → qX G F Q kc ks pc' ls ((if lg = true then qL z else qI z) :: st) sz' T I' L' P')
    (ker : ∀ (n : Nat) (E : String) (sz' : Nat) (I' L' : q_I) (P' : q_P), es[n]? = some E → Q' (.inl (some (if lg = true then qL (g_cst E) else qI (g_cst E)))) sz' T I' L' P' → qT G F Q kc ks pc ls st E sz' T I' L' P') : ∀ (r : Option Value ⊕ String) (sz' : Nat) (T' : q_T) (I' L' : q_I) (P' : q_P), q_LR es lg T Q' r sz' T' I' L' P' → q_rt G F Q kc ks pc pc' ls st r sz' T' I' L' P' := by
  intro r sz' T' I' L' P' hq
  match r, hq with
  | .inl (some v), ⟨hT, z, hz, h2⟩ =>
    subst hT
    have k := kok z sz' I' L' P'
    cases lg with
    | true =>
      rw [if_pos rfl] at hz
      rw [if_pos rfl] at k
      subst hz
      exact k h2
    | false =>
      rw [if_neg (by decide)] at hz
      rw [if_neg (by decide)] at k
      subst hz
      exact k h2
  | .inr E, ⟨hT, n, hn, hz⟩ =>
    subst hT
    exact ker n E sz' I' L' P' hn hz
theorem q_LR.okI {es : List String} {T : q_T} {Q : q_Q} {sz : Nat} {I L : q_I} {P : q_P} {z : Int} (h : Q (.inl (some (qI z))) sz T I L P) : q_LR es false T Q (.inl (some (qI z))) sz T I L P := ⟨rfl, z, by rw [if_neg (by decide)], h⟩
theorem q_LR.okL {es : List String} {T : q_T} {Q : q_Q} {sz : Nat} {I L : q_I} {P : q_P} {z : Int} (h : Q (.inl (some (qL z))) sz T I L P) : q_LR es true T Q (.inl (some (qL z))) sz T I L P := ⟨rfl, z, by rw [if_pos rfl], h⟩
theorem q_LR.erI {es : List String} {T : q_T} {Q : q_Q} {sz : Nat} {I L : q_I} {P : q_P} {E : String} (n : Nat) (hn : es[n]? = some E) {z : Int} (hz : g_cst E = z) (h : Q (.inl (some (qI z))) sz T I L P) : q_LR es false T Q (.inr E) sz T I L P := ⟨rfl, n, hn, by rw [if_neg (by decide), hz]; exact h⟩
theorem q_LR.erL {es : List String} {T : q_T} {Q : q_Q} {sz : Nat} {I L : q_I} {P : q_P} {E : String} (n : Nat) (hn : es[n]? = some E) {z : Int} (hz : g_cst E = z) (h : Q (.inl (some (qL z))) sz T I L P) : q_LR es true T Q (.inr E) sz T I L P := ⟨rfl, n, hn, by rw [if_pos rfl, hz]; exact h⟩
theorem g_cNS : g_cst "java/util/NoSuchElementException" = -2000000096 := if_pos rfl
theorem g_cIA : g_cst "java/lang/IllegalArgumentException" = -2000000098 := by unfold g_cst; rw [if_neg (by decide), if_pos rfl]
theorem g_cIS : g_cst "java/lang/IllegalStateException" = -2000000099 := by unfold g_cst; rw [if_neg (by decide), if_neg (by decide)]
theorem q_cNS : Cond.castable "java/util/NoSuchElementException" "java/util/NoSuchElementException" ∈ q_nst := List.mem_of_getElem? (i := 15) rfl
theorem q_cIA : Cond.castable "java/lang/IllegalArgumentException" "java/lang/IllegalArgumentException" ∈ q_nst := List.mem_of_getElem? (i := 16) rfl
theorem q_cIS : Cond.castable "java/lang/IllegalStateException" "java/lang/IllegalStateException" ∈ q_nst := List.mem_of_getElem? (i := 17) rfl
section
variable {G : q_G} {F : q_F} {Y : q_Y} {h : Nat} {Q : q_Q} {kc ks pc pc' : Nat} {ls : List (Nat × Value)} {st : List Value} {sz : Nat} {T : q_T} {I L : q_I} {P : q_P}
theorem q_idiv (hF : q_ok G F Y h) {a b : Int} (ha : -2147483647 ≤ a ∧ a < 2147483648) (hb2 : -2147483648 ≤ b ∧ b < 2147483648) (h0 : b ≠ 0) (d : q_d Y.2.1 pc pc' .idiv 1) (k : qX G F Q kc ks pc' ls (qI (a.tdiv b) :: st) sz T I L P) : qX G F Q kc ks pc ls (qI b :: qI a :: st) sz T I L P := by
  obtain ⟨p, l, e, R, s, m, args, below, meth, c, mc, ms⟩ := F
  obtain ⟨hx, hb, -⟩ := hF
  obtain ⟨d, rfl⟩ := d
  intro H locs cells slots lsA z1 z2 z3 z4 z5 z6
  have q := k H locs cells slots lsA z1 z2 z3 z4 z5 z6
  rw [show qI (a.tdiv b) = .int (Int32.ofInt a / Int32.ofInt b) from congrArg _ (qi_div ha hb2).symm] at q
  exact lv_idiv hx hb d (by intro e; exact h0 ((qi_eq hb2 (by decide)).mp (e.trans rfl))) q
theorem q_land (hF : q_ok G F Y h) {a b c0 : Int} (hc : Int64.ofInt a &&& Int64.ofInt b = Int64.ofInt c0) (d : q_d Y.2.1 pc pc' .land 1) (k : qX G F Q kc ks pc' ls (qL c0 :: st) sz T I L P) : qX G F Q kc ks pc ls (qL b :: qL a :: st) sz T I L P := by
  obtain ⟨p, l, e, R, s, m, args, below, meth, c, mc, ms⟩ := F
  obtain ⟨hx, hb, -⟩ := hF
  obtain ⟨d, rfl⟩ := d
  intro H locs cells slots lsA z1 z2 z3 z4 z5 z6
  exact lv_land hx hb d (by rw [hc]; exact k H locs cells slots lsA z1 z2 z3 z4 z5 z6)
theorem q_lushr (hF : q_ok G F Y h) {a b c0 : Int} (hc : ((Int64.ofInt a).toUInt64 >>> ((Int32.ofInt b).toInt64.toUInt64 &&& Int64.toUInt64 63)).toInt64 = Int64.ofInt c0) (d : q_d Y.2.1 pc pc' .lushr 1) (k : qX G F Q kc ks pc' ls (qL c0 :: st) sz T I L P) : qX G F Q kc ks pc ls (qI b :: qL a :: st) sz T I L P := by
  obtain ⟨p, l, e, R, s, m, args, below, meth, c, mc, ms⟩ := F
  obtain ⟨hx, hb, -⟩ := hF
  obtain ⟨d, rfl⟩ := d
  intro H locs cells slots lsA z1 z2 z3 z4 z5 z6
  exact lv_lushr hx hb d hc (k H locs cells slots lsA z1 z2 z3 z4 z5 z6)
/-- a static row of texts of the law -/
theorem q_Sa_of {s : State} (hg : q_Gs G s) : q_Sa "KINDS" 80 5 (fun i => 63 + i) G.2.2.2.2.2.1 (q_A G) s s.heap ∧ q_Sa "NAMES" 81 5 (fun i => 68 + i) G.2.2.2.2.2.1 (q_A G) s s.heap ∧ q_Sa "ORDERS" 82 3 (fun i => 73 + i) G.2.2.2.2.2.1 (q_A G) s s.heap := hg.2.2.2.2.2.2.2.2.2.2.2.2.2.2
def q_Sx (a : Nat) : String × Nat × (Nat → Nat) := if a = 80 then ("KINDS", 5, fun i => 63 + i) else if a = 81 then ("NAMES", 5, fun i => 68 + i) else ("ORDERS", 3, fun i => 73 + i)
theorem q_Sa_at {s : State} (hg : q_Gs G s) {a : Nat} (ha : a = 80 ∨ a = 81 ∨ a = 82) : q_Sa (q_Sx a).1 a (q_Sx a).2.1 (q_Sx a).2.2 G.2.2.2.2.2.1 (q_A G) s s.heap := by
  rcases ha with rfl | rfl | rfl
  · exact (q_Sa_of hg).1
  · exact (q_Sa_of hg).2.1
  · exact (q_Sa_of hg).2.2
theorem q_getsSa (hF : q_ok G F Y h) {idx a : Nat} (ha : a = 80 ∨ a = 81 ∨ a = 82) (hw : Cond.fieldLink Y.1.cls idx "IdleMoneyLaw" (q_Sx a).1 "[Ljava/lang/String;" ∈ q_all) (d : q_d Y.2.1 pc pc' (.getstatic idx) 3) (k : qX G F Q kc ks pc' ls (.ref (q_KS G a) :: st) sz T I L P) : qX G F Q kc ks pc ls st sz T I L P := by
  obtain ⟨p, l, e, R, s, m, args, below, meth, c, mc, ms⟩ := F
  obtain ⟨hx, hb, hr, hlk, hml, ho, hnm, htb, hg, -⟩ := hF
  obtain ⟨d, rfl⟩ := d
  intro H locs cells slots lsA z1 z2 z3 z4 z5 z6
  exact va_gets hx hb (q_Sa_at hg ha).1 z3 ho (hg.at hw args) (fun _ x => x) d (k H locs cells slots lsA z1 z2 z3 z4 z5 z6)
theorem q_aldSa (hF : q_ok G F Y h) {a : Nat} (ha : a = 80 ∨ a = 81 ∨ a = 82) {i : Int} (j : Nat) (hj : i = (j : Int)) (hn : j < (q_Sx a).2.1) (hn2 : j < 5) (d : q_d Y.2.1 pc pc' .aaload 1) (k : qX G F Q kc ks pc' ls (.ref (q_KS G ((q_Sx a).2.2 j)) :: st) sz T I L P) : qX G F Q kc ks pc ls (qI i :: .ref (q_KS G a) :: st) sz T I L P := by
  obtain ⟨p, l, e, R, s, m, args, below, meth, c, mc, ms⟩ := F
  obtain ⟨hx, hb, hr, hlk, hml, ho, hnm, htb, hg, -⟩ := hF
  obtain ⟨d, rfl⟩ := d
  subst hj
  intro H locs cells slots lsA z1 z2 z3 z4 z5 z6
  obtain ⟨cell, h1, h2, h3, h4, h5, h6, h7⟩ := (q_Sa_at hg ha).2.kept z3.2.1
  have ec : (Int32.ofInt (j : Int)).toNatClampNeg = j := by rw [qi_cl (by omega)]; omega
  exact W.aald (v := .ref (q_KS G ((q_Sx a).2.2 j))) (ty := .object "java/lang/String") hx hb h1 h2 rfl h3 (by rw [qi_lt0 (by omega), ec]; omega) (by rw [ec]; exact h6 j hn) rfl rfl d (k H locs cells slots lsA z1 z2 z3 z4 z5 z6)
end
set_option maxRecDepth 100000 in
theorem mL_text {G : q_G} {sz : Nat} {T : q_T} {I L : q_I} {P : q_P} {Q : q_Q} {b hx : Nat} {p0 : Int} (hTb : T b = some (.inl 6))
    (hX : ∀ Q1 : q_Q, (∀ r sz' T' I' L' P', q_LR ["java/lang/IllegalArgumentException"] false T Q r sz' T' I' L' P' → Q1 r sz' T' I' L' P') → qC G hx 1 6 YX7_text [.ref b, qI p0] sz T I L P Q1) : qC G (hx + 1) 1 6 YL_text [.ref b, qI p0] sz T I L P Q := by
  refine qC_ofH (by decide +kernel) rfl rfl (Nat.le_of_ble_eq_true rfl) (fun F hF _ _ => ?_)
  refine q_aload_n hF 0 rfl rfl dL_text_0 ?_
  refine q_iload_n hF 1 rfl rfl dL_text_1 ?_
  refine q_callV (kc := 0) (ks := 0) (mc' := 1) (ms' := 6) (h' := hx) (st := []) hF vl_RL_30 rfl [qI p0] rfl rfl hTb (by omega) (Nat.le_of_ble_eq_true rfl) dL_text_2 ?_
  refine hX _ (q_rtR (fun z sz' I1 L1 P1 hq => ?_) (fun n E sz' I1 L1 P1 hn hq => ?_))
  · rw [if_neg (by decide)] at hq ⊢
    refine q_ireturn hF rfl dL_text_5 ?_
    exact hq
  · rcases n with _ | n
    · obtain rfl : E = "java/lang/IllegalArgumentException" := (Option.some.inj hn).symm
      rw [if_neg (by decide), g_cIA] at hq
      refine q_catch hF [] (0, 5, 6, 33) [] rfl (fun z hz => by cases hz) (by decide) (by decide) (q_mem 627 (by decide +kernel) rfl) q_cIA (fun q9 => ?_)
      refine q_astore_n hF (ls' := [(2, .ref q9), (0, .ref b), (1, qI p0)]) rfl (by decide) rfl dL_text_6 ?_
      refine q_ldc hF (n := -2000000098) (q_mem 790 (by decide +kernel) rfl) dL_text_7 ?_
      refine q_ireturn hF rfl dL_text_9 ?_
      exact hq
    · cases hn
set_option maxRecDepth 100000 in
theorem mL_open {G : q_G} {sz : Nat} {T : q_T} {I L : q_I} {P : q_P} {Q : q_Q} {b hx : Nat} {p0 p1 p2 p3 : Int} (hTb : T b = some (.inl 6))
    (hX : ∀ Q1 : q_Q, (∀ r sz' T' I' L' P', q_LR ["java/util/NoSuchElementException", "java/lang/IllegalArgumentException", "java/lang/IllegalStateException"] false T Q r sz' T' I' L' P' → Q1 r sz' T' I' L' P') → qC G hx 1 6 YX7_open [.ref b, qI p0, qI p1, qI p2, qI p3] sz T I L P Q1) : qC G (hx + 1) 1 6 YL_open [.ref b, qI p0, qI p1, qI p2, qI p3] sz T I L P Q := by
  refine qC_ofH (by decide +kernel) rfl rfl (Nat.le_of_ble_eq_true rfl) (fun F hF _ _ => ?_)
  refine q_aload_n hF 0 rfl rfl dL_open_0 ?_
  refine q_iload_n hF 1 rfl rfl dL_open_1 ?_
  refine q_iload_n hF 2 rfl rfl dL_open_2 ?_
  refine q_iload_n hF 3 rfl rfl dL_open_3 ?_
  refine q_iload hF 4 rfl dL_open_4 ?_
  refine q_callV (kc := 0) (ks := 0) (mc' := 1) (ms' := 6) (h' := hx) (st := []) hF vl_RL_36 rfl [qI p0, qI p1, qI p2, qI p3] rfl rfl hTb (by omega) (Nat.le_of_ble_eq_true rfl) dL_open_6 ?_
  refine hX _ (q_rtR (fun z sz' I1 L1 P1 hq => ?_) (fun n E sz' I1 L1 P1 hn hq => ?_))
  · rw [if_neg (by decide)] at hq ⊢
    refine q_ireturn hF rfl dL_open_9 ?_
    exact hq
  · rcases n with _ | _ | _ | n
    · obtain rfl : E = "java/util/NoSuchElementException" := (Option.some.inj hn).symm
      rw [if_neg (by decide), g_cNS] at hq
      refine q_catch hF [] (0, 9, 10, 40) [(0, 9, 15, 33), (0, 9, 20, 43)] rfl (fun z hz => by cases hz) (by decide) (by decide) (q_mem 626 (by decide +kernel) rfl) q_cNS (fun q9 => ?_)
      refine q_astore hF (ls' := [(5, .ref q9), (0, .ref b), (1, qI p0), (2, qI p1), (3, qI p2), (4, qI p3)]) (by decide) rfl dL_open_10 ?_
      refine q_ldc hF (n := -2000000096) (q_mem 789 (by decide +kernel) rfl) dL_open_12 ?_
      refine q_ireturn hF rfl dL_open_14 ?_
      exact hq
    · obtain rfl : E = "java/lang/IllegalArgumentException" := (Option.some.inj hn).symm
      rw [if_neg (by decide), g_cIA] at hq
      refine q_catch hF [(0, 9, 10, 40)] (0, 9, 15, 33) [(0, 9, 20, 43)] rfl (List.forall_mem_cons.mpr ⟨⟨by decide, "java/util/NoSuchElementException", (q_mem 626 (by decide +kernel) rfl), by decide⟩, fun z hz => by cases hz⟩) (by decide) (by decide) (q_mem 627 (by decide +kernel) rfl) q_cIA (fun q9 => ?_)
      refine q_astore hF (ls' := [(5, .ref q9), (0, .ref b), (1, qI p0), (2, qI p1), (3, qI p2), (4, qI p3)]) (by decide) rfl dL_open_15 ?_
      refine q_ldc hF (n := -2000000098) (q_mem 790 (by decide +kernel) rfl) dL_open_17 ?_
      refine q_ireturn hF rfl dL_open_19 ?_
      exact hq
    · obtain rfl : E = "java/lang/IllegalStateException" := (Option.some.inj hn).symm
      rw [if_neg (by decide), g_cIS] at hq
      refine q_catch hF [(0, 9, 10, 40), (0, 9, 15, 33)] (0, 9, 20, 43) [] rfl (List.forall_mem_cons.mpr ⟨⟨by decide, "java/util/NoSuchElementException", (q_mem 626 (by decide +kernel) rfl), by decide⟩, List.forall_mem_cons.mpr ⟨⟨by decide, "java/lang/IllegalArgumentException", (q_mem 627 (by decide +kernel) rfl), by decide⟩, fun z hz => by cases hz⟩⟩) (by decide) (by decide) (q_mem 628 (by decide +kernel) rfl) q_cIS (fun q9 => ?_)
      refine q_astore hF (ls' := [(5, .ref q9), (0, .ref b), (1, qI p0), (2, qI p1), (3, qI p2), (4, qI p3)]) (by decide) rfl dL_open_20 ?_
      refine q_ldc hF (n := -2000000099) (q_mem 791 (by decide +kernel) rfl) dL_open_22 ?_
      refine q_ireturn hF rfl dL_open_24 ?_
      exact hq
    · cases hn
set_option maxRecDepth 100000 in
theorem mL_contact {G : q_G} {sz : Nat} {T : q_T} {I L : q_I} {P : q_P} {Q : q_Q} {b hx : Nat} {p0 : Int} (hTb : T b = some (.inl 6))
    (hX : ∀ Q1 : q_Q, (∀ r sz' T' I' L' P', q_LR ["java/util/NoSuchElementException", "java/lang/IllegalStateException"] false T Q r sz' T' I' L' P' → Q1 r sz' T' I' L' P') → qC G hx 1 6 YX7_contact [.ref b, qI p0] sz T I L P Q1) : qC G (hx + 1) 1 6 YL_contact [.ref b, qI p0] sz T I L P Q := by
  refine qC_ofH (by decide +kernel) rfl rfl (Nat.le_of_ble_eq_true rfl) (fun F hF _ _ => ?_)
  refine q_aload_n hF 0 rfl rfl dL_contact_0 ?_
  refine q_iload_n hF 1 rfl rfl dL_contact_1 ?_
  refine q_callV (kc := 0) (ks := 0) (mc' := 1) (ms' := 6) (h' := hx) (st := []) hF vl_RL_46 rfl [qI p0] rfl rfl hTb (by omega) (Nat.le_of_ble_eq_true rfl) dL_contact_2 ?_
  refine hX _ (q_rtR (fun z sz' I1 L1 P1 hq => ?_) (fun n E sz' I1 L1 P1 hn hq => ?_))
  · rw [if_neg (by decide)] at hq ⊢
    refine q_ireturn hF rfl dL_contact_5 ?_
    exact hq
  · rcases n with _ | _ | n
    · obtain rfl : E = "java/util/NoSuchElementException" := (Option.some.inj hn).symm
      rw [if_neg (by decide), g_cNS] at hq
      refine q_catch hF [] (0, 5, 6, 40) [(0, 5, 10, 43)] rfl (fun z hz => by cases hz) (by decide) (by decide) (q_mem 626 (by decide +kernel) rfl) q_cNS (fun q9 => ?_)
      refine q_astore_n hF (ls' := [(2, .ref q9), (0, .ref b), (1, qI p0)]) rfl (by decide) rfl dL_contact_6 ?_
      refine q_ldc hF (n := -2000000096) (q_mem 789 (by decide +kernel) rfl) dL_contact_7 ?_
      refine q_ireturn hF rfl dL_contact_9 ?_
      exact hq
    · obtain rfl : E = "java/lang/IllegalStateException" := (Option.some.inj hn).symm
      rw [if_neg (by decide), g_cIS] at hq
      refine q_catch hF [(0, 5, 6, 40)] (0, 5, 10, 43) [] rfl (List.forall_mem_cons.mpr ⟨⟨by decide, "java/util/NoSuchElementException", (q_mem 626 (by decide +kernel) rfl), by decide⟩, fun z hz => by cases hz⟩) (by decide) (by decide) (q_mem 628 (by decide +kernel) rfl) q_cIS (fun q9 => ?_)
      refine q_astore_n hF (ls' := [(2, .ref q9), (0, .ref b), (1, qI p0)]) rfl (by decide) rfl dL_contact_10 ?_
      refine q_ldc hF (n := -2000000099) (q_mem 791 (by decide +kernel) rfl) dL_contact_11 ?_
      refine q_ireturn hF rfl dL_contact_13 ?_
      exact hq
    · cases hn
set_option maxRecDepth 100000 in
theorem mL_deposit {G : q_G} {sz : Nat} {T : q_T} {I L : q_I} {P : q_P} {Q : q_Q} {b hx : Nat} {p0 p1 : Int} (hTb : T b = some (.inl 6))
    (hX : ∀ Q1 : q_Q, (∀ r sz' T' I' L' P', q_LR ["java/util/NoSuchElementException", "java/lang/IllegalArgumentException", "java/lang/IllegalStateException"] false T Q r sz' T' I' L' P' → Q1 r sz' T' I' L' P') → qC G hx 1 6 YX7_deposit [.ref b, qI p0, qI p1] sz T I L P Q1) : qC G (hx + 1) 1 6 YL_deposit [.ref b, qI p0, qI p1] sz T I L P Q := by
  refine qC_ofH (by decide +kernel) rfl rfl (Nat.le_of_ble_eq_true rfl) (fun F hF _ _ => ?_)
  refine q_aload_n hF 0 rfl rfl dL_deposit_0 ?_
  refine q_iload_n hF 1 rfl rfl dL_deposit_1 ?_
  refine q_iload_n hF 2 rfl rfl dL_deposit_2 ?_
  refine q_callV (kc := 0) (ks := 0) (mc' := 1) (ms' := 6) (h' := hx) (st := []) hF vl_RL_49 rfl [qI p0, qI p1] rfl rfl hTb (by omega) (Nat.le_of_ble_eq_true rfl) dL_deposit_3 ?_
  refine hX _ (q_rtR (fun z sz' I1 L1 P1 hq => ?_) (fun n E sz' I1 L1 P1 hn hq => ?_))
  · rw [if_neg (by decide)] at hq ⊢
    refine q_ireturn hF rfl dL_deposit_6 ?_
    exact hq
  · rcases n with _ | _ | _ | n
    · obtain rfl : E = "java/util/NoSuchElementException" := (Option.some.inj hn).symm
      rw [if_neg (by decide), g_cNS] at hq
      refine q_catch hF [] (0, 6, 7, 40) [(0, 6, 11, 33), (0, 6, 15, 43)] rfl (fun z hz => by cases hz) (by decide) (by decide) (q_mem 626 (by decide +kernel) rfl) q_cNS (fun q9 => ?_)
      refine q_astore_n hF (ls' := [(3, .ref q9), (0, .ref b), (1, qI p0), (2, qI p1)]) rfl (by decide) rfl dL_deposit_7 ?_
      refine q_ldc hF (n := -2000000096) (q_mem 789 (by decide +kernel) rfl) dL_deposit_8 ?_
      refine q_ireturn hF rfl dL_deposit_10 ?_
      exact hq
    · obtain rfl : E = "java/lang/IllegalArgumentException" := (Option.some.inj hn).symm
      rw [if_neg (by decide), g_cIA] at hq
      refine q_catch hF [(0, 6, 7, 40)] (0, 6, 11, 33) [(0, 6, 15, 43)] rfl (List.forall_mem_cons.mpr ⟨⟨by decide, "java/util/NoSuchElementException", (q_mem 626 (by decide +kernel) rfl), by decide⟩, fun z hz => by cases hz⟩) (by decide) (by decide) (q_mem 627 (by decide +kernel) rfl) q_cIA (fun q9 => ?_)
      refine q_astore_n hF (ls' := [(3, .ref q9), (0, .ref b), (1, qI p0), (2, qI p1)]) rfl (by decide) rfl dL_deposit_11 ?_
      refine q_ldc hF (n := -2000000098) (q_mem 790 (by decide +kernel) rfl) dL_deposit_12 ?_
      refine q_ireturn hF rfl dL_deposit_14 ?_
      exact hq
    · obtain rfl : E = "java/lang/IllegalStateException" := (Option.some.inj hn).symm
      rw [if_neg (by decide), g_cIS] at hq
      refine q_catch hF [(0, 6, 7, 40), (0, 6, 11, 33)] (0, 6, 15, 43) [] rfl (List.forall_mem_cons.mpr ⟨⟨by decide, "java/util/NoSuchElementException", (q_mem 626 (by decide +kernel) rfl), by decide⟩, List.forall_mem_cons.mpr ⟨⟨by decide, "java/lang/IllegalArgumentException", (q_mem 627 (by decide +kernel) rfl), by decide⟩, fun z hz => by cases hz⟩⟩) (by decide) (by decide) (q_mem 628 (by decide +kernel) rfl) q_cIS (fun q9 => ?_)
      refine q_astore_n hF (ls' := [(3, .ref q9), (0, .ref b), (1, qI p0), (2, qI p1)]) rfl (by decide) rfl dL_deposit_15 ?_
      refine q_ldc hF (n := -2000000099) (q_mem 791 (by decide +kernel) rfl) dL_deposit_16 ?_
      refine q_ireturn hF rfl dL_deposit_18 ?_
      exact hq
    · cases hn
set_option maxRecDepth 100000 in
theorem mL_draw {G : q_G} {sz : Nat} {T : q_T} {I L : q_I} {P : q_P} {Q : q_Q} {b hx : Nat} {p0 p1 : Int} (hTb : T b = some (.inl 6))
    (hX : ∀ Q1 : q_Q, (∀ r sz' T' I' L' P', q_LR ["java/util/NoSuchElementException", "java/lang/IllegalArgumentException", "java/lang/IllegalStateException"] false T Q r sz' T' I' L' P' → Q1 r sz' T' I' L' P') → qC G hx 1 6 YX7_draw [.ref b, qI p0, qI p1] sz T I L P Q1) : qC G (hx + 1) 1 6 YL_draw [.ref b, qI p0, qI p1] sz T I L P Q := by
  refine qC_ofH (by decide +kernel) rfl rfl (Nat.le_of_ble_eq_true rfl) (fun F hF _ _ => ?_)
  refine q_aload_n hF 0 rfl rfl dL_draw_0 ?_
  refine q_iload_n hF 1 rfl rfl dL_draw_1 ?_
  refine q_iload_n hF 2 rfl rfl dL_draw_2 ?_
  refine q_callV (kc := 0) (ks := 0) (mc' := 1) (ms' := 6) (h' := hx) (st := []) hF vl_RL_53 rfl [qI p0, qI p1] rfl rfl hTb (by omega) (Nat.le_of_ble_eq_true rfl) dL_draw_3 ?_
  refine hX _ (q_rtR (fun z sz' I1 L1 P1 hq => ?_) (fun n E sz' I1 L1 P1 hn hq => ?_))
  · rw [if_neg (by decide)] at hq ⊢
    refine q_ireturn hF rfl dL_draw_6 ?_
    exact hq
  · rcases n with _ | _ | _ | n
    · obtain rfl : E = "java/util/NoSuchElementException" := (Option.some.inj hn).symm
      rw [if_neg (by decide), g_cNS] at hq
      refine q_catch hF [] (0, 6, 7, 40) [(0, 6, 11, 33), (0, 6, 15, 43)] rfl (fun z hz => by cases hz) (by decide) (by decide) (q_mem 626 (by decide +kernel) rfl) q_cNS (fun q9 => ?_)
      refine q_astore_n hF (ls' := [(3, .ref q9), (0, .ref b), (1, qI p0), (2, qI p1)]) rfl (by decide) rfl dL_draw_7 ?_
      refine q_ldc hF (n := -2000000096) (q_mem 789 (by decide +kernel) rfl) dL_draw_8 ?_
      refine q_ireturn hF rfl dL_draw_10 ?_
      exact hq
    · obtain rfl : E = "java/lang/IllegalArgumentException" := (Option.some.inj hn).symm
      rw [if_neg (by decide), g_cIA] at hq
      refine q_catch hF [(0, 6, 7, 40)] (0, 6, 11, 33) [(0, 6, 15, 43)] rfl (List.forall_mem_cons.mpr ⟨⟨by decide, "java/util/NoSuchElementException", (q_mem 626 (by decide +kernel) rfl), by decide⟩, fun z hz => by cases hz⟩) (by decide) (by decide) (q_mem 627 (by decide +kernel) rfl) q_cIA (fun q9 => ?_)
      refine q_astore_n hF (ls' := [(3, .ref q9), (0, .ref b), (1, qI p0), (2, qI p1)]) rfl (by decide) rfl dL_draw_11 ?_
      refine q_ldc hF (n := -2000000098) (q_mem 790 (by decide +kernel) rfl) dL_draw_12 ?_
      refine q_ireturn hF rfl dL_draw_14 ?_
      exact hq
    · obtain rfl : E = "java/lang/IllegalStateException" := (Option.some.inj hn).symm
      rw [if_neg (by decide), g_cIS] at hq
      refine q_catch hF [(0, 6, 7, 40), (0, 6, 11, 33)] (0, 6, 15, 43) [] rfl (List.forall_mem_cons.mpr ⟨⟨by decide, "java/util/NoSuchElementException", (q_mem 626 (by decide +kernel) rfl), by decide⟩, List.forall_mem_cons.mpr ⟨⟨by decide, "java/lang/IllegalArgumentException", (q_mem 627 (by decide +kernel) rfl), by decide⟩, fun z hz => by cases hz⟩⟩) (by decide) (by decide) (q_mem 628 (by decide +kernel) rfl) q_cIS (fun q9 => ?_)
      refine q_astore_n hF (ls' := [(3, .ref q9), (0, .ref b), (1, qI p0), (2, qI p1)]) rfl (by decide) rfl dL_draw_15 ?_
      refine q_ldc hF (n := -2000000099) (q_mem 791 (by decide +kernel) rfl) dL_draw_16 ?_
      refine q_ireturn hF rfl dL_draw_18 ?_
      exact hq
    · cases hn
set_option maxRecDepth 100000 in
theorem mL_address {G : q_G} {sz : Nat} {T : q_T} {I L : q_I} {P : q_P} {Q : q_Q} {b hx : Nat} {p0 p1 : Int} (hTb : T b = some (.inl 6))
    (hX : ∀ Q1 : q_Q, (∀ r sz' T' I' L' P', q_LR ["java/util/NoSuchElementException"] false T Q r sz' T' I' L' P' → Q1 r sz' T' I' L' P') → qC G hx 1 6 YX7_address [.ref b, qI p0, qI p1] sz T I L P Q1) : qC G (hx + 1) 1 6 YL_address [.ref b, qI p0, qI p1] sz T I L P Q := by
  refine qC_ofH (by decide +kernel) rfl rfl (Nat.le_of_ble_eq_true rfl) (fun F hF _ _ => ?_)
  refine q_aload_n hF 0 rfl rfl dL_address_0 ?_
  refine q_iload_n hF 1 rfl rfl dL_address_1 ?_
  refine q_iload_n hF 2 rfl rfl dL_address_2 ?_
  refine q_callV (kc := 0) (ks := 0) (mc' := 1) (ms' := 6) (h' := hx) (st := []) hF vl_RL_56 rfl [qI p0, qI p1] rfl rfl hTb (by omega) (Nat.le_of_ble_eq_true rfl) dL_address_3 ?_
  refine hX _ (q_rtR (fun z sz' I1 L1 P1 hq => ?_) (fun n E sz' I1 L1 P1 hn hq => ?_))
  · rw [if_neg (by decide)] at hq ⊢
    refine q_ireturn hF rfl dL_address_6 ?_
    exact hq
  · rcases n with _ | n
    · obtain rfl : E = "java/util/NoSuchElementException" := (Option.some.inj hn).symm
      rw [if_neg (by decide), g_cNS] at hq
      refine q_catch hF [] (0, 6, 7, 40) [] rfl (fun z hz => by cases hz) (by decide) (by decide) (q_mem 626 (by decide +kernel) rfl) q_cNS (fun q9 => ?_)
      refine q_astore_n hF (ls' := [(3, .ref q9), (0, .ref b), (1, qI p0), (2, qI p1)]) rfl (by decide) rfl dL_address_7 ?_
      refine q_ldc hF (n := -2000000096) (q_mem 789 (by decide +kernel) rfl) dL_address_8 ?_
      refine q_ireturn hF rfl dL_address_10 ?_
      exact hq
    · cases hn
set_option maxRecDepth 100000 in
theorem mL_close {G : q_G} {sz : Nat} {T : q_T} {I L : q_I} {P : q_P} {Q : q_Q} {b hx : Nat} {p0 : Int} (hTb : T b = some (.inl 6))
    (hX : ∀ Q1 : q_Q, (∀ r sz' T' I' L' P', q_LR ["java/util/NoSuchElementException", "java/lang/IllegalStateException"] false T Q r sz' T' I' L' P' → Q1 r sz' T' I' L' P') → qC G hx 1 6 YX7_close [.ref b, qI p0] sz T I L P Q1) : qC G (hx + 1) 1 6 YL_close [.ref b, qI p0] sz T I L P Q := by
  refine qC_ofH (by decide +kernel) rfl rfl (Nat.le_of_ble_eq_true rfl) (fun F hF _ _ => ?_)
  refine q_aload_n hF 0 rfl rfl dL_close_0 ?_
  refine q_iload_n hF 1 rfl rfl dL_close_1 ?_
  refine q_callV (kc := 0) (ks := 0) (mc' := 1) (ms' := 6) (h' := hx) (st := []) hF vl_RL_59 rfl [qI p0] rfl rfl hTb (by omega) (Nat.le_of_ble_eq_true rfl) dL_close_2 ?_
  refine hX _ (q_rtR (fun z sz' I1 L1 P1 hq => ?_) (fun n E sz' I1 L1 P1 hn hq => ?_))
  · rw [if_neg (by decide)] at hq ⊢
    refine q_ireturn hF rfl dL_close_5 ?_
    exact hq
  · rcases n with _ | _ | n
    · obtain rfl : E = "java/util/NoSuchElementException" := (Option.some.inj hn).symm
      rw [if_neg (by decide), g_cNS] at hq
      refine q_catch hF [] (0, 5, 6, 40) [(0, 5, 10, 43)] rfl (fun z hz => by cases hz) (by decide) (by decide) (q_mem 626 (by decide +kernel) rfl) q_cNS (fun q9 => ?_)
      refine q_astore_n hF (ls' := [(2, .ref q9), (0, .ref b), (1, qI p0)]) rfl (by decide) rfl dL_close_6 ?_
      refine q_ldc hF (n := -2000000096) (q_mem 789 (by decide +kernel) rfl) dL_close_7 ?_
      refine q_ireturn hF rfl dL_close_9 ?_
      exact hq
    · obtain rfl : E = "java/lang/IllegalStateException" := (Option.some.inj hn).symm
      rw [if_neg (by decide), g_cIS] at hq
      refine q_catch hF [(0, 5, 6, 40)] (0, 5, 10, 43) [] rfl (List.forall_mem_cons.mpr ⟨⟨by decide, "java/util/NoSuchElementException", (q_mem 626 (by decide +kernel) rfl), by decide⟩, fun z hz => by cases hz⟩) (by decide) (by decide) (q_mem 628 (by decide +kernel) rfl) q_cIS (fun q9 => ?_)
      refine q_astore_n hF (ls' := [(2, .ref q9), (0, .ref b), (1, qI p0)]) rfl (by decide) rfl dL_close_10 ?_
      refine q_ldc hF (n := -2000000099) (q_mem 791 (by decide +kernel) rfl) dL_close_11 ?_
      refine q_ireturn hF rfl dL_close_13 ?_
      exact hq
    · cases hn
set_option maxRecDepth 100000 in
theorem mL_months {G : q_G} {sz : Nat} {T : q_T} {I L : q_I} {P : q_P} {Q : q_Q} {b hx : Nat} {p0 : Int} (hTb : T b = some (.inl 6))
    (hX : ∀ Q1 : q_Q, (∀ r sz' T' I' L' P', q_LR ["java/lang/IllegalArgumentException", "java/lang/IllegalStateException"] false T Q r sz' T' I' L' P' → Q1 r sz' T' I' L' P') → qC G hx 1 6 YX7_months [.ref b, qI p0] sz T I L P Q1) : qC G (hx + 1) 1 6 YL_months [.ref b, qI p0] sz T I L P Q := by
  refine qC_ofH (by decide +kernel) rfl rfl (Nat.le_of_ble_eq_true rfl) (fun F hF _ _ => ?_)
  refine q_aload_n hF 0 rfl rfl dL_months_0 ?_
  refine q_iload_n hF 1 rfl rfl dL_months_1 ?_
  refine q_callV (kc := 0) (ks := 0) (mc' := 1) (ms' := 6) (h' := hx) (st := []) hF vl_RL_62 rfl [qI p0] rfl rfl hTb (by omega) (Nat.le_of_ble_eq_true rfl) dL_months_2 ?_
  refine hX _ (q_rtR (fun z sz' I1 L1 P1 hq => ?_) (fun n E sz' I1 L1 P1 hn hq => ?_))
  · rw [if_neg (by decide)] at hq ⊢
    refine q_ireturn hF rfl dL_months_5 ?_
    exact hq
  · rcases n with _ | _ | n
    · obtain rfl : E = "java/lang/IllegalArgumentException" := (Option.some.inj hn).symm
      rw [if_neg (by decide), g_cIA] at hq
      refine q_catch hF [] (0, 5, 6, 33) [(0, 5, 10, 43)] rfl (fun z hz => by cases hz) (by decide) (by decide) (q_mem 627 (by decide +kernel) rfl) q_cIA (fun q9 => ?_)
      refine q_astore_n hF (ls' := [(2, .ref q9), (0, .ref b), (1, qI p0)]) rfl (by decide) rfl dL_months_6 ?_
      refine q_ldc hF (n := -2000000098) (q_mem 790 (by decide +kernel) rfl) dL_months_7 ?_
      refine q_ireturn hF rfl dL_months_9 ?_
      exact hq
    · obtain rfl : E = "java/lang/IllegalStateException" := (Option.some.inj hn).symm
      rw [if_neg (by decide), g_cIS] at hq
      refine q_catch hF [(0, 5, 6, 33)] (0, 5, 10, 43) [] rfl (List.forall_mem_cons.mpr ⟨⟨by decide, "java/lang/IllegalArgumentException", (q_mem 627 (by decide +kernel) rfl), by decide⟩, fun z hz => by cases hz⟩) (by decide) (by decide) (q_mem 628 (by decide +kernel) rfl) q_cIS (fun q9 => ?_)
      refine q_astore_n hF (ls' := [(2, .ref q9), (0, .ref b), (1, qI p0)]) rfl (by decide) rfl dL_months_10 ?_
      refine q_ldc hF (n := -2000000099) (q_mem 791 (by decide +kernel) rfl) dL_months_11 ?_
      refine q_ireturn hF rfl dL_months_13 ?_
      exact hq
    · cases hn
set_option maxRecDepth 100000 in
theorem mL_claim {G : q_G} {sz : Nat} {T : q_T} {I L : q_I} {P : q_P} {Q : q_Q} {b hx : Nat} {p0 : Int} (hTb : T b = some (.inl 6))
    (hX : ∀ Q1 : q_Q, (∀ r sz' T' I' L' P', q_LR ["java/util/NoSuchElementException", "java/lang/IllegalStateException"] true T Q r sz' T' I' L' P' → Q1 r sz' T' I' L' P') → qC G hx 1 6 YX7_claim [.ref b, qI p0] sz T I L P Q1) : qC G (hx + 1) 1 6 YL_claim [.ref b, qI p0] sz T I L P Q := by
  refine qC_ofH (by decide +kernel) rfl rfl (Nat.le_of_ble_eq_true rfl) (fun F hF _ _ => ?_)
  refine q_aload_n hF 0 rfl rfl dL_claim_0 ?_
  refine q_iload_n hF 1 rfl rfl dL_claim_1 ?_
  refine q_callV (kc := 0) (ks := 0) (mc' := 1) (ms' := 6) (h' := hx) (st := []) hF vl_RL_65 rfl [qI p0] rfl rfl hTb (by omega) (Nat.le_of_ble_eq_true rfl) dL_claim_2 ?_
  refine hX _ (q_rtR (fun z sz' I1 L1 P1 hq => ?_) (fun n E sz' I1 L1 P1 hn hq => ?_))
  · rw [if_pos rfl] at hq ⊢
    refine q_lreturn hF rfl dL_claim_5 ?_
    exact hq
  · rcases n with _ | _ | n
    · obtain rfl : E = "java/util/NoSuchElementException" := (Option.some.inj hn).symm
      rw [if_pos rfl, g_cNS] at hq
      refine q_catch hF [] (0, 5, 6, 40) [(0, 5, 11, 43)] rfl (fun z hz => by cases hz) (by decide) (by decide) (q_mem 626 (by decide +kernel) rfl) q_cNS (fun q9 => ?_)
      refine q_astore_n hF (ls' := [(2, .ref q9), (0, .ref b), (1, qI p0)]) rfl (by decide) rfl dL_claim_6 ?_
      refine q_ldc2 hF (n := -2000000096) (q_mem 953 (by decide +kernel) rfl) dL_claim_7 ?_
      refine q_lreturn hF rfl dL_claim_10 ?_
      exact hq
    · obtain rfl : E = "java/lang/IllegalStateException" := (Option.some.inj hn).symm
      rw [if_pos rfl, g_cIS] at hq
      refine q_catch hF [(0, 5, 6, 40)] (0, 5, 11, 43) [] rfl (List.forall_mem_cons.mpr ⟨⟨by decide, "java/util/NoSuchElementException", (q_mem 626 (by decide +kernel) rfl), by decide⟩, fun z hz => by cases hz⟩) (by decide) (by decide) (q_mem 628 (by decide +kernel) rfl) q_cIS (fun q9 => ?_)
      refine q_astore_n hF (ls' := [(2, .ref q9), (0, .ref b), (1, qI p0)]) rfl (by decide) rfl dL_claim_11 ?_
      refine q_ldc2 hF (n := -2000000099) (q_mem 954 (by decide +kernel) rfl) dL_claim_12 ?_
      refine q_lreturn hF rfl dL_claim_15 ?_
      exact hq
    · cases hn
set_option maxRecDepth 100000 in
theorem mL_pass {G : q_G} {sz : Nat} {T : q_T} {I L : q_I} {P : q_P} {Q : q_Q} {b hx : Nat} {p0 : Int} (hTb : T b = some (.inl 6))
    (hX : ∀ Q1 : q_Q, (∀ r sz' T' I' L' P', q_LR ["java/util/NoSuchElementException", "java/lang/IllegalStateException"] false T Q r sz' T' I' L' P' → Q1 r sz' T' I' L' P') → qC G hx 1 6 YX7_pass [.ref b, qI p0] sz T I L P Q1) : qC G (hx + 1) 1 6 YL_pass [.ref b, qI p0] sz T I L P Q := by
  refine qC_ofH (by decide +kernel) rfl rfl (Nat.le_of_ble_eq_true rfl) (fun F hF _ _ => ?_)
  refine q_aload_n hF 0 rfl rfl dL_pass_0 ?_
  refine q_iload_n hF 1 rfl rfl dL_pass_1 ?_
  refine q_callV (kc := 0) (ks := 0) (mc' := 1) (ms' := 6) (h' := hx) (st := []) hF vl_RL_73 rfl [qI p0] rfl rfl hTb (by omega) (Nat.le_of_ble_eq_true rfl) dL_pass_2 ?_
  refine hX _ (q_rtR (fun z sz' I1 L1 P1 hq => ?_) (fun n E sz' I1 L1 P1 hn hq => ?_))
  · rw [if_neg (by decide)] at hq ⊢
    refine q_ireturn hF rfl dL_pass_5 ?_
    exact hq
  · rcases n with _ | _ | n
    · obtain rfl : E = "java/util/NoSuchElementException" := (Option.some.inj hn).symm
      rw [if_neg (by decide), g_cNS] at hq
      refine q_catch hF [] (0, 5, 6, 40) [(0, 5, 10, 43)] rfl (fun z hz => by cases hz) (by decide) (by decide) (q_mem 626 (by decide +kernel) rfl) q_cNS (fun q9 => ?_)
      refine q_astore_n hF (ls' := [(2, .ref q9), (0, .ref b), (1, qI p0)]) rfl (by decide) rfl dL_pass_6 ?_
      refine q_ldc hF (n := -2000000096) (q_mem 789 (by decide +kernel) rfl) dL_pass_7 ?_
      refine q_ireturn hF rfl dL_pass_9 ?_
      exact hq
    · obtain rfl : E = "java/lang/IllegalStateException" := (Option.some.inj hn).symm
      rw [if_neg (by decide), g_cIS] at hq
      refine q_catch hF [(0, 5, 6, 40)] (0, 5, 10, 43) [] rfl (List.forall_mem_cons.mpr ⟨⟨by decide, "java/util/NoSuchElementException", (q_mem 626 (by decide +kernel) rfl), by decide⟩, fun z hz => by cases hz⟩) (by decide) (by decide) (q_mem 628 (by decide +kernel) rfl) q_cIS (fun q9 => ?_)
      refine q_astore_n hF (ls' := [(2, .ref q9), (0, .ref b), (1, qI p0)]) rfl (by decide) rfl dL_pass_10 ?_
      refine q_ldc hF (n := -2000000099) (q_mem 791 (by decide +kernel) rfl) dL_pass_11 ?_
      refine q_ireturn hF rfl dL_pass_13 ?_
      exact hq
    · cases hn
set_option maxRecDepth 100000 in
theorem mL_told {G : q_G} {sz : Nat} {T : q_T} {I L : q_I} {P : q_P} {Q : q_Q} {b hx : Nat} {p0 : Int} (hTb : T b = some (.inl 6))
    (hX : ∀ Q1 : q_Q, (∀ r sz' T' I' L' P', q_LR ["java/lang/IllegalArgumentException"] false T Q r sz' T' I' L' P' → Q1 r sz' T' I' L' P') → qC G hx 1 6 YX7_told [.ref b, qI p0] sz T I L P Q1) : qC G (hx + 1) 1 6 YL_told [.ref b, qI p0] sz T I L P Q := by
  refine qC_ofH (by decide +kernel) rfl rfl (Nat.le_of_ble_eq_true rfl) (fun F hF _ _ => ?_)
  refine q_aload_n hF 0 rfl rfl dL_told_0 ?_
  refine q_iload_n hF 1 rfl rfl dL_told_1 ?_
  refine q_callV (kc := 0) (ks := 0) (mc' := 1) (ms' := 6) (h' := hx) (st := []) hF vl_RL_76 rfl [qI p0] rfl rfl hTb (by omega) (Nat.le_of_ble_eq_true rfl) dL_told_2 ?_
  refine hX _ (q_rtR (fun z sz' I1 L1 P1 hq => ?_) (fun n E sz' I1 L1 P1 hn hq => ?_))
  · rw [if_neg (by decide)] at hq ⊢
    refine q_ireturn hF rfl dL_told_5 ?_
    exact hq
  · rcases n with _ | n
    · obtain rfl : E = "java/lang/IllegalArgumentException" := (Option.some.inj hn).symm
      rw [if_neg (by decide), g_cIA] at hq
      refine q_catch hF [] (0, 5, 6, 33) [] rfl (fun z hz => by cases hz) (by decide) (by decide) (q_mem 627 (by decide +kernel) rfl) q_cIA (fun q9 => ?_)
      refine q_astore_n hF (ls' := [(2, .ref q9), (0, .ref b), (1, qI p0)]) rfl (by decide) rfl dL_told_6 ?_
      refine q_ldc hF (n := -2000000098) (q_mem 790 (by decide +kernel) rfl) dL_told_7 ?_
      refine q_ireturn hF rfl dL_told_9 ?_
      exact hq
    · cases hn
set_option maxRecDepth 100000 in
theorem mL_land {G : q_G} {sz : Nat} {T : q_T} {I L : q_I} {P : q_P} {Q : q_Q} {b hx : Nat} {p0 p1 : Int} (hTb : T b = some (.inl 6))
    (hX : ∀ Q1 : q_Q, (∀ r sz' T' I' L' P', q_LR ["java/util/NoSuchElementException", "java/lang/IllegalArgumentException"] false T Q r sz' T' I' L' P' → Q1 r sz' T' I' L' P') → qC G hx 1 6 YX7_land [.ref b, qI p0, qI p1] sz T I L P Q1) : qC G (hx + 1) 1 6 YL_land [.ref b, qI p0, qI p1] sz T I L P Q := by
  refine qC_ofH (by decide +kernel) rfl rfl (Nat.le_of_ble_eq_true rfl) (fun F hF _ _ => ?_)
  refine q_aload_n hF 0 rfl rfl dL_land_0 ?_
  refine q_iload_n hF 1 rfl rfl dL_land_1 ?_
  refine q_iload_n hF 2 rfl rfl dL_land_2 ?_
  refine q_callV (kc := 0) (ks := 0) (mc' := 1) (ms' := 6) (h' := hx) (st := []) hF vl_RL_79 rfl [qI p0, qI p1] rfl rfl hTb (by omega) (Nat.le_of_ble_eq_true rfl) dL_land_3 ?_
  refine hX _ (q_rtR (fun z sz' I1 L1 P1 hq => ?_) (fun n E sz' I1 L1 P1 hn hq => ?_))
  · rw [if_neg (by decide)] at hq ⊢
    refine q_ireturn hF rfl dL_land_6 ?_
    exact hq
  · rcases n with _ | _ | n
    · obtain rfl : E = "java/util/NoSuchElementException" := (Option.some.inj hn).symm
      rw [if_neg (by decide), g_cNS] at hq
      refine q_catch hF [] (0, 6, 7, 40) [(0, 6, 11, 33)] rfl (fun z hz => by cases hz) (by decide) (by decide) (q_mem 626 (by decide +kernel) rfl) q_cNS (fun q9 => ?_)
      refine q_astore_n hF (ls' := [(3, .ref q9), (0, .ref b), (1, qI p0), (2, qI p1)]) rfl (by decide) rfl dL_land_7 ?_
      refine q_ldc hF (n := -2000000096) (q_mem 789 (by decide +kernel) rfl) dL_land_8 ?_
      refine q_ireturn hF rfl dL_land_10 ?_
      exact hq
    · obtain rfl : E = "java/lang/IllegalArgumentException" := (Option.some.inj hn).symm
      rw [if_neg (by decide), g_cIA] at hq
      refine q_catch hF [(0, 6, 7, 40)] (0, 6, 11, 33) [] rfl (List.forall_mem_cons.mpr ⟨⟨by decide, "java/util/NoSuchElementException", (q_mem 626 (by decide +kernel) rfl), by decide⟩, fun z hz => by cases hz⟩) (by decide) (by decide) (q_mem 627 (by decide +kernel) rfl) q_cIA (fun q9 => ?_)
      refine q_astore_n hF (ls' := [(3, .ref q9), (0, .ref b), (1, qI p0), (2, qI p1)]) rfl (by decide) rfl dL_land_11 ?_
      refine q_ldc hF (n := -2000000098) (q_mem 790 (by decide +kernel) rfl) dL_land_12 ?_
      refine q_ireturn hF rfl dL_land_14 ?_
      exact hq
    · cases hn
set_option maxRecDepth 100000 in
theorem mL_purse {G : q_G} {sz : Nat} {T : q_T} {I L : q_I} {P : q_P} {Q : q_Q} {b hx : Nat} {p0 p1 : Int} (hTb : T b = some (.inl 6))
    (hX : ∀ Q1 : q_Q, (∀ r sz' T' I' L' P', q_LR ["java/util/NoSuchElementException", "java/lang/IllegalArgumentException"] true T Q r sz' T' I' L' P' → Q1 r sz' T' I' L' P') → qC G hx 1 6 YX7_purse [.ref b, qI p0, qI p1] sz T I L P Q1) : qC G (hx + 1) 1 6 YL_purse [.ref b, qI p0, qI p1] sz T I L P Q := by
  refine qC_ofH (by decide +kernel) rfl rfl (Nat.le_of_ble_eq_true rfl) (fun F hF _ _ => ?_)
  refine q_aload_n hF 0 rfl rfl dL_purse_0 ?_
  refine q_iload_n hF 1 rfl rfl dL_purse_1 ?_
  refine q_iload_n hF 2 rfl rfl dL_purse_2 ?_
  refine q_callV (kc := 0) (ks := 0) (mc' := 1) (ms' := 6) (h' := hx) (st := []) hF vl_RL_82 rfl [qI p0, qI p1] rfl rfl hTb (by omega) (Nat.le_of_ble_eq_true rfl) dL_purse_3 ?_
  refine hX _ (q_rtR (fun z sz' I1 L1 P1 hq => ?_) (fun n E sz' I1 L1 P1 hn hq => ?_))
  · rw [if_pos rfl] at hq ⊢
    refine q_lreturn hF rfl dL_purse_6 ?_
    exact hq
  · rcases n with _ | _ | n
    · obtain rfl : E = "java/util/NoSuchElementException" := (Option.some.inj hn).symm
      rw [if_pos rfl, g_cNS] at hq
      refine q_catch hF [] (0, 6, 7, 40) [(0, 6, 12, 33)] rfl (fun z hz => by cases hz) (by decide) (by decide) (q_mem 626 (by decide +kernel) rfl) q_cNS (fun q9 => ?_)
      refine q_astore_n hF (ls' := [(3, .ref q9), (0, .ref b), (1, qI p0), (2, qI p1)]) rfl (by decide) rfl dL_purse_7 ?_
      refine q_ldc2 hF (n := -2000000096) (q_mem 953 (by decide +kernel) rfl) dL_purse_8 ?_
      refine q_lreturn hF rfl dL_purse_11 ?_
      exact hq
    · obtain rfl : E = "java/lang/IllegalArgumentException" := (Option.some.inj hn).symm
      rw [if_pos rfl, g_cIA] at hq
      refine q_catch hF [(0, 6, 7, 40)] (0, 6, 12, 33) [] rfl (List.forall_mem_cons.mpr ⟨⟨by decide, "java/util/NoSuchElementException", (q_mem 626 (by decide +kernel) rfl), by decide⟩, fun z hz => by cases hz⟩) (by decide) (by decide) (q_mem 627 (by decide +kernel) rfl) q_cIA (fun q9 => ?_)
      refine q_astore_n hF (ls' := [(3, .ref q9), (0, .ref b), (1, qI p0), (2, qI p1)]) rfl (by decide) rfl dL_purse_12 ?_
      refine q_ldc2 hF (n := -2000000098) (q_mem 1040 (by decide +kernel) rfl) dL_purse_13 ?_
      refine q_lreturn hF rfl dL_purse_16 ?_
      exact hq
    · cases hn
set_option maxRecDepth 100000 in
theorem mL_letter {G : q_G} {sz : Nat} {T : q_T} {I L : q_I} {P : q_P} {Q : q_Q} {b hx : Nat} {p0 p1 : Int} (hTb : T b = some (.inl 6))
    (hX : ∀ Q1 : q_Q, (∀ r sz' T' I' L' P', q_LR ["java/util/NoSuchElementException"] false T Q r sz' T' I' L' P' → Q1 r sz' T' I' L' P') → qC G hx 1 6 YX7_letter [.ref b, qI p0, qI p1] sz T I L P Q1) : qC G (hx + 1) 1 6 YL_letter [.ref b, qI p0, qI p1] sz T I L P Q := by
  refine qC_ofH (by decide +kernel) rfl rfl (Nat.le_of_ble_eq_true rfl) (fun F hF _ _ => ?_)
  refine q_aload_n hF 0 rfl rfl dL_letter_0 ?_
  refine q_iload_n hF 1 rfl rfl dL_letter_1 ?_
  refine q_iload_n hF 2 rfl rfl dL_letter_2 ?_
  refine q_callV (kc := 0) (ks := 0) (mc' := 1) (ms' := 6) (h' := hx) (st := []) hF vl_RL_88 rfl [qI p0, qI p1] rfl rfl hTb (by omega) (Nat.le_of_ble_eq_true rfl) dL_letter_3 ?_
  refine hX _ (q_rtR (fun z sz' I1 L1 P1 hq => ?_) (fun n E sz' I1 L1 P1 hn hq => ?_))
  · rw [if_neg (by decide)] at hq ⊢
    refine q_ireturn hF rfl dL_letter_6 ?_
    exact hq
  · rcases n with _ | n
    · obtain rfl : E = "java/util/NoSuchElementException" := (Option.some.inj hn).symm
      rw [if_neg (by decide), g_cNS] at hq
      refine q_catch hF [] (0, 6, 7, 40) [] rfl (fun z hz => by cases hz) (by decide) (by decide) (q_mem 626 (by decide +kernel) rfl) q_cNS (fun q9 => ?_)
      refine q_astore_n hF (ls' := [(3, .ref q9), (0, .ref b), (1, qI p0), (2, qI p1)]) rfl (by decide) rfl dL_letter_7 ?_
      refine q_ldc hF (n := -2000000096) (q_mem 789 (by decide +kernel) rfl) dL_letter_8 ?_
      refine q_ireturn hF rfl dL_letter_10 ?_
      exact hq
    · cases hn
set_option maxRecDepth 100000 in
theorem mL_pays {G : q_G} {sz : Nat} {T : q_T} {I L : q_I} {P : q_P} {Q : q_Q} {b hx : Nat} {p0 : Int} (hTb : T b = some (.inl 6))
    (hX : ∀ Q1 : q_Q, (∀ r sz' T' I' L' P', q_LR ["java/lang/IllegalArgumentException"] false T Q r sz' T' I' L' P' → Q1 r sz' T' I' L' P') → qC G hx 1 6 YX7_pays [.ref b, qI p0] sz T I L P Q1) : qC G (hx + 1) 1 6 YL_pays [.ref b, qI p0] sz T I L P Q := by
  refine qC_ofH (by decide +kernel) rfl rfl (Nat.le_of_ble_eq_true rfl) (fun F hF _ _ => ?_)
  refine q_aload_n hF 0 rfl rfl dL_pays_0 ?_
  refine q_iload_n hF 1 rfl rfl dL_pays_1 ?_
  refine q_callV (kc := 0) (ks := 0) (mc' := 1) (ms' := 6) (h' := hx) (st := []) hF vl_RL_91 rfl [qI p0] rfl rfl hTb (by omega) (Nat.le_of_ble_eq_true rfl) dL_pays_2 ?_
  refine hX _ (q_rtR (fun z sz' I1 L1 P1 hq => ?_) (fun n E sz' I1 L1 P1 hn hq => ?_))
  · rw [if_neg (by decide)] at hq ⊢
    refine q_ireturn hF rfl dL_pays_5 ?_
    exact hq
  · rcases n with _ | n
    · obtain rfl : E = "java/lang/IllegalArgumentException" := (Option.some.inj hn).symm
      rw [if_neg (by decide), g_cIA] at hq
      refine q_catch hF [] (0, 5, 6, 33) [] rfl (fun z hz => by cases hz) (by decide) (by decide) (q_mem 627 (by decide +kernel) rfl) q_cIA (fun q9 => ?_)
      refine q_astore_n hF (ls' := [(2, .ref q9), (0, .ref b), (1, qI p0)]) rfl (by decide) rfl dL_pays_6 ?_
      refine q_ldc hF (n := -2000000098) (q_mem 790 (by decide +kernel) rfl) dL_pays_7 ?_
      refine q_ireturn hF rfl dL_pays_9 ?_
      exact hq
    · cases hn
set_option maxRecDepth 100000 in
theorem mL_account {G : q_G} {sz : Nat} {T : q_T} {I L : q_I} {P : q_P} {Q : q_Q} {b hx : Nat} {p0 p1 : Int} (hTb : T b = some (.inl 6))
    (hX : ∀ Q1 : q_Q, (∀ r sz' T' I' L' P', q_LR ["java/util/NoSuchElementException", "java/lang/IllegalArgumentException"] false T Q r sz' T' I' L' P' → Q1 r sz' T' I' L' P') → qC G hx 1 6 YX7_account [.ref b, qI p0, qI p1] sz T I L P Q1) : qC G (hx + 1) 1 6 YL_account [.ref b, qI p0, qI p1] sz T I L P Q := by
  refine qC_ofH (by decide +kernel) rfl rfl (Nat.le_of_ble_eq_true rfl) (fun F hF _ _ => ?_)
  refine q_aload_n hF 0 rfl rfl dL_account_0 ?_
  refine q_iload_n hF 1 rfl rfl dL_account_1 ?_
  refine q_iload_n hF 2 rfl rfl dL_account_2 ?_
  refine q_callV (kc := 0) (ks := 0) (mc' := 1) (ms' := 6) (h' := hx) (st := []) hF vl_RL_94 rfl [qI p0, qI p1] rfl rfl hTb (by omega) (Nat.le_of_ble_eq_true rfl) dL_account_3 ?_
  refine hX _ (q_rtR (fun z sz' I1 L1 P1 hq => ?_) (fun n E sz' I1 L1 P1 hn hq => ?_))
  · rw [if_neg (by decide)] at hq ⊢
    refine q_ireturn hF rfl dL_account_6 ?_
    exact hq
  · rcases n with _ | _ | n
    · obtain rfl : E = "java/util/NoSuchElementException" := (Option.some.inj hn).symm
      rw [if_neg (by decide), g_cNS] at hq
      refine q_catch hF [] (0, 6, 7, 40) [(0, 6, 11, 33)] rfl (fun z hz => by cases hz) (by decide) (by decide) (q_mem 626 (by decide +kernel) rfl) q_cNS (fun q9 => ?_)
      refine q_astore_n hF (ls' := [(3, .ref q9), (0, .ref b), (1, qI p0), (2, qI p1)]) rfl (by decide) rfl dL_account_7 ?_
      refine q_ldc hF (n := -2000000096) (q_mem 789 (by decide +kernel) rfl) dL_account_8 ?_
      refine q_ireturn hF rfl dL_account_10 ?_
      exact hq
    · obtain rfl : E = "java/lang/IllegalArgumentException" := (Option.some.inj hn).symm
      rw [if_neg (by decide), g_cIA] at hq
      refine q_catch hF [(0, 6, 7, 40)] (0, 6, 11, 33) [] rfl (List.forall_mem_cons.mpr ⟨⟨by decide, "java/util/NoSuchElementException", (q_mem 626 (by decide +kernel) rfl), by decide⟩, fun z hz => by cases hz⟩) (by decide) (by decide) (q_mem 627 (by decide +kernel) rfl) q_cIA (fun q9 => ?_)
      refine q_astore_n hF (ls' := [(3, .ref q9), (0, .ref b), (1, qI p0), (2, qI p1)]) rfl (by decide) rfl dL_account_11 ?_
      refine q_ldc hF (n := -2000000098) (q_mem 790 (by decide +kernel) rfl) dL_account_12 ?_
      refine q_ireturn hF rfl dL_account_14 ?_
      exact hq
    · cases hn
set_option maxRecDepth 100000 in
theorem mL_sleep {G : q_G} {sz : Nat} {T : q_T} {I L : q_I} {P : q_P} {Q : q_Q} {b hx : Nat} {p0 : Int} (hTb : T b = some (.inl 6))
    (hX : ∀ Q1 : q_Q, (∀ r sz' T' I' L' P', q_LR ["java/util/NoSuchElementException"] false T Q r sz' T' I' L' P' → Q1 r sz' T' I' L' P') → qC G hx 1 6 YX7_sleep [.ref b, qI p0] sz T I L P Q1) : qC G (hx + 1) 1 6 YL_sleep [.ref b, qI p0] sz T I L P Q := by
  refine qC_ofH (by decide +kernel) rfl rfl (Nat.le_of_ble_eq_true rfl) (fun F hF _ _ => ?_)
  refine q_aload_n hF 0 rfl rfl dL_sleep_0 ?_
  refine q_iload_n hF 1 rfl rfl dL_sleep_1 ?_
  refine q_callV (kc := 0) (ks := 0) (mc' := 1) (ms' := 6) (h' := hx) (st := []) hF vl_RL_97 rfl [qI p0] rfl rfl hTb (by omega) (Nat.le_of_ble_eq_true rfl) dL_sleep_2 ?_
  refine hX _ (q_rtR (fun z sz' I1 L1 P1 hq => ?_) (fun n E sz' I1 L1 P1 hn hq => ?_))
  · rw [if_neg (by decide)] at hq ⊢
    refine q_ireturn hF rfl dL_sleep_5 ?_
    exact hq
  · rcases n with _ | n
    · obtain rfl : E = "java/util/NoSuchElementException" := (Option.some.inj hn).symm
      rw [if_neg (by decide), g_cNS] at hq
      refine q_catch hF [] (0, 5, 6, 40) [] rfl (fun z hz => by cases hz) (by decide) (by decide) (q_mem 626 (by decide +kernel) rfl) q_cNS (fun q9 => ?_)
      refine q_astore_n hF (ls' := [(2, .ref q9), (0, .ref b), (1, qI p0)]) rfl (by decide) rfl dL_sleep_6 ?_
      refine q_ldc hF (n := -2000000096) (q_mem 789 (by decide +kernel) rfl) dL_sleep_7 ?_
      refine q_ireturn hF rfl dL_sleep_9 ?_
      exact hq
    · cases hn
set_option maxRecDepth 100000 in
theorem mL_worth {G : q_G} {sz : Nat} {T : q_T} {I L : q_I} {P : q_P} {Q : q_Q} {b hx : Nat} {p0 p1 : Int} (hTb : T b = some (.inl 6))
    (hX : ∀ Q1 : q_Q, (∀ r sz' T' I' L' P', q_LR ["java/util/NoSuchElementException", "java/lang/IllegalArgumentException"] true T Q r sz' T' I' L' P' → Q1 r sz' T' I' L' P') → qC G hx 1 6 YX7_worth [.ref b, qI p0, qI p1] sz T I L P Q1) : qC G (hx + 1) 1 6 YL_worth [.ref b, qI p0, qI p1] sz T I L P Q := by
  refine qC_ofH (by decide +kernel) rfl rfl (Nat.le_of_ble_eq_true rfl) (fun F hF _ _ => ?_)
  refine q_aload_n hF 0 rfl rfl dL_worth_0 ?_
  refine q_iload_n hF 1 rfl rfl dL_worth_1 ?_
  refine q_iload_n hF 2 rfl rfl dL_worth_2 ?_
  refine q_callV (kc := 0) (ks := 0) (mc' := 1) (ms' := 6) (h' := hx) (st := []) hF vl_RL_103 rfl [qI p0, qI p1] rfl rfl hTb (by omega) (Nat.le_of_ble_eq_true rfl) dL_worth_3 ?_
  refine hX _ (q_rtR (fun z sz' I1 L1 P1 hq => ?_) (fun n E sz' I1 L1 P1 hn hq => ?_))
  · rw [if_pos rfl] at hq ⊢
    refine q_lreturn hF rfl dL_worth_6 ?_
    exact hq
  · rcases n with _ | _ | n
    · obtain rfl : E = "java/util/NoSuchElementException" := (Option.some.inj hn).symm
      rw [if_pos rfl, g_cNS] at hq
      refine q_catch hF [] (0, 6, 7, 40) [(0, 6, 12, 33)] rfl (fun z hz => by cases hz) (by decide) (by decide) (q_mem 626 (by decide +kernel) rfl) q_cNS (fun q9 => ?_)
      refine q_astore_n hF (ls' := [(3, .ref q9), (0, .ref b), (1, qI p0), (2, qI p1)]) rfl (by decide) rfl dL_worth_7 ?_
      refine q_ldc2 hF (n := -2000000096) (q_mem 953 (by decide +kernel) rfl) dL_worth_8 ?_
      refine q_lreturn hF rfl dL_worth_11 ?_
      exact hq
    · obtain rfl : E = "java/lang/IllegalArgumentException" := (Option.some.inj hn).symm
      rw [if_pos rfl, g_cIA] at hq
      refine q_catch hF [(0, 6, 7, 40)] (0, 6, 12, 33) [] rfl (List.forall_mem_cons.mpr ⟨⟨by decide, "java/util/NoSuchElementException", (q_mem 626 (by decide +kernel) rfl), by decide⟩, fun z hz => by cases hz⟩) (by decide) (by decide) (q_mem 627 (by decide +kernel) rfl) q_cIA (fun q9 => ?_)
      refine q_astore_n hF (ls' := [(3, .ref q9), (0, .ref b), (1, qI p0), (2, qI p1)]) rfl (by decide) rfl dL_worth_12 ?_
      refine q_ldc2 hF (n := -2000000098) (q_mem 1040 (by decide +kernel) rfl) dL_worth_13 ?_
      refine q_lreturn hF rfl dL_worth_16 ?_
      exact hq
    · cases hn
set_option maxRecDepth 100000 in
theorem mL_row {G : q_G} {sz : Nat} {T : q_T} {I L : q_I} {P : q_P} {Q : q_Q} {b hx : Nat} {p0 p1 : Int} (hTb : T b = some (.inl 6))
    (hX : ∀ Q1 : q_Q, (∀ r sz' T' I' L' P', q_LR ["java/util/NoSuchElementException", "java/lang/IllegalArgumentException"] false T Q r sz' T' I' L' P' → Q1 r sz' T' I' L' P') → qC G hx 1 6 YX7_row [.ref b, qI p0, qI p1] sz T I L P Q1) : qC G (hx + 1) 1 6 YL_row [.ref b, qI p0, qI p1] sz T I L P Q := by
  refine qC_ofH (by decide +kernel) rfl rfl (Nat.le_of_ble_eq_true rfl) (fun F hF _ _ => ?_)
  refine q_aload_n hF 0 rfl rfl dL_row_0 ?_
  refine q_iload_n hF 1 rfl rfl dL_row_1 ?_
  refine q_iload_n hF 2 rfl rfl dL_row_2 ?_
  refine q_callV (kc := 0) (ks := 0) (mc' := 1) (ms' := 6) (h' := hx) (st := []) hF vl_RL_106 rfl [qI p0, qI p1] rfl rfl hTb (by omega) (Nat.le_of_ble_eq_true rfl) dL_row_3 ?_
  refine hX _ (q_rtR (fun z sz' I1 L1 P1 hq => ?_) (fun n E sz' I1 L1 P1 hn hq => ?_))
  · rw [if_neg (by decide)] at hq ⊢
    refine q_ireturn hF rfl dL_row_6 ?_
    exact hq
  · rcases n with _ | _ | n
    · obtain rfl : E = "java/util/NoSuchElementException" := (Option.some.inj hn).symm
      rw [if_neg (by decide), g_cNS] at hq
      refine q_catch hF [] (0, 6, 7, 40) [(0, 6, 11, 33)] rfl (fun z hz => by cases hz) (by decide) (by decide) (q_mem 626 (by decide +kernel) rfl) q_cNS (fun q9 => ?_)
      refine q_astore_n hF (ls' := [(3, .ref q9), (0, .ref b), (1, qI p0), (2, qI p1)]) rfl (by decide) rfl dL_row_7 ?_
      refine q_ldc hF (n := -2000000096) (q_mem 789 (by decide +kernel) rfl) dL_row_8 ?_
      refine q_ireturn hF rfl dL_row_10 ?_
      exact hq
    · obtain rfl : E = "java/lang/IllegalArgumentException" := (Option.some.inj hn).symm
      rw [if_neg (by decide), g_cIA] at hq
      refine q_catch hF [(0, 6, 7, 40)] (0, 6, 11, 33) [] rfl (List.forall_mem_cons.mpr ⟨⟨by decide, "java/util/NoSuchElementException", (q_mem 626 (by decide +kernel) rfl), by decide⟩, fun z hz => by cases hz⟩) (by decide) (by decide) (q_mem 627 (by decide +kernel) rfl) q_cIA (fun q9 => ?_)
      refine q_astore_n hF (ls' := [(3, .ref q9), (0, .ref b), (1, qI p0), (2, qI p1)]) rfl (by decide) rfl dL_row_11 ?_
      refine q_ldc hF (n := -2000000098) (q_mem 790 (by decide +kernel) rfl) dL_row_12 ?_
      refine q_ireturn hF rfl dL_row_14 ?_
      exact hq
    · cases hn
set_option maxRecDepth 100000 in
theorem mL_rescue {G : q_G} {sz : Nat} {T : q_T} {I L : q_I} {P : q_P} {Q : q_Q} {b hx : Nat} {p0 p1 p2 : Int} (hTb : T b = some (.inl 6))
    (hX : ∀ Q1 : q_Q, (∀ r sz' T' I' L' P', q_LR ["java/lang/IllegalArgumentException"] true T Q r sz' T' I' L' P' → Q1 r sz' T' I' L' P') → qC G hx 1 6 YX7_rescue [.ref b, qI p0, qI p1, qI p2] sz T I L P Q1) : qC G (hx + 1) 1 6 YL_rescue [.ref b, qI p0, qI p1, qI p2] sz T I L P Q := by
  refine qC_ofH (by decide +kernel) rfl rfl (Nat.le_of_ble_eq_true rfl) (fun F hF _ _ => ?_)
  refine q_aload_n hF 0 rfl rfl dL_rescue_0 ?_
  refine q_iload_n hF 1 rfl rfl dL_rescue_1 ?_
  refine q_iload_n hF 2 rfl rfl dL_rescue_2 ?_
  refine q_iload_n hF 3 rfl rfl dL_rescue_3 ?_
  refine q_callV (kc := 0) (ks := 0) (mc' := 1) (ms' := 6) (h' := hx) (st := []) hF vl_RL_115 rfl [qI p0, qI p1, qI p2] rfl rfl hTb (by omega) (Nat.le_of_ble_eq_true rfl) dL_rescue_4 ?_
  refine hX _ (q_rtR (fun z sz' I1 L1 P1 hq => ?_) (fun n E sz' I1 L1 P1 hn hq => ?_))
  · rw [if_pos rfl] at hq ⊢
    refine q_lreturn hF rfl dL_rescue_7 ?_
    exact hq
  · rcases n with _ | n
    · obtain rfl : E = "java/lang/IllegalArgumentException" := (Option.some.inj hn).symm
      rw [if_pos rfl, g_cIA] at hq
      refine q_catch hF [] (0, 7, 8, 33) [] rfl (fun z hz => by cases hz) (by decide) (by decide) (q_mem 627 (by decide +kernel) rfl) q_cIA (fun q9 => ?_)
      refine q_astore hF (ls' := [(4, .ref q9), (0, .ref b), (1, qI p0), (2, qI p1), (3, qI p2)]) (by decide) rfl dL_rescue_8 ?_
      refine q_ldc2 hF (n := -2000000098) (q_mem 1040 (by decide +kernel) rfl) dL_rescue_10 ?_
      refine q_lreturn hF rfl dL_rescue_13 ?_
      exact hq
    · cases hn
set_option maxRecDepth 100000 in
theorem mL_books {G : q_G} {sz : Nat} {T : q_T} {I L : q_I} {P : q_P} {Q : q_Q} {b hx : Nat} {p0 : Int} (hTb : T b = some (.inl 6))
    (hX : ∀ Q1 : q_Q, (∀ r sz' T' I' L' P', q_LR ["java/lang/IllegalArgumentException"] true T Q r sz' T' I' L' P' → Q1 r sz' T' I' L' P') → qC G hx 1 6 YX7_books [.ref b, qI p0] sz T I L P Q1) : qC G (hx + 1) 1 6 YL_books [.ref b, qI p0] sz T I L P Q := by
  refine qC_ofH (by decide +kernel) rfl rfl (Nat.le_of_ble_eq_true rfl) (fun F hF _ _ => ?_)
  refine q_aload_n hF 0 rfl rfl dL_books_0 ?_
  refine q_iload_n hF 1 rfl rfl dL_books_1 ?_
  refine q_callV (kc := 0) (ks := 0) (mc' := 1) (ms' := 6) (h' := hx) (st := []) hF vl_RL_119 rfl [qI p0] rfl rfl hTb (by omega) (Nat.le_of_ble_eq_true rfl) dL_books_2 ?_
  refine hX _ (q_rtR (fun z sz' I1 L1 P1 hq => ?_) (fun n E sz' I1 L1 P1 hn hq => ?_))
  · rw [if_pos rfl] at hq ⊢
    refine q_lreturn hF rfl dL_books_5 ?_
    exact hq
  · rcases n with _ | n
    · obtain rfl : E = "java/lang/IllegalArgumentException" := (Option.some.inj hn).symm
      rw [if_pos rfl, g_cIA] at hq
      refine q_catch hF [] (0, 5, 6, 33) [] rfl (fun z hz => by cases hz) (by decide) (by decide) (q_mem 627 (by decide +kernel) rfl) q_cIA (fun q9 => ?_)
      refine q_astore_n hF (ls' := [(2, .ref q9), (0, .ref b), (1, qI p0)]) rfl (by decide) rfl dL_books_6 ?_
      refine q_ldc2 hF (n := -2000000098) (q_mem 1040 (by decide +kernel) rfl) dL_books_7 ?_
      refine q_lreturn hF rfl dL_books_10 ?_
      exact hq
    · cases hn
