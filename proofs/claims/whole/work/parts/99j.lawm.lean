/-! the law: exceptions caught; what is compared -/
/-- an exception that the row x of the method's table catches -/
theorem q_catch {G : q_G} {F : q_F} {Y : q_Y} {h : Nat} {Q : q_Q} {kc ks pc : Nat} {ls : List (Nat × Value)} {st : List Value} {sz : Nat} {T : q_T} {I L : q_I} {P : q_P} (hF : q_ok G F Y h) {E : String} (pre : List (Nat × Nat × Nat × Nat)) (x : Nat × Nat × Nat × Nat) (suf : List (Nat × Nat × Nat × Nat)) (hh : Y.2.2.2.2 = pre ++ x :: suf)
    (hpass : ∀ z ∈ pre, z.2.2.2 ≠ 0 ∧ ∃ nm : String, Cond.classLink Y.1.cls z.2.2.2 nm ∈ q_all ∧ (E, nm) ∈ q_EX) (hx : x.1 ≤ pc ∧ pc < x.2.1) (h0 : x.2.2.2 ≠ 0) (hl : Cond.classLink Y.1.cls x.2.2.2 E ∈ q_all) (hc : Cond.castable E E ∈ q_nst)
    (k : ∀ q9 : Nat, qX G F Q kc ks x.2.2.1 ls [.ref q9] sz T I L P) : qT G F Q kc ks pc ls st E sz T I L P := by
  obtain ⟨p, l, e, R, s, m, args, below, meth, c, mc, ms⟩ := F
  obtain ⟨hx0, hb, hr, hlk, hml, ho, hnm, htb, hg, -⟩ := hF
  intro H locs cells slots lsA q9 ce z1 z2 z3 z4 z5 z6 y1 y2 y3
  refine vx_catch (own := Y.1.cls) (name := E) ho (tableOf pre) ⟨x.1, x.2.1, x.2.2.1, x.2.2.2⟩ (tableOf suf) (by rw [htb, hh]; unfold tableOf; rw [List.map_append]; rfl) (fun z hz => ?_) ?_ h0 (hg.at hl args) (hg.2.2.2.1 _ hc) y1 y2 y3 (k q9 H locs cells slots lsA z1 z2 z3 z4 z5 z6)
  · obtain ⟨w, hw, rfl⟩ := List.mem_map.mp hz
    obtain ⟨hw0, nm, h1, h2⟩ := hpass w hw
    exact Or.inr ⟨hw0, nm, hg.at h1 args, hg.2.2.2.2.2.2.2.2.2.2.2.2.1 _ h2⟩
  · show (decide (x.1 ≤ pc) && decide (pc < x.2.1)) = true
    rw [decide_eq_true hx.1, decide_eq_true hx.2]; rfl
/-- an int as the long that it becomes -/
def q_w32 (z : Int) : Int := (Int32.ofInt z).toInt
theorem q_w32_r (z : Int) : -2147483648 ≤ q_w32 z ∧ q_w32 z < 2147483648 := by
  unfold q_w32
  have h1 := Int32.minValue_le_toInt (Int32.ofInt z)
  have h2 := Int32.toInt_lt (Int32.ofInt z)
  exact ⟨h1, h2⟩
theorem q_w32_i (z : Int) : qI (q_w32 z) = qI z := by
  unfold q_w32
  show Value.int (Int32.ofInt (Int32.ofInt z).toInt) = Value.int (Int32.ofInt z)
  rw [Int32.ofInt_toInt]
section
variable {G : q_G} {F : q_F} {Y : q_Y} {h : Nat} {Q : q_Q} {kc ks pc pc' pc1 tgt : Nat} {ls : List (Nat × Value)} {st : List Value} {sz : Nat} {T : q_T} {I L : q_I} {P : q_P}
theorem q_i2lw (hF : q_ok G F Y h) {a : Int} (d : q_d Y.2.1 pc pc' .i2l 1) (k : qX G F Q kc ks pc' ls (qL (q_w32 a) :: st) sz T I L P) : qX G F Q kc ks pc ls (qI a :: st) sz T I L P := by
  rw [← q_w32_i a]
  exact q_i2l hF (q_w32_r a) d k
theorem q_icmpeqS (hF : q_ok G F Y h) {a : Int} (d : q_j Y.2.1 pc pc' tgt (fun o => .if_icmp .eq o)) (k : qX G F Q kc ks tgt ls st sz T I L P) : qX G F Q kc ks pc ls (qI a :: qI a :: st) sz T I L P := by
  rw [← q_w32_i a]
  exact q_icmpeq hF (q_w32_r a) (q_w32_r a) d (fun _ => k) (fun hn => absurd rfl hn)
def q_w64 (z : Int) : Int := (Int64.ofInt z).toInt
theorem q_w64_r (z : Int) : -9223372036854775808 ≤ q_w64 z ∧ q_w64 z < 9223372036854775808 := by
  unfold q_w64
  have h1 := Int64.minValue_le_toInt (Int64.ofInt z)
  have h2 := Int64.toInt_lt (Int64.ofInt z)
  exact ⟨h1, h2⟩
theorem q_w64_l (z : Int) : qL (q_w64 z) = qL z := by
  unfold q_w64
  show Value.long (Int64.ofInt (Int64.ofInt z).toInt) = Value.long (Int64.ofInt z)
  rw [Int64.ofInt_toInt]
theorem q_cmpeqS (hF : q_ok G F Y h) {a : Int} (d1 : q_d Y.2.1 pc pc1 .lcmp 1) (d2 : q_j Y.2.1 pc1 pc' tgt (fun o => .ifCond .eq o)) (k : qX G F Q kc ks tgt ls st sz T I L P) : qX G F Q kc ks pc ls (qL a :: qL a :: st) sz T I L P := by
  rw [← q_w64_l a]
  exact q_cmpeq hF (q_w64_r a) (q_w64_r a) d1 d2 (fun _ => k) (fun hn => absurd rfl hn)
end
/-- what the law's method makes of the class's answer: 0 and the answer laid down, or the number of its exception -/
def q_LQ (es : List String) (o : Nat) (lg : Bool) (T : q_T) (Q : q_Q) : q_Q := fun r sz' T' I' L' P' => match r with
  | .inl (some v) => T' = T ∧ ∃ z : Int, (if lg = true then v = qL z ∧ Q (.inl (some (qI 0))) sz' T' I' (u2 L' o 0 z) P' else v = qI z ∧ Q (.inl (some (qI 0))) sz' T' I' (u2 L' o 0 (q_w32 z)) P')
  | .inl none => False
  | .inr E => T' = T ∧ ∃ n : Nat, es[n]? = some E ∧ Q (.inl (some (qI ((n + 1 : Nat) : Int)))) sz' T' I' L' P'
theorem q_rtL {G : q_G} {F : q_F} {Q : q_Q} {kc ks pc pc' : Nat} {ls : List (Nat × Value)} {st : List Value} {es : List String} {o : Nat} {lg : Bool} {T : q_T} {Q' : q_Q} (kok : ∀ (z : Int) (sz' : Nat) (I' L' : q_I) (P' : q_P), (if lg = true then Q' (.inl (some (qI 0))) sz' T I' (u2 L' o 0 z) P' else Q' (.inl (some (qI 0))) sz' T I' (u2 L' o 0 (q_w32 z)) P') → qX G F Q kc ks pc' ls ((if lg = true then qL z else qI z) :: st) sz' T I' L' P')
    (ker : ∀ (n : Nat) (E : String) (sz' : Nat) (I' L' : q_I) (P' : q_P), es[n]? = some E → Q' (.inl (some (qI ((n + 1 : Nat) : Int)))) sz' T I' L' P' → qT G F Q kc ks pc ls st E sz' T I' L' P') : ∀ (r : Option Value ⊕ String) (sz' : Nat) (T' : q_T) (I' L' : q_I) (P' : q_P), q_LQ es o lg T Q' r sz' T' I' L' P' → q_rt G F Q kc ks pc pc' ls st r sz' T' I' L' P' := by
  intro r sz' T' I' L' P' hq
  match r, hq with
  | .inl (some v), ⟨hT, z, hz⟩ =>
    subst hT
    have k := kok z sz' I' L' P'
    cases lg with
    | true =>
      rw [if_pos rfl] at hz k
      obtain ⟨rfl, h2⟩ := hz
      exact k h2
    | false =>
      rw [if_neg (by decide)] at hz k
      obtain ⟨rfl, h2⟩ := hz
      exact k h2
  | .inr E, ⟨hT, n, hn, hz⟩ =>
    subst hT
    exact ker n E sz' I' L' P' hn hz
theorem q_cNS : Cond.castable "java/util/NoSuchElementException" "java/util/NoSuchElementException" ∈ q_nst := List.mem_of_getElem? (i := 11) rfl
theorem q_cIA : Cond.castable "java/lang/IllegalArgumentException" "java/lang/IllegalArgumentException" ∈ q_nst := List.mem_of_getElem? (i := 12) rfl
theorem q_cIS : Cond.castable "java/lang/IllegalStateException" "java/lang/IllegalStateException" ∈ q_nst := List.mem_of_getElem? (i := 13) rfl
set_option maxRecDepth 100000 in
theorem mL_text {G : q_G} {sz : Nat} {T : q_T} {I L : q_I} {P : q_P} {Q : q_Q} {b o hx : Nat} {p0 : Int} (hTb : T b = some (.inl 6)) (hTo : T o = some (.inr (1, 1))) (hAo : q_A G o)
    (hX : ∀ Q1 : q_Q, (∀ r sz' T' I' L' P', q_LQ ["java/lang/IllegalArgumentException"] o false T Q r sz' T' I' L' P' → Q1 r sz' T' I' L' P') → qC G hx 1 6 YX7_text [.ref b, qI p0] sz T I L P Q1) : qC G (hx + 1) 1 6 YL_text [.ref b, qI p0, .ref o] sz T I L P Q := by
  refine qC_ofH (by decide +kernel) rfl rfl (Nat.le_of_ble_eq_true rfl) (fun F hF _ _ => ?_)
  refine q_aload_n hF 2 rfl rfl dL_text_0 ?_
  refine q_iconst hF dL_text_1 ?_
  refine q_aload_n hF 0 rfl rfl dL_text_2 ?_
  refine q_iload_n hF 1 rfl rfl dL_text_3 ?_
  refine q_callV (kc := 0) (ks := 0) (mc' := 1) (ms' := 6) (h' := hx) (st := [qI 0, .ref o]) hF vl_RL_7 rfl [qI p0] rfl rfl hTb (by omega) (Nat.le_of_ble_eq_true rfl) dL_text_4 ?_
  refine hX _ (q_rtL (fun z sz' I1 L1 P1 hq => ?_) (fun n E sz' I1 L1 P1 hn hq => ?_))
  · rw [if_neg (by decide)] at hq ⊢
    refine q_i2lw hF dL_text_7 ?_
    refine q_lastorev hF (n := 1) 0 hTo hAo rfl (by decide) (by decide) dL_text_8 ?_
    refine q_goto hF dL_text_9 ?_
    refine q_iconst hF dL_text_15 ?_
    refine q_ireturn hF rfl dL_text_16 ?_
    exact hq
  · rcases n with _ | n
    · obtain rfl : E = "java/lang/IllegalArgumentException" := (Option.some.inj hn).symm
      refine q_catch hF [] (0, 9, 12, 13) [] rfl (fun z hz => by cases hz) (by decide) (by decide) (q_mem 487 (by decide +kernel) rfl) q_cIA (fun q9 => ?_)
      refine q_astore_n hF (ls' := [(3, .ref q9), (0, .ref b), (1, qI p0), (2, .ref o)]) rfl (by decide) rfl dL_text_12 ?_
      refine q_iconst hF dL_text_13 ?_
      refine q_ireturn hF rfl dL_text_14 ?_
      exact hq
    · cases hn
set_option maxRecDepth 100000 in
theorem mL_open {G : q_G} {sz : Nat} {T : q_T} {I L : q_I} {P : q_P} {Q : q_Q} {b o hx : Nat} {p0 p1 p2 p3 : Int} (hTb : T b = some (.inl 6)) (hTo : T o = some (.inr (1, 1))) (hAo : q_A G o)
    (hX : ∀ Q1 : q_Q, (∀ r sz' T' I' L' P', q_LQ ["java/util/NoSuchElementException", "java/lang/IllegalArgumentException", "java/lang/IllegalStateException"] o false T Q r sz' T' I' L' P' → Q1 r sz' T' I' L' P') → qC G hx 1 6 YX7_open [.ref b, qI p0, qI p1, qI p2, qI p3] sz T I L P Q1) : qC G (hx + 1) 1 6 YL_open [.ref b, qI p0, qI p1, qI p2, qI p3, .ref o] sz T I L P Q := by
  refine qC_ofH (by decide +kernel) rfl rfl (Nat.le_of_ble_eq_true rfl) (fun F hF _ _ => ?_)
  refine q_aload hF 5 rfl dL_open_0 ?_
  refine q_iconst hF dL_open_2 ?_
  refine q_aload_n hF 0 rfl rfl dL_open_3 ?_
  refine q_iload_n hF 1 rfl rfl dL_open_4 ?_
  refine q_iload_n hF 2 rfl rfl dL_open_5 ?_
  refine q_iload_n hF 3 rfl rfl dL_open_6 ?_
  refine q_iload hF 4 rfl dL_open_7 ?_
  refine q_callV (kc := 0) (ks := 0) (mc' := 1) (ms' := 6) (h' := hx) (st := [qI 0, .ref o]) hF vl_RL_15 rfl [qI p0, qI p1, qI p2, qI p3] rfl rfl hTb (by omega) (Nat.le_of_ble_eq_true rfl) dL_open_9 ?_
  refine hX _ (q_rtL (fun z sz' I1 L1 P1 hq => ?_) (fun n E sz' I1 L1 P1 hn hq => ?_))
  · rw [if_neg (by decide)] at hq ⊢
    refine q_i2lw hF dL_open_12 ?_
    refine q_lastorev hF (n := 1) 0 hTo hAo rfl (by decide) (by decide) dL_open_13 ?_
    refine q_goto hF dL_open_14 ?_
    refine q_iconst hF dL_open_29 ?_
    refine q_ireturn hF rfl dL_open_30 ?_
    exact hq
  · rcases n with _ | _ | _ | n
    · obtain rfl : E = "java/util/NoSuchElementException" := (Option.some.inj hn).symm
      refine q_catch hF [] (0, 14, 17, 19) [(0, 14, 21, 13), (0, 14, 25, 21)] rfl (fun z hz => by cases hz) (by decide) (by decide) (q_mem 842 (by decide +kernel) rfl) q_cNS (fun q9 => ?_)
      refine q_astore hF (ls' := [(6, .ref q9), (0, .ref b), (1, qI p0), (2, qI p1), (3, qI p2), (4, qI p3), (5, .ref o)]) (by decide) rfl dL_open_17 ?_
      refine q_iconst hF dL_open_19 ?_
      refine q_ireturn hF rfl dL_open_20 ?_
      exact hq
    · obtain rfl : E = "java/lang/IllegalArgumentException" := (Option.some.inj hn).symm
      refine q_catch hF [(0, 14, 17, 19)] (0, 14, 21, 13) [(0, 14, 25, 21)] rfl (List.forall_mem_cons.mpr ⟨⟨by decide, "java/util/NoSuchElementException", (q_mem 842 (by decide +kernel) rfl), by decide⟩, fun z hz => by cases hz⟩) (by decide) (by decide) (q_mem 487 (by decide +kernel) rfl) q_cIA (fun q9 => ?_)
      refine q_astore hF (ls' := [(6, .ref q9), (0, .ref b), (1, qI p0), (2, qI p1), (3, qI p2), (4, qI p3), (5, .ref o)]) (by decide) rfl dL_open_21 ?_
      refine q_iconst hF dL_open_23 ?_
      refine q_ireturn hF rfl dL_open_24 ?_
      exact hq
    · obtain rfl : E = "java/lang/IllegalStateException" := (Option.some.inj hn).symm
      refine q_catch hF [(0, 14, 17, 19), (0, 14, 21, 13)] (0, 14, 25, 21) [] rfl (List.forall_mem_cons.mpr ⟨⟨by decide, "java/util/NoSuchElementException", (q_mem 842 (by decide +kernel) rfl), by decide⟩, List.forall_mem_cons.mpr ⟨⟨by decide, "java/lang/IllegalArgumentException", (q_mem 487 (by decide +kernel) rfl), by decide⟩, fun z hz => by cases hz⟩⟩) (by decide) (by decide) (q_mem 843 (by decide +kernel) rfl) q_cIS (fun q9 => ?_)
      refine q_astore hF (ls' := [(6, .ref q9), (0, .ref b), (1, qI p0), (2, qI p1), (3, qI p2), (4, qI p3), (5, .ref o)]) (by decide) rfl dL_open_25 ?_
      refine q_iconst hF dL_open_27 ?_
      refine q_ireturn hF rfl dL_open_28 ?_
      exact hq
    · cases hn
set_option maxRecDepth 100000 in
theorem mL_contact {G : q_G} {sz : Nat} {T : q_T} {I L : q_I} {P : q_P} {Q : q_Q} {b o hx : Nat} {p0 : Int} (hTb : T b = some (.inl 6)) (hTo : T o = some (.inr (1, 1))) (hAo : q_A G o)
    (hX : ∀ Q1 : q_Q, (∀ r sz' T' I' L' P', q_LQ ["java/util/NoSuchElementException", "java/lang/IllegalStateException"] o false T Q r sz' T' I' L' P' → Q1 r sz' T' I' L' P') → qC G hx 1 6 YX7_contact [.ref b, qI p0] sz T I L P Q1) : qC G (hx + 1) 1 6 YL_contact [.ref b, qI p0, .ref o] sz T I L P Q := by
  refine qC_ofH (by decide +kernel) rfl rfl (Nat.le_of_ble_eq_true rfl) (fun F hF _ _ => ?_)
  refine q_aload_n hF 2 rfl rfl dL_contact_0 ?_
  refine q_iconst hF dL_contact_1 ?_
  refine q_aload_n hF 0 rfl rfl dL_contact_2 ?_
  refine q_iload_n hF 1 rfl rfl dL_contact_3 ?_
  refine q_callV (kc := 0) (ks := 0) (mc' := 1) (ms' := 6) (h' := hx) (st := [qI 0, .ref o]) hF vl_RL_23 rfl [qI p0] rfl rfl hTb (by omega) (Nat.le_of_ble_eq_true rfl) dL_contact_4 ?_
  refine hX _ (q_rtL (fun z sz' I1 L1 P1 hq => ?_) (fun n E sz' I1 L1 P1 hn hq => ?_))
  · rw [if_neg (by decide)] at hq ⊢
    refine q_i2lw hF dL_contact_7 ?_
    refine q_lastorev hF (n := 1) 0 hTo hAo rfl (by decide) (by decide) dL_contact_8 ?_
    refine q_goto hF dL_contact_9 ?_
    refine q_iconst hF dL_contact_18 ?_
    refine q_ireturn hF rfl dL_contact_19 ?_
    exact hq
  · rcases n with _ | _ | n
    · obtain rfl : E = "java/util/NoSuchElementException" := (Option.some.inj hn).symm
      refine q_catch hF [] (0, 9, 12, 19) [(0, 9, 15, 21)] rfl (fun z hz => by cases hz) (by decide) (by decide) (q_mem 842 (by decide +kernel) rfl) q_cNS (fun q9 => ?_)
      refine q_astore_n hF (ls' := [(3, .ref q9), (0, .ref b), (1, qI p0), (2, .ref o)]) rfl (by decide) rfl dL_contact_12 ?_
      refine q_iconst hF dL_contact_13 ?_
      refine q_ireturn hF rfl dL_contact_14 ?_
      exact hq
    · obtain rfl : E = "java/lang/IllegalStateException" := (Option.some.inj hn).symm
      refine q_catch hF [(0, 9, 12, 19)] (0, 9, 15, 21) [] rfl (List.forall_mem_cons.mpr ⟨⟨by decide, "java/util/NoSuchElementException", (q_mem 842 (by decide +kernel) rfl), by decide⟩, fun z hz => by cases hz⟩) (by decide) (by decide) (q_mem 843 (by decide +kernel) rfl) q_cIS (fun q9 => ?_)
      refine q_astore_n hF (ls' := [(3, .ref q9), (0, .ref b), (1, qI p0), (2, .ref o)]) rfl (by decide) rfl dL_contact_15 ?_
      refine q_iconst hF dL_contact_16 ?_
      refine q_ireturn hF rfl dL_contact_17 ?_
      exact hq
    · cases hn
set_option maxRecDepth 100000 in
theorem mL_deposit {G : q_G} {sz : Nat} {T : q_T} {I L : q_I} {P : q_P} {Q : q_Q} {b o hx : Nat} {p0 p1 : Int} (hTb : T b = some (.inl 6)) (hTo : T o = some (.inr (1, 1))) (hAo : q_A G o)
    (hX : ∀ Q1 : q_Q, (∀ r sz' T' I' L' P', q_LQ ["java/util/NoSuchElementException", "java/lang/IllegalArgumentException", "java/lang/IllegalStateException"] o false T Q r sz' T' I' L' P' → Q1 r sz' T' I' L' P') → qC G hx 1 6 YX7_deposit [.ref b, qI p0, qI p1] sz T I L P Q1) : qC G (hx + 1) 1 6 YL_deposit [.ref b, qI p0, qI p1, .ref o] sz T I L P Q := by
  refine qC_ofH (by decide +kernel) rfl rfl (Nat.le_of_ble_eq_true rfl) (fun F hF _ _ => ?_)
  refine q_aload_n hF 3 rfl rfl dL_deposit_0 ?_
  refine q_iconst hF dL_deposit_1 ?_
  refine q_aload_n hF 0 rfl rfl dL_deposit_2 ?_
  refine q_iload_n hF 1 rfl rfl dL_deposit_3 ?_
  refine q_iload_n hF 2 rfl rfl dL_deposit_4 ?_
  refine q_callV (kc := 0) (ks := 0) (mc' := 1) (ms' := 6) (h' := hx) (st := [qI 0, .ref o]) hF vl_RL_26 rfl [qI p0, qI p1] rfl rfl hTb (by omega) (Nat.le_of_ble_eq_true rfl) dL_deposit_5 ?_
  refine hX _ (q_rtL (fun z sz' I1 L1 P1 hq => ?_) (fun n E sz' I1 L1 P1 hn hq => ?_))
  · rw [if_neg (by decide)] at hq ⊢
    refine q_i2lw hF dL_deposit_8 ?_
    refine q_lastorev hF (n := 1) 0 hTo hAo rfl (by decide) (by decide) dL_deposit_9 ?_
    refine q_goto hF dL_deposit_10 ?_
    refine q_iconst hF dL_deposit_25 ?_
    refine q_ireturn hF rfl dL_deposit_26 ?_
    exact hq
  · rcases n with _ | _ | _ | n
    · obtain rfl : E = "java/util/NoSuchElementException" := (Option.some.inj hn).symm
      refine q_catch hF [] (0, 10, 13, 19) [(0, 10, 17, 13), (0, 10, 21, 21)] rfl (fun z hz => by cases hz) (by decide) (by decide) (q_mem 842 (by decide +kernel) rfl) q_cNS (fun q9 => ?_)
      refine q_astore hF (ls' := [(4, .ref q9), (0, .ref b), (1, qI p0), (2, qI p1), (3, .ref o)]) (by decide) rfl dL_deposit_13 ?_
      refine q_iconst hF dL_deposit_15 ?_
      refine q_ireturn hF rfl dL_deposit_16 ?_
      exact hq
    · obtain rfl : E = "java/lang/IllegalArgumentException" := (Option.some.inj hn).symm
      refine q_catch hF [(0, 10, 13, 19)] (0, 10, 17, 13) [(0, 10, 21, 21)] rfl (List.forall_mem_cons.mpr ⟨⟨by decide, "java/util/NoSuchElementException", (q_mem 842 (by decide +kernel) rfl), by decide⟩, fun z hz => by cases hz⟩) (by decide) (by decide) (q_mem 487 (by decide +kernel) rfl) q_cIA (fun q9 => ?_)
      refine q_astore hF (ls' := [(4, .ref q9), (0, .ref b), (1, qI p0), (2, qI p1), (3, .ref o)]) (by decide) rfl dL_deposit_17 ?_
      refine q_iconst hF dL_deposit_19 ?_
      refine q_ireturn hF rfl dL_deposit_20 ?_
      exact hq
    · obtain rfl : E = "java/lang/IllegalStateException" := (Option.some.inj hn).symm
      refine q_catch hF [(0, 10, 13, 19), (0, 10, 17, 13)] (0, 10, 21, 21) [] rfl (List.forall_mem_cons.mpr ⟨⟨by decide, "java/util/NoSuchElementException", (q_mem 842 (by decide +kernel) rfl), by decide⟩, List.forall_mem_cons.mpr ⟨⟨by decide, "java/lang/IllegalArgumentException", (q_mem 487 (by decide +kernel) rfl), by decide⟩, fun z hz => by cases hz⟩⟩) (by decide) (by decide) (q_mem 843 (by decide +kernel) rfl) q_cIS (fun q9 => ?_)
      refine q_astore hF (ls' := [(4, .ref q9), (0, .ref b), (1, qI p0), (2, qI p1), (3, .ref o)]) (by decide) rfl dL_deposit_21 ?_
      refine q_iconst hF dL_deposit_23 ?_
      refine q_ireturn hF rfl dL_deposit_24 ?_
      exact hq
    · cases hn
set_option maxRecDepth 100000 in
theorem mL_draw {G : q_G} {sz : Nat} {T : q_T} {I L : q_I} {P : q_P} {Q : q_Q} {b o hx : Nat} {p0 p1 : Int} (hTb : T b = some (.inl 6)) (hTo : T o = some (.inr (1, 1))) (hAo : q_A G o)
    (hX : ∀ Q1 : q_Q, (∀ r sz' T' I' L' P', q_LQ ["java/util/NoSuchElementException", "java/lang/IllegalArgumentException", "java/lang/IllegalStateException"] o false T Q r sz' T' I' L' P' → Q1 r sz' T' I' L' P') → qC G hx 1 6 YX7_draw [.ref b, qI p0, qI p1] sz T I L P Q1) : qC G (hx + 1) 1 6 YL_draw [.ref b, qI p0, qI p1, .ref o] sz T I L P Q := by
  refine qC_ofH (by decide +kernel) rfl rfl (Nat.le_of_ble_eq_true rfl) (fun F hF _ _ => ?_)
  refine q_aload_n hF 3 rfl rfl dL_draw_0 ?_
  refine q_iconst hF dL_draw_1 ?_
  refine q_aload_n hF 0 rfl rfl dL_draw_2 ?_
  refine q_iload_n hF 1 rfl rfl dL_draw_3 ?_
  refine q_iload_n hF 2 rfl rfl dL_draw_4 ?_
  refine q_callV (kc := 0) (ks := 0) (mc' := 1) (ms' := 6) (h' := hx) (st := [qI 0, .ref o]) hF vl_RL_30 rfl [qI p0, qI p1] rfl rfl hTb (by omega) (Nat.le_of_ble_eq_true rfl) dL_draw_5 ?_
  refine hX _ (q_rtL (fun z sz' I1 L1 P1 hq => ?_) (fun n E sz' I1 L1 P1 hn hq => ?_))
  · rw [if_neg (by decide)] at hq ⊢
    refine q_i2lw hF dL_draw_8 ?_
    refine q_lastorev hF (n := 1) 0 hTo hAo rfl (by decide) (by decide) dL_draw_9 ?_
    refine q_goto hF dL_draw_10 ?_
    refine q_iconst hF dL_draw_25 ?_
    refine q_ireturn hF rfl dL_draw_26 ?_
    exact hq
  · rcases n with _ | _ | _ | n
    · obtain rfl : E = "java/util/NoSuchElementException" := (Option.some.inj hn).symm
      refine q_catch hF [] (0, 10, 13, 19) [(0, 10, 17, 13), (0, 10, 21, 21)] rfl (fun z hz => by cases hz) (by decide) (by decide) (q_mem 842 (by decide +kernel) rfl) q_cNS (fun q9 => ?_)
      refine q_astore hF (ls' := [(4, .ref q9), (0, .ref b), (1, qI p0), (2, qI p1), (3, .ref o)]) (by decide) rfl dL_draw_13 ?_
      refine q_iconst hF dL_draw_15 ?_
      refine q_ireturn hF rfl dL_draw_16 ?_
      exact hq
    · obtain rfl : E = "java/lang/IllegalArgumentException" := (Option.some.inj hn).symm
      refine q_catch hF [(0, 10, 13, 19)] (0, 10, 17, 13) [(0, 10, 21, 21)] rfl (List.forall_mem_cons.mpr ⟨⟨by decide, "java/util/NoSuchElementException", (q_mem 842 (by decide +kernel) rfl), by decide⟩, fun z hz => by cases hz⟩) (by decide) (by decide) (q_mem 487 (by decide +kernel) rfl) q_cIA (fun q9 => ?_)
      refine q_astore hF (ls' := [(4, .ref q9), (0, .ref b), (1, qI p0), (2, qI p1), (3, .ref o)]) (by decide) rfl dL_draw_17 ?_
      refine q_iconst hF dL_draw_19 ?_
      refine q_ireturn hF rfl dL_draw_20 ?_
      exact hq
    · obtain rfl : E = "java/lang/IllegalStateException" := (Option.some.inj hn).symm
      refine q_catch hF [(0, 10, 13, 19), (0, 10, 17, 13)] (0, 10, 21, 21) [] rfl (List.forall_mem_cons.mpr ⟨⟨by decide, "java/util/NoSuchElementException", (q_mem 842 (by decide +kernel) rfl), by decide⟩, List.forall_mem_cons.mpr ⟨⟨by decide, "java/lang/IllegalArgumentException", (q_mem 487 (by decide +kernel) rfl), by decide⟩, fun z hz => by cases hz⟩⟩) (by decide) (by decide) (q_mem 843 (by decide +kernel) rfl) q_cIS (fun q9 => ?_)
      refine q_astore hF (ls' := [(4, .ref q9), (0, .ref b), (1, qI p0), (2, qI p1), (3, .ref o)]) (by decide) rfl dL_draw_21 ?_
      refine q_iconst hF dL_draw_23 ?_
      refine q_ireturn hF rfl dL_draw_24 ?_
      exact hq
    · cases hn
set_option maxRecDepth 100000 in
theorem mL_address {G : q_G} {sz : Nat} {T : q_T} {I L : q_I} {P : q_P} {Q : q_Q} {b o hx : Nat} {p0 p1 : Int} (hTb : T b = some (.inl 6)) (hTo : T o = some (.inr (1, 1))) (hAo : q_A G o)
    (hX : ∀ Q1 : q_Q, (∀ r sz' T' I' L' P', q_LQ ["java/util/NoSuchElementException"] o false T Q r sz' T' I' L' P' → Q1 r sz' T' I' L' P') → qC G hx 1 6 YX7_address [.ref b, qI p0, qI p1] sz T I L P Q1) : qC G (hx + 1) 1 6 YL_address [.ref b, qI p0, qI p1, .ref o] sz T I L P Q := by
  refine qC_ofH (by decide +kernel) rfl rfl (Nat.le_of_ble_eq_true rfl) (fun F hF _ _ => ?_)
  refine q_aload_n hF 3 rfl rfl dL_address_0 ?_
  refine q_iconst hF dL_address_1 ?_
  refine q_aload_n hF 0 rfl rfl dL_address_2 ?_
  refine q_iload_n hF 1 rfl rfl dL_address_3 ?_
  refine q_iload_n hF 2 rfl rfl dL_address_4 ?_
  refine q_callV (kc := 0) (ks := 0) (mc' := 1) (ms' := 6) (h' := hx) (st := [qI 0, .ref o]) hF vl_RL_33 rfl [qI p0, qI p1] rfl rfl hTb (by omega) (Nat.le_of_ble_eq_true rfl) dL_address_5 ?_
  refine hX _ (q_rtL (fun z sz' I1 L1 P1 hq => ?_) (fun n E sz' I1 L1 P1 hn hq => ?_))
  · rw [if_neg (by decide)] at hq ⊢
    refine q_i2lw hF dL_address_8 ?_
    refine q_lastorev hF (n := 1) 0 hTo hAo rfl (by decide) (by decide) dL_address_9 ?_
    refine q_goto hF dL_address_10 ?_
    refine q_iconst hF dL_address_17 ?_
    refine q_ireturn hF rfl dL_address_18 ?_
    exact hq
  · rcases n with _ | n
    · obtain rfl : E = "java/util/NoSuchElementException" := (Option.some.inj hn).symm
      refine q_catch hF [] (0, 10, 13, 19) [] rfl (fun z hz => by cases hz) (by decide) (by decide) (q_mem 842 (by decide +kernel) rfl) q_cNS (fun q9 => ?_)
      refine q_astore hF (ls' := [(4, .ref q9), (0, .ref b), (1, qI p0), (2, qI p1), (3, .ref o)]) (by decide) rfl dL_address_13 ?_
      refine q_iconst hF dL_address_15 ?_
      refine q_ireturn hF rfl dL_address_16 ?_
      exact hq
    · cases hn
set_option maxRecDepth 100000 in
theorem mL_close {G : q_G} {sz : Nat} {T : q_T} {I L : q_I} {P : q_P} {Q : q_Q} {b o hx : Nat} {p0 : Int} (hTb : T b = some (.inl 6)) (hTo : T o = some (.inr (1, 1))) (hAo : q_A G o)
    (hX : ∀ Q1 : q_Q, (∀ r sz' T' I' L' P', q_LQ ["java/util/NoSuchElementException", "java/lang/IllegalStateException"] o false T Q r sz' T' I' L' P' → Q1 r sz' T' I' L' P') → qC G hx 1 6 YX7_close [.ref b, qI p0] sz T I L P Q1) : qC G (hx + 1) 1 6 YL_close [.ref b, qI p0, .ref o] sz T I L P Q := by
  refine qC_ofH (by decide +kernel) rfl rfl (Nat.le_of_ble_eq_true rfl) (fun F hF _ _ => ?_)
  refine q_aload_n hF 2 rfl rfl dL_close_0 ?_
  refine q_iconst hF dL_close_1 ?_
  refine q_aload_n hF 0 rfl rfl dL_close_2 ?_
  refine q_iload_n hF 1 rfl rfl dL_close_3 ?_
  refine q_callV (kc := 0) (ks := 0) (mc' := 1) (ms' := 6) (h' := hx) (st := [qI 0, .ref o]) hF vl_RL_36 rfl [qI p0] rfl rfl hTb (by omega) (Nat.le_of_ble_eq_true rfl) dL_close_4 ?_
  refine hX _ (q_rtL (fun z sz' I1 L1 P1 hq => ?_) (fun n E sz' I1 L1 P1 hn hq => ?_))
  · rw [if_neg (by decide)] at hq ⊢
    refine q_i2lw hF dL_close_7 ?_
    refine q_lastorev hF (n := 1) 0 hTo hAo rfl (by decide) (by decide) dL_close_8 ?_
    refine q_goto hF dL_close_9 ?_
    refine q_iconst hF dL_close_18 ?_
    refine q_ireturn hF rfl dL_close_19 ?_
    exact hq
  · rcases n with _ | _ | n
    · obtain rfl : E = "java/util/NoSuchElementException" := (Option.some.inj hn).symm
      refine q_catch hF [] (0, 9, 12, 19) [(0, 9, 15, 21)] rfl (fun z hz => by cases hz) (by decide) (by decide) (q_mem 842 (by decide +kernel) rfl) q_cNS (fun q9 => ?_)
      refine q_astore_n hF (ls' := [(3, .ref q9), (0, .ref b), (1, qI p0), (2, .ref o)]) rfl (by decide) rfl dL_close_12 ?_
      refine q_iconst hF dL_close_13 ?_
      refine q_ireturn hF rfl dL_close_14 ?_
      exact hq
    · obtain rfl : E = "java/lang/IllegalStateException" := (Option.some.inj hn).symm
      refine q_catch hF [(0, 9, 12, 19)] (0, 9, 15, 21) [] rfl (List.forall_mem_cons.mpr ⟨⟨by decide, "java/util/NoSuchElementException", (q_mem 842 (by decide +kernel) rfl), by decide⟩, fun z hz => by cases hz⟩) (by decide) (by decide) (q_mem 843 (by decide +kernel) rfl) q_cIS (fun q9 => ?_)
      refine q_astore_n hF (ls' := [(3, .ref q9), (0, .ref b), (1, qI p0), (2, .ref o)]) rfl (by decide) rfl dL_close_15 ?_
      refine q_iconst hF dL_close_16 ?_
      refine q_ireturn hF rfl dL_close_17 ?_
      exact hq
    · cases hn
set_option maxRecDepth 100000 in
theorem mL_months {G : q_G} {sz : Nat} {T : q_T} {I L : q_I} {P : q_P} {Q : q_Q} {b o hx : Nat} {p0 : Int} (hTb : T b = some (.inl 6)) (hTo : T o = some (.inr (1, 1))) (hAo : q_A G o)
    (hX : ∀ Q1 : q_Q, (∀ r sz' T' I' L' P', q_LQ ["java/lang/IllegalArgumentException", "java/lang/IllegalStateException"] o false T Q r sz' T' I' L' P' → Q1 r sz' T' I' L' P') → qC G hx 1 6 YX7_months [.ref b, qI p0] sz T I L P Q1) : qC G (hx + 1) 1 6 YL_months [.ref b, qI p0, .ref o] sz T I L P Q := by
  refine qC_ofH (by decide +kernel) rfl rfl (Nat.le_of_ble_eq_true rfl) (fun F hF _ _ => ?_)
  refine q_aload_n hF 2 rfl rfl dL_months_0 ?_
  refine q_iconst hF dL_months_1 ?_
  refine q_aload_n hF 0 rfl rfl dL_months_2 ?_
  refine q_iload_n hF 1 rfl rfl dL_months_3 ?_
  refine q_callV (kc := 0) (ks := 0) (mc' := 1) (ms' := 6) (h' := hx) (st := [qI 0, .ref o]) hF vl_RL_39 rfl [qI p0] rfl rfl hTb (by omega) (Nat.le_of_ble_eq_true rfl) dL_months_4 ?_
  refine hX _ (q_rtL (fun z sz' I1 L1 P1 hq => ?_) (fun n E sz' I1 L1 P1 hn hq => ?_))
  · rw [if_neg (by decide)] at hq ⊢
    refine q_i2lw hF dL_months_7 ?_
    refine q_lastorev hF (n := 1) 0 hTo hAo rfl (by decide) (by decide) dL_months_8 ?_
    refine q_goto hF dL_months_9 ?_
    refine q_iconst hF dL_months_18 ?_
    refine q_ireturn hF rfl dL_months_19 ?_
    exact hq
  · rcases n with _ | _ | n
    · obtain rfl : E = "java/lang/IllegalArgumentException" := (Option.some.inj hn).symm
      refine q_catch hF [] (0, 9, 12, 13) [(0, 9, 15, 21)] rfl (fun z hz => by cases hz) (by decide) (by decide) (q_mem 487 (by decide +kernel) rfl) q_cIA (fun q9 => ?_)
      refine q_astore_n hF (ls' := [(3, .ref q9), (0, .ref b), (1, qI p0), (2, .ref o)]) rfl (by decide) rfl dL_months_12 ?_
      refine q_iconst hF dL_months_13 ?_
      refine q_ireturn hF rfl dL_months_14 ?_
      exact hq
    · obtain rfl : E = "java/lang/IllegalStateException" := (Option.some.inj hn).symm
      refine q_catch hF [(0, 9, 12, 13)] (0, 9, 15, 21) [] rfl (List.forall_mem_cons.mpr ⟨⟨by decide, "java/lang/IllegalArgumentException", (q_mem 487 (by decide +kernel) rfl), by decide⟩, fun z hz => by cases hz⟩) (by decide) (by decide) (q_mem 843 (by decide +kernel) rfl) q_cIS (fun q9 => ?_)
      refine q_astore_n hF (ls' := [(3, .ref q9), (0, .ref b), (1, qI p0), (2, .ref o)]) rfl (by decide) rfl dL_months_15 ?_
      refine q_iconst hF dL_months_16 ?_
      refine q_ireturn hF rfl dL_months_17 ?_
      exact hq
    · cases hn
set_option maxRecDepth 100000 in
theorem mL_claim {G : q_G} {sz : Nat} {T : q_T} {I L : q_I} {P : q_P} {Q : q_Q} {b o hx : Nat} {p0 : Int} (hTb : T b = some (.inl 6)) (hTo : T o = some (.inr (1, 1))) (hAo : q_A G o)
    (hX : ∀ Q1 : q_Q, (∀ r sz' T' I' L' P', q_LQ ["java/util/NoSuchElementException", "java/lang/IllegalStateException"] o true T Q r sz' T' I' L' P' → Q1 r sz' T' I' L' P') → qC G hx 1 6 YX7_claim [.ref b, qI p0] sz T I L P Q1) : qC G (hx + 1) 1 6 YL_claim [.ref b, qI p0, .ref o] sz T I L P Q := by
  refine qC_ofH (by decide +kernel) rfl rfl (Nat.le_of_ble_eq_true rfl) (fun F hF _ _ => ?_)
  refine q_aload_n hF 2 rfl rfl dL_claim_0 ?_
  refine q_iconst hF dL_claim_1 ?_
  refine q_aload_n hF 0 rfl rfl dL_claim_2 ?_
  refine q_iload_n hF 1 rfl rfl dL_claim_3 ?_
  refine q_callV (kc := 0) (ks := 0) (mc' := 1) (ms' := 6) (h' := hx) (st := [qI 0, .ref o]) hF vl_RL_42 rfl [qI p0] rfl rfl hTb (by omega) (Nat.le_of_ble_eq_true rfl) dL_claim_4 ?_
  refine hX _ (q_rtL (fun z sz' I1 L1 P1 hq => ?_) (fun n E sz' I1 L1 P1 hn hq => ?_))
  · rw [if_pos rfl] at hq ⊢
    refine q_lastorev hF (n := 1) 0 hTo hAo rfl (by decide) (by decide) dL_claim_7 ?_
    refine q_goto hF dL_claim_8 ?_
    refine q_iconst hF dL_claim_17 ?_
    refine q_ireturn hF rfl dL_claim_18 ?_
    exact hq
  · rcases n with _ | _ | n
    · obtain rfl : E = "java/util/NoSuchElementException" := (Option.some.inj hn).symm
      refine q_catch hF [] (0, 8, 11, 19) [(0, 8, 14, 21)] rfl (fun z hz => by cases hz) (by decide) (by decide) (q_mem 842 (by decide +kernel) rfl) q_cNS (fun q9 => ?_)
      refine q_astore_n hF (ls' := [(3, .ref q9), (0, .ref b), (1, qI p0), (2, .ref o)]) rfl (by decide) rfl dL_claim_11 ?_
      refine q_iconst hF dL_claim_12 ?_
      refine q_ireturn hF rfl dL_claim_13 ?_
      exact hq
    · obtain rfl : E = "java/lang/IllegalStateException" := (Option.some.inj hn).symm
      refine q_catch hF [(0, 8, 11, 19)] (0, 8, 14, 21) [] rfl (List.forall_mem_cons.mpr ⟨⟨by decide, "java/util/NoSuchElementException", (q_mem 842 (by decide +kernel) rfl), by decide⟩, fun z hz => by cases hz⟩) (by decide) (by decide) (q_mem 843 (by decide +kernel) rfl) q_cIS (fun q9 => ?_)
      refine q_astore_n hF (ls' := [(3, .ref q9), (0, .ref b), (1, qI p0), (2, .ref o)]) rfl (by decide) rfl dL_claim_14 ?_
      refine q_iconst hF dL_claim_15 ?_
      refine q_ireturn hF rfl dL_claim_16 ?_
      exact hq
    · cases hn
set_option maxRecDepth 100000 in
theorem mL_pass {G : q_G} {sz : Nat} {T : q_T} {I L : q_I} {P : q_P} {Q : q_Q} {b o hx : Nat} {p0 : Int} (hTb : T b = some (.inl 6)) (hTo : T o = some (.inr (1, 1))) (hAo : q_A G o)
    (hX : ∀ Q1 : q_Q, (∀ r sz' T' I' L' P', q_LQ ["java/util/NoSuchElementException", "java/lang/IllegalStateException"] o false T Q r sz' T' I' L' P' → Q1 r sz' T' I' L' P') → qC G hx 1 6 YX7_pass [.ref b, qI p0] sz T I L P Q1) : qC G (hx + 1) 1 6 YL_pass [.ref b, qI p0, .ref o] sz T I L P Q := by
  refine qC_ofH (by decide +kernel) rfl rfl (Nat.le_of_ble_eq_true rfl) (fun F hF _ _ => ?_)
  refine q_aload_n hF 2 rfl rfl dL_pass_0 ?_
  refine q_iconst hF dL_pass_1 ?_
  refine q_aload_n hF 0 rfl rfl dL_pass_2 ?_
  refine q_iload_n hF 1 rfl rfl dL_pass_3 ?_
  refine q_callV (kc := 0) (ks := 0) (mc' := 1) (ms' := 6) (h' := hx) (st := [qI 0, .ref o]) hF vl_RL_46 rfl [qI p0] rfl rfl hTb (by omega) (Nat.le_of_ble_eq_true rfl) dL_pass_4 ?_
  refine hX _ (q_rtL (fun z sz' I1 L1 P1 hq => ?_) (fun n E sz' I1 L1 P1 hn hq => ?_))
  · rw [if_neg (by decide)] at hq ⊢
    refine q_i2lw hF dL_pass_7 ?_
    refine q_lastorev hF (n := 1) 0 hTo hAo rfl (by decide) (by decide) dL_pass_8 ?_
    refine q_goto hF dL_pass_9 ?_
    refine q_iconst hF dL_pass_18 ?_
    refine q_ireturn hF rfl dL_pass_19 ?_
    exact hq
  · rcases n with _ | _ | n
    · obtain rfl : E = "java/util/NoSuchElementException" := (Option.some.inj hn).symm
      refine q_catch hF [] (0, 9, 12, 19) [(0, 9, 15, 21)] rfl (fun z hz => by cases hz) (by decide) (by decide) (q_mem 842 (by decide +kernel) rfl) q_cNS (fun q9 => ?_)
      refine q_astore_n hF (ls' := [(3, .ref q9), (0, .ref b), (1, qI p0), (2, .ref o)]) rfl (by decide) rfl dL_pass_12 ?_
      refine q_iconst hF dL_pass_13 ?_
      refine q_ireturn hF rfl dL_pass_14 ?_
      exact hq
    · obtain rfl : E = "java/lang/IllegalStateException" := (Option.some.inj hn).symm
      refine q_catch hF [(0, 9, 12, 19)] (0, 9, 15, 21) [] rfl (List.forall_mem_cons.mpr ⟨⟨by decide, "java/util/NoSuchElementException", (q_mem 842 (by decide +kernel) rfl), by decide⟩, fun z hz => by cases hz⟩) (by decide) (by decide) (q_mem 843 (by decide +kernel) rfl) q_cIS (fun q9 => ?_)
      refine q_astore_n hF (ls' := [(3, .ref q9), (0, .ref b), (1, qI p0), (2, .ref o)]) rfl (by decide) rfl dL_pass_15 ?_
      refine q_iconst hF dL_pass_16 ?_
      refine q_ireturn hF rfl dL_pass_17 ?_
      exact hq
    · cases hn
set_option maxRecDepth 100000 in
theorem mL_told {G : q_G} {sz : Nat} {T : q_T} {I L : q_I} {P : q_P} {Q : q_Q} {b o hx : Nat} {p0 : Int} (hTb : T b = some (.inl 6)) (hTo : T o = some (.inr (1, 1))) (hAo : q_A G o)
    (hX : ∀ Q1 : q_Q, (∀ r sz' T' I' L' P', q_LQ ["java/lang/IllegalArgumentException"] o false T Q r sz' T' I' L' P' → Q1 r sz' T' I' L' P') → qC G hx 1 6 YX7_told [.ref b, qI p0] sz T I L P Q1) : qC G (hx + 1) 1 6 YL_told [.ref b, qI p0, .ref o] sz T I L P Q := by
  refine qC_ofH (by decide +kernel) rfl rfl (Nat.le_of_ble_eq_true rfl) (fun F hF _ _ => ?_)
  refine q_aload_n hF 2 rfl rfl dL_told_0 ?_
  refine q_iconst hF dL_told_1 ?_
  refine q_aload_n hF 0 rfl rfl dL_told_2 ?_
  refine q_iload_n hF 1 rfl rfl dL_told_3 ?_
  refine q_callV (kc := 0) (ks := 0) (mc' := 1) (ms' := 6) (h' := hx) (st := [qI 0, .ref o]) hF vl_RL_49 rfl [qI p0] rfl rfl hTb (by omega) (Nat.le_of_ble_eq_true rfl) dL_told_4 ?_
  refine hX _ (q_rtL (fun z sz' I1 L1 P1 hq => ?_) (fun n E sz' I1 L1 P1 hn hq => ?_))
  · rw [if_neg (by decide)] at hq ⊢
    refine q_i2lw hF dL_told_7 ?_
    refine q_lastorev hF (n := 1) 0 hTo hAo rfl (by decide) (by decide) dL_told_8 ?_
    refine q_goto hF dL_told_9 ?_
    refine q_iconst hF dL_told_15 ?_
    refine q_ireturn hF rfl dL_told_16 ?_
    exact hq
  · rcases n with _ | n
    · obtain rfl : E = "java/lang/IllegalArgumentException" := (Option.some.inj hn).symm
      refine q_catch hF [] (0, 9, 12, 13) [] rfl (fun z hz => by cases hz) (by decide) (by decide) (q_mem 487 (by decide +kernel) rfl) q_cIA (fun q9 => ?_)
      refine q_astore_n hF (ls' := [(3, .ref q9), (0, .ref b), (1, qI p0), (2, .ref o)]) rfl (by decide) rfl dL_told_12 ?_
      refine q_iconst hF dL_told_13 ?_
      refine q_ireturn hF rfl dL_told_14 ?_
      exact hq
    · cases hn
set_option maxRecDepth 100000 in
theorem mL_land {G : q_G} {sz : Nat} {T : q_T} {I L : q_I} {P : q_P} {Q : q_Q} {b o hx : Nat} {p0 p1 : Int} (hTb : T b = some (.inl 6)) (hTo : T o = some (.inr (1, 1))) (hAo : q_A G o)
    (hX : ∀ Q1 : q_Q, (∀ r sz' T' I' L' P', q_LQ ["java/util/NoSuchElementException", "java/lang/IllegalArgumentException"] o false T Q r sz' T' I' L' P' → Q1 r sz' T' I' L' P') → qC G hx 1 6 YX7_land [.ref b, qI p0, qI p1] sz T I L P Q1) : qC G (hx + 1) 1 6 YL_land [.ref b, qI p0, qI p1, .ref o] sz T I L P Q := by
  refine qC_ofH (by decide +kernel) rfl rfl (Nat.le_of_ble_eq_true rfl) (fun F hF _ _ => ?_)
  refine q_aload_n hF 3 rfl rfl dL_land_0 ?_
  refine q_iconst hF dL_land_1 ?_
  refine q_aload_n hF 0 rfl rfl dL_land_2 ?_
  refine q_iload_n hF 1 rfl rfl dL_land_3 ?_
  refine q_iload_n hF 2 rfl rfl dL_land_4 ?_
  refine q_callV (kc := 0) (ks := 0) (mc' := 1) (ms' := 6) (h' := hx) (st := [qI 0, .ref o]) hF vl_RL_52 rfl [qI p0, qI p1] rfl rfl hTb (by omega) (Nat.le_of_ble_eq_true rfl) dL_land_5 ?_
  refine hX _ (q_rtL (fun z sz' I1 L1 P1 hq => ?_) (fun n E sz' I1 L1 P1 hn hq => ?_))
  · rw [if_neg (by decide)] at hq ⊢
    refine q_i2lw hF dL_land_8 ?_
    refine q_lastorev hF (n := 1) 0 hTo hAo rfl (by decide) (by decide) dL_land_9 ?_
    refine q_goto hF dL_land_10 ?_
    refine q_iconst hF dL_land_21 ?_
    refine q_ireturn hF rfl dL_land_22 ?_
    exact hq
  · rcases n with _ | _ | n
    · obtain rfl : E = "java/util/NoSuchElementException" := (Option.some.inj hn).symm
      refine q_catch hF [] (0, 10, 13, 19) [(0, 10, 17, 13)] rfl (fun z hz => by cases hz) (by decide) (by decide) (q_mem 842 (by decide +kernel) rfl) q_cNS (fun q9 => ?_)
      refine q_astore hF (ls' := [(4, .ref q9), (0, .ref b), (1, qI p0), (2, qI p1), (3, .ref o)]) (by decide) rfl dL_land_13 ?_
      refine q_iconst hF dL_land_15 ?_
      refine q_ireturn hF rfl dL_land_16 ?_
      exact hq
    · obtain rfl : E = "java/lang/IllegalArgumentException" := (Option.some.inj hn).symm
      refine q_catch hF [(0, 10, 13, 19)] (0, 10, 17, 13) [] rfl (List.forall_mem_cons.mpr ⟨⟨by decide, "java/util/NoSuchElementException", (q_mem 842 (by decide +kernel) rfl), by decide⟩, fun z hz => by cases hz⟩) (by decide) (by decide) (q_mem 487 (by decide +kernel) rfl) q_cIA (fun q9 => ?_)
      refine q_astore hF (ls' := [(4, .ref q9), (0, .ref b), (1, qI p0), (2, qI p1), (3, .ref o)]) (by decide) rfl dL_land_17 ?_
      refine q_iconst hF dL_land_19 ?_
      refine q_ireturn hF rfl dL_land_20 ?_
      exact hq
    · cases hn
set_option maxRecDepth 100000 in
theorem mL_purse {G : q_G} {sz : Nat} {T : q_T} {I L : q_I} {P : q_P} {Q : q_Q} {b o hx : Nat} {p0 p1 : Int} (hTb : T b = some (.inl 6)) (hTo : T o = some (.inr (1, 1))) (hAo : q_A G o)
    (hX : ∀ Q1 : q_Q, (∀ r sz' T' I' L' P', q_LQ ["java/util/NoSuchElementException", "java/lang/IllegalArgumentException"] o true T Q r sz' T' I' L' P' → Q1 r sz' T' I' L' P') → qC G hx 1 6 YX7_purse [.ref b, qI p0, qI p1] sz T I L P Q1) : qC G (hx + 1) 1 6 YL_purse [.ref b, qI p0, qI p1, .ref o] sz T I L P Q := by
  refine qC_ofH (by decide +kernel) rfl rfl (Nat.le_of_ble_eq_true rfl) (fun F hF _ _ => ?_)
  refine q_aload_n hF 3 rfl rfl dL_purse_0 ?_
  refine q_iconst hF dL_purse_1 ?_
  refine q_aload_n hF 0 rfl rfl dL_purse_2 ?_
  refine q_iload_n hF 1 rfl rfl dL_purse_3 ?_
  refine q_iload_n hF 2 rfl rfl dL_purse_4 ?_
  refine q_callV (kc := 0) (ks := 0) (mc' := 1) (ms' := 6) (h' := hx) (st := [qI 0, .ref o]) hF vl_RL_55 rfl [qI p0, qI p1] rfl rfl hTb (by omega) (Nat.le_of_ble_eq_true rfl) dL_purse_5 ?_
  refine hX _ (q_rtL (fun z sz' I1 L1 P1 hq => ?_) (fun n E sz' I1 L1 P1 hn hq => ?_))
  · rw [if_pos rfl] at hq ⊢
    refine q_lastorev hF (n := 1) 0 hTo hAo rfl (by decide) (by decide) dL_purse_8 ?_
    refine q_goto hF dL_purse_9 ?_
    refine q_iconst hF dL_purse_20 ?_
    refine q_ireturn hF rfl dL_purse_21 ?_
    exact hq
  · rcases n with _ | _ | n
    · obtain rfl : E = "java/util/NoSuchElementException" := (Option.some.inj hn).symm
      refine q_catch hF [] (0, 9, 12, 19) [(0, 9, 16, 13)] rfl (fun z hz => by cases hz) (by decide) (by decide) (q_mem 842 (by decide +kernel) rfl) q_cNS (fun q9 => ?_)
      refine q_astore hF (ls' := [(4, .ref q9), (0, .ref b), (1, qI p0), (2, qI p1), (3, .ref o)]) (by decide) rfl dL_purse_12 ?_
      refine q_iconst hF dL_purse_14 ?_
      refine q_ireturn hF rfl dL_purse_15 ?_
      exact hq
    · obtain rfl : E = "java/lang/IllegalArgumentException" := (Option.some.inj hn).symm
      refine q_catch hF [(0, 9, 12, 19)] (0, 9, 16, 13) [] rfl (List.forall_mem_cons.mpr ⟨⟨by decide, "java/util/NoSuchElementException", (q_mem 842 (by decide +kernel) rfl), by decide⟩, fun z hz => by cases hz⟩) (by decide) (by decide) (q_mem 487 (by decide +kernel) rfl) q_cIA (fun q9 => ?_)
      refine q_astore hF (ls' := [(4, .ref q9), (0, .ref b), (1, qI p0), (2, qI p1), (3, .ref o)]) (by decide) rfl dL_purse_16 ?_
      refine q_iconst hF dL_purse_18 ?_
      refine q_ireturn hF rfl dL_purse_19 ?_
      exact hq
    · cases hn
set_option maxRecDepth 100000 in
theorem mL_letter {G : q_G} {sz : Nat} {T : q_T} {I L : q_I} {P : q_P} {Q : q_Q} {b o hx : Nat} {p0 p1 : Int} (hTb : T b = some (.inl 6)) (hTo : T o = some (.inr (1, 1))) (hAo : q_A G o)
    (hX : ∀ Q1 : q_Q, (∀ r sz' T' I' L' P', q_LQ ["java/util/NoSuchElementException"] o false T Q r sz' T' I' L' P' → Q1 r sz' T' I' L' P') → qC G hx 1 6 YX7_letter [.ref b, qI p0, qI p1] sz T I L P Q1) : qC G (hx + 1) 1 6 YL_letter [.ref b, qI p0, qI p1, .ref o] sz T I L P Q := by
  refine qC_ofH (by decide +kernel) rfl rfl (Nat.le_of_ble_eq_true rfl) (fun F hF _ _ => ?_)
  refine q_aload_n hF 3 rfl rfl dL_letter_0 ?_
  refine q_iconst hF dL_letter_1 ?_
  refine q_aload_n hF 0 rfl rfl dL_letter_2 ?_
  refine q_iload_n hF 1 rfl rfl dL_letter_3 ?_
  refine q_iload_n hF 2 rfl rfl dL_letter_4 ?_
  refine q_callV (kc := 0) (ks := 0) (mc' := 1) (ms' := 6) (h' := hx) (st := [qI 0, .ref o]) hF vl_RL_59 rfl [qI p0, qI p1] rfl rfl hTb (by omega) (Nat.le_of_ble_eq_true rfl) dL_letter_5 ?_
  refine hX _ (q_rtL (fun z sz' I1 L1 P1 hq => ?_) (fun n E sz' I1 L1 P1 hn hq => ?_))
  · rw [if_neg (by decide)] at hq ⊢
    refine q_i2lw hF dL_letter_8 ?_
    refine q_lastorev hF (n := 1) 0 hTo hAo rfl (by decide) (by decide) dL_letter_9 ?_
    refine q_goto hF dL_letter_10 ?_
    refine q_iconst hF dL_letter_17 ?_
    refine q_ireturn hF rfl dL_letter_18 ?_
    exact hq
  · rcases n with _ | n
    · obtain rfl : E = "java/util/NoSuchElementException" := (Option.some.inj hn).symm
      refine q_catch hF [] (0, 10, 13, 19) [] rfl (fun z hz => by cases hz) (by decide) (by decide) (q_mem 842 (by decide +kernel) rfl) q_cNS (fun q9 => ?_)
      refine q_astore hF (ls' := [(4, .ref q9), (0, .ref b), (1, qI p0), (2, qI p1), (3, .ref o)]) (by decide) rfl dL_letter_13 ?_
      refine q_iconst hF dL_letter_15 ?_
      refine q_ireturn hF rfl dL_letter_16 ?_
      exact hq
    · cases hn
set_option maxRecDepth 100000 in
theorem mL_pays {G : q_G} {sz : Nat} {T : q_T} {I L : q_I} {P : q_P} {Q : q_Q} {b o hx : Nat} {p0 : Int} (hTb : T b = some (.inl 6)) (hTo : T o = some (.inr (1, 1))) (hAo : q_A G o)
    (hX : ∀ Q1 : q_Q, (∀ r sz' T' I' L' P', q_LQ ["java/lang/IllegalArgumentException"] o false T Q r sz' T' I' L' P' → Q1 r sz' T' I' L' P') → qC G hx 1 6 YX7_pays [.ref b, qI p0] sz T I L P Q1) : qC G (hx + 1) 1 6 YL_pays [.ref b, qI p0, .ref o] sz T I L P Q := by
  refine qC_ofH (by decide +kernel) rfl rfl (Nat.le_of_ble_eq_true rfl) (fun F hF _ _ => ?_)
  refine q_aload_n hF 2 rfl rfl dL_pays_0 ?_
  refine q_iconst hF dL_pays_1 ?_
  refine q_aload_n hF 0 rfl rfl dL_pays_2 ?_
  refine q_iload_n hF 1 rfl rfl dL_pays_3 ?_
  refine q_callV (kc := 0) (ks := 0) (mc' := 1) (ms' := 6) (h' := hx) (st := [qI 0, .ref o]) hF vl_RL_62 rfl [qI p0] rfl rfl hTb (by omega) (Nat.le_of_ble_eq_true rfl) dL_pays_4 ?_
  refine hX _ (q_rtL (fun z sz' I1 L1 P1 hq => ?_) (fun n E sz' I1 L1 P1 hn hq => ?_))
  · rw [if_neg (by decide)] at hq ⊢
    refine q_i2lw hF dL_pays_7 ?_
    refine q_lastorev hF (n := 1) 0 hTo hAo rfl (by decide) (by decide) dL_pays_8 ?_
    refine q_goto hF dL_pays_9 ?_
    refine q_iconst hF dL_pays_15 ?_
    refine q_ireturn hF rfl dL_pays_16 ?_
    exact hq
  · rcases n with _ | n
    · obtain rfl : E = "java/lang/IllegalArgumentException" := (Option.some.inj hn).symm
      refine q_catch hF [] (0, 9, 12, 13) [] rfl (fun z hz => by cases hz) (by decide) (by decide) (q_mem 487 (by decide +kernel) rfl) q_cIA (fun q9 => ?_)
      refine q_astore_n hF (ls' := [(3, .ref q9), (0, .ref b), (1, qI p0), (2, .ref o)]) rfl (by decide) rfl dL_pays_12 ?_
      refine q_iconst hF dL_pays_13 ?_
      refine q_ireturn hF rfl dL_pays_14 ?_
      exact hq
    · cases hn
set_option maxRecDepth 100000 in
theorem mL_account {G : q_G} {sz : Nat} {T : q_T} {I L : q_I} {P : q_P} {Q : q_Q} {b o hx : Nat} {p0 p1 : Int} (hTb : T b = some (.inl 6)) (hTo : T o = some (.inr (1, 1))) (hAo : q_A G o)
    (hX : ∀ Q1 : q_Q, (∀ r sz' T' I' L' P', q_LQ ["java/util/NoSuchElementException", "java/lang/IllegalArgumentException"] o false T Q r sz' T' I' L' P' → Q1 r sz' T' I' L' P') → qC G hx 1 6 YX7_account [.ref b, qI p0, qI p1] sz T I L P Q1) : qC G (hx + 1) 1 6 YL_account [.ref b, qI p0, qI p1, .ref o] sz T I L P Q := by
  refine qC_ofH (by decide +kernel) rfl rfl (Nat.le_of_ble_eq_true rfl) (fun F hF _ _ => ?_)
  refine q_aload_n hF 3 rfl rfl dL_account_0 ?_
  refine q_iconst hF dL_account_1 ?_
  refine q_aload_n hF 0 rfl rfl dL_account_2 ?_
  refine q_iload_n hF 1 rfl rfl dL_account_3 ?_
  refine q_iload_n hF 2 rfl rfl dL_account_4 ?_
  refine q_callV (kc := 0) (ks := 0) (mc' := 1) (ms' := 6) (h' := hx) (st := [qI 0, .ref o]) hF vl_RL_65 rfl [qI p0, qI p1] rfl rfl hTb (by omega) (Nat.le_of_ble_eq_true rfl) dL_account_5 ?_
  refine hX _ (q_rtL (fun z sz' I1 L1 P1 hq => ?_) (fun n E sz' I1 L1 P1 hn hq => ?_))
  · rw [if_neg (by decide)] at hq ⊢
    refine q_i2lw hF dL_account_8 ?_
    refine q_lastorev hF (n := 1) 0 hTo hAo rfl (by decide) (by decide) dL_account_9 ?_
    refine q_goto hF dL_account_10 ?_
    refine q_iconst hF dL_account_21 ?_
    refine q_ireturn hF rfl dL_account_22 ?_
    exact hq
  · rcases n with _ | _ | n
    · obtain rfl : E = "java/util/NoSuchElementException" := (Option.some.inj hn).symm
      refine q_catch hF [] (0, 10, 13, 19) [(0, 10, 17, 13)] rfl (fun z hz => by cases hz) (by decide) (by decide) (q_mem 842 (by decide +kernel) rfl) q_cNS (fun q9 => ?_)
      refine q_astore hF (ls' := [(4, .ref q9), (0, .ref b), (1, qI p0), (2, qI p1), (3, .ref o)]) (by decide) rfl dL_account_13 ?_
      refine q_iconst hF dL_account_15 ?_
      refine q_ireturn hF rfl dL_account_16 ?_
      exact hq
    · obtain rfl : E = "java/lang/IllegalArgumentException" := (Option.some.inj hn).symm
      refine q_catch hF [(0, 10, 13, 19)] (0, 10, 17, 13) [] rfl (List.forall_mem_cons.mpr ⟨⟨by decide, "java/util/NoSuchElementException", (q_mem 842 (by decide +kernel) rfl), by decide⟩, fun z hz => by cases hz⟩) (by decide) (by decide) (q_mem 487 (by decide +kernel) rfl) q_cIA (fun q9 => ?_)
      refine q_astore hF (ls' := [(4, .ref q9), (0, .ref b), (1, qI p0), (2, qI p1), (3, .ref o)]) (by decide) rfl dL_account_17 ?_
      refine q_iconst hF dL_account_19 ?_
      refine q_ireturn hF rfl dL_account_20 ?_
      exact hq
    · cases hn
set_option maxRecDepth 100000 in
theorem mL_sleep {G : q_G} {sz : Nat} {T : q_T} {I L : q_I} {P : q_P} {Q : q_Q} {b o hx : Nat} {p0 : Int} (hTb : T b = some (.inl 6)) (hTo : T o = some (.inr (1, 1))) (hAo : q_A G o)
    (hX : ∀ Q1 : q_Q, (∀ r sz' T' I' L' P', q_LQ ["java/util/NoSuchElementException"] o false T Q r sz' T' I' L' P' → Q1 r sz' T' I' L' P') → qC G hx 1 6 YX7_sleep [.ref b, qI p0] sz T I L P Q1) : qC G (hx + 1) 1 6 YL_sleep [.ref b, qI p0, .ref o] sz T I L P Q := by
  refine qC_ofH (by decide +kernel) rfl rfl (Nat.le_of_ble_eq_true rfl) (fun F hF _ _ => ?_)
  refine q_aload_n hF 2 rfl rfl dL_sleep_0 ?_
  refine q_iconst hF dL_sleep_1 ?_
  refine q_aload_n hF 0 rfl rfl dL_sleep_2 ?_
  refine q_iload_n hF 1 rfl rfl dL_sleep_3 ?_
  refine q_callV (kc := 0) (ks := 0) (mc' := 1) (ms' := 6) (h' := hx) (st := [qI 0, .ref o]) hF vl_RL_68 rfl [qI p0] rfl rfl hTb (by omega) (Nat.le_of_ble_eq_true rfl) dL_sleep_4 ?_
  refine hX _ (q_rtL (fun z sz' I1 L1 P1 hq => ?_) (fun n E sz' I1 L1 P1 hn hq => ?_))
  · rw [if_neg (by decide)] at hq ⊢
    refine q_i2lw hF dL_sleep_7 ?_
    refine q_lastorev hF (n := 1) 0 hTo hAo rfl (by decide) (by decide) dL_sleep_8 ?_
    refine q_goto hF dL_sleep_9 ?_
    refine q_iconst hF dL_sleep_15 ?_
    refine q_ireturn hF rfl dL_sleep_16 ?_
    exact hq
  · rcases n with _ | n
    · obtain rfl : E = "java/util/NoSuchElementException" := (Option.some.inj hn).symm
      refine q_catch hF [] (0, 9, 12, 19) [] rfl (fun z hz => by cases hz) (by decide) (by decide) (q_mem 842 (by decide +kernel) rfl) q_cNS (fun q9 => ?_)
      refine q_astore_n hF (ls' := [(3, .ref q9), (0, .ref b), (1, qI p0), (2, .ref o)]) rfl (by decide) rfl dL_sleep_12 ?_
      refine q_iconst hF dL_sleep_13 ?_
      refine q_ireturn hF rfl dL_sleep_14 ?_
      exact hq
    · cases hn
set_option maxRecDepth 100000 in
theorem mL_soon {G : q_G} {sz : Nat} {T : q_T} {I L : q_I} {P : q_P} {Q : q_Q} {b o hx : Nat} {p0 : Int} (hTb : T b = some (.inl 6)) (hTo : T o = some (.inr (1, 1))) (hAo : q_A G o)
    (hX : ∀ Q1 : q_Q, (∀ r sz' T' I' L' P', q_LQ ["java/util/NoSuchElementException"] o false T Q r sz' T' I' L' P' → Q1 r sz' T' I' L' P') → qC G hx 1 6 YX7_soon [.ref b, qI p0] sz T I L P Q1) : qC G (hx + 1) 1 6 YL_soon [.ref b, qI p0, .ref o] sz T I L P Q := by
  refine qC_ofH (by decide +kernel) rfl rfl (Nat.le_of_ble_eq_true rfl) (fun F hF _ _ => ?_)
  refine q_aload_n hF 2 rfl rfl dL_soon_0 ?_
  refine q_iconst hF dL_soon_1 ?_
  refine q_aload_n hF 0 rfl rfl dL_soon_2 ?_
  refine q_iload_n hF 1 rfl rfl dL_soon_3 ?_
  refine q_callV (kc := 0) (ks := 0) (mc' := 1) (ms' := 6) (h' := hx) (st := [qI 0, .ref o]) hF vl_RL_71 rfl [qI p0] rfl rfl hTb (by omega) (Nat.le_of_ble_eq_true rfl) dL_soon_4 ?_
  refine hX _ (q_rtL (fun z sz' I1 L1 P1 hq => ?_) (fun n E sz' I1 L1 P1 hn hq => ?_))
  · rw [if_neg (by decide)] at hq ⊢
    refine q_i2lw hF dL_soon_7 ?_
    refine q_lastorev hF (n := 1) 0 hTo hAo rfl (by decide) (by decide) dL_soon_8 ?_
    refine q_goto hF dL_soon_9 ?_
    refine q_iconst hF dL_soon_15 ?_
    refine q_ireturn hF rfl dL_soon_16 ?_
    exact hq
  · rcases n with _ | n
    · obtain rfl : E = "java/util/NoSuchElementException" := (Option.some.inj hn).symm
      refine q_catch hF [] (0, 9, 12, 19) [] rfl (fun z hz => by cases hz) (by decide) (by decide) (q_mem 842 (by decide +kernel) rfl) q_cNS (fun q9 => ?_)
      refine q_astore_n hF (ls' := [(3, .ref q9), (0, .ref b), (1, qI p0), (2, .ref o)]) rfl (by decide) rfl dL_soon_12 ?_
      refine q_iconst hF dL_soon_13 ?_
      refine q_ireturn hF rfl dL_soon_14 ?_
      exact hq
    · cases hn
set_option maxRecDepth 100000 in
theorem mL_worth {G : q_G} {sz : Nat} {T : q_T} {I L : q_I} {P : q_P} {Q : q_Q} {b o hx : Nat} {p0 p1 : Int} (hTb : T b = some (.inl 6)) (hTo : T o = some (.inr (1, 1))) (hAo : q_A G o)
    (hX : ∀ Q1 : q_Q, (∀ r sz' T' I' L' P', q_LQ ["java/util/NoSuchElementException", "java/lang/IllegalArgumentException"] o true T Q r sz' T' I' L' P' → Q1 r sz' T' I' L' P') → qC G hx 1 6 YX7_worth [.ref b, qI p0, qI p1] sz T I L P Q1) : qC G (hx + 1) 1 6 YL_worth [.ref b, qI p0, qI p1, .ref o] sz T I L P Q := by
  refine qC_ofH (by decide +kernel) rfl rfl (Nat.le_of_ble_eq_true rfl) (fun F hF _ _ => ?_)
  refine q_aload_n hF 3 rfl rfl dL_worth_0 ?_
  refine q_iconst hF dL_worth_1 ?_
  refine q_aload_n hF 0 rfl rfl dL_worth_2 ?_
  refine q_iload_n hF 1 rfl rfl dL_worth_3 ?_
  refine q_iload_n hF 2 rfl rfl dL_worth_4 ?_
  refine q_callV (kc := 0) (ks := 0) (mc' := 1) (ms' := 6) (h' := hx) (st := [qI 0, .ref o]) hF vl_RL_74 rfl [qI p0, qI p1] rfl rfl hTb (by omega) (Nat.le_of_ble_eq_true rfl) dL_worth_5 ?_
  refine hX _ (q_rtL (fun z sz' I1 L1 P1 hq => ?_) (fun n E sz' I1 L1 P1 hn hq => ?_))
  · rw [if_pos rfl] at hq ⊢
    refine q_lastorev hF (n := 1) 0 hTo hAo rfl (by decide) (by decide) dL_worth_8 ?_
    refine q_goto hF dL_worth_9 ?_
    refine q_iconst hF dL_worth_20 ?_
    refine q_ireturn hF rfl dL_worth_21 ?_
    exact hq
  · rcases n with _ | _ | n
    · obtain rfl : E = "java/util/NoSuchElementException" := (Option.some.inj hn).symm
      refine q_catch hF [] (0, 9, 12, 19) [(0, 9, 16, 13)] rfl (fun z hz => by cases hz) (by decide) (by decide) (q_mem 842 (by decide +kernel) rfl) q_cNS (fun q9 => ?_)
      refine q_astore hF (ls' := [(4, .ref q9), (0, .ref b), (1, qI p0), (2, qI p1), (3, .ref o)]) (by decide) rfl dL_worth_12 ?_
      refine q_iconst hF dL_worth_14 ?_
      refine q_ireturn hF rfl dL_worth_15 ?_
      exact hq
    · obtain rfl : E = "java/lang/IllegalArgumentException" := (Option.some.inj hn).symm
      refine q_catch hF [(0, 9, 12, 19)] (0, 9, 16, 13) [] rfl (List.forall_mem_cons.mpr ⟨⟨by decide, "java/util/NoSuchElementException", (q_mem 842 (by decide +kernel) rfl), by decide⟩, fun z hz => by cases hz⟩) (by decide) (by decide) (q_mem 487 (by decide +kernel) rfl) q_cIA (fun q9 => ?_)
      refine q_astore hF (ls' := [(4, .ref q9), (0, .ref b), (1, qI p0), (2, qI p1), (3, .ref o)]) (by decide) rfl dL_worth_16 ?_
      refine q_iconst hF dL_worth_18 ?_
      refine q_ireturn hF rfl dL_worth_19 ?_
      exact hq
    · cases hn
set_option maxRecDepth 100000 in
theorem mL_row {G : q_G} {sz : Nat} {T : q_T} {I L : q_I} {P : q_P} {Q : q_Q} {b o hx : Nat} {p0 p1 : Int} (hTb : T b = some (.inl 6)) (hTo : T o = some (.inr (1, 1))) (hAo : q_A G o)
    (hX : ∀ Q1 : q_Q, (∀ r sz' T' I' L' P', q_LQ ["java/util/NoSuchElementException", "java/lang/IllegalArgumentException"] o false T Q r sz' T' I' L' P' → Q1 r sz' T' I' L' P') → qC G hx 1 6 YX7_row [.ref b, qI p0, qI p1] sz T I L P Q1) : qC G (hx + 1) 1 6 YL_row [.ref b, qI p0, qI p1, .ref o] sz T I L P Q := by
  refine qC_ofH (by decide +kernel) rfl rfl (Nat.le_of_ble_eq_true rfl) (fun F hF _ _ => ?_)
  refine q_aload_n hF 3 rfl rfl dL_row_0 ?_
  refine q_iconst hF dL_row_1 ?_
  refine q_aload_n hF 0 rfl rfl dL_row_2 ?_
  refine q_iload_n hF 1 rfl rfl dL_row_3 ?_
  refine q_iload_n hF 2 rfl rfl dL_row_4 ?_
  refine q_callV (kc := 0) (ks := 0) (mc' := 1) (ms' := 6) (h' := hx) (st := [qI 0, .ref o]) hF vl_RL_77 rfl [qI p0, qI p1] rfl rfl hTb (by omega) (Nat.le_of_ble_eq_true rfl) dL_row_5 ?_
  refine hX _ (q_rtL (fun z sz' I1 L1 P1 hq => ?_) (fun n E sz' I1 L1 P1 hn hq => ?_))
  · rw [if_neg (by decide)] at hq ⊢
    refine q_i2lw hF dL_row_8 ?_
    refine q_lastorev hF (n := 1) 0 hTo hAo rfl (by decide) (by decide) dL_row_9 ?_
    refine q_goto hF dL_row_10 ?_
    refine q_iconst hF dL_row_21 ?_
    refine q_ireturn hF rfl dL_row_22 ?_
    exact hq
  · rcases n with _ | _ | n
    · obtain rfl : E = "java/util/NoSuchElementException" := (Option.some.inj hn).symm
      refine q_catch hF [] (0, 10, 13, 19) [(0, 10, 17, 13)] rfl (fun z hz => by cases hz) (by decide) (by decide) (q_mem 842 (by decide +kernel) rfl) q_cNS (fun q9 => ?_)
      refine q_astore hF (ls' := [(4, .ref q9), (0, .ref b), (1, qI p0), (2, qI p1), (3, .ref o)]) (by decide) rfl dL_row_13 ?_
      refine q_iconst hF dL_row_15 ?_
      refine q_ireturn hF rfl dL_row_16 ?_
      exact hq
    · obtain rfl : E = "java/lang/IllegalArgumentException" := (Option.some.inj hn).symm
      refine q_catch hF [(0, 10, 13, 19)] (0, 10, 17, 13) [] rfl (List.forall_mem_cons.mpr ⟨⟨by decide, "java/util/NoSuchElementException", (q_mem 842 (by decide +kernel) rfl), by decide⟩, fun z hz => by cases hz⟩) (by decide) (by decide) (q_mem 487 (by decide +kernel) rfl) q_cIA (fun q9 => ?_)
      refine q_astore hF (ls' := [(4, .ref q9), (0, .ref b), (1, qI p0), (2, qI p1), (3, .ref o)]) (by decide) rfl dL_row_17 ?_
      refine q_iconst hF dL_row_19 ?_
      refine q_ireturn hF rfl dL_row_20 ?_
      exact hq
    · cases hn
set_option maxRecDepth 100000 in
theorem mL_ahead {G : q_G} {sz : Nat} {T : q_T} {I L : q_I} {P : q_P} {Q : q_Q} {b o hx : Nat} {p0 p1 : Int} (hTb : T b = some (.inl 6)) (hTo : T o = some (.inr (1, 1))) (hAo : q_A G o)
    (hX : ∀ Q1 : q_Q, (∀ r sz' T' I' L' P', q_LQ ["java/util/NoSuchElementException", "java/lang/IllegalArgumentException"] o true T Q r sz' T' I' L' P' → Q1 r sz' T' I' L' P') → qC G hx 1 6 YX7_ahead [.ref b, qI p0, qI p1] sz T I L P Q1) : qC G (hx + 1) 1 6 YL_ahead [.ref b, qI p0, qI p1, .ref o] sz T I L P Q := by
  refine qC_ofH (by decide +kernel) rfl rfl (Nat.le_of_ble_eq_true rfl) (fun F hF _ _ => ?_)
  refine q_aload_n hF 3 rfl rfl dL_ahead_0 ?_
  refine q_iconst hF dL_ahead_1 ?_
  refine q_aload_n hF 0 rfl rfl dL_ahead_2 ?_
  refine q_iload_n hF 1 rfl rfl dL_ahead_3 ?_
  refine q_iload_n hF 2 rfl rfl dL_ahead_4 ?_
  refine q_callV (kc := 0) (ks := 0) (mc' := 1) (ms' := 6) (h' := hx) (st := [qI 0, .ref o]) hF vl_RL_80 rfl [qI p0, qI p1] rfl rfl hTb (by omega) (Nat.le_of_ble_eq_true rfl) dL_ahead_5 ?_
  refine hX _ (q_rtL (fun z sz' I1 L1 P1 hq => ?_) (fun n E sz' I1 L1 P1 hn hq => ?_))
  · rw [if_pos rfl] at hq ⊢
    refine q_lastorev hF (n := 1) 0 hTo hAo rfl (by decide) (by decide) dL_ahead_8 ?_
    refine q_goto hF dL_ahead_9 ?_
    refine q_iconst hF dL_ahead_20 ?_
    refine q_ireturn hF rfl dL_ahead_21 ?_
    exact hq
  · rcases n with _ | _ | n
    · obtain rfl : E = "java/util/NoSuchElementException" := (Option.some.inj hn).symm
      refine q_catch hF [] (0, 9, 12, 19) [(0, 9, 16, 13)] rfl (fun z hz => by cases hz) (by decide) (by decide) (q_mem 842 (by decide +kernel) rfl) q_cNS (fun q9 => ?_)
      refine q_astore hF (ls' := [(4, .ref q9), (0, .ref b), (1, qI p0), (2, qI p1), (3, .ref o)]) (by decide) rfl dL_ahead_12 ?_
      refine q_iconst hF dL_ahead_14 ?_
      refine q_ireturn hF rfl dL_ahead_15 ?_
      exact hq
    · obtain rfl : E = "java/lang/IllegalArgumentException" := (Option.some.inj hn).symm
      refine q_catch hF [(0, 9, 12, 19)] (0, 9, 16, 13) [] rfl (List.forall_mem_cons.mpr ⟨⟨by decide, "java/util/NoSuchElementException", (q_mem 842 (by decide +kernel) rfl), by decide⟩, fun z hz => by cases hz⟩) (by decide) (by decide) (q_mem 487 (by decide +kernel) rfl) q_cIA (fun q9 => ?_)
      refine q_astore hF (ls' := [(4, .ref q9), (0, .ref b), (1, qI p0), (2, qI p1), (3, .ref o)]) (by decide) rfl dL_ahead_16 ?_
      refine q_iconst hF dL_ahead_18 ?_
      refine q_ireturn hF rfl dL_ahead_19 ?_
      exact hq
    · cases hn
set_option maxRecDepth 100000 in
theorem mL_letters {G : q_G} {sz : Nat} {T : q_T} {I L : q_I} {P : q_P} {Q : q_Q} {b o hx : Nat} {p0 : Int} (hTb : T b = some (.inl 6)) (hTo : T o = some (.inr (1, 1))) (hAo : q_A G o)
    (hX : ∀ Q1 : q_Q, (∀ r sz' T' I' L' P', q_LQ ["java/lang/IllegalArgumentException"] o false T Q r sz' T' I' L' P' → Q1 r sz' T' I' L' P') → qC G hx 1 6 YX7_letters [.ref b, qI p0] sz T I L P Q1) : qC G (hx + 1) 1 6 YL_letters [.ref b, qI p0, .ref o] sz T I L P Q := by
  refine qC_ofH (by decide +kernel) rfl rfl (Nat.le_of_ble_eq_true rfl) (fun F hF _ _ => ?_)
  refine q_aload_n hF 2 rfl rfl dL_letters_0 ?_
  refine q_iconst hF dL_letters_1 ?_
  refine q_aload_n hF 0 rfl rfl dL_letters_2 ?_
  refine q_iload_n hF 1 rfl rfl dL_letters_3 ?_
  refine q_callV (kc := 0) (ks := 0) (mc' := 1) (ms' := 6) (h' := hx) (st := [qI 0, .ref o]) hF vl_RL_83 rfl [qI p0] rfl rfl hTb (by omega) (Nat.le_of_ble_eq_true rfl) dL_letters_4 ?_
  refine hX _ (q_rtL (fun z sz' I1 L1 P1 hq => ?_) (fun n E sz' I1 L1 P1 hn hq => ?_))
  · rw [if_neg (by decide)] at hq ⊢
    refine q_i2lw hF dL_letters_7 ?_
    refine q_lastorev hF (n := 1) 0 hTo hAo rfl (by decide) (by decide) dL_letters_8 ?_
    refine q_goto hF dL_letters_9 ?_
    refine q_iconst hF dL_letters_15 ?_
    refine q_ireturn hF rfl dL_letters_16 ?_
    exact hq
  · rcases n with _ | n
    · obtain rfl : E = "java/lang/IllegalArgumentException" := (Option.some.inj hn).symm
      refine q_catch hF [] (0, 9, 12, 13) [] rfl (fun z hz => by cases hz) (by decide) (by decide) (q_mem 487 (by decide +kernel) rfl) q_cIA (fun q9 => ?_)
      refine q_astore_n hF (ls' := [(3, .ref q9), (0, .ref b), (1, qI p0), (2, .ref o)]) rfl (by decide) rfl dL_letters_12 ?_
      refine q_iconst hF dL_letters_13 ?_
      refine q_ireturn hF rfl dL_letters_14 ?_
      exact hq
    · cases hn
set_option maxRecDepth 100000 in
theorem mL_rescue {G : q_G} {sz : Nat} {T : q_T} {I L : q_I} {P : q_P} {Q : q_Q} {b o hx : Nat} {p0 p1 p2 : Int} (hTb : T b = some (.inl 6)) (hTo : T o = some (.inr (1, 1))) (hAo : q_A G o)
    (hX : ∀ Q1 : q_Q, (∀ r sz' T' I' L' P', q_LQ ["java/lang/IllegalArgumentException"] o true T Q r sz' T' I' L' P' → Q1 r sz' T' I' L' P') → qC G hx 1 6 YX7_rescue [.ref b, qI p0, qI p1, qI p2] sz T I L P Q1) : qC G (hx + 1) 1 6 YL_rescue [.ref b, qI p0, qI p1, qI p2, .ref o] sz T I L P Q := by
  refine qC_ofH (by decide +kernel) rfl rfl (Nat.le_of_ble_eq_true rfl) (fun F hF _ _ => ?_)
  refine q_aload hF 4 rfl dL_rescue_0 ?_
  refine q_iconst hF dL_rescue_2 ?_
  refine q_aload_n hF 0 rfl rfl dL_rescue_3 ?_
  refine q_iload_n hF 1 rfl rfl dL_rescue_4 ?_
  refine q_iload_n hF 2 rfl rfl dL_rescue_5 ?_
  refine q_iload_n hF 3 rfl rfl dL_rescue_6 ?_
  refine q_callV (kc := 0) (ks := 0) (mc' := 1) (ms' := 6) (h' := hx) (st := [qI 0, .ref o]) hF vl_RL_86 rfl [qI p0, qI p1, qI p2] rfl rfl hTb (by omega) (Nat.le_of_ble_eq_true rfl) dL_rescue_7 ?_
  refine hX _ (q_rtL (fun z sz' I1 L1 P1 hq => ?_) (fun n E sz' I1 L1 P1 hn hq => ?_))
  · rw [if_pos rfl] at hq ⊢
    refine q_lastorev hF (n := 1) 0 hTo hAo rfl (by decide) (by decide) dL_rescue_10 ?_
    refine q_goto hF dL_rescue_11 ?_
    refine q_iconst hF dL_rescue_18 ?_
    refine q_ireturn hF rfl dL_rescue_19 ?_
    exact hq
  · rcases n with _ | n
    · obtain rfl : E = "java/lang/IllegalArgumentException" := (Option.some.inj hn).symm
      refine q_catch hF [] (0, 11, 14, 13) [] rfl (fun z hz => by cases hz) (by decide) (by decide) (q_mem 487 (by decide +kernel) rfl) q_cIA (fun q9 => ?_)
      refine q_astore hF (ls' := [(5, .ref q9), (0, .ref b), (1, qI p0), (2, qI p1), (3, qI p2), (4, .ref o)]) (by decide) rfl dL_rescue_14 ?_
      refine q_iconst hF dL_rescue_16 ?_
      refine q_ireturn hF rfl dL_rescue_17 ?_
      exact hq
    · cases hn
set_option maxRecDepth 100000 in
theorem mL_books {G : q_G} {sz : Nat} {T : q_T} {I L : q_I} {P : q_P} {Q : q_Q} {b o hx : Nat} {p0 : Int} (hTb : T b = some (.inl 6)) (hTo : T o = some (.inr (1, 1))) (hAo : q_A G o)
    (hX : ∀ Q1 : q_Q, (∀ r sz' T' I' L' P', q_LQ ["java/lang/IllegalArgumentException"] o true T Q r sz' T' I' L' P' → Q1 r sz' T' I' L' P') → qC G hx 1 6 YX7_books [.ref b, qI p0] sz T I L P Q1) : qC G (hx + 1) 1 6 YL_books [.ref b, qI p0, .ref o] sz T I L P Q := by
  refine qC_ofH (by decide +kernel) rfl rfl (Nat.le_of_ble_eq_true rfl) (fun F hF _ _ => ?_)
  refine q_aload_n hF 2 rfl rfl dL_books_0 ?_
  refine q_iconst hF dL_books_1 ?_
  refine q_aload_n hF 0 rfl rfl dL_books_2 ?_
  refine q_iload_n hF 1 rfl rfl dL_books_3 ?_
  refine q_callV (kc := 0) (ks := 0) (mc' := 1) (ms' := 6) (h' := hx) (st := [qI 0, .ref o]) hF vl_RL_90 rfl [qI p0] rfl rfl hTb (by omega) (Nat.le_of_ble_eq_true rfl) dL_books_4 ?_
  refine hX _ (q_rtL (fun z sz' I1 L1 P1 hq => ?_) (fun n E sz' I1 L1 P1 hn hq => ?_))
  · rw [if_pos rfl] at hq ⊢
    refine q_lastorev hF (n := 1) 0 hTo hAo rfl (by decide) (by decide) dL_books_7 ?_
    refine q_goto hF dL_books_8 ?_
    refine q_iconst hF dL_books_14 ?_
    refine q_ireturn hF rfl dL_books_15 ?_
    exact hq
  · rcases n with _ | n
    · obtain rfl : E = "java/lang/IllegalArgumentException" := (Option.some.inj hn).symm
      refine q_catch hF [] (0, 8, 11, 13) [] rfl (fun z hz => by cases hz) (by decide) (by decide) (q_mem 487 (by decide +kernel) rfl) q_cIA (fun q9 => ?_)
      refine q_astore_n hF (ls' := [(3, .ref q9), (0, .ref b), (1, qI p0), (2, .ref o)]) rfl (by decide) rfl dL_books_11 ?_
      refine q_iconst hF dL_books_12 ?_
      refine q_ireturn hF rfl dL_books_13 ?_
      exact hq
    · cases hn
