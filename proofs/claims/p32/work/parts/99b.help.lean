/-! the class: helpers of its lines -/
/-- a land is called so by both -/
theorem q_D1.lm {I : q_I} {u l f e len N : Nat} {t B : Nat → Int} (h : q_D1 I u t) (hl : (l : Int) < t 0) (he : e = f + len) (hN : e ≤ N) : (e = f + (t (30 + 13 * l)).toNat ∧ ∀ k, k < (t (30 + 13 * l)).toNat → B (f + k) = I (u + 8 + 2 * l + 1) k) ↔ g_lm B N t f len l := by
  obtain ⟨-, -, c⟩ := h
  obtain ⟨c1, c2, c3⟩ := c l hl
  have hc := c2.2.2.2.2
  constructor
  · rintro ⟨a, b⟩
    refine ⟨by omega, fun k hk => ?_⟩
    have q := b k (by omega)
    rw [show u + 8 + 2 * l + 1 = u + 9 + 2 * l by omega, (c3 k (by omega)).1] at q
    rw [show g_bt B N (f + k) = B (f + k) from if_pos (by omega), q]
  · rintro ⟨a, b⟩
    refine ⟨by omega, fun k hk => ?_⟩
    have q := b k (by omega)
    rw [show g_bt B N (f + k) = B (f + k) from if_pos (by omega)] at q
    rw [show u + 8 + 2 * l + 1 = u + 9 + 2 * l by omega, (c3 k (by omega)).1, q]
/-- a land's name told: i letters of it -/
def q_nc (I : q_I) (x f i : Nat) (B : Nat → Int) : q_I := fun q k => if q = x ∧ k = 1 then (i : Int) else if q = x + 1 ∧ k < i then B (f + k) else I q k
theorem q_nc_0 {I : q_I} {x f : Nat} {B : Nat → Int} : u2 I x 1 0 = q_nc I x f 0 B := by
  funext q k; unfold u2 q_nc
  by_cases e : q = x ∧ k = 1
  · rw [if_pos e, if_pos e]; rfl
  · rw [if_neg e, if_neg e, if_neg (fun h => Nat.not_lt_zero _ h.2)]
theorem q_nc_s {I : q_I} {x f i : Nat} {B : Nat → Int} {v w : Int} (hv : v = B (f + i)) (hw : w = ((1 + i : Nat) : Int)) : u2 (u2 (q_nc I x f i B) (x + 1) i v) x 1 w = q_nc I x f (1 + i) B := by
  subst hv hw
  funext q k; unfold u2 q_nc
  by_cases e : q = x ∧ k = 1
  · rw [if_pos e, if_pos e]
  · simp only [if_neg e]
    by_cases e2 : q = x + 1 ∧ k = i
    · rw [if_pos e2, if_pos ⟨e2.1, by omega⟩, e2.2]
    · rw [if_neg e2]
      by_cases e3 : q = x + 1 ∧ k < i
      · rw [if_pos e3, if_pos ⟨e3.1, by omega⟩]
      · rw [if_neg e3, if_neg (fun h => e3 ⟨h.1, by have : k ≠ i := fun x => e2 ⟨h.1, x⟩; have := h.2; omega⟩)]
theorem q_nc_1 {I : q_I} {x f i : Nat} {B : Nat → Int} : q_nc I x f i B x 1 = (i : Int) := if_pos ⟨rfl, rfl⟩
theorem q_nc_k {I : q_I} {x f i k : Nat} {B : Nat → Int} (h : k ≠ 1) : q_nc I x f i B x k = I x k := by
  unfold q_nc; rw [if_neg (fun e => h e.2), if_neg (fun e => by omega)]
theorem q_nc_n {I : q_I} {x f i k : Nat} {B : Nat → Int} (h : k < i) : q_nc I x f i B (x + 1) k = B (f + k) := by
  unfold q_nc; rw [if_neg (fun e => by omega), if_pos ⟨rfl, h⟩]
theorem q_nc_o {I : q_I} {x f i q k : Nat} {B : Nat → Int} (h : q ≠ x ∧ q ≠ x + 1) : q_nc I x f i B q k = I q k := by
  unfold q_nc; rw [if_neg (fun e => h.1 e.1), if_neg (fun e => h.2 e.1)]
theorem q_D4.tk {I : q_I} {C : Nat → Int} {u kk cd : Nat} {t : Nat → Int} (h : q_D4 I C u t kk cd) (hk : kk ≤ 600) {q : Nat} (hq : q < 25) : (I (u + 4) q ≠ -1 ↔ 0 < t (90 + 2 * q)) ∧ -1 ≤ I (u + 4) q ∧ I (u + 4) q ≤ 600 := by
  by_cases c : 0 < t (90 + 2 * q)
  · obtain ⟨-, -, s, e, cs, h1, h2, h3, h4, -⟩ := (h q hq).2 c
    exact ⟨⟨fun _ => c, fun _ => by omega⟩, by omega, by omega⟩
  · have h1 := ((h q hq).1 c).2
    exact ⟨⟨fun x => absurd h1 x, fun x => absurd x c⟩, by omega, by omega⟩
set_option maxRecDepth 100000 in
theorem lX4_landCalled {G : q_G} {F : q_F} {h : Nat} {Q : q_Q} {kc ks sz : Nat} {T : q_T} {u by_ f e len N : Nat} {t B : Nat → Int} {v9 : Int} {I L : q_I} {P : q_P} (hF : q_ok G F YX4_landCalled h) (h1 : 1 ≤ h) (hU : q_SR T P u) (hD1 : q_D1 I u t) (hT : T by_ = some (.inr (0, 600))) (hby : ∀ k, k < 600 → I by_ k = B k) (hBr : ∀ k, 0 ≤ B k ∧ B k ≤ 255) (he : e = f + len) (heN : e ≤ N) (hN6 : N ≤ 600) (hl6 : len ≤ 6) (k0 : Q (.inl (some (qI v9))) sz T I L P) : ∀ (n : Nat) (i : Nat), 6 - i < n → i ≤ 5 → g_lndF B N t f len (6 - i) i = v9 → qX G F Q kc ks 3 [(4, qI (i : Int)), (0, .ref u), (1, .ref by_), (2, qI (f : Int)), (3, qI (e : Int))] [] sz T I L P := by
  intro n
  induction n with
  | zero => intro i hn; exact absurd hn (Nat.not_lt_zero _)
  | succ n ih =>
    intro i hn hi5 hV
    have ht05 := hD1.2.1
    refine q_iload hF 0 rfl dX4_landCalled_3 ?_
    refine q_aload_n hF 1 rfl rfl dX4_landCalled_5 ?_
    refine q_getIv hF (z := t 0) fl_RX4_44 hU.t0 hD1.1 dX4_landCalled_6 ?_
    refine q_icmpge hF (by have := hD1.2.1; omega) (by have := hD1.2.1; omega) dX4_landCalled_9 (fun c9 => ?_) (fun c9 => ?_)
    · refine q_iconst hF dX4_landCalled_43 ?_
      refine q_ireturn hF rfl dX4_landCalled_44 ?_
      rw [show v9 = -1 from by rw [← hV]; cases h4 : 6 - i <;> simp only [g_lndF]; rw [if_neg (by omega)]] at k0; exact k0
    · refine q_iload hF 0 rfl dX4_landCalled_12 ?_
      refine q_iconst hF dX4_landCalled_14 ?_
      refine q_icmpge hF (by have := hD1.2.1; omega) (by decide) dX4_landCalled_15 (fun c15 => ?_) (fun c15 => ?_)
      · (have := hD1.2.1; omega)
      · refine q_aload_n hF 1 rfl rfl dX4_landCalled_18 ?_
        refine q_getA hF fl_RX4_11 rfl hU.t0 hU.p0 dX4_landCalled_19 ?_
        refine q_iload hF 0 rfl dX4_landCalled_22 ?_
        refine q_aaloadv hF (b := u + 8 + 2 * i) i hU.t1 (by decide) rfl (by omega) (by decide) (hU.pl _ (by omega)) dX4_landCalled_24 ?_
        refine q_aload_n hF 2 rfl rfl dX4_landCalled_25 ?_
        refine q_iload_n hF 3 rfl rfl dX4_landCalled_26 ?_
        refine q_iload_n hF 4 rfl rfl dX4_landCalled_27 ?_
        refine q_callV (kc := kc) (ks := ks) (mc' := 0) (ms' := 0) (h' := 0) (st := []) hF vl_RX4_87 rfl [.ref by_, qI (f : Int), qI (e : Int)] rfl rfl (hU.tl _ (by omega)) (by omega) (Nat.le_of_ble_eq_true rfl) dX4_landCalled_28 ?_
        refine mX2_isCalled (by_ := by_) (f := f) (t := e) (len := (t (30 + 13 * i)).toNat) (B := B) (hU.tl i (by omega)) (by rw [show u + 8 + 2 * i + 1 = u + 9 + 2 * i by omega]; exact hU.pn i (by omega)) (by rw [show u + 8 + 2 * i + 1 = u + 9 + 2 * i by omega]; exact hU.tn i (by omega)) hT hby hBr (by have := (hD1.2.2 i (by omega)).1.1; have := (hD1.2.2 i (by omega)).2.1.2.2.2.2; omega) (by have := (hD1.2.2 i (by omega)).2.1.2.2.2.2; omega) (fun k hk => by rw [show u + 8 + 2 * i + 1 = u + 9 + 2 * i by omega]; have q := hD1.2.2 i (by omega); have q2 := q.2.2 k (by have := q.2.1.2.2.2.2; omega); omega) (by omega) (by omega) ?_
        refine q_ifeq_b hF dX4_landCalled_31 (fun c31 => ?_) (fun c31 => ?_)
        · refine q_iinc hF (z' := ((1 + i : Nat) : Int)) (ls' := [(4, qI ((1 + i : Nat) : Int)), (0, .ref u), (1, .ref by_), (2, qI (f : Int)), (3, qI (e : Int))]) 0 rfl (by first | rfl | omega) (by decide) rfl dX4_landCalled_37 ?_
          refine q_goto hF dX4_landCalled_40 ?_
          exact ih (1 + i) (by omega) (by omega) (by rw [← hV, show 6 - i = (6 - (1 + i)) + 1 by omega, g_lndF, if_pos (by omega), if_neg (fun h => c31 ((hD1.lm (by omega) he heN).mpr h)), Nat.add_comm i 1])
        · refine q_iload hF 0 rfl dX4_landCalled_34 ?_
          refine q_ireturn hF rfl dX4_landCalled_36 ?_
          rw [show v9 = (i : Int) from by rw [← hV, show 6 - i = (5 - i) + 1 by omega, g_lndF, if_pos (by omega), if_pos ((hD1.lm (by omega) he heN).mp c31)]] at k0; exact k0
set_option maxRecDepth 100000 in
theorem mX4_landCalled {G : q_G} {sz : Nat} {T : q_T} {I L : q_I} {P : q_P} {Q : q_Q} {u : Nat} {by_ : Nat} {f e len N : Nat} {t B : Nat → Int} (hU : q_SR T P u) (hD1 : q_D1 I u t) (hT : T by_ = some (.inr (0, 600))) (hby : ∀ k, k < 600 → I by_ k = B k) (hBr : ∀ k, 0 ≤ B k ∧ B k ≤ 255) (he : e = f + len) (heN : e ≤ N) (hN6 : N ≤ 600) (hl6 : len ≤ 6) (k0 : Q (.inl (some (qI (g_lnd B N t f len)))) sz T I L P) : qC G 1 0 0 YX4_landCalled [.ref u, .ref by_, qI (f : Int), qI (e : Int)] sz T I L P Q := by
  refine qC_of (by decide +kernel) rfl rfl (Nat.le_of_ble_eq_true rfl) (fun F hF _ _ => ?_)
  refine q_iconst hF dX4_landCalled_0 ?_
  refine q_istore hF (ls' := [(4, qI 0), (0, .ref u), (1, .ref by_), (2, qI (f : Int)), (3, qI (e : Int))]) (by decide) rfl dX4_landCalled_1 ?_
  exact lX4_landCalled hF (by decide) hU hD1 hT hby hBr he heN hN6 hl6 k0 7 0 (by decide) (by decide) rfl
set_option maxRecDepth 100000 in
theorem lX2_call {G : q_G} {F : q_F} {h : Nat} {Q : q_Q} {kc ks sz : Nat} {T : q_T} {x by_ f e len : Nat} {B : Nat → Int} {I L : q_I} {P : q_P} (hF : q_ok G F YX2_call h) (hT2 : T x = some (.inl 2)) (hP : P x 0 = some (x + 1)) (hT1 : T (x + 1) = some (.inr (0, 6))) (hA2 : q_A G x) (hT : T by_ = some (.inr (0, 600))) (hby : ∀ k, k < 600 → I by_ k = B k) (hsep : by_ < x) (he : e = f + len) (he6 : e ≤ 600) (hl6 : len ≤ 6) (k0 : Q (.inl none) sz T (q_nc I x f len B) L P) : ∀ (n : Nat) (i : Nat), len - i < n → i ≤ len → qX G F Q kc ks 8 [(4, qI ((f + i : Nat) : Int)), (0, .ref x), (1, .ref by_), (2, qI (f : Int)), (3, qI (e : Int))] [] sz T (q_nc I x f i B) L P := by
  intro n
  induction n with
  | zero => intro i hn; exact absurd hn (Nat.not_lt_zero _)
  | succ n ih =>
    intro i hn hi
    refine q_iload hF 0 rfl dX2_call_8 ?_
    refine q_iflt hF (by omega) dX2_call_10 (fun c10 => ?_) (fun c10 => ?_)
    · omega
    · refine q_iload hF 0 rfl dX2_call_13 ?_
      refine q_iload_n hF 4 rfl rfl dX2_call_15 ?_
      refine q_icmpge hF (by omega) (by omega) dX2_call_16 (fun c16 => ?_) (fun c16 => ?_)
      · refine q_return hF rfl dX2_call_64 ?_
        obtain rfl : i = len := by omega
        exact k0
      · refine q_iload hF 0 rfl dX2_call_19 ?_
        refine q_aload_n hF 2 rfl rfl dX2_call_21 ?_
        refine q_alen hF (n := 600) hT dX2_call_22 ?_
        refine q_icmpge hF (by omega) (by decide) dX2_call_23 (fun c23 => ?_) (fun c23 => ?_)
        · omega
        · refine q_aload_n hF 1 rfl rfl dX2_call_26 ?_
          refine q_getIv hF (z := (i : Int)) fl_RX2_13 hT2 q_nc_1 dX2_call_27 ?_
          refine q_bipush hF (n := 6) rfl dX2_call_30 ?_
          refine q_icmpge hF (by omega) (by decide) dX2_call_32 (fun c32 => ?_) (fun c32 => ?_)
          · omega
          · refine q_aload_n hF 1 rfl rfl dX2_call_35 ?_
            refine q_getA hF fl_RX2_9 rfl hT2 hP dX2_call_36 ?_
            refine q_aload_n hF 1 rfl rfl dX2_call_39 ?_
            refine q_getIv hF (z := (i : Int)) fl_RX2_13 hT2 q_nc_1 dX2_call_40 ?_
            refine q_aload_n hF 2 rfl rfl dX2_call_43 ?_
            refine q_iload hF 0 rfl dX2_call_44 ?_
            refine q_ialoadv hF (z := B (f + i)) (n := 600) (f + i) hT (by omega) (by omega) (by decide) ((q_nc_o (by omega)).trans (hby _ (by omega))) dX2_call_46 ?_
            refine q_iastorev hF (n := 6) i hT1 (q_Ale hA2 (by omega)) rfl (by omega) (by decide) dX2_call_47 ?_
            refine q_aload_n hF 1 rfl rfl dX2_call_48 ?_
            refine q_dup hF rfl dX2_call_49 ?_
            refine q_getIv hF (z := (i : Int)) fl_RX2_13 hT2 ((u2_a _ _ (by omega)).trans q_nc_1) dX2_call_50 ?_
            refine q_iconst hF dX2_call_53 ?_
            refine q_iadd hF dX2_call_54 ?_
            refine q_putI hF fl_RX2_13 hT2 hA2 dX2_call_55 ?_
            refine q_iinc hF (z' := ((f + (1 + i) : Nat) : Int)) (ls' := [(4, qI ((f + (1 + i) : Nat) : Int)), (0, .ref x), (1, .ref by_), (2, qI (f : Int)), (3, qI (e : Int))]) 0 rfl (by first | rfl | omega) (by decide) rfl dX2_call_58 ?_
            refine q_goto hF dX2_call_61 ?_
            rw [q_nc_s rfl (by omega)]
            exact ih (1 + i) (by omega) (by omega)
set_option maxRecDepth 100000 in
theorem mX2_call {G : q_G} {sz : Nat} {T : q_T} {I L : q_I} {P : q_P} {Q : q_Q} {x : Nat} {by_ : Nat} {f e len : Nat} {B : Nat → Int} (hT2 : T x = some (.inl 2)) (hP : P x 0 = some (x + 1)) (hT1 : T (x + 1) = some (.inr (0, 6))) (hA2 : q_A G x) (hT : T by_ = some (.inr (0, 600))) (hby : ∀ k, k < 600 → I by_ k = B k) (hsep : by_ < x) (he : e = f + len) (he6 : e ≤ 600) (hl6 : len ≤ 6) (k0 : Q (.inl none) sz T (q_nc I x f len B) L P) : qC G 0 0 0 YX2_call [.ref x, .ref by_, qI (f : Int), qI (e : Int)] sz T I L P Q := by
  refine qC_of (by decide +kernel) rfl rfl (Nat.le_of_ble_eq_true rfl) (fun F hF _ _ => ?_)
  refine q_aload_n hF 0 rfl rfl dX2_call_0 ?_
  refine q_iconst hF dX2_call_1 ?_
  refine q_putI hF fl_RX2_13 hT2 hA2 dX2_call_2 ?_
  refine q_iload_n hF 2 rfl rfl dX2_call_5 ?_
  refine q_istore hF (ls' := [(4, qI (f : Int)), (0, .ref x), (1, .ref by_), (2, qI (f : Int)), (3, qI (e : Int))]) (by decide) rfl dX2_call_6 ?_
  rw [q_nc_0 (f := f) (B := B)]
  exact lX2_call hF hT2 hP hT1 hA2 hT hby hsep he he6 hl6 k0 (len + 1) 0 (by omega) (by omega)
set_option maxRecDepth 100000 in
theorem lX4_isInOrder {G : q_G} {F : q_F} {h : Nat} {Q : q_Q} {kc ks sz : Nat} {T : q_T} {u c : Nat} {w : Int} {I L : q_I} {P : q_P} (hF : q_ok G F YX4_isInOrder h) (hU : q_SR T P u) (hc : I u 7 = (c : Int)) (hc3 : c ≤ 3) (hr : ∀ k, k < c → -2147483648 ≤ I (u + 3) k ∧ I (u + 3) k < 2147483648) (hw : -2147483648 ≤ w ∧ w < 2147483648) (k1 : ∀ k, k < c → I (u + 3) k = w → Q (.inl (some (qI 1))) sz T I L P) (k0 : (∀ k, k < c → I (u + 3) k ≠ w) → Q (.inl (some (qI 0))) sz T I L P) : ∀ (n : Nat) (k : Nat), c - k < n → k ≤ c → (∀ j, j < k → I (u + 3) j ≠ w) → qX G F Q kc ks 2 [(2, qI (k : Int)), (0, .ref u), (1, qI w)] [] sz T I L P := by
  intro n
  induction n with
  | zero => intro k hn; exact absurd hn (Nat.not_lt_zero _)
  | succ n ih =>
    intro k hn hk hall
    refine q_iload_n hF 0 rfl rfl dX4_isInOrder_2 ?_
    refine q_aload_n hF 1 rfl rfl dX4_isInOrder_3 ?_
    refine q_getIv hF (z := (c : Int)) fl_RX4_57 hU.t0 hc dX4_isInOrder_4 ?_
    refine q_icmpge hF (by omega) (by omega) dX4_isInOrder_7 (fun c7 => ?_) (fun c7 => ?_)
    · refine q_iconst hF dX4_isInOrder_33 ?_
      refine q_zreturn hF (by decide) rfl dX4_isInOrder_34 ?_
      exact k0 (fun j hj => hall j (by omega))
    · refine q_iload_n hF 0 rfl rfl dX4_isInOrder_10 ?_
      refine q_iconst hF dX4_isInOrder_11 ?_
      refine q_icmpge hF (by omega) (by decide) dX4_isInOrder_12 (fun c12 => ?_) (fun c12 => ?_)
      · omega
      · refine q_aload_n hF 1 rfl rfl dX4_isInOrder_15 ?_
        refine q_getA hF fl_RX4_21 rfl hU.t0 hU.p6 dX4_isInOrder_16 ?_
        refine q_iload_n hF 0 rfl rfl dX4_isInOrder_19 ?_
        refine q_ialoadv hF (z := I (u + 3) k) (n := 3) k hU.t3 rfl (by omega) (by decide) rfl dX4_isInOrder_20 ?_
        refine q_iload_n hF 2 rfl rfl dX4_isInOrder_21 ?_
        refine q_icmpne hF (hr k (by omega)) (by omega) dX4_isInOrder_22 (fun c22 => ?_) (fun c22 => ?_)
        · refine q_iinc hF (z' := ((1 + k : Nat) : Int)) (ls' := [(2, qI ((1 + k : Nat) : Int)), (0, .ref u), (1, qI w)]) 0 rfl (by first | rfl | omega) (by decide) rfl dX4_isInOrder_27 ?_
          refine q_goto hF dX4_isInOrder_30 ?_
          exact ih (1 + k) (by omega) (by omega) (fun j hj => by
            by_cases e : j = k
            · subst e; exact c22
            · exact hall j (by omega))
        · refine q_iconst hF dX4_isInOrder_25 ?_
          refine q_zreturn hF (by decide) rfl dX4_isInOrder_26 ?_
          exact k1 k (by omega) c22
set_option maxRecDepth 100000 in
theorem mX4_isInOrder {G : q_G} {sz : Nat} {T : q_T} {I L : q_I} {P : q_P} {Q : q_Q} {u : Nat} {w : Int} {c : Nat} (hU : q_SR T P u) (hc : I u 7 = (c : Int)) (hc3 : c ≤ 3) (hr : ∀ k, k < c → -2147483648 ≤ I (u + 3) k ∧ I (u + 3) k < 2147483648) (hw : -2147483648 ≤ w ∧ w < 2147483648) (k1 : ∀ k, k < c → I (u + 3) k = w → Q (.inl (some (qI 1))) sz T I L P) (k0 : (∀ k, k < c → I (u + 3) k ≠ w) → Q (.inl (some (qI 0))) sz T I L P) : qC G 0 0 0 YX4_isInOrder [.ref u, qI w] sz T I L P Q := by
  refine qC_of (by decide +kernel) rfl rfl (Nat.le_of_ble_eq_true rfl) (fun F hF _ _ => ?_)
  refine q_iconst hF dX4_isInOrder_0 ?_
  refine q_istore_n hF (ls' := [(2, qI 0), (0, .ref u), (1, qI w)]) rfl (by decide) rfl dX4_isInOrder_1 ?_
  exact lX4_isInOrder hF hU hc hc3 hr hw k1 k0 (c + 1) 0 (by omega) (by omega) (fun j hj => absurd hj (Nat.not_lt_zero _))
set_option maxRecDepth 100000 in
theorem mX4_isLandD {G : q_G} {sz : Nat} {T : q_T} {I L : q_I} {P : q_P} {Q : q_Q} {u : Nat} {l : Nat} {t : Nat → Int} (hU : q_SR T P u) (hD1 : q_D1 I u t) (hl : (l : Int) < t 0) (k0 : Q (.inl (some (qI (q_b ((l : Int) < t 0))))) sz T I L P) : qC G 0 0 0 YX4_isLand [.ref u, qI (l : Int)] sz T I L P Q := by
  refine qC_of (by decide +kernel) rfl rfl (Nat.le_of_ble_eq_true rfl) (fun F hF _ _ => ?_)
  refine q_iload_n hF 1 rfl rfl dX4_isLand_0 ?_
  refine q_iflt hF (by have := hD1.2.1; omega) dX4_isLand_1 (fun c1 => ?_) (fun c1 => ?_)
  · omega
  · refine q_iload_n hF 1 rfl rfl dX4_isLand_4 ?_
    refine q_aload_n hF 0 rfl rfl dX4_isLand_5 ?_
    refine q_getIv hF (z := t 0) fl_RX4_44 hU.t0 hD1.1 dX4_isLand_6 ?_
    refine q_icmpge hF (by have := hD1.2.1; omega) (by have := hD1.2.1; omega) dX4_isLand_9 (fun c9 => ?_) (fun c9 => ?_)
    · refine q_iconst hF dX4_isLand_21 ?_
      refine q_zreturn hF (by decide) rfl dX4_isLand_22 ?_
      rw [q_b_f (c := (l : Int) < t 0) (by (have := hD1.2.1; omega))] at k0; exact k0
    · refine q_iload_n hF 1 rfl rfl dX4_isLand_12 ?_
      refine q_iconst hF dX4_isLand_13 ?_
      refine q_icmpge hF (by have := hD1.2.1; omega) (by decide) dX4_isLand_14 (fun c14 => ?_) (fun c14 => ?_)
      · refine q_iconst hF dX4_isLand_21 ?_
        refine q_zreturn hF (by decide) rfl dX4_isLand_22 ?_
        rw [q_b_f (c := (l : Int) < t 0) (by (have := hD1.2.1; omega))] at k0; exact k0
      · refine q_iconst hF dX4_isLand_17 ?_
        refine q_goto hF dX4_isLand_18 ?_
        refine q_zreturn hF (by decide) rfl dX4_isLand_22 ?_
        rw [q_b_t (c := (l : Int) < t 0) (by (have := hD1.2.1; omega))] at k0; exact k0
set_option maxRecDepth 100000 in
theorem mX4_takesD {G : q_G} {sz : Nat} {T : q_T} {I L : q_I} {P : q_P} {Q : q_Q} {u : Nat} {kd l : Nat} {t : Nat → Int} (hU : q_SR T P u) (hD1 : q_D1 I u t) (hk : kd < 5) (hl : (l : Int) < t 0) (htk : (I (u + 4) (5 * kd + l) ≠ -1 ↔ 0 < t (90 + 2 * (5 * kd + l))) ∧ -1 ≤ I (u + 4) (5 * kd + l) ∧ I (u + 4) (5 * kd + l) ≤ 600) (k0 : Q (.inl (some (qI (q_b (0 < t (90 + 2 * (5 * kd + l))))))) sz T I L P) : qC G 1 0 0 YX4_takes [.ref u, qI (kd : Int), qI (l : Int)] sz T I L P Q := by
  refine qC_of (by decide +kernel) rfl rfl (Nat.le_of_ble_eq_true rfl) (fun F hF _ _ => ?_)
  refine q_aload_n hF 0 rfl rfl dX4_takes_0 ?_
  refine q_iload_n hF 2 rfl rfl dX4_takes_1 ?_
  refine q_callV (kc := 0) (ks := 0) (mc' := 0) (ms' := 0) (h' := 0) (st := []) hF vl_RX4_83 rfl [qI (l : Int)] rfl rfl hU.t0 (by decide) (Nat.le_of_ble_eq_true rfl) dX4_takes_2 ?_
  refine mX4_isLandD hU hD1 hl ?_
  refine q_ifeq_b hF dX4_takes_5 (fun c5 => ?_) (fun c5 => ?_)
  · omega
  · refine q_iload_n hF 1 rfl rfl dX4_takes_8 ?_
    refine q_iflt hF (by omega) dX4_takes_9 (fun c9 => ?_) (fun c9 => ?_)
    · omega
    · refine q_iload_n hF 1 rfl rfl dX4_takes_12 ?_
      refine q_iconst hF dX4_takes_13 ?_
      refine q_icmpge hF (by omega) (by decide) dX4_takes_14 (fun c14 => ?_) (fun c14 => ?_)
      · omega
      · refine q_aload_n hF 0 rfl rfl dX4_takes_17 ?_
        refine q_getA hF fl_RX4_24 rfl hU.t0 hU.p8 dX4_takes_18 ?_
        refine q_iload_n hF 1 rfl rfl dX4_takes_21 ?_
        refine q_iconst hF dX4_takes_22 ?_
        refine q_imul hF dX4_takes_23 ?_
        refine q_iload_n hF 2 rfl rfl dX4_takes_24 ?_
        refine q_iadd hF dX4_takes_25 ?_
        refine q_ialoadv hF (z := I (u + 4) (5 * kd + l)) (n := 25) (5 * kd + l) hU.t4 (by omega) (by have := hD1.2.1; omega) (by decide) rfl dX4_takes_26 ?_
        refine q_iconst hF dX4_takes_27 ?_
        refine q_icmpeq hF (by omega) (by decide) dX4_takes_28 (fun c28 => ?_) (fun c28 => ?_)
        · refine q_iconst hF dX4_takes_35 ?_
          refine q_zreturn hF (by decide) rfl dX4_takes_36 ?_
          rw [q_b_f (c := 0 < t (90 + 2 * (5 * kd + l))) (by omega)] at k0; exact k0
        · refine q_iconst hF dX4_takes_31 ?_
          refine q_goto hF dX4_takes_32 ?_
          refine q_zreturn hF (by decide) rfl dX4_takes_36 ?_
          rw [q_b_t (c := 0 < t (90 + 2 * (5 * kd + l))) (by omega)] at k0; exact k0
set_option maxRecDepth 100000 in
theorem mX4_addLaw {G : q_G} {sz : Nat} {T : q_T} {I L : q_I} {P : q_P} {Q : q_Q} {u : Nat} {v : Int} {kd l kk : Nat} {t : Nat → Int} (hU : q_SR T P u) (hUA : q_A G u) (hD1 : q_D1 I u t) (hk : kd < 5) (hl : (l : Int) < t 0) (hc : I u 11 = (kk : Int)) (k0 : Q (.inl none) sz T (u2 (u2 I (u + 4) (5 * kd + l) v) (u + 5) (5 * kd + l) (kk : Int)) L P) : qC G 1 0 0 YX4_addLaw [.ref u, qI (kd : Int), qI (l : Int), qI v] sz T I L P Q := by
  refine qC_of (by decide +kernel) rfl rfl (Nat.le_of_ble_eq_true rfl) (fun F hF _ _ => ?_)
  refine q_aload_n hF 0 rfl rfl dX4_addLaw_0 ?_
  refine q_iload_n hF 2 rfl rfl dX4_addLaw_1 ?_
  refine q_callV (kc := 0) (ks := 0) (mc' := 0) (ms' := 0) (h' := 0) (st := []) hF vl_RX4_83 rfl [qI (l : Int)] rfl rfl hU.t0 (by decide) (Nat.le_of_ble_eq_true rfl) dX4_addLaw_2 ?_
  refine mX4_isLandD hU hD1 hl ?_
  refine q_ifeq_b hF dX4_addLaw_5 (fun c5 => ?_) (fun c5 => ?_)
  · omega
  · refine q_iload_n hF 1 rfl rfl dX4_addLaw_8 ?_
    refine q_iflt hF (by have := hD1.2.1; omega) dX4_addLaw_9 (fun c9 => ?_) (fun c9 => ?_)
    · omega
    · refine q_iload_n hF 1 rfl rfl dX4_addLaw_12 ?_
      refine q_iconst hF dX4_addLaw_13 ?_
      refine q_icmpge hF (by have := hD1.2.1; omega) (by decide) dX4_addLaw_14 (fun c14 => ?_) (fun c14 => ?_)
      · omega
      · refine q_aload_n hF 0 rfl rfl dX4_addLaw_17 ?_
        refine q_getA hF fl_RX4_24 rfl hU.t0 hU.p8 dX4_addLaw_18 ?_
        refine q_iload_n hF 1 rfl rfl dX4_addLaw_21 ?_
        refine q_iconst hF dX4_addLaw_22 ?_
        refine q_imul hF dX4_addLaw_23 ?_
        refine q_iload_n hF 2 rfl rfl dX4_addLaw_24 ?_
        refine q_iadd hF dX4_addLaw_25 ?_
        refine q_iload_n hF 3 rfl rfl dX4_addLaw_26 ?_
        refine q_iastorev hF (n := 25) (5 * kd + l) hU.t4 (q_Ale hUA (by omega)) (by omega) (by have := hD1.2.1; omega) (by decide) dX4_addLaw_27 ?_
        refine q_aload_n hF 0 rfl rfl dX4_addLaw_28 ?_
        refine q_getA hF fl_RX4_27 rfl hU.t0 hU.p9 dX4_addLaw_29 ?_
        refine q_iload_n hF 1 rfl rfl dX4_addLaw_32 ?_
        refine q_iconst hF dX4_addLaw_33 ?_
        refine q_imul hF dX4_addLaw_34 ?_
        refine q_iload_n hF 2 rfl rfl dX4_addLaw_35 ?_
        refine q_iadd hF dX4_addLaw_36 ?_
        refine q_aload_n hF 0 rfl rfl dX4_addLaw_37 ?_
        refine q_getIv hF (z := (kk : Int)) fl_RX4_60 hU.t0 ((u2_a _ _ (by omega)).trans hc) dX4_addLaw_38 ?_
        refine q_iastorev hF (n := 25) (5 * kd + l) hU.t5 (q_Ale hUA (by omega)) (by omega) (by have := hD1.2.1; omega) (by decide) dX4_addLaw_41 ?_
        refine q_return hF rfl dX4_addLaw_42 ?_
        exact k0
