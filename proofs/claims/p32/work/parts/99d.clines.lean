/-! the class: lines -/
theorem q_XE.fr {G : q_G} {T : q_T} {I I' : q_I} {P : q_P} {a u by_ c N : Nat} {B : Nat → Int} {S E : Nat → Nat} (h : q_XE G T I P a u by_ c N B S E) (hf : q_FR u I' I) : q_XE G T I' P a u by_ c N B S E := by
  have h1 := h.au
  have h2 := h.sep
  exact ⟨h.D, h.A, ⟨fun i hi => (hf _ _ (by omega)).trans (h.O.so i hi), fun i hi => (hf _ _ (by omega)).trans (h.O.st i hi), fun i hi => (hf _ _ (by omega)).trans (h.O.en i hi), h.O.wo, h.O.tk, h.O.br, h.O.n6⟩, h.P0, h.TB, h.sep, fun k hk => (hf _ _ (by omega)).trans (h.bytes k hk), h.P7, h.U, h.UA, h.au⟩
theorem q_XE.w {G : q_G} {T : q_T} {I : q_I} {P : q_P} {a u by_ c N : Nat} {B : Nat → Int} {S E : Nat → Nat} (h : q_XE G T I P a u by_ c N B S E) {q i : Nat} {v : Int} (hq : u ≤ q ∧ q < u + 18) : q_XE G T (u2 I q i v) P a u by_ c N B S E := h.fr ((q_FR.r u I).w hq)
section
variable {G : q_G} {T : q_T} {I L : q_I} {P : q_P} {Q : q_Q} {sz a u by_ c N : Nat} {B : Nat → Int} {S E : Nat → Nat} {j kk : Nat} {nu fl pl : Int} {C : Nat → Int}
theorem q_D1.xs {t : Nat → Int} (h : q_D1 I u t) (ha : a < u) : q_D1 (q_xs I a u j nu fl pl kk C) u t := h.tr (q_xs_u ha (by decide)) (fun q k h1 h2 => q_xs_n (by omega)) rfl (fun _ _ _ => rfl)
theorem xX3_isName (hX : q_XE G T I P a u by_ c N B S E) (hj : j ≤ c) (k0 : ¬ g_nm B N (S j) → Q (.inl (some (qI 0))) sz T (q_xs I a u j nu fl pl kk C) L P) (k1 : g_nm B N (S j) → (j < c ∧ g_nl B N (S j) + S j = E j ∧ S (j + 1) = g_sk B N (E j) ∧ g_nl B N (S j) ≤ 6) → Q (.inl (some (qI 1))) sz T (q_xs I a u j nu fl pl kk C) L P) : qC G 0 0 0 YX3_isName [.ref a] sz T (q_xs I a u j nu fl pl kk C) L P Q := by
  have e := (g_nm_tok (G := G) hX.O.br hX.O.tk hj).trans (g_nm_is hX.O.tk hj)
  refine mX3_isName hX.D hX.A (hX.O.xs hX.au) q_xs_5 hj ?_
  by_cases h : g_nm B N (S j)
  · rw [q_b_t (e.mpr h)]
    have q := g_nm_end hX.O.tk hj ((g_nm_is hX.O.tk hj).mpr h).1
    exact k1 h ⟨q.1, q.2.1, q.2.2, h.1.2⟩
  · rw [q_b_f (fun x => h (e.mp x))]
    exact k0 h
theorem xX4_landCalled (hX : q_XE G T I P a u by_ c N B S E) {t : Nat → Int} (hD1 : q_D1 I u t) (hj : j ≤ c) (he : g_nl B N (S j) + S j = E j) (h6 : g_nl B N (S j) ≤ 6) (k0 : Q (.inl (some (qI (g_lnd B N t (S j) (g_nl B N (S j)))))) sz T (q_xs I a u j nu fl pl kk C) L P) : qC G 1 0 0 YX4_landCalled [.ref u, .ref by_, qI (S j : Int), qI (E j : Int)] sz T (q_xs I a u j nu fl pl kk C) L P Q := by
  have h1 := hX.au
  have h2 := hX.sep
  have h3 := g_TK_le hX.O.tk hj
  exact mX4_landCalled hX.U (hD1.xs (by omega)) hX.TB (fun k hk => (q_xs_n (by omega)).trans (hX.bytes k hk)) hX.O.br (by omega) h3.2.2 hX.O.n6 h6 k0
theorem xX3_kindInHand (hX : q_XE G T I P a u by_ c N B S E) (hj : j ≤ c) (k0 : Q (.inl (some (qI (g_kd (g_wo B (S j) (E j)))))) sz T (q_xs I a u j nu fl pl kk C) L P) : qC G 0 0 0 YX3_kindInHand [.ref a] sz T (q_xs I a u j nu fl pl kk C) L P Q := by
  cases e : g_wo B (S j) (E j) with
  | none => rw [e] at k0; exact mX3_kindInHand0 hX.D hX.A (hX.O.xs hX.au) q_xs_5 hj e k0
  | some x => rw [e] at k0; exact mX3_kindInHand1 hX.D hX.A (hX.O.xs hX.au) q_xs_5 hj e (g_wo_lt e) k0
theorem xX3_orderInHand (hX : q_XE G T I P a u by_ c N B S E) (hj : j ≤ c) (k0 : Q (.inl (some (qI (g_ord (g_wo B (S j) (E j)))))) sz T (q_xs I a u j nu fl pl kk C) L P) : qC G 0 0 0 YX3_orderInHand [.ref a] sz T (q_xs I a u j nu fl pl kk C) L P Q := mX3_orderInHand hX.D hX.A (hX.O.xs hX.au) q_xs_5 hj k0
theorem xX4_isInOrder (hX : q_XE G T I P a u by_ c N B S E) {n9 : Nat} (hc : I u 7 = (n9 : Int)) (hc3 : n9 ≤ 3) (hr : ∀ k, k < n9 → -2147483648 ≤ I (u + 3) k ∧ I (u + 3) k < 2147483648) {w : Int} (hw : -2147483648 ≤ w ∧ w < 2147483648) (k1 : ∀ k, k < n9 → I (u + 3) k = w → Q (.inl (some (qI 1))) sz T (q_xs I a u j nu fl pl kk C) L P) (k0 : (∀ k, k < n9 → I (u + 3) k ≠ w) → Q (.inl (some (qI 0))) sz T (q_xs I a u j nu fl pl kk C) L P) : qC G 0 0 0 YX4_isInOrder [.ref u, qI w] sz T (q_xs I a u j nu fl pl kk C) L P Q := by
  have ha : a < u := by have := hX.au; omega
  have e3 : ∀ k, q_xs I a u j nu fl pl kk C (u + 3) k = I (u + 3) k := fun k => q_xs_n (by omega)
  exact mX4_isInOrder hX.U ((q_xs_u ha (by decide)).trans hc) hc3 (fun k hk => by rw [e3]; exact hr k hk) hw (fun k hk h => k1 k hk (by rw [e3] at h; exact h)) (fun h => k0 (fun k hk => by have q := h k hk; rw [e3] at q; exact q))
theorem xX4_addToOrder (hX : q_XE G T I P a u by_ c N B S E) {n9 : Nat} (hc : I u 7 = (n9 : Int)) (hc3 : n9 < 3) {w : Int} (k0 : Q (.inl none) sz T (q_xs (u2 (u2 I (u + 3) n9 w) u 7 ((n9 : Int) + 1)) a u j nu fl pl kk C) L P) : qC G 0 0 0 YX4_addToOrder [.ref u, qI w] sz T (q_xs I a u j nu fl pl kk C) L P Q := by
  have ha : a < u := by have := hX.au; omega
  exact mX4_addToOrder hX.U hX.UA ((q_xs_u ha (by decide)).trans hc) hc3 (fun _ => by rw [q_xs_o (by omega), q_xs_o (by omega)]; exact k0)
theorem xX4_takes (hX : q_XE G T I P a u by_ c N B S E) {t : Nat → Int} {kd l cd : Nat} (hD1 : q_D1 I u t) (hD4 : q_D4 I C u t kk cd) (hk6 : kk ≤ 600) (hk : kd < 5) (hl : (l : Int) < t 0) (k0 : ¬ 0 < t (90 + 2 * (5 * kd + l)) → Q (.inl (some (qI 0))) sz T (q_xs I a u j nu fl pl kk C) L P) (k1 : 0 < t (90 + 2 * (5 * kd + l)) → Q (.inl (some (qI 1))) sz T (q_xs I a u j nu fl pl kk C) L P) : qC G 1 0 0 YX4_takes [.ref u, qI (kd : Int), qI (l : Int)] sz T (q_xs I a u j nu fl pl kk C) L P Q := by
  have ha : a < u := by have := hX.au; omega
  have h5 := hD1.2.1
  refine mX4_takesD hX.U (hD1.xs ha) hk hl (by rw [q_xs_n (by omega)]; exact hD4.tk hk6 (by omega)) ?_
  by_cases h : 0 < t (90 + 2 * (5 * kd + l))
  · rw [q_b_t h]; exact k1 h
  · rw [q_b_f h]; exact k0 h
theorem xX4_addLaw (hX : q_XE G T I P a u by_ c N B S E) {t : Nat → Int} {kd l : Nat} (hD1 : q_D1 I u t) (hk : kd < 5) (hl : (l : Int) < t 0) {v : Int} (k0 : Q (.inl none) sz T (q_xs (u2 (u2 I (u + 4) (5 * kd + l) v) (u + 5) (5 * kd + l) (kk : Int)) a u j nu fl pl kk C) L P) : qC G 1 0 0 YX4_addLaw [.ref u, qI (kd : Int), qI (l : Int), qI v] sz T (q_xs I a u j nu fl pl kk C) L P Q := by
  have ha : a < u := by have := hX.au; omega
  exact mX4_addLaw hX.U hX.UA (hD1.xs ha) hk hl (q_xs_11 ha) (by rw [q_xs_o (by omega), q_xs_o (by omega)]; exact k0)
theorem q_xs_nc (h : a < u) {l f i : Nat} (hl : l < 5) : q_nc (q_xs I a u j nu fl pl kk C) (u + 8 + 2 * l) f i B = q_xs (q_nc I (u + 8 + 2 * l) f i B) a u j nu fl pl kk C := by
  funext q k; unfold q_nc q_xs; dsimp only
  by_cases e1 : q = u + 8 + 2 * l ∧ k = 1
  · rw [if_pos e1, if_neg (by omega), if_neg (by omega), if_neg (by omega), if_pos e1]
  · rw [if_neg e1]
    by_cases e2 : q = u + 8 + 2 * l + 1 ∧ k < i
    · rw [if_pos e2, if_neg (by omega), if_neg (by omega), if_neg (by omega), if_neg e1, if_pos e2]
    · rw [if_neg e2]
      by_cases e3 : q = a
      · rw [if_pos e3, if_pos e3, if_neg (show ¬ (a = u + 8 + 2 * l ∧ k = 1) by omega), if_neg (show ¬ (a = u + 8 + 2 * l + 1 ∧ k < i) by omega)]
      · rw [if_neg e3, if_neg e3]
        by_cases e4 : q = u
        · rw [if_pos e4, if_pos e4, if_neg (show ¬ (u = u + 8 + 2 * l ∧ k = 1) by omega), if_neg (show ¬ (u = u + 8 + 2 * l + 1 ∧ k < i) by omega)]
        · rw [if_neg e4, if_neg e4, if_neg e1, if_neg e2]
theorem xX2_call (hX : q_XE G T I P a u by_ c N B S E) (hj : j ≤ c) {l len : Nat} (hl : l < 5) (he : E j = S j + len) (h6 : len ≤ 6) (k0 : ∀ J : q_I, J = q_nc I (u + 8 + 2 * l) (S j) len B → Q (.inl none) sz T (q_xs J a u j nu fl pl kk C) L P) : qC G 0 0 0 YX2_call [.ref (u + 8 + 2 * l), .ref by_, qI (S j : Int), qI (E j : Int)] sz T (q_xs I a u j nu fl pl kk C) L P Q := by
  have h1 := hX.au
  have h2 := hX.sep
  have h3 := g_TK_le hX.O.tk hj
  have h4 := hX.O.n6
  refine mX2_call (hX.U.tl l hl) (by rw [show u + 8 + 2 * l + 1 = u + 9 + 2 * l by omega]; exact hX.U.pn l hl) (by rw [show u + 8 + 2 * l + 1 = u + 9 + 2 * l by omega]; exact hX.U.tn l hl) (q_Ale hX.A (by omega)) hX.TB (fun k hk => (q_xs_n (by omega)).trans (hX.bytes k hk)) (by omega) he (by omega) h6 ?_
  rw [q_xs_nc (by omega) hl]
  exact k0 _ rfl
end
/-- what is asked of a method that reads a line, or what stands behind its first word, from token j on: it is r -/
abbrev q_XL (G : q_G) (T : q_T) (P : q_P) (a u by_ c N : Nat) (B : Nat → Int) (S E : Nat → Nat) (Y : q_Y) (hh : Nat) (ar : List Value) (j : Nat) (s : g_PS) (t : Nat → Int) (r : g_Rl) : Prop :=
  ∀ (sz : Nat) (I L : q_I) (Q : q_Q) (nu pl : Int) (kk : Nat) (C : Nat → Int), q_XE G T I P a u by_ c N B S E → q_LL I C u t kk s → j ≤ c → kk ≤ j →
    (∀ s' t' I' j' nu' kk' C', r = .ok s' t' → q_FR u I' I → q_LL I' C' u t' kk' s' → (j ≤ j' ∧ j' ≤ c ∧ s'.p ≤ N ∧ S j' = g_sk B N s'.p ∧ kk' ≤ j') → Q (.inl (some (qI 1))) sz T (q_xs I' a u j' nu' 0 pl kk' C') L P) →
    (∀ w x I' j' nu' fl' pl' kk' C', r = .er w x → q_FR u I' I → q_WK I' u → g_bad w x fl' pl' (S j') → j' ≤ c → Q (.inl (some (qI 0))) sz T (q_xs I' a u j' nu' fl' pl' kk' C') L P) →
    qC G hh 0 0 Y (.ref a :: ar) sz T (q_xs I a u j nu 0 pl kk C) L P Q
set_option maxRecDepth 100000 in
theorem xX3_toldLandInHand {G : q_G} {T : q_T} {I L : q_I} {P : q_P} {Q : q_Q} {sz a u by_ c N : Nat} {B : Nat → Int} {S E : Nat → Nat} {j kk : Nat} {nu fl pl : Int} {C : Nat → Int} (hX : q_XE G T I P a u by_ c N B S E) {t : Nat → Int} (hD1 : q_D1 I u t) (hj : j ≤ c) (k0 : ¬ g_nm B N (S j) → Q (.inl (some (qI (-1)))) sz T (q_xs I a u j nu fl pl kk C) L P) (k1 : g_nm B N (S j) → g_lnd B N t (S j) (g_nl B N (S j)) = -1 → Q (.inl (some (qI (-1)))) sz T (q_xs I a u j nu 3 (S j : Int) kk C) L P) (k2 : ∀ l : Nat, g_nm B N (S j) → (j < c ∧ g_nl B N (S j) + S j = E j ∧ S (j + 1) = g_sk B N (E j) ∧ g_nl B N (S j) ≤ 6) → g_lnd B N t (S j) (g_nl B N (S j)) = (l : Int) → (l : Int) < t 0 → Q (.inl (some (qI (l : Int)))) sz T (q_xs I a u j nu fl pl kk C) L P) : qC G 2 0 0 YX3_toldLandInHand [.ref a] sz T (q_xs I a u j nu fl pl kk C) L P Q := by
  refine qC_of (by decide +kernel) rfl rfl (Nat.le_of_ble_eq_true rfl) (fun F hF _ _ => ?_)
  have hc6 : c ≤ 600 := by have := hX.O.tk.1; have := hX.O.n6; omega
  have hXau := hX.au
  have hXsep := hX.sep
  have hXlt : a < u := by omega
  refine q_aload_n hF 0 rfl rfl dX3_toldLandInHand_0 ?_
  refine q_callV (kc := 0) (ks := 0) (mc' := 0) (ms' := 0) (h' := 0) (st := []) hF vl_RX3_154 rfl [] rfl rfl hX.D.t0 (by omega) (Nat.le_of_ble_eq_true rfl) dX3_toldLandInHand_1 ?_
  refine xX3_isName hX (by omega) (fun c1 => ?_) (fun c1 s1 => ?_)
  · refine q_ifne hF (by decide) dX3_toldLandInHand_4 (fun c4 => ?_) (fun c4 => ?_)
    · exact absurd c4 (by decide)
    · refine q_iconst hF dX3_toldLandInHand_7 ?_
      refine q_ireturn hF rfl dX3_toldLandInHand_8 ?_
      exact k0 c1
  · refine q_ifne hF (by decide) dX3_toldLandInHand_4 (fun c4 => ?_) (fun c4 => ?_)
    · refine q_aload_n hF 0 rfl rfl dX3_toldLandInHand_9 ?_
      refine q_getA hF fl_RX3_18 rfl hX.D.t0 hX.P7 dX3_toldLandInHand_10 ?_
      refine q_aload_n hF 0 rfl rfl dX3_toldLandInHand_13 ?_
      refine q_getA hF fl_RX3_9 rfl hX.D.t0 hX.P0 dX3_toldLandInHand_14 ?_
      refine q_aload_n hF 0 rfl rfl dX3_toldLandInHand_17 ?_
      refine q_getA hF fl_RX3_25 rfl hX.D.t0 hX.D.p2 dX3_toldLandInHand_18 ?_
      refine q_aload_n hF 0 rfl rfl dX3_toldLandInHand_21 ?_
      refine q_getIv hF (z := (j : Int)) fl_RX3_37 hX.D.t0 q_xs_5 dX3_toldLandInHand_22 ?_
      refine q_ialoadv hF (z := (S j : Int)) (n := 601) j hX.D.t2 rfl (by omega) (by decide) ((hX.O.xs hX.au).st _ (by omega)) dX3_toldLandInHand_25 ?_
      refine q_aload_n hF 0 rfl rfl dX3_toldLandInHand_26 ?_
      refine q_getA hF fl_RX3_28 rfl hX.D.t0 hX.D.p3 dX3_toldLandInHand_27 ?_
      refine q_aload_n hF 0 rfl rfl dX3_toldLandInHand_30 ?_
      refine q_getIv hF (z := (j : Int)) fl_RX3_37 hX.D.t0 q_xs_5 dX3_toldLandInHand_31 ?_
      refine q_ialoadv hF (z := (E j : Int)) (n := 601) j hX.D.t3 rfl (by omega) (by decide) ((hX.O.xs hX.au).en _ (by omega)) dX3_toldLandInHand_34 ?_
      refine q_callV (kc := 0) (ks := 0) (mc' := 0) (ms' := 0) (h' := 1) (st := []) hF vl_RX3_157 rfl [.ref by_, qI (S j : Int), qI (E j : Int)] rfl rfl hX.U.t0 (by omega) (Nat.le_of_ble_eq_true rfl) dX3_toldLandInHand_35 ?_
      refine xX4_landCalled hX hD1 (by omega) s1.2.1 s1.2.2.2 ?_
      refine q_istore_n hF (ls' := [(1, qI (g_lnd B N t (S j) (g_nl B N (S j)))), (0, .ref a)]) rfl (by decide) rfl dX3_toldLandInHand_38 ?_
      refine q_iload_n hF 0 rfl rfl dX3_toldLandInHand_39 ?_
      refine q_iconst hF dX3_toldLandInHand_40 ?_
      refine q_icmpne hF (by have q := g_lndF_r (B := B) (n := N) (t := t) (q := S j) (c := g_nl B N (S j)) 6 0; change -1 ≤ g_lnd B N t (S j) (g_nl B N (S j)) ∧ (g_lnd B N t (S j) (g_nl B N (S j)) = -1 ∨ g_lnd B N t (S j) (g_nl B N (S j)) < t 0) at q; have := hD1.2.1; omega) (by decide) dX3_toldLandInHand_41 (fun c41 => ?_) (fun c41 => ?_)
      · refine q_iload_n hF 0 rfl rfl dX3_toldLandInHand_50 ?_
        refine q_ireturn hF rfl dX3_toldLandInHand_51 ?_
        obtain ⟨l, e, hl⟩ := g_lnd_r c41
        rw [e]; exact k2 l c1 s1 e hl
      · refine q_aload_n hF 1 rfl rfl dX3_toldLandInHand_44 ?_
        refine q_iconst hF dX3_toldLandInHand_45 ?_
        refine q_callV (kc := 0) (ks := 0) (mc' := 0) (ms' := 0) (h' := 0) (st := []) hF vl_RX3_68 rfl [qI 3] rfl rfl hX.D.t0 (by omega) (Nat.le_of_ble_eq_true rfl) dX3_toldLandInHand_46 ?_
        refine xX3_fail hX (by omega) ?_
        refine q_pop hF rfl dX3_toldLandInHand_49 ?_
        refine q_iload_n hF 0 rfl rfl dX3_toldLandInHand_50 ?_
        refine q_ireturn hF rfl dX3_toldLandInHand_51 ?_
        rw [show g_lnd B N t (S j) (g_nl B N (S j)) = -1 from c41]; exact k1 c1 c41
    · exact absurd c4 (by decide)
set_option maxRecDepth 100000 in
theorem xX3_readWait {G : q_G} {T : q_T} {P : q_P} {a u by_ c N : Nat} {B : Nat → Int} {S E : Nat → Nat} {s : g_PS} {t : Nat → Int} : ∀ (p j : Nat), p ≤ N → S j = g_sk B N p → q_XL G T P a u by_ c N B S E YX3_readWait 2 [] j s t (g_nu B N 0 60 p fun v p1 => g_Rl.ok (g_mk p1 s.fl s.fa s.cd s.op (g_or s.on (g_shl 1 0)) s.hp) (g_up t 3 v)) := by
  intro p j hp hS sz I L Q nu pl kk C hX hLL hj hkk k0 k1
  have hc6 : c ≤ 600 := by have := hX.O.tk.1; have := hX.O.n6; omega
  have hXau := hX.au
  have hXsep := hX.sep
  have hXlt : a < u := by omega
  obtain ⟨hD1, hD2, hD3, hD4, hfr⟩ := hLL
  have hW := q_WK.of hD1 hD2 hD3
  have hD1b := hD1.2.1
  generalize hr : (g_nu B N 0 60 p fun v p1 => g_Rl.ok (g_mk p1 s.fl s.fa s.cd s.op (g_or s.on (g_shl 1 0)) s.hp) (g_up t 3 v)) = r at k0 k1
  show qC G 2 0 0 YX3_readWait [.ref a] sz T (q_xs I a u j nu 0 pl kk C) L P Q
  refine qC_of (by decide +kernel) rfl rfl (Nat.le_of_ble_eq_true rfl) (fun F hF _ _ => ?_)
  refine q_aload_n hF 0 rfl rfl dX3_readWait_0 ?_
  refine q_iconst hF dX3_readWait_1 ?_
  refine q_bipush hF (n := 60) rfl dX3_readWait_2 ?_
  refine q_callV (kc := 0) (ks := 0) (mc' := 0) (ms' := 0) (h' := 1) (st := []) hF vl_RX3_171 rfl [qI 0, qI 60] rfl rfl hX.D.t0 (by omega) (Nat.le_of_ble_eq_true rfl) dX3_readWait_4 ?_
  refine xX3_takeNumber hX (by omega) (by decide) (fun c1 => ?_) (fun j1 hj1 c1 r1 s1 => ?_) (fun c1 r1 => ?_)
  · refine q_ifne hF (by decide) dX3_readWait_7 (fun c7 => ?_) (fun c7 => ?_)
    · exact absurd c7 (by decide)
    · refine q_iconst hF dX3_readWait_10 ?_
      refine q_zreturn hF (by decide) rfl dX3_readWait_11 ?_
      rw [g_nu_1 hS c1] at hr
      exact k1 1 (S j) _ _ _ _ _ _ _ hr.symm (q_FR.r u I) (hW) (Or.inl ⟨rfl, rfl, rfl⟩) (by omega)
  · refine q_ifne hF (by decide) dX3_readWait_7 (fun c7 => ?_) (fun c7 => ?_)
    · refine q_aload_n hF 0 rfl rfl dX3_readWait_12 ?_
      refine q_getA hF fl_RX3_18 rfl hX.D.t0 hX.P7 dX3_readWait_13 ?_
      refine q_aload_n hF 0 rfl rfl dX3_readWait_16 ?_
      refine q_getIv hF (z := g_nv B N (S j) 0) fl_RX3_88 hX.D.t0 q_xs_6 dX3_readWait_17 ?_
      refine q_putI hF fl_RX3_118 hX.U.t0 hX.UA dX3_readWait_20 ?_
      rw [q_xs_o (by omega)]
      have hX2 := hX.w (q := u) (i := 3) (v := g_nv B N (S j) 0) (by omega)
      refine q_iconst hF dX3_readWait_23 ?_
      refine q_zreturn hF (by decide) rfl dX3_readWait_24 ?_
      rw [g_nu_y hS c1 r1] at hr
      have hnd := g_TK_le hX.O.tk hj
      exact k0 _ _ _ j1 _ _ _ hr.symm ((q_FR.r u I).w (by omega)) ⟨hD1.tr (u2_k _ _ (by decide)) (fun q k h1 h2 => u2_a _ _ (by omega)) (g_up_n _ _ (by decide)) (fun k h1 h2 => g_up_n _ _ (by omega)), hD2.set (b := 0) (by decide) (fun k _ h => u2_k _ _ h) (fun k => u2_a _ _ (by omega)) (g_up_n _ _ (by decide)) (fun k _ _ _ _ h => g_up_n _ _ h) (u2_s _ _ _ _) (g_up_s _ _ _) (by omega), hD3.tr (fun k hk => u2_a _ _ (by omega)) (fun k h1 h2 => g_up_n _ _ (by omega)), hD4.tr (fun k hk => u2_a _ _ (by omega)) (fun k hk => u2_a _ _ (by omega)) (fun k hk => rfl) (by rw [g_up_n _ _ (by decide)]; exact Int.le_refl _) (fun k h1 h2 => g_up_n _ _ (by omega)) (Nat.le_refl _) (Nat.le_refl _), hfr.up (fun x hx => by omega) (fun l hl => by omega)⟩ ⟨by omega, by omega, by show g_nd B N (S j) ≤ N; omega, s1.2.2, by omega⟩
    · exact absurd c7 (by decide)
  · refine q_ifne hF (by decide) dX3_readWait_7 (fun c7 => ?_) (fun c7 => ?_)
    · exact absurd c7 (by decide)
    · refine q_iconst hF dX3_readWait_10 ?_
      refine q_zreturn hF (by decide) rfl dX3_readWait_11 ?_
      rw [g_nu_2 hS c1 r1] at hr
      exact k1 2 (S j) _ _ _ _ _ _ _ hr.symm (q_FR.r u I) (hW) (Or.inr ⟨rfl, by decide, rfl⟩) (by omega)
set_option maxRecDepth 100000 in
theorem xX3_readLetter {G : q_G} {T : q_T} {P : q_P} {a u by_ c N : Nat} {B : Nat → Int} {S E : Nat → Nat} {s : g_PS} {t : Nat → Int} : ∀ (p j : Nat), p ≤ N → S j = g_sk B N p → q_XL G T P a u by_ c N B S E YX3_readLetter 2 [] j s t (g_nu B N 0 999 p fun v p1 => g_Rl.ok (g_mk p1 s.fl s.fa s.cd s.op (g_or s.on (g_shl 1 1)) s.hp) (g_up t 4 v)) := by
  intro p j hp hS sz I L Q nu pl kk C hX hLL hj hkk k0 k1
  have hc6 : c ≤ 600 := by have := hX.O.tk.1; have := hX.O.n6; omega
  have hXau := hX.au
  have hXsep := hX.sep
  have hXlt : a < u := by omega
  obtain ⟨hD1, hD2, hD3, hD4, hfr⟩ := hLL
  have hW := q_WK.of hD1 hD2 hD3
  have hD1b := hD1.2.1
  generalize hr : (g_nu B N 0 999 p fun v p1 => g_Rl.ok (g_mk p1 s.fl s.fa s.cd s.op (g_or s.on (g_shl 1 1)) s.hp) (g_up t 4 v)) = r at k0 k1
  show qC G 2 0 0 YX3_readLetter [.ref a] sz T (q_xs I a u j nu 0 pl kk C) L P Q
  refine qC_of (by decide +kernel) rfl rfl (Nat.le_of_ble_eq_true rfl) (fun F hF _ _ => ?_)
  refine q_aload_n hF 0 rfl rfl dX3_readLetter_0 ?_
  refine q_iconst hF dX3_readLetter_1 ?_
  refine q_sipush hF (n := 999) rfl dX3_readLetter_2 ?_
  refine q_callV (kc := 0) (ks := 0) (mc' := 0) (ms' := 0) (h' := 1) (st := []) hF vl_RX3_171 rfl [qI 0, qI 999] rfl rfl hX.D.t0 (by omega) (Nat.le_of_ble_eq_true rfl) dX3_readLetter_5 ?_
  refine xX3_takeNumber hX (by omega) (by decide) (fun c1 => ?_) (fun j1 hj1 c1 r1 s1 => ?_) (fun c1 r1 => ?_)
  · refine q_ifne hF (by decide) dX3_readLetter_8 (fun c8 => ?_) (fun c8 => ?_)
    · exact absurd c8 (by decide)
    · refine q_iconst hF dX3_readLetter_11 ?_
      refine q_zreturn hF (by decide) rfl dX3_readLetter_12 ?_
      rw [g_nu_1 hS c1] at hr
      exact k1 1 (S j) _ _ _ _ _ _ _ hr.symm (q_FR.r u I) (hW) (Or.inl ⟨rfl, rfl, rfl⟩) (by omega)
  · refine q_ifne hF (by decide) dX3_readLetter_8 (fun c8 => ?_) (fun c8 => ?_)
    · refine q_aload_n hF 0 rfl rfl dX3_readLetter_13 ?_
      refine q_getA hF fl_RX3_18 rfl hX.D.t0 hX.P7 dX3_readLetter_14 ?_
      refine q_aload_n hF 0 rfl rfl dX3_readLetter_17 ?_
      refine q_getIv hF (z := g_nv B N (S j) 0) fl_RX3_88 hX.D.t0 q_xs_6 dX3_readLetter_18 ?_
      refine q_putI hF fl_RX3_127 hX.U.t0 hX.UA dX3_readLetter_21 ?_
      rw [q_xs_o (by omega)]
      have hX2 := hX.w (q := u) (i := 4) (v := g_nv B N (S j) 0) (by omega)
      refine q_iconst hF dX3_readLetter_24 ?_
      refine q_zreturn hF (by decide) rfl dX3_readLetter_25 ?_
      rw [g_nu_y hS c1 r1] at hr
      have hnd := g_TK_le hX.O.tk hj
      exact k0 _ _ _ j1 _ _ _ hr.symm ((q_FR.r u I).w (by omega)) ⟨hD1.tr (u2_k _ _ (by decide)) (fun q k h1 h2 => u2_a _ _ (by omega)) (g_up_n _ _ (by decide)) (fun k h1 h2 => g_up_n _ _ (by omega)), hD2.set (b := 1) (by decide) (fun k _ h => u2_k _ _ h) (fun k => u2_a _ _ (by omega)) (g_up_n _ _ (by decide)) (fun k _ _ _ _ h => g_up_n _ _ h) (u2_s _ _ _ _) (g_up_s _ _ _) (by omega), hD3.tr (fun k hk => u2_a _ _ (by omega)) (fun k h1 h2 => g_up_n _ _ (by omega)), hD4.tr (fun k hk => u2_a _ _ (by omega)) (fun k hk => u2_a _ _ (by omega)) (fun k hk => rfl) (by rw [g_up_n _ _ (by decide)]; exact Int.le_refl _) (fun k h1 h2 => g_up_n _ _ (by omega)) (Nat.le_refl _) (Nat.le_refl _), hfr.up (fun x hx => by omega) (fun l hl => by omega)⟩ ⟨by omega, by omega, by show g_nd B N (S j) ≤ N; omega, s1.2.2, by omega⟩
    · exact absurd c8 (by decide)
  · refine q_ifne hF (by decide) dX3_readLetter_8 (fun c8 => ?_) (fun c8 => ?_)
    · exact absurd c8 (by decide)
    · refine q_iconst hF dX3_readLetter_11 ?_
      refine q_zreturn hF (by decide) rfl dX3_readLetter_12 ?_
      rw [g_nu_2 hS c1 r1] at hr
      exact k1 2 (S j) _ _ _ _ _ _ _ hr.symm (q_FR.r u I) (hW) (Or.inr ⟨rfl, by decide, rfl⟩) (by omega)
set_option maxRecDepth 100000 in
theorem xX3_readHome {G : q_G} {T : q_T} {P : q_P} {a u by_ c N : Nat} {B : Nat → Int} {S E : Nat → Nat} {s : g_PS} {t : Nat → Int} : ∀ (j : Nat), q_XL G T P a u by_ c N B S E YX3_readHome 3 [] j s t (if g_nm B N (S j) then (if g_lnd B N t (S j) (g_nl B N (S j)) = -1 then g_Rl.er 3 (S j) else g_Rl.ok (g_mk (g_nl B N (S j) + S j) s.fl s.fa s.cd s.op (g_or s.on (g_shl 1 2)) s.hp) (g_up t 5 (g_lnd B N t (S j) (g_nl B N (S j))))) else g_Rl.er 1 (S j)) := by
  intro j sz I L Q nu pl kk C hX hLL hj hkk k0 k1
  have hc6 : c ≤ 600 := by have := hX.O.tk.1; have := hX.O.n6; omega
  have hXau := hX.au
  have hXsep := hX.sep
  have hXlt : a < u := by omega
  obtain ⟨hD1, hD2, hD3, hD4, hfr⟩ := hLL
  have hW := q_WK.of hD1 hD2 hD3
  have hD1b := hD1.2.1
  generalize hr : (if g_nm B N (S j) then (if g_lnd B N t (S j) (g_nl B N (S j)) = -1 then g_Rl.er 3 (S j) else g_Rl.ok (g_mk (g_nl B N (S j) + S j) s.fl s.fa s.cd s.op (g_or s.on (g_shl 1 2)) s.hp) (g_up t 5 (g_lnd B N t (S j) (g_nl B N (S j))))) else g_Rl.er 1 (S j)) = r at k0 k1
  show qC G 3 0 0 YX3_readHome [.ref a] sz T (q_xs I a u j nu 0 pl kk C) L P Q
  refine qC_of (by decide +kernel) rfl rfl (Nat.le_of_ble_eq_true rfl) (fun F hF _ _ => ?_)
  refine q_aload_n hF 0 rfl rfl dX3_readHome_0 ?_
  refine q_callV (kc := 0) (ks := 0) (mc' := 0) (ms' := 0) (h' := 2) (st := []) hF vl_RX3_191 rfl [] rfl rfl hX.D.t0 (by omega) (Nat.le_of_ble_eq_true rfl) dX3_readHome_1 ?_
  refine xX3_toldLandInHand hX hD1 (by omega) (fun c1 => ?_) (fun c1 d1 => ?_) (fun l1 c1 s1 d1 q1 => ?_)
  · refine q_istore_n hF (ls' := [(1, qI (-1)), (0, .ref a)]) rfl (by decide) rfl dX3_readHome_4 ?_
    refine q_iload_n hF 0 rfl rfl dX3_readHome_5 ?_
    refine q_iconst hF dX3_readHome_6 ?_
    refine q_icmpne hF (by decide) (by decide) dX3_readHome_7 (fun c7 => ?_) (fun c7 => ?_)
    · exact absurd c7 (by decide)
    · refine q_iconst hF dX3_readHome_10 ?_
      refine q_zreturn hF (by decide) rfl dX3_readHome_11 ?_
      rw [if_neg c1] at hr
      exact k1 1 (S j) _ _ _ _ _ _ _ hr.symm (q_FR.r u I) (hW) (Or.inl ⟨rfl, rfl, rfl⟩) (by omega)
  · refine q_istore_n hF (ls' := [(1, qI (-1)), (0, .ref a)]) rfl (by decide) rfl dX3_readHome_4 ?_
    refine q_iload_n hF 0 rfl rfl dX3_readHome_5 ?_
    refine q_iconst hF dX3_readHome_6 ?_
    refine q_icmpne hF (by decide) (by decide) dX3_readHome_7 (fun c7 => ?_) (fun c7 => ?_)
    · exact absurd c7 (by decide)
    · refine q_iconst hF dX3_readHome_10 ?_
      refine q_zreturn hF (by decide) rfl dX3_readHome_11 ?_
      rw [if_pos c1, if_pos d1] at hr
      exact k1 3 (S j) _ _ _ _ _ _ _ hr.symm (q_FR.r u I) (hW) (Or.inr ⟨rfl, by decide, rfl⟩) (by omega)
  · refine q_istore_n hF (ls' := [(1, qI (l1 : Int)), (0, .ref a)]) rfl (by decide) rfl dX3_readHome_4 ?_
    refine q_iload_n hF 0 rfl rfl dX3_readHome_5 ?_
    refine q_iconst hF dX3_readHome_6 ?_
    refine q_icmpne hF (by omega) (by decide) dX3_readHome_7 (fun c7 => ?_) (fun c7 => ?_)
    · refine q_aload_n hF 1 rfl rfl dX3_readHome_12 ?_
      refine q_getA hF fl_RX3_18 rfl hX.D.t0 hX.P7 dX3_readHome_13 ?_
      refine q_iload_n hF 0 rfl rfl dX3_readHome_16 ?_
      refine q_putI hF fl_RX3_136 hX.U.t0 hX.UA dX3_readHome_17 ?_
      rw [q_xs_o (by omega)]
      have hX2 := hX.w (q := u) (i := 5) (v := (l1 : Int)) (by omega)
      refine q_aload_n hF 1 rfl rfl dX3_readHome_20 ?_
      refine q_callV (kc := 0) (ks := 0) (mc' := 0) (ms' := 0) (h' := 0) (st := []) hF vl_RX3_92 rfl [] rfl rfl hX.D.t0 (by omega) (Nat.le_of_ble_eq_true rfl) dX3_readHome_21 ?_
      refine xX3_step hX2 (by omega) (fun j3 hj3 => ?_)
      refine q_iconst hF dX3_readHome_24 ?_
      refine q_zreturn hF (by decide) rfl dX3_readHome_25 ?_
      rw [if_pos c1, if_neg (by omega)] at hr
      have hnd := g_TK_le hX.O.tk hj
      rw [d1] at hr
      exact k0 _ _ _ j3 _ _ _ hr.symm ((q_FR.r u I).w (by omega)) ⟨hD1.tr (u2_k _ _ (by decide)) (fun q k h1 h2 => u2_a _ _ (by omega)) (g_up_n _ _ (by decide)) (fun k h1 h2 => g_up_n _ _ (by omega)), hD2.set (b := 2) (by decide) (fun k _ h => u2_k _ _ h) (fun k => u2_a _ _ (by omega)) (g_up_n _ _ (by decide)) (fun k _ _ _ _ h => g_up_n _ _ h) (u2_s _ _ _ _) (g_up_s _ _ _) (by omega), hD3.tr (fun k hk => u2_a _ _ (by omega)) (fun k h1 h2 => g_up_n _ _ (by omega)), hD4.tr (fun k hk => u2_a _ _ (by omega)) (fun k hk => u2_a _ _ (by omega)) (fun k hk => rfl) (by rw [g_up_n _ _ (by decide)]; exact Int.le_refl _) (fun k h1 h2 => g_up_n _ _ (by omega)) (Nat.le_refl _) (Nat.le_refl _), hfr.up (fun x hx => by omega) (fun l hl => by omega)⟩ ⟨by omega, by omega, by show g_nl B N (S j) + S j ≤ N; omega, by show S j3 = g_sk B N (g_nl B N (S j) + S j); rw [s1.2.1, ← s1.2.2.1, hj3, Nat.add_comm], by omega⟩
    · refine q_iconst hF dX3_readHome_10 ?_
      refine q_zreturn hF (by decide) rfl dX3_readHome_11 ?_
      omega
set_option maxRecDepth 100000 in
theorem xX3_readPays {G : q_G} {T : q_T} {P : q_P} {a u by_ c N : Nat} {B : Nat → Int} {S E : Nat → Nat} {s : g_PS} {t : Nat → Int} : ∀ (j : Nat), q_XL G T P a u by_ c N B S E YX3_readPays 2 [] j s t (g_rdPays B N s t (S j)) := by
  intro j sz I L Q nu pl kk C hX hLL hj hkk k0 k1
  have hc6 : c ≤ 600 := by have := hX.O.tk.1; have := hX.O.n6; omega
  have hXau := hX.au
  have hXsep := hX.sep
  have hXlt : a < u := by omega
  obtain ⟨hD1, hD2, hD3, hD4, hfr⟩ := hLL
  have hW := q_WK.of hD1 hD2 hD3
  have hD1b := hD1.2.1
  generalize hr : (g_rdPays B N s t (S j)) = r at k0 k1
  show qC G 2 0 0 YX3_readPays [.ref a] sz T (q_xs I a u j nu 0 pl kk C) L P Q
  refine qC_of (by decide +kernel) rfl rfl (Nat.le_of_ble_eq_true rfl) (fun F hF _ _ => ?_)
  refine q_aload_n hF 0 rfl rfl dX3_readPays_0 ?_
  refine q_callV (kc := 0) (ks := 0) (mc' := 0) (ms' := 0) (h' := 0) (st := []) hF vl_RX3_187 rfl [] rfl rfl hX.D.t0 (by omega) (Nat.le_of_ble_eq_true rfl) dX3_readPays_1 ?_
  refine xX3_kindInHand hX (by omega) ?_
  refine q_istore_n hF (ls' := [(1, qI (g_kd (g_wo B (S j) (E j)))), (0, .ref a)]) rfl (by decide) rfl dX3_readPays_4 ?_
  refine q_iload_n hF 0 rfl rfl dX3_readPays_5 ?_
  refine q_iconst hF dX3_readPays_6 ?_
  refine q_icmpne hF (by have := g_kd_r (g_wo B (S j) (E j)) (fun x h => g_wo_lt h); omega) (by decide) dX3_readPays_7 (fun c7 => ?_) (fun c7 => ?_)
  · obtain ⟨k, hk5, hwk, hkd⟩ := g_kd_y (fun x h => g_wo_lt h) c7
    rw [hkd]
    rw [g_rdPays_y hX.O.tk hj hk5 hwk] at hr
    unfold g_rdP at hr
    have hwe := g_wo_end hX.O.tk hj hwk
    have hp3 := hD3.2 k hk5
    refine q_aload_n hF 1 rfl rfl dX3_readPays_12 ?_
    refine q_getA hF fl_RX3_18 rfl hX.D.t0 hX.P7 dX3_readPays_13 ?_
    refine q_getA hF fl_RX3_207 rfl hX.U.t0 hX.U.p2 dX3_readPays_16 ?_
    refine q_iload_n hF 0 rfl rfl dX3_readPays_19 ?_
    refine q_ialoadv hF (z := I (u + 2) k) (n := 5) k hX.U.t2 rfl (by omega) (by decide) (q_xs_n (by omega)) dX3_readPays_20 ?_
    refine q_iconst hF dX3_readPays_21 ?_
    refine q_icmpeq hF (hW.2 k hk5) (by decide) dX3_readPays_22 (fun c22 => ?_) (fun c22 => ?_)
    · refine q_aload_n hF 1 rfl rfl dX3_readPays_32 ?_
      refine q_callV (kc := 0) (ks := 0) (mc' := 0) (ms' := 0) (h' := 0) (st := []) hF vl_RX3_92 rfl [] rfl rfl hX.D.t0 (by omega) (Nat.le_of_ble_eq_true rfl) dX3_readPays_33 ?_
      refine xX3_step hX (by omega) (fun j2 hj2 => ?_)
      have hbq : ¬ g_bq s.hp (k : Int) := by
        rcases hp3 with h | h
        · omega
        · exact h.1
      rw [if_neg hbq] at hr
      have hS1 : S j2 = g_sk B N (E j) := by rw [hj2, hwe.2.2.1]
      have hj1c : j2 ≤ c := by omega
      refine q_aload_n hF 1 rfl rfl dX3_readPays_36 ?_
      refine q_iconst hF dX3_readPays_37 ?_
      refine q_sipush hF (n := 999) rfl dX3_readPays_38 ?_
      refine q_callV (kc := 0) (ks := 0) (mc' := 0) (ms' := 0) (h' := 1) (st := []) hF vl_RX3_171 rfl [qI 0, qI 999] rfl rfl hX.D.t0 (by omega) (Nat.le_of_ble_eq_true rfl) dX3_readPays_41 ?_
      refine xX3_takeNumber hX (by omega) (by decide) (fun c3 => ?_) (fun j3 hj3 c3 r3 s3 => ?_) (fun c3 r3 => ?_)
      · refine q_ifne hF (by decide) dX3_readPays_44 (fun c44 => ?_) (fun c44 => ?_)
        · exact absurd c44 (by decide)
        · refine q_iconst hF dX3_readPays_47 ?_
          refine q_zreturn hF (by decide) rfl dX3_readPays_48 ?_
          rw [← hS1, if_neg c3] at hr
          exact k1 1 (S j2) _ _ _ _ _ _ _ hr.symm (q_FR.r u I) (hW) (Or.inl ⟨rfl, rfl, rfl⟩) (by omega)
      · refine q_ifne hF (by decide) dX3_readPays_44 (fun c44 => ?_) (fun c44 => ?_)
        · refine q_aload_n hF 1 rfl rfl dX3_readPays_49 ?_
          refine q_getA hF fl_RX3_18 rfl hX.D.t0 hX.P7 dX3_readPays_50 ?_
          refine q_getA hF fl_RX3_207 rfl hX.U.t0 hX.U.p2 dX3_readPays_53 ?_
          refine q_iload_n hF 0 rfl rfl dX3_readPays_56 ?_
          refine q_aload_n hF 1 rfl rfl dX3_readPays_57 ?_
          refine q_getIv hF (z := g_nv B N (S j2) 0) fl_RX3_88 hX.D.t0 q_xs_6 dX3_readPays_58 ?_
          refine q_iastorev hF (n := 5) k hX.U.t2 (q_Ale hX.A (by omega)) rfl (by omega) (by decide) dX3_readPays_61 ?_
          rw [q_xs_o (by omega)]
          have hX4 := hX.w (q := u + 2) (i := k) (v := g_nv B N (S j2) 0) (by omega)
          refine q_iconst hF dX3_readPays_62 ?_
          refine q_zreturn hF (by decide) rfl dX3_readPays_63 ?_
          rw [← hS1, if_pos c3, if_pos r3] at hr
          have hnd := g_TK_le hX.O.tk hj1c
          exact k0 _ _ _ j3 _ _ _ hr.symm ((q_FR.r u I).w (by omega)) ⟨hD1.tr (u2_a _ _ (by omega)) (fun q k h1 h2 => u2_a _ _ (by omega)) (g_up_n _ _ (by omega)) (fun k h1 h2 => g_up_n _ _ (by omega)), hD2.tr (fun k hk => u2_a _ _ (by omega)) (fun k => u2_a _ _ (by omega)) (by rw [g_up_n _ _ (by omega)]; exact Int.le_refl _) (fun k h1 h2 h3 h4 => g_up_n _ _ (by omega)), hD3.set hk5 (fun j hj h => u2_k _ _ h) (fun j h1 h2 h => g_up_n _ _ h) (u2_s _ _ _ _) (g_up_s _ _ _) (by omega), hD4.tr (fun k hk => u2_a _ _ (by omega)) (fun k hk => u2_a _ _ (by omega)) (fun k hk => rfl) (by rw [g_up_n _ _ (by omega)]; exact Int.le_refl _) (fun k h1 h2 => g_up_n _ _ (by omega)) (Nat.le_refl _) (Nat.le_refl _), hfr.up (fun x hx => by omega) (fun l hl => by omega)⟩ ⟨by omega, by omega, by show g_nd B N (S j2) ≤ N; omega, s3.2.2, by omega⟩
        · exact absurd c44 (by decide)
      · refine q_ifne hF (by decide) dX3_readPays_44 (fun c44 => ?_) (fun c44 => ?_)
        · exact absurd c44 (by decide)
        · refine q_iconst hF dX3_readPays_47 ?_
          refine q_zreturn hF (by decide) rfl dX3_readPays_48 ?_
          rw [← hS1, if_pos c3, if_neg r3] at hr
          exact k1 2 (S j2) _ _ _ _ _ _ _ hr.symm (q_FR.r u I) (hW) (Or.inr ⟨rfl, by decide, rfl⟩) (by omega)
    · refine q_aload_n hF 1 rfl rfl dX3_readPays_25 ?_
      refine q_bipush hF (n := 6) rfl dX3_readPays_26 ?_
      refine q_callV (kc := 0) (ks := 0) (mc' := 0) (ms' := 0) (h' := 0) (st := []) hF vl_RX3_68 rfl [qI 6] rfl rfl hX.D.t0 (by omega) (Nat.le_of_ble_eq_true rfl) dX3_readPays_28 ?_
      refine xX3_fail hX (by omega) ?_
      refine q_zreturn hF (by decide) rfl dX3_readPays_31 ?_
      have hbq : g_bq s.hp (k : Int) := by
        rcases hp3 with h | h
        · exact h.1
        · exact absurd h.2.1 c22
      rw [if_pos hbq] at hr
      exact k1 6 (S j) _ _ _ _ _ _ _ hr.symm (q_FR.r u I) (hW) (Or.inr ⟨rfl, by decide, rfl⟩) (by omega)
  · refine q_iconst hF dX3_readPays_10 ?_
    refine q_zreturn hF (by decide) rfl dX3_readPays_11 ?_
    rw [g_rdPays_n hX.O.tk hj (g_kd_n c7)] at hr
    exact k1 1 (S j) _ _ _ _ _ _ _ hr.symm (q_FR.r u I) (hW) (Or.inl ⟨rfl, rfl, rfl⟩) (by omega)
