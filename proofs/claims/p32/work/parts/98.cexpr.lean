/-! the class: an expression -/
def q_XE (G : q_G) (T : q_T) (I : q_I) (P : q_P) (a : Nat) (u : Nat) (by_ : Nat) (c : Nat) (N : Nat) (B : Nat → Int) (S : Nat → Nat) (E : Nat → Nat) : Prop := (q_SD T P a) ∧ (q_A G a) ∧ (q_TO G I P a c N B S E) ∧ (P a 0 = some by_) ∧ (T by_ = some (.inr (0, 600))) ∧ (by_ = a + 1) ∧ (∀ k, k < 600 → I by_ k = B k) ∧ (P a 1 = some u) ∧ (q_SR T P u) ∧ (q_A G u) ∧ (u = a + 2)
theorem q_XE.D {G : q_G} {T : q_T} {I : q_I} {P : q_P} {a : Nat} {u : Nat} {by_ : Nat} {c : Nat} {N : Nat} {B : Nat → Int} {S : Nat → Nat} {E : Nat → Nat} (h : q_XE G T I P a u by_ c N B S E) : q_SD T P a := h.1
theorem q_XE.A {G : q_G} {T : q_T} {I : q_I} {P : q_P} {a : Nat} {u : Nat} {by_ : Nat} {c : Nat} {N : Nat} {B : Nat → Int} {S : Nat → Nat} {E : Nat → Nat} (h : q_XE G T I P a u by_ c N B S E) : q_A G a := h.2.1
theorem q_XE.O {G : q_G} {T : q_T} {I : q_I} {P : q_P} {a : Nat} {u : Nat} {by_ : Nat} {c : Nat} {N : Nat} {B : Nat → Int} {S : Nat → Nat} {E : Nat → Nat} (h : q_XE G T I P a u by_ c N B S E) : q_TO G I P a c N B S E := h.2.2.1
theorem q_XE.P0 {G : q_G} {T : q_T} {I : q_I} {P : q_P} {a : Nat} {u : Nat} {by_ : Nat} {c : Nat} {N : Nat} {B : Nat → Int} {S : Nat → Nat} {E : Nat → Nat} (h : q_XE G T I P a u by_ c N B S E) : P a 0 = some by_ := h.2.2.2.1
theorem q_XE.TB {G : q_G} {T : q_T} {I : q_I} {P : q_P} {a : Nat} {u : Nat} {by_ : Nat} {c : Nat} {N : Nat} {B : Nat → Int} {S : Nat → Nat} {E : Nat → Nat} (h : q_XE G T I P a u by_ c N B S E) : T by_ = some (.inr (0, 600)) := h.2.2.2.2.1
theorem q_XE.sep {G : q_G} {T : q_T} {I : q_I} {P : q_P} {a : Nat} {u : Nat} {by_ : Nat} {c : Nat} {N : Nat} {B : Nat → Int} {S : Nat → Nat} {E : Nat → Nat} (h : q_XE G T I P a u by_ c N B S E) : by_ = a + 1 := h.2.2.2.2.2.1
theorem q_XE.bytes {G : q_G} {T : q_T} {I : q_I} {P : q_P} {a : Nat} {u : Nat} {by_ : Nat} {c : Nat} {N : Nat} {B : Nat → Int} {S : Nat → Nat} {E : Nat → Nat} (h : q_XE G T I P a u by_ c N B S E) : ∀ k, k < 600 → I by_ k = B k := h.2.2.2.2.2.2.1
theorem q_XE.P7 {G : q_G} {T : q_T} {I : q_I} {P : q_P} {a : Nat} {u : Nat} {by_ : Nat} {c : Nat} {N : Nat} {B : Nat → Int} {S : Nat → Nat} {E : Nat → Nat} (h : q_XE G T I P a u by_ c N B S E) : P a 1 = some u := h.2.2.2.2.2.2.2.1
theorem q_XE.U {G : q_G} {T : q_T} {I : q_I} {P : q_P} {a : Nat} {u : Nat} {by_ : Nat} {c : Nat} {N : Nat} {B : Nat → Int} {S : Nat → Nat} {E : Nat → Nat} (h : q_XE G T I P a u by_ c N B S E) : q_SR T P u := h.2.2.2.2.2.2.2.2.1
theorem q_XE.UA {G : q_G} {T : q_T} {I : q_I} {P : q_P} {a : Nat} {u : Nat} {by_ : Nat} {c : Nat} {N : Nat} {B : Nat → Int} {S : Nat → Nat} {E : Nat → Nat} (h : q_XE G T I P a u by_ c N B S E) : q_A G u := h.2.2.2.2.2.2.2.2.2.1
theorem q_XE.au {G : q_G} {T : q_T} {I : q_I} {P : q_P} {a : Nat} {u : Nat} {by_ : Nat} {c : Nat} {N : Nat} {B : Nat → Int} {S : Nat → Nat} {E : Nat → Nat} (h : q_XE G T I P a u by_ c N B S E) : u = a + 2 := h.2.2.2.2.2.2.2.2.2.2
theorem q_TO.xs {G : q_G} {I : q_I} {P : q_P} {a u c N j kk : Nat} {B : Nat → Int} {S E : Nat → Nat} {nu fl pl : Int} {C : Nat → Int} (h : q_TO G I P a c N B S E) (ha : u = a + 2) : q_TO G (q_xs I a u j nu fl pl kk C) P a c N B S E :=
  ⟨fun i hi => (q_xs_n (by omega)).trans (h.so i hi), fun i hi => (q_xs_n (by omega)).trans (h.st i hi), fun i hi => (q_xs_n (by omega)).trans (h.en i hi), h.wo, h.tk, h.br, h.n6⟩
section
variable {G : q_G} {T : q_T} {I L : q_I} {P : q_P} {Q : q_Q} {sz a u by_ c N : Nat} {B : Nat → Int} {S E : Nat → Nat} {j kk : Nat} {nu fl pl : Int} {C : Nat → Int}
theorem xX3_fail (hX : q_XE G T I P a u by_ c N B S E) (hj : j ≤ c) {w : Int} (k0 : Q (.inl (some (qI 0))) sz T (q_xs I a u j nu w (S j : Int) kk C) L P) : qC G 0 0 0 YX3_fail [.ref a, qI w] sz T (q_xs I a u j nu fl pl kk C) L P Q :=
  mX3_fail hX.D hX.A (hX.O.xs hX.au) q_xs_5 hj (by rw [q_xs_w8, q_xs_w9]; exact k0)
theorem xX3_step (hX : q_XE G T I P a u by_ c N B S E) (hj6 : j < 600) (k0 : ∀ j' : Nat, j' = j + 1 → Q (.inl none) sz T (q_xs I a u j' nu fl pl kk C) L P) : qC G 0 0 0 YX3_step [.ref a] sz T (q_xs I a u j nu fl pl kk C) L P Q :=
  mX3_step hX.D hX.A q_xs_5 hj6 (by rw [q_xs_w5 (x := j + 1) (by omega)]; exact k0 _ rfl)
theorem xX3_takeSign (hX : q_XE G T I P a u by_ c N B S E) (hj : j ≤ c) {x : Int} (hx : 32 < x ∧ x < 48 ∨ 57 < x ∧ x < 97) (k0 : g_bt B N (S j) ≠ x → Q (.inl (some (qI 0))) sz T (q_xs I a u j nu fl pl kk C) L P) (k1 : ∀ j' : Nat, j' = j + 1 → g_bt B N (S j) = x → (j < c ∧ 1 + S j = E j ∧ S j' = g_sk B N (1 + S j)) → Q (.inl (some (qI 1))) sz T (q_xs I a u j' nu fl pl kk C) L P) : qC G 0 0 0 YX3_takeSign [.ref a, qI x] sz T (q_xs I a u j nu fl pl kk C) L P Q :=
  mX3_takeSign hX.D hX.A (hX.O.xs hX.au) q_xs_5 hj hx k0 (fun h => by rw [q_xs_w5 (x := j + 1) (by omega)]; exact k1 _ rfl h (g_sg_end hX.O.tk hj hx h))
theorem xX3_takeWord (hX : q_XE G T I P a u by_ c N B S E) (hj : j ≤ c) {i : Nat} (hi : i < 23) (k0 : g_wo B (S j) (E j) ≠ some i → Q (.inl (some (qI 0))) sz T (q_xs I a u j nu fl pl kk C) L P) (k1 : ∀ j' : Nat, j' = j + 1 → g_wo B (S j) (E j) = some i → (j < c ∧ g_len (g_ri i) + S j = E j ∧ S j' = g_sk B N (E j)) → Q (.inl (some (qI 1))) sz T (q_xs I a u j' nu fl pl kk C) L P) : qC G 0 0 0 YX3_takeWord [.ref a, .ref (q_E G i)] sz T (q_xs I a u j nu fl pl kk C) L P Q :=
  mX3_takeWord hX.D hX.A (hX.O.xs hX.au) q_xs_5 hj hi k0 (fun h => by rw [q_xs_w5 (x := j + 1) (by omega)]; have q := g_wo_end hX.O.tk hj h; exact k1 _ rfl h ⟨q.1, q.2.1, q.2.2.1⟩)
theorem xX3_takeNumber (hX : q_XE G T I P a u by_ c N B S E) (hj : j ≤ c) {lo hi : Int} (hlo : 0 ≤ lo ∧ lo ≤ hi ∧ hi < 1000000) (k0 : ¬ g_dg (g_bt B N (S j)) → Q (.inl (some (qI 0))) sz T (q_xs I a u j nu fl pl kk C) L P) (k1 : ∀ j' : Nat, j' = j + 1 → g_dg (g_bt B N (S j)) → lo ≤ g_nv B N (S j) 0 ∧ g_nv B N (S j) 0 ≤ hi → (j < c ∧ g_nd B N (S j) = E j ∧ S j' = g_sk B N (g_nd B N (S j))) → Q (.inl (some (qI 1))) sz T (q_xs I a u j' (g_nv B N (S j) 0) fl pl kk C) L P) (k2 : g_dg (g_bt B N (S j)) → ¬ (lo ≤ g_nv B N (S j) 0 ∧ g_nv B N (S j) 0 ≤ hi) → Q (.inl (some (qI 0))) sz T (q_xs I a u j (g_cw B N (S j) 0) 2 (S j : Int) kk C) L P) : qC G 1 0 0 YX3_takeNumber [.ref a, qI lo, qI hi] sz T (q_xs I a u j nu fl pl kk C) L P Q :=
  mX3_takeNumber hX.D hX.A (hX.O.xs hX.au) q_xs_5 hj hX.P0 hX.TB hX.sep (fun k hk => (q_xs_n (by have := hX.sep; have := hX.au; omega)).trans (hX.bytes k hk)) hlo k0 (fun h h2 => by rw [q_xs_w6, q_xs_w5 (x := j + 1) (by omega)]; exact k1 _ rfl h h2 (g_nu_end hX.O.tk hj h)) (fun h h2 => by rw [q_xs_w6, q_xs_w8, q_xs_w9]; exact k2 h h2)
theorem xX3_pushInHand (hX : q_XE G T I P a u by_ c N B S E) (hj : j ≤ c) (k0 : Q (.inl (some (qI (g_psh (g_wo B (S j) (E j)))))) sz T (q_xs I a u j nu fl pl kk C) L P) : qC G 0 0 0 YX3_pushInHand [.ref a] sz T (q_xs I a u j nu fl pl kk C) L P Q := mX3_pushInHand hX.D hX.A (hX.O.xs hX.au) q_xs_5 hj k0
theorem xX3_signInHand (hX : q_XE G T I P a u by_ c N B S E) (hj : j ≤ c) {v : Int} (hv : g_sgo (g_bt B N (S j)) = v) (k0 : Q (.inl (some (qI v))) sz T (q_xs I a u j nu fl pl kk C) L P) : qC G 0 0 0 YX3_signInHand [.ref a] sz T (q_xs I a u j nu fl pl kk C) L P Q := mX3_signInHand hX.D hX.A (hX.O.xs hX.au) q_xs_5 hj (by rw [hv]; exact k0)
theorem xX4_addCode (hX : q_XE G T I P a u by_ c N B S E) (hk : kk < 600) {v : Int} (k0 : Q (.inl none) sz T (q_xs I a u j nu fl pl (kk + 1) (g_up C kk v)) L P) : qC G 0 0 0 YX4_addCode [.ref u, qI v] sz T (q_xs I a u j nu fl pl kk C) L P Q :=
  have ha : a < u := by have := hX.au; omega
  mX4_addCode hX.U hX.UA (q_xs_11 ha) hk (fun _ => by rw [q_xs_wC ha, q_xs_w11 ha (x := kk + 1) (by omega)]; exact k0)
theorem xX4_addSign (hX : q_XE G T I P a u by_ c N B S E) {v : Int} (hk : kk + (g_po v).length ≤ 600) (hv : -2147483648 ≤ v ∧ v < 2147483648) (k0 : Q (.inl none) sz T (q_xs I a u j nu fl pl (kk + (g_po v).length) (g_app C kk (g_po v))) L P) : qC G 1 0 0 YX4_addSign [.ref u, qI v] sz T (q_xs I a u j nu fl pl kk C) L P Q :=
  have ha : a < u := by have := hX.au; omega
  mX4_addSign hX.U hX.UA (q_xs_11 ha) (fun h => by rw [show g_po v = [v] from if_neg h] at hk; exact hk) hv (fun h => by subst h; exact k0) (fun h _ => by rw [q_xs_wC ha, q_xs_w11 ha (x := kk + 1) (by omega)]; rw [show g_po v = [v] from if_neg h] at k0; exact k0)
end
/-- what is asked of a method that reads a part of an expression from token j on, which is r -/
abbrev q_XK (G : q_G) (T : q_T) (I : q_I) (P : q_P) (a u c N : Nat) (B : Nat → Int) (S : Nat → Nat) (Y : q_Y) (hh : Nat) (ar : List Value) (j : Nat) (r : g_Re) : Prop :=
  ∀ (sz : Nat) (L : q_I) (Q : q_Q) (nu pl : Int) (kk : Nat) (C : Nat → Int), j ≤ c → kk ≤ j → r ≠ .er 0 0 →
    (∀ p' cs j' nu', r = .ok p' cs → (j < j' ∧ j' ≤ c ∧ p' ≤ N ∧ S j' = g_sk B N p' ∧ cs.length + j ≤ j') → Q (.inl (some (qI 1))) sz T (q_xs I a u j' nu' 0 pl (kk + cs.length) (g_app C kk cs)) L P) →
    (∀ w x j' nu' fl' pl' kk' C', r = .er w x → g_bad w x fl' pl' (S j') → (j ≤ j' ∧ j' ≤ c ∧ kk' + j ≤ kk + j') → Q (.inl (some (qI 0))) sz T (q_xs I a u j' nu' fl' pl' kk' C') L P) →
    qC G hh 0 0 Y (.ref a :: ar) sz T (q_xs I a u j nu 0 pl kk C) L P Q
theorem g_app_1 (C : Nat → Int) (k : Nat) (v : Int) : g_app C k [v] = g_up C k v := rfl
theorem g_app_c (C : Nat → Int) (k : Nat) (cs : List Int) (v : Int) : g_up (g_app C k cs) (k + cs.length) v = g_app C k (cs ++ [v]) := by rw [g_app_app]; rfl
theorem q_Qxs {Q : q_Q} {an : Option Value ⊕ String} {sz a u j kk kk' : Nat} {nu fl pl : Int} {C C' : Nat → Int} {T : q_T} {I L : q_I} {P : q_P} (h : Q an sz T (q_xs I a u j nu fl pl kk C) L P) (h1 : kk = kk') (h2 : C = C') : Q an sz T (q_xs I a u j nu fl pl kk' C') L P := by subst h1 h2; exact h
theorem g_psh_r (w : Option Nat) : -2147483648 ≤ g_psh w ∧ g_psh w < 2147483648 := by unfold g_psh; (repeat' split) <;> decide
theorem g_mst_y {B : Nat → Int} {N c j i p : Nat} {S E : Nat → Nat} (ht : g_TK B N c S E) (hj : j ≤ c) (hi : i < 23) (hS : S j = g_sk B N p) (h : g_wo B (S j) (E j) = some i) : g_mst B N (g_ri i) p = g_Re.ok (E j) [] := by
  unfold g_mst
  rw [← hS, if_pos ((g_wo_is ht hj hi).mpr h), (g_wo_end ht hj h).2.1]
theorem g_mst_n {B : Nat → Int} {N c j i p : Nat} {S E : Nat → Nat} (ht : g_TK B N c S E) (hj : j ≤ c) (hi : i < 23) (hS : S j = g_sk B N p) (h : g_wo B (S j) (E j) ≠ some i) : g_mst B N (g_ri i) p = g_Re.er 1 (S j) := by
  unfold g_mst
  rw [← hS, if_neg (fun e => h ((g_wo_is ht hj hi).mp e))]
theorem g_sig_y {B : Nat → Int} {N j p : Nat} {x : Int} {S : Nat → Nat} (hS : S j = g_sk B N p) (h : g_bt B N (S j) = x) : g_sig B N x p = g_Re.ok (1 + S j) [] := by
  unfold g_sig; rw [← hS, if_pos h]
theorem g_sig_n {B : Nat → Int} {N j p : Nat} {x : Int} {S : Nat → Nat} (hS : S j = g_sk B N p) (h : g_bt B N (S j) ≠ x) : g_sig B N x p = g_Re.er 1 (S j) := by
  unfold g_sig; rw [← hS, if_neg h]
theorem g_po_le (v : Int) : (g_po v).length ≤ 1 := by
  unfold g_po; split
  · exact Nat.zero_le _
  · exact Nat.le_refl 1
set_option maxRecDepth 100000 in
theorem xX3_readIf {G : q_G} {T : q_T} {I : q_I} {P : q_P} {a u by_ c N : Nat} {B : Nat → Int} {S E : Nat → Nat} (hX : q_XE G T I P a u by_ c N B S E) {f : Nat} (ihF : ∀ (o p j : Nat), o ≤ 3 → p ≤ N → S j = g_sk B N p → q_XK G T I P a u c N B S YX3_readFactor (4 + 3 * (3 - o)) [qI (o : Int)] j (g_ex B N f 0 o p)) : ∀ (o j : Nat), o ≤ 3 → g_wo B (S j) (E j) = some 14 → q_XK G T I P a u c N B S YX3_readIf (3 + 3 * (3 - o)) [qI (o : Int)] j (g_facI B N (g_ex B N f) o (S j)) := by
  intro o j ho w14 sz L Q nu pl kk C hj hkk hne k0 k1
  have hc6 : c ≤ 600 := by have := hX.O.tk.1; have := hX.O.n6; omega
  have hXau := hX.au
  generalize hr : g_facI B N (g_ex B N f) o (S j) = r at hne k0 k1
  unfold g_facI at hr
  show qC G (3 + 3 * (3 - o)) 0 0 YX3_readIf [.ref a, qI (o : Int)] sz T (q_xs I a u j nu 0 pl kk C) L P Q
  refine qC_of (by decide +kernel) rfl rfl (Nat.le_of_ble_eq_true rfl) (fun F hF _ _ => ?_)
  refine q_iload_n hF 1 rfl rfl dX3_readIf_0 ?_
  refine q_iconst hF dX3_readIf_1 ?_
  refine q_icmplt hF (by omega) (by decide) dX3_readIf_2 (fun c2 => ?_) (fun c2 => ?_)
  · rw [if_neg (by omega)] at hr
    have hw := g_wo_end hX.O.tk hj w14
    refine q_aload_n hF 0 rfl rfl dX3_readIf_11 ?_
    refine q_callV (kc := 0) (ks := 0) (mc' := 0) (ms' := 0) (h' := 0) (st := []) hF vl_RX3_92 rfl [] rfl rfl hX.D.t0 (by omega) (Nat.le_of_ble_eq_true rfl) dX3_readIf_12 ?_
    refine xX3_step hX (by omega) (fun j1 hj1 => ?_)
    have hS1 : S j1 = g_sk B N (g_len 45 + S j) := by rw [hj1, hw.2.2.1, ← hw.2.1]; rfl
    refine q_aload_n hF 0 rfl rfl dX3_readIf_15 ?_
    refine q_iload_n hF 1 rfl rfl dX3_readIf_16 ?_
    refine q_iconst hF dX3_readIf_17 ?_
    refine q_iadd hF dX3_readIf_18 ?_
    refine q_callV (kc := 0) (ks := 0) (mc' := 0) (ms' := 0) (h' := 4 + 3 * (3 - (o + 1))) (st := []) hF vl_RX3_228 rfl [qI ((o : Int) + 1)] rfl rfl hX.D.t0 (by omega) (Nat.le_of_ble_eq_true rfl) dX3_readIf_19 ?_
    refine ihF (o + 1) (g_len 45 + S j) j1 (by omega) (by have := g_TK_le hX.O.tk hj; have : g_len 45 + S j = E j := hw.2.1; omega) hS1 _ _ _ _ _ _ _ (by omega) (by omega) (g_bd_nz1 (by rw [hr]; exact hne)) (fun p2 z2 j2 n2 e2 h2 => ?_) (fun w2 x2 j2 n2 fl2 pl2 kk2 C2 e2 b2 h2 => ?_)
    · rw [e2, g_bd_k] at hr
      refine q_ifeq hF (by decide) dX3_readIf_22 (fun c22 => ?_) (fun c22 => ?_)
      · exact absurd c22 (by decide)
      · refine q_aload_n hF 0 rfl rfl dX3_readIf_25 ?_
        refine q_getsE hF (i := 15) (by decide) (q_mem 1265 (by decide +kernel) rfl) dX3_readIf_26 ?_
        refine q_callV (kc := 0) (ks := 0) (mc' := 0) (ms' := 0) (h' := 0) (st := []) hF vl_RX3_105 rfl [.ref (q_E G 15)] rfl rfl hX.D.t0 (by omega) (Nat.le_of_ble_eq_true rfl) dX3_readIf_29 ?_
        refine xX3_takeWord hX (by omega) (by decide) (fun c3 => ?_) (fun j3 hj3 c3 s3 => ?_)
        · rw [show g_mst B N 46 p2 = g_Re.er 1 (S j2) from g_mst_n (i := 15) hX.O.tk (by omega) (by decide) (by omega) c3, g_bd_e] at hr
          refine q_ifeq hF (by decide) dX3_readIf_32 (fun c32 => ?_) (fun c32 => ?_)
          · refine q_iconst hF dX3_readIf_45 ?_
            refine q_zreturn hF (by decide) rfl dX3_readIf_46 ?_
            exact k1 1 (S j2) _ _ _ _ _ _ hr.symm (Or.inl ⟨rfl, rfl, rfl⟩) (by (try simp only [List.length_append, List.length_cons, List.length_nil]); omega)
          · exact absurd c32 (by decide)
        · rw [show g_mst B N 46 p2 = g_Re.ok (E j2) [] from g_mst_y (i := 15) hX.O.tk (by omega) (by decide) (by omega) c3, g_bd_k] at hr
          refine q_ifeq hF (by decide) dX3_readIf_32 (fun c32 => ?_) (fun c32 => ?_)
          · exact absurd c32 (by decide)
          · refine q_aload_n hF 0 rfl rfl dX3_readIf_35 ?_
            refine q_iload_n hF 1 rfl rfl dX3_readIf_36 ?_
            refine q_iconst hF dX3_readIf_37 ?_
            refine q_iadd hF dX3_readIf_38 ?_
            refine q_callV (kc := 0) (ks := 0) (mc' := 0) (ms' := 0) (h' := 4 + 3 * (3 - (o + 1))) (st := []) hF vl_RX3_228 rfl [qI ((o : Int) + 1)] rfl rfl hX.D.t0 (by omega) (Nat.le_of_ble_eq_true rfl) dX3_readIf_39 ?_
            refine ihF (o + 1) (E j2) j3 (by omega) (by have := g_TK_le hX.O.tk (show j2 ≤ c by omega); omega) s3.2.2 _ _ _ _ _ _ _ (by omega) (by omega) (g_bd_nz1 (by rw [hr]; exact hne)) (fun p4 z4 j4 n4 e4 h4 => ?_) (fun w4 x4 j4 n4 fl4 pl4 kk4 C4 e4 b4 h4 => ?_)
            · rw [e4, g_bd_k] at hr
              refine q_ifne hF (by decide) dX3_readIf_42 (fun c42 => ?_) (fun c42 => ?_)
              · refine q_aload_n hF 0 rfl rfl dX3_readIf_47 ?_
                refine q_getsE hF (i := 16) (by decide) (q_mem 1267 (by decide +kernel) rfl) dX3_readIf_48 ?_
                refine q_callV (kc := 0) (ks := 0) (mc' := 0) (ms' := 0) (h' := 0) (st := []) hF vl_RX3_105 rfl [.ref (q_E G 16)] rfl rfl hX.D.t0 (by omega) (Nat.le_of_ble_eq_true rfl) dX3_readIf_51 ?_
                refine xX3_takeWord hX (by omega) (by decide) (fun c5 => ?_) (fun j5 hj5 c5 s5 => ?_)
                · rw [show g_mst B N 47 p4 = g_Re.er 1 (S j4) from g_mst_n (i := 16) hX.O.tk (by omega) (by decide) (by omega) c5, g_bd_e] at hr
                  refine q_ifeq hF (by decide) dX3_readIf_54 (fun c54 => ?_) (fun c54 => ?_)
                  · refine q_iconst hF dX3_readIf_67 ?_
                    refine q_zreturn hF (by decide) rfl dX3_readIf_68 ?_
                    exact k1 1 (S j4) _ _ _ _ _ _ hr.symm (Or.inl ⟨rfl, rfl, rfl⟩) (by (try simp only [List.length_append, List.length_cons, List.length_nil]); omega)
                  · exact absurd c54 (by decide)
                · rw [show g_mst B N 47 p4 = g_Re.ok (E j4) [] from g_mst_y (i := 16) hX.O.tk (by omega) (by decide) (by omega) c5, g_bd_k] at hr
                  refine q_ifeq hF (by decide) dX3_readIf_54 (fun c54 => ?_) (fun c54 => ?_)
                  · exact absurd c54 (by decide)
                  · refine q_aload_n hF 0 rfl rfl dX3_readIf_57 ?_
                    refine q_iload_n hF 1 rfl rfl dX3_readIf_58 ?_
                    refine q_iconst hF dX3_readIf_59 ?_
                    refine q_iadd hF dX3_readIf_60 ?_
                    refine q_callV (kc := 0) (ks := 0) (mc' := 0) (ms' := 0) (h' := 4 + 3 * (3 - (o + 1))) (st := []) hF vl_RX3_228 rfl [qI ((o : Int) + 1)] rfl rfl hX.D.t0 (by omega) (Nat.le_of_ble_eq_true rfl) dX3_readIf_61 ?_
                    refine ihF (o + 1) (E j4) j5 (by omega) (by have := g_TK_le hX.O.tk (show j4 ≤ c by omega); omega) s5.2.2 _ _ _ _ _ _ _ (by omega) (by omega) (g_bd_nz1 (by rw [hr]; exact hne)) (fun p6 z6 j6 n6 e6 h6 => ?_) (fun w6 x6 j6 n6 fl6 pl6 kk6 C6 e6 b6 h6 => ?_)
                    · rw [e6, g_bd_k] at hr
                      refine q_ifne hF (by decide) dX3_readIf_64 (fun c64 => ?_) (fun c64 => ?_)
                      · refine q_aload_n hF 0 rfl rfl dX3_readIf_69 ?_
                        refine q_getsE hF (i := 17) (by decide) (q_mem 1269 (by decide +kernel) rfl) dX3_readIf_70 ?_
                        refine q_callV (kc := 0) (ks := 0) (mc' := 0) (ms' := 0) (h' := 0) (st := []) hF vl_RX3_105 rfl [.ref (q_E G 17)] rfl rfl hX.D.t0 (by omega) (Nat.le_of_ble_eq_true rfl) dX3_readIf_73 ?_
                        refine xX3_takeWord hX (by omega) (by decide) (fun c7 => ?_) (fun j7 hj7 c7 s7 => ?_)
                        · rw [show g_mst B N 48 p6 = g_Re.er 1 (S j6) from g_mst_n (i := 17) hX.O.tk (by omega) (by decide) (by omega) c7, g_bd_e] at hr
                          refine q_ifeq hF (by decide) dX3_readIf_76 (fun c76 => ?_) (fun c76 => ?_)
                          · refine q_iconst hF dX3_readIf_89 ?_
                            refine q_zreturn hF (by decide) rfl dX3_readIf_90 ?_
                            exact k1 1 (S j6) _ _ _ _ _ _ hr.symm (Or.inl ⟨rfl, rfl, rfl⟩) (by (try simp only [List.length_append, List.length_cons, List.length_nil]); omega)
                          · exact absurd c76 (by decide)
                        · rw [show g_mst B N 48 p6 = g_Re.ok (E j6) [] from g_mst_y (i := 17) hX.O.tk (by omega) (by decide) (by omega) c7, g_bd_k] at hr
                          refine q_ifeq hF (by decide) dX3_readIf_76 (fun c76 => ?_) (fun c76 => ?_)
                          · exact absurd c76 (by decide)
                          · refine q_aload_n hF 0 rfl rfl dX3_readIf_79 ?_
                            refine q_iload_n hF 1 rfl rfl dX3_readIf_80 ?_
                            refine q_iconst hF dX3_readIf_81 ?_
                            refine q_iadd hF dX3_readIf_82 ?_
                            refine q_callV (kc := 0) (ks := 0) (mc' := 0) (ms' := 0) (h' := 4 + 3 * (3 - (o + 1))) (st := []) hF vl_RX3_228 rfl [qI ((o : Int) + 1)] rfl rfl hX.D.t0 (by omega) (Nat.le_of_ble_eq_true rfl) dX3_readIf_83 ?_
                            refine ihF (o + 1) (E j6) j7 (by omega) (by have := g_TK_le hX.O.tk (show j6 ≤ c by omega); omega) s7.2.2 _ _ _ _ _ _ _ (by omega) (by omega) (g_bd_nz1 (by rw [hr]; exact hne)) (fun p8 z8 j8 n8 e8 h8 => ?_) (fun w8 x8 j8 n8 fl8 pl8 kk8 C8 e8 b8 h8 => ?_)
                            · rw [e8, g_bd_k] at hr
                              refine q_ifne hF (by decide) dX3_readIf_86 (fun c86 => ?_) (fun c86 => ?_)
                              · refine q_aload_n hF 0 rfl rfl dX3_readIf_91 ?_
                                refine q_getA hF fl_RX3_18 rfl hX.D.t0 hX.P7 dX3_readIf_92 ?_
                                refine q_bipush hF (n := -10) rfl dX3_readIf_95 ?_
                                refine q_callV (kc := 0) (ks := 0) (mc' := 0) (ms' := 0) (h' := 0) (st := []) hF vl_RX3_253 rfl [qI (-10)] rfl rfl hX.U.t0 (by omega) (Nat.le_of_ble_eq_true rfl) dX3_readIf_97 ?_
                                refine xX4_addCode hX (by omega) ?_
                                refine q_iconst hF dX3_readIf_100 ?_
                                refine q_zreturn hF (by decide) rfl dX3_readIf_101 ?_
                                refine q_Qxs (k0 p8 (z2 ++ z4 ++ z6 ++ z8 ++ [-10]) j8 _ hr.symm (by (try simp only [List.length_append, List.length_cons, List.length_nil]); omega)) ?_ ?_
                                · (try simp only [List.length_append, List.length_cons, List.length_nil, Nat.add_assoc]); try rfl
                                · (try simp only [g_app_app, List.length_append, Nat.add_assoc]); try rfl
                              · exact absurd c86 (by decide)
                            · rw [e8, g_bd_e] at hr
                              refine q_ifne hF (by decide) dX3_readIf_86 (fun c86 => ?_) (fun c86 => ?_)
                              · exact absurd c86 (by decide)
                              · refine q_iconst hF dX3_readIf_89 ?_
                                refine q_zreturn hF (by decide) rfl dX3_readIf_90 ?_
                                exact k1 w8 x8 _ _ _ _ _ _ hr.symm b8 (by omega)
                      · exact absurd c64 (by decide)
                    · rw [e6, g_bd_e] at hr
                      refine q_ifne hF (by decide) dX3_readIf_64 (fun c64 => ?_) (fun c64 => ?_)
                      · exact absurd c64 (by decide)
                      · refine q_iconst hF dX3_readIf_67 ?_
                        refine q_zreturn hF (by decide) rfl dX3_readIf_68 ?_
                        exact k1 w6 x6 _ _ _ _ _ _ hr.symm b6 (by omega)
              · exact absurd c42 (by decide)
            · rw [e4, g_bd_e] at hr
              refine q_ifne hF (by decide) dX3_readIf_42 (fun c42 => ?_) (fun c42 => ?_)
              · exact absurd c42 (by decide)
              · refine q_iconst hF dX3_readIf_45 ?_
                refine q_zreturn hF (by decide) rfl dX3_readIf_46 ?_
                exact k1 w4 x4 _ _ _ _ _ _ hr.symm b4 (by omega)
    · rw [e2, g_bd_e] at hr
      refine q_ifeq hF (by decide) dX3_readIf_22 (fun c22 => ?_) (fun c22 => ?_)
      · refine q_iconst hF dX3_readIf_45 ?_
        refine q_zreturn hF (by decide) rfl dX3_readIf_46 ?_
        exact k1 w2 x2 _ _ _ _ _ _ hr.symm b2 (by omega)
      · exact absurd c22 (by decide)
  · rw [if_pos (by omega)] at hr
    refine q_aload_n hF 0 rfl rfl dX3_readIf_5 ?_
    refine q_iconst hF dX3_readIf_6 ?_
    refine q_callV (kc := 0) (ks := 0) (mc' := 0) (ms' := 0) (h' := 0) (st := []) hF vl_RX3_68 rfl [qI 5] rfl rfl hX.D.t0 (by omega) (Nat.le_of_ble_eq_true rfl) dX3_readIf_7 ?_
    refine xX3_fail hX (by omega) ?_
    refine q_zreturn hF (by decide) rfl dX3_readIf_10 ?_
    exact k1 5 (S j) _ _ _ _ _ _ hr.symm (Or.inr ⟨rfl, by decide, rfl⟩) (by (try simp only [List.length_append, List.length_cons, List.length_nil]); omega)
set_option maxRecDepth 100000 in
theorem xX3_readBracket0 {G : q_G} {T : q_T} {I : q_I} {P : q_P} {a u by_ c N : Nat} {B : Nat → Int} {S E : Nat → Nat} (hX : q_XE G T I P a u by_ c N B S E) {f : Nat} (ihS : ∀ (o p j : Nat), o ≤ 3 → p ≤ N → S j = g_sk B N p → q_XK G T I P a u c N B S YX3_readSum (5 + 3 * (3 - o)) [qI (o : Int)] j (g_ex B N f 3 o p)) : ∀ (o j : Nat), o ≤ 3 → g_bt B N (S j) = 40 → q_XK G T I P a u c N B S YX3_readBracket (3 + 3 * (3 - o)) [qI (o : Int), qI 0] j (g_facB B N (g_ex B N f) o (S j)) := by
  intro o j ho b40 sz L Q nu pl kk C hj hkk hne k0 k1
  have hc6 : c ≤ 600 := by have := hX.O.tk.1; have := hX.O.n6; omega
  have hXau := hX.au
  generalize hr : g_facB B N (g_ex B N f) o (S j) = r at hne k0 k1
  unfold g_facB at hr
  show qC G (3 + 3 * (3 - o)) 0 0 YX3_readBracket [.ref a, qI (o : Int), qI 0] sz T (q_xs I a u j nu 0 pl kk C) L P Q
  refine qC_of (by decide +kernel) rfl rfl (Nat.le_of_ble_eq_true rfl) (fun F hF _ _ => ?_)
  refine q_aload_n hF 0 rfl rfl dX3_readBracket_0 ?_
  refine q_getA hF fl_RX3_22 rfl hX.D.t0 hX.D.p1 dX3_readBracket_1 ?_
  refine q_aload_n hF 0 rfl rfl dX3_readBracket_4 ?_
  refine q_getIv hF (z := (j : Int)) fl_RX3_37 hX.D.t0 q_xs_5 dX3_readBracket_5 ?_
  refine q_ialoadv hF (z := g_so B N (S j)) (n := 601) j hX.D.t1 rfl (by omega) (by decide) ((hX.O.xs hX.au).so _ (by omega)) dX3_readBracket_8 ?_
  refine q_bipush hF (n := 40) rfl dX3_readBracket_9 ?_
  refine q_icmpeq hF (by have := g_so_r hX.O.br (g_TK_le hX.O.tk (show j ≤ c by omega)).1; omega) (by decide) dX3_readBracket_11 (fun c11 => ?_) (fun c11 => ?_)
  · skip
    refine q_iload_n hF 1 rfl rfl dX3_readBracket_16 ?_
    refine q_iconst hF dX3_readBracket_17 ?_
    refine q_icmplt hF (by omega) (by decide) dX3_readBracket_18 (fun c18 => ?_) (fun c18 => ?_)
    · rw [if_neg (by omega)] at hr
      have hw := g_sg_end hX.O.tk hj (by decide) b40
      refine q_aload_n hF 0 rfl rfl dX3_readBracket_27 ?_
      refine q_callV (kc := 0) (ks := 0) (mc' := 0) (ms' := 0) (h' := 0) (st := []) hF vl_RX3_92 rfl [] rfl rfl hX.D.t0 (by omega) (Nat.le_of_ble_eq_true rfl) dX3_readBracket_28 ?_
      refine xX3_step hX (by omega) (fun j1 hj1 => ?_)
      have hS1 : S j1 = g_sk B N (1 + S j) := by rw [hj1, hw.2.2]
      refine q_aload_n hF 0 rfl rfl dX3_readBracket_31 ?_
      refine q_iload_n hF 1 rfl rfl dX3_readBracket_32 ?_
      refine q_iconst hF dX3_readBracket_33 ?_
      refine q_iadd hF dX3_readBracket_34 ?_
      refine q_callV (kc := 0) (ks := 0) (mc' := 0) (ms' := 0) (h' := 5 + 3 * (3 - (o + 1))) (st := []) hF vl_RX3_200 rfl [qI ((o : Int) + 1)] rfl rfl hX.D.t0 (by omega) (Nat.le_of_ble_eq_true rfl) dX3_readBracket_35 ?_
      refine ihS (o + 1) (1 + S j) j1 (by omega) (by have := g_TK_le hX.O.tk hj; omega) hS1 _ _ _ _ _ _ _ (by omega) (by omega) (g_bd_nz1 (by rw [hr]; exact hne)) (fun p2 z2 j2 n2 e2 h2 => ?_) (fun w2 x2 j2 n2 fl2 pl2 kk2 C2 e2 b2 h2 => ?_)
      · rw [e2, g_bd_k] at hr
        refine q_ifne hF (by decide) dX3_readBracket_38 (fun c38 => ?_) (fun c38 => ?_)
        · refine q_iload_n hF 2 rfl rfl dX3_readBracket_43 ?_
          refine q_ifeq hF (by decide) dX3_readBracket_44 (fun c44 => ?_) (fun c44 => ?_)
          · refine q_aload_n hF 0 rfl rfl dX3_readBracket_77 ?_
            refine q_bipush hF (n := 41) rfl dX3_readBracket_78 ?_
            refine q_callV (kc := 0) (ks := 0) (mc' := 0) (ms' := 0) (h' := 0) (st := []) hF vl_RX3_64 rfl [qI 41] rfl rfl hX.D.t0 (by omega) (Nat.le_of_ble_eq_true rfl) dX3_readBracket_80 ?_
            refine xX3_takeSign hX (by omega) (by decide) (fun c3 => ?_) (fun j3 hj3 c3 s3 => ?_)
            · rw [g_sig_n (show S j2 = g_sk B N p2 by omega) c3, g_bd_e] at hr
              refine q_zreturn hF (by decide) rfl dX3_readBracket_83 ?_
              exact k1 1 (S j2) _ _ _ _ _ _ hr.symm (Or.inl ⟨rfl, rfl, rfl⟩) (by (try simp only [List.length_append, List.length_cons, List.length_nil]); omega)
            · have htk2 := g_TK_le hX.O.tk (show j2 ≤ c by omega)
              rw [g_sig_y (show S j2 = g_sk B N p2 by omega) c3, g_bd_k] at hr
              refine q_zreturn hF (by decide) rfl dX3_readBracket_83 ?_
              refine q_Qxs (k0 (1 + S j2) (z2) j3 _ hr.symm (by (try simp only [List.length_append, List.length_cons, List.length_nil]); omega)) ?_ ?_
              · (try simp only [List.length_append, List.length_cons, List.length_nil, Nat.add_assoc]); try rfl
              · (try simp only [g_app_app, List.length_append, Nat.add_assoc]); try rfl
          · exact absurd c44 (by decide)
        · exact absurd c38 (by decide)
      · rw [e2, g_bd_e] at hr
        refine q_ifne hF (by decide) dX3_readBracket_38 (fun c38 => ?_) (fun c38 => ?_)
        · exact absurd c38 (by decide)
        · refine q_iconst hF dX3_readBracket_41 ?_
          refine q_zreturn hF (by decide) rfl dX3_readBracket_42 ?_
          exact k1 w2 x2 _ _ _ _ _ _ hr.symm b2 (by omega)
    · rw [if_pos (by omega)] at hr
      refine q_aload_n hF 0 rfl rfl dX3_readBracket_21 ?_
      refine q_iconst hF dX3_readBracket_22 ?_
      refine q_callV (kc := 0) (ks := 0) (mc' := 0) (ms' := 0) (h' := 0) (st := []) hF vl_RX3_68 rfl [qI 5] rfl rfl hX.D.t0 (by omega) (Nat.le_of_ble_eq_true rfl) dX3_readBracket_23 ?_
      refine xX3_fail hX (by omega) ?_
      refine q_zreturn hF (by decide) rfl dX3_readBracket_26 ?_
      exact k1 5 (S j) _ _ _ _ _ _ hr.symm (Or.inr ⟨rfl, by decide, rfl⟩) (by (try simp only [List.length_append, List.length_cons, List.length_nil]); omega)
  · refine q_iconst hF dX3_readBracket_14 ?_
    refine q_zreturn hF (by decide) rfl dX3_readBracket_15 ?_
    exact absurd ((g_so_sg hX.O.br (g_TK_le hX.O.tk hj).1 (by decide)).mpr b40) c11
set_option maxRecDepth 100000 in
theorem xX3_readBracket1 {G : q_G} {T : q_T} {I : q_I} {P : q_P} {a u by_ c N : Nat} {B : Nat → Int} {S E : Nat → Nat} (hX : q_XE G T I P a u by_ c N B S E) {f : Nat} (ihS : ∀ (o p j : Nat), o ≤ 3 → p ≤ N → S j = g_sk B N p → q_XK G T I P a u c N B S YX3_readSum (5 + 3 * (3 - o)) [qI (o : Int)] j (g_ex B N f 3 o p)) : ∀ (o j : Nat), o ≤ 3 → q_XK G T I P a u c N B S YX3_readBracket (3 + 3 * (3 - o)) [qI (o : Int), qI 1] j (g_facM B N (g_ex B N f) o (S j)) := by
  intro o j ho sz L Q nu pl kk C hj hkk hne k0 k1
  have hc6 : c ≤ 600 := by have := hX.O.tk.1; have := hX.O.n6; omega
  have hXau := hX.au
  generalize hr : g_facM B N (g_ex B N f) o (S j) = r at hne k0 k1
  unfold g_facM at hr
  show qC G (3 + 3 * (3 - o)) 0 0 YX3_readBracket [.ref a, qI (o : Int), qI 1] sz T (q_xs I a u j nu 0 pl kk C) L P Q
  refine qC_of (by decide +kernel) rfl rfl (Nat.le_of_ble_eq_true rfl) (fun F hF _ _ => ?_)
  refine q_aload_n hF 0 rfl rfl dX3_readBracket_0 ?_
  refine q_getA hF fl_RX3_22 rfl hX.D.t0 hX.D.p1 dX3_readBracket_1 ?_
  refine q_aload_n hF 0 rfl rfl dX3_readBracket_4 ?_
  refine q_getIv hF (z := (j : Int)) fl_RX3_37 hX.D.t0 q_xs_5 dX3_readBracket_5 ?_
  refine q_ialoadv hF (z := g_so B N (S j)) (n := 601) j hX.D.t1 rfl (by omega) (by decide) ((hX.O.xs hX.au).so _ (by omega)) dX3_readBracket_8 ?_
  refine q_bipush hF (n := 40) rfl dX3_readBracket_9 ?_
  refine q_icmpeq hF (by have := g_so_r hX.O.br (g_TK_le hX.O.tk (show j ≤ c by omega)).1; omega) (by decide) dX3_readBracket_11 (fun c11 => ?_) (fun c11 => ?_)
  · have b40 := (g_so_sg hX.O.br (g_TK_le hX.O.tk hj).1 (by decide)).mp c11
    rw [if_pos b40] at hr
    refine q_iload_n hF 1 rfl rfl dX3_readBracket_16 ?_
    refine q_iconst hF dX3_readBracket_17 ?_
    refine q_icmplt hF (by omega) (by decide) dX3_readBracket_18 (fun c18 => ?_) (fun c18 => ?_)
    · rw [if_neg (by omega)] at hr
      have hw := g_sg_end hX.O.tk hj (by decide) b40
      refine q_aload_n hF 0 rfl rfl dX3_readBracket_27 ?_
      refine q_callV (kc := 0) (ks := 0) (mc' := 0) (ms' := 0) (h' := 0) (st := []) hF vl_RX3_92 rfl [] rfl rfl hX.D.t0 (by omega) (Nat.le_of_ble_eq_true rfl) dX3_readBracket_28 ?_
      refine xX3_step hX (by omega) (fun j1 hj1 => ?_)
      have hS1 : S j1 = g_sk B N (1 + S j) := by rw [hj1, hw.2.2]
      refine q_aload_n hF 0 rfl rfl dX3_readBracket_31 ?_
      refine q_iload_n hF 1 rfl rfl dX3_readBracket_32 ?_
      refine q_iconst hF dX3_readBracket_33 ?_
      refine q_iadd hF dX3_readBracket_34 ?_
      refine q_callV (kc := 0) (ks := 0) (mc' := 0) (ms' := 0) (h' := 5 + 3 * (3 - (o + 1))) (st := []) hF vl_RX3_200 rfl [qI ((o : Int) + 1)] rfl rfl hX.D.t0 (by omega) (Nat.le_of_ble_eq_true rfl) dX3_readBracket_35 ?_
      refine ihS (o + 1) (1 + S j) j1 (by omega) (by have := g_TK_le hX.O.tk hj; omega) hS1 _ _ _ _ _ _ _ (by omega) (by omega) (g_bd_nz1 (by rw [hr]; exact hne)) (fun p2 z2 j2 n2 e2 h2 => ?_) (fun w2 x2 j2 n2 fl2 pl2 kk2 C2 e2 b2 h2 => ?_)
      · rw [e2, g_bd_k] at hr
        refine q_ifne hF (by decide) dX3_readBracket_38 (fun c38 => ?_) (fun c38 => ?_)
        · refine q_iload_n hF 2 rfl rfl dX3_readBracket_43 ?_
          refine q_ifeq hF (by decide) dX3_readBracket_44 (fun c44 => ?_) (fun c44 => ?_)
          · exact absurd c44 (by decide)
          · refine q_aload_n hF 0 rfl rfl dX3_readBracket_47 ?_
            refine q_bipush hF (n := 44) rfl dX3_readBracket_48 ?_
            refine q_callV (kc := 0) (ks := 0) (mc' := 0) (ms' := 0) (h' := 0) (st := []) hF vl_RX3_64 rfl [qI 44] rfl rfl hX.D.t0 (by omega) (Nat.le_of_ble_eq_true rfl) dX3_readBracket_50 ?_
            refine xX3_takeSign hX (by omega) (by decide) (fun c3 => ?_) (fun j3 hj3 c3 s3 => ?_)
            · rw [g_sig_n (show S j2 = g_sk B N p2 by omega) c3, g_bd_e] at hr
              refine q_ifeq hF (by decide) dX3_readBracket_53 (fun c53 => ?_) (fun c53 => ?_)
              · refine q_iconst hF dX3_readBracket_66 ?_
                refine q_zreturn hF (by decide) rfl dX3_readBracket_67 ?_
                exact k1 1 (S j2) _ _ _ _ _ _ hr.symm (Or.inl ⟨rfl, rfl, rfl⟩) (by (try simp only [List.length_append, List.length_cons, List.length_nil]); omega)
              · exact absurd c53 (by decide)
            · have htk2 := g_TK_le hX.O.tk (show j2 ≤ c by omega)
              rw [g_sig_y (show S j2 = g_sk B N p2 by omega) c3, g_bd_k] at hr
              refine q_ifeq hF (by decide) dX3_readBracket_53 (fun c53 => ?_) (fun c53 => ?_)
              · exact absurd c53 (by decide)
              · refine q_aload_n hF 0 rfl rfl dX3_readBracket_56 ?_
                refine q_iload_n hF 1 rfl rfl dX3_readBracket_57 ?_
                refine q_iconst hF dX3_readBracket_58 ?_
                refine q_iadd hF dX3_readBracket_59 ?_
                refine q_callV (kc := 0) (ks := 0) (mc' := 0) (ms' := 0) (h' := 5 + 3 * (3 - (o + 1))) (st := []) hF vl_RX3_200 rfl [qI ((o : Int) + 1)] rfl rfl hX.D.t0 (by omega) (Nat.le_of_ble_eq_true rfl) dX3_readBracket_60 ?_
                refine ihS (o + 1) (1 + S j2) j3 (by omega) (by have := g_TK_le hX.O.tk (show j2 ≤ c by omega); omega) s3.2.2 _ _ _ _ _ _ _ (by omega) (by omega) (g_bd_nz1 (by rw [hr]; exact hne)) (fun p4 z4 j4 n4 e4 h4 => ?_) (fun w4 x4 j4 n4 fl4 pl4 kk4 C4 e4 b4 h4 => ?_)
                · rw [e4, g_bd_k] at hr
                  refine q_ifne hF (by decide) dX3_readBracket_63 (fun c63 => ?_) (fun c63 => ?_)
                  · refine q_aload_n hF 0 rfl rfl dX3_readBracket_68 ?_
                    refine q_getA hF fl_RX3_18 rfl hX.D.t0 hX.P7 dX3_readBracket_69 ?_
                    refine q_bipush hF (n := -9) rfl dX3_readBracket_72 ?_
                    refine q_callV (kc := 0) (ks := 0) (mc' := 0) (ms' := 0) (h' := 0) (st := []) hF vl_RX3_253 rfl [qI (-9)] rfl rfl hX.U.t0 (by omega) (Nat.le_of_ble_eq_true rfl) dX3_readBracket_74 ?_
                    refine xX4_addCode hX (by omega) ?_
                    refine q_aload_n hF 0 rfl rfl dX3_readBracket_77 ?_
                    refine q_bipush hF (n := 41) rfl dX3_readBracket_78 ?_
                    refine q_callV (kc := 0) (ks := 0) (mc' := 0) (ms' := 0) (h' := 0) (st := []) hF vl_RX3_64 rfl [qI 41] rfl rfl hX.D.t0 (by omega) (Nat.le_of_ble_eq_true rfl) dX3_readBracket_80 ?_
                    refine xX3_takeSign hX (by omega) (by decide) (fun c6 => ?_) (fun j6 hj6 c6 s6 => ?_)
                    · rw [g_sig_n (show S j4 = g_sk B N p4 by omega) c6, g_bd_e] at hr
                      refine q_zreturn hF (by decide) rfl dX3_readBracket_83 ?_
                      exact k1 1 (S j4) _ _ _ _ _ _ hr.symm (Or.inl ⟨rfl, rfl, rfl⟩) (by (try simp only [List.length_append, List.length_cons, List.length_nil]); omega)
                    · have htk4 := g_TK_le hX.O.tk (show j4 ≤ c by omega)
                      rw [g_sig_y (show S j4 = g_sk B N p4 by omega) c6, g_bd_k] at hr
                      refine q_zreturn hF (by decide) rfl dX3_readBracket_83 ?_
                      refine q_Qxs (k0 (1 + S j4) (z2 ++ z4 ++ [-9]) j6 _ hr.symm (by (try simp only [List.length_append, List.length_cons, List.length_nil]); omega)) ?_ ?_
                      · (try simp only [List.length_append, List.length_cons, List.length_nil, Nat.add_assoc]); try rfl
                      · (try simp only [g_app_app, List.length_append, Nat.add_assoc]); try rfl
                  · exact absurd c63 (by decide)
                · rw [e4, g_bd_e] at hr
                  refine q_ifne hF (by decide) dX3_readBracket_63 (fun c63 => ?_) (fun c63 => ?_)
                  · exact absurd c63 (by decide)
                  · refine q_iconst hF dX3_readBracket_66 ?_
                    refine q_zreturn hF (by decide) rfl dX3_readBracket_67 ?_
                    exact k1 w4 x4 _ _ _ _ _ _ hr.symm b4 (by omega)
        · exact absurd c38 (by decide)
      · rw [e2, g_bd_e] at hr
        refine q_ifne hF (by decide) dX3_readBracket_38 (fun c38 => ?_) (fun c38 => ?_)
        · exact absurd c38 (by decide)
        · refine q_iconst hF dX3_readBracket_41 ?_
          refine q_zreturn hF (by decide) rfl dX3_readBracket_42 ?_
          exact k1 w2 x2 _ _ _ _ _ _ hr.symm b2 (by omega)
    · rw [if_pos (by omega)] at hr
      refine q_aload_n hF 0 rfl rfl dX3_readBracket_21 ?_
      refine q_iconst hF dX3_readBracket_22 ?_
      refine q_callV (kc := 0) (ks := 0) (mc' := 0) (ms' := 0) (h' := 0) (st := []) hF vl_RX3_68 rfl [qI 5] rfl rfl hX.D.t0 (by omega) (Nat.le_of_ble_eq_true rfl) dX3_readBracket_23 ?_
      refine xX3_fail hX (by omega) ?_
      refine q_zreturn hF (by decide) rfl dX3_readBracket_26 ?_
      exact k1 5 (S j) _ _ _ _ _ _ hr.symm (Or.inr ⟨rfl, by decide, rfl⟩) (by (try simp only [List.length_append, List.length_cons, List.length_nil]); omega)
  · refine q_iconst hF dX3_readBracket_14 ?_
    refine q_zreturn hF (by decide) rfl dX3_readBracket_15 ?_
    rw [if_neg (fun h => c11 ((g_so_sg hX.O.br (g_TK_le hX.O.tk hj).1 (by decide)).mpr h))] at hr
    exact k1 1 (S j) _ _ _ _ _ _ hr.symm (Or.inl ⟨rfl, rfl, rfl⟩) (by (try simp only [List.length_append, List.length_cons, List.length_nil]); omega)
set_option maxRecDepth 100000 in
theorem bX3_readSum {G : q_G} {T : q_T} {I : q_I} {P : q_P} {a u by_ c N : Nat} {B : Nat → Int} {S E : Nat → Nat} (hX : q_XE G T I P a u by_ c N B S E) {F : q_F} {h kc ks sz : Nat} {L : q_I} {Q : q_Q} {o i j kk : Nat} {nu fl pl put : Int} {C : Nat → Int} (hF : q_ok G F YX3_readSum h) (hh : 5 ≤ h) (hi : i ≤ 600) (hput : put = 0 ∨ put = -5 ∨ put = -6) (hkk : kk + (g_po put).length ≤ 600) (k1 : Q (.inl (some (qI 0))) sz T (q_xs I a u j nu fl pl (kk + (g_po put).length) (g_app C kk (g_po put))) L P) : qX G F Q kc ks 11 [(4, qI (i : Int)), (3, qI 0), (0, .ref a), (1, qI (o : Int)), (2, qI put)] [] sz T (q_xs I a u j nu fl pl kk C) L P := by
  refine q_iload hF 0 rfl dX3_readSum_11 ?_
  refine q_sipush hF (n := 600) rfl dX3_readSum_13 ?_
  refine q_icmpgt hF (by omega) (by decide) dX3_readSum_16 (fun c16 => ?_) (fun c16 => ?_)
  · refine q_aload_n hF 2 rfl rfl dX3_readSum_95 ?_
    refine q_getA hF fl_RX3_18 rfl hX.D.t0 hX.P7 dX3_readSum_96 ?_
    refine q_iload_n hF 4 rfl rfl dX3_readSum_99 ?_
    refine q_callV (kc := kc) (ks := ks) (mc' := 0) (ms' := 0) (h' := 1) (st := []) hF vl_RX3_234 rfl [qI put] rfl rfl hX.U.t0 (by omega) (Nat.le_of_ble_eq_true rfl) dX3_readSum_100 ?_
    refine xX4_addSign hX (by omega) (by omega) ?_
    refine q_iload_n hF 1 rfl rfl dX3_readSum_103 ?_
    refine q_zreturn hF (by decide) rfl dX3_readSum_104 ?_
    exact k1
  · refine q_iload_n hF 1 rfl rfl dX3_readSum_19 ?_
    refine q_ifeq hF (by decide) dX3_readSum_20 (fun c20 => ?_) (fun c20 => ?_)
    · refine q_aload_n hF 2 rfl rfl dX3_readSum_95 ?_
      refine q_getA hF fl_RX3_18 rfl hX.D.t0 hX.P7 dX3_readSum_96 ?_
      refine q_iload_n hF 4 rfl rfl dX3_readSum_99 ?_
      refine q_callV (kc := kc) (ks := ks) (mc' := 0) (ms' := 0) (h' := 1) (st := []) hF vl_RX3_234 rfl [qI put] rfl rfl hX.U.t0 (by omega) (Nat.le_of_ble_eq_true rfl) dX3_readSum_100 ?_
      refine xX4_addSign hX (by omega) (by omega) ?_
      refine q_iload_n hF 1 rfl rfl dX3_readSum_103 ?_
      refine q_zreturn hF (by decide) rfl dX3_readSum_104 ?_
      exact k1
    · exact absurd c20 (by decide)
set_option maxRecDepth 100000 in
theorem lX3_readSum {G : q_G} {T : q_T} {I : q_I} {P : q_P} {a u by_ c N : Nat} {B : Nat → Int} {S E : Nat → Nat} (hX : q_XE G T I P a u by_ c N B S E) {f : Nat} (ihF : ∀ f' : Nat, f' < f → ∀ (o p j : Nat), o ≤ 3 → p ≤ N → S j = g_sk B N p → q_XK G T I P a u c N B S YX3_readFactor (4 + 3 * (3 - o)) [qI (o : Int)] j (g_ex B N f' 0 o p)) {F : q_F} {h kc ks sz : Nat} {L : q_I} {Q : q_Q} {o : Nat} {pl : Int} (hF : q_ok G F YX3_readSum h) (ho : o ≤ 3) (hh : 5 + 3 * (3 - o) ≤ h) : ∀ (n i j p f2 f4 kk : Nat) (put nu : Int) (C : Nat → Int) (r : g_Re), c - j < n → i ≤ j → j ≤ c → p ≤ N → S j = g_sk B N p → f2 ≤ f → f4 ≤ f → (put = 0 ∨ put = -5 ∨ put = -6) → kk + (g_po put).length ≤ j → g_mid B N f2 f4 o p put = r → r ≠ .er 0 0 → (∀ p' cs j' nu', r = .ok p' cs → (j ≤ j' ∧ j' ≤ c ∧ p' ≤ N ∧ S j' = g_sk B N p' ∧ cs.length + j ≤ j' + (g_po put).length) → Q (.inl (some (qI 1))) sz T (q_xs I a u j' nu' 0 pl (kk + cs.length) (g_app C kk cs)) L P) → (∀ w x j' nu' fl' pl' kk' C', r = .er w x → g_bad w x fl' pl' (S j') → (j ≤ j' ∧ j' ≤ c ∧ kk' + j ≤ kk + j' + (g_po put).length) → Q (.inl (some (qI 0))) sz T (q_xs I a u j' nu' fl' pl' kk' C') L P) → qX G F Q kc ks 11 [(4, qI (i : Int)), (3, qI 1), (0, .ref a), (1, qI (o : Int)), (2, qI put)] [] sz T (q_xs I a u j nu 0 pl kk C) L P := by
  intro n
  induction n with
  | zero => intro _ _ _ _ _ _ _ _ _ _ hn; exact absurd hn (Nat.not_lt_zero _)
  | succ n ih =>
    intro i j p f2 f4 kk put nu C r hn hi hj hp hS hf2 hf4 hput hkk hr hne k0 k1
    have hc6 : c ≤ 600 := by have := hX.O.tk.1; have := hX.O.n6; omega
    have hXau := hX.au
    have hq := g_sk_r (B := B) hp
    rw [← hS] at hq
    have hqq : g_sk B N (S j) = S j := by rw [hS]; exact g_sk_sk hp
    have hpl := g_po_le put
    cases f2 with
    | zero => exact absurd hr.symm hne
    | succ f2 =>
    by_cases b42 : g_bt B N (S j) = 42
    · rw [g_mid_mul (v := -7) hS.symm (Or.inl ⟨b42, rfl⟩)] at hr
      have hsg : g_sgo (g_bt B N (S j)) = -7 := by rw [b42]; rfl
      have hw := g_sg_end hX.O.tk hj (by decide) b42
      have htk := g_TK_le hX.O.tk hj
      have hgp : (g_po (-7)).length = 1 := rfl
      refine q_iload hF 0 rfl dX3_readSum_11 ?_
      refine q_sipush hF (n := 600) rfl dX3_readSum_13 ?_
      refine q_icmpgt hF (by omega) (by decide) dX3_readSum_16 (fun c16 => ?_) (fun c16 => ?_)
      · omega
      · refine q_iload_n hF 1 rfl rfl dX3_readSum_19 ?_
        refine q_ifeq hF (by decide) dX3_readSum_20 (fun c20 => ?_) (fun c20 => ?_)
        · exact absurd c20 (by decide)
        · refine q_aload_n hF 2 rfl rfl dX3_readSum_23 ?_
          refine q_callV (kc := kc) (ks := ks) (mc' := 0) (ms' := 0) (h' := 0) (st := []) hF vl_RX3_231 rfl [] rfl rfl hX.D.t0 (by omega) (Nat.le_of_ble_eq_true rfl) dX3_readSum_24 ?_
          refine xX3_signInHand hX (by omega) hsg ?_
          refine q_ifeq hF (by decide) dX3_readSum_27 (fun c27 => ?_) (fun c27 => ?_)
          · exact absurd c27 (by decide)
          · refine q_aload_n hF 2 rfl rfl dX3_readSum_30 ?_
            refine q_callV (kc := kc) (ks := ks) (mc' := 0) (ms' := 0) (h' := 0) (st := []) hF vl_RX3_231 rfl [] rfl rfl hX.D.t0 (by omega) (Nat.le_of_ble_eq_true rfl) dX3_readSum_31 ?_
            refine xX3_signInHand hX (by omega) hsg ?_
            refine q_istore hF (ls' := [(5, qI (-7)), (4, qI (i : Int)), (3, qI 1), (0, .ref a), (1, qI (o : Int)), (2, qI put)]) (by decide) rfl dX3_readSum_34 ?_
            refine q_aload_n hF 3 rfl rfl dX3_readSum_36 ?_
            refine q_callV (kc := kc) (ks := ks) (mc' := 0) (ms' := 0) (h' := 0) (st := []) hF vl_RX3_92 rfl [] rfl rfl hX.D.t0 (by omega) (Nat.le_of_ble_eq_true rfl) dX3_readSum_37 ?_
            refine xX3_step hX (by omega) (fun j3 hj3 => ?_)
            have hS1 : S j3 = g_sk B N (1 + S j) := by rw [hj3, hw.2.2]
            refine q_iload hF 0 rfl dX3_readSum_40 ?_
            refine q_bipush hF (n := -5) rfl dX3_readSum_42 ?_
            refine q_icmpeq hF (by decide) (by decide) dX3_readSum_44 (fun c44 => ?_) (fun c44 => ?_)
            · exact absurd c44 (by decide)
            · refine q_iload hF 0 rfl dX3_readSum_47 ?_
              refine q_bipush hF (n := -6) rfl dX3_readSum_49 ?_
              refine q_icmpne hF (by decide) (by decide) dX3_readSum_51 (fun c51 => ?_) (fun c51 => ?_)
              · refine q_aload_n hF 3 rfl rfl dX3_readSum_74 ?_
                refine q_iload_n hF 4 rfl rfl dX3_readSum_75 ?_
                refine q_callV (kc := kc) (ks := ks) (mc' := 0) (ms' := 0) (h' := 4 + 3 * (3 - o)) (st := []) hF vl_RX3_228 rfl [qI (o : Int)] rfl rfl hX.D.t0 (by omega) (Nat.le_of_ble_eq_true rfl) dX3_readSum_76 ?_
                refine ihF f2 (by omega) o (1 + S j) j3 ho (by omega) hS1 _ _ _ _ _ _ _ (by omega) (by omega) (g_bd_nz1 (by rw [hr]; exact hne)) (fun p4 z4 j4 n4 e4 h4 => ?_) (fun w4 x4 j4 n4 fl4 pl4 kk4 C4 e4 b4 h4 => ?_)
                · rw [e4, g_bd_k] at hr
                  refine q_istore_n hF (ls' := [(3, qI 1), (5, qI (-7)), (4, qI (i : Int)), (0, .ref a), (1, qI (o : Int)), (2, qI put)]) rfl (by decide) rfl dX3_readSum_79 ?_
                  refine q_aload_n hF 3 rfl rfl dX3_readSum_80 ?_
                  refine q_getA hF fl_RX3_18 rfl hX.D.t0 hX.P7 dX3_readSum_81 ?_
                  refine q_iload hF 1 rfl dX3_readSum_84 ?_
                  refine q_callV (kc := kc) (ks := ks) (mc' := 0) (ms' := 0) (h' := 1) (st := []) hF vl_RX3_234 rfl [qI (-7)] rfl rfl hX.U.t0 (by omega) (Nat.le_of_ble_eq_true rfl) dX3_readSum_86 ?_
                  refine xX4_addSign hX (by omega) (by omega) ?_
                  refine q_iinc hF (z' := ((1 + i : Nat) : Int)) (ls' := [(4, qI ((1 + i : Nat) : Int)), (3, qI 1), (5, qI (-7)), (0, .ref a), (1, qI (o : Int)), (2, qI put)]) 2 rfl (by first | rfl | omega) (by decide) rfl dX3_readSum_89 ?_
                  refine q_goto hF dX3_readSum_92 ?_
                  refine q_sub [0, 1, 3, 4, 5] rfl ?_
                  refine ih (1 + i) j4 p4 f2 f4 _ put _ _ (g_mid B N f2 f4 o p4 put) (by omega) (by omega) (by omega) (by omega) (by omega) (by omega) (by omega) hput (by omega) rfl (g_pre_nz (by rw [hr]; exact hne)) (fun p' cs j' nu' e hh => ?_) (fun w x j' nu' fl' pl' kk' C' e b hh => ?_)
                  · refine q_Qxs (k0 p' ((z4 ++ [-7]) ++ cs) j' nu' (by rw [← hr, e, g_pre_k]) (by (try simp only [List.length_append, List.length_cons, List.length_nil]); omega)) ?_ ?_
                    · simp only [List.length_append, List.length_cons, List.length_nil]; omega
                    · simp only [g_app_app, List.length_append, List.length_cons, List.length_nil, Nat.add_assoc]; try rfl
                  · exact k1 w x j' nu' fl' pl' kk' C' (by rw [← hr, e, g_pre_e]) b (by omega)
                · rw [e4, g_bd_e] at hr
                  refine q_istore_n hF (ls' := [(3, qI 0), (5, qI (-7)), (4, qI (i : Int)), (0, .ref a), (1, qI (o : Int)), (2, qI put)]) rfl (by decide) rfl dX3_readSum_79 ?_
                  refine q_aload_n hF 3 rfl rfl dX3_readSum_80 ?_
                  refine q_getA hF fl_RX3_18 rfl hX.D.t0 hX.P7 dX3_readSum_81 ?_
                  refine q_iload hF 1 rfl dX3_readSum_84 ?_
                  refine q_callV (kc := kc) (ks := ks) (mc' := 0) (ms' := 0) (h' := 1) (st := []) hF vl_RX3_234 rfl [qI (-7)] rfl rfl hX.U.t0 (by omega) (Nat.le_of_ble_eq_true rfl) dX3_readSum_86 ?_
                  refine xX4_addSign hX (by omega) (by omega) ?_
                  refine q_iinc hF (z' := ((1 + i : Nat) : Int)) (ls' := [(4, qI ((1 + i : Nat) : Int)), (3, qI 0), (5, qI (-7)), (0, .ref a), (1, qI (o : Int)), (2, qI put)]) 2 rfl (by first | rfl | omega) (by decide) rfl dX3_readSum_89 ?_
                  refine q_goto hF dX3_readSum_92 ?_
                  refine q_sub [0, 1, 3, 4, 5] rfl ?_
                  exact bX3_readSum hX hF (by omega) (by omega) hput (by omega) (k1 w4 x4 _ _ _ _ _ _ hr.symm b4 (by omega))
              · exact absurd c51 (by decide)
    by_cases b47 : g_bt B N (S j) = 47
    · rw [g_mid_mul (v := -8) hS.symm (Or.inr ⟨b47, rfl⟩)] at hr
      have hsg : g_sgo (g_bt B N (S j)) = -8 := by rw [b47]; rfl
      have hw := g_sg_end hX.O.tk hj (by decide) b47
      have htk := g_TK_le hX.O.tk hj
      have hgp : (g_po (-8)).length = 1 := rfl
      refine q_iload hF 0 rfl dX3_readSum_11 ?_
      refine q_sipush hF (n := 600) rfl dX3_readSum_13 ?_
      refine q_icmpgt hF (by omega) (by decide) dX3_readSum_16 (fun c16 => ?_) (fun c16 => ?_)
      · omega
      · refine q_iload_n hF 1 rfl rfl dX3_readSum_19 ?_
        refine q_ifeq hF (by decide) dX3_readSum_20 (fun c20 => ?_) (fun c20 => ?_)
        · exact absurd c20 (by decide)
        · refine q_aload_n hF 2 rfl rfl dX3_readSum_23 ?_
          refine q_callV (kc := kc) (ks := ks) (mc' := 0) (ms' := 0) (h' := 0) (st := []) hF vl_RX3_231 rfl [] rfl rfl hX.D.t0 (by omega) (Nat.le_of_ble_eq_true rfl) dX3_readSum_24 ?_
          refine xX3_signInHand hX (by omega) hsg ?_
          refine q_ifeq hF (by decide) dX3_readSum_27 (fun c27 => ?_) (fun c27 => ?_)
          · exact absurd c27 (by decide)
          · refine q_aload_n hF 2 rfl rfl dX3_readSum_30 ?_
            refine q_callV (kc := kc) (ks := ks) (mc' := 0) (ms' := 0) (h' := 0) (st := []) hF vl_RX3_231 rfl [] rfl rfl hX.D.t0 (by omega) (Nat.le_of_ble_eq_true rfl) dX3_readSum_31 ?_
            refine xX3_signInHand hX (by omega) hsg ?_
            refine q_istore hF (ls' := [(5, qI (-8)), (4, qI (i : Int)), (3, qI 1), (0, .ref a), (1, qI (o : Int)), (2, qI put)]) (by decide) rfl dX3_readSum_34 ?_
            refine q_aload_n hF 3 rfl rfl dX3_readSum_36 ?_
            refine q_callV (kc := kc) (ks := ks) (mc' := 0) (ms' := 0) (h' := 0) (st := []) hF vl_RX3_92 rfl [] rfl rfl hX.D.t0 (by omega) (Nat.le_of_ble_eq_true rfl) dX3_readSum_37 ?_
            refine xX3_step hX (by omega) (fun j3 hj3 => ?_)
            have hS1 : S j3 = g_sk B N (1 + S j) := by rw [hj3, hw.2.2]
            refine q_iload hF 0 rfl dX3_readSum_40 ?_
            refine q_bipush hF (n := -5) rfl dX3_readSum_42 ?_
            refine q_icmpeq hF (by decide) (by decide) dX3_readSum_44 (fun c44 => ?_) (fun c44 => ?_)
            · exact absurd c44 (by decide)
            · refine q_iload hF 0 rfl dX3_readSum_47 ?_
              refine q_bipush hF (n := -6) rfl dX3_readSum_49 ?_
              refine q_icmpne hF (by decide) (by decide) dX3_readSum_51 (fun c51 => ?_) (fun c51 => ?_)
              · refine q_aload_n hF 3 rfl rfl dX3_readSum_74 ?_
                refine q_iload_n hF 4 rfl rfl dX3_readSum_75 ?_
                refine q_callV (kc := kc) (ks := ks) (mc' := 0) (ms' := 0) (h' := 4 + 3 * (3 - o)) (st := []) hF vl_RX3_228 rfl [qI (o : Int)] rfl rfl hX.D.t0 (by omega) (Nat.le_of_ble_eq_true rfl) dX3_readSum_76 ?_
                refine ihF f2 (by omega) o (1 + S j) j3 ho (by omega) hS1 _ _ _ _ _ _ _ (by omega) (by omega) (g_bd_nz1 (by rw [hr]; exact hne)) (fun p4 z4 j4 n4 e4 h4 => ?_) (fun w4 x4 j4 n4 fl4 pl4 kk4 C4 e4 b4 h4 => ?_)
                · rw [e4, g_bd_k] at hr
                  refine q_istore_n hF (ls' := [(3, qI 1), (5, qI (-8)), (4, qI (i : Int)), (0, .ref a), (1, qI (o : Int)), (2, qI put)]) rfl (by decide) rfl dX3_readSum_79 ?_
                  refine q_aload_n hF 3 rfl rfl dX3_readSum_80 ?_
                  refine q_getA hF fl_RX3_18 rfl hX.D.t0 hX.P7 dX3_readSum_81 ?_
                  refine q_iload hF 1 rfl dX3_readSum_84 ?_
                  refine q_callV (kc := kc) (ks := ks) (mc' := 0) (ms' := 0) (h' := 1) (st := []) hF vl_RX3_234 rfl [qI (-8)] rfl rfl hX.U.t0 (by omega) (Nat.le_of_ble_eq_true rfl) dX3_readSum_86 ?_
                  refine xX4_addSign hX (by omega) (by omega) ?_
                  refine q_iinc hF (z' := ((1 + i : Nat) : Int)) (ls' := [(4, qI ((1 + i : Nat) : Int)), (3, qI 1), (5, qI (-8)), (0, .ref a), (1, qI (o : Int)), (2, qI put)]) 2 rfl (by first | rfl | omega) (by decide) rfl dX3_readSum_89 ?_
                  refine q_goto hF dX3_readSum_92 ?_
                  refine q_sub [0, 1, 3, 4, 5] rfl ?_
                  refine ih (1 + i) j4 p4 f2 f4 _ put _ _ (g_mid B N f2 f4 o p4 put) (by omega) (by omega) (by omega) (by omega) (by omega) (by omega) (by omega) hput (by omega) rfl (g_pre_nz (by rw [hr]; exact hne)) (fun p' cs j' nu' e hh => ?_) (fun w x j' nu' fl' pl' kk' C' e b hh => ?_)
                  · refine q_Qxs (k0 p' ((z4 ++ [-8]) ++ cs) j' nu' (by rw [← hr, e, g_pre_k]) (by (try simp only [List.length_append, List.length_cons, List.length_nil]); omega)) ?_ ?_
                    · simp only [List.length_append, List.length_cons, List.length_nil]; omega
                    · simp only [g_app_app, List.length_append, List.length_cons, List.length_nil, Nat.add_assoc]; try rfl
                  · exact k1 w x j' nu' fl' pl' kk' C' (by rw [← hr, e, g_pre_e]) b (by omega)
                · rw [e4, g_bd_e] at hr
                  refine q_istore_n hF (ls' := [(3, qI 0), (5, qI (-8)), (4, qI (i : Int)), (0, .ref a), (1, qI (o : Int)), (2, qI put)]) rfl (by decide) rfl dX3_readSum_79 ?_
                  refine q_aload_n hF 3 rfl rfl dX3_readSum_80 ?_
                  refine q_getA hF fl_RX3_18 rfl hX.D.t0 hX.P7 dX3_readSum_81 ?_
                  refine q_iload hF 1 rfl dX3_readSum_84 ?_
                  refine q_callV (kc := kc) (ks := ks) (mc' := 0) (ms' := 0) (h' := 1) (st := []) hF vl_RX3_234 rfl [qI (-8)] rfl rfl hX.U.t0 (by omega) (Nat.le_of_ble_eq_true rfl) dX3_readSum_86 ?_
                  refine xX4_addSign hX (by omega) (by omega) ?_
                  refine q_iinc hF (z' := ((1 + i : Nat) : Int)) (ls' := [(4, qI ((1 + i : Nat) : Int)), (3, qI 0), (5, qI (-8)), (0, .ref a), (1, qI (o : Int)), (2, qI put)]) 2 rfl (by first | rfl | omega) (by decide) rfl dX3_readSum_89 ?_
                  refine q_goto hF dX3_readSum_92 ?_
                  refine q_sub [0, 1, 3, 4, 5] rfl ?_
                  exact bX3_readSum hX hF (by omega) (by omega) hput (by omega) (k1 w4 x4 _ _ _ _ _ _ hr.symm b4 (by omega))
              · exact absurd c51 (by decide)
    by_cases b43 : g_bt B N (S j) = 43
    · cases f4 with
      | zero => exact absurd (hr.symm.trans (g_mid_z4 hS.symm ⟨b42, b47⟩)) hne
      | succ f4 =>
        cases f4 with
        | zero => exact absurd (hr.symm.trans (g_mid_z5 hS.symm hqq (Or.inl b43))) hne
        | succ f4 =>
          rw [g_mid_add (v := -5) hS.symm hqq (Or.inl ⟨b43, rfl⟩)] at hr
          have hsg : g_sgo (g_bt B N (S j)) = -5 := by rw [b43]; rfl
          have hw := g_sg_end hX.O.tk hj (by decide) b43
          have htk := g_TK_le hX.O.tk hj
          have hgp : (g_po (-5)).length = 1 := rfl
          refine q_iload hF 0 rfl dX3_readSum_11 ?_
          refine q_sipush hF (n := 600) rfl dX3_readSum_13 ?_
          refine q_icmpgt hF (by omega) (by decide) dX3_readSum_16 (fun c16 => ?_) (fun c16 => ?_)
          · omega
          · refine q_iload_n hF 1 rfl rfl dX3_readSum_19 ?_
            refine q_ifeq hF (by decide) dX3_readSum_20 (fun c20 => ?_) (fun c20 => ?_)
            · exact absurd c20 (by decide)
            · refine q_aload_n hF 2 rfl rfl dX3_readSum_23 ?_
              refine q_callV (kc := kc) (ks := ks) (mc' := 0) (ms' := 0) (h' := 0) (st := []) hF vl_RX3_231 rfl [] rfl rfl hX.D.t0 (by omega) (Nat.le_of_ble_eq_true rfl) dX3_readSum_24 ?_
              refine xX3_signInHand hX (by omega) hsg ?_
              refine q_ifeq hF (by decide) dX3_readSum_27 (fun c27 => ?_) (fun c27 => ?_)
              · exact absurd c27 (by decide)
              · refine q_aload_n hF 2 rfl rfl dX3_readSum_30 ?_
                refine q_callV (kc := kc) (ks := ks) (mc' := 0) (ms' := 0) (h' := 0) (st := []) hF vl_RX3_231 rfl [] rfl rfl hX.D.t0 (by omega) (Nat.le_of_ble_eq_true rfl) dX3_readSum_31 ?_
                refine xX3_signInHand hX (by omega) hsg ?_
                refine q_istore hF (ls' := [(5, qI (-5)), (4, qI (i : Int)), (3, qI 1), (0, .ref a), (1, qI (o : Int)), (2, qI put)]) (by decide) rfl dX3_readSum_34 ?_
                refine q_aload_n hF 3 rfl rfl dX3_readSum_36 ?_
                refine q_callV (kc := kc) (ks := ks) (mc' := 0) (ms' := 0) (h' := 0) (st := []) hF vl_RX3_92 rfl [] rfl rfl hX.D.t0 (by omega) (Nat.le_of_ble_eq_true rfl) dX3_readSum_37 ?_
                refine xX3_step hX (by omega) (fun j3 hj3 => ?_)
                have hS1 : S j3 = g_sk B N (1 + S j) := by rw [hj3, hw.2.2]
                refine q_iload hF 0 rfl dX3_readSum_40 ?_
                refine q_bipush hF (n := -5) rfl dX3_readSum_42 ?_
                refine q_icmpeq hF (by decide) (by decide) dX3_readSum_44 (fun c44 => ?_) (fun c44 => ?_)
                · refine q_aload_n hF 3 rfl rfl dX3_readSum_54 ?_
                  refine q_getA hF fl_RX3_18 rfl hX.D.t0 hX.P7 dX3_readSum_55 ?_
                  refine q_iload_n hF 5 rfl rfl dX3_readSum_58 ?_
                  refine q_callV (kc := kc) (ks := ks) (mc' := 0) (ms' := 0) (h' := 1) (st := []) hF vl_RX3_234 rfl [qI put] rfl rfl hX.U.t0 (by omega) (Nat.le_of_ble_eq_true rfl) dX3_readSum_59 ?_
                  refine xX4_addSign hX (by omega) (by omega) ?_
                  refine q_iload hF 0 rfl dX3_readSum_62 ?_
                  refine q_istore_n hF (ls' := [(2, qI (-5)), (5, qI (-5)), (4, qI (i : Int)), (3, qI 1), (0, .ref a), (1, qI (o : Int))]) rfl (by decide) rfl dX3_readSum_64 ?_
                  refine q_aload_n hF 4 rfl rfl dX3_readSum_65 ?_
                  refine q_iload_n hF 5 rfl rfl dX3_readSum_66 ?_
                  refine q_callV (kc := kc) (ks := ks) (mc' := 0) (ms' := 0) (h' := 4 + 3 * (3 - o)) (st := []) hF vl_RX3_228 rfl [qI (o : Int)] rfl rfl hX.D.t0 (by omega) (Nat.le_of_ble_eq_true rfl) dX3_readSum_67 ?_
                  refine ihF f4 (by omega) o (1 + S j) j3 ho (by omega) hS1 _ _ _ _ _ _ _ (by omega) (by omega) (g_bd_nz1 (by rw [hr]; exact hne)) (fun p5 z5 j5 n5 e5 h5 => ?_) (fun w5 x5 j5 n5 fl5 pl5 kk5 C5 e5 b5 h5 => ?_)
                  · rw [e5, g_bd_k] at hr
                    refine q_istore_n hF (ls' := [(3, qI 1), (2, qI (-5)), (5, qI (-5)), (4, qI (i : Int)), (0, .ref a), (1, qI (o : Int))]) rfl (by decide) rfl dX3_readSum_70 ?_
                    refine q_goto hF dX3_readSum_71 ?_
                    refine q_iinc hF (z' := ((1 + i : Nat) : Int)) (ls' := [(4, qI ((1 + i : Nat) : Int)), (3, qI 1), (2, qI (-5)), (5, qI (-5)), (0, .ref a), (1, qI (o : Int))]) 3 rfl (by first | rfl | omega) (by decide) rfl dX3_readSum_89 ?_
                    refine q_goto hF dX3_readSum_92 ?_
                    refine q_sub [0, 1, 4, 5, 2] rfl ?_
                    refine ih (1 + i) j5 p5 f4 (f4 + 1) _ (-5) _ _ (g_mid B N f4 (f4 + 1) o p5 (-5)) (by omega) (by omega) (by omega) (by omega) (by omega) (by omega) (by omega) (by omega) (by omega) rfl (g_pre_nz (by rw [hr]; exact hne)) (fun p' cs j' nu' e hh => ?_) (fun w x j' nu' fl' pl' kk' C' e b hh => ?_)
                    · refine q_Qxs (k0 p' ((g_po put ++ z5) ++ cs) j' nu' (by rw [← hr, e, g_pre_k]) (by (try simp only [List.length_append, List.length_cons, List.length_nil]); omega)) ?_ ?_
                      · simp only [List.length_append, List.length_cons, List.length_nil]; omega
                      · simp only [g_app_app, List.length_append, List.length_cons, List.length_nil, Nat.add_assoc]; try rfl
                    · exact k1 w x j' nu' fl' pl' kk' C' (by rw [← hr, e, g_pre_e]) b (by omega)
                  · rw [e5, g_bd_e] at hr
                    refine q_istore_n hF (ls' := [(3, qI 0), (2, qI (-5)), (5, qI (-5)), (4, qI (i : Int)), (0, .ref a), (1, qI (o : Int))]) rfl (by decide) rfl dX3_readSum_70 ?_
                    refine q_goto hF dX3_readSum_71 ?_
                    refine q_iinc hF (z' := ((1 + i : Nat) : Int)) (ls' := [(4, qI ((1 + i : Nat) : Int)), (3, qI 0), (2, qI (-5)), (5, qI (-5)), (0, .ref a), (1, qI (o : Int))]) 3 rfl (by first | rfl | omega) (by decide) rfl dX3_readSum_89 ?_
                    refine q_goto hF dX3_readSum_92 ?_
                    refine q_sub [0, 1, 4, 5, 2] rfl ?_
                    exact bX3_readSum hX hF (by omega) (by omega) (by omega) (by omega) (k1 w5 x5 _ _ _ _ _ _ hr.symm b5 (by omega))
                · exact absurd c44 (by decide)
    by_cases b45 : g_bt B N (S j) = 45
    · cases f4 with
      | zero => exact absurd (hr.symm.trans (g_mid_z4 hS.symm ⟨b42, b47⟩)) hne
      | succ f4 =>
        cases f4 with
        | zero => exact absurd (hr.symm.trans (g_mid_z5 hS.symm hqq (Or.inr b45))) hne
        | succ f4 =>
          rw [g_mid_add (v := -6) hS.symm hqq (Or.inr ⟨b45, rfl⟩)] at hr
          have hsg : g_sgo (g_bt B N (S j)) = -6 := by rw [b45]; rfl
          have hw := g_sg_end hX.O.tk hj (by decide) b45
          have htk := g_TK_le hX.O.tk hj
          have hgp : (g_po (-6)).length = 1 := rfl
          refine q_iload hF 0 rfl dX3_readSum_11 ?_
          refine q_sipush hF (n := 600) rfl dX3_readSum_13 ?_
          refine q_icmpgt hF (by omega) (by decide) dX3_readSum_16 (fun c16 => ?_) (fun c16 => ?_)
          · omega
          · refine q_iload_n hF 1 rfl rfl dX3_readSum_19 ?_
            refine q_ifeq hF (by decide) dX3_readSum_20 (fun c20 => ?_) (fun c20 => ?_)
            · exact absurd c20 (by decide)
            · refine q_aload_n hF 2 rfl rfl dX3_readSum_23 ?_
              refine q_callV (kc := kc) (ks := ks) (mc' := 0) (ms' := 0) (h' := 0) (st := []) hF vl_RX3_231 rfl [] rfl rfl hX.D.t0 (by omega) (Nat.le_of_ble_eq_true rfl) dX3_readSum_24 ?_
              refine xX3_signInHand hX (by omega) hsg ?_
              refine q_ifeq hF (by decide) dX3_readSum_27 (fun c27 => ?_) (fun c27 => ?_)
              · exact absurd c27 (by decide)
              · refine q_aload_n hF 2 rfl rfl dX3_readSum_30 ?_
                refine q_callV (kc := kc) (ks := ks) (mc' := 0) (ms' := 0) (h' := 0) (st := []) hF vl_RX3_231 rfl [] rfl rfl hX.D.t0 (by omega) (Nat.le_of_ble_eq_true rfl) dX3_readSum_31 ?_
                refine xX3_signInHand hX (by omega) hsg ?_
                refine q_istore hF (ls' := [(5, qI (-6)), (4, qI (i : Int)), (3, qI 1), (0, .ref a), (1, qI (o : Int)), (2, qI put)]) (by decide) rfl dX3_readSum_34 ?_
                refine q_aload_n hF 3 rfl rfl dX3_readSum_36 ?_
                refine q_callV (kc := kc) (ks := ks) (mc' := 0) (ms' := 0) (h' := 0) (st := []) hF vl_RX3_92 rfl [] rfl rfl hX.D.t0 (by omega) (Nat.le_of_ble_eq_true rfl) dX3_readSum_37 ?_
                refine xX3_step hX (by omega) (fun j3 hj3 => ?_)
                have hS1 : S j3 = g_sk B N (1 + S j) := by rw [hj3, hw.2.2]
                refine q_iload hF 0 rfl dX3_readSum_40 ?_
                refine q_bipush hF (n := -5) rfl dX3_readSum_42 ?_
                refine q_icmpeq hF (by decide) (by decide) dX3_readSum_44 (fun c44 => ?_) (fun c44 => ?_)
                · exact absurd c44 (by decide)
                · refine q_iload hF 0 rfl dX3_readSum_47 ?_
                  refine q_bipush hF (n := -6) rfl dX3_readSum_49 ?_
                  refine q_icmpne hF (by decide) (by decide) dX3_readSum_51 (fun c51 => ?_) (fun c51 => ?_)
                  · exact absurd c51 (by decide)
                  · refine q_aload_n hF 3 rfl rfl dX3_readSum_54 ?_
                    refine q_getA hF fl_RX3_18 rfl hX.D.t0 hX.P7 dX3_readSum_55 ?_
                    refine q_iload_n hF 5 rfl rfl dX3_readSum_58 ?_
                    refine q_callV (kc := kc) (ks := ks) (mc' := 0) (ms' := 0) (h' := 1) (st := []) hF vl_RX3_234 rfl [qI put] rfl rfl hX.U.t0 (by omega) (Nat.le_of_ble_eq_true rfl) dX3_readSum_59 ?_
                    refine xX4_addSign hX (by omega) (by omega) ?_
                    refine q_iload hF 0 rfl dX3_readSum_62 ?_
                    refine q_istore_n hF (ls' := [(2, qI (-6)), (5, qI (-6)), (4, qI (i : Int)), (3, qI 1), (0, .ref a), (1, qI (o : Int))]) rfl (by decide) rfl dX3_readSum_64 ?_
                    refine q_aload_n hF 4 rfl rfl dX3_readSum_65 ?_
                    refine q_iload_n hF 5 rfl rfl dX3_readSum_66 ?_
                    refine q_callV (kc := kc) (ks := ks) (mc' := 0) (ms' := 0) (h' := 4 + 3 * (3 - o)) (st := []) hF vl_RX3_228 rfl [qI (o : Int)] rfl rfl hX.D.t0 (by omega) (Nat.le_of_ble_eq_true rfl) dX3_readSum_67 ?_
                    refine ihF f4 (by omega) o (1 + S j) j3 ho (by omega) hS1 _ _ _ _ _ _ _ (by omega) (by omega) (g_bd_nz1 (by rw [hr]; exact hne)) (fun p5 z5 j5 n5 e5 h5 => ?_) (fun w5 x5 j5 n5 fl5 pl5 kk5 C5 e5 b5 h5 => ?_)
                    · rw [e5, g_bd_k] at hr
                      refine q_istore_n hF (ls' := [(3, qI 1), (2, qI (-6)), (5, qI (-6)), (4, qI (i : Int)), (0, .ref a), (1, qI (o : Int))]) rfl (by decide) rfl dX3_readSum_70 ?_
                      refine q_goto hF dX3_readSum_71 ?_
                      refine q_iinc hF (z' := ((1 + i : Nat) : Int)) (ls' := [(4, qI ((1 + i : Nat) : Int)), (3, qI 1), (2, qI (-6)), (5, qI (-6)), (0, .ref a), (1, qI (o : Int))]) 3 rfl (by first | rfl | omega) (by decide) rfl dX3_readSum_89 ?_
                      refine q_goto hF dX3_readSum_92 ?_
                      refine q_sub [0, 1, 4, 5, 2] rfl ?_
                      refine ih (1 + i) j5 p5 f4 (f4 + 1) _ (-6) _ _ (g_mid B N f4 (f4 + 1) o p5 (-6)) (by omega) (by omega) (by omega) (by omega) (by omega) (by omega) (by omega) (by omega) (by omega) rfl (g_pre_nz (by rw [hr]; exact hne)) (fun p' cs j' nu' e hh => ?_) (fun w x j' nu' fl' pl' kk' C' e b hh => ?_)
                      · refine q_Qxs (k0 p' ((g_po put ++ z5) ++ cs) j' nu' (by rw [← hr, e, g_pre_k]) (by (try simp only [List.length_append, List.length_cons, List.length_nil]); omega)) ?_ ?_
                        · simp only [List.length_append, List.length_cons, List.length_nil]; omega
                        · simp only [g_app_app, List.length_append, List.length_cons, List.length_nil, Nat.add_assoc]; try rfl
                      · exact k1 w x j' nu' fl' pl' kk' C' (by rw [← hr, e, g_pre_e]) b (by omega)
                    · rw [e5, g_bd_e] at hr
                      refine q_istore_n hF (ls' := [(3, qI 0), (2, qI (-6)), (5, qI (-6)), (4, qI (i : Int)), (0, .ref a), (1, qI (o : Int))]) rfl (by decide) rfl dX3_readSum_70 ?_
                      refine q_goto hF dX3_readSum_71 ?_
                      refine q_iinc hF (z' := ((1 + i : Nat) : Int)) (ls' := [(4, qI ((1 + i : Nat) : Int)), (3, qI 0), (2, qI (-6)), (5, qI (-6)), (0, .ref a), (1, qI (o : Int))]) 3 rfl (by first | rfl | omega) (by decide) rfl dX3_readSum_89 ?_
                      refine q_goto hF dX3_readSum_92 ?_
                      refine q_sub [0, 1, 4, 5, 2] rfl ?_
                      exact bX3_readSum hX hF (by omega) (by omega) (by omega) (by omega) (k1 w5 x5 _ _ _ _ _ _ hr.symm b5 (by omega))
    cases f4 with
    | zero => exact absurd (hr.symm.trans (g_mid_z4 hS.symm ⟨b42, b47⟩)) hne
    | succ f4 =>
      rw [g_mid_end hS.symm hqq ⟨b42, b47, b43, b45⟩] at hr
      have hsg : g_sgo (g_bt B N (S j)) = 0 := by unfold g_sgo; rw [if_neg b43, if_neg b45, if_neg b42, if_neg b47]
      refine q_iload hF 0 rfl dX3_readSum_11 ?_
      refine q_sipush hF (n := 600) rfl dX3_readSum_13 ?_
      refine q_icmpgt hF (by omega) (by decide) dX3_readSum_16 (fun c16 => ?_) (fun c16 => ?_)
      · omega
      · refine q_iload_n hF 1 rfl rfl dX3_readSum_19 ?_
        refine q_ifeq hF (by decide) dX3_readSum_20 (fun c20 => ?_) (fun c20 => ?_)
        · exact absurd c20 (by decide)
        · refine q_aload_n hF 2 rfl rfl dX3_readSum_23 ?_
          refine q_callV (kc := kc) (ks := ks) (mc' := 0) (ms' := 0) (h' := 0) (st := []) hF vl_RX3_231 rfl [] rfl rfl hX.D.t0 (by omega) (Nat.le_of_ble_eq_true rfl) dX3_readSum_24 ?_
          refine xX3_signInHand hX (by omega) hsg ?_
          refine q_ifeq hF (by decide) dX3_readSum_27 (fun c27 => ?_) (fun c27 => ?_)
          · refine q_aload_n hF 2 rfl rfl dX3_readSum_95 ?_
            refine q_getA hF fl_RX3_18 rfl hX.D.t0 hX.P7 dX3_readSum_96 ?_
            refine q_iload_n hF 4 rfl rfl dX3_readSum_99 ?_
            refine q_callV (kc := kc) (ks := ks) (mc' := 0) (ms' := 0) (h' := 1) (st := []) hF vl_RX3_234 rfl [qI put] rfl rfl hX.U.t0 (by omega) (Nat.le_of_ble_eq_true rfl) dX3_readSum_100 ?_
            refine xX4_addSign hX (by omega) (by omega) ?_
            refine q_iload_n hF 1 rfl rfl dX3_readSum_103 ?_
            refine q_zreturn hF (by decide) rfl dX3_readSum_104 ?_
            exact k0 (S j) (g_po put) j nu hr.symm (by omega)
          · exact absurd c27 (by decide)
set_option maxRecDepth 100000 in
theorem xX3_readSum {G : q_G} {T : q_T} {I : q_I} {P : q_P} {a u by_ c N : Nat} {B : Nat → Int} {S E : Nat → Nat} (hX : q_XE G T I P a u by_ c N B S E) {f : Nat} (ihF : ∀ f' : Nat, f' < f → ∀ (o p j : Nat), o ≤ 3 → p ≤ N → S j = g_sk B N p → q_XK G T I P a u c N B S YX3_readFactor (4 + 3 * (3 - o)) [qI (o : Int)] j (g_ex B N f' 0 o p)) : ∀ (o p j : Nat), o ≤ 3 → p ≤ N → S j = g_sk B N p → q_XK G T I P a u c N B S YX3_readSum (5 + 3 * (3 - o)) [qI (o : Int)] j (g_ex B N f 3 o p) := by
  intro o p j ho hp hS sz L Q nu pl kk C hj hkk hne k0 k1
  have hc6 : c ≤ 600 := by have := hX.O.tk.1; have := hX.O.n6; omega
  have hXau := hX.au
  cases f with
  | zero => exact absurd rfl hne
  | succ f =>
  cases f with
  | zero => exact absurd rfl hne
  | succ f =>
  generalize hr : g_ex B N (f + 1 + 1) 3 o p = r at hne k0 k1
  rw [g_mid_0] at hr
  show qC G (5 + 3 * (3 - o)) 0 0 YX3_readSum [.ref a, qI (o : Int)] sz T (q_xs I a u j nu 0 pl kk C) L P Q
  refine qC_of (by decide +kernel) rfl rfl (Nat.le_of_ble_eq_true rfl) (fun F hF _ _ => ?_)
  refine q_iconst hF dX3_readSum_0 ?_
  refine q_istore_n hF (ls' := [(2, qI 0), (0, .ref a), (1, qI (o : Int))]) rfl (by decide) rfl dX3_readSum_1 ?_
  refine q_aload_n hF 1 rfl rfl dX3_readSum_2 ?_
  refine q_iload_n hF 2 rfl rfl dX3_readSum_3 ?_
  refine q_callV (kc := 0) (ks := 0) (mc' := 0) (ms' := 0) (h' := 4 + 3 * (3 - o)) (st := []) hF vl_RX3_228 rfl [qI (o : Int)] rfl rfl hX.D.t0 (by omega) (Nat.le_of_ble_eq_true rfl) dX3_readSum_4 ?_
  refine ihF f (by omega) o p j ho hp hS _ _ _ _ _ _ _ (by omega) (by omega) (g_bd_nz1 (by rw [hr]; exact hne)) (fun p1 z1 j1 n1 e1 h1 => ?_) (fun w1 x1 j1 n1 fl1 pl1 kk1 C1 e1 b1 h1 => ?_)
  · rw [e1, g_bd_k] at hr
    refine q_istore_n hF (ls' := [(3, qI 1), (2, qI 0), (0, .ref a), (1, qI (o : Int))]) rfl (by decide) rfl dX3_readSum_7 ?_
    refine q_iconst hF dX3_readSum_8 ?_
    refine q_istore hF (ls' := [(4, qI 0), (3, qI 1), (2, qI 0), (0, .ref a), (1, qI (o : Int))]) (by decide) rfl dX3_readSum_9 ?_
    refine q_sub [0, 1, 3, 4, 2] rfl ?_
    refine lX3_readSum hX ihF hF ho (Nat.le_refl _) (c - j1 + 1) 0 j1 p1 f (f + 1) _ 0 _ _ (g_mid B N f (f + 1) o p1 0) (by omega) (by omega) (by omega) (by omega) (by omega) (by omega) (by omega) (Or.inl rfl) (by have : (g_po 0).length = 0 := rfl; omega) rfl (g_pre_nz (by rw [hr]; exact hne)) (fun p' cs j' nu' e hh => ?_) (fun w x j' nu' fl' pl' kk' C' e b hh => ?_)
    · refine q_Qxs (k0 p' (z1 ++ cs) j' nu' (by rw [← hr, e, g_pre_k]) (by have : (g_po 0).length = 0 := rfl; (try simp only [List.length_append, List.length_cons, List.length_nil]); omega)) ?_ ?_
      · simp only [List.length_append]; omega
      · simp only [g_app_app]
    · exact k1 w x j' nu' fl' pl' kk' C' (by rw [← hr, e, g_pre_e]) b (by have : (g_po 0).length = 0 := rfl; omega)
  · rw [e1, g_bd_e] at hr
    refine q_istore_n hF (ls' := [(3, qI 0), (2, qI 0), (0, .ref a), (1, qI (o : Int))]) rfl (by decide) rfl dX3_readSum_7 ?_
    refine q_iconst hF dX3_readSum_8 ?_
    refine q_istore hF (ls' := [(4, qI 0), (3, qI 0), (2, qI 0), (0, .ref a), (1, qI (o : Int))]) (by decide) rfl dX3_readSum_9 ?_
    refine q_sub [0, 1, 3, 4, 2] rfl ?_
    refine bX3_readSum hX hF (i := 0) (put := 0) (by omega) (by decide) (Or.inl rfl) (by have : (g_po 0).length = 0 := rfl; omega) ?_
    exact k1 w1 x1 _ _ _ _ _ _ hr.symm b1 (by have : (g_po 0).length = 0 := rfl; omega)
set_option maxRecDepth 100000 in
theorem xX3_readFactor {G : q_G} {T : q_T} {I : q_I} {P : q_P} {a u by_ c N : Nat} {B : Nat → Int} {S E : Nat → Nat} (hX : q_XE G T I P a u by_ c N B S E) {f : Nat} (ihI : ∀ (o j : Nat), o ≤ 3 → g_wo B (S j) (E j) = some 14 → q_XK G T I P a u c N B S YX3_readIf (3 + 3 * (3 - o)) [qI (o : Int)] j (g_facI B N (g_ex B N f) o (S j))) (ihB0 : ∀ (o j : Nat), o ≤ 3 → g_bt B N (S j) = 40 → q_XK G T I P a u c N B S YX3_readBracket (3 + 3 * (3 - o)) [qI (o : Int), qI 0] j (g_facB B N (g_ex B N f) o (S j))) (ihB1 : ∀ (o j : Nat), o ≤ 3 → q_XK G T I P a u c N B S YX3_readBracket (3 + 3 * (3 - o)) [qI (o : Int), qI 1] j (g_facM B N (g_ex B N f) o (S j))) : ∀ (o p j : Nat), o ≤ 3 → p ≤ N → S j = g_sk B N p → q_XK G T I P a u c N B S YX3_readFactor (4 + 3 * (3 - o)) [qI (o : Int)] j (g_ex B N (f + 1) 0 o p) := by
  intro o p j ho hp hS sz L Q nu pl kk C hj hkk hne k0 k1
  have hc6 : c ≤ 600 := by have := hX.O.tk.1; have := hX.O.n6; omega
  have hXau := hX.au
  generalize hr : g_ex B N (f + 1) 0 o p = r at hne k0 k1
  rw [g_ex_0, ← hS] at hr
  show qC G (4 + 3 * (3 - o)) 0 0 YX3_readFactor [.ref a, qI (o : Int)] sz T (q_xs I a u j nu 0 pl kk C) L P Q
  refine qC_of (by decide +kernel) rfl rfl (Nat.le_of_ble_eq_true rfl) (fun F hF _ _ => ?_)
  refine q_aload_n hF 0 rfl rfl dX3_readFactor_0 ?_
  refine q_getA hF fl_RX3_33 rfl hX.D.t0 hX.D.p4 dX3_readFactor_1 ?_
  refine q_aload_n hF 0 rfl rfl dX3_readFactor_4 ?_
  refine q_getIv hF (z := (j : Int)) fl_RX3_37 hX.D.t0 q_xs_5 dX3_readFactor_5 ?_
  refine q_aaloadRv hF (r := (g_wo B (S j) (E j)).map (q_E G)) j hX.D.t4 (by decide) rfl (by omega) (by decide) (hX.O.wo _ (by omega)) dX3_readFactor_8 ?_
  refine q_getsE hF (i := 14) (by decide) (q_mem 1259 (by decide +kernel) rfl) dX3_readFactor_9 ?_
  refine q_acmpne hF (rx := (g_wo B (S j) (E j)).map (q_E G)) (ry := some (q_E G 14)) dX3_readFactor_12 (fun c12 => ?_) (fun c12 => ?_)
  · have w14 : g_wo B (S j) (E j) ≠ some 14 := fun h => c12 ((q_wo_eq hF (by decide)).mpr h)
    refine q_aload_n hF 0 rfl rfl dX3_readFactor_21 ?_
    refine q_getsE hF (i := 13) (by decide) (q_mem 1275 (by decide +kernel) rfl) dX3_readFactor_22 ?_
    refine q_callV (kc := 0) (ks := 0) (mc' := 0) (ms' := 0) (h' := 0) (st := []) hF vl_RX3_105 rfl [.ref (q_E G 13)] rfl rfl hX.D.t0 (by omega) (Nat.le_of_ble_eq_true rfl) dX3_readFactor_25 ?_
    refine xX3_takeWord hX (by omega) (by decide) (fun c1 => ?_) (fun j1 hj1 c1 s1 => ?_)
    · refine q_ifeq hF (by decide) dX3_readFactor_28 (fun c28 => ?_) (fun c28 => ?_)
      · refine q_aload_n hF 0 rfl rfl dX3_readFactor_38 ?_
        refine q_getA hF fl_RX3_22 rfl hX.D.t0 hX.D.p1 dX3_readFactor_39 ?_
        refine q_aload_n hF 0 rfl rfl dX3_readFactor_42 ?_
        refine q_getIv hF (z := (j : Int)) fl_RX3_37 hX.D.t0 q_xs_5 dX3_readFactor_43 ?_
        refine q_ialoadv hF (z := g_so B N (S j)) (n := 601) j hX.D.t1 rfl (by omega) (by decide) ((hX.O.xs hX.au).so _ (by omega)) dX3_readFactor_46 ?_
        refine q_bipush hF (n := 40) rfl dX3_readFactor_47 ?_
        refine q_icmpne hF (by have := g_so_r hX.O.br (g_TK_le hX.O.tk (show j ≤ c by omega)).1; omega) (by decide) dX3_readFactor_49 (fun c49 => ?_) (fun c49 => ?_)
        · have b40 : g_bt B N (S j) ≠ 40 := fun h => c49 ((g_so_sg hX.O.br (g_TK_le hX.O.tk hj).1 (by decide)).mpr h)
          refine q_aload_n hF 0 rfl rfl dX3_readFactor_59 ?_
          refine q_callV (kc := 0) (ks := 0) (mc' := 0) (ms' := 0) (h' := 0) (st := []) hF vl_RX3_250 rfl [] rfl rfl hX.D.t0 (by omega) (Nat.le_of_ble_eq_true rfl) dX3_readFactor_60 ?_
          refine xX3_pushInHand hX (by omega) ?_
          refine q_istore_n hF (ls' := [(2, qI (g_psh (g_wo B (S j) (E j)))), (0, .ref a), (1, qI (o : Int))]) rfl (by decide) rfl dX3_readFactor_63 ?_
          refine q_iload_n hF 0 rfl rfl dX3_readFactor_64 ?_
          refine q_ifeq hF (g_psh_r _) dX3_readFactor_65 (fun c65 => ?_) (fun c65 => ?_)
          · refine q_aload_n hF 1 rfl rfl dX3_readFactor_82 ?_
            refine q_iconst hF dX3_readFactor_83 ?_
            refine q_ldcw hF (n := 999999) (q_mem 1297 (by decide +kernel) rfl) dX3_readFactor_84 ?_
            refine q_callV (kc := 0) (ks := 0) (mc' := 0) (ms' := 0) (h' := 1) (st := []) hF vl_RX3_171 rfl [qI 0, qI 999999] rfl rfl hX.D.t0 (by omega) (Nat.le_of_ble_eq_true rfl) dX3_readFactor_87 ?_
            refine xX3_takeNumber hX (by omega) (by decide) (fun c3 => ?_) (fun j3 hj3 c3 r3 s3 => ?_) (fun c3 r3 => ?_)
            · refine q_ifne hF (by decide) dX3_readFactor_90 (fun c90 => ?_) (fun c90 => ?_)
              · exact absurd c90 (by decide)
              · refine q_iconst hF dX3_readFactor_93 ?_
                refine q_zreturn hF (by decide) rfl dX3_readFactor_94 ?_
                rw [g_fac_none hX.O.tk hj w14 c1 b40 c65 c3] at hr
                exact k1 1 (S j) _ _ _ _ _ _ hr.symm (Or.inl ⟨rfl, rfl, rfl⟩) (by (try simp only [List.length_append, List.length_cons, List.length_nil]); omega)
            · refine q_ifne hF (by decide) dX3_readFactor_90 (fun c90 => ?_) (fun c90 => ?_)
              · refine q_aload_n hF 1 rfl rfl dX3_readFactor_95 ?_
                refine q_getA hF fl_RX3_18 rfl hX.D.t0 hX.P7 dX3_readFactor_96 ?_
                refine q_aload_n hF 1 rfl rfl dX3_readFactor_99 ?_
                refine q_getIv hF (z := g_nv B N (S j) 0) fl_RX3_88 hX.D.t0 q_xs_6 dX3_readFactor_100 ?_
                refine q_callV (kc := 0) (ks := 0) (mc' := 0) (ms' := 0) (h' := 0) (st := []) hF vl_RX3_253 rfl [qI (g_nv B N (S j) 0)] rfl rfl hX.U.t0 (by omega) (Nat.le_of_ble_eq_true rfl) dX3_readFactor_103 ?_
                refine xX4_addCode hX (by omega) ?_
                refine q_iconst hF dX3_readFactor_106 ?_
                refine q_zreturn hF (by decide) rfl dX3_readFactor_107 ?_
                rw [g_fac_num c3, if_pos (by omega)] at hr
                exact k0 (g_nd B N (S j)) [g_nv B N (S j) 0] j3 _ hr.symm ⟨by omega, by omega, by have := g_TK_le hX.O.tk hj; omega, by omega, (by show 1 + j ≤ j3; omega)⟩
              · exact absurd c90 (by decide)
            · refine q_ifne hF (by decide) dX3_readFactor_90 (fun c90 => ?_) (fun c90 => ?_)
              · exact absurd c90 (by decide)
              · refine q_iconst hF dX3_readFactor_93 ?_
                refine q_zreturn hF (by decide) rfl dX3_readFactor_94 ?_
                have hnv := (g_nv_r (B := B) (n := N) _ (S j) 0 (Nat.lt_succ_self _) (by decide) (by decide)).1
                rw [g_fac_num c3, if_neg (by omega)] at hr
                exact k1 2 (S j) _ _ _ _ _ _ hr.symm (Or.inr ⟨rfl, by decide, rfl⟩) (by (try simp only [List.length_append, List.length_cons, List.length_nil]); omega)
          · obtain ⟨hfp, hjc, hsp⟩ := g_fac_push (R := g_ex B N f) (o := o) hX.O.tk hj c65
            rw [hfp] at hr
            have hle := g_TK_le hX.O.tk hj
            refine q_aload_n hF 1 rfl rfl dX3_readFactor_68 ?_
            refine q_getA hF fl_RX3_18 rfl hX.D.t0 hX.P7 dX3_readFactor_69 ?_
            refine q_iload_n hF 0 rfl rfl dX3_readFactor_72 ?_
            refine q_callV (kc := 0) (ks := 0) (mc' := 0) (ms' := 0) (h' := 0) (st := []) hF vl_RX3_253 rfl [qI (g_psh (g_wo B (S j) (E j)))] rfl rfl hX.U.t0 (by omega) (Nat.le_of_ble_eq_true rfl) dX3_readFactor_73 ?_
            refine xX4_addCode hX (by omega) ?_
            refine q_aload_n hF 1 rfl rfl dX3_readFactor_76 ?_
            refine q_callV (kc := 0) (ks := 0) (mc' := 0) (ms' := 0) (h' := 0) (st := []) hF vl_RX3_92 rfl [] rfl rfl hX.D.t0 (by omega) (Nat.le_of_ble_eq_true rfl) dX3_readFactor_77 ?_
            refine xX3_step hX (by omega) (fun j6 hj6 => ?_)
            refine q_iconst hF dX3_readFactor_80 ?_
            refine q_zreturn hF (by decide) rfl dX3_readFactor_81 ?_
            exact k0 (E j) [g_psh (g_wo B (S j) (E j))] j6 nu hr.symm ⟨by omega, by omega, by omega, (by rw [hj6]; exact hsp), (by show 1 + j ≤ j6; omega)⟩
        · have b40 := (g_so_sg hX.O.br (g_TK_le hX.O.tk hj).1 (by decide)).mp c49
          rw [g_fac_br hX.O.tk hj b40] at hr
          refine q_aload_n hF 0 rfl rfl dX3_readFactor_52 ?_
          refine q_iload_n hF 1 rfl rfl dX3_readFactor_53 ?_
          refine q_iconst hF dX3_readFactor_54 ?_
          refine q_callV (kc := 0) (ks := 0) (mc' := 0) (ms' := 0) (h' := 3 + 3 * (3 - o)) (st := []) hF vl_RX3_246 rfl [qI (o : Int), qI 0] rfl rfl hX.D.t0 (by omega) (Nat.le_of_ble_eq_true rfl) dX3_readFactor_55 ?_
          refine ihB0 o j ho b40 _ _ _ _ _ _ _ (by omega) (by omega) (by rw [hr]; exact hne) (fun p7 z7 j7 n7 e7 h7 => ?_) (fun w7 x7 j7 n7 fl7 pl7 kk7 C7 e7 b7 h7 => ?_)
          · skip
            refine q_zreturn hF (by decide) rfl dX3_readFactor_58 ?_
            rw [e7] at hr
            exact k0 p7 z7 j7 n7 hr.symm (by omega)
          · rw [e7] at hr
            refine q_zreturn hF (by decide) rfl dX3_readFactor_58 ?_
            exact k1 w7 x7 _ _ _ _ _ _ hr.symm b7 (by omega)
      · exact absurd c28 (by decide)
    · refine q_ifeq hF (by decide) dX3_readFactor_28 (fun c28 => ?_) (fun c28 => ?_)
      · exact absurd c28 (by decide)
      · rw [g_fac_min hX.O.tk hj c1, ← hj1] at hr
        refine q_aload_n hF 0 rfl rfl dX3_readFactor_31 ?_
        refine q_iload_n hF 1 rfl rfl dX3_readFactor_32 ?_
        refine q_iconst hF dX3_readFactor_33 ?_
        refine q_callV (kc := 0) (ks := 0) (mc' := 0) (ms' := 0) (h' := 3 + 3 * (3 - o)) (st := []) hF vl_RX3_246 rfl [qI (o : Int), qI 1] rfl rfl hX.D.t0 (by omega) (Nat.le_of_ble_eq_true rfl) dX3_readFactor_34 ?_
        refine ihB1 o j1 ho _ _ _ _ _ _ _ (by omega) (by omega) (by rw [hr]; exact hne) (fun p8 z8 j8 n8 e8 h8 => ?_) (fun w8 x8 j8 n8 fl8 pl8 kk8 C8 e8 b8 h8 => ?_)
        · skip
          refine q_zreturn hF (by decide) rfl dX3_readFactor_37 ?_
          rw [e8] at hr
          exact k0 p8 z8 j8 n8 hr.symm (by omega)
        · rw [e8] at hr
          refine q_zreturn hF (by decide) rfl dX3_readFactor_37 ?_
          exact k1 w8 x8 _ _ _ _ _ _ hr.symm b8 (by omega)
  · have w14 := (q_wo_eq hF (by decide)).mp c12
    rw [g_fac_if hX.O.tk hj w14] at hr
    refine q_aload_n hF 0 rfl rfl dX3_readFactor_15 ?_
    refine q_iload_n hF 1 rfl rfl dX3_readFactor_16 ?_
    refine q_callV (kc := 0) (ks := 0) (mc' := 0) (ms' := 0) (h' := 3 + 3 * (3 - o)) (st := []) hF vl_RX3_240 rfl [qI (o : Int)] rfl rfl hX.D.t0 (by omega) (Nat.le_of_ble_eq_true rfl) dX3_readFactor_17 ?_
    refine ihI o j ho w14 _ _ _ _ _ _ _ (by omega) (by omega) (by rw [hr]; exact hne) (fun p9 z9 j9 n9 e9 h9 => ?_) (fun w9 x9 j9 n9 fl9 pl9 kk9 C9 e9 b9 h9 => ?_)
    · skip
      refine q_zreturn hF (by decide) rfl dX3_readFactor_20 ?_
      rw [e9] at hr
      exact k0 p9 z9 j9 n9 hr.symm (by omega)
    · rw [e9] at hr
      refine q_zreturn hF (by decide) rfl dX3_readFactor_20 ?_
      exact k1 w9 x9 _ _ _ _ _ _ hr.symm b9 (by omega)
/-- all parts of an expression, whatever the fuel -/
theorem xX3_all {G : q_G} {T : q_T} {I : q_I} {P : q_P} {a u by_ c N : Nat} {B : Nat → Int} {S E : Nat → Nat} (hX : q_XE G T I P a u by_ c N B S E) : ∀ f f' : Nat, f' ≤ f → ∀ (o p j : Nat), o ≤ 3 → p ≤ N → S j = g_sk B N p → q_XK G T I P a u c N B S YX3_readFactor (4 + 3 * (3 - o)) [qI (o : Int)] j (g_ex B N f' 0 o p)
  | 0, f', h => by
    obtain rfl : f' = 0 := by omega
    intro o p j ho hp hS sz L Q nu pl kk C hj hkk hne
    exact absurd rfl hne
  | f + 1, f', h => by
    by_cases e : f' ≤ f
    · exact xX3_all hX f f' e
    · obtain rfl : f' = f + 1 := by omega
      have ihF := fun f' (h : f' < f) => xX3_all hX f f' (by omega)
      exact xX3_readFactor hX (xX3_readIf hX (xX3_all hX f f (Nat.le_refl _))) (xX3_readBracket0 hX (xX3_readSum hX ihF)) (xX3_readBracket1 hX (xX3_readSum hX ihF))
theorem xX3_sum {G : q_G} {T : q_T} {I : q_I} {P : q_P} {a u by_ c N : Nat} {B : Nat → Int} {S E : Nat → Nat} (hX : q_XE G T I P a u by_ c N B S E) (f : Nat) : ∀ (o p j : Nat), o ≤ 3 → p ≤ N → S j = g_sk B N p → q_XK G T I P a u c N B S YX3_readSum (5 + 3 * (3 - o)) [qI (o : Int)] j (g_ex B N f 3 o p) :=
  xX3_readSum hX (fun f' h => xX3_all hX f f' (by omega))
