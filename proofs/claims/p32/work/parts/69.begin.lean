/-! the class: a world begun -/
def q_fl2 (L : q_I) (a b n : Nat) : q_I := fun q k => if (q = a ∨ q = b) ∧ k < n then 0 else L q k
theorem q_fl2_0 (L : q_I) (a b : Nat) : q_fl2 L a b 0 = L := by funext q k; unfold q_fl2; rw [if_neg (by omega)]
theorem q_fl2_n (L : q_I) {a b n q k : Nat} (h : q ≠ a) (h2 : q ≠ b) : q_fl2 L a b n q k = L q k := if_neg (fun e => e.1.elim h h2)
theorem q_fl2_t (L : q_I) {a b n q k : Nat} (h : q = a ∨ q = b) (hk : k < n) : q_fl2 L a b n q k = 0 := if_pos ⟨h, hk⟩
theorem q_fl2_s (L : q_I) {a b : Nat} (i : Nat) (h : b ≠ a) : u2 (u2 (q_fl2 L a b i) a i 0) b i 0 = q_fl2 L a b (1 + i) := by
  funext q k
  unfold u2 q_fl2
  by_cases e : q = a
  · subst e
    have h' : q ≠ b := fun e => h e.symm
    by_cases e2 : k = i <;> by_cases e3 : k < i <;> by_cases e4 : k < 1 + i <;> first | omega | simp_all
  · by_cases e1 : q = b <;> by_cases e2 : k = i <;> by_cases e3 : k < i <;> by_cases e4 : k < 1 + i <;> first | omega | simp_all
/-- a row that has only just been told -/
def g_fresh (r : Nat → Int) : Prop := r 1 = 0 ∧ r 2 = 0 ∧ r 6 = 0 ∧ r 7 = 0 ∧ (∀ k, 17 ≤ k → k < 24 → r k = 0) ∧ (∀ l, l < 5 → r (35 + 13 * l) = 0 ∧ r (36 + 13 * l) = 0)
set_option maxRecDepth 100000 in
theorem lX6_begin {G : q_G} {F : q_F} {h : Nat} {Q : q_Q} {kc ks sz : Nat} {T : q_T} {w v9 : Nat} {I L : q_I} {P : q_P} (hF : q_ok G F YX6_begin h) (hW : q_SW T P w) (hWA : q_A G w) (k0 : ∀ v : Int, qX G F Q kc ks 50 [(2, qI v), (0, .ref w), (1, .ref v9)] [] sz T I (q_fl2 L (w + 33) (w + 34) 5) P) : ∀ (n : Nat) (i : Nat), 5 - i < n → i ≤ 5 → qX G F Q kc ks 25 [(2, qI (i : Int)), (0, .ref w), (1, .ref v9)] [] sz T I (q_fl2 L (w + 33) (w + 34) i) P := by
  intro n
  induction n with
  | zero => intro i hn; exact absurd hn (Nat.not_lt_zero _)
  | succ n ih =>
    intro i hn hi
    refine q_iload_n hF 0 rfl rfl dX6_begin_25 ?_
    refine q_iconst hF dX6_begin_26 ?_
    refine q_icmpge hF (by omega) (by decide) dX6_begin_27 (fun c27 => ?_) (fun c27 => ?_)
    · obtain rfl : i = 5 := by omega
      exact k0 _
    · refine q_aload_n hF 1 rfl rfl dX6_begin_30 ?_
      refine q_getA hF fl_RX6_29 rfl hW.t0 hW.p6 dX6_begin_31 ?_
      refine q_iload_n hF 0 rfl rfl dX6_begin_34 ?_
      refine q_lconst hF (z := 0) rfl dX6_begin_35 ?_
      refine q_lastorev hF (n := 5) i hW.t33 (q_Ale hWA (by omega)) rfl (by omega) (by decide) dX6_begin_36 ?_
      refine q_aload_n hF 1 rfl rfl dX6_begin_37 ?_
      refine q_getA hF fl_RX6_33 rfl hW.t0 hW.p7 dX6_begin_38 ?_
      refine q_iload_n hF 0 rfl rfl dX6_begin_41 ?_
      refine q_lconst hF (z := 0) rfl dX6_begin_42 ?_
      refine q_lastorev hF (n := 5) i hW.t34 (q_Ale hWA (by omega)) rfl (by omega) (by decide) dX6_begin_43 ?_
      refine q_iinc hF (z' := ((1 + i : Nat) : Int)) (ls' := [(2, qI ((1 + i : Nat) : Int)), (0, .ref w), (1, .ref v9)]) 0 rfl (by first | rfl | omega) (by decide) rfl dX6_begin_44 ?_
      refine q_goto hF dX6_begin_47 ?_
      rw [q_fl2_s _ _ (by omega)]
      exact ih (1 + i) (by omega) (by omega)
set_option maxRecDepth 100000 in
theorem mX6_begin {G : q_G} {sz : Nat} {T : q_T} {I L : q_I} {P : q_P} {Q : q_Q} {w v : Nat} {r : Nat → Int} (hW : q_SW T P w) (hWA : q_A G w) (hU2 : q_SR T P v) (hR : q_RR I v r) (hv : g_V0 r) (hf : g_fresh r) (hsep : w + 47 ≤ v ∨ v + 18 ≤ w) (k0 : ∀ M9 N9 : q_I, (∀ q k, q < w ∨ w + 47 ≤ q → M9 q k = I q k) → (∀ q k, q < w ∨ w + 47 ≤ q → N9 q k = L q k) → q_WR M9 N9 w r 0 → Q (.inl none) sz T M9 N9 P) : qC G 2 0 0 YX6_begin [.ref w, .ref v] sz T I L P Q := by
  refine qC_of (by decide +kernel) rfl rfl (Nat.le_of_ble_eq_true rfl) (fun F hF _ _ => ?_)
  refine q_aload_n hF 0 rfl rfl dX6_begin_0 ?_
  refine q_getA hF fl_RX6_12 rfl hW.t0 hW.p0 dX6_begin_1 ?_
  refine q_aload_n hF 1 rfl rfl dX6_begin_4 ?_
  refine q_callV (kc := 0) (ks := 0) (mc' := 0) (ms' := 0) (h' := 1) (st := []) hF vl_RX6_37 rfl [.ref v] rfl rfl hW.ru.t0 (by decide) (Nat.le_of_ble_eq_true rfl) dX6_begin_5 ?_
  refine mX4_copyFrom (r := r) hW.ru (q_Ale hWA (by omega)) hU2 hR hv.lands (by omega) hv (fun I4 c5_0 c5_1 => ?_)
  refine q_aload_n hF 0 rfl rfl dX6_begin_8 ?_
  refine q_iconst hF dX6_begin_9 ?_
  refine q_putI hF fl_RX6_41 hW.t0 hWA dX6_begin_10 ?_
  refine q_aload_n hF 0 rfl rfl dX6_begin_13 ?_
  refine q_iconst hF dX6_begin_14 ?_
  refine q_putI hF fl_RX6_45 hW.t0 hWA dX6_begin_15 ?_
  refine q_aload_n hF 0 rfl rfl dX6_begin_18 ?_
  refine q_iconst hF dX6_begin_19 ?_
  refine q_putI hF fl_RX6_48 hW.t0 hWA dX6_begin_20 ?_
  refine q_iconst hF dX6_begin_23 ?_
  refine q_istore_n hF (ls' := [(2, qI 0), (0, .ref w), (1, .ref v)]) rfl (by decide) rfl dX6_begin_24 ?_
  have q := lX6_begin (Q := Q) (sz := sz) (T := T) (kc := 0) (ks := 0) (v9 := v) (L := L) (I := u2 (u2 (u2 I4 w 2 0) w 3 0) w 5 0) (P := P) hF hW hWA (fun x => ?_) 6 0 (by omega) (by omega)
  · rw [q_fl2_0] at q; exact q
  refine q_return hF rfl dX6_begin_50 ?_
  obtain ⟨f1, f2, f6, f7, f17, fl⟩ := hf
  refine k0 _ _ (fun q k h => ?_) (fun q k h => ?_) ⟨?_, ?_, ?_, ?_, ?_, ?_, ?_, ?_, ?_, ?_, ?_, ?_, ?_⟩
  · rw [u2_a _ _ (by omega), u2_a _ _ (by omega), u2_a _ _ (by omega)]; exact c5_0 q k (by omega)
  · rw [q_fl2_n _ (by omega) (by omega)]
  · rw [u2_k _ _ (by decide), u2_k _ _ (by decide), u2_s, f1]
  · rw [u2_k _ _ (by decide), u2_s]
  · rw [u2_s, f6]
  · rw [f1, f17 23 (by decide) (by decide)]; rfl
  · exact c5_1.ext hv (fun q j h1 h2 => by rw [u2_a _ _ (by omega), u2_a _ _ (by omega), u2_a _ _ (by omega)]) (g_same.rf r)
  · intro i hi; rw [f1] at hi; omega
  · intro k j hk; rw [f6] at hk; omega
  · intro l hl; rw [q_fl2_t _ (Or.inl rfl) hl]; exact (fl l hl).1.symm
  · intro l hl; rw [q_fl2_t _ (Or.inr rfl) hl]; exact (fl l hl).2.symm
  · rw [f1, f17 17 (by decide) (by decide)]; rfl
  · rw [f1, f17 18 (by decide) (by decide)]; rfl
  · rw [f1, f17 19 (by decide) (by decide)]; rfl
  · rw [f1, f17 20 (by decide) (by decide)]; rfl
