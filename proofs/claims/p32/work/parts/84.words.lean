/-! the class: words -/
/-- the bytes from f to t are word i -/
abbrev g_eqW (B : Nat → Int) (i f t : Nat) : Prop := t = f + g_len i ∧ ∀ k, k < g_len i → B (f + k) = g_ch i k
def g_woF (B : Nat → Int) (f t : Nat) : Nat → Nat → Option Nat
  | 0, _ => none
  | w + 1, i => if g_eqW B i f t then some i else g_woF B f t w (i + 1)
/-- which word the bytes from f to t are -/
def g_wo (B : Nat → Int) (f t : Nat) : Option Nat := g_woF B f t 23 0
set_option maxRecDepth 100000 in
theorem lX5_stands {G : q_G} {F : q_F} {h : Nat} {Q : q_Q} {kc ks sz : Nat} {T : q_T} {by_ i f t : Nat} {B : Nat → Int} {I L : q_I} {P : q_P} (h4 : 4 ≤ h) (hF : q_ok G F YX5_stands h) (hi : i < 23) (hT : T by_ = some (.inr (0, 600))) (hby : ∀ k, k < 600 → I by_ k = B k) (hBr : ∀ k, 0 ≤ B k ∧ B k ≤ 255) (ht : t ≤ 600) (hl : t = f + g_len i) (k0 : Q (.inl (some (qI (q_b (g_eqW B i f t))))) sz T I L P) : ∀ (n : Nat) (k : Nat), g_len i - k < n → k ≤ g_len i → (∀ j, j < k → B (f + j) = g_ch i j) → qX G F Q kc ks 28 [(4, qI (k : Int)), (0, .ref (q_E G i)), (1, .ref by_), (2, qI (f : Int)), (3, qI (t : Int))] [] sz T I L P := by
  intro n
  induction n with
  | zero => intro k hn; exact absurd hn (Nat.not_lt_zero _)
  | succ n ih =>
    intro k hn hk hall
    refine q_iload hF 0 rfl dX5_stands_28 ?_
    refine q_aload_n hF 1 rfl rfl dX5_stands_30 ?_
    refine q_letE hF (i := i) hi (q_mem 1464 (by decide +kernel) rfl) dX5_stands_31 ?_
    refine q_callVO (kc := kc) (ks := ks) (mc' := 0) (ms' := 0) (h' := 1) (st := [qI (k : Int)]) hF vo_RX5_109 rfl [] rfl rfl (q_O_K (by omega)) (by omega) (Nat.le_of_ble_eq_true rfl) dX5_stands_34 ?_
    refine mJ0_length_8abf5 (i := i) (by omega) ?_
    refine q_icmpge hF (by have := g_len_r (i := i) (by omega); omega) (by have := g_len_r (i := i) (by omega); omega) dX5_stands_37 (fun c37 => ?_) (fun c37 => ?_)
    · refine q_iconst hF dX5_stands_66 ?_
      refine q_zreturn hF (by decide) rfl dX5_stands_67 ?_
      rw [q_b_t (c := g_eqW B i f t) ⟨hl, fun j hj => hall j (by omega)⟩] at k0; exact k0
    · refine q_aload_n hF 2 rfl rfl dX5_stands_40 ?_
      refine q_iload_n hF 3 rfl rfl dX5_stands_41 ?_
      refine q_iload hF 0 rfl dX5_stands_42 ?_
      refine q_iadd hF dX5_stands_44 ?_
      refine q_ialoadv hF (z := B (f + k)) (n := 600) (f + k) hT (by omega) (by omega) (by decide) (hby _ (by omega)) dX5_stands_45 ?_
      refine q_aload_n hF 1 rfl rfl dX5_stands_46 ?_
      refine q_letE hF (i := i) hi (q_mem 1464 (by decide +kernel) rfl) dX5_stands_47 ?_
      refine q_iload hF 0 rfl dX5_stands_50 ?_
      refine q_callVO (kc := kc) (ks := ks) (mc' := 0) (ms' := 0) (h' := 3) (st := [qI (B (f + k))]) hF vo_RX5_115 rfl [qI (k : Int)] rfl rfl (q_O_K (by omega)) (by omega) (Nat.le_of_ble_eq_true rfl) dX5_stands_52 ?_
      refine mJ0_charAt_5068e (k := k) (i := i) (by omega) (by omega) ?_
      refine q_icmpeq hF (by have := hBr (f + k); omega) (by have := g_ch_r (i := i) (k := k) (by omega) (by omega); omega) dX5_stands_55 (fun c55 => ?_) (fun c55 => ?_)
      · refine q_iinc hF (z' := ((1 + k : Nat) : Int)) (ls' := [(4, qI ((1 + k : Nat) : Int)), (0, .ref (q_E G i)), (1, .ref by_), (2, qI (f : Int)), (3, qI (t : Int))]) 0 rfl (by first | rfl | omega) (by decide) rfl dX5_stands_60 ?_
        refine q_goto hF dX5_stands_63 ?_
        exact ih (1 + k) (by omega) (by omega) (fun j hj => by
          by_cases e : j = k
          · subst e; exact c55
          · exact hall j (by omega))
      · refine q_iconst hF dX5_stands_58 ?_
        refine q_zreturn hF (by decide) rfl dX5_stands_59 ?_
        rw [q_b_f (c := g_eqW B i f t) (fun h => absurd (h.2 k (by omega)) c55)] at k0; exact k0
set_option maxRecDepth 100000 in
theorem mX5_stands {G : q_G} {sz : Nat} {T : q_T} {I L : q_I} {P : q_P} {Q : q_Q} {by_ i f t : Nat} {B : Nat → Int} (hi : i < 23) (hT : T by_ = some (.inr (0, 600))) (hby : ∀ k, k < 600 → I by_ k = B k) (hBr : ∀ k, 0 ≤ B k ∧ B k ≤ 255) (ht : t ≤ 600) (hft : f ≤ t) (k0 : Q (.inl (some (qI (q_b (g_eqW B i f t))))) sz T I L P) : qC G 4 0 0 YX5_stands [.ref (q_E G i), .ref by_, qI (f : Int), qI (t : Int)] sz T I L P Q := by
  refine qC_of (by decide +kernel) rfl rfl (Nat.le_of_ble_eq_true rfl) (fun F hF _ _ => ?_)
  refine q_iload_n hF 3 rfl rfl dX5_stands_0 ?_
  refine q_iload_n hF 2 rfl rfl dX5_stands_1 ?_
  refine q_isub hF dX5_stands_2 ?_
  refine q_aload_n hF 0 rfl rfl dX5_stands_3 ?_
  refine q_letE hF (i := i) hi (q_mem 1464 (by decide +kernel) rfl) dX5_stands_4 ?_
  refine q_callVO (kc := 0) (ks := 0) (mc' := 0) (ms' := 0) (h' := 1) (st := [qI ((t : Int) - (f : Int))]) hF vo_RX5_109 rfl [] rfl rfl (q_O_K (by omega)) (by decide) (Nat.le_of_ble_eq_true rfl) dX5_stands_7 ?_
  refine mJ0_length_8abf5 (i := i) (by omega) ?_
  refine q_icmpne hF (by have := g_len_r (i := i) (by omega); omega) (by have := g_len_r (i := i) (by omega); omega) dX5_stands_10 (fun c10 => ?_) (fun c10 => ?_)
  · refine q_iconst hF dX5_stands_23 ?_
    refine q_zreturn hF (by decide) rfl dX5_stands_24 ?_
    rw [q_b_f (c := g_eqW B i f t) (fun h => by have := h.1; omega)] at k0; exact k0
  · refine q_iload_n hF 2 rfl rfl dX5_stands_13 ?_
    refine q_iflt hF (by have := g_len_r (i := i) (by omega); omega) dX5_stands_14 (fun c14 => ?_) (fun c14 => ?_)
    · refine q_iconst hF dX5_stands_23 ?_
      refine q_zreturn hF (by decide) rfl dX5_stands_24 ?_
      rw [q_b_f (c := g_eqW B i f t) (fun h => by have := h.1; omega)] at k0; exact k0
    · refine q_iload_n hF 3 rfl rfl dX5_stands_17 ?_
      refine q_aload_n hF 1 rfl rfl dX5_stands_18 ?_
      refine q_alen hF (n := 600) hT dX5_stands_19 ?_
      refine q_icmple hF (by have := g_len_r (i := i) (by omega); omega) (by decide) dX5_stands_20 (fun c20 => ?_) (fun c20 => ?_)
      · refine q_iconst hF dX5_stands_25 ?_
        refine q_istore hF (ls' := [(4, qI 0), (0, .ref (q_E G i)), (1, .ref by_), (2, qI (f : Int)), (3, qI (t : Int))]) (by decide) rfl dX5_stands_26 ?_
        exact lX5_stands (by decide) hF hi hT hby hBr ht (by omega) k0 (g_len i + 1) 0 (by omega) (by omega) (fun j hj => absurd hj (Nat.not_lt_zero _))
      · refine q_iconst hF dX5_stands_23 ?_
        refine q_zreturn hF (by decide) rfl dX5_stands_24 ?_
        rw [q_b_f (c := g_eqW B i f t) (fun h => by have := h.1; omega)] at k0; exact k0
set_option maxRecDepth 100000 in
theorem lX5_of {G : q_G} {F : q_F} {h : Nat} {Q : q_Q} {kc ks sz : Nat} {T : q_T} {by_ f t : Nat} {B : Nat → Int} {I L : q_I} {P : q_P} (h5 : 5 ≤ h) (hF : q_ok G F YX5_of h) (hT : T by_ = some (.inr (0, 600))) (hby : ∀ k, k < 600 → I by_ k = B k) (hBr : ∀ k, 0 ≤ B k ∧ B k ≤ 255) (ht : t ≤ 600) (hft : f ≤ t) (k0 : Q (.inl (some (qR ((g_wo B f t).map (q_E G))))) sz T I L P) : ∀ (n : Nat) (i : Nat), 23 - i < n → i ≤ 23 → g_woF B f t (23 - i) i = g_wo B f t → qX G F Q kc ks 2 [(3, qI (i : Int)), (0, .ref by_), (1, qI (f : Int)), (2, qI (t : Int))] [] sz T I L P := by
  intro n
  induction n with
  | zero => intro i hn; exact absurd hn (Nat.not_lt_zero _)
  | succ n ih =>
    intro i hn hk hg
    refine q_iload_n hF 0 rfl rfl dX5_of_2 ?_
    refine q_getsALL hF (q_mem 1184 (by decide +kernel) rfl) dX5_of_3 ?_
    refine q_lenALL hF dX5_of_6 ?_
    refine q_icmpge hF (by omega) (by decide) dX5_of_7 (fun c7 => ?_) (fun c7 => ?_)
    · refine q_null hF dX5_of_36 ?_
      refine q_areturn hF (r := none) rfl dX5_of_37 ?_
      rw [show g_wo B f t = none from by rw [← hg, show 23 - i = 0 by omega]; rfl] at k0; exact k0
    · refine q_getsALL hF (q_mem 1184 (by decide +kernel) rfl) dX5_of_10 ?_
      refine q_iload_n hF 0 rfl rfl dX5_of_13 ?_
      refine q_aldALL hF i rfl (by omega) dX5_of_14 ?_
      refine q_aload_n hF 1 rfl rfl dX5_of_15 ?_
      refine q_iload_n hF 2 rfl rfl dX5_of_16 ?_
      refine q_iload_n hF 3 rfl rfl dX5_of_17 ?_
      refine q_callVO (kc := kc) (ks := ks) (mc' := 0) (ms' := 0) (h' := 4) (st := []) hF vo_RX5_105 rfl [.ref by_, qI (f : Int), qI (t : Int)] rfl rfl (q_O_E (by omega)) (by omega) (Nat.le_of_ble_eq_true rfl) dX5_of_18 ?_
      refine mX5_stands (f := f) (t := t) (i := i) (by omega) hT hby hBr ht hft ?_
      refine q_ifeq_b hF dX5_of_21 (fun c21 => ?_) (fun c21 => ?_)
      · refine q_iinc hF (z' := ((1 + i : Nat) : Int)) (ls' := [(3, qI ((1 + i : Nat) : Int)), (0, .ref by_), (1, qI (f : Int)), (2, qI (t : Int))]) 0 rfl (by first | rfl | omega) (by decide) rfl dX5_of_30 ?_
        refine q_goto hF dX5_of_33 ?_
        exact ih (1 + i) (by omega) (by omega) (by rw [← hg, show 23 - i = (23 - (1 + i)) + 1 by omega, g_woF, if_neg c21, Nat.add_comm i 1])
      · refine q_getsALL hF (q_mem 1184 (by decide +kernel) rfl) dX5_of_24 ?_
        refine q_iload_n hF 0 rfl rfl dX5_of_27 ?_
        refine q_aldALL hF i rfl (by omega) dX5_of_28 ?_
        refine q_areturn hF (r := some (q_E G i)) rfl dX5_of_29 ?_
        rw [show g_wo B f t = some i from by rw [← hg, show 23 - i = (22 - i) + 1 by omega, g_woF, if_pos c21]] at k0; exact k0
theorem mX5_of {G : q_G} {sz : Nat} {T : q_T} {I L : q_I} {P : q_P} {Q : q_Q} {by_ f t : Nat} {B : Nat → Int} (hT : T by_ = some (.inr (0, 600))) (hby : ∀ k, k < 600 → I by_ k = B k) (hBr : ∀ k, 0 ≤ B k ∧ B k ≤ 255) (ht : t ≤ 600) (hft : f ≤ t) (k0 : Q (.inl (some (qR ((g_wo B f t).map (q_E G))))) sz T I L P) : qC G 5 0 0 YX5_of [.ref by_, qI (f : Int), qI (t : Int)] sz T I L P Q := by
  refine qC_of (by decide +kernel) rfl rfl (Nat.le_of_ble_eq_true rfl) (fun F hF _ _ => ?_)
  refine q_iconst hF dX5_of_0 ?_
  refine q_istore_n hF (ls' := [(3, qI 0), (0, .ref by_), (1, qI (f : Int)), (2, qI (t : Int))]) rfl (by decide) rfl dX5_of_1 ?_
  exact lX5_of (by decide) hF hT hby hBr ht hft k0 24 0 (by decide) (by decide) rfl
