/-! the class: whether a land is called so -/
set_option maxRecDepth 100000 in
theorem lX2_isCalled {G : q_G} {F : q_F} {h : Nat} {Q : q_Q} {kc ks sz : Nat} {T : q_T} {a by_ f t len : Nat} {B : Nat → Int} {I L : q_I} {P : q_P} (hF : q_ok G F YX2_isCalled h) (hT2 : T a = some (.inl 2)) (hP : P a 0 = some (a + 1)) (hT1 : T (a + 1) = some (.inr (0, 6))) (hT : T by_ = some (.inr (0, 600))) (hby : ∀ k, k < 600 → I by_ k = B k) (hBr : ∀ k, 0 ≤ B k ∧ B k ≤ 255) (hl : I a 1 = (len : Int)) (hl6 : len ≤ 6) (hnr : ∀ k, k < len → -2147483648 ≤ I (a + 1) k ∧ I (a + 1) k < 2147483648) (ht : t ≤ 600) (hlen : t = f + len) (k0 : Q (.inl (some (qI (q_b (t = f + len ∧ ∀ k, k < len → B (f + k) = I (a + 1) k))))) sz T I L P) : ∀ (n : Nat) (k : Nat), len - k < n → k ≤ len → (∀ j, j < k → B (f + j) = I (a + 1) j) → qX G F Q kc ks 25 [(4, qI (k : Int)), (0, .ref a), (1, .ref by_), (2, qI (f : Int)), (3, qI (t : Int))] [] sz T I L P := by
  intro n
  induction n with
  | zero => intro k hn; exact absurd hn (Nat.not_lt_zero _)
  | succ n ih =>
    intro k hn hk hall
    refine q_iload hF 0 rfl dX2_isCalled_25 ?_
    refine q_aload_n hF 1 rfl rfl dX2_isCalled_27 ?_
    refine q_getIv hF (z := (len : Int)) fl_RX2_13 hT2 hl dX2_isCalled_28 ?_
    refine q_icmpge hF (by omega) (by omega) dX2_isCalled_31 (fun c31 => ?_) (fun c31 => ?_)
    · refine q_iconst hF dX2_isCalled_65 ?_
      refine q_zreturn hF (by decide) rfl dX2_isCalled_66 ?_
      rw [q_b_t (c := t = f + len ∧ ∀ k, k < len → B (f + k) = I (a + 1) k) ⟨hlen, fun j hj => hall j (by omega)⟩] at k0; exact k0
    · refine q_iload hF 0 rfl dX2_isCalled_34 ?_
      refine q_bipush hF (n := 6) rfl dX2_isCalled_36 ?_
      refine q_icmpge hF (by omega) (by decide) dX2_isCalled_38 (fun c38 => ?_) (fun c38 => ?_)
      · omega
      · refine q_aload_n hF 2 rfl rfl dX2_isCalled_41 ?_
        refine q_iload_n hF 3 rfl rfl dX2_isCalled_42 ?_
        refine q_iload hF 0 rfl dX2_isCalled_43 ?_
        refine q_iadd hF dX2_isCalled_45 ?_
        refine q_ialoadv hF (z := B (f + k)) (n := 600) (f + k) hT (by omega) (by omega) (by decide) (hby _ (by omega)) dX2_isCalled_46 ?_
        refine q_aload_n hF 1 rfl rfl dX2_isCalled_47 ?_
        refine q_getA hF fl_RX2_9 rfl hT2 hP dX2_isCalled_48 ?_
        refine q_iload hF 0 rfl dX2_isCalled_51 ?_
        refine q_ialoadv hF (z := I (a + 1) k) (n := 6) k hT1 rfl (by omega) (by decide) rfl dX2_isCalled_53 ?_
        refine q_icmpeq hF (by have := hBr (f + k); omega) (hnr k (by omega)) dX2_isCalled_54 (fun c54 => ?_) (fun c54 => ?_)
        · refine q_iinc hF (z' := ((1 + k : Nat) : Int)) (ls' := [(4, qI ((1 + k : Nat) : Int)), (0, .ref a), (1, .ref by_), (2, qI (f : Int)), (3, qI (t : Int))]) 0 rfl (by first | rfl | omega) (by decide) rfl dX2_isCalled_59 ?_
          refine q_goto hF dX2_isCalled_62 ?_
          exact ih (1 + k) (by omega) (by omega) (fun j hj => by
            by_cases e : j = k
            · subst e; exact c54
            · exact hall j (by omega))
        · refine q_iconst hF dX2_isCalled_57 ?_
          refine q_zreturn hF (by decide) rfl dX2_isCalled_58 ?_
          rw [q_b_f (c := t = f + len ∧ ∀ k, k < len → B (f + k) = I (a + 1) k) (fun h => absurd (h.2 k (by omega)) c54)] at k0; exact k0
set_option maxRecDepth 100000 in
theorem mX2_isCalled {G : q_G} {sz : Nat} {T : q_T} {I L : q_I} {P : q_P} {Q : q_Q} {a by_ f t len : Nat} {B : Nat → Int} (hT2 : T a = some (.inl 2)) (hP : P a 0 = some (a + 1)) (hT1 : T (a + 1) = some (.inr (0, 6))) (hT : T by_ = some (.inr (0, 600))) (hby : ∀ k, k < 600 → I by_ k = B k) (hBr : ∀ k, 0 ≤ B k ∧ B k ≤ 255) (hl : I a 1 = (len : Int)) (hl6 : len ≤ 6) (hnr : ∀ k, k < len → -2147483648 ≤ I (a + 1) k ∧ I (a + 1) k < 2147483648) (ht : t ≤ 600) (hft : f ≤ t) (k0 : Q (.inl (some (qI (q_b (t = f + len ∧ ∀ k, k < len → B (f + k) = I (a + 1) k))))) sz T I L P) : qC G 0 0 0 YX2_isCalled [.ref a, .ref by_, qI (f : Int), qI (t : Int)] sz T I L P Q := by
  refine qC_of (by decide +kernel) rfl rfl (Nat.le_of_ble_eq_true rfl) (fun F hF _ _ => ?_)
  refine q_iload_n hF 3 rfl rfl dX2_isCalled_0 ?_
  refine q_iload_n hF 2 rfl rfl dX2_isCalled_1 ?_
  refine q_isub hF dX2_isCalled_2 ?_
  refine q_aload_n hF 0 rfl rfl dX2_isCalled_3 ?_
  refine q_getIv hF (z := (len : Int)) fl_RX2_13 hT2 hl dX2_isCalled_4 ?_
  refine q_icmpne hF (by omega) (by omega) dX2_isCalled_7 (fun c7 => ?_) (fun c7 => ?_)
  · refine q_iconst hF dX2_isCalled_20 ?_
    refine q_zreturn hF (by decide) rfl dX2_isCalled_21 ?_
    rw [q_b_f (c := t = f + len ∧ ∀ k, k < len → B (f + k) = I (a + 1) k) (fun h => by have := h.1; omega)] at k0; exact k0
  · refine q_iload_n hF 2 rfl rfl dX2_isCalled_10 ?_
    refine q_iflt hF (by omega) dX2_isCalled_11 (fun c11 => ?_) (fun c11 => ?_)
    · refine q_iconst hF dX2_isCalled_20 ?_
      refine q_zreturn hF (by decide) rfl dX2_isCalled_21 ?_
      rw [q_b_f (c := t = f + len ∧ ∀ k, k < len → B (f + k) = I (a + 1) k) (fun h => by have := h.1; omega)] at k0; exact k0
    · refine q_iload_n hF 3 rfl rfl dX2_isCalled_14 ?_
      refine q_aload_n hF 1 rfl rfl dX2_isCalled_15 ?_
      refine q_alen hF (n := 600) hT dX2_isCalled_16 ?_
      refine q_icmple hF (by omega) (by decide) dX2_isCalled_17 (fun c17 => ?_) (fun c17 => ?_)
      · refine q_iconst hF dX2_isCalled_22 ?_
        refine q_istore hF (ls' := [(4, qI 0), (0, .ref a), (1, .ref by_), (2, qI (f : Int)), (3, qI (t : Int))]) (by decide) rfl dX2_isCalled_23 ?_
        refine q_sub [0, 1, 2, 3, 4] rfl ?_
        exact lX2_isCalled hF hT2 hP hT1 hT hby hBr hl hl6 hnr ht (by omega) k0 (len + 1) 0 (by omega) (by omega) (fun j hj => absurd hj (Nat.not_lt_zero _))
      · refine q_iconst hF dX2_isCalled_20 ?_
        refine q_zreturn hF (by decide) rfl dX2_isCalled_21 ?_
        rw [q_b_f (c := t = f + len ∧ ∀ k, k < len → B (f + k) = I (a + 1) k) (fun h => by have := h.1; omega)] at k0; exact k0
