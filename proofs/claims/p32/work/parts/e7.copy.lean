/-! the law's own bank: a copy -/
def q_Cp (K k c : Nat) (I0 L0 : q_I) (P0 : q_P) (I9 L9 : q_I) (P9 : q_P) : Prop := (∀ q j, ¬ (K + 2 ≤ q ∧ q < K + 7) → q ≠ K + 13 → I9 q j = I0 q j) ∧ (∀ q j, q ≠ K + 18 → q ≠ K + 19 → L9 q j = L0 q j) ∧ (∀ q j, ¬ (K + 8 ≤ q ∧ q < K + 13) → P9 q j = P0 q j) ∧ (∀ l, l < c → (∀ x, x < 4 → I9 (K + 2 + l) x = I0 (k + 2 + l) x) ∧ I9 (K + 13) l = I0 (k + 13) l ∧ L9 (K + 18) l = L0 (k + 18) l ∧ L9 (K + 19) l = L0 (k + 19) l ∧ (∀ i, i < 5 → P9 (K + 8 + i) l = P0 (k + 8 + i) l))
def q_Cy (E W : Nat → Prop) (a b : Nat) : Nat → Prop := fun q => (a ≤ q ∧ q < b) ∨ (E q ∧ ¬ W q)

set_option maxRecDepth 100000 in
theorem lX10_copyA {G : q_G} {F : q_F} {h : Nat} {Q : q_Q} {kc ks sz : Nat} {T : q_T} {k K l : Nat} {I L : q_I} {P : q_P} (hF : q_ok G F YX10_copy h) (hO : q_OT T P k) (hK : q_OT T P K) (hA : q_A G K) (hkK : k + 20 ≤ K) (hl : l < 5) (k0 : ∀ J : q_I, (∀ q j, q ≠ K + 2 + l → J q j = I q j) → (∀ x, x < 4 → J (K + 2 + l) x = I (k + 2 + l) x) → qX G F Q kc ks 52 [(2, qI (l : Int)), (1, .ref K), (0, .ref k)] [] sz T J L P) : ∀ (n : Nat) (c : Nat) (J : q_I), 4 - c < n → c ≤ 4 → (∀ q j, q ≠ K + 2 + l → J q j = I q j) → (∀ x, x < c → J (K + 2 + l) x = I (k + 2 + l) x) → qX G F Q kc ks 25 [(3, qI (c : Int)), (2, qI (l : Int)), (1, .ref K), (0, .ref k)] [] sz T J L P := by
  intro n
  induction n with
  | zero => intro c J hn; exact absurd hn (Nat.not_lt_zero _)
  | succ n ih =>
    intro c J hn hc h1 h2
    refine q_iload_n hF 0 rfl rfl dX10_copy_25 ?_
    refine q_iconst hF dX10_copy_26 ?_
    refine q_icmpge hF (by omega) (by decide) dX10_copy_27 (fun c27 => ?_) (fun c27 => ?_)
    · obtain rfl : c = 4 := by omega
      refine q_sub [1, 2, 3] rfl ?_
      exact k0 J h1 h2
    · refine q_aload_n hF 2 rfl rfl dX10_copy_30 ?_
      refine q_getA hF fl_RX10_9 rfl hK.t0 hK.p1 dX10_copy_31 ?_
      refine q_iload_n hF 1 rfl rfl dX10_copy_34 ?_
      refine q_aaloadv hF (b := K + 2 + l) l hK.t1 (by decide) rfl (by omega) (by decide) (hK.pl l (by omega)) dX10_copy_35 ?_
      refine q_iload_n hF 0 rfl rfl dX10_copy_36 ?_
      refine q_aload_n hF 3 rfl rfl dX10_copy_37 ?_
      refine q_getA hF fl_RX10_9 rfl hO.t0 hO.p1 dX10_copy_38 ?_
      refine q_iload_n hF 1 rfl rfl dX10_copy_41 ?_
      refine q_aaloadv hF (b := k + 2 + l) l hO.t1 (by decide) rfl (by omega) (by decide) (hO.pl l (by omega)) dX10_copy_42 ?_
      refine q_iload_n hF 0 rfl rfl dX10_copy_43 ?_
      refine q_ialoadv hF (z := J (k + 2 + l) c) (n := 4) c (hO.tl l (by omega)) rfl (by omega) (by decide) rfl dX10_copy_44 ?_
      refine q_iastorev hF (n := 4) c (hK.tl l (by omega)) (q_Ale hA (by omega)) rfl (by omega) (by decide) dX10_copy_45 ?_
      refine q_iinc hF (z' := ((1 + c : Nat) : Int)) (ls' := [(3, qI ((1 + c : Nat) : Int)), (2, qI (l : Int)), (1, .ref K), (0, .ref k)]) 0 rfl (by first | rfl | omega) (by decide) rfl dX10_copy_46 ?_
      refine q_goto hF dX10_copy_49 ?_
      rw [Nat.add_comm 1 c]
      refine ih (c + 1) _ (by omega) (by omega) (fun q j hq => (u2_a _ _ hq).trans (h1 q j hq)) (fun x hx => ?_)
      by_cases e : x = c
      · subst e; exact (u2_s _ _ _ _).trans (h1 _ _ (by omega))
      · exact (u2_k _ _ e).trans (h2 x (by omega))

theorem u2_ne0 {α : Type} {M : Nat → Nat → α} {a i : Nat} (v : α) {q j : Nat} (e : ¬ (q = a ∧ j = i)) : u2 M a i v q j = M q j := by
  by_cases x : q = a
  · subst x; exact u2_k _ _ (fun z => e ⟨rfl, z⟩)
  · exact u2_a _ _ x

set_option maxRecDepth 100000 in
theorem lX10_copyB {G : q_G} {F : q_F} {h : Nat} {Q : q_Q} {kc ks sz : Nat} {T : q_T} {k K l : Nat} {I L : q_I} {P : q_P} (hF : q_ok G F YX10_copy h) (hO : q_OT T P k) (hK : q_OT T P K) (hA : q_A G K) (hkK : k + 20 ≤ K) (hl : l < 5) (hlw : ∀ i, i < 5 → ∀ b, P (k + 8 + i) l = some b → ∃ y, T b = some (.inr (0, y))) (k0 : ∀ J : q_P, (∀ q j, (¬ (K + 8 ≤ q ∧ q < K + 13) ∨ j ≠ l) → J q j = P q j) → (∀ x, x < 5 → J (K + 8 + x) l = P (k + 8 + x) l) → qX G F Q kc ks 81 [(2, qI (l : Int)), (1, .ref K), (0, .ref k)] [] sz T I L J) : ∀ (n : Nat) (c : Nat) (J : q_P), 5 - c < n → c ≤ 5 → (∀ q j, (¬ (K + 8 ≤ q ∧ q < K + 13) ∨ j ≠ l) → J q j = P q j) → (∀ x, x < c → J (K + 8 + x) l = P (k + 8 + x) l) → qX G F Q kc ks 54 [(3, qI (c : Int)), (2, qI (l : Int)), (1, .ref K), (0, .ref k)] [] sz T I L J := by
  intro n
  induction n with
  | zero => intro c J hn; exact absurd hn (Nat.not_lt_zero _)
  | succ n ih =>
    intro c J hn hc h1 h2
    refine q_iload_n hF 0 rfl rfl dX10_copy_54 ?_
    refine q_iconst hF dX10_copy_55 ?_
    refine q_icmpge hF (by omega) (by decide) dX10_copy_56 (fun c56 => ?_) (fun c56 => ?_)
    · obtain rfl : c = 5 := by omega
      refine q_sub [1, 2, 3] rfl ?_
      exact k0 J h1 h2
    · refine q_aload_n hF 2 rfl rfl dX10_copy_59 ?_
      refine q_getA hF fl_RX10_16 rfl hK.t0 ((h1 _ _ (Or.inl (by omega))).trans hK.p2) dX10_copy_60 ?_
      refine q_iload_n hF 0 rfl rfl dX10_copy_63 ?_
      refine q_aaloadv hF (b := K + 8 + c) c hK.t7 (by decide) rfl (by omega) (by decide) ((h1 _ _ (Or.inl (by omega))).trans (hK.ps c (by omega))) dX10_copy_64 ?_
      refine q_iload_n hF 1 rfl rfl dX10_copy_65 ?_
      refine q_aload_n hF 3 rfl rfl dX10_copy_66 ?_
      refine q_getA hF fl_RX10_16 rfl hO.t0 ((h1 _ _ (Or.inl (by omega))).trans hO.p2) dX10_copy_67 ?_
      refine q_iload_n hF 0 rfl rfl dX10_copy_70 ?_
      refine q_aaloadv hF (b := k + 8 + c) c hO.t7 (by decide) rfl (by omega) (by decide) ((h1 _ _ (Or.inl (by omega))).trans (hO.ps c (by omega))) dX10_copy_71 ?_
      refine q_iload_n hF 1 rfl rfl dX10_copy_72 ?_
      refine q_aaloadRv hF (r := J (k + 8 + c) l) l (hO.ts c (by omega)) (by decide) rfl (by omega) (by decide) rfl dX10_copy_73 ?_
      refine q_aastoreO hF (n := 5) (w := J (k + 8 + c) l) l (hK.ts c (by omega)) (fun b hb => hlw c (by omega) b ((h1 _ _ (Or.inl (by omega))).symm.trans hb)) (q_Ale hA (by omega)) rfl (by omega) (by decide) dX10_copy_74 ?_
      refine q_iinc hF (z' := ((1 + c : Nat) : Int)) (ls' := [(3, qI ((1 + c : Nat) : Int)), (2, qI (l : Int)), (1, .ref K), (0, .ref k)]) 0 rfl (by first | rfl | omega) (by decide) rfl dX10_copy_75 ?_
      refine q_goto hF dX10_copy_78 ?_
      rw [Nat.add_comm 1 c]
      refine ih (c + 1) _ (by omega) (by omega) (fun q j hq => ?_) (fun x hx => ?_)
      · by_cases e : q = K + 8 + c ∧ j = l
        · exact absurd e (by omega)
        · exact (u2_ne0 _ e).trans (h1 q j hq)
      · by_cases e : x = c
        · subst e; exact (u2_s _ _ _ _).trans (h1 _ _ (Or.inl (by omega)))
        · exact (u2_a _ _ (by omega)).trans (h2 x (by omega))

set_option maxRecDepth 100000 in
theorem lX10_copyC {G : q_G} {F : q_F} {h : Nat} {Q : q_Q} {kc ks sz : Nat} {T : q_T} {k K : Nat} {I L : q_I} {P : q_P} (hF : q_ok G F YX10_copy h) (hO : q_OT T P k) (hK : q_OT T P K) (hA : q_A G K) (hkK : k + 20 ≤ K) (hlw : ∀ i l, i < 5 → l < 5 → ∀ b, P (k + 8 + i) l = some b → ∃ y, T b = some (.inr (0, y))) (k0 : ∀ (I9 L9 : q_I) (P9 : q_P), q_Cp K k 5 I L P I9 L9 P9 → qX G F Q kc ks 123 [(1, .ref K), (0, .ref k)] [] sz T I9 L9 P9) : ∀ (n : Nat) (c : Nat) (I9 L9 : q_I) (P9 : q_P), 5 - c < n → c ≤ 5 → q_Cp K k c I L P I9 L9 P9 → qX G F Q kc ks 18 [(2, qI (c : Int)), (1, .ref K), (0, .ref k)] [] sz T I9 L9 P9 := by
  intro n
  induction n with
  | zero => intro c I9 L9 P9 hn; exact absurd hn (Nat.not_lt_zero _)
  | succ n ih =>
    intro c I9 L9 P9 hn hc hC
    refine q_iload_n hF 0 rfl rfl dX10_copy_18 ?_
    refine q_iconst hF dX10_copy_19 ?_
    refine q_icmpge hF (by omega) (by decide) dX10_copy_20 (fun c20 => ?_) (fun c20 => ?_)
    · obtain rfl : c = 5 := by omega
      refine q_sub [1, 2] rfl ?_
      exact k0 _ _ _ hC
    · refine q_iconst hF dX10_copy_23 ?_
      refine q_istore_n hF (ls' := [(3, qI 0), (2, qI (c : Int)), (1, .ref K), (0, .ref k)]) rfl (by decide) rfl dX10_copy_24 ?_
      have hlt : c < 5 := by omega
      have hO9 : q_OT T P9 k := hO.mv (fun _ _ _ => rfl) (fun q j a b _ _ => hC.2.2.1 q j (by omega))
      have hK9 : q_OT T P9 K := hK.mv (fun _ _ _ => rfl) (fun q j a b _ d => hC.2.2.1 q j (fun z => d (by omega)))
      refine lX10_copyA (I := I9) (l := c) hF hO9 hK9 hA hkK hlt ?_ _ 0 I9 (Nat.lt_succ_self _) (Nat.zero_le _) (fun _ _ _ => rfl) (fun x hx => absurd hx (by omega))
      intro J g1 g2
      refine q_iconst hF dX10_copy_52 ?_
      refine q_istore_n hF (ls' := [(3, qI 0), (2, qI (c : Int)), (1, .ref K), (0, .ref k)]) rfl (by decide) rfl dX10_copy_53 ?_
      refine lX10_copyB (P := P9) (l := c) hF hO9 hK9 hA hkK hlt (fun i hi b hb => hlw i c hi hlt b ((hC.2.2.1 _ _ (by omega)).symm.trans hb)) ?_ _ 0 P9 (Nat.lt_succ_self _) (Nat.zero_le _) (fun _ _ _ => rfl) (fun x hx => absurd hx (by omega))
      intro J2 g3 g4
      refine q_aload_n hF 1 rfl rfl dX10_copy_81 ?_
      refine q_getA hF fl_RX10_19 rfl hK.t0 ((g3 _ _ (Or.inl (by omega))).trans hK9.p3) dX10_copy_82 ?_
      refine q_iload_n hF 0 rfl rfl dX10_copy_85 ?_
      refine q_aload_n hF 2 rfl rfl dX10_copy_86 ?_
      refine q_getA hF fl_RX10_19 rfl hO.t0 ((g3 _ _ (Or.inl (by omega))).trans hO9.p3) dX10_copy_87 ?_
      refine q_iload_n hF 0 rfl rfl dX10_copy_90 ?_
      refine q_ialoadv hF (z := J (k + 13) c) (n := 5) c hO.t13 rfl (by omega) (by decide) rfl dX10_copy_91 ?_
      refine q_iastorev hF (n := 5) c hK.t13 (q_Ale hA (by omega)) rfl (by omega) (by decide) dX10_copy_92 ?_
      refine q_aload_n hF 1 rfl rfl dX10_copy_93 ?_
      refine q_getA hF fl_RX10_44 rfl hK.t0 ((g3 _ _ (Or.inl (by omega))).trans hK9.p13) dX10_copy_94 ?_
      refine q_iload_n hF 0 rfl rfl dX10_copy_97 ?_
      refine q_aload_n hF 2 rfl rfl dX10_copy_98 ?_
      refine q_getA hF fl_RX10_44 rfl hO.t0 ((g3 _ _ (Or.inl (by omega))).trans hO9.p13) dX10_copy_99 ?_
      refine q_iload_n hF 0 rfl rfl dX10_copy_102 ?_
      refine q_laloadv hF (z := L9 (k + 18) c) (n := 5) c hO.t18 rfl (by omega) (by decide) rfl dX10_copy_103 ?_
      refine q_lastorev hF (n := 5) c hK.t18 (q_Ale hA (by omega)) rfl (by omega) (by decide) dX10_copy_104 ?_
      refine q_aload_n hF 1 rfl rfl dX10_copy_105 ?_
      refine q_getA hF fl_RX10_47 rfl hK.t0 ((g3 _ _ (Or.inl (by omega))).trans hK9.p14) dX10_copy_106 ?_
      refine q_iload_n hF 0 rfl rfl dX10_copy_109 ?_
      refine q_aload_n hF 2 rfl rfl dX10_copy_110 ?_
      refine q_getA hF fl_RX10_47 rfl hO.t0 ((g3 _ _ (Or.inl (by omega))).trans hO9.p14) dX10_copy_111 ?_
      refine q_iload_n hF 0 rfl rfl dX10_copy_114 ?_
      refine q_laloadv hF (z := L9 (k + 19) c) (n := 5) c hO.t19 rfl (by omega) (by decide) (u2_a _ _ (by omega)) dX10_copy_115 ?_
      refine q_lastorev hF (n := 5) c hK.t19 (q_Ale hA (by omega)) rfl (by omega) (by decide) dX10_copy_116 ?_
      refine q_iinc hF (z' := ((1 + c : Nat) : Int)) (ls' := [(2, qI ((1 + c : Nat) : Int)), (1, .ref K), (0, .ref k)]) 0 rfl (by first | rfl | omega) (by decide) rfl dX10_copy_117 ?_
      refine q_goto hF dX10_copy_120 ?_
      rw [Nat.add_comm 1 c]
      refine ih (c + 1) _ _ _ (by omega) (by omega) ⟨fun q j h h2 => (u2_a _ _ h2).trans ((g1 q j (by omega)).trans (hC.1 q j h h2)), fun q j h h2 => (u2_a _ _ h2).trans ((u2_a _ _ h).trans (hC.2.1 q j h h2)), fun q j h => (g3 q j (Or.inl h)).trans (hC.2.2.1 q j h), fun l hl => ?_⟩
      by_cases e : l = c
      · subst e
        exact ⟨fun x hx => (u2_a _ _ (by omega)).trans ((g2 x hx).trans (hC.1 _ _ (by omega) (by omega))), (u2_s _ _ _ _).trans ((g1 _ _ (by omega)).trans (hC.1 _ _ (by omega) (by omega))), (u2_a _ _ (by omega)).trans ((u2_s _ _ _ _).trans (hC.2.1 _ _ (by omega) (by omega))), (u2_s _ _ _ _).trans (hC.2.1 _ _ (by omega) (by omega)), fun i hi => (g4 i hi).trans (hC.2.2.1 _ _ (by omega))⟩
      · obtain ⟨a1, a2, a3, a4, a5⟩ := hC.2.2.2 l (by omega)
        exact ⟨fun x hx => (u2_a _ _ (by omega)).trans ((g1 _ _ (by omega)).trans (a1 x hx)), (u2_k _ _ e).trans ((g1 _ _ (by omega)).trans a2), (u2_a _ _ (by omega)).trans ((u2_k _ _ e).trans a3), (u2_k _ _ e).trans ((u2_a _ _ (by omega)).trans a4), fun i hi => (g3 _ _ (Or.inr e)).trans (a5 i hi)⟩

set_option maxRecDepth 100000 in
theorem lX10_copyD {G : q_G} {F : q_F} {h : Nat} {Q : q_Q} {kc ks sz : Nat} {T : q_T} {k K v n9 : Nat} {ρ : Nat → Nat} {r : Nat → Int} {I L : q_I} {P : q_P} (hF : q_ok G F YX10_copy h) (h3 : 3 ≤ h) (hA : q_A G K) (hn12 : n9 ≤ 12) (htv : T v = some (.inr (8, n9))) (htk0 : T k = some (.inl 9)) (htK0 : T K = some (.inl 9)) (htK : T (K + 20) = some (.inr (8, n9))) (hpK : P K 9 = some (K + 20)) (hpk : P k 9 = some v) (hpv : ∀ i, i < n9 → P v i = some (ρ i)) (hta : ∀ i, i < n9 → T (ρ i) = some (.inl 7)) (hρ : ∀ i, i < n9 → ρ i < K) (hv : v < K) (hkK : k < K) (hnl : ∀ i, i < n9 → I (ρ i) 11 = 0 ∨ I (ρ i) 11 = 1) (hac : ∀ i, i < n9 → q_OA I L (ρ i) r i) (k0 : ∀ (T9 : q_T) (I9 L9 : q_I) (P9 : q_P), (∀ q, q < K + 21 → T9 q = T q) → (∀ y, y < n9 → T9 (K + 21 + y) = some (.inl 7)) → (∀ q j, q < K + 21 → I9 q j = I q j) → (∀ q j, q < K + 21 → L9 q j = L q j) → (∀ q j, q ≠ K + 20 → P9 q j = P q j) → (∀ y, y < n9 → P9 (K + 20) y = some (K + 21 + y)) → (∀ y, y < n9 → q_OA I9 L9 (K + 21 + y) r y) → q_F0 (K + 21 + n9) I9 L9 P9 → qX G F Q kc ks 207 [(1, .ref K), (0, .ref k)] [] (K + 21 + n9) T9 I9 L9 P9) : ∀ (n : Nat) (c : Nat) (sz9 : Nat) (T9 : q_T) (I9 L9 : q_I) (P9 : q_P), n9 - c < n → c ≤ n9 → sz9 = K + 21 + c → (∀ q, q < K + 21 → T9 q = T q) → (∀ y, y < c → T9 (K + 21 + y) = some (.inl 7)) → (∀ q j, q < K + 21 → I9 q j = I q j) → (∀ q j, q < K + 21 → L9 q j = L q j) → (∀ q j, q ≠ K + 20 → P9 q j = P q j) → (∀ y, y < c → P9 (K + 20) y = some (K + 21 + y)) → (∀ y, y < c → q_OA I9 L9 (K + 21 + y) r y) → q_F0 (K + 21 + c) I9 L9 P9 → qX G F Q (kc + (n9 - c)) (ks + 12 * (n9 - c)) 177 [(2, qI (c : Int)), (1, .ref K), (0, .ref k)] [] sz9 T9 I9 L9 P9 := by
  intro n
  induction n with
  | zero => intro c sz9 T9 I9 L9 P9 hn; exact absurd hn (Nat.not_lt_zero _)
  | succ n ih =>
    intro c sz9 T9 I9 L9 P9 hn hc hs9 hTs hTn hI hL hP hPn han hZ
    subst hs9
    refine q_iload_n hF 0 rfl rfl dX10_copy_177 ?_
    refine q_aload_n hF 2 rfl rfl dX10_copy_178 ?_
    refine q_getA hF fl_RX10_32 rfl ((hTs _ (by omega)).trans htk0) ((hP _ _ (by omega)).trans hpk) dX10_copy_179 ?_
    refine q_alen hF (n := n9) ((hTs _ (by omega)).trans htv) dX10_copy_182 ?_
    refine q_icmpge hF (by omega) (by omega) dX10_copy_183 (fun c183 => ?_) (fun c183 => ?_)
    · obtain rfl : c = n9 := by omega
      refine q_sub [1, 2] rfl ?_
      refine qX.room (kc := kc) (ks := ks) (by omega) (by omega) ?_
      exact k0 T9 I9 L9 P9 hTs hTn hI hL hP hPn han hZ
    · refine qX.room (kc := kc + (n9 - (c + 1)) + 1) (ks := ks + 12 * (n9 - (c + 1)) + 12) (by omega) (by omega) ?_
      refine q_aload_n hF 1 rfl rfl dX10_copy_186 ?_
      refine q_getA hF fl_RX10_32 rfl ((hTs _ (by omega)).trans htK0) ((hP _ _ (by omega)).trans hpK) dX10_copy_187 ?_
      refine q_iload_n hF 0 rfl rfl dX10_copy_190 ?_
      refine q_aload_n hF 2 rfl rfl dX10_copy_191 ?_
      refine q_getA hF fl_RX10_32 rfl ((hTs _ (by omega)).trans htk0) ((hP _ _ (by omega)).trans hpk) dX10_copy_192 ?_
      refine q_iload_n hF 0 rfl rfl dX10_copy_195 ?_
      refine q_aaloadv hF (b := ρ c) c ((hTs _ (by omega)).trans htv) (by decide) rfl (by omega) (by omega) ((hP _ _ (by omega)).trans (hpv c (by omega))) dX10_copy_196 ?_
      refine q_callV (kc := kc + (n9 - (c + 1))) (ks := ks + 12 * (n9 - (c + 1))) (mc' := 1) (ms' := 12) (h' := 2) (st := [qI (c : Int), .ref (K + 20)]) hF vl_RX10_63 rfl [] rfl rfl ((hTs _ (by have := hρ c (by omega); omega)).trans (hta c (by omega))) (by omega) (Nat.le_of_ble_eq_true rfl) dX10_copy_197 ?_
      refine mX8_copy ((hTs _ (by have := hρ c (by omega); omega)).trans (hta c (by omega))) (q_Ale hA (by omega)) hZ (by have := hρ c (by omega); omega) (by rw [hI _ _ (by have := hρ c (by omega); omega)]; exact hnl c (by omega)) (fun I' L' c197_0 c197_1 c197_2 c197_3 => ?_)
      refine q_aastorev hF (n := n9) (ci := 7) c ((q_upT_n _ _ (by omega)).trans ((hTs _ (by omega)).trans htK)) (q_upT_s _ _ _) rfl rfl (q_Ale hA (by omega)) rfl (by omega) (by omega) dX10_copy_200 ?_
      refine q_iinc hF (z' := ((1 + c : Nat) : Int)) (ls' := [(2, qI ((1 + c : Nat) : Int)), (1, .ref K), (0, .ref k)]) 0 rfl (by first | rfl | omega) (by decide) rfl dX10_copy_201 ?_
      refine q_goto hF dX10_copy_204 ?_
      rw [Nat.add_comm 1 c]
      refine ih (c + 1) _ _ _ _ _ (by omega) (by omega) (by omega) (fun q hq => (q_upT_n _ _ (by omega)).trans (hTs q hq)) (fun y hy => ?_) (fun q j hq => (c197_0 q j (by omega)).trans (hI q j hq)) (fun q j hq => (c197_1 q j (by omega)).trans (hL q j hq)) (fun q j hq => (u2_a _ _ (by omega)).trans (hP q j hq)) (fun y hy => ?_) (fun y hy => ?_) (fun q j hq => ?_)
      · by_cases e : y = c
        · subst e; exact q_upT_s _ _ _
        · exact (q_upT_n _ _ (by omega)).trans (hTn y (by omega))
      · by_cases e : y = c
        · subst e; exact u2_s _ _ _ _
        · exact (u2_k _ _ e).trans (hPn y (by omega))
      · by_cases e : y = c
        · subst e
          exact c197_2 _ _ ((hac _ (by omega)).mv (fun j => hI _ _ (by have := hρ y (by omega); omega)) (hL _ _ (by have := hρ y (by omega); omega)))
        · exact (han y (by omega)).mv (fun j => c197_0 _ _ (by omega)) (c197_1 _ _ (by omega))
      · have := c197_3 q j (by omega)
        exact ⟨this.1, this.2.1, (u2_a _ _ (by omega)).trans this.2.2⟩

set_option maxRecDepth 100000 in
theorem lX10_copyE {G : q_G} {F : q_F} {h : Nat} {Q : q_Q} {kc ks sz : Nat} {T : q_T} {k K : Nat} {I L : q_I} {P : q_P} (hF : q_ok G F YX10_copy h) (hO : q_OT T P k) (hK : q_OT T P K) (hA : q_A G K) (hkK : k + 20 ≤ K) (k0 : ∀ J : q_I, (∀ q j, q ≠ K + 17 → J q j = L q j) → (∀ x, x < 7 → J (K + 17) x = L (k + 17) x) → Q (.inl (some (.ref K))) sz T I J P) : ∀ (n : Nat) (c : Nat) (J : q_I), 7 - c < n → c ≤ 7 → (∀ q j, q ≠ K + 17 → J q j = L q j) → (∀ x, x < c → J (K + 17) x = L (k + 17) x) → qX G F Q kc ks 225 [(2, qI (c : Int)), (1, .ref K), (0, .ref k)] [] sz T I J P := by
  intro n
  induction n with
  | zero => intro c J hn; exact absurd hn (Nat.not_lt_zero _)
  | succ n ih =>
    intro c J hn hc h1 h2
    refine q_iload_n hF 0 rfl rfl dX10_copy_225 ?_
    refine q_bipush hF (n := 7) rfl dX10_copy_226 ?_
    refine q_icmpge hF (by omega) (by decide) dX10_copy_228 (fun c228 => ?_) (fun c228 => ?_)
    · refine q_aload_n hF 1 rfl rfl dX10_copy_249 ?_
      refine q_areturn hF (r := some K) rfl dX10_copy_250 ?_
      obtain rfl : c = 7 := by omega
      exact k0 J h1 h2
    · refine q_aload_n hF 1 rfl rfl dX10_copy_231 ?_
      refine q_getA hF fl_RX10_40 rfl hK.t0 hK.p12 dX10_copy_232 ?_
      refine q_iload_n hF 0 rfl rfl dX10_copy_235 ?_
      refine q_aload_n hF 2 rfl rfl dX10_copy_236 ?_
      refine q_getA hF fl_RX10_40 rfl hO.t0 hO.p12 dX10_copy_237 ?_
      refine q_iload_n hF 0 rfl rfl dX10_copy_240 ?_
      refine q_laloadv hF (z := J (k + 17) c) (n := 7) c hO.t17 rfl (by omega) (by decide) rfl dX10_copy_241 ?_
      refine q_lastorev hF (n := 7) c hK.t17 (q_Ale hA (by omega)) rfl (by omega) (by decide) dX10_copy_242 ?_
      refine q_iinc hF (z' := ((1 + c : Nat) : Int)) (ls' := [(2, qI ((1 + c : Nat) : Int)), (1, .ref K), (0, .ref k)]) 0 rfl (by first | rfl | omega) (by decide) rfl dX10_copy_243 ?_
      refine q_goto hF dX10_copy_246 ?_
      rw [Nat.add_comm 1 c]
      refine ih (c + 1) _ (by omega) (by omega) (fun q j hq => (u2_a _ _ hq).trans (h1 q j hq)) (fun x hx => ?_)
      by_cases e : x = c
      · subst e; exact (u2_s _ _ _ _).trans (h1 _ _ (by omega))
      · exact (u2_k _ _ e).trans (h2 x (by omega))

set_option maxRecDepth 100000 in
theorem mX10_copy {G : q_G} {sz : Nat} {T : q_T} {I L : q_I} {P : q_P} {Q : q_Q} {k : Nat} {E : Nat → Prop} {v n w m a0 : Nat} {ρ σ : Nat → Nat} {r : Nat → Int} (hW : q_OW E T I L P k v n ρ w m σ r) (hE : ∀ q, E q → a0 ≤ q ∧ q < sz) (hA0 : q_A G a0) (hAz : a0 ≤ sz) (hZ : q_F0 sz I L P) (hVR : g_VR r) (k0 : ∀ (T' : q_T) (I' L' : q_I) (P' : q_P), (∀ q, q < sz → T' q = T q) → (∀ q j, q < sz → I' q j = I q j) → (∀ q j, q < sz → L' q j = L q j) → (∀ q j, q < sz → P' q j = P q j) → q_F0 (sz + 21 + n) I' L' P' → q_OW (q_Cy E (q_Wk k n ρ) sz (sz + 21 + n)) T' I' L' P' sz (sz + 20) n (fun y => sz + 21 + y) w m σ r → Q (.inl (some (.ref sz))) (sz + 21 + n) T' I' L' P') : qC G 3 33 251 YX10_copy [.ref k] sz T I L P Q := by
  refine qC_of (by decide +kernel) rfl rfl (Nat.le_of_ble_eq_true rfl) (fun F hF _ _ => ?_)
  have hO := hW.ot
  have hR := hW.rr
  have hM := hW.om
  have hv0 := hVR.1
  have hn12 : n ≤ 12 := by have := hv0.many; have := hM.nn; omega
  have hEk : ∀ q, k ≤ q → q < k + 20 → a0 ≤ q ∧ q < sz := fun q x y => hE q (hW.ek q x y)
  have hk0 := hEk k (by omega) (by omega)
  have hk19 := hEk (k + 19) (by omega) (by omega)
  have hA : q_A G sz := q_Ale hA0 hAz
  have hwz := hE w hM.ew
  have hvz := hE v hM.ev
  obtain ⟨o, n8, o1, o2, o3, o4, o5, o6⟩ := hR.od
  have hoz := hE o o2
  refine q_newo hF (s' := sz + 1) (kc := 32) (ks := 236) (ci := 9) (N := 15) ⟨_, rfl, rfl, (q_mem 446 (by decide +kernel) rfl), (q_mem 447 (by decide +kernel) rfl), (q_mem 57 (by decide +kernel) rfl)⟩ (fun j => (hZ _ _ (Nat.le_refl _)).1) (fun j => (hZ _ _ (Nat.le_refl _)).2.1) (fun j => (hZ _ _ (Nat.le_refl _)).2.2) dX10_copy_0 rfl ?_
  refine q_dup hF rfl dX10_copy_3 ?_
  refine q_callC (kc := 13) (ks := 156) (mc' := 19) (ms' := 80) (h' := 1) (st := [.ref sz]) hF cl_RX10_50 rfl [] rfl rfl (by decide) (Nat.le_of_ble_eq_true rfl) dX10_copy_4 ?_
  refine mX10_init (q_upT_s _ _ _) hA hZ (fun T9 I9 L9 P9 c4_0 => ?_)
  obtain ⟨z1, z2, z3, ⟨z4, z5, z6⟩, ⟨z7, z8, z9⟩, zi, ⟨zj0, zj1, zj2⟩, zk, zl, zm, zn⟩ := c4_0
  have hT9 : ∀ q, q < sz → T9 q = T q := fun q hq => (z1 q (by omega)).trans (q_upT_n _ _ (by omega))
  have mI9 : ∀ q j, q < sz → I9 q j = I q j := fun q j hq => (z2 q j hq).1
  have mL9 : ∀ q j, q < sz → L9 q j = L q j := fun q j hq => (z2 q j hq).2.1
  have mP9 : ∀ q j, q < sz → P9 q j = P q j := fun q j hq => (z2 q j hq).2.2
  have hO9 : q_OT T9 P9 k := hO.mv (fun q a b => hT9 q (by omega)) (fun q j a b _ _ => mP9 q j (by omega))
  have hK9 := z3
  refine q_astore_n hF (ls' := [(1, .ref sz), (0, .ref k)]) rfl (by decide) rfl dX10_copy_7 ?_
  refine q_aload_n hF 0 rfl rfl dX10_copy_8 ?_
  refine q_aload_n hF 1 rfl rfl dX10_copy_9 ?_
  refine q_getIv hF (z := r 0) fl_RX10_51 hO9.t0 ((mI9 _ _ (by omega)).trans hR.ln) dX10_copy_10 ?_
  refine q_putI hF fl_RX10_51 hK9.t0 hA dX10_copy_13 ?_
  refine q_iconst hF dX10_copy_16 ?_
  refine q_istore_n hF (ls' := [(2, qI 0), (1, .ref sz), (0, .ref k)]) rfl (by decide) rfl dX10_copy_17 ?_
  refine lX10_copyC (K := sz) hF hO9 hK9 hA (by omega) (fun i l hi hl b hb => ?_) ?_ _ 0 _ _ _ (Nat.lt_succ_self _) (Nat.zero_le _) ⟨fun _ _ _ _ => rfl, fun _ _ _ _ => rfl, fun _ _ _ => rfl, fun l hl => absurd hl (by omega)⟩
  · rw [mP9 _ _ (by omega)] at hb
    rcases hR.lw i l hi hl with ⟨-, x⟩ | ⟨-, s, _, _, _, _, x1, x2, x3, -⟩
    · rw [x] at hb; cases hb
    · rw [x1] at hb; cases hb; exact ⟨_, (hT9 _ (hE _ x2).2).trans x3⟩
  intro I2 L2 P2 hC
  have pI : ∀ q j, q < sz → I2 q j = I q j := fun q j hq => (hC.1 q j (by omega) (by omega)).trans ((u2_a _ _ (by omega)).trans (mI9 q j hq))
  have pL : ∀ q j, q < sz → L2 q j = L q j := fun q j hq => (hC.2.1 q j (by omega) (by omega)).trans (mL9 q j hq)
  have pp : ∀ q j, q < sz → P2 q j = P q j := fun q j hq => (hC.2.2.1 q j (by omega)).trans (mP9 q j hq)
  have pz : ∀ j, P2 (sz + 20) j = none := fun j => (hC.2.2.1 _ _ (by omega)).trans (zn _ _ (by omega)).2.2
  have hO2 : q_OT T9 P2 k := hO9.mv (fun _ _ _ => rfl) (fun q j a b _ _ => hC.2.2.1 q j (by omega))
  have hK2 : q_OT T9 P2 sz := hK9.mv (fun _ _ _ => rfl) (fun q j a b _ d => hC.2.2.1 q j (fun z => d (by omega)))
  refine q_aload_n hF 0 rfl rfl dX10_copy_123 ?_
  refine q_aload_n hF 1 rfl rfl dX10_copy_124 ?_
  refine q_getIv hF (z := r 3) fl_RX10_23 hO9.t0 ((pI _ _ (by omega)).trans hR.wa) dX10_copy_125 ?_
  refine q_putI hF fl_RX10_23 hK9.t0 hA dX10_copy_128 ?_
  refine q_aload_n hF 0 rfl rfl dX10_copy_131 ?_
  refine q_aload_n hF 1 rfl rfl dX10_copy_132 ?_
  refine q_getIv hF (z := r 4) fl_RX10_54 hO9.t0 ((u2_k _ _ (by decide)).trans ((pI _ _ (by omega)).trans hR.lt)) dX10_copy_133 ?_
  refine q_putI hF fl_RX10_54 hK9.t0 hA dX10_copy_136 ?_
  refine q_aload_n hF 0 rfl rfl dX10_copy_139 ?_
  refine q_aload_n hF 1 rfl rfl dX10_copy_140 ?_
  refine q_getIv hF (z := r 5) fl_RX10_57 hO9.t0 ((u2_k _ _ (by decide)).trans ((u2_k _ _ (by decide)).trans ((pI _ _ (by omega)).trans hR.hm))) dX10_copy_141 ?_
  refine q_putI hF fl_RX10_57 hK9.t0 hA dX10_copy_144 ?_
  refine q_aload_n hF 0 rfl rfl dX10_copy_147 ?_
  refine q_aload_n hF 1 rfl rfl dX10_copy_148 ?_
  refine q_getA hF fl_RX10_27 rfl hO9.t0 ((pp _ _ (by omega)).trans o1) dX10_copy_149 ?_
  refine q_putA hF fl_RX10_27 rfl hK9.t0 hA dX10_copy_152 ?_
  refine q_aload_n hF 0 rfl rfl dX10_copy_155 ?_
  refine q_aload_n hF 1 rfl rfl dX10_copy_156 ?_
  refine q_getIv hF (z := r 2) fl_RX10_60 hO9.t0 ((u2_k _ _ (by decide)).trans ((u2_k _ _ (by decide)).trans ((u2_k _ _ (by decide)).trans ((pI _ _ (by omega)).trans hM.mo)))) dX10_copy_157 ?_
  refine q_putI hF fl_RX10_60 hK9.t0 hA dX10_copy_160 ?_
  refine q_aload_n hF 0 rfl rfl dX10_copy_163 ?_
  refine q_aload_n hF 1 rfl rfl dX10_copy_164 ?_
  refine q_getA hF fl_RX10_32 rfl hO9.t0 ((u2_k _ _ (by decide)).trans ((pp _ _ (by omega)).trans hM.pv)) dX10_copy_165 ?_
  refine q_alen hF (n := n) ((hT9 _ (by omega)).trans hM.tv) dX10_copy_168 ?_
  refine qX.room (kc := n + 1) (ks := (12 * n) + n) (by omega) (by omega) ?_
  refine q_newr hF (s' := sz + 21) (kc := n) (ks := (12 * n)) (t := 8) (n := n) rfl (by decide) (by decide) (q_mem 455 (by decide +kernel) rfl) q_aO8 (by omega) (fun j => ((u2_a _ _ (by omega)).trans (pz _))) dX10_copy_169 rfl ?_
  refine q_putA hF fl_RX10_32 rfl ((q_upT_n _ _ (by omega)).trans hK9.t0) hA dX10_copy_172 ?_
  refine q_iconst hF dX10_copy_175 ?_
  refine q_istore_n hF (ls' := [(2, qI 0), (1, .ref sz), (0, .ref k)]) rfl (by decide) rfl dX10_copy_176 ?_
  have hT3 : ∀ q, q < sz → (q_upT T9 (sz + 20) (.inr (8, n))) q = T q := fun q hq => (q_upT_n _ _ (by omega)).trans (hT9 q hq)
  have hI3 : ∀ q j, q < sz → (u2 (u2 (u2 (u2 I2 sz 4 (r 3)) sz 5 (r 4)) sz 6 (r 5)) sz 8 (r 2)) q j = I q j := fun q j hq => ((u2_a _ _ (by omega)).trans ((u2_a _ _ (by omega)).trans ((u2_a _ _ (by omega)).trans ((u2_a _ _ (by omega)).trans ((pI q j hq))))))
  have hP3 : ∀ q j, q < sz → (u2 (u2 P2 sz 7 (some o)) sz 9 (some (sz + 20))) q j = P q j := fun q j hq => ((u2_a _ _ (by omega)).trans ((u2_a _ _ (by omega)).trans ((pp q j hq))))
  have hK3 : q_OT (q_upT T9 (sz + 20) (.inr (8, n))) (u2 (u2 P2 sz 7 (some o)) sz 9 (some (sz + 20))) sz := hK2.mv (fun q a b => q_upT_n _ _ (by omega)) (fun q j a b c d => ((u2_ne0 _ (by omega)).trans ((u2_ne0 _ (by omega)).trans (rfl))))
  have hEy : ∀ q, E q → q ≠ k → (∀ x, T q = some x → x = .inr (0, n8) ∨ x = .inr (0, 4) ∨ x = .inr (6, m) ∨ x = .inr (0, 5)) → (∃ x, T q = some x) → q_Cy E (q_Wk k n ρ) sz (sz + 21 + n) q := fun q hq hk hx he => by
    obtain ⟨x, hx2⟩ := he
    refine Or.inr ⟨hq, fun z => ?_⟩
    have hx3 := hx x hx2
    rcases z with z | z | z | z | ⟨j, hj, z⟩
    · exact hk z
    · subst z; have e := hx2.symm.trans hO.t17; cases e; rcases hx3 with y | y | y | y <;> cases y
    · subst z; have e := hx2.symm.trans hO.t18; cases e; rcases hx3 with y | y | y | y <;> cases y
    · subst z; have e := hx2.symm.trans hO.t19; cases e; rcases hx3 with y | y | y | y <;> cases y
    · subst z; have e := hx2.symm.trans (hM.ta j hj); cases e; rcases hx3 with y | y | y | y <;> cases y
  have nek : ∀ q x, T q = some (.inr x) → q ≠ k := fun q x hq => q_Tne hq hO.t0 (by intro z; cases z)
  have f03 : (u2 (u2 (u2 (u2 I2 sz 4 (r 3)) sz 5 (r 4)) sz 6 (r 5)) sz 8 (r 2)) sz 0 = r 0 := ((u2_k _ _ (by decide)).trans ((u2_k _ _ (by decide)).trans ((u2_k _ _ (by decide)).trans ((u2_k _ _ (by decide)).trans ((hC.1 _ _ (by omega) (by omega)).trans (u2_s _ _ _ _))))))
  have f43 : (u2 (u2 (u2 (u2 I2 sz 4 (r 3)) sz 5 (r 4)) sz 6 (r 5)) sz 8 (r 2)) sz 4 = r 3 := ((u2_k _ _ (by decide)).trans ((u2_k _ _ (by decide)).trans ((u2_k _ _ (by decide)).trans (u2_s _ _ _ _))))
  have f53 : (u2 (u2 (u2 (u2 I2 sz 4 (r 3)) sz 5 (r 4)) sz 6 (r 5)) sz 8 (r 2)) sz 5 = r 4 := ((u2_k _ _ (by decide)).trans ((u2_k _ _ (by decide)).trans (u2_s _ _ _ _)))
  have f63 : (u2 (u2 (u2 (u2 I2 sz 4 (r 3)) sz 5 (r 4)) sz 6 (r 5)) sz 8 (r 2)) sz 6 = r 5 := ((u2_k _ _ (by decide)).trans (u2_s _ _ _ _))
  have ld3 : ∀ l i : Nat, (l : Int) < r 0 → l < 5 → i < 4 → (u2 (u2 (u2 (u2 I2 sz 4 (r 3)) sz 5 (r 4)) sz 6 (r 5)) sz 8 (r 2)) (sz + 2 + l) i = r (31 + 13 * l + i) := fun l i h1 h2 h3 => ((u2_a _ _ (by omega)).trans ((u2_a _ _ (by omega)).trans ((u2_a _ _ (by omega)).trans ((u2_a _ _ (by omega)).trans (((hC.2.2.2 l h2).1 i h3).trans ((u2_a _ _ (by omega)).trans ((mI9 _ _ (by omega)).trans (hR.ld l i h1 h2 h3))))))))
  have py3 : ∀ i : Nat, i < 5 → (u2 (u2 (u2 (u2 I2 sz 4 (r 3)) sz 5 (r 4)) sz 6 (r 5)) sz 8 (r 2)) (sz + 13) i = r (12 + i) := fun i hi => ((u2_a _ _ (by omega)).trans ((u2_a _ _ (by omega)).trans ((u2_a _ _ (by omega)).trans ((u2_a _ _ (by omega)).trans (((hC.2.2.2 i hi).2.1).trans ((u2_a _ _ (by omega)).trans ((mI9 _ _ (by omega)).trans (hR.py i hi))))))))
  have hp73 : (u2 (u2 P2 sz 7 (some o)) sz 9 (some (sz + 20))) sz 7 = some o := ((u2_k _ _ (by decide)).trans (u2_s _ _ _ _))
  have lw3 : ∀ i j : Nat, i < 5 → j < 5 → (u2 (u2 P2 sz 7 (some o)) sz 9 (some (sz + 20))) (sz + 8 + i) j = P (k + 8 + i) j := fun i j h1 h2 => ((u2_a _ _ (by omega)).trans ((u2_a _ _ (by omega)).trans (((hC.2.2.2 j h2).2.2.2.2 i h1).trans (mP9 _ _ (by omega)))))
  have hmo3 : (u2 (u2 (u2 (u2 I2 sz 4 (r 3)) sz 5 (r 4)) sz 6 (r 5)) sz 8 (r 2)) sz 8 = r 2 := (u2_s _ _ _ _)
  have hpv3 : (u2 (u2 P2 sz 7 (some o)) sz 9 (some (sz + 20))) sz 9 = some (sz + 20) := (u2_s _ _ _ _)
  have hZ3 : q_F0 (sz + 21) (u2 (u2 (u2 (u2 I2 sz 4 (r 3)) sz 5 (r 4)) sz 6 (r 5)) sz 8 (r 2)) L2 (u2 (u2 P2 sz 7 (some o)) sz 9 (some (sz + 20))) := fun q j hq => ⟨((u2_a _ _ (by omega)).trans ((u2_a _ _ (by omega)).trans ((u2_a _ _ (by omega)).trans ((u2_a _ _ (by omega)).trans ((hC.1 q j (by omega) (by omega)).trans ((u2_a _ _ (by omega)).trans (zn q j (by omega)).1)))))), (hC.2.1 q j (by omega) (by omega)).trans (zn q j (by omega)).2.1, ((u2_a _ _ (by omega)).trans ((u2_a _ _ (by omega)).trans ((hC.2.2.1 q j (by omega)).trans (zn q j (by omega)).2.2)))⟩
  have hO3 : q_OT (q_upT T9 (sz + 20) (.inr (8, n))) (u2 (u2 P2 sz 7 (some o)) sz 9 (some (sz + 20))) k := hO.mv (fun q a b => hT3 q (by omega)) (fun q j a b _ _ => hP3 q j (by omega))
  have hpd3 : ∀ l, l < 5 → L2 (sz + 18) l = r (35 + 13 * l) ∧ L2 (sz + 19) l = r (36 + 13 * l) := fun l hl => by
    obtain ⟨a1, a2, a3, a4, a5⟩ := hC.2.2.2 l hl
    exact ⟨a3.trans ((mL9 _ _ (by omega)).trans (hM.pd l hl)), a4.trans ((mL9 _ _ (by omega)).trans (hM.ps l hl))⟩
  have tK0 : (q_upT T9 (sz + 20) (.inr (8, n))) sz = some (.inl 9) := hK3.t0
  have tK20 : (q_upT T9 (sz + 20) (.inr (8, n))) (sz + 20) = some (.inr (8, n)) := q_upT_s _ _ _
  generalize hI3' : u2 (u2 (u2 (u2 I2 sz 4 (r 3)) sz 5 (r 4)) sz 6 (r 5)) sz 8 (r 2) = I3 at *
  generalize hP3' : u2 (u2 P2 sz 7 (some o)) sz 9 (some (sz + 20)) = P3 at *
  generalize hT3' : q_upT T9 (sz + 20) (.inr (8, n)) = T3 at *
  have hρz : ∀ i, i < n → ρ i < sz := fun i hi => (hE _ (hM.ea i hi)).2
  refine qX.room (kc := 0 + (n - 0)) (ks := 0 + 12 * (n - 0)) (by omega) (by omega) ?_
  refine lX10_copyD (sz := 0) (K := sz) (v := v) (n9 := n) (ρ := ρ) (r := r) hF (by decide) hA hn12 ((hT3 _ hvz.2).trans hM.tv) ((hT3 _ (by omega)).trans hO.t0) tK0 tK20 hpv3 ((hP3 _ _ (by omega)).trans hM.pv) (fun i hi => (hP3 _ _ hvz.2).trans (hM.pa i hi)) (fun i hi => (hT3 _ (hρz i hi)).trans (hM.ta i hi)) hρz hvz.2 (by omega) (fun i hi => ?_) (fun i hi => (hM.ac i hi).mv (fun j => hI3 _ _ (hρz i hi)) (pL _ _ (hρz i hi))) ?_ _ 0 _ _ _ _ _ (Nat.lt_succ_self _) (Nat.zero_le _) rfl (fun _ _ => rfl) (fun y hy => absurd hy (by omega)) (fun _ _ _ => rfl) (fun _ _ _ => rfl) (fun _ _ _ => rfl) (fun y hy => absurd hy (by omega)) (fun y hy => absurd hy (by omega)) hZ3
  · rw [hI3 _ _ (hρz i hi), (hM.ac i hi).nl]
    have hVA := hVR.2.1 i (by have := hM.nn; omega)
    have := hVA.nl; omega
  intro T4 I4 L4 P4 a1 a2 a3 a4 a5 a6 a7 a8
  have q4 : ∀ q j, q < sz → I4 q j = I q j := fun q j hq => (a3 q j (by omega)).trans (hI3 q j hq)
  have l4 : ∀ q j, q < sz → L4 q j = L q j := fun q j hq => (a4 q j (by omega)).trans (pL q j hq)
  have p4 : ∀ q j, q < sz → P4 q j = P q j := fun q j hq => (a5 q j (by omega)).trans (hP3 q j hq)
  have t4 : ∀ q, q < sz → T4 q = T q := fun q hq => (a1 q (by omega)).trans (hT3 q hq)
  have hK4 : q_OT T4 P4 sz := hK3.mv (fun q a b => a1 q (by omega)) (fun q j a b _ _ => a5 q j (by omega))
  have hO4 : q_OT T4 P4 k := hO.mv (fun q a b => t4 q (by omega)) (fun q j a b _ _ => p4 q j (by omega))
  have pw4 : P4 k 10 = some w := (p4 _ _ (by omega)).trans hM.pw
  have tw4 : T4 w = some (.inr (6, m)) := (t4 _ hwz.2).trans hM.tw
  refine q_aload_n hF 0 rfl rfl dX10_copy_207 ?_
  refine q_aload_n hF 1 rfl rfl dX10_copy_208 ?_
  refine q_getA hF fl_RX10_37 rfl hO4.t0 pw4 dX10_copy_209 ?_
  refine q_putA hF fl_RX10_37 rfl hK4.t0 hA dX10_copy_212 ?_
  refine q_aload_n hF 0 rfl rfl dX10_copy_215 ?_
  refine q_aload_n hF 1 rfl rfl dX10_copy_216 ?_
  refine q_getIv hF (z := r 7) fl_RX10_67 hO4.t0 ((q4 _ _ (by omega)).trans hM.se) dX10_copy_217 ?_
  refine q_putI hF fl_RX10_67 hK4.t0 hA dX10_copy_220 ?_
  refine q_iconst hF dX10_copy_223 ?_
  refine q_istore_n hF (ls' := [(2, qI 0), (1, .ref sz), (0, .ref k)]) rfl (by decide) rfl dX10_copy_224 ?_
  have hK5 : q_OT T4 (u2 P4 sz 10 (some w)) sz := hK4.mv (fun _ _ _ => rfl) (fun q j a b c d => u2_ne0 _ (fun z => (c z.1).2.2 z.2))
  have hO5 : q_OT T4 (u2 P4 sz 10 (some w)) k := hO4.mv (fun _ _ _ => rfl) (fun q j a b _ _ => u2_a _ _ (by omega))
  refine lX10_copyE (K := sz) hF hO5 hK5 hA (by omega) ?_ _ 0 L4 (Nat.lt_succ_self _) (Nat.zero_le _) (fun _ _ _ => rfl) (fun x hx => absurd hx (by omega))
  intro L5 g1 g2
  have hEb : ∀ q, q_Cy E (q_Wk k n ρ) sz (sz + 21 + n) q → q < sz ∨ (sz ≤ q ∧ q < sz + 21 + n) := fun q hq => by
    rcases hq with x | x
    · exact Or.inr x
    · exact Or.inl (hE q x.1).2
  have hbk : ∀ x, x < 7 → L5 (sz + 17) x = L (k + 17) x := fun x hx => (g2 x hx).trans (l4 _ _ (by omega))
  refine k0 T4 (u2 I4 sz 11 (r 7)) L5 (u2 P4 sz 10 (some w)) t4 (fun q j hq => (u2_a _ _ (by omega)).trans (q4 q j hq)) (fun q j hq => (g1 q j (by omega)).trans (l4 q j hq)) (fun q j hq => (u2_a _ _ (by omega)).trans (p4 q j hq)) (fun q j hq => ⟨(u2_a _ _ (by omega)).trans (a8 q j hq).1, (g1 q j (by omega)).trans (a8 q j hq).2.1, (u2_a _ _ (by omega)).trans (a8 q j hq).2.2⟩) ⟨hK5, fun q a b => Or.inl ⟨a, by omega⟩, ?_, ?_⟩
  · refine ⟨(u2_k _ _ (by decide)).trans ((a3 _ _ (by omega)).trans f03), (u2_k _ _ (by decide)).trans ((a3 _ _ (by omega)).trans f43), (u2_k _ _ (by decide)).trans ((a3 _ _ (by omega)).trans f53), (u2_k _ _ (by decide)).trans ((a3 _ _ (by omega)).trans f63), fun l i h1 h2 h3 => (u2_a _ _ (by omega)).trans ((a3 _ _ (by omega)).trans (ld3 l i h1 h2 h3)), fun i hi => (u2_a _ _ (by omega)).trans ((a3 _ _ (by omega)).trans (py3 i hi)), ⟨o, n8, (u2_k _ _ (by decide)).trans ((a5 _ _ (by omega)).trans hp73), hEy o o2 (nek _ _ o3) (fun x hx => Or.inl (Option.some.inj (hx.symm.trans o3))) ⟨_, o3⟩, (t4 _ hoz.2).trans o3, o4, o5, fun j hj => (u2_a _ _ (by omega)).trans ((q4 _ _ hoz.2).trans (o6 j hj))⟩, fun i j h1 h2 => ?_⟩
    have e := (a5 (sz + 8 + i) j (by omega)).trans (lw3 i j h1 h2)
    rcases hR.lw i j h1 h2 with ⟨x, y⟩ | ⟨x, s, s0, s1, s2, s3, x1, x2, x3, x4, x5, x6⟩
    · exact Or.inl ⟨x, (u2_a _ _ (by omega)).trans (e.trans y)⟩
    · have hsz := (hE s x2).2
      have ei : ∀ j, (u2 I4 sz 11 (r 7)) s j = I s j := fun j => (u2_a _ _ (by omega)).trans (q4 _ _ hsz)
      exact Or.inr ⟨x, s, s0, s1, s2, s3, (u2_a _ _ (by omega)).trans (e.trans x1), hEy s x2 (nek _ _ x3) (fun y hy => Or.inr (Or.inl (Option.some.inj (hy.symm.trans x3)))) ⟨_, x3⟩, (t4 _ hsz).trans x3, ⟨(ei _).trans x4.1, (ei _).trans x4.2.1, (ei _).trans x4.2.2.1, (ei _).trans x4.2.2.2⟩, x5, x6⟩
  · refine ⟨(u2_k _ _ (by decide)).trans ((a3 _ _ (by omega)).trans hmo3), u2_s _ _ _ _, (u2_k _ _ (by decide)).trans ((a5 _ _ (by omega)).trans hpv3), (a1 _ (by omega)).trans tK20, Or.inl ⟨by omega, by omega⟩, hM.nn, fun i hi => (u2_a _ _ (by omega)).trans (a6 i hi), a2, fun i hi => Or.inl ⟨by show sz ≤ sz + 21 + i; omega, by show sz + 21 + i < sz + 21 + n; omega⟩, fun i hi => (a7 i hi).mv (fun j => u2_a _ _ (by show sz + 21 + i ≠ sz; omega)) (g1 _ _ (by show sz + 21 + i ≠ sz + 17; omega)), fun i j _ _ hij => by show sz + 21 + i ≠ sz + 21 + j; omega, u2_s _ _ _ _, tw4, hEy w hM.ew (nek _ _ hM.tw) (fun x hx => Or.inr (Or.inr (Or.inl (Option.some.inj (hx.symm.trans hM.tw))))) ⟨_, hM.tw⟩, hM.mm, fun j hj => (u2_a _ _ (by omega)).trans ((p4 _ _ hwz.2).trans (hM.pr j hj)), fun j hj => (t4 _ (hE _ (hM.er j hj)).2).trans (hM.tr j hj), fun j hj => hEy _ (hM.er j hj) (nek _ _ (hM.tr j hj)) (fun x hx => Or.inr (Or.inr (Or.inr (Option.some.inj (hx.symm.trans (hM.tr j hj)))))) ⟨_, hM.tr j hj⟩, fun j i hj hi => (u2_a _ _ (by have := (hE _ (hM.er j hj)).2; omega)).trans ((q4 _ _ (hE _ (hM.er j hj)).2).trans (hM.ro j i hj hi)), fun i hi => (hbk i (by omega)).trans (hM.b4 i hi), (hbk 6 (by omega)).trans hM.b6, fun l hl => (g1 _ _ (by omega)).trans ((a4 _ _ (by omega)).trans (hpd3 l hl).1), fun l hl => (g1 _ _ (by omega)).trans ((a4 _ _ (by omega)).trans (hpd3 l hl).2)⟩
