/-! the law's accounts; landOf, sleepOf, worth -/

set_option maxRecDepth 100000 in
theorem mX8_isOpen {G : q_G} {sz : Nat} {T : q_T} {I L : q_I} {P : q_P} {Q : q_Q} {a : Nat}  (hT : T a = some (.inl 7)) (hs : -2147483648 ≤ (I a 4) ∧ (I a 4) < 2147483648) (k0 : Q (.inl (some (qI (q_b (I a 4 < 2))))) sz T I L P) : qC G 0 0 0 YX8_isOpen [.ref a] sz T I L P Q := by
  refine qC_of (by decide +kernel) rfl rfl (Nat.le_of_ble_eq_true rfl) (fun F hF _ _ => ?_)
  refine q_aload_n hF 0 rfl rfl dX8_isOpen_0 ?_
  refine q_getIv hF (z := I a 4) fl_RX8_16 hT rfl dX8_isOpen_1 ?_
  refine q_iconst hF dX8_isOpen_4 ?_
  refine q_icmpge hF hs (by decide) dX8_isOpen_5 (fun c5 => ?_) (fun c5 => ?_)
  · refine q_iconst hF dX8_isOpen_12 ?_
    refine q_zreturn hF (by decide) rfl dX8_isOpen_13 ?_
    rw [q_b_f (c := I a 4 < 2) (by omega)] at k0; exact k0
  · refine q_iconst hF dX8_isOpen_8 ?_
    refine q_goto hF dX8_isOpen_9 ?_
    refine q_zreturn hF (by decide) rfl dX8_isOpen_13 ?_
    rw [q_b_t (c := I a 4 < 2) (by omega)] at k0; exact k0

set_option maxRecDepth 100000 in
theorem mX8_init {G : q_G} {sz : Nat} {T : q_T} {I L : q_I} {P : q_P} {Q : q_Q} {a : Nat}  (hT : T a = some (.inl 7)) (hA : q_A G a) (k0 : Q (.inl none) sz T (u2 (u2 I a 8 (-1)) a 9 (-1)) L P) : qC G 1 0 0 YX8_init [.ref a] sz T I L P Q := by
  refine qC_of (by decide +kernel) rfl rfl (Nat.le_of_ble_eq_true rfl) (fun F hF _ _ => ?_)
  refine q_aload_n hF 0 rfl rfl dX8_init_0 ?_
  refine q_objInit hF (q_mem 528 (by decide +kernel) rfl) (q_mem 71 (by decide +kernel) rfl) (q_mem 72 (by decide +kernel) rfl) (Nat.le_of_ble_eq_true rfl) dX8_init_1 ?_
  refine q_aload_n hF 0 rfl rfl dX8_init_4 ?_
  refine q_iconst hF dX8_init_5 ?_
  refine q_putI hF fl_RX8_7 hT hA dX8_init_6 ?_
  refine q_aload_n hF 0 rfl rfl dX8_init_9 ?_
  refine q_iconst hF dX8_init_10 ?_
  refine q_putI hF fl_RX8_13 hT hA dX8_init_11 ?_
  refine q_return hF rfl dX8_init_14 ?_
  exact k0

set_option maxRecDepth 100000 in
theorem mX8_copy {G : q_G} {sz : Nat} {T : q_T} {I L : q_I} {P : q_P} {Q : q_Q} {a : Nat}  (hT : (T a) = some (.inl 7)) (hA : q_A G sz) (hZ : q_F0 sz I L P) (hlt : a < sz) (hnl : I a 11 = 0 ∨ I a 11 = 1) (k0 : ∀ (I9 L9 : q_I), (∀ q j, q ≠ sz → I9 q j = I q j) → (∀ q j, q ≠ sz → L9 q j = L q j) → (∀ (r : Nat → Int) (i : Nat), q_OA I L a r i → q_OA I9 L9 sz r i) → q_F0 (sz + 1) I9 L9 P → Q (.inl (some (.ref sz))) (sz + 1) (q_upT T sz (.inl 7)) I9 L9 P) : qC G 2 1 12 YX8_copy [.ref a] sz T I L P Q := by
  refine qC_of (by decide +kernel) rfl rfl (Nat.le_of_ble_eq_true rfl) (fun F hF _ _ => ?_)
  refine q_newo hF (s' := sz + 1) (kc := 0) (ks := 0) (ci := 7) (N := 12) ⟨_, rfl, rfl, (q_mem 523 (by decide +kernel) rfl), (q_mem 524 (by decide +kernel) rfl), (q_mem 64 (by decide +kernel) rfl)⟩ (fun j => (hZ _ _ (Nat.le_refl _)).1) (fun j => (hZ _ _ (Nat.le_refl _)).2.1) (fun j => (hZ _ _ (Nat.le_refl _)).2.2) dX8_copy_0 rfl ?_
  refine q_dup hF rfl dX8_copy_3 ?_
  refine q_callC (kc := 0) (ks := 0) (mc' := 0) (ms' := 0) (h' := 1) (st := [.ref sz]) hF cl_RX8_19 rfl [] rfl rfl (by decide) (Nat.le_of_ble_eq_true rfl) dX8_copy_4 ?_
  refine mX8_init (q_upT_s _ _ _) hA ?_
  refine q_astore_n hF (ls' := [(1, .ref sz), (0, .ref a)]) rfl (by decide) rfl dX8_copy_7 ?_
  refine q_aload_n hF 0 rfl rfl dX8_copy_8 ?_
  refine q_aload_n hF 1 rfl rfl dX8_copy_9 ?_
  refine q_getIv hF (z := I a 0) fl_RX8_20 ((q_upT_n _ _ (by omega)).trans hT) ((u2_k _ _ (by decide)).trans (u2_k _ _ (by decide))) dX8_copy_10 ?_
  refine q_putI hF fl_RX8_20 (q_upT_s _ _ _) hA dX8_copy_13 ?_
  refine q_aload_n hF 0 rfl rfl dX8_copy_16 ?_
  refine q_aload_n hF 1 rfl rfl dX8_copy_17 ?_
  refine q_getIv hF (z := I a 1) fl_RX8_23 ((q_upT_n _ _ (by omega)).trans hT) ((u2_k _ _ (by decide)).trans ((u2_k _ _ (by decide)).trans (u2_k _ _ (by decide)))) dX8_copy_18 ?_
  refine q_putI hF fl_RX8_23 (q_upT_s _ _ _) hA dX8_copy_21 ?_
  refine q_aload_n hF 0 rfl rfl dX8_copy_24 ?_
  refine q_aload_n hF 1 rfl rfl dX8_copy_25 ?_
  refine q_getIv hF (z := I a 2) fl_RX8_26 ((q_upT_n _ _ (by omega)).trans hT) ((u2_k _ _ (by decide)).trans ((u2_k _ _ (by decide)).trans ((u2_k _ _ (by decide)).trans (u2_k _ _ (by decide))))) dX8_copy_26 ?_
  refine q_putI hF fl_RX8_26 (q_upT_s _ _ _) hA dX8_copy_29 ?_
  refine q_aload_n hF 0 rfl rfl dX8_copy_32 ?_
  refine q_aload_n hF 1 rfl rfl dX8_copy_33 ?_
  refine q_getLv hF (z := L a 3) fl_RX8_29 ((q_upT_n _ _ (by omega)).trans hT) rfl dX8_copy_34 ?_
  refine q_putL hF fl_RX8_29 (q_upT_s _ _ _) hA dX8_copy_37 ?_
  refine q_aload_n hF 0 rfl rfl dX8_copy_40 ?_
  refine q_aload_n hF 1 rfl rfl dX8_copy_41 ?_
  refine q_getIv hF (z := I a 4) fl_RX8_16 ((q_upT_n _ _ (by omega)).trans hT) ((u2_k _ _ (by decide)).trans ((u2_k _ _ (by decide)).trans ((u2_k _ _ (by decide)).trans ((u2_k _ _ (by decide)).trans (u2_k _ _ (by decide)))))) dX8_copy_42 ?_
  refine q_putI hF fl_RX8_16 (q_upT_s _ _ _) hA dX8_copy_45 ?_
  refine q_aload_n hF 0 rfl rfl dX8_copy_48 ?_
  refine q_aload_n hF 1 rfl rfl dX8_copy_49 ?_
  refine q_getIv hF (z := I a 5) fl_RX8_33 ((q_upT_n _ _ (by omega)).trans hT) ((u2_k _ _ (by decide)).trans ((u2_k _ _ (by decide)).trans ((u2_k _ _ (by decide)).trans ((u2_k _ _ (by decide)).trans ((u2_k _ _ (by decide)).trans (u2_k _ _ (by decide))))))) dX8_copy_50 ?_
  refine q_putI hF fl_RX8_33 (q_upT_s _ _ _) hA dX8_copy_53 ?_
  refine q_aload_n hF 0 rfl rfl dX8_copy_56 ?_
  refine q_aload_n hF 1 rfl rfl dX8_copy_57 ?_
  refine q_getIv hF (z := I a 6) fl_RX8_36 ((q_upT_n _ _ (by omega)).trans hT) ((u2_k _ _ (by decide)).trans ((u2_k _ _ (by decide)).trans ((u2_k _ _ (by decide)).trans ((u2_k _ _ (by decide)).trans ((u2_k _ _ (by decide)).trans ((u2_k _ _ (by decide)).trans (u2_k _ _ (by decide)))))))) dX8_copy_58 ?_
  refine q_putI hF fl_RX8_36 (q_upT_s _ _ _) hA dX8_copy_61 ?_
  refine q_aload_n hF 0 rfl rfl dX8_copy_64 ?_
  refine q_aload_n hF 1 rfl rfl dX8_copy_65 ?_
  refine q_getIv hF (z := I a 7) fl_RX8_39 ((q_upT_n _ _ (by omega)).trans hT) ((u2_k _ _ (by decide)).trans ((u2_k _ _ (by decide)).trans ((u2_k _ _ (by decide)).trans ((u2_k _ _ (by decide)).trans ((u2_k _ _ (by decide)).trans ((u2_k _ _ (by decide)).trans ((u2_k _ _ (by decide)).trans (u2_k _ _ (by decide))))))))) dX8_copy_66 ?_
  refine q_putI hF fl_RX8_39 (q_upT_s _ _ _) hA dX8_copy_69 ?_
  refine q_aload_n hF 0 rfl rfl dX8_copy_72 ?_
  refine q_aload_n hF 1 rfl rfl dX8_copy_73 ?_
  refine q_getIv hF (z := I a 8) fl_RX8_7 ((q_upT_n _ _ (by omega)).trans hT) ((u2_k _ _ (by decide)).trans ((u2_k _ _ (by decide)).trans ((u2_k _ _ (by decide)).trans ((u2_k _ _ (by decide)).trans ((u2_k _ _ (by decide)).trans ((u2_k _ _ (by decide)).trans ((u2_k _ _ (by decide)).trans ((u2_k _ _ (by decide)).trans (u2_a _ _ (by omega)))))))))) dX8_copy_74 ?_
  refine q_putI hF fl_RX8_7 (q_upT_s _ _ _) hA dX8_copy_77 ?_
  refine q_aload_n hF 0 rfl rfl dX8_copy_80 ?_
  refine q_aload_n hF 1 rfl rfl dX8_copy_81 ?_
  refine q_getIv hF (z := I a 9) fl_RX8_13 ((q_upT_n _ _ (by omega)).trans hT) ((u2_k _ _ (by decide)).trans ((u2_k _ _ (by decide)).trans ((u2_k _ _ (by decide)).trans ((u2_k _ _ (by decide)).trans ((u2_k _ _ (by decide)).trans ((u2_k _ _ (by decide)).trans ((u2_k _ _ (by decide)).trans ((u2_k _ _ (by decide)).trans ((u2_a _ _ (by omega)).trans (u2_k _ _ (by decide))))))))))) dX8_copy_82 ?_
  refine q_putI hF fl_RX8_13 (q_upT_s _ _ _) hA dX8_copy_85 ?_
  refine q_aload_n hF 0 rfl rfl dX8_copy_88 ?_
  refine q_aload_n hF 1 rfl rfl dX8_copy_89 ?_
  refine q_getIv hF (z := I a 10) fl_RX8_42 ((q_upT_n _ _ (by omega)).trans hT) ((u2_k _ _ (by decide)).trans ((u2_k _ _ (by decide)).trans ((u2_k _ _ (by decide)).trans ((u2_k _ _ (by decide)).trans ((u2_k _ _ (by decide)).trans ((u2_k _ _ (by decide)).trans ((u2_k _ _ (by decide)).trans ((u2_k _ _ (by decide)).trans ((u2_k _ _ (by decide)).trans ((u2_k _ _ (by decide)).trans (u2_k _ _ (by decide)))))))))))) dX8_copy_90 ?_
  refine q_putI hF fl_RX8_42 (q_upT_s _ _ _) hA dX8_copy_93 ?_
  refine q_aload_n hF 0 rfl rfl dX8_copy_96 ?_
  refine q_aload_n hF 1 rfl rfl dX8_copy_97 ?_
  refine q_getZv hF (z := I a 11) fl_RX8_45 ((q_upT_n _ _ (by omega)).trans hT) ((u2_k _ _ (by decide)).trans ((u2_k _ _ (by decide)).trans ((u2_k _ _ (by decide)).trans ((u2_k _ _ (by decide)).trans ((u2_k _ _ (by decide)).trans ((u2_k _ _ (by decide)).trans ((u2_k _ _ (by decide)).trans ((u2_k _ _ (by decide)).trans ((u2_k _ _ (by decide)).trans ((u2_k _ _ (by decide)).trans ((u2_k _ _ (by decide)).trans (u2_k _ _ (by decide))))))))))))) dX8_copy_98 ?_
  refine q_putZ hF hnl fl_RX8_45 (q_upT_s _ _ _) hA dX8_copy_101 ?_
  refine q_aload_n hF 0 rfl rfl dX8_copy_104 ?_
  refine q_areturn hF (r := some sz) rfl dX8_copy_105 ?_
  refine k0 _ _ (fun q j h => ?_) (fun q j h => ?_) (fun r i hAc => ⟨((u2_k _ _ (by decide)).trans ((u2_k _ _ (by decide)).trans ((u2_k _ _ (by decide)).trans ((u2_k _ _ (by decide)).trans ((u2_k _ _ (by decide)).trans ((u2_k _ _ (by decide)).trans ((u2_k _ _ (by decide)).trans ((u2_k _ _ (by decide)).trans ((u2_k _ _ (by decide)).trans ((u2_k _ _ (by decide)).trans (u2_s _ _ _ _))))))))))).trans hAc.kd, ((u2_k _ _ (by decide)).trans ((u2_k _ _ (by decide)).trans ((u2_k _ _ (by decide)).trans ((u2_k _ _ (by decide)).trans ((u2_k _ _ (by decide)).trans ((u2_k _ _ (by decide)).trans ((u2_k _ _ (by decide)).trans ((u2_k _ _ (by decide)).trans ((u2_k _ _ (by decide)).trans (u2_s _ _ _ _)))))))))).trans hAc.ad, ((u2_k _ _ (by decide)).trans ((u2_k _ _ (by decide)).trans ((u2_k _ _ (by decide)).trans ((u2_k _ _ (by decide)).trans ((u2_k _ _ (by decide)).trans ((u2_k _ _ (by decide)).trans ((u2_k _ _ (by decide)).trans ((u2_k _ _ (by decide)).trans (u2_s _ _ _ _))))))))).trans hAc.bi, (u2_s _ _ _ _).trans hAc.ce, ((u2_k _ _ (by decide)).trans ((u2_k _ _ (by decide)).trans ((u2_k _ _ (by decide)).trans ((u2_k _ _ (by decide)).trans ((u2_k _ _ (by decide)).trans ((u2_k _ _ (by decide)).trans ((u2_k _ _ (by decide)).trans (u2_s _ _ _ _)))))))).trans hAc.st, ((u2_k _ _ (by decide)).trans ((u2_k _ _ (by decide)).trans ((u2_k _ _ (by decide)).trans ((u2_k _ _ (by decide)).trans ((u2_k _ _ (by decide)).trans ((u2_k _ _ (by decide)).trans (u2_s _ _ _ _))))))).trans hAc.ag, ((u2_k _ _ (by decide)).trans ((u2_k _ _ (by decide)).trans ((u2_k _ _ (by decide)).trans ((u2_k _ _ (by decide)).trans ((u2_k _ _ (by decide)).trans (u2_s _ _ _ _)))))).trans hAc.si, ((u2_k _ _ (by decide)).trans ((u2_k _ _ (by decide)).trans ((u2_k _ _ (by decide)).trans ((u2_k _ _ (by decide)).trans (u2_s _ _ _ _))))).trans hAc.le, ((u2_k _ _ (by decide)).trans ((u2_k _ _ (by decide)).trans ((u2_k _ _ (by decide)).trans (u2_s _ _ _ _)))).trans hAc.ho, ((u2_k _ _ (by decide)).trans ((u2_k _ _ (by decide)).trans (u2_s _ _ _ _))).trans hAc.la, ((u2_k _ _ (by decide)).trans (u2_s _ _ _ _)).trans hAc.ha, (u2_s _ _ _ _).trans hAc.nl⟩) (fun q j h => ⟨?_, ?_, (hZ _ _ (by omega)).2.2⟩)
  · rw [u2_a _ _ h, u2_a _ _ h, u2_a _ _ h, u2_a _ _ h, u2_a _ _ h, u2_a _ _ h, u2_a _ _ h, u2_a _ _ h, u2_a _ _ h, u2_a _ _ h, u2_a _ _ h, u2_a _ _ h, u2_a _ _ h]
  · rw [u2_a _ _ h]
  · rw [u2_a _ _ (by omega), u2_a _ _ (by omega), u2_a _ _ (by omega), u2_a _ _ (by omega), u2_a _ _ (by omega), u2_a _ _ (by omega), u2_a _ _ (by omega), u2_a _ _ (by omega), u2_a _ _ (by omega), u2_a _ _ (by omega), u2_a _ _ (by omega), u2_a _ _ (by omega), u2_a _ _ (by omega)]; exact (hZ _ _ (by omega)).1
  · rw [u2_a _ _ (by omega)]; exact (hZ _ _ (by omega)).2.1

set_option maxRecDepth 100000 in
theorem lX10_landOf {G : q_G} {F : q_F} {h : Nat} {Q : q_Q} {kc ks sz : Nat} {T : q_T} {I L : q_I} {P : q_P} {o n9 : Nat} {E : Nat → Prop} {k a i : Nat} {bd : Int} {r : Nat → Int} (hF : q_ok G F YX10_landOf h) (hO : q_OT T P k) (hR : q_OR E T I P k r) (hTa : T a = some (.inl 7)) (hAc : q_OA I L a r i) (hv : g_V0 r) (hVA : g_VA r i bd) (ho1 : P k 7 = some o) (ho3 : T o = some (.inr (0, n9))) (ho4 : r 8 = (n9 : Int)) (ho5 : n9 ≤ 3) (ho6 : ∀ j : Nat, j < n9 → I o j = r (9 + j)) (k0 : Q (.inl (some (qI (g_bel r i)))) sz T I L P) : ∀ (n : Nat) (j : Nat), n9 - j < n → j ≤ n9 → g_belF r i (4 - j) j = g_bel r i → qX G F Q kc ks 11 [(4, qI (j : Int)), (3, qI (n9 : Int)), (2, .ref o), (0, .ref k), (1, .ref a)] [] sz T I L P := by
  intro n
  induction n with
  | zero => intro j hn; exact absurd hn (Nat.not_lt_zero _)
  | succ n ih =>
    intro j hn hj hb
    have f1 := hv.ords
    have f2 := hv.lands
    have f3 := hVA.kind
    have f4 := hv.home
    have f5 := hVA.addr
    have f6 := hVA.birth
    obtain ⟨kd, hkd⟩ : ∃ kd : Nat, r (1039 + 12 * i) = (kd : Int) := ⟨(r (1039 + 12 * i)).toNat, by omega⟩
    have hkd0 : I a 0 = (kd : Int) := hAc.kd.trans hkd
    have hkd5 : kd < 5 := by omega
    refine q_iload hF 0 rfl dX10_landOf_11 ?_
    refine q_iload_n hF 1 rfl rfl dX10_landOf_13 ?_
    refine q_icmpge hF (by omega) (by omega) dX10_landOf_14 (fun c14 => ?_) (fun c14 => ?_)
    · refine q_iconst hF dX10_landOf_83 ?_
      refine q_ireturn hF rfl dX10_landOf_84 ?_
      have e : g_bel r i = -1 := by
        rw [← hb]
        obtain ⟨f, hf⟩ : ∃ f, 4 - j = f + 1 := ⟨3 - j, by omega⟩
        rw [hf]
        show (if (j : Int) < r 8 then _ else _) = _
        rw [if_neg (by rw [ho4]; omega)]
      rw [e] at k0
      exact k0
    · have hst : g_belF r i (4 - j) j = if g_pl r i j ≠ -1 ∧ 0 < r (g_law (r (1039 + 12 * i)) (g_pl r i j) + 1) then g_pl r i j else g_belF r i (4 - (1 + j)) (1 + j) := by
        obtain ⟨f, hf⟩ : ∃ f, 4 - j = f + 1 := ⟨3 - j, by omega⟩
        rw [hf, show 4 - (1 + j) = f by omega, Nat.add_comm 1 j]
        show (if (j : Int) < r 8 then _ else _) = _
        rw [if_pos (by rw [ho4]; omega)]
      refine q_aload_n hF 2 rfl rfl dX10_landOf_17 ?_
      refine q_iload hF 0 rfl dX10_landOf_18 ?_
      refine q_ialoadv hF (z := r (9 + j)) (n := n9) j ho3 rfl (by omega) (by omega) (ho6 j (by omega)) dX10_landOf_20 ?_
      refine q_istore hF (ls' := [(5, qI (r (9 + j))), (4, qI (j : Int)), (3, qI (n9 : Int)), (2, .ref o), (0, .ref k), (1, .ref a)]) (by decide) rfl dX10_landOf_21 ?_
      have hJ23 : qX G F Q kc ks 52 [(5, qI (r (9 + j))), (4, qI (j : Int)), (3, qI (n9 : Int)), (2, .ref o), (0, .ref k), (1, .ref a)] [qI (g_pl r i j)] sz T I L P := by
        refine q_istore hF (ls' := [(6, qI (g_pl r i j)), (5, qI (r (9 + j))), (4, qI (j : Int)), (3, qI (n9 : Int)), (2, .ref o), (0, .ref k), (1, .ref a)]) (by decide) rfl dX10_landOf_52 ?_
        refine q_iload hF 0 rfl dX10_landOf_54 ?_
        refine q_iflt hF (by have := g_pl_r hv hVA j; omega) dX10_landOf_56 (fun c56 => ?_) (fun c56 => ?_)
        · refine q_iinc hF (z' := ((1 + j : Nat) : Int)) (ls' := [(4, qI ((1 + j : Nat) : Int)), (6, qI (g_pl r i j)), (5, qI (r (9 + j))), (3, qI (n9 : Int)), (2, .ref o), (0, .ref k), (1, .ref a)]) 2 rfl (by first | rfl | omega) (by decide) rfl dX10_landOf_77 ?_
          refine q_goto hF dX10_landOf_80 ?_
          refine q_sub [0, 3, 4, 5, 6] rfl ?_
          refine ih (1 + j) (by omega) (by omega) ?_
          rw [← hb, hst, if_neg (fun z => ?_)]
          have := g_pl_r hv hVA j
          have := z.1
          omega
        · obtain ⟨l, hl⟩ : ∃ l : Nat, g_pl r i j = (l : Int) := ⟨(g_pl r i j).toNat, by omega⟩
          have hl5 : l < 5 := by have := g_pl_r hv hVA j; omega
          have hlw := hR.lw kd l hkd5 hl5
          have hgl : g_law (r (1039 + 12 * i)) (l : Int) + 1 = 90 + 2 * (5 * kd + l) := by unfold g_law; rw [hkd]; omega
          rw [hl] at hst ⊢
          refine q_aload_n hF 5 rfl rfl dX10_landOf_59 ?_
          refine q_getA hF fl_RX10_16 rfl hO.t0 hO.p2 dX10_landOf_60 ?_
          refine q_aload_n hF 6 rfl rfl dX10_landOf_63 ?_
          refine q_getIv hF (z := (kd : Int)) fl_RX10_76 hTa hkd0 dX10_landOf_64 ?_
          refine q_aaloadv hF (b := k + 8 + kd) kd hO.t7 (by decide) rfl (by omega) (by decide) (hO.ps kd (by omega)) dX10_landOf_67 ?_
          refine q_iload hF 0 rfl dX10_landOf_68 ?_
          refine q_aaloadRv hF (r := P (k + 8 + kd) l) l (hO.ts kd (by omega)) (by decide) rfl (by omega) (by decide) rfl dX10_landOf_70 ?_
          refine q_ifnull hF (r := P (k + 8 + kd) l) dX10_landOf_71 (fun c71 => ?_) (fun c71 => ?_)
          · refine q_iinc hF (z' := ((1 + j : Nat) : Int)) (ls' := [(4, qI ((1 + j : Nat) : Int)), (6, qI (l : Int)), (5, qI (r (9 + j))), (3, qI (n9 : Int)), (2, .ref o), (0, .ref k), (1, .ref a)]) 2 rfl (by first | rfl | omega) (by decide) rfl dX10_landOf_77 ?_
            refine q_goto hF dX10_landOf_80 ?_
            refine q_sub [0, 3, 4, 5, 6] rfl ?_
            rw [hgl] at hst
            refine ih (1 + j) (by omega) (by omega) ?_
            rw [← hb, hst, if_neg (fun z => ?_)]
            rcases hlw with ⟨y1, y2⟩ | ⟨y1, s, _, _, _, _, y2, _⟩
            · have := z.2; omega
            · rw [y2] at c71; cases c71
          · refine q_iload hF 0 rfl dX10_landOf_74 ?_
            refine q_ireturn hF rfl dX10_landOf_76 ?_
            have hc : 0 < r (g_law (r (1039 + 12 * i)) (l : Int) + 1) := by
              rcases hlw with ⟨y1, y2⟩ | ⟨y1, y2⟩
              · exact absurd y2 c71
              · rw [hgl]; exact y1
            have e : g_bel r i = (l : Int) := by
              rw [← hb, hst, if_pos ⟨by omega, hc⟩]
            rw [e] at k0
            exact k0
      refine q_iload hF 0 rfl dX10_landOf_23 ?_
      refine q_ifne hF (by have := hv.ord j (by omega); omega) dX10_landOf_25 (fun c25 => ?_) (fun c25 => ?_)
      · refine q_iload hF 0 rfl dX10_landOf_35 ?_
        refine q_iconst hF dX10_landOf_37 ?_
        refine q_icmpne hF (by have := hv.ord j (by omega); omega) (by decide) dX10_landOf_38 (fun c38 => ?_) (fun c38 => ?_)
        · refine q_aload_n hF 4 rfl rfl dX10_landOf_48 ?_
          refine q_getIv hF (z := r 5) fl_RX10_57 hO.t0 hR.hm dX10_landOf_49 ?_
          rw [show (g_pl r i j) = (r 5) from by unfold g_pl; rw [if_neg c25, if_neg c38]] at hJ23; exact hJ23
        · refine q_aload_n hF 5 rfl rfl dX10_landOf_41 ?_
          refine q_getIv hF (z := r (1041 + 12 * i)) fl_RX10_73 hTa hAc.bi dX10_landOf_42 ?_
          refine q_goto hF dX10_landOf_45 ?_
          rw [show (g_pl r i j) = (r (1041 + 12 * i)) from by unfold g_pl; rw [if_neg c25, if_pos c38]] at hJ23; exact hJ23
      · refine q_aload_n hF 5 rfl rfl dX10_landOf_28 ?_
        refine q_getIv hF (z := r (1040 + 12 * i)) fl_RX10_70 hTa hAc.ad dX10_landOf_29 ?_
        refine q_goto hF dX10_landOf_32 ?_
        rw [show (g_pl r i j) = (r (1040 + 12 * i)) from by unfold g_pl; rw [if_pos c25]] at hJ23; exact hJ23

set_option maxRecDepth 100000 in
theorem mX10_landOf {G : q_G} {sz : Nat} {T : q_T} {I L : q_I} {P : q_P} {Q : q_Q} {k : Nat} {a : Nat} {E : Nat → Prop} {i : Nat} {bd : Int} {r : Nat → Int} (hO : q_OT T P k) (hR : q_OR E T I P k r) (hTa : T a = some (.inl 7)) (hAc : q_OA I L a r i) (hv : g_V0 r) (hVA : g_VA r i bd) (k0 : Q (.inl (some (qI (g_bel r i)))) sz T I L P) : qC G 0 0 0 YX10_landOf [.ref k, .ref a] sz T I L P Q := by
  refine qC_of (by decide +kernel) rfl rfl (Nat.le_of_ble_eq_true rfl) (fun F hF _ _ => ?_)
  obtain ⟨o, n9, ho1, hoE, ho3, ho4, ho5, ho6⟩ := hR.od
  refine q_aload_n hF 0 rfl rfl dX10_landOf_0 ?_
  refine q_getA hF fl_RX10_27 rfl hO.t0 ho1 dX10_landOf_1 ?_
  refine q_astore_n hF (ls' := [(2, .ref o), (0, .ref k), (1, .ref a)]) rfl (by decide) rfl dX10_landOf_4 ?_
  refine q_aload_n hF 0 rfl rfl dX10_landOf_5 ?_
  refine q_alen hF (n := n9) ho3 dX10_landOf_6 ?_
  refine q_istore_n hF (ls' := [(3, qI (n9 : Int)), (2, .ref o), (0, .ref k), (1, .ref a)]) rfl (by decide) rfl dX10_landOf_7 ?_
  refine q_iconst hF dX10_landOf_8 ?_
  refine q_istore hF (ls' := [(4, qI 0), (3, qI (n9 : Int)), (2, .ref o), (0, .ref k), (1, .ref a)]) (by decide) rfl dX10_landOf_9 ?_
  exact lX10_landOf hF hO hR hTa hAc hv hVA ho1 ho3 ho4 ho5 ho6 k0 _ 0 (Nat.lt_succ_self _) (Nat.zero_le _) rfl

set_option maxRecDepth 100000 in
theorem mX10_sleepOf {G : q_G} {sz : Nat} {T : q_T} {I L : q_I} {P : q_P} {Q : q_Q} {k : Nat} {a : Nat} {E : Nat → Prop} {i : Nat} {bd : Int} {r : Nat → Int} (hO : q_OT T P k) (hR : q_OR E T I P k r) (hTa : T a = some (.inl 7)) (hAc : q_OA I L a r i) (hv : g_V0 r) (hVA : g_VA r i bd) (hbd : bd ≤ 7000) (k0 : Q (.inl (some (qI (if g_bel r i = -1 then -1 else g_sleep r i (g_bel r i))))) sz T I L P) : qC G 1 0 0 YX10_sleepOf [.ref k, .ref a] sz T I L P Q := by
  refine qC_of (by decide +kernel) rfl rfl (Nat.le_of_ble_eq_true rfl) (fun F hF _ _ => ?_)
  have f1 := hv.ords
  have f2 := hv.lands
  have f3 := hVA.kind
  have f4 := hv.home
  have f5 := hVA.addr
  have f6 := hVA.birth
  obtain ⟨kd, hkd⟩ : ∃ kd : Nat, r (1039 + 12 * i) = (kd : Int) := ⟨(r (1039 + 12 * i)).toNat, by omega⟩
  have hkd0 : I a 0 = (kd : Int) := hAc.kd.trans hkd
  have hkd5 : kd < 5 := by omega
  have g1 := hVA.cents
  have g2 := hVA.age
  have g3 := hVA.wrote
  refine q_aload_n hF 0 rfl rfl dX10_sleepOf_0 ?_
  refine q_aload_n hF 1 rfl rfl dX10_sleepOf_1 ?_
  refine q_callV (kc := 0) (ks := 0) (mc' := 0) (ms' := 0) (h' := 0) (st := []) hF vl_RX10_79 rfl [.ref a] rfl rfl hO.t0 (by decide) (Nat.le_of_ble_eq_true rfl) dX10_sleepOf_2 ?_
  refine mX10_landOf hO hR hTa hAc hv hVA ?_
  refine q_istore_n hF (ls' := [(2, qI (g_bel r i)), (0, .ref k), (1, .ref a)]) rfl (by decide) rfl dX10_sleepOf_5 ?_
  refine q_iload_n hF 0 rfl rfl dX10_sleepOf_6 ?_
  refine q_ifge hF (by have := g_bel_r hv hVA; omega) dX10_sleepOf_7 (fun c7 => ?_) (fun c7 => ?_)
  · obtain ⟨l, hl⟩ : ∃ l : Nat, g_bel r i = (l : Int) := ⟨(g_bel r i).toNat, by omega⟩
    have htk := g_bel_tk hv hVA (by omega)
    rw [hl] at htk
    have hl5 : l < 5 := by omega
    have hgl : g_law (r (1039 + 12 * i)) (l : Int) + 1 = 90 + 2 * (5 * kd + l) := by unfold g_law; rw [hkd]; omega
    obtain ⟨s, s0, s1, s2, s3, hs1, hsE, hs3, hs4, hs5, hs6⟩ : ∃ s s0 s1 s2 s3 : Nat, P (k + 8 + kd) l = some s ∧ E s ∧ T s = some (.inr (0, 4)) ∧ (I s 0 = (s0 : Int) ∧ I s 1 = (s1 : Int) ∧ I s 2 = (s2 : Int) ∧ I s 3 = (s3 : Int)) ∧ (s0 < 14 ∧ s1 < 4 ∧ s2 < 10 ∧ s3 < 30000) ∧ g_dec r 901 (r (89 + 2 * (5 * kd + l))).toNat (r (90 + 2 * (5 * kd + l))).toNat = e_cds s0 s1 s2 s3 := by
      rcases hR.lw kd l hkd5 hl5 with ⟨y1, y2⟩ | ⟨y1, y2⟩
      · rw [hgl] at htk; have := htk.2; omega
      · exact y2
    have hsl : g_sleep r i (l : Int) = max 0 (min 600 (e_sl (s0 : Int) (s1 : Int) (s2 : Int) (s3 : Int) (r (1042 + 12 * i)) (r (1044 + 12 * i)) (r (1046 + 12 * i)))) := by
      unfold g_sleep g_codes
      rw [show g_law (r (1039 + 12 * i)) (l : Int) = 89 + 2 * (5 * kd + l) by omega, show 89 + 2 * (5 * kd + l) + 1 = 90 + 2 * (5 * kd + l) by omega, hs6, e_ev (by omega) (by omega) (by omega) (by omega) (by omega) (by omega) (by omega)]
    have hdv2 : 0 ≤ (if (s2 : Int) = 0 then 0 else (r (1044 + 12 * i)).tdiv (s2 : Int)) ∧ (if (s2 : Int) = 0 then 0 else (r (1044 + 12 * i)).tdiv (s2 : Int)) ≤ 7000 := by
      split
      · omega
      · rw [Int.tdiv_eq_ediv_of_nonneg (by omega)]
        exact ⟨Int.ediv_nonneg (by omega) (by omega), Int.le_trans (Int.ediv_le_self _ (by omega)) (by omega)⟩
    have hdv : -2147483648 ≤ (if (s2 : Int) = 0 then 0 else (r (1044 + 12 * i)).tdiv (s2 : Int)) ∧ (if (s2 : Int) = 0 then 0 else (r (1044 + 12 * i)).tdiv (s2 : Int)) < 2147483648 := by omega
    have hml : 0 ≤ (s1 : Int) * r (1046 + 12 * i) ∧ (s1 : Int) * r (1046 + 12 * i) ≤ 28000 := ⟨Int.mul_nonneg (by omega) (by omega), Int.le_trans (Int.mul_le_mul (show (s1 : Int) ≤ 4 by omega) (show r (1046 + 12 * i) ≤ 7000 by omega) (by omega) (by decide)) (by decide)⟩
    rw [hl] at k0 ⊢
    rw [if_neg (by omega)] at k0
    refine q_aload_n hF 1 rfl rfl dX10_sleepOf_12 ?_
    refine q_getA hF fl_RX10_16 rfl hO.t0 hO.p2 dX10_sleepOf_13 ?_
    refine q_aload_n hF 2 rfl rfl dX10_sleepOf_16 ?_
    refine q_getIv hF (z := (kd : Int)) fl_RX10_76 hTa hkd0 dX10_sleepOf_17 ?_
    refine q_aaloadv hF (b := k + 8 + kd) kd hO.t7 (by decide) rfl (by omega) (by decide) (hO.ps kd (by omega)) dX10_sleepOf_20 ?_
    refine q_iload_n hF 0 rfl rfl dX10_sleepOf_21 ?_
    refine q_aaloadv hF (b := s) l (hO.ts kd (by omega)) (by decide) rfl (by omega) (by decide) hs1 dX10_sleepOf_22 ?_
    refine q_astore_n hF (ls' := [(3, .ref s), (2, qI (l : Int)), (0, .ref k), (1, .ref a)]) rfl (by decide) rfl dX10_sleepOf_23 ?_
    refine q_aload_n hF 0 rfl rfl dX10_sleepOf_24 ?_
    refine q_iconst hF dX10_sleepOf_25 ?_
    refine q_ialoadv hF (z := (s0 : Int)) (n := 4) 0 hs3 rfl (by decide) (by decide) hs4.1 dX10_sleepOf_26 ?_
    refine q_i2l hF (by omega) dX10_sleepOf_27 ?_
    refine q_aload_n hF 0 rfl rfl dX10_sleepOf_28 ?_
    refine q_iconst hF dX10_sleepOf_29 ?_
    refine q_ialoadv hF (z := (s1 : Int)) (n := 4) 1 hs3 rfl (by decide) (by decide) hs4.2.1 dX10_sleepOf_30 ?_
    refine q_i2l hF (by omega) dX10_sleepOf_31 ?_
    refine q_aload_n hF 3 rfl rfl dX10_sleepOf_32 ?_
    refine q_getIv hF (z := r (1046 + 12 * i)) fl_RX10_83 hTa hAc.le dX10_sleepOf_33 ?_
    refine q_i2l hF (by omega) dX10_sleepOf_36 ?_
    refine q_lmul hF dX10_sleepOf_37 ?_
    refine q_ladd hF dX10_sleepOf_38 ?_
    have hJ39 : qX G F Q 0 0 57 [(3, .ref s), (2, qI (l : Int)), (0, .ref k), (1, .ref a)] [qI (if (s2 : Int) = 0 then 0 else (r (1044 + 12 * i)).tdiv (s2 : Int)), qL ((s0 : Int) + ((s1 : Int) * (r (1046 + 12 * i))))] sz T I L P := by
      refine q_i2l hF hdv dX10_sleepOf_57 ?_
      refine q_lsub hF dX10_sleepOf_58 ?_
      refine q_lstore hF (ls' := [(4, qL (((s0 : Int) + ((s1 : Int) * (r (1046 + 12 * i)))) - (if (s2 : Int) = 0 then 0 else (r (1044 + 12 * i)).tdiv (s2 : Int)))), (3, .ref s), (2, qI (l : Int)), (0, .ref k), (1, .ref a)]) (by decide) rfl dX10_sleepOf_59 ?_
      refine q_aload_n hF 4 rfl rfl dX10_sleepOf_61 ?_
      refine q_getLv hF (z := r (1042 + 12 * i)) fl_RX10_89 hTa hAc.ce dX10_sleepOf_62 ?_
      refine q_aload_n hF 1 rfl rfl dX10_sleepOf_65 ?_
      refine q_iconst hF dX10_sleepOf_66 ?_
      refine q_ialoadv hF (z := (s3 : Int)) (n := 4) 3 hs3 rfl (by decide) (by decide) hs4.2.2.2 dX10_sleepOf_67 ?_
      refine q_i2l hF (by omega) dX10_sleepOf_68 ?_
      refine q_cmpge hF (by omega) (by omega) dX10_sleepOf_69 dX10_sleepOf_70 (fun c70 => ?_) (fun c70 => ?_)
      · refine q_lconst hF (z := 0) rfl dX10_sleepOf_81 ?_
        refine q_ldc2 hF (n := 600) (q_mem 613 (by decide +kernel) rfl) dX10_sleepOf_82 ?_
        refine q_lload hF 0 rfl dX10_sleepOf_85 ?_
        refine q_minl hF (q_mem 604 (by decide +kernel) rfl) (q_mem 605 (by decide +kernel) rfl) (q_mem 55 (by decide +kernel) rfl) (q_mem 606 (by decide +kernel) rfl) (by decide) (by have := hdv2; omega) (Nat.le_of_ble_eq_true rfl) dX10_sleepOf_87 ?_
        refine q_maxl hF (q_mem 614 (by decide +kernel) rfl) (q_mem 615 (by decide +kernel) rfl) (q_mem 55 (by decide +kernel) rfl) (q_mem 616 (by decide +kernel) rfl) (by decide) (by have := hdv2; omega) (Nat.le_of_ble_eq_true rfl) dX10_sleepOf_90 ?_
        refine q_l2i hF dX10_sleepOf_93 ?_
        refine q_ireturn hF rfl dX10_sleepOf_94 ?_
        rw [hsl] at k0
        unfold e_sl at k0
        rw [if_neg (show ¬ r (1042 + 12 * i) < (s3 : Int) by omega), Int.add_zero] at k0
        exact k0
      · refine q_lload hF 0 rfl dX10_sleepOf_73 ?_
        refine q_ldc2 hF (n := 5) (q_mem 612 (by decide +kernel) rfl) dX10_sleepOf_75 ?_
        refine q_ladd hF dX10_sleepOf_78 ?_
        refine q_lstore hF (ls' := [(4, qL ((((s0 : Int) + ((s1 : Int) * (r (1046 + 12 * i)))) - (if (s2 : Int) = 0 then 0 else (r (1044 + 12 * i)).tdiv (s2 : Int))) + 5)), (3, .ref s), (2, qI (l : Int)), (0, .ref k), (1, .ref a)]) (by decide) rfl dX10_sleepOf_79 ?_
        refine q_lconst hF (z := 0) rfl dX10_sleepOf_81 ?_
        refine q_ldc2 hF (n := 600) (q_mem 613 (by decide +kernel) rfl) dX10_sleepOf_82 ?_
        refine q_lload hF 0 rfl dX10_sleepOf_85 ?_
        refine q_minl hF (q_mem 604 (by decide +kernel) rfl) (q_mem 605 (by decide +kernel) rfl) (q_mem 55 (by decide +kernel) rfl) (q_mem 606 (by decide +kernel) rfl) (by decide) (by have := hdv2; omega) (Nat.le_of_ble_eq_true rfl) dX10_sleepOf_87 ?_
        refine q_maxl hF (q_mem 614 (by decide +kernel) rfl) (q_mem 615 (by decide +kernel) rfl) (q_mem 55 (by decide +kernel) rfl) (q_mem 616 (by decide +kernel) rfl) (by decide) (by have := hdv2; omega) (Nat.le_of_ble_eq_true rfl) dX10_sleepOf_90 ?_
        refine q_l2i hF dX10_sleepOf_93 ?_
        refine q_ireturn hF rfl dX10_sleepOf_94 ?_
        rw [hsl] at k0
        unfold e_sl at k0
        rw [if_pos c70] at k0
        exact k0
    refine q_aload_n hF 0 rfl rfl dX10_sleepOf_39 ?_
    refine q_iconst hF dX10_sleepOf_40 ?_
    refine q_ialoadv hF (z := (s2 : Int)) (n := 4) 2 hs3 rfl (by decide) (by decide) hs4.2.2.1 dX10_sleepOf_41 ?_
    refine q_ifne hF (by omega) dX10_sleepOf_42 (fun c42 => ?_) (fun c42 => ?_)
    · refine q_aload_n hF 3 rfl rfl dX10_sleepOf_49 ?_
      refine q_getIv hF (z := r (1044 + 12 * i)) fl_RX10_86 hTa hAc.ag dX10_sleepOf_50 ?_
      refine q_aload_n hF 0 rfl rfl dX10_sleepOf_53 ?_
      refine q_iconst hF dX10_sleepOf_54 ?_
      refine q_ialoadv hF (z := (s2 : Int)) (n := 4) 2 hs3 rfl (by decide) (by decide) hs4.2.2.1 dX10_sleepOf_55 ?_
      refine q_idiv hF (by omega) (by omega) (by omega) dX10_sleepOf_56 ?_
      rw [show (if (s2 : Int) = 0 then 0 else (r (1044 + 12 * i)).tdiv (s2 : Int)) = ((r (1044 + 12 * i)).tdiv (s2 : Int)) from by rw [if_neg c42]] at hJ39; exact hJ39
    · refine q_iconst hF dX10_sleepOf_45 ?_
      refine q_goto hF dX10_sleepOf_46 ?_
      rw [show (if (s2 : Int) = 0 then 0 else (r (1044 + 12 * i)).tdiv (s2 : Int)) = 0 from by rw [if_pos c42]] at hJ39; exact hJ39
  · refine q_iconst hF dX10_sleepOf_10 ?_
    refine q_ireturn hF rfl dX10_sleepOf_11 ?_
    rw [if_pos (show g_bel r i = -1 by have := g_bel_r hv hVA; omega)] at k0
    exact k0

set_option maxRecDepth 100000 in
theorem mX10_worth {G : q_G} {sz : Nat} {T : q_T} {I L : q_I} {P : q_P} {Q : q_Q} {k : Nat} {a : Nat} {n : Int} {E : Nat → Prop} {i : Nat} {bd : Int} {r : Nat → Int} (hO : q_OT T P k) (hR : q_OR E T I P k r) (hTa : T a = some (.inl 7)) (hAc : q_OA I L a r i) (hv : g_V0 r) (hVA : g_VA r i bd) (hmo : I k 8 = r 2) (hn : 0 ≤ n ∧ n ≤ 600) (hbd : bd = r 2) (k0 : Q (.inl (some (qL (g_worth r i n)))) sz T I L P) : qC G 1 0 0 YX10_worth [.ref k, .ref a, qI n] sz T I L P Q := by
  refine qC_of (by decide +kernel) rfl rfl (Nat.le_of_ble_eq_true rfl) (fun F hF _ _ => ?_)
  have g1 := hVA.cents
  have g2 := hVA.state
  have g4 := hVA.nl
  have g5 := hVA.hat
  have g6 := hv.month
  refine q_aload_n hF 1 rfl rfl dX10_worth_0 ?_
  refine q_getIv hF (z := r (1043 + 12 * i)) fl_RX10_117 hTa hAc.st dX10_worth_1 ?_
  refine q_iconst hF dX10_worth_4 ?_
  refine q_icmpne hF (by omega) (by decide) dX10_worth_5 (fun c5 => ?_) (fun c5 => ?_)
  · refine q_ldc2 hF (n := -1) (q_mem 621 (by decide +kernel) rfl) dX10_worth_15 ?_
    refine q_lreturn hF rfl dX10_worth_18 ?_
    unfold g_worth at k0
    rw [if_neg (fun z => by omega)] at k0
    exact k0
  · refine q_aload_n hF 1 rfl rfl dX10_worth_8 ?_
    refine q_getZv hF (z := r (1049 + 12 * i)) fl_RX10_132 hTa hAc.nl dX10_worth_9 ?_
    refine q_ifeq hF (by omega) dX10_worth_12 (fun c12 => ?_) (fun c12 => ?_)
    · obtain ⟨l, hl⟩ : ∃ l : Nat, r (1047 + 12 * i) = (l : Int) := ⟨(r (1047 + 12 * i)).toNat, by have := hVA.hh (by omega); omega⟩
      have hl0 : I a 8 = (l : Int) := hAc.ho.trans hl
      have hlr : (l : Int) < r 0 := by have := hVA.hh (by omega); omega
      have hl5 : l < 5 := by have := hv.lands; omega
      have hld := hv.land l hlr
      have hmn : 0 ≤ min (r 2 + n - r (1050 + 12 * i)) (12 * r (34 + 13 * l)) ∧ min (r 2 + n - r (1050 + 12 * i)) (12 * r (34 + 13 * l)) ≤ 600 := by omega
      have hm1 : 0 ≤ r (1042 + 12 * i) * r (33 + 13 * l) ∧ r (1042 + 12 * i) * r (33 + 13 * l) ≤ 99900000000 := ⟨Int.mul_nonneg (by omega) (by omega), Int.le_trans (Int.mul_le_mul (show r (1042 + 12 * i) ≤ 100000000 by omega) (show r (33 + 13 * l) ≤ 999 by omega) (by omega) (by decide)) (by decide)⟩
      have hmx : -9223372036854775808 ≤ r (1042 + 12 * i) * r (33 + 13 * l) * min (r 2 + n - r (1050 + 12 * i)) (12 * r (34 + 13 * l)) ∧ r (1042 + 12 * i) * r (33 + 13 * l) * min (r 2 + n - r (1050 + 12 * i)) (12 * r (34 + 13 * l)) < 9223372036854775808 := ⟨Int.le_trans (by decide) (Int.mul_nonneg hm1.1 hmn.1), Int.lt_of_le_of_lt (Int.mul_le_mul hm1.2 hmn.2 hmn.1 (by decide)) (by decide)⟩
      refine q_aload_n hF 0 rfl rfl dX10_worth_19 ?_
      refine q_getIv hF (z := r 2) fl_RX10_60 hO.t0 hmo dX10_worth_20 ?_
      refine q_iload_n hF 2 rfl rfl dX10_worth_23 ?_
      refine q_iadd hF dX10_worth_24 ?_
      refine q_aload_n hF 1 rfl rfl dX10_worth_25 ?_
      refine q_getIv hF (z := r (1050 + 12 * i)) fl_RX10_129 hTa hAc.ha dX10_worth_26 ?_
      refine q_isub hF dX10_worth_29 ?_
      refine q_i2l hF (by omega) dX10_worth_30 ?_
      refine q_ldc2 hF (n := 12) (q_mem 622 (by decide +kernel) rfl) dX10_worth_31 ?_
      refine q_aload_n hF 0 rfl rfl dX10_worth_34 ?_
      refine q_getA hF fl_RX10_9 rfl hO.t0 hO.p1 dX10_worth_35 ?_
      refine q_aload_n hF 1 rfl rfl dX10_worth_38 ?_
      refine q_getIv hF (z := (l : Int)) fl_RX10_126 hTa hl0 dX10_worth_39 ?_
      refine q_aaloadv hF (b := k + 2 + l) l hO.t1 (by decide) rfl (by omega) (by decide) (hO.pl l (by omega)) dX10_worth_42 ?_
      refine q_iconst hF dX10_worth_43 ?_
      refine q_ialoadv hF (z := r (34 + 13 * l)) (n := 4) 3 (hO.tl l (by omega)) rfl (by decide) (by decide) ((hR.ld l 3 (by omega) (by omega) (by decide)).trans (by rw [show 31 + 13 * l + 3 = 34 + 13 * l by omega])) dX10_worth_44 ?_
      refine q_i2l hF (by omega) dX10_worth_45 ?_
      refine q_lmul hF dX10_worth_46 ?_
      refine q_minl hF (q_mem 604 (by decide +kernel) rfl) (q_mem 605 (by decide +kernel) rfl) (q_mem 55 (by decide +kernel) rfl) (q_mem 606 (by decide +kernel) rfl) (by omega) (by omega) (Nat.le_of_ble_eq_true rfl) dX10_worth_47 ?_
      refine q_lstore_n hF (ls' := [(3, qL (min (((r 2) + n) - (r (1050 + 12 * i))) (12 * (r (34 + 13 * l))))), (0, .ref k), (1, .ref a), (2, qI n)]) rfl (by decide) rfl dX10_worth_50 ?_
      refine q_aload_n hF 2 rfl rfl dX10_worth_51 ?_
      refine q_getLv hF (z := r (1042 + 12 * i)) fl_RX10_89 hTa hAc.ce dX10_worth_52 ?_
      refine q_aload_n hF 2 rfl rfl dX10_worth_55 ?_
      refine q_getLv hF (z := r (1042 + 12 * i)) fl_RX10_89 hTa hAc.ce dX10_worth_56 ?_
      refine q_aload_n hF 1 rfl rfl dX10_worth_59 ?_
      refine q_getA hF fl_RX10_9 rfl hO.t0 hO.p1 dX10_worth_60 ?_
      refine q_aload_n hF 2 rfl rfl dX10_worth_63 ?_
      refine q_getIv hF (z := (l : Int)) fl_RX10_126 hTa hl0 dX10_worth_64 ?_
      refine q_aaloadv hF (b := k + 2 + l) l hO.t1 (by decide) rfl (by omega) (by decide) (hO.pl l (by omega)) dX10_worth_67 ?_
      refine q_iconst hF dX10_worth_68 ?_
      refine q_ialoadv hF (z := r (33 + 13 * l)) (n := 4) 2 (hO.tl l (by omega)) rfl (by decide) (by decide) ((hR.ld l 2 (by omega) (by omega) (by decide)).trans (by rw [show 31 + 13 * l + 2 = 33 + 13 * l by omega])) dX10_worth_69 ?_
      refine q_i2l hF (by omega) dX10_worth_70 ?_
      refine q_lmul hF dX10_worth_71 ?_
      refine q_lload_n hF 0 rfl rfl dX10_worth_72 ?_
      refine q_lmul hF dX10_worth_73 ?_
      refine q_ldc2 hF (n := 120000) (q_mem 603 (by decide +kernel) rfl) dX10_worth_74 ?_
      refine q_ldiv hF hmx (by decide) (by decide) dX10_worth_77 ?_
      refine q_ladd hF dX10_worth_78 ?_
      refine q_lreturn hF rfl dX10_worth_79 ?_
      unfold g_worth g_interest at k0
      rw [if_pos ⟨by omega, by omega⟩, hl, Int.toNat_natCast] at k0
      exact k0
    · refine q_ldc2 hF (n := -1) (q_mem 621 (by decide +kernel) rfl) dX10_worth_15 ?_
      refine q_lreturn hF rfl dX10_worth_18 ?_
      unfold g_worth at k0
      rw [if_neg (fun z => by omega)] at k0
      exact k0
