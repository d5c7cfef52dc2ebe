/-! the class: a number in hand -/
theorem q_TO.wa {G : q_G} {I : q_I} {P : q_P} {a c N : Nat} {B : Nat → Int} {S E : Nat → Nat} (h : q_TO G I P a c N B S E) {i : Nat} {v : Int} : q_TO G (u2 I a i v) P a c N B S E :=
  ⟨fun j hj => (u2_a _ _ (by omega)).trans (h.so j hj), fun j hj => (u2_a _ _ (by omega)).trans (h.st j hj), fun j hj => (u2_a _ _ (by omega)).trans (h.en j hj), h.wo, h.tk, h.br, h.n6⟩
set_option maxRecDepth 100000 in
theorem lX3_takeNumber {G : q_G} {F : q_F} {h : Nat} {Q : q_Q} {kc ks sz : Nat} {T : q_T} {a by_ : Nat} {lo hi v9 : Int} {c N j : Nat} {B : Nat → Int} {S E : Nat → Nat} {I L : q_I} {P : q_P} (hF : q_ok G F YX3_takeNumber h) (hD : q_SD T P a) (hA : q_A G a) (hO : q_TO G I P a c N B S E) (hat : I a 6 = (j : Int)) (hj : j ≤ c) (hP0 : P a 0 = some by_) (hT : T by_ = some (.inr (0, 600))) (hsep : by_ = a + 1) (hby : ∀ k, k < 600 → I by_ k = B k) (k0 : qX G F Q kc ks 86 [(3, qI (E j : Int)), (0, .ref a), (1, qI lo), (2, qI hi)] [] sz T (u2 I a 7 v9) L P) : ∀ (n : Nat) (i : Nat) (v : Int), E j - i < n → i ≤ E j → 0 ≤ v ∧ v ≤ 1000000 → g_nd B N i = E j → g_cw B N i v = v9 → qX G F Q kc ks 32 [(3, qI (i : Int)), (0, .ref a), (1, qI lo), (2, qI hi)] [] sz T (u2 I a 7 v) L P := by
  intro n
  induction n with
  | zero => intro i v hn; exact absurd hn (Nat.not_lt_zero _)
  | succ n ih =>
    intro i v hn hi1 hv hnd hV
    refine q_iload_n hF 0 rfl rfl dX3_takeNumber_32 ?_
    refine q_aload_n hF 1 rfl rfl dX3_takeNumber_33 ?_
    refine q_getA hF fl_RX3_28 rfl hD.t0 hD.p3 dX3_takeNumber_34 ?_
    refine q_aload_n hF 1 rfl rfl dX3_takeNumber_37 ?_
    refine q_getIv hF (z := (j : Int)) fl_RX3_37 hD.t0 ((u2_k _ _ (by decide)).trans hat) dX3_takeNumber_38 ?_
    refine q_ialoadv hF (z := (E j : Int)) (n := 601) j hD.t3 rfl (by have := hO.tk.1; have := hO.n6; have := g_TK_le hO.tk hj; omega) (by decide) ((u2_a _ _ (by omega)).trans (hO.en _ hj)) dX3_takeNumber_41 ?_
    refine q_icmpge hF (by have := g_TK_le hO.tk hj; have := hO.n6; omega) (by have := g_TK_le hO.tk hj; have := hO.n6; omega) dX3_takeNumber_42 (fun c42 => ?_) (fun c42 => ?_)
    · obtain rfl : i = E j := by omega
      have x : ¬ g_dg (g_bt B N (E j)) := by have q := (g_nd_all (B := B) (n := N) _ (E j) (Nat.lt_succ_self _) (by have := g_TK_le hO.tk hj; omega)).2.2; rw [hnd] at q; exact q
      rw [g_cw_e x] at hV
      subst hV
      exact k0
    · refine q_iload_n hF 0 rfl rfl dX3_takeNumber_45 ?_
      refine q_aload_n hF 1 rfl rfl dX3_takeNumber_46 ?_
      refine q_getA hF fl_RX3_9 rfl hD.t0 hP0 dX3_takeNumber_47 ?_
      refine q_alen hF (n := 600) hT dX3_takeNumber_50 ?_
      refine q_icmpge hF (by have := g_TK_le hO.tk hj; have := hO.n6; omega) (by decide) dX3_takeNumber_51 (fun c51 => ?_) (fun c51 => ?_)
      · (have := g_TK_le hO.tk hj; have := hO.n6; omega)
      · have c9 : g_dg (g_bt B N i) := by
          by_cases x : g_dg (g_bt B N i)
          · exact x
          · rw [g_nd_e x] at hnd; omega
        have e9 : g_bt B N i = B i := if_pos (by have := g_TK_le hO.tk hj; omega)
        have h91 := c9.1
        have h92 := c9.2
        refine q_aload_n hF 1 rfl rfl dX3_takeNumber_54 ?_
        refine q_ldc hF (n := 1000000) (q_mem 1231 (by decide +kernel) rfl) dX3_takeNumber_55 ?_
        refine q_bipush hF (n := 10) rfl dX3_takeNumber_57 ?_
        refine q_aload_n hF 1 rfl rfl dX3_takeNumber_59 ?_
        refine q_getIv hF (z := v) fl_RX3_88 hD.t0 (u2_s _ _ _ _) dX3_takeNumber_60 ?_
        refine q_imul hF dX3_takeNumber_63 ?_
        refine q_aload_n hF 1 rfl rfl dX3_takeNumber_64 ?_
        refine q_getA hF fl_RX3_9 rfl hD.t0 hP0 dX3_takeNumber_65 ?_
        refine q_iload_n hF 0 rfl rfl dX3_takeNumber_68 ?_
        refine q_ialoadv hF (z := B i) (n := 600) i hT rfl (by have := hO.tk.1; have := hO.n6; have := g_TK_le hO.tk hj; omega) (by decide) ((u2_a _ _ (by omega)).trans (hby _ (by have := g_TK_le hO.tk hj; have := hO.n6; omega))) dX3_takeNumber_69 ?_
        refine q_iadd hF dX3_takeNumber_70 ?_
        refine q_bipush hF (n := 48) rfl dX3_takeNumber_71 ?_
        refine q_isub hF dX3_takeNumber_73 ?_
        refine q_mini hF (q_mem 1170 (by decide +kernel) rfl) (q_mem 778 (by decide +kernel) rfl) (q_mem 55 (by decide +kernel) rfl) (q_mem 779 (by decide +kernel) rfl) (by decide) (by have := hO.br i; omega) (Nat.le_of_ble_eq_true rfl) dX3_takeNumber_74 ?_
        refine q_putI hF fl_RX3_88 hD.t0 hA dX3_takeNumber_77 ?_
        refine q_iinc hF (z' := ((1 + i : Nat) : Int)) (ls' := [(3, qI ((1 + i : Nat) : Int)), (0, .ref a), (1, qI lo), (2, qI hi)]) 0 rfl (by first | rfl | omega) (by decide) rfl dX3_takeNumber_80 ?_
        refine q_goto hF dX3_takeNumber_83 ?_
        rw [u2_u]
        exact ih (1 + i) _ (by omega) (by omega) (by omega) (by rw [← hnd, g_nd_s c9, Nat.add_comm]) (by rw [← hV, g_cw_s c9, Nat.add_comm, e9])
set_option maxRecDepth 100000 in
theorem mX3_takeNumber {G : q_G} {sz : Nat} {T : q_T} {I L : q_I} {P : q_P} {Q : q_Q} {a by_ : Nat} {lo hi : Int} {c N j : Nat} {B : Nat → Int} {S E : Nat → Nat} (hD : q_SD T P a) (hA : q_A G a) (hO : q_TO G I P a c N B S E) (hat : I a 6 = (j : Int)) (hj : j ≤ c) (hP0 : P a 0 = some by_) (hT : T by_ = some (.inr (0, 600))) (hsep : by_ = a + 1) (hby : ∀ k, k < 600 → I by_ k = B k) (hlo : 0 ≤ lo ∧ lo ≤ hi ∧ hi < 1000000) (k0 : ¬ g_dg (g_bt B N (S j)) → Q (.inl (some (qI 0))) sz T I L P) (k1 : g_dg (g_bt B N (S j)) → lo ≤ g_nv B N (S j) 0 ∧ g_nv B N (S j) 0 ≤ hi → Q (.inl (some (qI 1))) sz T (u2 (u2 I a 7 (g_nv B N (S j) 0)) a 6 ((j : Int) + 1)) L P) (k2 : g_dg (g_bt B N (S j)) → ¬ (lo ≤ g_nv B N (S j) 0 ∧ g_nv B N (S j) 0 ≤ hi) → Q (.inl (some (qI 0))) sz T (u2 (u2 (u2 I a 7 (g_cw B N (S j) 0)) a 8 2) a 9 (S j : Int)) L P) : qC G 1 0 0 YX3_takeNumber [.ref a, qI lo, qI hi] sz T I L P Q := by
  refine qC_of (by decide +kernel) rfl rfl (Nat.le_of_ble_eq_true rfl) (fun F hF _ _ => ?_)
  refine q_aload_n hF 0 rfl rfl dX3_takeNumber_0 ?_
  refine q_getA hF fl_RX3_22 rfl hD.t0 hD.p1 dX3_takeNumber_1 ?_
  refine q_aload_n hF 0 rfl rfl dX3_takeNumber_4 ?_
  refine q_getIv hF (z := (j : Int)) fl_RX3_37 hD.t0 hat dX3_takeNumber_5 ?_
  refine q_ialoadv hF (z := g_so B N (S j)) (n := 601) j hD.t1 rfl (by have := hO.tk.1; have := hO.n6; have := g_TK_le hO.tk hj; omega) (by decide) (hO.so _ hj) dX3_takeNumber_8 ?_
  refine q_sipush hF (n := 257) rfl dX3_takeNumber_9 ?_
  refine q_icmpeq hF (by have := g_so_r hO.br (g_TK_le hO.tk hj).1; omega) (by decide) dX3_takeNumber_12 (fun c12 => ?_) (fun c12 => ?_)
  · refine q_aload_n hF 0 rfl rfl dX3_takeNumber_17 ?_
    refine q_iconst hF dX3_takeNumber_18 ?_
    refine q_putI hF fl_RX3_88 hD.t0 hA dX3_takeNumber_19 ?_
    refine q_aload_n hF 0 rfl rfl dX3_takeNumber_22 ?_
    refine q_getA hF fl_RX3_25 rfl hD.t0 hD.p2 dX3_takeNumber_23 ?_
    refine q_aload_n hF 0 rfl rfl dX3_takeNumber_26 ?_
    refine q_getIv hF (z := (j : Int)) fl_RX3_37 hD.t0 ((u2_k _ _ (by decide)).trans hat) dX3_takeNumber_27 ?_
    refine q_ialoadv hF (z := (S j : Int)) (n := 601) j hD.t2 rfl (by have := hO.tk.1; have := hO.n6; have := g_TK_le hO.tk hj; omega) (by decide) ((u2_a _ _ (by omega)).trans (hO.st _ hj)) dX3_takeNumber_30 ?_
    refine q_istore_n hF (ls' := [(3, qI (S j : Int)), (0, .ref a), (1, qI lo), (2, qI hi)]) rfl (by decide) rfl dX3_takeNumber_31 ?_
    have hdg := (g_so_dg hO.br (g_TK_le hO.tk hj).1).mp c12
    obtain ⟨hjc, hnd, -⟩ := g_nu_end hO.tk hj hdg
    have hcw : g_cw B N (S j) 0 = min 1000000 (g_nv B N (S j) 0) := g_cw_nv
    have hnv := g_nv_r (B := B) (n := N) _ (S j) 0 (Nat.lt_succ_self _) (by decide) (by decide)
    refine lX3_takeNumber hF hD hA hO hat hj hP0 hT hsep hby ?_ (E j - S j + 1) (S j) 0 (by omega) (by have := g_TK_le hO.tk hj; omega) (by decide) hnd rfl
    refine q_aload_n hF 1 rfl rfl dX3_takeNumber_86 ?_
    refine q_getIv hF (z := g_cw B N (S j) 0) fl_RX3_88 hD.t0 (u2_s _ _ _ _) dX3_takeNumber_87 ?_
    refine q_iload_n hF 2 rfl rfl dX3_takeNumber_90 ?_
    refine q_icmplt hF (by omega) (by omega) dX3_takeNumber_91 (fun c91 => ?_) (fun c91 => ?_)
    · refine q_aload_n hF 1 rfl rfl dX3_takeNumber_102 ?_
      refine q_iconst hF dX3_takeNumber_103 ?_
      refine q_callV (kc := 0) (ks := 0) (mc' := 0) (ms' := 0) (h' := 0) (st := []) hF vl_RX3_68 rfl [qI 2] rfl rfl hD.t0 (by decide) (Nat.le_of_ble_eq_true rfl) dX3_takeNumber_104 ?_
      refine mX3_fail hD hA hO.wa ((u2_k _ _ (by decide)).trans hat) hj ?_
      refine q_zreturn hF (by decide) rfl dX3_takeNumber_107 ?_
      exact k2 hdg (by omega)
    · refine q_aload_n hF 1 rfl rfl dX3_takeNumber_94 ?_
      refine q_getIv hF (z := g_cw B N (S j) 0) fl_RX3_88 hD.t0 (u2_s _ _ _ _) dX3_takeNumber_95 ?_
      refine q_iload_n hF 3 rfl rfl dX3_takeNumber_98 ?_
      refine q_icmple hF (by omega) (by omega) dX3_takeNumber_99 (fun c99 => ?_) (fun c99 => ?_)
      · refine q_aload_n hF 1 rfl rfl dX3_takeNumber_108 ?_
        refine q_callV (kc := 0) (ks := 0) (mc' := 0) (ms' := 0) (h' := 0) (st := []) hF vl_RX3_92 rfl [] rfl rfl hD.t0 (by decide) (Nat.le_of_ble_eq_true rfl) dX3_takeNumber_109 ?_
        refine mX3_step (j := j) hD hA ((u2_k _ _ (by decide)).trans hat) (by have := hO.tk.1; have := hO.n6; omega) ?_
        refine q_iconst hF dX3_takeNumber_112 ?_
        refine q_zreturn hF (by decide) rfl dX3_takeNumber_113 ?_
        rw [show g_cw B N (S j) 0 = g_nv B N (S j) 0 from by omega]
        exact k1 hdg (by omega)
      · refine q_aload_n hF 1 rfl rfl dX3_takeNumber_102 ?_
        refine q_iconst hF dX3_takeNumber_103 ?_
        refine q_callV (kc := 0) (ks := 0) (mc' := 0) (ms' := 0) (h' := 0) (st := []) hF vl_RX3_68 rfl [qI 2] rfl rfl hD.t0 (by decide) (Nat.le_of_ble_eq_true rfl) dX3_takeNumber_104 ?_
        refine mX3_fail hD hA hO.wa ((u2_k _ _ (by decide)).trans hat) hj ?_
        refine q_zreturn hF (by decide) rfl dX3_takeNumber_107 ?_
        exact k2 hdg (by omega)
  · refine q_iconst hF dX3_takeNumber_15 ?_
    refine q_zreturn hF (by decide) rfl dX3_takeNumber_16 ?_
    exact k0 (fun h => c12 ((g_so_dg hO.br (g_TK_le hO.tk hj).1).mpr h))
