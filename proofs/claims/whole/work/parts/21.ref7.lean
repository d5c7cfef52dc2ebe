/-! the reference: months go -/
theorem g_accs_s (nx : Int) (n a : Nat) (r : Nat → Int) : g_accs nx (n + 1) a r = ((g_goes r a nx).1 + (g_accs nx n (a + 1) (g_goes r a nx).2).1, (g_accs nx n (a + 1) (g_goes r a nx).2).2) := rfl
theorem g_months_s (n : Nat) (r : Nat → Int) : g_months (n + 1) r = if r 2 < 6000 then ((g_month r).1 + (g_months n (g_month r).2).1, (g_months n (g_month r).2).2) else (0, r) := rfl
/-- a row that stands -/
def g_VR (r : Nat → Int) : Prop := g_VM r 0 (r 2)
theorem g_VM.up2 {r : Nat → Int} {n : Nat} {b : Int} (h : g_VM r n b) (hn : (n : Int) = r 1) (h2 : r 2 = b) (hb : b < 6000) : g_VR (g_up r 2 (r 2 + 1)) := by
  obtain ⟨h0, h1, h3⟩ := h
  have hm := h0.month
  have e1 : g_up r 2 (r 2 + 1) 1 = r 1 := g_up_n _ _ (by omega)
  have e2 : g_up r 2 (r 2 + 1) 2 = r 2 + 1 := g_up_s _ _ _
  have e6 : g_up r 2 (r 2 + 1) 6 = r 6 := g_up_n _ _ (by omega)
  refine ⟨h0.same ((g_same.rf r).up (by unfold g_rc; omega)) (by rw [e1]; exact h0.many) (by omega) (by rw [e6]; exact h0.rows), fun i hi => ?_, ?_⟩
  · rw [e1] at hi
    have h4 := h1 i hi
    rw [if_pos (by omega)] at h4
    rw [if_neg (by omega), e2, h2]
    exact h4.ext (g_up_n _ _ (by omega)) (fun k k1 k2 => g_up_n _ _ (by omega))
  · rw [e6, e1, g_cnt_same (r := r) _ (fun i hi => by rw [g_up_n _ _ (by omega)])]
    exact h3
set_option maxRecDepth 100000 in
theorem lX8_monthsGo1 {G : q_G} {F : q_F} {h : Nat} {Q : q_Q} {kc ks sz : Nat} {T : q_T} {m r k nn mn : Nat} {b H : Int} {R : Nat → Int} {I L : q_I} {P : q_P} (h4 : 5 ≤ h) (hF : q_ok G F YX8_monthsGo h) (hS : q_SM T P m) (hSA : q_A G m) (hR : T r = some (.inr (1, 1243))) (hRA : q_A G r) (hne : r ≠ m + 15) (hb : 0 ≤ b ∧ b < 6000) (hmn : mn ≤ 12) (k0 : ∀ (M : q_I) (v5 : Int), (∀ q k, q ≠ r → q ≠ m + 15 → M q k = L q k) → M r = R → g_VM R mn b → R 1 = (mn : Int) → R 2 = b → qX G F Q kc ks 63 [(5, qI v5), (4, qI (k : Int)), (3, qI H), (0, .ref m), (1, .ref r), (2, qI (nn : Int))] [] sz T I M P) : ∀ (n : Nat) (a : Nat) (hd : Int) (M : q_I), mn - a < n → a ≤ mn → g_VM (M r) a b → M r 1 = (mn : Int) → M r 2 = b → (∀ q k, q ≠ r → q ≠ m + 15 → M q k = L q k) → hd + (g_accs (b + 1) (mn - a) a (M r)).1 = H → (g_accs (b + 1) (mn - a) a (M r)).2 = R → qX G F Q kc ks 24 [(5, qI (a : Int)), (4, qI (k : Int)), (3, qI hd), (0, .ref m), (1, .ref r), (2, qI (nn : Int))] [] sz T I M P := by
  intro n
  induction n with
  | zero => intro a hd M hn; exact absurd hn (Nat.not_lt_zero _)
  | succ n ih =>
    intro a hd M hn ha hVM h1 h2 hM hH hR2
    refine q_iload hF 0 rfl dX8_monthsGo_24 ?_
    refine q_i2l hF (by omega) dX8_monthsGo_26 ?_
    refine q_aload_n hF 4 rfl rfl dX8_monthsGo_27 ?_
    refine q_iconst hF dX8_monthsGo_28 ?_
    refine q_laloadv hF (z := (mn : Int)) (n := 1243) 1 hR rfl (by decide) (by decide) h1 dX8_monthsGo_29 ?_
    refine q_cmpge hF (by omega) (by omega) dX8_monthsGo_30 dX8_monthsGo_31 (fun c31 => ?_) (fun c31 => ?_)
    · rw [show mn - a = 0 by omega] at hH hR2
      have q1 : hd = H := by rw [← hH]; exact (Int.add_zero _).symm
      rw [q1]
      have q2 : M r = R := hR2
      exact k0 M _ hM q2 (q2 ▸ (show a = mn by omega) ▸ hVM) (q2 ▸ h1) (q2 ▸ h2)
    · have hA := hVM.2.1 a (by rw [h1]; omega)
      rw [if_neg (Nat.lt_irrefl _)] at hA
      have hr := hVM.1.rows
      refine q_iload_n hF 2 rfl rfl dX8_monthsGo_34 ?_
      refine q_aload_n hF 3 rfl rfl dX8_monthsGo_35 ?_
      refine q_aload_n hF 4 rfl rfl dX8_monthsGo_36 ?_
      refine q_iload hF 0 rfl dX8_monthsGo_37 ?_
      refine q_aload_n hF 4 rfl rfl dX8_monthsGo_39 ?_
      refine q_iconst hF dX8_monthsGo_40 ?_
      refine q_laloadv hF (z := b) (n := 1243) 2 hR rfl (by decide) (by decide) h2 dX8_monthsGo_41 ?_
      refine q_lconst hF (z := 1) rfl dX8_monthsGo_42 ?_
      refine q_ladd hF dX8_monthsGo_43 ?_
      refine q_callV (kc := kc) (ks := ks) (mc' := 0) (ms' := 0) (h' := 4) (st := [qI hd]) hF vl_RX8_330 rfl [.ref r, qI (a : Int), qL (b + 1)] rfl rfl hS.t0 (by omega) (Nat.le_of_ble_eq_true rfl) dX8_monthsGo_44 ?_
      refine mX8_goes (a := a) hS hSA hR hRA (by omega) hVM.1 hA (by omega) (by omega) hne (fun h => by have q1 := g_cnt_lt (r := M r) (a := a) (by omega) (M r 1).toNat (by omega); have q2 := hVM.2.2; omega) (fun L' z c44_0 c44_1 c44_2 => ?_)
      have hJ47 : qX G F Q kc ks 55 [(5, qI (a : Int)), (4, qI (k : Int)), (3, qI hd), (0, .ref m), (1, .ref r), (2, qI (nn : Int))] [qI z, qI hd] sz T I L' P := by
        refine q_iadd hF dX8_monthsGo_55 ?_
        refine q_istore_n hF (ls' := [(3, qI (hd + z)), (5, qI (a : Int)), (4, qI (k : Int)), (0, .ref m), (1, .ref r), (2, qI (nn : Int))]) rfl (by decide) rfl dX8_monthsGo_56 ?_
        have q9 : (g_goes (M r) a (b + 1)).2 = L' r := by rw [c44_1]
        have q10 : (g_goes (M r) a (b + 1)).1 = z := by rw [c44_1]
        have e1 : L' r 1 = (mn : Int) := by rw [← q9, g_goes_n hr.1 (by omega) (by omega) (by omega) (by omega) (by omega) (by omega)]; exact h1
        have e2 : L' r 2 = b := by rw [← q9, g_goes_n hr.1 (by omega) (by omega) (by omega) (by omega) (by omega) (by omega)]; exact h2
        rw [show mn - a = (mn - (1 + a)) + 1 by omega, g_accs_s, q9, q10, Nat.add_comm a 1] at hH hR2
        refine q_iinc hF (z' := ((1 + a : Nat) : Int)) (ls' := [(5, qI ((1 + a : Nat) : Int)), (3, qI (hd + z)), (4, qI (k : Int)), (0, .ref m), (1, .ref r), (2, qI (nn : Int))]) 1 rfl (by first | rfl | omega) (by decide) rfl dX8_monthsGo_57 ?_
        refine q_goto hF dX8_monthsGo_60 ?_
        refine q_sub [0, 2, 1, 3, 4, 5] rfl ?_
        exact ih (1 + a) (hd + z) L' (by omega) (by omega) (by have h9 := hVM.goes (a := a) (by rw [h1]; omega) hb.1; rw [q9, Nat.add_comm a 1] at h9; exact h9) e1 e2 (fun q k x1 x2 => (c44_0 q k x1 x2).trans (hM q k x1 x2)) (by rw [← hH]; simp only []; omega) hR2
      refine q_ifeq hF (by omega) dX8_monthsGo_47 (fun c47 => ?_) (fun c47 => ?_)
      · refine q_iconst hF dX8_monthsGo_54 ?_
        rw [show (z) = 0 from by omega] at hJ47; exact hJ47
      · refine q_iconst hF dX8_monthsGo_50 ?_
        refine q_goto hF dX8_monthsGo_51 ?_
        rw [show (z) = 1 from by omega] at hJ47; exact hJ47
set_option maxRecDepth 100000 in
theorem lX8_monthsGo {G : q_G} {F : q_F} {h : Nat} {Q : q_Q} {kc ks sz : Nat} {T : q_T} {m r nn : Nat} {H : Int} {R : Nat → Int} {I L : q_I} {P : q_P} (h4 : 5 ≤ h) (hF : q_ok G F YX8_monthsGo h) (hS : q_SM T P m) (hSA : q_A G m) (hR : T r = some (.inr (1, 1243))) (hRA : q_A G r) (hne : r ≠ m + 15) (hn : nn < 10000) (k0 : ∀ (M : q_I), (∀ q k, q ≠ r → q ≠ m + 15 → M q k = L q k) → M r = R → Q (.inl (some (qI H))) sz T I M P) : ∀ (n : Nat) (k : Nat) (hd : Int) (N : q_I), nn - k < n → k ≤ nn → g_VR (N r) → (∀ q k, q ≠ r → q ≠ m + 15 → N q k = L q k) → hd + (g_months (nn - k) (N r)).1 = H → (g_months (nn - k) (N r)).2 = R → qX G F Q kc ks 5 [(4, qI (k : Int)), (3, qI hd), (0, .ref m), (1, .ref r), (2, qI (nn : Int))] [] sz T I N P := by
  intro n
  induction n with
  | zero => intro k hd N hn; exact absurd hn (Nat.not_lt_zero _)
  | succ n ih =>
    intro k hd N hn hk hV hM hH hR2
    refine q_iload hF 0 rfl dX8_monthsGo_5 ?_
    refine q_iload_n hF 4 rfl rfl dX8_monthsGo_7 ?_
    refine q_icmpge hF (by omega) (by omega) dX8_monthsGo_8 (fun c8 => ?_) (fun c8 => ?_)
    · refine q_iload_n hF 1 rfl rfl dX8_monthsGo_76 ?_
      refine q_ireturn hF rfl dX8_monthsGo_77 ?_
      rw [show nn - k = 0 by omega] at hH hR2
      have q1 : hd = H := by rw [← hH]; exact (Int.add_zero _).symm
      rw [q1]
      exact k0 N hM hR2
    · refine q_aload_n hF 3 rfl rfl dX8_monthsGo_11 ?_
      refine q_iconst hF dX8_monthsGo_12 ?_
      refine q_laloadv hF (z := N r 2) (n := 1243) 2 hR rfl (by decide) (by decide) rfl dX8_monthsGo_13 ?_
      refine q_ldc2 hF (n := 6000) (q_mem 1587 (by decide +kernel) rfl) dX8_monthsGo_14 ?_
      refine q_cmpge hF (by have := hV.1.month; omega) (by decide) dX8_monthsGo_17 dX8_monthsGo_18 (fun c18 => ?_) (fun c18 => ?_)
      · refine q_iload_n hF 1 rfl rfl dX8_monthsGo_76 ?_
        refine q_ireturn hF rfl dX8_monthsGo_77 ?_
        have q3 : g_months (nn - k) (N r) = (0, N r) := by
          rw [show nn - k = (nn - k - 1) + 1 by omega, g_months_s, if_neg (by omega)]
        rw [q3] at hH hR2
        have q1 : hd = H := by rw [← hH]; exact (Int.add_zero _).symm
        rw [q1]
        exact k0 N hM hR2
      · refine q_iconst hF dX8_monthsGo_21 ?_
        refine q_istore hF (ls' := [(5, qI 0), (4, qI (k : Int)), (3, qI hd), (0, .ref m), (1, .ref r), (2, qI (nn : Int))]) (by decide) rfl dX8_monthsGo_22 ?_
        obtain ⟨mn, hmn⟩ : ∃ mn : Nat, N r 1 = (mn : Int) := ⟨(N r 1).toNat, by have := hV.1.many; omega⟩
        have hm12 := hV.1.many
        refine lX8_monthsGo1 (mn := mn) (b := N r 2) (H := hd + (g_month (N r)).1) (R := (g_accs (N r 2 + 1) (N r 1).toNat 0 (N r)).2) (L := N) h4 hF hS hSA hR hRA hne (by have := hV.1.month; omega) (by omega) (fun M v5 x1 x2 x3 x4 x5 => ?_) (mn + 1) 0 hd N (by omega) (Nat.zero_le _) hV hmn rfl (fun _ _ _ _ => rfl) (by rw [show mn - 0 = (N r 1).toNat by omega]; rfl) (by rw [show mn - 0 = (N r 1).toNat by omega])
        refine q_aload_n hF 4 rfl rfl dX8_monthsGo_63 ?_
        refine q_iconst hF dX8_monthsGo_64 ?_
        refine q_dup2 hF rfl rfl dX8_monthsGo_65 ?_
        refine q_laloadv hF (z := M r 2) (n := 1243) 2 hR rfl (by decide) (by decide) rfl dX8_monthsGo_66 ?_
        refine q_lconst hF (z := 1) rfl dX8_monthsGo_67 ?_
        refine q_ladd hF dX8_monthsGo_68 ?_
        refine q_lastorev hF (n := 1243) 2 hR hRA rfl (by decide) (by decide) dX8_monthsGo_69 ?_
        refine q_iinc hF (z' := ((1 + k : Nat) : Int)) (ls' := [(4, qI ((1 + k : Nat) : Int)), (5, qI v5), (3, qI (hd + (g_month (N r)).1)), (0, .ref m), (1, .ref r), (2, qI (nn : Int))]) 1 rfl (by first | rfl | omega) (by decide) rfl dX8_monthsGo_70 ?_
        refine q_goto hF dX8_monthsGo_73 ?_
        refine q_sub [0, 2, 3, 4, 5] rfl ?_
        have e9 : u2 M r 2 (M r 2 + 1) r = (g_month (N r)).2 := by
          rw [q_row_u1, q_row_f, x2]; rfl
        rw [show nn - k = (nn - (1 + k)) + 1 by omega, g_months_s, if_pos (by omega)] at hH hR2
        exact ih (1 + k) (hd + (g_month (N r)).1) (u2 M r 2 (M r 2 + 1)) (by omega) (by omega) (by rw [e9, show (g_month (N r)).2 = g_up ((g_accs (N r 2 + 1) (N r 1).toNat 0 (N r)).2) 2 ((g_accs (N r 2 + 1) (N r 1).toNat 0 (N r)).2 2 + 1) from rfl]; exact x3.up2 x4.symm x5 (by omega)) (fun q k y1 y2 => by rw [u2_a _ _ y1]; exact (x1 q k y1 y2).trans (hM q k y1 y2)) (by rw [e9, ← hH]; simp only []; omega) (by rw [e9]; exact hR2)
set_option maxRecDepth 100000 in
theorem mX8_monthsGo {G : q_G} {sz : Nat} {T : q_T} {I L : q_I} {P : q_P} {Q : q_Q} {m : Nat} {r : Nat} {nn : Nat} (hS : q_SM T P m) (hSA : q_A G m) (hR : T r = some (.inr (1, 1243))) (hRA : q_A G r) (hne : r ≠ m + 15) (hn : nn < 10000) (hV : g_VR (L r)) (k0 : ∀ (L' : q_I), (∀ q k, q ≠ r → q ≠ m + 15 → L' q k = L q k) → L' r = (g_months nn (L r)).2 → Q (.inl (some (qI (g_months nn (L r)).1))) sz T I L' P) : qC G 5 0 0 YX8_monthsGo [.ref m, .ref r, qI (nn : Int)] sz T I L P Q := by
  refine qC_of (by decide +kernel) rfl rfl (Nat.le_of_ble_eq_true rfl) (fun F hF _ _ => ?_)
  refine q_iconst hF dX8_monthsGo_0 ?_
  refine q_istore_n hF (ls' := [(3, qI 0), (0, .ref m), (1, .ref r), (2, qI (nn : Int))]) rfl (by decide) rfl dX8_monthsGo_1 ?_
  refine q_iconst hF dX8_monthsGo_2 ?_
  refine q_istore hF (ls' := [(4, qI 0), (3, qI 0), (0, .ref m), (1, .ref r), (2, qI (nn : Int))]) (by decide) rfl dX8_monthsGo_3 ?_
  exact lX8_monthsGo (L := L) (H := (g_months nn (L r)).1) (R := (g_months nn (L r)).2) (by decide) hF hS hSA hR hRA hne hn k0 (nn + 1) 0 0 L (by omega) (Nat.zero_le _) hV (fun _ _ _ _ => rfl) (Int.zero_add _) rfl
