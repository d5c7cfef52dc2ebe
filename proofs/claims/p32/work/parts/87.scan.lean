/-! the class: a text laid out as tokens -/
def q_SD (T : q_T) (P : q_P) (a : Nat) : Prop := (T a = some (.inl 3)) ∧ (P a 2 = some (a + 20)) ∧ (T (a + 20) = some (.inr (0, 601))) ∧ (P a 3 = some (a + 21)) ∧ (T (a + 21) = some (.inr (0, 601))) ∧ (P a 4 = some (a + 22)) ∧ (T (a + 22) = some (.inr (0, 601))) ∧ (P a 5 = some (a + 23)) ∧ (T (a + 23) = some (.inr (5, 601)))
theorem q_SD.t0 {T : q_T} {P : q_P} {a : Nat} (h : q_SD T P a) : T a = some (.inl 3) := h.1
theorem q_SD.p1 {T : q_T} {P : q_P} {a : Nat} (h : q_SD T P a) : P a 2 = some (a + 20) := h.2.1
theorem q_SD.t1 {T : q_T} {P : q_P} {a : Nat} (h : q_SD T P a) : T (a + 20) = some (.inr (0, 601)) := h.2.2.1
theorem q_SD.p2 {T : q_T} {P : q_P} {a : Nat} (h : q_SD T P a) : P a 3 = some (a + 21) := h.2.2.2.1
theorem q_SD.t2 {T : q_T} {P : q_P} {a : Nat} (h : q_SD T P a) : T (a + 21) = some (.inr (0, 601)) := h.2.2.2.2.1
theorem q_SD.p3 {T : q_T} {P : q_P} {a : Nat} (h : q_SD T P a) : P a 4 = some (a + 22) := h.2.2.2.2.2.1
theorem q_SD.t3 {T : q_T} {P : q_P} {a : Nat} (h : q_SD T P a) : T (a + 22) = some (.inr (0, 601)) := h.2.2.2.2.2.2.1
theorem q_SD.p4 {T : q_T} {P : q_P} {a : Nat} (h : q_SD T P a) : P a 5 = some (a + 23) := h.2.2.2.2.2.2.2.1
theorem q_SD.t4 {T : q_T} {P : q_P} {a : Nat} (h : q_SD T P a) : T (a + 23) = some (.inr (5, 601)) := h.2.2.2.2.2.2.2.2
theorem g_srt_r {c : Int} (h : 0 ≤ c ∧ c ≤ 255) : 0 ≤ g_srt c ∧ g_srt c ≤ 257 := by unfold g_srt; (repeat' split) <;> omega
theorem g_srt_w {c : Int} (h : 0 ≤ c ∧ c ≤ 255) : (g_srt c = 256 ↔ g_sm c) ∧ (g_srt c = 257 ↔ ¬ g_sm c ∧ g_dg c) ∧ (g_srt c = 32 ↔ c = 32) := by
  unfold g_srt
  refine ⟨?_, ?_, ?_⟩ <;> ((repeat' split) <;> constructor <;> intro q <;> omega)
set_option maxRecDepth 100000 in
theorem mX3_sortOf {G : q_G} {sz : Nat} {T : q_T} {I L : q_I} {P : q_P} {Q : q_Q} {x : Int}  (hx : -2147483648 ≤ x ∧ x < 2147483648) (k0 : Q (.inl (some (qI (g_srt x)))) sz T I L P) : qC G 0 0 0 YX3_sortOf [qI x] sz T I L P Q := by
  refine qC_of (by decide +kernel) rfl rfl (Nat.le_of_ble_eq_true rfl) (fun F hF _ _ => ?_)
  refine q_iload_n hF 0 rfl rfl dX3_sortOf_0 ?_
  refine q_bipush hF (n := 97) rfl dX3_sortOf_1 ?_
  refine q_icmplt hF hx (by decide) dX3_sortOf_3 (fun c3 => ?_) (fun c3 => ?_)
  · refine q_iload_n hF 0 rfl rfl dX3_sortOf_16 ?_
    refine q_bipush hF (n := 48) rfl dX3_sortOf_17 ?_
    refine q_icmplt hF hx (by decide) dX3_sortOf_19 (fun c19 => ?_) (fun c19 => ?_)
    · refine q_iload_n hF 0 rfl rfl dX3_sortOf_34 ?_
      refine q_ireturn hF rfl dX3_sortOf_35 ?_
      rw [show (g_srt x) = x from by unfold g_srt; (repeat' split) <;> first | rfl | omega] at k0; exact k0
    · refine q_iload_n hF 0 rfl rfl dX3_sortOf_22 ?_
      refine q_bipush hF (n := 57) rfl dX3_sortOf_23 ?_
      refine q_icmpgt hF hx (by decide) dX3_sortOf_25 (fun c25 => ?_) (fun c25 => ?_)
      · refine q_iload_n hF 0 rfl rfl dX3_sortOf_34 ?_
        refine q_ireturn hF rfl dX3_sortOf_35 ?_
        rw [show (g_srt x) = x from by unfold g_srt; (repeat' split) <;> first | rfl | omega] at k0; exact k0
      · refine q_sipush hF (n := 257) rfl dX3_sortOf_28 ?_
        refine q_goto hF dX3_sortOf_31 ?_
        refine q_ireturn hF rfl dX3_sortOf_35 ?_
        rw [show (g_srt x) = 257 from by unfold g_srt; (repeat' split) <;> first | rfl | omega] at k0; exact k0
  · refine q_iload_n hF 0 rfl rfl dX3_sortOf_6 ?_
    refine q_bipush hF (n := 122) rfl dX3_sortOf_7 ?_
    refine q_icmpgt hF hx (by decide) dX3_sortOf_9 (fun c9 => ?_) (fun c9 => ?_)
    · refine q_iload_n hF 0 rfl rfl dX3_sortOf_16 ?_
      refine q_bipush hF (n := 48) rfl dX3_sortOf_17 ?_
      refine q_icmplt hF hx (by decide) dX3_sortOf_19 (fun c19 => ?_) (fun c19 => ?_)
      · refine q_iload_n hF 0 rfl rfl dX3_sortOf_34 ?_
        refine q_ireturn hF rfl dX3_sortOf_35 ?_
        rw [show (g_srt x) = x from by unfold g_srt; (repeat' split) <;> first | rfl | omega] at k0; exact k0
      · refine q_iload_n hF 0 rfl rfl dX3_sortOf_22 ?_
        refine q_bipush hF (n := 57) rfl dX3_sortOf_23 ?_
        refine q_icmpgt hF hx (by decide) dX3_sortOf_25 (fun c25 => ?_) (fun c25 => ?_)
        · refine q_iload_n hF 0 rfl rfl dX3_sortOf_34 ?_
          refine q_ireturn hF rfl dX3_sortOf_35 ?_
          rw [show (g_srt x) = x from by unfold g_srt; (repeat' split) <;> first | rfl | omega] at k0; exact k0
        · refine q_sipush hF (n := 257) rfl dX3_sortOf_28 ?_
          refine q_goto hF dX3_sortOf_31 ?_
          refine q_ireturn hF rfl dX3_sortOf_35 ?_
          rw [show (g_srt x) = 257 from by unfold g_srt; (repeat' split) <;> first | rfl | omega] at k0; exact k0
    · refine q_sipush hF (n := 256) rfl dX3_sortOf_12 ?_
      refine q_ireturn hF rfl dX3_sortOf_15 ?_
      rw [show (g_srt x) = 256 from by unfold g_srt; (repeat' split) <;> first | rfl | omega] at k0; exact k0
set_option maxRecDepth 100000 in
theorem lX3_scan {G : q_G} {F : q_F} {h : Nat} {Q : q_Q} {kc ks sz : Nat} {T : q_T} {a by_ N : Nat} {B : Nat → Int} {I L : q_I} {P : q_P} (h1 : 1 ≤ h) (hF : q_ok G F YX3_scan h) (hD : q_SD T P a) (hA : q_A G a) (hP0 : P a 0 = some by_) (hT : T by_ = some (.inr (0, 600))) (hsep : by_ = a + 1) (hby : ∀ k, k < 600 → I by_ k = B k) (hBr : ∀ k, 0 ≤ B k ∧ B k ≤ 255) (hn6 : N ≤ 600) (kx : ∀ (c : Nat) (S E : Nat → Nat) (M9 : q_I), (∀ q k, q ≠ a + 20 → q ≠ a + 21 → q ≠ a + 22 → M9 q k = I q k) → (∀ j, j < c → M9 (a + 20) j = g_srt (g_bt B N (S j)) ∧ M9 (a + 21) j = (S j : Int) ∧ M9 (a + 22) j = (E j : Int)) → g_TI B N N c S E → qX G F Q kc ks 131 [(2, qI (c : Int)), (0, .ref a), (1, qI (N : Int))] [] sz T M9 L P) : ∀ (n : Nat) (c : Nat) (i : Nat) (S E : Nat → Nat) (M9 : q_I), N - i < n → i ≤ N → (∀ q k, q ≠ a + 20 → q ≠ a + 21 → q ≠ a + 22 → M9 q k = I q k) → (∀ j, j < c → M9 (a + 20) j = g_srt (g_bt B N (S j)) ∧ M9 (a + 21) j = (S j : Int) ∧ M9 (a + 22) j = (E j : Int)) → g_TI B N i c S E → qX G F Q kc ks 4 [(3, qI (i : Int)), (2, qI (c : Int)), (0, .ref a), (1, qI (N : Int))] [] sz T M9 L P := by
  intro n
  induction n with
  | zero => intro c i S E M9 hn; exact absurd hn (Nat.not_lt_zero _)
  | succ n ih =>
    intro c i S E M9 hn hi hfr htok hTI
    have hci := hTI.1
    refine q_iload_n hF 0 rfl rfl dX3_scan_4 ?_
    refine q_iload_n hF 3 rfl rfl dX3_scan_5 ?_
    refine q_icmpge hF (by omega) (by omega) dX3_scan_6 (fun c6 => ?_) (fun c6 => ?_)
    · obtain rfl : i = N := by omega
      refine q_sub [1, 2, 3] rfl ?_
      exact kx c S E M9 hfr htok hTI
    · refine q_aload_n hF 2 rfl rfl dX3_scan_9 ?_
      refine q_getA hF fl_RX3_9 rfl hD.t0 hP0 dX3_scan_10 ?_
      refine q_iload_n hF 0 rfl rfl dX3_scan_13 ?_
      refine q_ialoadv hF (z := B i) (n := 600) i hT rfl (by omega) (by decide) ((hfr _ _ (by omega) (by omega) (by omega)).trans (hby _ (by omega))) dX3_scan_14 ?_
      refine q_callS (kc := kc) (ks := ks) (mc' := 0) (ms' := 0) (h' := 0) (st := []) hF sl_RX3_77 rfl [qI (B i)] rfl rfl (by omega) (Nat.le_of_ble_eq_true rfl) dX3_scan_15 ?_
      refine mX3_sortOf (by have := hBr i; omega) ?_
      refine q_istore hF (ls' := [(4, qI (g_srt (B i))), (3, qI (i : Int)), (2, qI (c : Int)), (0, .ref a), (1, qI (N : Int))]) (by decide) rfl dX3_scan_18 ?_
      refine q_iload hF 0 rfl dX3_scan_20 ?_
      refine q_sipush hF (n := 256) rfl dX3_scan_22 ?_
      refine q_icmpeq hF (by have := g_srt_r (hBr i); omega) (by decide) dX3_scan_25 (fun c25 => ?_) (fun c25 => ?_)
      · refine q_iload_n hF 2 rfl rfl dX3_scan_36 ?_
        refine q_ifle hF (by omega) dX3_scan_37 (fun c37 => ?_) (fun c37 => ?_)
        · refine q_iconst hF dX3_scan_69 ?_
          refine q_istore hF (ls' := [(5, qI 0), (4, qI (g_srt (B i))), (3, qI (i : Int)), (2, qI (c : Int)), (0, .ref a), (1, qI (N : Int))]) (by decide) rfl dX3_scan_70 ?_
          refine q_iload hF 0 rfl dX3_scan_72 ?_
          refine q_ifeq hF (by decide) dX3_scan_74 (fun c74 => ?_) (fun c74 => ?_)
          · refine q_iload hF 1 rfl dX3_scan_91 ?_
            refine q_bipush hF (n := 32) rfl dX3_scan_93 ?_
            refine q_icmpeq hF (by have := g_srt_r (hBr i); omega) (by decide) dX3_scan_95 (fun c95 => ?_) (fun c95 => ?_)
            · refine q_iinc hF (z' := ((1 + i : Nat) : Int)) (ls' := [(3, qI ((1 + i : Nat) : Int)), (5, qI 0), (4, qI (g_srt (B i))), (2, qI (c : Int)), (0, .ref a), (1, qI (N : Int))]) 2 rfl (by first | rfl | omega) (by decide) rfl dX3_scan_125 ?_
              refine q_goto hF dX3_scan_128 ?_
              refine q_sub [0, 3, 4, 5] rfl ?_
              have hbi : g_bt B N i = B i := if_pos (by omega)
              have hw := g_srt_w (hBr i)
              exact ih c (1 + i) S E M9 (by omega) (by omega) hfr htok (g_TI_blank hTI (by rw [hbi]; exact hw.2.2.mp (by assumption)))
            · refine q_aload_n hF 4 rfl rfl dX3_scan_98 ?_
              refine q_getA hF fl_RX3_22 rfl hD.t0 hD.p1 dX3_scan_99 ?_
              refine q_iload_n hF 3 rfl rfl dX3_scan_102 ?_
              refine q_iload hF 1 rfl dX3_scan_103 ?_
              refine q_iastorev hF (n := 601) c hD.t1 (q_Ale hA (by omega)) rfl (by omega) (by decide) dX3_scan_105 ?_
              refine q_aload_n hF 4 rfl rfl dX3_scan_106 ?_
              refine q_getA hF fl_RX3_25 rfl hD.t0 hD.p2 dX3_scan_107 ?_
              refine q_iload_n hF 3 rfl rfl dX3_scan_110 ?_
              refine q_iload_n hF 2 rfl rfl dX3_scan_111 ?_
              refine q_iastorev hF (n := 601) c hD.t2 (q_Ale hA (by omega)) rfl (by omega) (by decide) dX3_scan_112 ?_
              refine q_aload_n hF 4 rfl rfl dX3_scan_113 ?_
              refine q_getA hF fl_RX3_28 rfl hD.t0 hD.p3 dX3_scan_114 ?_
              refine q_iload_n hF 3 rfl rfl dX3_scan_117 ?_
              refine q_iload_n hF 2 rfl rfl dX3_scan_118 ?_
              refine q_iconst hF dX3_scan_119 ?_
              refine q_iadd hF dX3_scan_120 ?_
              refine q_iastorev hF (n := 601) c hD.t3 (q_Ale hA (by omega)) rfl (by omega) (by decide) dX3_scan_121 ?_
              refine q_iinc hF (z' := ((1 + c : Nat) : Int)) (ls' := [(2, qI ((1 + c : Nat) : Int)), (5, qI 0), (4, qI (g_srt (B i))), (3, qI (i : Int)), (0, .ref a), (1, qI (N : Int))]) 3 rfl (by first | rfl | omega) (by decide) rfl dX3_scan_122 ?_
              refine q_iinc hF (z' := ((1 + i : Nat) : Int)) (ls' := [(3, qI ((1 + i : Nat) : Int)), (2, qI ((1 + c : Nat) : Int)), (5, qI 0), (4, qI (g_srt (B i))), (0, .ref a), (1, qI (N : Int))]) 3 rfl (by first | rfl | omega) (by decide) rfl dX3_scan_125 ?_
              refine q_goto hF dX3_scan_128 ?_
              refine q_sub [0, 1, 4, 5] rfl ?_
              have hbi : g_bt B N i = B i := if_pos (by omega)
              have hw := g_srt_w (hBr i)
              refine ih (1 + c) (1 + i) (fun j => if j = c then i else S j) (fun j => if j = c then 1 + i else E j) (u2 (u2 (u2 M9 (a + 20) c (g_srt (B i))) (a + 21) c (i : Int)) (a + 22) c ((i : Int) + 1)) (by omega) (by omega) (fun q k h1 h2 h3 => by rw [u2_a _ _ h3, u2_a _ _ h2, u2_a _ _ h1]; exact hfr q k h1 h2 h3) (fun j hj => ?_) ?_
              · by_cases e : j = c
                · subst e
                  rw [if_pos rfl, if_pos rfl, u2_a _ _ (by omega), u2_a _ _ (by omega), u2_s, u2_a _ _ (by omega), u2_s, u2_s, hbi]
                  exact ⟨rfl, rfl, by omega⟩
                · have q := htok j (by omega)
                  rw [if_neg e, if_neg e]
                  exact ⟨by rw [u2_a _ _ (by omega), u2_a _ _ (by omega), u2_k _ _ e]; exact q.1, by rw [u2_a _ _ (by omega), u2_k _ _ e, u2_a _ _ (by omega)]; exact q.2.1, by rw [u2_k _ _ e, u2_a _ _ (by omega), u2_a _ _ (by omega)]; exact q.2.2⟩
              · rw [Nat.add_comm 1 c]
                refine g_TI_new hTI (by rw [hbi]; exact fun x => absurd (hw.2.2.mpr x) (by assumption)) (fun j hj he hk => ?_)
                obtain rfl : j = c - 1 := by omega
                have h9 := hTI.2.1 (c - 1) (by omega)
                have hbs : g_bt B N (S (c - 1)) = B (S (c - 1)) := if_pos (by omega)
                have hws := g_srt_w (hBr (S (c - 1)))
                rw [hbs, hbi] at hk
                have hk2 : (g_srt (B (S (c - 1))) = 256 ∧ g_srt (B i) = 256) ∨ (g_srt (B (S (c - 1))) = 257 ∧ g_srt (B i) = 257) := hk.elim (fun h => Or.inl ⟨hws.1.mpr h.1, hw.1.mpr h.2⟩) (fun h => Or.inr ⟨hws.2.1.mpr ⟨h.1, h.2.1⟩, hw.2.1.mpr ⟨fun x => by have := h.2.2; omega, h.2.2⟩⟩)
                (try rw [hbs] at c50)
                omega
          · exact absurd c74 (by decide)
        · refine q_aload_n hF 3 rfl rfl dX3_scan_40 ?_
          refine q_getA hF fl_RX3_22 rfl hD.t0 hD.p1 dX3_scan_41 ?_
          refine q_iload_n hF 2 rfl rfl dX3_scan_44 ?_
          refine q_iconst hF dX3_scan_45 ?_
          refine q_isub hF dX3_scan_46 ?_
          refine q_ialoadv hF (z := g_srt (g_bt B N (S (c - 1)))) (n := 601) (c - 1) hD.t1 (by omega) (by omega) (by decide) (htok (c - 1) (by omega)).1 dX3_scan_47 ?_
          refine q_iload hF 0 rfl dX3_scan_48 ?_
          refine q_icmpne hF (by have h9 := hTI.2.1 (c - 1) (by omega); have h8 : S (c - 1) < N := (by omega); rw [show g_bt B N (S (c - 1)) = B (S (c - 1)) from if_pos h8]; have := g_srt_r (hBr (S (c - 1))); omega) (by have := g_srt_r (hBr i); omega) dX3_scan_50 (fun c50 => ?_) (fun c50 => ?_)
          · refine q_iconst hF dX3_scan_69 ?_
            refine q_istore hF (ls' := [(5, qI 0), (4, qI (g_srt (B i))), (3, qI (i : Int)), (2, qI (c : Int)), (0, .ref a), (1, qI (N : Int))]) (by decide) rfl dX3_scan_70 ?_
            refine q_iload hF 0 rfl dX3_scan_72 ?_
            refine q_ifeq hF (by decide) dX3_scan_74 (fun c74 => ?_) (fun c74 => ?_)
            · refine q_iload hF 1 rfl dX3_scan_91 ?_
              refine q_bipush hF (n := 32) rfl dX3_scan_93 ?_
              refine q_icmpeq hF (by have := g_srt_r (hBr i); omega) (by decide) dX3_scan_95 (fun c95 => ?_) (fun c95 => ?_)
              · refine q_iinc hF (z' := ((1 + i : Nat) : Int)) (ls' := [(3, qI ((1 + i : Nat) : Int)), (5, qI 0), (4, qI (g_srt (B i))), (2, qI (c : Int)), (0, .ref a), (1, qI (N : Int))]) 2 rfl (by first | rfl | omega) (by decide) rfl dX3_scan_125 ?_
                refine q_goto hF dX3_scan_128 ?_
                refine q_sub [0, 3, 4, 5] rfl ?_
                have hbi : g_bt B N i = B i := if_pos (by omega)
                have hw := g_srt_w (hBr i)
                exact ih c (1 + i) S E M9 (by omega) (by omega) hfr htok (g_TI_blank hTI (by rw [hbi]; exact hw.2.2.mp (by assumption)))
              · refine q_aload_n hF 4 rfl rfl dX3_scan_98 ?_
                refine q_getA hF fl_RX3_22 rfl hD.t0 hD.p1 dX3_scan_99 ?_
                refine q_iload_n hF 3 rfl rfl dX3_scan_102 ?_
                refine q_iload hF 1 rfl dX3_scan_103 ?_
                refine q_iastorev hF (n := 601) c hD.t1 (q_Ale hA (by omega)) rfl (by omega) (by decide) dX3_scan_105 ?_
                refine q_aload_n hF 4 rfl rfl dX3_scan_106 ?_
                refine q_getA hF fl_RX3_25 rfl hD.t0 hD.p2 dX3_scan_107 ?_
                refine q_iload_n hF 3 rfl rfl dX3_scan_110 ?_
                refine q_iload_n hF 2 rfl rfl dX3_scan_111 ?_
                refine q_iastorev hF (n := 601) c hD.t2 (q_Ale hA (by omega)) rfl (by omega) (by decide) dX3_scan_112 ?_
                refine q_aload_n hF 4 rfl rfl dX3_scan_113 ?_
                refine q_getA hF fl_RX3_28 rfl hD.t0 hD.p3 dX3_scan_114 ?_
                refine q_iload_n hF 3 rfl rfl dX3_scan_117 ?_
                refine q_iload_n hF 2 rfl rfl dX3_scan_118 ?_
                refine q_iconst hF dX3_scan_119 ?_
                refine q_iadd hF dX3_scan_120 ?_
                refine q_iastorev hF (n := 601) c hD.t3 (q_Ale hA (by omega)) rfl (by omega) (by decide) dX3_scan_121 ?_
                refine q_iinc hF (z' := ((1 + c : Nat) : Int)) (ls' := [(2, qI ((1 + c : Nat) : Int)), (5, qI 0), (4, qI (g_srt (B i))), (3, qI (i : Int)), (0, .ref a), (1, qI (N : Int))]) 3 rfl (by first | rfl | omega) (by decide) rfl dX3_scan_122 ?_
                refine q_iinc hF (z' := ((1 + i : Nat) : Int)) (ls' := [(3, qI ((1 + i : Nat) : Int)), (2, qI ((1 + c : Nat) : Int)), (5, qI 0), (4, qI (g_srt (B i))), (0, .ref a), (1, qI (N : Int))]) 3 rfl (by first | rfl | omega) (by decide) rfl dX3_scan_125 ?_
                refine q_goto hF dX3_scan_128 ?_
                refine q_sub [0, 1, 4, 5] rfl ?_
                have hbi : g_bt B N i = B i := if_pos (by omega)
                have hw := g_srt_w (hBr i)
                refine ih (1 + c) (1 + i) (fun j => if j = c then i else S j) (fun j => if j = c then 1 + i else E j) (u2 (u2 (u2 M9 (a + 20) c (g_srt (B i))) (a + 21) c (i : Int)) (a + 22) c ((i : Int) + 1)) (by omega) (by omega) (fun q k h1 h2 h3 => by rw [u2_a _ _ h3, u2_a _ _ h2, u2_a _ _ h1]; exact hfr q k h1 h2 h3) (fun j hj => ?_) ?_
                · by_cases e : j = c
                  · subst e
                    rw [if_pos rfl, if_pos rfl, u2_a _ _ (by omega), u2_a _ _ (by omega), u2_s, u2_a _ _ (by omega), u2_s, u2_s, hbi]
                    exact ⟨rfl, rfl, by omega⟩
                  · have q := htok j (by omega)
                    rw [if_neg e, if_neg e]
                    exact ⟨by rw [u2_a _ _ (by omega), u2_a _ _ (by omega), u2_k _ _ e]; exact q.1, by rw [u2_a _ _ (by omega), u2_k _ _ e, u2_a _ _ (by omega)]; exact q.2.1, by rw [u2_k _ _ e, u2_a _ _ (by omega), u2_a _ _ (by omega)]; exact q.2.2⟩
                · rw [Nat.add_comm 1 c]
                  refine g_TI_new hTI (by rw [hbi]; exact fun x => absurd (hw.2.2.mpr x) (by assumption)) (fun j hj he hk => ?_)
                  obtain rfl : j = c - 1 := by omega
                  have h9 := hTI.2.1 (c - 1) (by omega)
                  have hbs : g_bt B N (S (c - 1)) = B (S (c - 1)) := if_pos (by omega)
                  have hws := g_srt_w (hBr (S (c - 1)))
                  rw [hbs, hbi] at hk
                  have hk2 : (g_srt (B (S (c - 1))) = 256 ∧ g_srt (B i) = 256) ∨ (g_srt (B (S (c - 1))) = 257 ∧ g_srt (B i) = 257) := hk.elim (fun h => Or.inl ⟨hws.1.mpr h.1, hw.1.mpr h.2⟩) (fun h => Or.inr ⟨hws.2.1.mpr ⟨h.1, h.2.1⟩, hw.2.1.mpr ⟨fun x => by have := h.2.2; omega, h.2.2⟩⟩)
                  (try rw [hbs] at c50)
                  omega
            · exact absurd c74 (by decide)
          · refine q_aload_n hF 3 rfl rfl dX3_scan_53 ?_
            refine q_getA hF fl_RX3_28 rfl hD.t0 hD.p3 dX3_scan_54 ?_
            refine q_iload_n hF 2 rfl rfl dX3_scan_57 ?_
            refine q_iconst hF dX3_scan_58 ?_
            refine q_isub hF dX3_scan_59 ?_
            refine q_ialoadv hF (z := (E (c - 1) : Int)) (n := 601) (c - 1) hD.t3 (by omega) (by omega) (by decide) (htok (c - 1) (by omega)).2.2 dX3_scan_60 ?_
            refine q_iload_n hF 1 rfl rfl dX3_scan_61 ?_
            refine q_icmpne hF (by have h9 := hTI.2.1 (c - 1) (by omega); omega) (by omega) dX3_scan_62 (fun c62 => ?_) (fun c62 => ?_)
            · refine q_iconst hF dX3_scan_69 ?_
              refine q_istore hF (ls' := [(5, qI 0), (4, qI (g_srt (B i))), (3, qI (i : Int)), (2, qI (c : Int)), (0, .ref a), (1, qI (N : Int))]) (by decide) rfl dX3_scan_70 ?_
              refine q_iload hF 0 rfl dX3_scan_72 ?_
              refine q_ifeq hF (by decide) dX3_scan_74 (fun c74 => ?_) (fun c74 => ?_)
              · refine q_iload hF 1 rfl dX3_scan_91 ?_
                refine q_bipush hF (n := 32) rfl dX3_scan_93 ?_
                refine q_icmpeq hF (by have := g_srt_r (hBr i); omega) (by decide) dX3_scan_95 (fun c95 => ?_) (fun c95 => ?_)
                · refine q_iinc hF (z' := ((1 + i : Nat) : Int)) (ls' := [(3, qI ((1 + i : Nat) : Int)), (5, qI 0), (4, qI (g_srt (B i))), (2, qI (c : Int)), (0, .ref a), (1, qI (N : Int))]) 2 rfl (by first | rfl | omega) (by decide) rfl dX3_scan_125 ?_
                  refine q_goto hF dX3_scan_128 ?_
                  refine q_sub [0, 3, 4, 5] rfl ?_
                  have hbi : g_bt B N i = B i := if_pos (by omega)
                  have hw := g_srt_w (hBr i)
                  exact ih c (1 + i) S E M9 (by omega) (by omega) hfr htok (g_TI_blank hTI (by rw [hbi]; exact hw.2.2.mp (by assumption)))
                · refine q_aload_n hF 4 rfl rfl dX3_scan_98 ?_
                  refine q_getA hF fl_RX3_22 rfl hD.t0 hD.p1 dX3_scan_99 ?_
                  refine q_iload_n hF 3 rfl rfl dX3_scan_102 ?_
                  refine q_iload hF 1 rfl dX3_scan_103 ?_
                  refine q_iastorev hF (n := 601) c hD.t1 (q_Ale hA (by omega)) rfl (by omega) (by decide) dX3_scan_105 ?_
                  refine q_aload_n hF 4 rfl rfl dX3_scan_106 ?_
                  refine q_getA hF fl_RX3_25 rfl hD.t0 hD.p2 dX3_scan_107 ?_
                  refine q_iload_n hF 3 rfl rfl dX3_scan_110 ?_
                  refine q_iload_n hF 2 rfl rfl dX3_scan_111 ?_
                  refine q_iastorev hF (n := 601) c hD.t2 (q_Ale hA (by omega)) rfl (by omega) (by decide) dX3_scan_112 ?_
                  refine q_aload_n hF 4 rfl rfl dX3_scan_113 ?_
                  refine q_getA hF fl_RX3_28 rfl hD.t0 hD.p3 dX3_scan_114 ?_
                  refine q_iload_n hF 3 rfl rfl dX3_scan_117 ?_
                  refine q_iload_n hF 2 rfl rfl dX3_scan_118 ?_
                  refine q_iconst hF dX3_scan_119 ?_
                  refine q_iadd hF dX3_scan_120 ?_
                  refine q_iastorev hF (n := 601) c hD.t3 (q_Ale hA (by omega)) rfl (by omega) (by decide) dX3_scan_121 ?_
                  refine q_iinc hF (z' := ((1 + c : Nat) : Int)) (ls' := [(2, qI ((1 + c : Nat) : Int)), (5, qI 0), (4, qI (g_srt (B i))), (3, qI (i : Int)), (0, .ref a), (1, qI (N : Int))]) 3 rfl (by first | rfl | omega) (by decide) rfl dX3_scan_122 ?_
                  refine q_iinc hF (z' := ((1 + i : Nat) : Int)) (ls' := [(3, qI ((1 + i : Nat) : Int)), (2, qI ((1 + c : Nat) : Int)), (5, qI 0), (4, qI (g_srt (B i))), (0, .ref a), (1, qI (N : Int))]) 3 rfl (by first | rfl | omega) (by decide) rfl dX3_scan_125 ?_
                  refine q_goto hF dX3_scan_128 ?_
                  refine q_sub [0, 1, 4, 5] rfl ?_
                  have hbi : g_bt B N i = B i := if_pos (by omega)
                  have hw := g_srt_w (hBr i)
                  refine ih (1 + c) (1 + i) (fun j => if j = c then i else S j) (fun j => if j = c then 1 + i else E j) (u2 (u2 (u2 M9 (a + 20) c (g_srt (B i))) (a + 21) c (i : Int)) (a + 22) c ((i : Int) + 1)) (by omega) (by omega) (fun q k h1 h2 h3 => by rw [u2_a _ _ h3, u2_a _ _ h2, u2_a _ _ h1]; exact hfr q k h1 h2 h3) (fun j hj => ?_) ?_
                  · by_cases e : j = c
                    · subst e
                      rw [if_pos rfl, if_pos rfl, u2_a _ _ (by omega), u2_a _ _ (by omega), u2_s, u2_a _ _ (by omega), u2_s, u2_s, hbi]
                      exact ⟨rfl, rfl, by omega⟩
                    · have q := htok j (by omega)
                      rw [if_neg e, if_neg e]
                      exact ⟨by rw [u2_a _ _ (by omega), u2_a _ _ (by omega), u2_k _ _ e]; exact q.1, by rw [u2_a _ _ (by omega), u2_k _ _ e, u2_a _ _ (by omega)]; exact q.2.1, by rw [u2_k _ _ e, u2_a _ _ (by omega), u2_a _ _ (by omega)]; exact q.2.2⟩
                  · rw [Nat.add_comm 1 c]
                    refine g_TI_new hTI (by rw [hbi]; exact fun x => absurd (hw.2.2.mpr x) (by assumption)) (fun j hj he hk => ?_)
                    obtain rfl : j = c - 1 := by omega
                    have h9 := hTI.2.1 (c - 1) (by omega)
                    have hbs : g_bt B N (S (c - 1)) = B (S (c - 1)) := if_pos (by omega)
                    have hws := g_srt_w (hBr (S (c - 1)))
                    rw [hbs, hbi] at hk
                    have hk2 : (g_srt (B (S (c - 1))) = 256 ∧ g_srt (B i) = 256) ∨ (g_srt (B (S (c - 1))) = 257 ∧ g_srt (B i) = 257) := hk.elim (fun h => Or.inl ⟨hws.1.mpr h.1, hw.1.mpr h.2⟩) (fun h => Or.inr ⟨hws.2.1.mpr ⟨h.1, h.2.1⟩, hw.2.1.mpr ⟨fun x => by have := h.2.2; omega, h.2.2⟩⟩)
                    (try rw [hbs] at c50)
                    omega
              · exact absurd c74 (by decide)
            · refine q_iconst hF dX3_scan_65 ?_
              refine q_goto hF dX3_scan_66 ?_
              refine q_istore hF (ls' := [(5, qI 1), (4, qI (g_srt (B i))), (3, qI (i : Int)), (2, qI (c : Int)), (0, .ref a), (1, qI (N : Int))]) (by decide) rfl dX3_scan_70 ?_
              refine q_iload hF 0 rfl dX3_scan_72 ?_
              refine q_ifeq hF (by decide) dX3_scan_74 (fun c74 => ?_) (fun c74 => ?_)
              · exact absurd c74 (by decide)
              · refine q_aload_n hF 4 rfl rfl dX3_scan_77 ?_
                refine q_getA hF fl_RX3_28 rfl hD.t0 hD.p3 dX3_scan_78 ?_
                refine q_iload_n hF 3 rfl rfl dX3_scan_81 ?_
                refine q_iconst hF dX3_scan_82 ?_
                refine q_isub hF dX3_scan_83 ?_
                refine q_iload_n hF 2 rfl rfl dX3_scan_84 ?_
                refine q_iconst hF dX3_scan_85 ?_
                refine q_iadd hF dX3_scan_86 ?_
                refine q_iastorev hF (n := 601) (c - 1) hD.t3 (q_Ale hA (by omega)) (by omega) (by omega) (by decide) dX3_scan_87 ?_
                refine q_goto hF dX3_scan_88 ?_
                refine q_iinc hF (z' := ((1 + i : Nat) : Int)) (ls' := [(3, qI ((1 + i : Nat) : Int)), (5, qI 1), (4, qI (g_srt (B i))), (2, qI (c : Int)), (0, .ref a), (1, qI (N : Int))]) 2 rfl (by first | rfl | omega) (by decide) rfl dX3_scan_125 ?_
                refine q_goto hF dX3_scan_128 ?_
                refine q_sub [0, 3, 4, 5] rfl ?_
                have hbi : g_bt B N i = B i := if_pos (by omega)
                have hw := g_srt_w (hBr i)
                have h9 := hTI.2.1 (c - 1) (by omega)
                have hbs : g_bt B N (S (c - 1)) = B (S (c - 1)) := if_pos (by omega)
                have hws := g_srt_w (hBr (S (c - 1)))
                rw [hbs] at c50
                refine ih c (1 + i) S (fun j => if j = c - 1 then 1 + i else E j) (u2 M9 (a + 22) (c - 1) ((i : Int) + 1)) (by omega) (by omega) (fun q k h1 h2 h3 => (u2_a _ _ h3).trans (hfr q k h1 h2 h3)) (fun j hj => ?_) ?_
                · have q := htok j hj
                  refine ⟨(u2_a _ _ (by omega)).trans q.1, (u2_a _ _ (by omega)).trans q.2.1, ?_⟩
                  by_cases e : j = c - 1
                  · subst e; rw [u2_s, if_pos rfl]; omega
                  · rw [u2_k _ _ e, if_neg e]; exact q.2.2
                · have q := g_TI_more (c := c - 1) (by rw [show c - 1 + 1 = c by omega]; exact hTI) (by omega) (by rw [hbs, hbi]; first | exact Or.inl ⟨hws.1.mp (by omega), hw.1.mp (by omega)⟩ | exact Or.inr ⟨(hws.2.1.mp (by omega)).1, (hws.2.1.mp (by omega)).2, (hw.2.1.mp (by omega)).2⟩)
                  rw [show c - 1 + 1 = c by omega] at q
                  exact q
      · refine q_iload hF 0 rfl dX3_scan_28 ?_
        refine q_sipush hF (n := 257) rfl dX3_scan_30 ?_
        refine q_icmpne hF (by have := g_srt_r (hBr i); omega) (by decide) dX3_scan_33 (fun c33 => ?_) (fun c33 => ?_)
        · refine q_iconst hF dX3_scan_69 ?_
          refine q_istore hF (ls' := [(5, qI 0), (4, qI (g_srt (B i))), (3, qI (i : Int)), (2, qI (c : Int)), (0, .ref a), (1, qI (N : Int))]) (by decide) rfl dX3_scan_70 ?_
          refine q_iload hF 0 rfl dX3_scan_72 ?_
          refine q_ifeq hF (by decide) dX3_scan_74 (fun c74 => ?_) (fun c74 => ?_)
          · refine q_iload hF 1 rfl dX3_scan_91 ?_
            refine q_bipush hF (n := 32) rfl dX3_scan_93 ?_
            refine q_icmpeq hF (by have := g_srt_r (hBr i); omega) (by decide) dX3_scan_95 (fun c95 => ?_) (fun c95 => ?_)
            · refine q_iinc hF (z' := ((1 + i : Nat) : Int)) (ls' := [(3, qI ((1 + i : Nat) : Int)), (5, qI 0), (4, qI (g_srt (B i))), (2, qI (c : Int)), (0, .ref a), (1, qI (N : Int))]) 2 rfl (by first | rfl | omega) (by decide) rfl dX3_scan_125 ?_
              refine q_goto hF dX3_scan_128 ?_
              refine q_sub [0, 3, 4, 5] rfl ?_
              have hbi : g_bt B N i = B i := if_pos (by omega)
              have hw := g_srt_w (hBr i)
              exact ih c (1 + i) S E M9 (by omega) (by omega) hfr htok (g_TI_blank hTI (by rw [hbi]; exact hw.2.2.mp (by assumption)))
            · refine q_aload_n hF 4 rfl rfl dX3_scan_98 ?_
              refine q_getA hF fl_RX3_22 rfl hD.t0 hD.p1 dX3_scan_99 ?_
              refine q_iload_n hF 3 rfl rfl dX3_scan_102 ?_
              refine q_iload hF 1 rfl dX3_scan_103 ?_
              refine q_iastorev hF (n := 601) c hD.t1 (q_Ale hA (by omega)) rfl (by omega) (by decide) dX3_scan_105 ?_
              refine q_aload_n hF 4 rfl rfl dX3_scan_106 ?_
              refine q_getA hF fl_RX3_25 rfl hD.t0 hD.p2 dX3_scan_107 ?_
              refine q_iload_n hF 3 rfl rfl dX3_scan_110 ?_
              refine q_iload_n hF 2 rfl rfl dX3_scan_111 ?_
              refine q_iastorev hF (n := 601) c hD.t2 (q_Ale hA (by omega)) rfl (by omega) (by decide) dX3_scan_112 ?_
              refine q_aload_n hF 4 rfl rfl dX3_scan_113 ?_
              refine q_getA hF fl_RX3_28 rfl hD.t0 hD.p3 dX3_scan_114 ?_
              refine q_iload_n hF 3 rfl rfl dX3_scan_117 ?_
              refine q_iload_n hF 2 rfl rfl dX3_scan_118 ?_
              refine q_iconst hF dX3_scan_119 ?_
              refine q_iadd hF dX3_scan_120 ?_
              refine q_iastorev hF (n := 601) c hD.t3 (q_Ale hA (by omega)) rfl (by omega) (by decide) dX3_scan_121 ?_
              refine q_iinc hF (z' := ((1 + c : Nat) : Int)) (ls' := [(2, qI ((1 + c : Nat) : Int)), (5, qI 0), (4, qI (g_srt (B i))), (3, qI (i : Int)), (0, .ref a), (1, qI (N : Int))]) 3 rfl (by first | rfl | omega) (by decide) rfl dX3_scan_122 ?_
              refine q_iinc hF (z' := ((1 + i : Nat) : Int)) (ls' := [(3, qI ((1 + i : Nat) : Int)), (2, qI ((1 + c : Nat) : Int)), (5, qI 0), (4, qI (g_srt (B i))), (0, .ref a), (1, qI (N : Int))]) 3 rfl (by first | rfl | omega) (by decide) rfl dX3_scan_125 ?_
              refine q_goto hF dX3_scan_128 ?_
              refine q_sub [0, 1, 4, 5] rfl ?_
              have hbi : g_bt B N i = B i := if_pos (by omega)
              have hw := g_srt_w (hBr i)
              refine ih (1 + c) (1 + i) (fun j => if j = c then i else S j) (fun j => if j = c then 1 + i else E j) (u2 (u2 (u2 M9 (a + 20) c (g_srt (B i))) (a + 21) c (i : Int)) (a + 22) c ((i : Int) + 1)) (by omega) (by omega) (fun q k h1 h2 h3 => by rw [u2_a _ _ h3, u2_a _ _ h2, u2_a _ _ h1]; exact hfr q k h1 h2 h3) (fun j hj => ?_) ?_
              · by_cases e : j = c
                · subst e
                  rw [if_pos rfl, if_pos rfl, u2_a _ _ (by omega), u2_a _ _ (by omega), u2_s, u2_a _ _ (by omega), u2_s, u2_s, hbi]
                  exact ⟨rfl, rfl, by omega⟩
                · have q := htok j (by omega)
                  rw [if_neg e, if_neg e]
                  exact ⟨by rw [u2_a _ _ (by omega), u2_a _ _ (by omega), u2_k _ _ e]; exact q.1, by rw [u2_a _ _ (by omega), u2_k _ _ e, u2_a _ _ (by omega)]; exact q.2.1, by rw [u2_k _ _ e, u2_a _ _ (by omega), u2_a _ _ (by omega)]; exact q.2.2⟩
              · rw [Nat.add_comm 1 c]
                refine g_TI_new hTI (by rw [hbi]; exact fun x => absurd (hw.2.2.mpr x) (by assumption)) (fun j hj he hk => ?_)
                obtain rfl : j = c - 1 := by omega
                have h9 := hTI.2.1 (c - 1) (by omega)
                have hbs : g_bt B N (S (c - 1)) = B (S (c - 1)) := if_pos (by omega)
                have hws := g_srt_w (hBr (S (c - 1)))
                rw [hbs, hbi] at hk
                have hk2 : (g_srt (B (S (c - 1))) = 256 ∧ g_srt (B i) = 256) ∨ (g_srt (B (S (c - 1))) = 257 ∧ g_srt (B i) = 257) := hk.elim (fun h => Or.inl ⟨hws.1.mpr h.1, hw.1.mpr h.2⟩) (fun h => Or.inr ⟨hws.2.1.mpr ⟨h.1, h.2.1⟩, hw.2.1.mpr ⟨fun x => by have := h.2.2; omega, h.2.2⟩⟩)
                (try rw [hbs] at c50)
                omega
          · exact absurd c74 (by decide)
        · refine q_iload_n hF 2 rfl rfl dX3_scan_36 ?_
          refine q_ifle hF (by omega) dX3_scan_37 (fun c37 => ?_) (fun c37 => ?_)
          · refine q_iconst hF dX3_scan_69 ?_
            refine q_istore hF (ls' := [(5, qI 0), (4, qI (g_srt (B i))), (3, qI (i : Int)), (2, qI (c : Int)), (0, .ref a), (1, qI (N : Int))]) (by decide) rfl dX3_scan_70 ?_
            refine q_iload hF 0 rfl dX3_scan_72 ?_
            refine q_ifeq hF (by decide) dX3_scan_74 (fun c74 => ?_) (fun c74 => ?_)
            · refine q_iload hF 1 rfl dX3_scan_91 ?_
              refine q_bipush hF (n := 32) rfl dX3_scan_93 ?_
              refine q_icmpeq hF (by have := g_srt_r (hBr i); omega) (by decide) dX3_scan_95 (fun c95 => ?_) (fun c95 => ?_)
              · refine q_iinc hF (z' := ((1 + i : Nat) : Int)) (ls' := [(3, qI ((1 + i : Nat) : Int)), (5, qI 0), (4, qI (g_srt (B i))), (2, qI (c : Int)), (0, .ref a), (1, qI (N : Int))]) 2 rfl (by first | rfl | omega) (by decide) rfl dX3_scan_125 ?_
                refine q_goto hF dX3_scan_128 ?_
                refine q_sub [0, 3, 4, 5] rfl ?_
                have hbi : g_bt B N i = B i := if_pos (by omega)
                have hw := g_srt_w (hBr i)
                exact ih c (1 + i) S E M9 (by omega) (by omega) hfr htok (g_TI_blank hTI (by rw [hbi]; exact hw.2.2.mp (by assumption)))
              · refine q_aload_n hF 4 rfl rfl dX3_scan_98 ?_
                refine q_getA hF fl_RX3_22 rfl hD.t0 hD.p1 dX3_scan_99 ?_
                refine q_iload_n hF 3 rfl rfl dX3_scan_102 ?_
                refine q_iload hF 1 rfl dX3_scan_103 ?_
                refine q_iastorev hF (n := 601) c hD.t1 (q_Ale hA (by omega)) rfl (by omega) (by decide) dX3_scan_105 ?_
                refine q_aload_n hF 4 rfl rfl dX3_scan_106 ?_
                refine q_getA hF fl_RX3_25 rfl hD.t0 hD.p2 dX3_scan_107 ?_
                refine q_iload_n hF 3 rfl rfl dX3_scan_110 ?_
                refine q_iload_n hF 2 rfl rfl dX3_scan_111 ?_
                refine q_iastorev hF (n := 601) c hD.t2 (q_Ale hA (by omega)) rfl (by omega) (by decide) dX3_scan_112 ?_
                refine q_aload_n hF 4 rfl rfl dX3_scan_113 ?_
                refine q_getA hF fl_RX3_28 rfl hD.t0 hD.p3 dX3_scan_114 ?_
                refine q_iload_n hF 3 rfl rfl dX3_scan_117 ?_
                refine q_iload_n hF 2 rfl rfl dX3_scan_118 ?_
                refine q_iconst hF dX3_scan_119 ?_
                refine q_iadd hF dX3_scan_120 ?_
                refine q_iastorev hF (n := 601) c hD.t3 (q_Ale hA (by omega)) rfl (by omega) (by decide) dX3_scan_121 ?_
                refine q_iinc hF (z' := ((1 + c : Nat) : Int)) (ls' := [(2, qI ((1 + c : Nat) : Int)), (5, qI 0), (4, qI (g_srt (B i))), (3, qI (i : Int)), (0, .ref a), (1, qI (N : Int))]) 3 rfl (by first | rfl | omega) (by decide) rfl dX3_scan_122 ?_
                refine q_iinc hF (z' := ((1 + i : Nat) : Int)) (ls' := [(3, qI ((1 + i : Nat) : Int)), (2, qI ((1 + c : Nat) : Int)), (5, qI 0), (4, qI (g_srt (B i))), (0, .ref a), (1, qI (N : Int))]) 3 rfl (by first | rfl | omega) (by decide) rfl dX3_scan_125 ?_
                refine q_goto hF dX3_scan_128 ?_
                refine q_sub [0, 1, 4, 5] rfl ?_
                have hbi : g_bt B N i = B i := if_pos (by omega)
                have hw := g_srt_w (hBr i)
                refine ih (1 + c) (1 + i) (fun j => if j = c then i else S j) (fun j => if j = c then 1 + i else E j) (u2 (u2 (u2 M9 (a + 20) c (g_srt (B i))) (a + 21) c (i : Int)) (a + 22) c ((i : Int) + 1)) (by omega) (by omega) (fun q k h1 h2 h3 => by rw [u2_a _ _ h3, u2_a _ _ h2, u2_a _ _ h1]; exact hfr q k h1 h2 h3) (fun j hj => ?_) ?_
                · by_cases e : j = c
                  · subst e
                    rw [if_pos rfl, if_pos rfl, u2_a _ _ (by omega), u2_a _ _ (by omega), u2_s, u2_a _ _ (by omega), u2_s, u2_s, hbi]
                    exact ⟨rfl, rfl, by omega⟩
                  · have q := htok j (by omega)
                    rw [if_neg e, if_neg e]
                    exact ⟨by rw [u2_a _ _ (by omega), u2_a _ _ (by omega), u2_k _ _ e]; exact q.1, by rw [u2_a _ _ (by omega), u2_k _ _ e, u2_a _ _ (by omega)]; exact q.2.1, by rw [u2_k _ _ e, u2_a _ _ (by omega), u2_a _ _ (by omega)]; exact q.2.2⟩
                · rw [Nat.add_comm 1 c]
                  refine g_TI_new hTI (by rw [hbi]; exact fun x => absurd (hw.2.2.mpr x) (by assumption)) (fun j hj he hk => ?_)
                  obtain rfl : j = c - 1 := by omega
                  have h9 := hTI.2.1 (c - 1) (by omega)
                  have hbs : g_bt B N (S (c - 1)) = B (S (c - 1)) := if_pos (by omega)
                  have hws := g_srt_w (hBr (S (c - 1)))
                  rw [hbs, hbi] at hk
                  have hk2 : (g_srt (B (S (c - 1))) = 256 ∧ g_srt (B i) = 256) ∨ (g_srt (B (S (c - 1))) = 257 ∧ g_srt (B i) = 257) := hk.elim (fun h => Or.inl ⟨hws.1.mpr h.1, hw.1.mpr h.2⟩) (fun h => Or.inr ⟨hws.2.1.mpr ⟨h.1, h.2.1⟩, hw.2.1.mpr ⟨fun x => by have := h.2.2; omega, h.2.2⟩⟩)
                  (try rw [hbs] at c50)
                  omega
            · exact absurd c74 (by decide)
          · refine q_aload_n hF 3 rfl rfl dX3_scan_40 ?_
            refine q_getA hF fl_RX3_22 rfl hD.t0 hD.p1 dX3_scan_41 ?_
            refine q_iload_n hF 2 rfl rfl dX3_scan_44 ?_
            refine q_iconst hF dX3_scan_45 ?_
            refine q_isub hF dX3_scan_46 ?_
            refine q_ialoadv hF (z := g_srt (g_bt B N (S (c - 1)))) (n := 601) (c - 1) hD.t1 (by omega) (by omega) (by decide) (htok (c - 1) (by omega)).1 dX3_scan_47 ?_
            refine q_iload hF 0 rfl dX3_scan_48 ?_
            refine q_icmpne hF (by have h9 := hTI.2.1 (c - 1) (by omega); have h8 : S (c - 1) < N := (by omega); rw [show g_bt B N (S (c - 1)) = B (S (c - 1)) from if_pos h8]; have := g_srt_r (hBr (S (c - 1))); omega) (by have := g_srt_r (hBr i); omega) dX3_scan_50 (fun c50 => ?_) (fun c50 => ?_)
            · refine q_iconst hF dX3_scan_69 ?_
              refine q_istore hF (ls' := [(5, qI 0), (4, qI (g_srt (B i))), (3, qI (i : Int)), (2, qI (c : Int)), (0, .ref a), (1, qI (N : Int))]) (by decide) rfl dX3_scan_70 ?_
              refine q_iload hF 0 rfl dX3_scan_72 ?_
              refine q_ifeq hF (by decide) dX3_scan_74 (fun c74 => ?_) (fun c74 => ?_)
              · refine q_iload hF 1 rfl dX3_scan_91 ?_
                refine q_bipush hF (n := 32) rfl dX3_scan_93 ?_
                refine q_icmpeq hF (by have := g_srt_r (hBr i); omega) (by decide) dX3_scan_95 (fun c95 => ?_) (fun c95 => ?_)
                · refine q_iinc hF (z' := ((1 + i : Nat) : Int)) (ls' := [(3, qI ((1 + i : Nat) : Int)), (5, qI 0), (4, qI (g_srt (B i))), (2, qI (c : Int)), (0, .ref a), (1, qI (N : Int))]) 2 rfl (by first | rfl | omega) (by decide) rfl dX3_scan_125 ?_
                  refine q_goto hF dX3_scan_128 ?_
                  refine q_sub [0, 3, 4, 5] rfl ?_
                  have hbi : g_bt B N i = B i := if_pos (by omega)
                  have hw := g_srt_w (hBr i)
                  exact ih c (1 + i) S E M9 (by omega) (by omega) hfr htok (g_TI_blank hTI (by rw [hbi]; exact hw.2.2.mp (by assumption)))
                · refine q_aload_n hF 4 rfl rfl dX3_scan_98 ?_
                  refine q_getA hF fl_RX3_22 rfl hD.t0 hD.p1 dX3_scan_99 ?_
                  refine q_iload_n hF 3 rfl rfl dX3_scan_102 ?_
                  refine q_iload hF 1 rfl dX3_scan_103 ?_
                  refine q_iastorev hF (n := 601) c hD.t1 (q_Ale hA (by omega)) rfl (by omega) (by decide) dX3_scan_105 ?_
                  refine q_aload_n hF 4 rfl rfl dX3_scan_106 ?_
                  refine q_getA hF fl_RX3_25 rfl hD.t0 hD.p2 dX3_scan_107 ?_
                  refine q_iload_n hF 3 rfl rfl dX3_scan_110 ?_
                  refine q_iload_n hF 2 rfl rfl dX3_scan_111 ?_
                  refine q_iastorev hF (n := 601) c hD.t2 (q_Ale hA (by omega)) rfl (by omega) (by decide) dX3_scan_112 ?_
                  refine q_aload_n hF 4 rfl rfl dX3_scan_113 ?_
                  refine q_getA hF fl_RX3_28 rfl hD.t0 hD.p3 dX3_scan_114 ?_
                  refine q_iload_n hF 3 rfl rfl dX3_scan_117 ?_
                  refine q_iload_n hF 2 rfl rfl dX3_scan_118 ?_
                  refine q_iconst hF dX3_scan_119 ?_
                  refine q_iadd hF dX3_scan_120 ?_
                  refine q_iastorev hF (n := 601) c hD.t3 (q_Ale hA (by omega)) rfl (by omega) (by decide) dX3_scan_121 ?_
                  refine q_iinc hF (z' := ((1 + c : Nat) : Int)) (ls' := [(2, qI ((1 + c : Nat) : Int)), (5, qI 0), (4, qI (g_srt (B i))), (3, qI (i : Int)), (0, .ref a), (1, qI (N : Int))]) 3 rfl (by first | rfl | omega) (by decide) rfl dX3_scan_122 ?_
                  refine q_iinc hF (z' := ((1 + i : Nat) : Int)) (ls' := [(3, qI ((1 + i : Nat) : Int)), (2, qI ((1 + c : Nat) : Int)), (5, qI 0), (4, qI (g_srt (B i))), (0, .ref a), (1, qI (N : Int))]) 3 rfl (by first | rfl | omega) (by decide) rfl dX3_scan_125 ?_
                  refine q_goto hF dX3_scan_128 ?_
                  refine q_sub [0, 1, 4, 5] rfl ?_
                  have hbi : g_bt B N i = B i := if_pos (by omega)
                  have hw := g_srt_w (hBr i)
                  refine ih (1 + c) (1 + i) (fun j => if j = c then i else S j) (fun j => if j = c then 1 + i else E j) (u2 (u2 (u2 M9 (a + 20) c (g_srt (B i))) (a + 21) c (i : Int)) (a + 22) c ((i : Int) + 1)) (by omega) (by omega) (fun q k h1 h2 h3 => by rw [u2_a _ _ h3, u2_a _ _ h2, u2_a _ _ h1]; exact hfr q k h1 h2 h3) (fun j hj => ?_) ?_
                  · by_cases e : j = c
                    · subst e
                      rw [if_pos rfl, if_pos rfl, u2_a _ _ (by omega), u2_a _ _ (by omega), u2_s, u2_a _ _ (by omega), u2_s, u2_s, hbi]
                      exact ⟨rfl, rfl, by omega⟩
                    · have q := htok j (by omega)
                      rw [if_neg e, if_neg e]
                      exact ⟨by rw [u2_a _ _ (by omega), u2_a _ _ (by omega), u2_k _ _ e]; exact q.1, by rw [u2_a _ _ (by omega), u2_k _ _ e, u2_a _ _ (by omega)]; exact q.2.1, by rw [u2_k _ _ e, u2_a _ _ (by omega), u2_a _ _ (by omega)]; exact q.2.2⟩
                  · rw [Nat.add_comm 1 c]
                    refine g_TI_new hTI (by rw [hbi]; exact fun x => absurd (hw.2.2.mpr x) (by assumption)) (fun j hj he hk => ?_)
                    obtain rfl : j = c - 1 := by omega
                    have h9 := hTI.2.1 (c - 1) (by omega)
                    have hbs : g_bt B N (S (c - 1)) = B (S (c - 1)) := if_pos (by omega)
                    have hws := g_srt_w (hBr (S (c - 1)))
                    rw [hbs, hbi] at hk
                    have hk2 : (g_srt (B (S (c - 1))) = 256 ∧ g_srt (B i) = 256) ∨ (g_srt (B (S (c - 1))) = 257 ∧ g_srt (B i) = 257) := hk.elim (fun h => Or.inl ⟨hws.1.mpr h.1, hw.1.mpr h.2⟩) (fun h => Or.inr ⟨hws.2.1.mpr ⟨h.1, h.2.1⟩, hw.2.1.mpr ⟨fun x => by have := h.2.2; omega, h.2.2⟩⟩)
                    (try rw [hbs] at c50)
                    omega
              · exact absurd c74 (by decide)
            · refine q_aload_n hF 3 rfl rfl dX3_scan_53 ?_
              refine q_getA hF fl_RX3_28 rfl hD.t0 hD.p3 dX3_scan_54 ?_
              refine q_iload_n hF 2 rfl rfl dX3_scan_57 ?_
              refine q_iconst hF dX3_scan_58 ?_
              refine q_isub hF dX3_scan_59 ?_
              refine q_ialoadv hF (z := (E (c - 1) : Int)) (n := 601) (c - 1) hD.t3 (by omega) (by omega) (by decide) (htok (c - 1) (by omega)).2.2 dX3_scan_60 ?_
              refine q_iload_n hF 1 rfl rfl dX3_scan_61 ?_
              refine q_icmpne hF (by have h9 := hTI.2.1 (c - 1) (by omega); omega) (by omega) dX3_scan_62 (fun c62 => ?_) (fun c62 => ?_)
              · refine q_iconst hF dX3_scan_69 ?_
                refine q_istore hF (ls' := [(5, qI 0), (4, qI (g_srt (B i))), (3, qI (i : Int)), (2, qI (c : Int)), (0, .ref a), (1, qI (N : Int))]) (by decide) rfl dX3_scan_70 ?_
                refine q_iload hF 0 rfl dX3_scan_72 ?_
                refine q_ifeq hF (by decide) dX3_scan_74 (fun c74 => ?_) (fun c74 => ?_)
                · refine q_iload hF 1 rfl dX3_scan_91 ?_
                  refine q_bipush hF (n := 32) rfl dX3_scan_93 ?_
                  refine q_icmpeq hF (by have := g_srt_r (hBr i); omega) (by decide) dX3_scan_95 (fun c95 => ?_) (fun c95 => ?_)
                  · refine q_iinc hF (z' := ((1 + i : Nat) : Int)) (ls' := [(3, qI ((1 + i : Nat) : Int)), (5, qI 0), (4, qI (g_srt (B i))), (2, qI (c : Int)), (0, .ref a), (1, qI (N : Int))]) 2 rfl (by first | rfl | omega) (by decide) rfl dX3_scan_125 ?_
                    refine q_goto hF dX3_scan_128 ?_
                    refine q_sub [0, 3, 4, 5] rfl ?_
                    have hbi : g_bt B N i = B i := if_pos (by omega)
                    have hw := g_srt_w (hBr i)
                    exact ih c (1 + i) S E M9 (by omega) (by omega) hfr htok (g_TI_blank hTI (by rw [hbi]; exact hw.2.2.mp (by assumption)))
                  · refine q_aload_n hF 4 rfl rfl dX3_scan_98 ?_
                    refine q_getA hF fl_RX3_22 rfl hD.t0 hD.p1 dX3_scan_99 ?_
                    refine q_iload_n hF 3 rfl rfl dX3_scan_102 ?_
                    refine q_iload hF 1 rfl dX3_scan_103 ?_
                    refine q_iastorev hF (n := 601) c hD.t1 (q_Ale hA (by omega)) rfl (by omega) (by decide) dX3_scan_105 ?_
                    refine q_aload_n hF 4 rfl rfl dX3_scan_106 ?_
                    refine q_getA hF fl_RX3_25 rfl hD.t0 hD.p2 dX3_scan_107 ?_
                    refine q_iload_n hF 3 rfl rfl dX3_scan_110 ?_
                    refine q_iload_n hF 2 rfl rfl dX3_scan_111 ?_
                    refine q_iastorev hF (n := 601) c hD.t2 (q_Ale hA (by omega)) rfl (by omega) (by decide) dX3_scan_112 ?_
                    refine q_aload_n hF 4 rfl rfl dX3_scan_113 ?_
                    refine q_getA hF fl_RX3_28 rfl hD.t0 hD.p3 dX3_scan_114 ?_
                    refine q_iload_n hF 3 rfl rfl dX3_scan_117 ?_
                    refine q_iload_n hF 2 rfl rfl dX3_scan_118 ?_
                    refine q_iconst hF dX3_scan_119 ?_
                    refine q_iadd hF dX3_scan_120 ?_
                    refine q_iastorev hF (n := 601) c hD.t3 (q_Ale hA (by omega)) rfl (by omega) (by decide) dX3_scan_121 ?_
                    refine q_iinc hF (z' := ((1 + c : Nat) : Int)) (ls' := [(2, qI ((1 + c : Nat) : Int)), (5, qI 0), (4, qI (g_srt (B i))), (3, qI (i : Int)), (0, .ref a), (1, qI (N : Int))]) 3 rfl (by first | rfl | omega) (by decide) rfl dX3_scan_122 ?_
                    refine q_iinc hF (z' := ((1 + i : Nat) : Int)) (ls' := [(3, qI ((1 + i : Nat) : Int)), (2, qI ((1 + c : Nat) : Int)), (5, qI 0), (4, qI (g_srt (B i))), (0, .ref a), (1, qI (N : Int))]) 3 rfl (by first | rfl | omega) (by decide) rfl dX3_scan_125 ?_
                    refine q_goto hF dX3_scan_128 ?_
                    refine q_sub [0, 1, 4, 5] rfl ?_
                    have hbi : g_bt B N i = B i := if_pos (by omega)
                    have hw := g_srt_w (hBr i)
                    refine ih (1 + c) (1 + i) (fun j => if j = c then i else S j) (fun j => if j = c then 1 + i else E j) (u2 (u2 (u2 M9 (a + 20) c (g_srt (B i))) (a + 21) c (i : Int)) (a + 22) c ((i : Int) + 1)) (by omega) (by omega) (fun q k h1 h2 h3 => by rw [u2_a _ _ h3, u2_a _ _ h2, u2_a _ _ h1]; exact hfr q k h1 h2 h3) (fun j hj => ?_) ?_
                    · by_cases e : j = c
                      · subst e
                        rw [if_pos rfl, if_pos rfl, u2_a _ _ (by omega), u2_a _ _ (by omega), u2_s, u2_a _ _ (by omega), u2_s, u2_s, hbi]
                        exact ⟨rfl, rfl, by omega⟩
                      · have q := htok j (by omega)
                        rw [if_neg e, if_neg e]
                        exact ⟨by rw [u2_a _ _ (by omega), u2_a _ _ (by omega), u2_k _ _ e]; exact q.1, by rw [u2_a _ _ (by omega), u2_k _ _ e, u2_a _ _ (by omega)]; exact q.2.1, by rw [u2_k _ _ e, u2_a _ _ (by omega), u2_a _ _ (by omega)]; exact q.2.2⟩
                    · rw [Nat.add_comm 1 c]
                      refine g_TI_new hTI (by rw [hbi]; exact fun x => absurd (hw.2.2.mpr x) (by assumption)) (fun j hj he hk => ?_)
                      obtain rfl : j = c - 1 := by omega
                      have h9 := hTI.2.1 (c - 1) (by omega)
                      have hbs : g_bt B N (S (c - 1)) = B (S (c - 1)) := if_pos (by omega)
                      have hws := g_srt_w (hBr (S (c - 1)))
                      rw [hbs, hbi] at hk
                      have hk2 : (g_srt (B (S (c - 1))) = 256 ∧ g_srt (B i) = 256) ∨ (g_srt (B (S (c - 1))) = 257 ∧ g_srt (B i) = 257) := hk.elim (fun h => Or.inl ⟨hws.1.mpr h.1, hw.1.mpr h.2⟩) (fun h => Or.inr ⟨hws.2.1.mpr ⟨h.1, h.2.1⟩, hw.2.1.mpr ⟨fun x => by have := h.2.2; omega, h.2.2⟩⟩)
                      (try rw [hbs] at c50)
                      omega
                · exact absurd c74 (by decide)
              · refine q_iconst hF dX3_scan_65 ?_
                refine q_goto hF dX3_scan_66 ?_
                refine q_istore hF (ls' := [(5, qI 1), (4, qI (g_srt (B i))), (3, qI (i : Int)), (2, qI (c : Int)), (0, .ref a), (1, qI (N : Int))]) (by decide) rfl dX3_scan_70 ?_
                refine q_iload hF 0 rfl dX3_scan_72 ?_
                refine q_ifeq hF (by decide) dX3_scan_74 (fun c74 => ?_) (fun c74 => ?_)
                · exact absurd c74 (by decide)
                · refine q_aload_n hF 4 rfl rfl dX3_scan_77 ?_
                  refine q_getA hF fl_RX3_28 rfl hD.t0 hD.p3 dX3_scan_78 ?_
                  refine q_iload_n hF 3 rfl rfl dX3_scan_81 ?_
                  refine q_iconst hF dX3_scan_82 ?_
                  refine q_isub hF dX3_scan_83 ?_
                  refine q_iload_n hF 2 rfl rfl dX3_scan_84 ?_
                  refine q_iconst hF dX3_scan_85 ?_
                  refine q_iadd hF dX3_scan_86 ?_
                  refine q_iastorev hF (n := 601) (c - 1) hD.t3 (q_Ale hA (by omega)) (by omega) (by omega) (by decide) dX3_scan_87 ?_
                  refine q_goto hF dX3_scan_88 ?_
                  refine q_iinc hF (z' := ((1 + i : Nat) : Int)) (ls' := [(3, qI ((1 + i : Nat) : Int)), (5, qI 1), (4, qI (g_srt (B i))), (2, qI (c : Int)), (0, .ref a), (1, qI (N : Int))]) 2 rfl (by first | rfl | omega) (by decide) rfl dX3_scan_125 ?_
                  refine q_goto hF dX3_scan_128 ?_
                  refine q_sub [0, 3, 4, 5] rfl ?_
                  have hbi : g_bt B N i = B i := if_pos (by omega)
                  have hw := g_srt_w (hBr i)
                  have h9 := hTI.2.1 (c - 1) (by omega)
                  have hbs : g_bt B N (S (c - 1)) = B (S (c - 1)) := if_pos (by omega)
                  have hws := g_srt_w (hBr (S (c - 1)))
                  rw [hbs] at c50
                  refine ih c (1 + i) S (fun j => if j = c - 1 then 1 + i else E j) (u2 M9 (a + 22) (c - 1) ((i : Int) + 1)) (by omega) (by omega) (fun q k h1 h2 h3 => (u2_a _ _ h3).trans (hfr q k h1 h2 h3)) (fun j hj => ?_) ?_
                  · have q := htok j hj
                    refine ⟨(u2_a _ _ (by omega)).trans q.1, (u2_a _ _ (by omega)).trans q.2.1, ?_⟩
                    by_cases e : j = c - 1
                    · subst e; rw [u2_s, if_pos rfl]; omega
                    · rw [u2_k _ _ e, if_neg e]; exact q.2.2
                  · have q := g_TI_more (c := c - 1) (by rw [show c - 1 + 1 = c by omega]; exact hTI) (by omega) (by rw [hbs, hbi]; first | exact Or.inl ⟨hws.1.mp (by omega), hw.1.mp (by omega)⟩ | exact Or.inr ⟨(hws.2.1.mp (by omega)).1, (hws.2.1.mp (by omega)).2, (hw.2.1.mp (by omega)).2⟩)
                    rw [show c - 1 + 1 = c by omega] at q
                    exact q
