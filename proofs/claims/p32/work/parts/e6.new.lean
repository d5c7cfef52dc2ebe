/-! the law's own bank: a new one -/
def q_ONew (k : Nat) (T : q_T) (I L : q_I) (P : q_P) (T' : q_T) (I' L' : q_I) (P' : q_P) : Prop := (∀ q, q < k + 1 → T' q = T q) ∧ (∀ q j, q < k → I' q j = I q j ∧ L' q j = L q j ∧ P' q j = P q j) ∧ q_OT T' P' k ∧ (T' (k + 14) = some (.inr (0, 3)) ∧ T' (k + 15) = some (.inr (8, 0)) ∧ T' (k + 16) = some (.inr (6, 0))) ∧ (P' k 7 = some (k + 14) ∧ P' k 9 = some (k + 15) ∧ P' k 10 = some (k + 16)) ∧ I' k 4 = 3 ∧ (I' (k + 14) 0 = 0 ∧ I' (k + 14) 1 = 1 ∧ I' (k + 14) 2 = 2) ∧ (∀ q j, k ≤ q → q ≠ k + 14 → (q = k → j ≠ 4) → I' q j = 0) ∧ (∀ q j, k ≤ q → L' q j = 0) ∧ (∀ i j, i < 5 → P' (k + 8 + i) j = none) ∧ q_F0 (k + 20) I' L' P'

set_option maxRecDepth 100000 in
theorem mX10_init {G : q_G} {T : q_T} {I L : q_I} {P : q_P} {Q : q_Q} {k : Nat} (hT : T k = some (.inl 9)) (hA : q_A G k) (hZ : q_F0 k I L P) (k0 : ∀ (T9 : q_T) (I9 L9 : q_I) (P9 : q_P), q_ONew k T I L P T9 I9 L9 P9 → Q (.inl none) (k + 20) T9 I9 L9 P9) : qC G 1 19 80 YX10_init [.ref k] (k + 1) T I L P Q := by
  refine qC_of (by decide +kernel) rfl rfl (Nat.le_of_ble_eq_true rfl) (fun F hF _ _ => ?_)
  refine q_aload_n hF 0 rfl rfl dX10_init_0 ?_
  refine q_objInit hF (q_mem 451 (by decide +kernel) rfl) (q_mem 71 (by decide +kernel) rfl) (q_mem 72 (by decide +kernel) rfl) (Nat.le_of_ble_eq_true rfl) dX10_init_1 ?_
  refine q_aload_n hF 0 rfl rfl dX10_init_4 ?_
  refine q_iconst hF dX10_init_5 ?_
  refine q_iconst hF dX10_init_6 ?_
  refine q_mnew2 hF (s' := k + 7) (kc := 13) (ks := 55) (n := 5) (k := 4) (ty := .int) (t := 6) (t2 := 0) (by decide) (q_mem 452 (by decide +kernel) rfl) q_aO6 (q_mem 124 (by decide +kernel) rfl) rfl rfl (by decide) (by decide) (q_Ale hA (by omega)) (fun q j hq => (hZ _ _ (by omega)).1) (fun q j hq => (hZ _ _ (by omega)).2.1) (fun q j hq => (hZ _ _ (by omega)).2.2) dX10_init_7 rfl ?_
  refine q_putF hF fl_RX10_9 rfl rfl rfl rfl ((q_upTm_n _ (by omega)).trans hT) hA dX10_init_11 ?_
  refine q_aload_n hF 0 rfl rfl dX10_init_14 ?_
  refine q_iconst hF dX10_init_15 ?_
  refine q_iconst hF dX10_init_16 ?_
  refine q_mnew3 hF (s' := k + 13) (kc := 7) (ks := 25) (n := 5) (k := 5) (q_mem 453 (by decide +kernel) rfl) rfl rfl (by decide) (by decide) (q_Ale hA (by omega)) (fun q j hq => (hZ _ _ (by omega)).1) (fun q j hq => (hZ _ _ (by omega)).2.1) (fun q j hq => ((u2_a _ _ (by omega)).trans ((q_upPm_n _ (by omega)).trans (hZ _ _ (by omega)).2.2))) dX10_init_17 rfl ?_
  refine q_putF hF fl_RX10_16 rfl rfl rfl rfl ((q_upTm_n _ (by omega)).trans ((q_upTm_n _ (by omega)).trans hT)) hA dX10_init_21 ?_
  refine q_aload_n hF 0 rfl rfl dX10_init_24 ?_
  refine q_iconst hF dX10_init_25 ?_
  refine q_newaI hF (s' := k + 14) (kc := 6) (ks := 20) (n := 5) (q_mem 124 (by decide +kernel) rfl) (fun j => (hZ _ _ (by omega)).1) (fun j => (hZ _ _ (by omega)).2.1) dX10_init_26 rfl ?_
  refine q_putF hF fl_RX10_19 rfl rfl rfl rfl ((q_upT_n _ _ (by omega)).trans ((q_upTm_n _ (by omega)).trans ((q_upTm_n _ (by omega)).trans hT))) hA dX10_init_28 ?_
  refine q_aload_n hF 0 rfl rfl dX10_init_31 ?_
  refine q_iconst hF dX10_init_32 ?_
  refine q_putI hF fl_RX10_23 ((q_upT_n _ _ (by omega)).trans ((q_upTm_n _ (by omega)).trans ((q_upTm_n _ (by omega)).trans hT))) hA dX10_init_33 ?_
  refine q_aload_n hF 0 rfl rfl dX10_init_36 ?_
  refine q_iconst hF dX10_init_37 ?_
  refine q_newaI hF (s' := k + 15) (kc := 5) (ks := 17) (n := 3) (q_mem 124 (by decide +kernel) rfl) (fun j => ((u2_a _ _ (by omega)).trans (hZ _ _ (by omega)).1)) (fun j => (hZ _ _ (by omega)).2.1) dX10_init_38 rfl ?_
  refine q_dup hF rfl dX10_init_40 ?_
  refine q_iconst hF dX10_init_41 ?_
  refine q_iconst hF dX10_init_42 ?_
  refine q_iastorev hF (n := 3) 0 (q_upT_s _ _ _) (q_Ale hA (by omega)) rfl (by decide) (by decide) dX10_init_43 ?_
  refine q_dup hF rfl dX10_init_44 ?_
  refine q_iconst hF dX10_init_45 ?_
  refine q_iconst hF dX10_init_46 ?_
  refine q_iastorev hF (n := 3) 1 (q_upT_s _ _ _) (q_Ale hA (by omega)) rfl (by decide) (by decide) dX10_init_47 ?_
  refine q_dup hF rfl dX10_init_48 ?_
  refine q_iconst hF dX10_init_49 ?_
  refine q_iconst hF dX10_init_50 ?_
  refine q_iastorev hF (n := 3) 2 (q_upT_s _ _ _) (q_Ale hA (by omega)) rfl (by decide) (by decide) dX10_init_51 ?_
  refine q_putA hF fl_RX10_27 rfl ((q_upT_n _ _ (by omega)).trans ((q_upT_n _ _ (by omega)).trans ((q_upTm_n _ (by omega)).trans ((q_upTm_n _ (by omega)).trans hT)))) hA dX10_init_52 ?_
  refine q_aload_n hF 0 rfl rfl dX10_init_55 ?_
  refine q_iconst hF dX10_init_56 ?_
  refine q_newr hF (s' := k + 16) (kc := 4) (ks := 17) (t := 8) (n := 0) rfl (by decide) (by decide) (q_mem 455 (by decide +kernel) rfl) q_aO8 (by decide) (fun j => ((u2_a _ _ (by omega)).trans ((u2_a _ _ (by omega)).trans ((u2_a _ _ (by omega)).trans ((q_upPm_n _ (by omega)).trans ((u2_a _ _ (by omega)).trans ((q_upPm_n _ (by omega)).trans (hZ _ _ (by omega)).2.2))))))) dX10_init_57 rfl ?_
  refine q_putA hF fl_RX10_32 rfl ((q_upT_n _ _ (by omega)).trans ((q_upT_n _ _ (by omega)).trans ((q_upT_n _ _ (by omega)).trans ((q_upTm_n _ (by omega)).trans ((q_upTm_n _ (by omega)).trans hT))))) hA dX10_init_60 ?_
  refine q_aload_n hF 0 rfl rfl dX10_init_63 ?_
  refine q_iconst hF dX10_init_64 ?_
  refine q_newrA hF (s' := k + 17) (kc := 3) (ks := 17) (n := 0) (q_mem 457 (by decide +kernel) rfl) (by decide) (fun j => ((u2_a _ _ (by omega)).trans ((u2_a _ _ (by omega)).trans ((u2_a _ _ (by omega)).trans ((u2_a _ _ (by omega)).trans ((q_upPm_n _ (by omega)).trans ((u2_a _ _ (by omega)).trans ((q_upPm_n _ (by omega)).trans (hZ _ _ (by omega)).2.2)))))))) dX10_init_65 rfl ?_
  refine q_putA hF fl_RX10_37 rfl ((q_upT_n _ _ (by omega)).trans ((q_upT_n _ _ (by omega)).trans ((q_upT_n _ _ (by omega)).trans ((q_upT_n _ _ (by omega)).trans ((q_upTm_n _ (by omega)).trans ((q_upTm_n _ (by omega)).trans hT)))))) hA dX10_init_68 ?_
  refine q_aload_n hF 0 rfl rfl dX10_init_71 ?_
  refine q_bipush hF (n := 7) rfl dX10_init_72 ?_
  refine q_newaL hF (s' := k + 18) (kc := 2) (ks := 10) (n := 7) (q_mem 125 (by decide +kernel) rfl) (fun j => ((u2_a _ _ (by omega)).trans ((u2_a _ _ (by omega)).trans ((u2_a _ _ (by omega)).trans ((u2_a _ _ (by omega)).trans (hZ _ _ (by omega)).1))))) (fun j => (hZ _ _ (by omega)).2.1) dX10_init_74 rfl ?_
  refine q_putF hF fl_RX10_40 rfl rfl rfl rfl ((q_upT_n _ _ (by omega)).trans ((q_upT_n _ _ (by omega)).trans ((q_upT_n _ _ (by omega)).trans ((q_upT_n _ _ (by omega)).trans ((q_upT_n _ _ (by omega)).trans ((q_upTm_n _ (by omega)).trans ((q_upTm_n _ (by omega)).trans hT))))))) hA dX10_init_76 ?_
  refine q_aload_n hF 0 rfl rfl dX10_init_79 ?_
  refine q_iconst hF dX10_init_80 ?_
  refine q_newaL hF (s' := k + 19) (kc := 1) (ks := 5) (n := 5) (q_mem 125 (by decide +kernel) rfl) (fun j => ((u2_a _ _ (by omega)).trans ((u2_a _ _ (by omega)).trans ((u2_a _ _ (by omega)).trans ((u2_a _ _ (by omega)).trans (hZ _ _ (by omega)).1))))) (fun j => (hZ _ _ (by omega)).2.1) dX10_init_81 rfl ?_
  refine q_putF hF fl_RX10_44 rfl rfl rfl rfl ((q_upT_n _ _ (by omega)).trans ((q_upT_n _ _ (by omega)).trans ((q_upT_n _ _ (by omega)).trans ((q_upT_n _ _ (by omega)).trans ((q_upT_n _ _ (by omega)).trans ((q_upT_n _ _ (by omega)).trans ((q_upTm_n _ (by omega)).trans ((q_upTm_n _ (by omega)).trans hT)))))))) hA dX10_init_83 ?_
  refine q_aload_n hF 0 rfl rfl dX10_init_86 ?_
  refine q_iconst hF dX10_init_87 ?_
  refine q_newaL hF (s' := k + 20) (kc := 0) (ks := 0) (n := 5) (q_mem 125 (by decide +kernel) rfl) (fun j => ((u2_a _ _ (by omega)).trans ((u2_a _ _ (by omega)).trans ((u2_a _ _ (by omega)).trans ((u2_a _ _ (by omega)).trans (hZ _ _ (by omega)).1))))) (fun j => (hZ _ _ (by omega)).2.1) dX10_init_88 rfl ?_
  refine q_putF hF fl_RX10_47 rfl rfl rfl rfl ((q_upT_n _ _ (by omega)).trans ((q_upT_n _ _ (by omega)).trans ((q_upT_n _ _ (by omega)).trans ((q_upT_n _ _ (by omega)).trans ((q_upT_n _ _ (by omega)).trans ((q_upT_n _ _ (by omega)).trans ((q_upT_n _ _ (by omega)).trans ((q_upTm_n _ (by omega)).trans ((q_upTm_n _ (by omega)).trans hT))))))))) hA dX10_init_90 ?_
  refine q_return hF rfl dX10_init_93 ?_
  refine k0 _ _ _ _ ⟨?_, ?_, ?_, ?_, ?_, ?_, ?_, ?_, ?_, ?_, ?_⟩
  · exact fun q hq => ((q_upT_n _ _ (by omega)).trans ((q_upT_n _ _ (by omega)).trans ((q_upT_n _ _ (by omega)).trans ((q_upT_n _ _ (by omega)).trans ((q_upT_n _ _ (by omega)).trans ((q_upT_n _ _ (by omega)).trans ((q_upT_n _ _ (by omega)).trans ((q_upTm_n _ (by omega)).trans ((q_upTm_n _ (by omega)).trans rfl)))))))))
  · exact fun q j hq => ⟨((u2_a _ _ (by omega)).trans ((u2_a _ _ (by omega)).trans ((u2_a _ _ (by omega)).trans ((u2_a _ _ (by omega)).trans rfl)))), rfl, ((u2_a _ _ (by omega)).trans ((u2_a _ _ (by omega)).trans ((u2_a _ _ (by omega)).trans ((u2_a _ _ (by omega)).trans ((u2_a _ _ (by omega)).trans ((u2_a _ _ (by omega)).trans ((u2_a _ _ (by omega)).trans ((u2_a _ _ (by omega)).trans ((q_upPm_n _ (by omega)).trans ((u2_a _ _ (by omega)).trans ((q_upPm_n _ (by omega)).trans rfl)))))))))))⟩
  · exact ⟨((q_upT_n _ _ (by omega)).trans ((q_upT_n _ _ (by omega)).trans ((q_upT_n _ _ (by omega)).trans ((q_upT_n _ _ (by omega)).trans ((q_upT_n _ _ (by omega)).trans ((q_upT_n _ _ (by omega)).trans ((q_upT_n _ _ (by omega)).trans ((q_upTm_n _ (by omega)).trans ((q_upTm_n _ (by omega)).trans hT))))))))), ((u2_k _ _ (by decide)).trans ((u2_k _ _ (by decide)).trans ((u2_k _ _ (by decide)).trans ((u2_k _ _ (by decide)).trans ((u2_k _ _ (by decide)).trans ((u2_k _ _ (by decide)).trans ((u2_k _ _ (by decide)).trans ((u2_k _ _ (by decide)).trans ((q_upPm_n _ (by omega)).trans (u2_s _ _ _ _)))))))))), ((q_upT_n _ _ (by omega)).trans ((q_upT_n _ _ (by omega)).trans ((q_upT_n _ _ (by omega)).trans ((q_upT_n _ _ (by omega)).trans ((q_upT_n _ _ (by omega)).trans ((q_upT_n _ _ (by omega)).trans ((q_upT_n _ _ (by omega)).trans ((q_upTm_n _ (by omega)).trans (q_upTm_h _ _ _ _ _ _))))))))), fun l hl => (((u2_a _ _ (by omega)).trans ((u2_a _ _ (by omega)).trans ((u2_a _ _ (by omega)).trans ((u2_a _ _ (by omega)).trans ((u2_a _ _ (by omega)).trans ((u2_a _ _ (by omega)).trans ((u2_a _ _ (by omega)).trans ((u2_a _ _ (by omega)).trans ((q_upPm_n _ (by omega)).trans ((u2_a _ _ (by omega)).trans (q_upPm_i _ (by omega))))))))))))).trans (by rw [show k + 1 + 1 + l = k + 2 + l by omega]), fun l hl => ((q_upT_n _ _ (by omega)).trans ((q_upT_n _ _ (by omega)).trans ((q_upT_n _ _ (by omega)).trans ((q_upT_n _ _ (by omega)).trans ((q_upT_n _ _ (by omega)).trans ((q_upT_n _ _ (by omega)).trans ((q_upT_n _ _ (by omega)).trans ((q_upTm_n _ (by omega)).trans (q_upTm_i _ (by omega)))))))))), ((u2_k _ _ (by decide)).trans ((u2_k _ _ (by decide)).trans ((u2_k _ _ (by decide)).trans ((u2_k _ _ (by decide)).trans ((u2_k _ _ (by decide)).trans ((u2_k _ _ (by decide)).trans ((u2_k _ _ (by decide)).trans (u2_s _ _ _ _)))))))), ((q_upT_n _ _ (by omega)).trans ((q_upT_n _ _ (by omega)).trans ((q_upT_n _ _ (by omega)).trans ((q_upT_n _ _ (by omega)).trans ((q_upT_n _ _ (by omega)).trans ((q_upT_n _ _ (by omega)).trans ((q_upT_n _ _ (by omega)).trans (q_upTm_h _ _ _ _ _ _)))))))), fun i hi => (((u2_a _ _ (by omega)).trans ((u2_a _ _ (by omega)).trans ((u2_a _ _ (by omega)).trans ((u2_a _ _ (by omega)).trans ((u2_a _ _ (by omega)).trans ((u2_a _ _ (by omega)).trans ((u2_a _ _ (by omega)).trans ((u2_a _ _ (by omega)).trans (q_upPm_i _ (by omega))))))))))).trans (by rw [show k + 7 + 1 + i = k + 8 + i by omega]), fun i hi => ((q_upT_n _ _ (by omega)).trans ((q_upT_n _ _ (by omega)).trans ((q_upT_n _ _ (by omega)).trans ((q_upT_n _ _ (by omega)).trans ((q_upT_n _ _ (by omega)).trans ((q_upT_n _ _ (by omega)).trans ((q_upT_n _ _ (by omega)).trans (q_upTm_i _ (by omega))))))))), ((u2_k _ _ (by decide)).trans ((u2_k _ _ (by decide)).trans ((u2_k _ _ (by decide)).trans ((u2_k _ _ (by decide)).trans ((u2_k _ _ (by decide)).trans ((u2_k _ _ (by decide)).trans (u2_s _ _ _ _))))))), ((q_upT_n _ _ (by omega)).trans ((q_upT_n _ _ (by omega)).trans ((q_upT_n _ _ (by omega)).trans ((q_upT_n _ _ (by omega)).trans ((q_upT_n _ _ (by omega)).trans ((q_upT_n _ _ (by omega)).trans (q_upT_s _ _ _))))))), ((u2_k _ _ (by decide)).trans ((u2_k _ _ (by decide)).trans (u2_s _ _ _ _))), ((q_upT_n _ _ (by omega)).trans ((q_upT_n _ _ (by omega)).trans (q_upT_s _ _ _))), ((u2_k _ _ (by decide)).trans (u2_s _ _ _ _)), ((q_upT_n _ _ (by omega)).trans (q_upT_s _ _ _)), (u2_s _ _ _ _), (q_upT_s _ _ _)⟩
  · exact ⟨((q_upT_n _ _ (by omega)).trans ((q_upT_n _ _ (by omega)).trans ((q_upT_n _ _ (by omega)).trans ((q_upT_n _ _ (by omega)).trans ((q_upT_n _ _ (by omega)).trans (q_upT_s _ _ _)))))), ((q_upT_n _ _ (by omega)).trans ((q_upT_n _ _ (by omega)).trans ((q_upT_n _ _ (by omega)).trans ((q_upT_n _ _ (by omega)).trans (q_upT_s _ _ _))))), ((q_upT_n _ _ (by omega)).trans ((q_upT_n _ _ (by omega)).trans ((q_upT_n _ _ (by omega)).trans (q_upT_s _ _ _))))⟩
  · exact ⟨((u2_k _ _ (by decide)).trans ((u2_k _ _ (by decide)).trans ((u2_k _ _ (by decide)).trans ((u2_k _ _ (by decide)).trans ((u2_k _ _ (by decide)).trans (u2_s _ _ _ _)))))), ((u2_k _ _ (by decide)).trans ((u2_k _ _ (by decide)).trans ((u2_k _ _ (by decide)).trans ((u2_k _ _ (by decide)).trans (u2_s _ _ _ _))))), ((u2_k _ _ (by decide)).trans ((u2_k _ _ (by decide)).trans ((u2_k _ _ (by decide)).trans (u2_s _ _ _ _))))⟩
  · exact ((u2_k _ _ (by decide)).trans ((u2_k _ _ (by decide)).trans ((u2_k _ _ (by decide)).trans (u2_s _ _ _ _))))
  · exact ⟨((u2_k _ _ (by decide)).trans ((u2_k _ _ (by decide)).trans (u2_s _ _ _ _))), ((u2_k _ _ (by decide)).trans (u2_s _ _ _ _)), (u2_s _ _ _ _)⟩
  · exact fun q j h1 h2 h3 => by
      by_cases e : q = k
      · subst e
        have := h3 rfl
        exact ((u2_a _ _ (by omega)).trans ((u2_a _ _ (by omega)).trans ((u2_a _ _ (by omega)).trans ((u2_k _ _ (by omega)).trans (hZ _ _ (by omega)).1))))
      · exact ((u2_a _ _ (by omega)).trans ((u2_a _ _ (by omega)).trans ((u2_a _ _ (by omega)).trans ((u2_a _ _ (by omega)).trans (hZ _ _ (by omega)).1))))
  · exact fun q j hq => (hZ _ _ (by omega)).2.1
  · exact fun i j hi => ((u2_a _ _ (by omega)).trans ((u2_a _ _ (by omega)).trans ((u2_a _ _ (by omega)).trans ((u2_a _ _ (by omega)).trans ((u2_a _ _ (by omega)).trans ((u2_a _ _ (by omega)).trans ((u2_a _ _ (by omega)).trans ((u2_a _ _ (by omega)).trans ((q_upPm_n _ (by omega)).trans ((u2_a _ _ (by omega)).trans ((q_upPm_n _ (by omega)).trans (hZ _ _ (by omega)).2.2)))))))))))
  · exact fun q j hq => ⟨((u2_a _ _ (by omega)).trans ((u2_a _ _ (by omega)).trans ((u2_a _ _ (by omega)).trans ((u2_a _ _ (by omega)).trans (hZ _ _ (by omega)).1)))), (hZ _ _ (by omega)).2.1, ((u2_a _ _ (by omega)).trans ((u2_a _ _ (by omega)).trans ((u2_a _ _ (by omega)).trans ((u2_a _ _ (by omega)).trans ((u2_a _ _ (by omega)).trans ((u2_a _ _ (by omega)).trans ((u2_a _ _ (by omega)).trans ((u2_a _ _ (by omega)).trans ((q_upPm_n _ (by omega)).trans ((u2_a _ _ (by omega)).trans ((q_upPm_n _ (by omega)).trans (hZ _ _ (by omega)).2.2)))))))))))⟩
