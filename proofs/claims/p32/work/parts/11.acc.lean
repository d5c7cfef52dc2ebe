/-! Account -/
def q_rI (I : q_I) : Prop := ∀ q k, -2147483648 ≤ I q k ∧ I q k < 2147483648
def q_rL (L : q_I) : Prop := ∀ q k, -9223372036854775808 ≤ L q k ∧ L q k < 9223372036854775808
set_option maxRecDepth 100000 in
theorem mX0_init {G : q_G} {sz : Nat} {T : q_T} {I L : q_I} {P : q_P} {Q : q_Q} {a : Nat}   (k0 : Q (.inl none) sz T I L P) : qC G 0 0 0 YX0_init [.ref a] sz T I L P Q := by
  refine qC_of (by decide +kernel) rfl rfl (Nat.le_of_ble_eq_true rfl) (fun F hF _ _ => ?_)
  refine q_aload_n hF 0 rfl rfl dX0_init_0 ?_
  refine q_objInit hF (q_mem 241 (by decide +kernel) rfl) (q_mem 71 (by decide +kernel) rfl) (q_mem 72 (by decide +kernel) rfl) (Nat.le_of_ble_eq_true rfl) dX0_init_1 ?_
  refine q_return hF rfl dX0_init_4 ?_
  exact k0
set_option maxRecDepth 100000 in
theorem mX0_start {G : q_G} {sz : Nat} {T : q_T} {I L : q_I} {P : q_P} {Q : q_Q} {a : Nat} {kd : Int} {ad : Int} {bi : Int} {ce : Int}  (hT : T a = some (.inl 0)) (hA : q_A G a) (hc : -2147483648 ≤ ce ∧ ce < 2147483648) (k0 : Q (.inl none) sz T (u2 (u2 (u2 (u2 (u2 (u2 (u2 (u2 (u2 (u2 (u2 (u2 I a 0 kd) a 1 ad) a 2 bi) a 3 ce) a 4 0) a 5 0) a 6 0) a 7 0) a 8 (-1)) a 9 (-1)) a 10 (-1)) a 11 0) (u2 (u2 (u2 (u2 (u2 L a 12 ce) a 13 0) a 14 0) a 15 0) a 16 0) P) : qC G 0 0 0 YX0_start [.ref a, qI kd, qI ad, qI bi, qI ce] sz T I L P Q := by
  refine qC_of (by decide +kernel) rfl rfl (Nat.le_of_ble_eq_true rfl) (fun F hF _ _ => ?_)
  refine q_aload_n hF 0 rfl rfl dX0_start_0 ?_
  refine q_iload_n hF 1 rfl rfl dX0_start_1 ?_
  refine q_putI hF fl_RX0_9 hT hA dX0_start_2 ?_
  refine q_aload_n hF 0 rfl rfl dX0_start_5 ?_
  refine q_iload_n hF 2 rfl rfl dX0_start_6 ?_
  refine q_putI hF fl_RX0_15 hT hA dX0_start_7 ?_
  refine q_aload_n hF 0 rfl rfl dX0_start_10 ?_
  refine q_iload_n hF 3 rfl rfl dX0_start_11 ?_
  refine q_putI hF fl_RX0_18 hT hA dX0_start_12 ?_
  refine q_aload_n hF 0 rfl rfl dX0_start_15 ?_
  refine q_iload hF 4 rfl dX0_start_16 ?_
  refine q_putI hF fl_RX0_21 hT hA dX0_start_18 ?_
  refine q_aload_n hF 0 rfl rfl dX0_start_21 ?_
  refine q_iconst hF dX0_start_22 ?_
  refine q_putI hF fl_RX0_24 hT hA dX0_start_23 ?_
  refine q_aload_n hF 0 rfl rfl dX0_start_26 ?_
  refine q_iconst hF dX0_start_27 ?_
  refine q_putI hF fl_RX0_27 hT hA dX0_start_28 ?_
  refine q_aload_n hF 0 rfl rfl dX0_start_31 ?_
  refine q_iconst hF dX0_start_32 ?_
  refine q_putI hF fl_RX0_30 hT hA dX0_start_33 ?_
  refine q_aload_n hF 0 rfl rfl dX0_start_36 ?_
  refine q_iconst hF dX0_start_37 ?_
  refine q_putI hF fl_RX0_33 hT hA dX0_start_38 ?_
  refine q_aload_n hF 0 rfl rfl dX0_start_41 ?_
  refine q_iconst hF dX0_start_42 ?_
  refine q_putI hF fl_RX0_36 hT hA dX0_start_43 ?_
  refine q_aload_n hF 0 rfl rfl dX0_start_46 ?_
  refine q_iconst hF dX0_start_47 ?_
  refine q_putI hF fl_RX0_39 hT hA dX0_start_48 ?_
  refine q_aload_n hF 0 rfl rfl dX0_start_51 ?_
  refine q_iconst hF dX0_start_52 ?_
  refine q_putI hF fl_RX0_42 hT hA dX0_start_53 ?_
  refine q_aload_n hF 0 rfl rfl dX0_start_56 ?_
  refine q_iconst hF dX0_start_57 ?_
  refine q_putZ hF (by decide) fl_RX0_45 hT hA dX0_start_58 ?_
  refine q_aload_n hF 0 rfl rfl dX0_start_61 ?_
  refine q_iload hF 4 rfl dX0_start_62 ?_
  refine q_i2l hF hc dX0_start_64 ?_
  refine q_putL hF fl_RX0_49 hT hA dX0_start_65 ?_
  refine q_aload_n hF 0 rfl rfl dX0_start_68 ?_
  refine q_lconst hF (z := 0) rfl dX0_start_69 ?_
  refine q_putL hF fl_RX0_53 hT hA dX0_start_70 ?_
  refine q_aload_n hF 0 rfl rfl dX0_start_73 ?_
  refine q_lconst hF (z := 0) rfl dX0_start_74 ?_
  refine q_putL hF fl_RX0_56 hT hA dX0_start_75 ?_
  refine q_aload_n hF 0 rfl rfl dX0_start_78 ?_
  refine q_lconst hF (z := 0) rfl dX0_start_79 ?_
  refine q_putL hF fl_RX0_59 hT hA dX0_start_80 ?_
  refine q_aload_n hF 0 rfl rfl dX0_start_83 ?_
  refine q_lconst hF (z := 0) rfl dX0_start_84 ?_
  refine q_putL hF fl_RX0_62 hT hA dX0_start_85 ?_
  refine q_return hF rfl dX0_start_88 ?_
  exact k0
set_option maxRecDepth 100000 in
theorem mX0_copyFrom {G : q_G} {sz : Nat} {T : q_T} {I L : q_I} {P : q_P} {Q : q_Q} {a : Nat} {b : Nat}  (hT : T a = some (.inl 0)) (hA : q_A G a) (hTb : T b = some (.inl 0)) (hne : b ≠ a) (hz : I b 11 = 0 ∨ I b 11 = 1) (k0 : Q (.inl none) sz T (u2 (u2 (u2 (u2 (u2 (u2 (u2 (u2 (u2 (u2 (u2 (u2 I a 0 (I b 0)) a 1 (I b 1)) a 2 (I b 2)) a 3 (I b 3)) a 4 (I b 4)) a 5 (I b 5)) a 6 (I b 6)) a 7 (I b 7)) a 8 (I b 8)) a 9 (I b 9)) a 10 (I b 10)) a 11 (I b 11)) (u2 (u2 (u2 (u2 (u2 L a 12 (L b 12)) a 13 (L b 13)) a 14 (L b 14)) a 15 (L b 15)) a 16 (L b 16)) P) : qC G 0 0 0 YX0_copyFrom [.ref a, .ref b] sz T I L P Q := by
  refine qC_of (by decide +kernel) rfl rfl (Nat.le_of_ble_eq_true rfl) (fun F hF _ _ => ?_)
  refine q_aload_n hF 0 rfl rfl dX0_copyFrom_0 ?_
  refine q_aload_n hF 1 rfl rfl dX0_copyFrom_1 ?_
  refine q_getIv hF (z := I b 0) fl_RX0_9 hTb rfl dX0_copyFrom_2 ?_
  refine q_putI hF fl_RX0_9 hT hA dX0_copyFrom_5 ?_
  refine q_aload_n hF 0 rfl rfl dX0_copyFrom_8 ?_
  refine q_aload_n hF 1 rfl rfl dX0_copyFrom_9 ?_
  refine q_getIv hF (z := I b 1) fl_RX0_15 hTb (u2_k _ _ (by decide)) dX0_copyFrom_10 ?_
  refine q_putI hF fl_RX0_15 hT hA dX0_copyFrom_13 ?_
  refine q_aload_n hF 0 rfl rfl dX0_copyFrom_16 ?_
  refine q_aload_n hF 1 rfl rfl dX0_copyFrom_17 ?_
  refine q_getIv hF (z := I b 2) fl_RX0_18 hTb ((u2_k _ _ (by decide)).trans (u2_k _ _ (by decide))) dX0_copyFrom_18 ?_
  refine q_putI hF fl_RX0_18 hT hA dX0_copyFrom_21 ?_
  refine q_aload_n hF 0 rfl rfl dX0_copyFrom_24 ?_
  refine q_aload_n hF 1 rfl rfl dX0_copyFrom_25 ?_
  refine q_getIv hF (z := I b 3) fl_RX0_21 hTb ((u2_k _ _ (by decide)).trans ((u2_k _ _ (by decide)).trans (u2_k _ _ (by decide)))) dX0_copyFrom_26 ?_
  refine q_putI hF fl_RX0_21 hT hA dX0_copyFrom_29 ?_
  refine q_aload_n hF 0 rfl rfl dX0_copyFrom_32 ?_
  refine q_aload_n hF 1 rfl rfl dX0_copyFrom_33 ?_
  refine q_getIv hF (z := I b 4) fl_RX0_24 hTb ((u2_k _ _ (by decide)).trans ((u2_k _ _ (by decide)).trans ((u2_k _ _ (by decide)).trans (u2_k _ _ (by decide))))) dX0_copyFrom_34 ?_
  refine q_putI hF fl_RX0_24 hT hA dX0_copyFrom_37 ?_
  refine q_aload_n hF 0 rfl rfl dX0_copyFrom_40 ?_
  refine q_aload_n hF 1 rfl rfl dX0_copyFrom_41 ?_
  refine q_getIv hF (z := I b 5) fl_RX0_27 hTb ((u2_k _ _ (by decide)).trans ((u2_k _ _ (by decide)).trans ((u2_k _ _ (by decide)).trans ((u2_k _ _ (by decide)).trans (u2_k _ _ (by decide)))))) dX0_copyFrom_42 ?_
  refine q_putI hF fl_RX0_27 hT hA dX0_copyFrom_45 ?_
  refine q_aload_n hF 0 rfl rfl dX0_copyFrom_48 ?_
  refine q_aload_n hF 1 rfl rfl dX0_copyFrom_49 ?_
  refine q_getIv hF (z := I b 6) fl_RX0_30 hTb ((u2_k _ _ (by decide)).trans ((u2_k _ _ (by decide)).trans ((u2_k _ _ (by decide)).trans ((u2_k _ _ (by decide)).trans ((u2_k _ _ (by decide)).trans (u2_k _ _ (by decide))))))) dX0_copyFrom_50 ?_
  refine q_putI hF fl_RX0_30 hT hA dX0_copyFrom_53 ?_
  refine q_aload_n hF 0 rfl rfl dX0_copyFrom_56 ?_
  refine q_aload_n hF 1 rfl rfl dX0_copyFrom_57 ?_
  refine q_getIv hF (z := I b 7) fl_RX0_33 hTb ((u2_k _ _ (by decide)).trans ((u2_k _ _ (by decide)).trans ((u2_k _ _ (by decide)).trans ((u2_k _ _ (by decide)).trans ((u2_k _ _ (by decide)).trans ((u2_k _ _ (by decide)).trans (u2_k _ _ (by decide)))))))) dX0_copyFrom_58 ?_
  refine q_putI hF fl_RX0_33 hT hA dX0_copyFrom_61 ?_
  refine q_aload_n hF 0 rfl rfl dX0_copyFrom_64 ?_
  refine q_aload_n hF 1 rfl rfl dX0_copyFrom_65 ?_
  refine q_getIv hF (z := I b 8) fl_RX0_36 hTb ((u2_k _ _ (by decide)).trans ((u2_k _ _ (by decide)).trans ((u2_k _ _ (by decide)).trans ((u2_k _ _ (by decide)).trans ((u2_k _ _ (by decide)).trans ((u2_k _ _ (by decide)).trans ((u2_k _ _ (by decide)).trans (u2_k _ _ (by decide))))))))) dX0_copyFrom_66 ?_
  refine q_putI hF fl_RX0_36 hT hA dX0_copyFrom_69 ?_
  refine q_aload_n hF 0 rfl rfl dX0_copyFrom_72 ?_
  refine q_aload_n hF 1 rfl rfl dX0_copyFrom_73 ?_
  refine q_getIv hF (z := I b 9) fl_RX0_39 hTb ((u2_k _ _ (by decide)).trans ((u2_k _ _ (by decide)).trans ((u2_k _ _ (by decide)).trans ((u2_k _ _ (by decide)).trans ((u2_k _ _ (by decide)).trans ((u2_k _ _ (by decide)).trans ((u2_k _ _ (by decide)).trans ((u2_k _ _ (by decide)).trans (u2_k _ _ (by decide)))))))))) dX0_copyFrom_74 ?_
  refine q_putI hF fl_RX0_39 hT hA dX0_copyFrom_77 ?_
  refine q_aload_n hF 0 rfl rfl dX0_copyFrom_80 ?_
  refine q_aload_n hF 1 rfl rfl dX0_copyFrom_81 ?_
  refine q_getIv hF (z := I b 10) fl_RX0_42 hTb ((u2_k _ _ (by decide)).trans ((u2_k _ _ (by decide)).trans ((u2_k _ _ (by decide)).trans ((u2_k _ _ (by decide)).trans ((u2_k _ _ (by decide)).trans ((u2_k _ _ (by decide)).trans ((u2_k _ _ (by decide)).trans ((u2_k _ _ (by decide)).trans ((u2_k _ _ (by decide)).trans (u2_k _ _ (by decide))))))))))) dX0_copyFrom_82 ?_
  refine q_putI hF fl_RX0_42 hT hA dX0_copyFrom_85 ?_
  refine q_aload_n hF 0 rfl rfl dX0_copyFrom_88 ?_
  refine q_aload_n hF 1 rfl rfl dX0_copyFrom_89 ?_
  refine q_getZv hF (z := I b 11) fl_RX0_45 hTb ((u2_k _ _ (by decide)).trans ((u2_k _ _ (by decide)).trans ((u2_k _ _ (by decide)).trans ((u2_k _ _ (by decide)).trans ((u2_k _ _ (by decide)).trans ((u2_k _ _ (by decide)).trans ((u2_k _ _ (by decide)).trans ((u2_k _ _ (by decide)).trans ((u2_k _ _ (by decide)).trans ((u2_k _ _ (by decide)).trans (u2_k _ _ (by decide)))))))))))) dX0_copyFrom_90 ?_
  refine q_putZ hF hz fl_RX0_45 hT hA dX0_copyFrom_93 ?_
  refine q_aload_n hF 0 rfl rfl dX0_copyFrom_96 ?_
  refine q_aload_n hF 1 rfl rfl dX0_copyFrom_97 ?_
  refine q_getLv hF (z := L b 12) fl_RX0_49 hTb rfl dX0_copyFrom_98 ?_
  refine q_putL hF fl_RX0_49 hT hA dX0_copyFrom_101 ?_
  refine q_aload_n hF 0 rfl rfl dX0_copyFrom_104 ?_
  refine q_aload_n hF 1 rfl rfl dX0_copyFrom_105 ?_
  refine q_getLv hF (z := L b 13) fl_RX0_53 hTb (u2_k _ _ (by decide)) dX0_copyFrom_106 ?_
  refine q_putL hF fl_RX0_53 hT hA dX0_copyFrom_109 ?_
  refine q_aload_n hF 0 rfl rfl dX0_copyFrom_112 ?_
  refine q_aload_n hF 1 rfl rfl dX0_copyFrom_113 ?_
  refine q_getLv hF (z := L b 14) fl_RX0_56 hTb ((u2_k _ _ (by decide)).trans (u2_k _ _ (by decide))) dX0_copyFrom_114 ?_
  refine q_putL hF fl_RX0_56 hT hA dX0_copyFrom_117 ?_
  refine q_aload_n hF 0 rfl rfl dX0_copyFrom_120 ?_
  refine q_aload_n hF 1 rfl rfl dX0_copyFrom_121 ?_
  refine q_getLv hF (z := L b 15) fl_RX0_59 hTb ((u2_k _ _ (by decide)).trans ((u2_k _ _ (by decide)).trans (u2_k _ _ (by decide)))) dX0_copyFrom_122 ?_
  refine q_putL hF fl_RX0_59 hT hA dX0_copyFrom_125 ?_
  refine q_aload_n hF 0 rfl rfl dX0_copyFrom_128 ?_
  refine q_aload_n hF 1 rfl rfl dX0_copyFrom_129 ?_
  refine q_getLv hF (z := L b 16) fl_RX0_62 hTb ((u2_k _ _ (by decide)).trans ((u2_k _ _ (by decide)).trans ((u2_k _ _ (by decide)).trans (u2_k _ _ (by decide))))) dX0_copyFrom_130 ?_
  refine q_putL hF fl_RX0_62 hT hA dX0_copyFrom_133 ?_
  refine q_return hF rfl dX0_copyFrom_136 ?_
  exact k0
set_option maxRecDepth 100000 in
theorem mX0_isWithBank {G : q_G} {sz : Nat} {T : q_T} {I L : q_I} {P : q_P} {Q : q_Q} {a : Nat}  (hT : T a = some (.inl 0)) (hr : q_rI I) (k0 : Q (.inl (some (qI (q_b (I a 4 = 0 ∨ I a 4 = 1))))) sz T I L P) : qC G 0 0 0 YX0_isWithBank [.ref a] sz T I L P Q := by
  refine qC_of (by decide +kernel) rfl rfl (Nat.le_of_ble_eq_true rfl) (fun F hF _ _ => ?_)
  refine q_aload_n hF 0 rfl rfl dX0_isWithBank_0 ?_
  refine q_getIv hF (z := I a 4) fl_RX0_24 hT rfl dX0_isWithBank_1 ?_
  refine q_ifeq hF (by have := hr a 4; omega) dX0_isWithBank_4 (fun c4 => ?_) (fun c4 => ?_)
  · refine q_iconst hF dX0_isWithBank_15 ?_
    refine q_goto hF dX0_isWithBank_16 ?_
    refine q_zreturn hF (by decide) rfl dX0_isWithBank_20 ?_
    rw [q_b_t (c := I a 4 = 0 ∨ I a 4 = 1) (by omega)] at k0; exact k0
  · refine q_aload_n hF 0 rfl rfl dX0_isWithBank_7 ?_
    refine q_getIv hF (z := I a 4) fl_RX0_24 hT rfl dX0_isWithBank_8 ?_
    refine q_iconst hF dX0_isWithBank_11 ?_
    refine q_icmpne hF (by have := hr a 4; omega) (by decide) dX0_isWithBank_12 (fun c12 => ?_) (fun c12 => ?_)
    · refine q_iconst hF dX0_isWithBank_19 ?_
      refine q_zreturn hF (by decide) rfl dX0_isWithBank_20 ?_
      rw [q_b_f (c := I a 4 = 0 ∨ I a 4 = 1) (by omega)] at k0; exact k0
    · refine q_iconst hF dX0_isWithBank_15 ?_
      refine q_goto hF dX0_isWithBank_16 ?_
      refine q_zreturn hF (by decide) rfl dX0_isWithBank_20 ?_
      rw [q_b_t (c := I a 4 = 0 ∨ I a 4 = 1) (by omega)] at k0; exact k0
set_option maxRecDepth 100000 in
theorem mX0_isClaimable {G : q_G} {sz : Nat} {T : q_T} {I L : q_I} {P : q_P} {Q : q_Q} {a : Nat}  (hT : T a = some (.inl 0)) (hr : q_rI I) (k0 : Q (.inl (some (qI (q_b (I a 4 = 2 ∧ I a 11 = 0))))) sz T I L P) : qC G 0 0 0 YX0_isClaimable [.ref a] sz T I L P Q := by
  refine qC_of (by decide +kernel) rfl rfl (Nat.le_of_ble_eq_true rfl) (fun F hF _ _ => ?_)
  refine q_aload_n hF 0 rfl rfl dX0_isClaimable_0 ?_
  refine q_getIv hF (z := I a 4) fl_RX0_24 hT rfl dX0_isClaimable_1 ?_
  refine q_iconst hF dX0_isClaimable_4 ?_
  refine q_icmpne hF (by have := hr a 4; omega) (by decide) dX0_isClaimable_5 (fun c5 => ?_) (fun c5 => ?_)
  · refine q_iconst hF dX0_isClaimable_19 ?_
    refine q_zreturn hF (by decide) rfl dX0_isClaimable_20 ?_
    rw [q_b_f (c := I a 4 = 2 ∧ I a 11 = 0) (by omega)] at k0; exact k0
  · refine q_aload_n hF 0 rfl rfl dX0_isClaimable_8 ?_
    refine q_getZv hF (z := I a 11) fl_RX0_45 hT rfl dX0_isClaimable_9 ?_
    refine q_ifne hF (by have := hr a 11; omega) dX0_isClaimable_12 (fun c12 => ?_) (fun c12 => ?_)
    · refine q_iconst hF dX0_isClaimable_19 ?_
      refine q_zreturn hF (by decide) rfl dX0_isClaimable_20 ?_
      rw [q_b_f (c := I a 4 = 2 ∧ I a 11 = 0) (by omega)] at k0; exact k0
    · refine q_iconst hF dX0_isClaimable_15 ?_
      refine q_goto hF dX0_isClaimable_16 ?_
      refine q_zreturn hF (by decide) rfl dX0_isClaimable_20 ?_
      rw [q_b_t (c := I a 4 = 2 ∧ I a 11 = 0) (by omega)] at k0; exact k0
set_option maxRecDepth 100000 in
theorem mX0_isHeldBy {G : q_G} {sz : Nat} {T : q_T} {I L : q_I} {P : q_P} {Q : q_Q} {a : Nat} {l : Int}  (hT : T a = some (.inl 0)) (hr : q_rI I) (hl : -2147483648 ≤ l ∧ l < 2147483648) (k0 : Q (.inl (some (qI (q_b (I a 4 = 2 ∧ I a 9 = l))))) sz T I L P) : qC G 0 0 0 YX0_isHeldBy [.ref a, qI l] sz T I L P Q := by
  refine qC_of (by decide +kernel) rfl rfl (Nat.le_of_ble_eq_true rfl) (fun F hF _ _ => ?_)
  refine q_aload_n hF 0 rfl rfl dX0_isHeldBy_0 ?_
  refine q_getIv hF (z := I a 4) fl_RX0_24 hT rfl dX0_isHeldBy_1 ?_
  refine q_iconst hF dX0_isHeldBy_4 ?_
  refine q_icmpne hF (by have := hr a 4; omega) (by decide) dX0_isHeldBy_5 (fun c5 => ?_) (fun c5 => ?_)
  · refine q_iconst hF dX0_isHeldBy_20 ?_
    refine q_zreturn hF (by decide) rfl dX0_isHeldBy_21 ?_
    rw [q_b_f (c := I a 4 = 2 ∧ I a 9 = l) (by omega)] at k0; exact k0
  · refine q_aload_n hF 0 rfl rfl dX0_isHeldBy_8 ?_
    refine q_getIv hF (z := I a 9) fl_RX0_39 hT rfl dX0_isHeldBy_9 ?_
    refine q_iload_n hF 1 rfl rfl dX0_isHeldBy_12 ?_
    refine q_icmpne hF (by have := hr a 9; omega) hl dX0_isHeldBy_13 (fun c13 => ?_) (fun c13 => ?_)
    · refine q_iconst hF dX0_isHeldBy_20 ?_
      refine q_zreturn hF (by decide) rfl dX0_isHeldBy_21 ?_
      rw [q_b_f (c := I a 4 = 2 ∧ I a 9 = l) (by omega)] at k0; exact k0
    · refine q_iconst hF dX0_isHeldBy_16 ?_
      refine q_goto hF dX0_isHeldBy_17 ?_
      refine q_zreturn hF (by decide) rfl dX0_isHeldBy_21 ?_
      rw [q_b_t (c := I a 4 = 2 ∧ I a 9 = l) (by omega)] at k0; exact k0
set_option maxRecDepth 100000 in
theorem mX0_wake {G : q_G} {sz : Nat} {T : q_T} {I L : q_I} {P : q_P} {Q : q_Q} {a : Nat}  (hT : T a = some (.inl 0)) (hA : q_A G a) (k0 : Q (.inl none) sz T (u2 (u2 I a 6 0) a 4 0) L P) : qC G 0 0 0 YX0_wake [.ref a] sz T I L P Q := by
  refine qC_of (by decide +kernel) rfl rfl (Nat.le_of_ble_eq_true rfl) (fun F hF _ _ => ?_)
  refine q_aload_n hF 0 rfl rfl dX0_wake_0 ?_
  refine q_iconst hF dX0_wake_1 ?_
  refine q_putI hF fl_RX0_30 hT hA dX0_wake_2 ?_
  refine q_aload_n hF 0 rfl rfl dX0_wake_5 ?_
  refine q_iconst hF dX0_wake_6 ?_
  refine q_putI hF fl_RX0_24 hT hA dX0_wake_7 ?_
  refine q_return hF rfl dX0_wake_10 ?_
  exact k0
set_option maxRecDepth 100000 in
theorem mX0_bringIn {G : q_G} {sz : Nat} {T : q_T} {I L : q_I} {P : q_P} {Q : q_Q} {a : Nat} {m : Int}  (hT : T a = some (.inl 0)) (hA : q_A G a) (hm : -2147483648 ≤ m ∧ m < 2147483648) (k0 : Q (.inl none) sz T (u2 I a 3 ((I a 3) + m)) (u2 L a 12 ((L a 12) + m)) P) : qC G 0 0 0 YX0_bringIn [.ref a, qI m] sz T I L P Q := by
  refine qC_of (by decide +kernel) rfl rfl (Nat.le_of_ble_eq_true rfl) (fun F hF _ _ => ?_)
  refine q_aload_n hF 0 rfl rfl dX0_bringIn_0 ?_
  refine q_dup hF rfl dX0_bringIn_1 ?_
  refine q_getIv hF (z := I a 3) fl_RX0_21 hT rfl dX0_bringIn_2 ?_
  refine q_iload_n hF 1 rfl rfl dX0_bringIn_5 ?_
  refine q_iadd hF dX0_bringIn_6 ?_
  refine q_putI hF fl_RX0_21 hT hA dX0_bringIn_7 ?_
  refine q_aload_n hF 0 rfl rfl dX0_bringIn_10 ?_
  refine q_dup hF rfl dX0_bringIn_11 ?_
  refine q_getLv hF (z := L a 12) fl_RX0_49 hT rfl dX0_bringIn_12 ?_
  refine q_iload_n hF 1 rfl rfl dX0_bringIn_15 ?_
  refine q_i2l hF hm dX0_bringIn_16 ?_
  refine q_ladd hF dX0_bringIn_17 ?_
  refine q_putL hF fl_RX0_49 hT hA dX0_bringIn_18 ?_
  refine q_return hF rfl dX0_bringIn_21 ?_
  exact k0
set_option maxRecDepth 100000 in
theorem mX0_payOut {G : q_G} {sz : Nat} {T : q_T} {I L : q_I} {P : q_P} {Q : q_Q} {a : Nat} {m : Int}  (hT : T a = some (.inl 0)) (hA : q_A G a) (hm : -2147483648 ≤ m ∧ m < 2147483648) (k0 : Q (.inl none) sz T (u2 I a 3 ((I a 3) - m)) (u2 L a 14 ((L a 14) + m)) P) : qC G 0 0 0 YX0_payOut [.ref a, qI m] sz T I L P Q := by
  refine qC_of (by decide +kernel) rfl rfl (Nat.le_of_ble_eq_true rfl) (fun F hF _ _ => ?_)
  refine q_aload_n hF 0 rfl rfl dX0_payOut_0 ?_
  refine q_dup hF rfl dX0_payOut_1 ?_
  refine q_getIv hF (z := I a 3) fl_RX0_21 hT rfl dX0_payOut_2 ?_
  refine q_iload_n hF 1 rfl rfl dX0_payOut_5 ?_
  refine q_isub hF dX0_payOut_6 ?_
  refine q_putI hF fl_RX0_21 hT hA dX0_payOut_7 ?_
  refine q_aload_n hF 0 rfl rfl dX0_payOut_10 ?_
  refine q_dup hF rfl dX0_payOut_11 ?_
  refine q_getLv hF (z := L a 14) fl_RX0_56 hT rfl dX0_payOut_12 ?_
  refine q_iload_n hF 1 rfl rfl dX0_payOut_15 ?_
  refine q_i2l hF hm dX0_payOut_16 ?_
  refine q_ladd hF dX0_payOut_17 ?_
  refine q_putL hF fl_RX0_56 hT hA dX0_payOut_18 ?_
  refine q_return hF rfl dX0_payOut_21 ?_
  exact k0
set_option maxRecDepth 100000 in
theorem mX0_receiveLetter {G : q_G} {sz : Nat} {T : q_T} {I L : q_I} {P : q_P} {Q : q_Q} {a : Nat} {pr : Int} {mo : Int}  (hT : T a = some (.inl 0)) (hA : q_A G a) (hr : q_rI I) (hp : -2147483648 ≤ pr ∧ pr < 2147483648) (k0 : Q (.inl none) sz T (u2 (u2 (u2 (u2 I a 3 ((I a 3) - (min pr (I a 3)))) a 7 ((I a 7) + 1)) a 8 mo) a 4 1) (u2 L a 15 ((L a 15) + (min pr (I a 3)))) P) : qC G 0 0 0 YX0_receiveLetter [.ref a, qI pr, qI mo] sz T I L P Q := by
  refine qC_of (by decide +kernel) rfl rfl (Nat.le_of_ble_eq_true rfl) (fun F hF _ _ => ?_)
  refine q_iload_n hF 1 rfl rfl dX0_receiveLetter_0 ?_
  refine q_aload_n hF 0 rfl rfl dX0_receiveLetter_1 ?_
  refine q_getIv hF (z := I a 3) fl_RX0_21 hT rfl dX0_receiveLetter_2 ?_
  refine q_mini hF (q_mem 919 (by decide +kernel) rfl) (q_mem 778 (by decide +kernel) rfl) (q_mem 55 (by decide +kernel) rfl) (q_mem 779 (by decide +kernel) rfl) hp (by have := hr a 3; omega) (Nat.le_of_ble_eq_true rfl) dX0_receiveLetter_5 ?_
  refine q_istore_n hF (ls' := [(3, qI (min pr (I a 3))), (0, .ref a), (1, qI pr), (2, qI mo)]) rfl (by decide) rfl dX0_receiveLetter_8 ?_
  refine q_aload_n hF 1 rfl rfl dX0_receiveLetter_9 ?_
  refine q_dup hF rfl dX0_receiveLetter_10 ?_
  refine q_getIv hF (z := I a 3) fl_RX0_21 hT rfl dX0_receiveLetter_11 ?_
  refine q_iload_n hF 0 rfl rfl dX0_receiveLetter_14 ?_
  refine q_isub hF dX0_receiveLetter_15 ?_
  refine q_putI hF fl_RX0_21 hT hA dX0_receiveLetter_16 ?_
  refine q_aload_n hF 1 rfl rfl dX0_receiveLetter_19 ?_
  refine q_dup hF rfl dX0_receiveLetter_20 ?_
  refine q_getLv hF (z := L a 15) fl_RX0_59 hT rfl dX0_receiveLetter_21 ?_
  refine q_iload_n hF 0 rfl rfl dX0_receiveLetter_24 ?_
  refine q_i2l hF (by have := hr a 3; omega) dX0_receiveLetter_25 ?_
  refine q_ladd hF dX0_receiveLetter_26 ?_
  refine q_putL hF fl_RX0_59 hT hA dX0_receiveLetter_27 ?_
  refine q_aload_n hF 1 rfl rfl dX0_receiveLetter_30 ?_
  refine q_dup hF rfl dX0_receiveLetter_31 ?_
  refine q_getIv hF (z := I a 7) fl_RX0_33 hT (u2_k _ _ (by decide)) dX0_receiveLetter_32 ?_
  refine q_iconst hF dX0_receiveLetter_35 ?_
  refine q_iadd hF dX0_receiveLetter_36 ?_
  refine q_putI hF fl_RX0_33 hT hA dX0_receiveLetter_37 ?_
  refine q_aload_n hF 1 rfl rfl dX0_receiveLetter_40 ?_
  refine q_iload_n hF 3 rfl rfl dX0_receiveLetter_41 ?_
  refine q_putI hF fl_RX0_36 hT hA dX0_receiveLetter_42 ?_
  refine q_aload_n hF 1 rfl rfl dX0_receiveLetter_45 ?_
  refine q_iconst hF dX0_receiveLetter_46 ?_
  refine q_putI hF fl_RX0_24 hT hA dX0_receiveLetter_47 ?_
  refine q_return hF rfl dX0_receiveLetter_50 ?_
  exact k0
set_option maxRecDepth 100000 in
theorem mX0_handOver {G : q_G} {sz : Nat} {T : q_T} {I L : q_I} {P : q_P} {Q : q_Q} {a : Nat} {l : Int} {le : Int} {mo : Int}  (hT : T a = some (.inl 0)) (hA : q_A G a) (hr : q_rI I) (hle : -2147483648 ≤ le ∧ le < 2147483648) (k0 : le ≤ (I a 3) → Q (.inl none) sz T (u2 (u2 (u2 (u2 I a 4 2) a 9 l) a 10 mo) a 11 0) L P) (k1 : (I a 3) < le → Q (.inl none) sz T (u2 (u2 (u2 (u2 I a 4 2) a 9 l) a 10 mo) a 11 1) L P) : qC G 0 0 0 YX0_handOver [.ref a, qI l, qI le, qI mo] sz T I L P Q := by
  refine qC_of (by decide +kernel) rfl rfl (Nat.le_of_ble_eq_true rfl) (fun F hF _ _ => ?_)
  refine q_aload_n hF 0 rfl rfl dX0_handOver_0 ?_
  refine q_iconst hF dX0_handOver_1 ?_
  refine q_putI hF fl_RX0_24 hT hA dX0_handOver_2 ?_
  refine q_aload_n hF 0 rfl rfl dX0_handOver_5 ?_
  refine q_iload_n hF 1 rfl rfl dX0_handOver_6 ?_
  refine q_putI hF fl_RX0_39 hT hA dX0_handOver_7 ?_
  refine q_aload_n hF 0 rfl rfl dX0_handOver_10 ?_
  refine q_iload_n hF 3 rfl rfl dX0_handOver_11 ?_
  refine q_putI hF fl_RX0_42 hT hA dX0_handOver_12 ?_
  refine q_aload_n hF 0 rfl rfl dX0_handOver_15 ?_
  refine q_aload_n hF 0 rfl rfl dX0_handOver_16 ?_
  refine q_getIv hF (z := I a 3) fl_RX0_21 hT ((u2_k _ _ (by decide)).trans ((u2_k _ _ (by decide)).trans (u2_k _ _ (by decide)))) dX0_handOver_17 ?_
  refine q_iload_n hF 2 rfl rfl dX0_handOver_20 ?_
  refine q_icmpge hF (by have := hr a 3; omega) hle dX0_handOver_21 (fun c21 => ?_) (fun c21 => ?_)
  · refine q_iconst hF dX0_handOver_28 ?_
    refine q_putZ hF (by decide) fl_RX0_45 hT hA dX0_handOver_29 ?_
    refine q_return hF rfl dX0_handOver_32 ?_
    exact k0 c21
  · refine q_iconst hF dX0_handOver_24 ?_
    refine q_goto hF dX0_handOver_25 ?_
    refine q_putZ hF (by decide) fl_RX0_45 hT hA dX0_handOver_29 ?_
    refine q_return hF rfl dX0_handOver_32 ?_
    exact k1 c21
set_option maxRecDepth 100000 in
theorem mX0_credit {G : q_G} {sz : Nat} {T : q_T} {I L : q_I} {P : q_P} {Q : q_Q} {a : Nat} {ra : Int}  (hT : T a = some (.inl 0)) (hA : q_A G a) (hr : q_rI I) (hra : -2147483648 ≤ ra ∧ ra < 2147483648) (hr1 : -9223372036854775808 ≤ I a 3 * ra ∧ I a 3 * ra < 9223372036854775808) (hr2 : -9223372036854775808 ≤ (I a 3 * ra).tdiv 120000 ∧ (I a 3 * ra).tdiv 120000 < 9223372036854775808) (hr3 : -2147483648 ≤ 100000000 - I a 3 ∧ 100000000 - I a 3 < 2147483648) (hr4 : -2147483648 ≤ min ((I a 3 * ra).tdiv 120000) (100000000 - I a 3) ∧ min ((I a 3 * ra).tdiv 120000) (100000000 - I a 3) < 2147483648) (k0 : Q (.inl none) sz T (u2 I a 3 ((I a 3) + (min (((I a 3) * ra).tdiv 120000) (100000000 - (I a 3))))) (u2 L a 13 ((L a 13) + (min (((I a 3) * ra).tdiv 120000) (100000000 - (I a 3))))) P) : qC G 1 0 0 YX0_credit [.ref a, qI ra] sz T I L P Q := by
  refine qC_of (by decide +kernel) rfl rfl (Nat.le_of_ble_eq_true rfl) (fun F hF _ _ => ?_)
  refine q_aload_n hF 0 rfl rfl dX0_credit_0 ?_
  refine q_getIv hF (z := I a 3) fl_RX0_21 hT rfl dX0_credit_1 ?_
  refine q_i2l hF (by have := hr a 3; omega) dX0_credit_4 ?_
  refine q_iload_n hF 1 rfl rfl dX0_credit_5 ?_
  refine q_i2l hF hra dX0_credit_6 ?_
  refine q_lmul hF dX0_credit_7 ?_
  refine q_ldc2 hF (n := 120000) (q_mem 872 (by decide +kernel) rfl) dX0_credit_8 ?_
  refine q_ldiv hF (by have := hr a 3; omega) (by decide) (by decide) dX0_credit_11 ?_
  refine q_lstore_n hF (ls' := [(2, qL (((I a 3) * ra).tdiv 120000)), (0, .ref a), (1, qI ra)]) rfl (by decide) rfl dX0_credit_12 ?_
  refine q_lload_n hF 0 rfl rfl dX0_credit_13 ?_
  refine q_ldc hF (n := 100000000) (q_mem 873 (by decide +kernel) rfl) dX0_credit_14 ?_
  refine q_aload_n hF 1 rfl rfl dX0_credit_16 ?_
  refine q_getIv hF (z := I a 3) fl_RX0_21 hT rfl dX0_credit_17 ?_
  refine q_isub hF dX0_credit_20 ?_
  refine q_i2l hF (by have := hr a 3; omega) dX0_credit_21 ?_
  refine q_minl hF (q_mem 874 (by decide +kernel) rfl) (q_mem 605 (by decide +kernel) rfl) (q_mem 55 (by decide +kernel) rfl) (q_mem 606 (by decide +kernel) rfl) (by have := hr a 3; omega) (by have := hr a 3; omega) (Nat.le_of_ble_eq_true rfl) dX0_credit_22 ?_
  refine q_l2i hF dX0_credit_25 ?_
  refine q_istore hF (ls' := [(4, qI (min (((I a 3) * ra).tdiv 120000) (100000000 - (I a 3)))), (2, qL (((I a 3) * ra).tdiv 120000)), (0, .ref a), (1, qI ra)]) (by decide) rfl dX0_credit_26 ?_
  refine q_aload_n hF 2 rfl rfl dX0_credit_28 ?_
  refine q_dup hF rfl dX0_credit_29 ?_
  refine q_getIv hF (z := I a 3) fl_RX0_21 hT rfl dX0_credit_30 ?_
  refine q_iload hF 0 rfl dX0_credit_33 ?_
  refine q_iadd hF dX0_credit_35 ?_
  refine q_putI hF fl_RX0_21 hT hA dX0_credit_36 ?_
  refine q_aload_n hF 2 rfl rfl dX0_credit_39 ?_
  refine q_dup hF rfl dX0_credit_40 ?_
  refine q_getLv hF (z := L a 13) fl_RX0_53 hT rfl dX0_credit_41 ?_
  refine q_iload hF 0 rfl dX0_credit_44 ?_
  refine q_i2l hF (by have := hr a 3; omega) dX0_credit_46 ?_
  refine q_ladd hF dX0_credit_47 ?_
  refine q_putL hF fl_RX0_53 hT hA dX0_credit_48 ?_
  refine q_return hF rfl dX0_credit_51 ?_
  exact k0
