/-! String constants: length, charAt -/
theorem vo_RJ0_335 : q_VO RJ0 335 0 YJ0_coder_7d493 := ⟨⟨(q_mem 1071 (by decide +kernel) rfl), (q_mem 58 (by decide +kernel) rfl), (q_mem 1074 (by decide +kernel) rfl), ⟨by decide, by decide⟩, by decide +kernel, by decide⟩, (q_mem 1072 (by decide +kernel) rfl), (q_mem 1073 (by decide +kernel) rfl)⟩
theorem vo_RJ0_492 : q_VO RJ0 492 0 YJ0_isLatin1_aae02 := ⟨⟨(q_mem 1081 (by decide +kernel) rfl), (q_mem 58 (by decide +kernel) rfl), (q_mem 1084 (by decide +kernel) rfl), ⟨by decide, by decide⟩, by decide +kernel, by decide⟩, (q_mem 1082 (by decide +kernel) rfl), (q_mem 1083 (by decide +kernel) rfl)⟩
theorem vo_RX5_109 : q_VO RX5 109 0 YJ0_length_8abf5 := ⟨⟨(q_mem 1191 (by decide +kernel) rfl), (q_mem 58 (by decide +kernel) rfl), (q_mem 1070 (by decide +kernel) rfl), ⟨by decide, by decide⟩, by decide +kernel, by decide⟩, (q_mem 1068 (by decide +kernel) rfl), (q_mem 1069 (by decide +kernel) rfl)⟩
theorem vo_RX5_115 : q_VO RX5 115 1 YJ0_charAt_5068e := ⟨⟨(q_mem 1192 (by decide +kernel) rfl), (q_mem 58 (by decide +kernel) rfl), (q_mem 1080 (by decide +kernel) rfl), ⟨by decide, by decide⟩, by decide +kernel, by decide⟩, (q_mem 1078 (by decide +kernel) rfl), (q_mem 1079 (by decide +kernel) rfl)⟩
theorem vo_RX5_105 : q_VO RX5 105 3 YX5_stands := ⟨⟨(q_mem 1186 (by decide +kernel) rfl), (q_mem 63 (by decide +kernel) rfl), (q_mem 1190 (by decide +kernel) rfl), ⟨by decide, by decide⟩, by decide +kernel, by decide⟩, (q_mem 1188 (by decide +kernel) rfl), (q_mem 15 (by decide +kernel) rfl)⟩
set_option maxRecDepth 100000 in
theorem mJ0_coder_7d493 {G : q_G} {sz : Nat} {T : q_T} {I L : q_I} {P : q_P} {Q : q_Q}  {i : Nat} (hi : i < 76) (k0 : Q (.inl (some (qI 0))) sz T I L P) : qC G 0 0 0 YJ0_coder_7d493 [.ref (q_KS G i)] sz T I L P Q := by
  refine qC_of (by decide +kernel) rfl rfl (Nat.le_of_ble_eq_true rfl) (fun F hF _ _ => ?_)
  refine q_getsCS hF (q_mem 1075 (by decide +kernel) rfl) dJ0_coder_7d493_0 ?_
  refine q_ifeq hF (by decide) dJ0_coder_7d493_3 (fun c3 => ?_) (fun c3 => ?_)
  · exact absurd c3 (by decide)
  · refine q_aload_n hF 0 rfl rfl dJ0_coder_7d493_6 ?_
    refine q_getCoder hF (i := i) hi (q_mem 1463 (by decide +kernel) rfl) dJ0_coder_7d493_7 ?_
    refine q_goto hF dJ0_coder_7d493_10 ?_
    refine q_creturn hF (by decide) (Or.inr rfl) dJ0_coder_7d493_14 ?_
    exact k0
set_option maxRecDepth 100000 in
theorem mJ0_isLatin1_aae02 {G : q_G} {sz : Nat} {T : q_T} {I L : q_I} {P : q_P} {Q : q_Q}  {i : Nat} (hi : i < 76) (k0 : Q (.inl (some (qI 1))) sz T I L P) : qC G 0 0 0 YJ0_isLatin1_aae02 [.ref (q_KS G i)] sz T I L P Q := by
  refine qC_of (by decide +kernel) rfl rfl (Nat.le_of_ble_eq_true rfl) (fun F hF _ _ => ?_)
  refine q_getsCS hF (q_mem 1075 (by decide +kernel) rfl) dJ0_isLatin1_aae02_0 ?_
  refine q_ifeq hF (by decide) dJ0_isLatin1_aae02_3 (fun c3 => ?_) (fun c3 => ?_)
  · exact absurd c3 (by decide)
  · refine q_aload_n hF 0 rfl rfl dJ0_isLatin1_aae02_6 ?_
    refine q_getCoder hF (i := i) hi (q_mem 1463 (by decide +kernel) rfl) dJ0_isLatin1_aae02_7 ?_
    refine q_ifne hF (by decide) dJ0_isLatin1_aae02_10 (fun c10 => ?_) (fun c10 => ?_)
    · exact absurd c10 (by decide)
    · refine q_iconst hF dJ0_isLatin1_aae02_13 ?_
      refine q_goto hF dJ0_isLatin1_aae02_14 ?_
      refine q_zreturn hF (by decide) rfl dJ0_isLatin1_aae02_18 ?_
      exact k0
theorem q_shr0 {a : Int} (h : 0 ≤ a ∧ a < 100) : Int32.ofInt a >>> (Int32.ofInt 0 &&& 31) = Int32.ofInt a := by
  obtain ⟨n, rfl⟩ : ∃ n : Nat, a = (n : Int) := ⟨a.toNat, by omega⟩
  have hall : ∀ n : Nat, n < 100 → Int32.ofInt (n : Int) >>> (Int32.ofInt 0 &&& 31) = Int32.ofInt (n : Int) := by decide +kernel
  exact hall n (by omega)
theorem q_and255 {a : Int} (h : 0 ≤ a ∧ a < 128) : Int32.ofInt a &&& Int32.ofInt 255 = Int32.ofInt a := by
  obtain ⟨n, rfl⟩ : ∃ n : Nat, a = (n : Int) := ⟨a.toNat, by omega⟩
  have hall : ∀ n : Nat, n < 128 → Int32.ofInt (n : Int) &&& Int32.ofInt 255 = Int32.ofInt (n : Int) := by decide +kernel
  exact hall n (by omega)
set_option maxRecDepth 100000 in
theorem mJ0_length_8abf5 {G : q_G} {sz : Nat} {T : q_T} {I L : q_I} {P : q_P} {Q : q_Q}  {i : Nat} (hi : i < 76) (k0 : Q (.inl (some (qI (g_len i : Int)))) sz T I L P) : qC G 1 0 0 YJ0_length_8abf5 [.ref (q_KS G i)] sz T I L P Q := by
  refine qC_of (by decide +kernel) rfl rfl (Nat.le_of_ble_eq_true rfl) (fun F hF _ _ => ?_)
  refine q_aload_n hF 0 rfl rfl dJ0_length_8abf5_0 ?_
  refine q_getValue hF (i := i) hi (q_mem 1462 (by decide +kernel) rfl) dJ0_length_8abf5_1 ?_
  refine q_lenV hF (i := i) hi dJ0_length_8abf5_4 ?_
  refine q_aload_n hF 0 rfl rfl dJ0_length_8abf5_5 ?_
  refine q_callVO (kc := 0) (ks := 0) (mc' := 0) (ms' := 0) (h' := 0) (st := [qI (g_len i : Int)]) hF vo_RJ0_335 rfl [] rfl rfl (q_O_K hi) (by decide) (Nat.le_of_ble_eq_true rfl) dJ0_length_8abf5_6 ?_
  refine mJ0_coder_7d493 (i := i) hi ?_
  refine q_ishr hF (c0 := (g_len i : Int)) (q_shr0 (by have := g_len_r hi; omega)) dJ0_length_8abf5_9 ?_
  refine q_ireturn hF rfl dJ0_length_8abf5_10 ?_
  exact k0
set_option maxRecDepth 100000 in
theorem mJ3_checkIndex_8e157 {G : q_G} {sz : Nat} {T : q_T} {I L : q_I} {P : q_P} {Q : q_Q} {a : Int} {b : Int} {rq : Option Nat}  (hab : 0 ≤ a ∧ a < b ∧ b < 1000) (k0 : Q (.inl (some (qI a))) sz T I L P) : qC G 0 0 0 YJ3_checkIndex_8e157 [qI a, qI b, qR rq] sz T I L P Q := by
  refine qC_of (by decide +kernel) rfl rfl (by cases rq <;> exact Nat.le_of_ble_eq_true rfl) (fun F hF _ _ => ?_)
  refine q_iload_n hF 0 rfl rfl dJ3_checkIndex_8e157_0 ?_
  refine q_iflt hF (by omega) dJ3_checkIndex_8e157_1 (fun c1 => ?_) (fun c1 => ?_)
  · omega
  · refine q_iload_n hF 0 rfl rfl dJ3_checkIndex_8e157_4 ?_
    refine q_iload_n hF 1 rfl rfl dJ3_checkIndex_8e157_5 ?_
    refine q_icmplt hF (by omega) (by omega) dJ3_checkIndex_8e157_6 (fun c6 => ?_) (fun c6 => ?_)
    · refine q_iload_n hF 0 rfl rfl dJ3_checkIndex_8e157_16 ?_
      refine q_ireturn hF rfl dJ3_checkIndex_8e157_17 ?_
      exact k0
    · omega
set_option maxRecDepth 100000 in
theorem mJ0_checkIndex_df160 {G : q_G} {sz : Nat} {T : q_T} {I L : q_I} {P : q_P} {Q : q_Q} {a : Int} {b : Int}  (hab : 0 ≤ a ∧ a < b ∧ b < 1000) (k0 : Q (.inl none) sz T I L P) : qC G 1 0 0 YJ0_checkIndex_df160 [qI a, qI b] sz T I L P Q := by
  refine qC_of (by decide +kernel) rfl rfl (Nat.le_of_ble_eq_true rfl) (fun F hF _ _ => ?_)
  refine q_iload_n hF 0 rfl rfl dJ0_checkIndex_df160_0 ?_
  refine q_iload_n hF 1 rfl rfl dJ0_checkIndex_df160_1 ?_
  refine q_getsQ hF (q_mem 1091 (by decide +kernel) rfl) dJ0_checkIndex_df160_2 (fun rq => ?_)
  refine q_callS (kc := 0) (ks := 0) (mc' := 0) (ms' := 0) (h' := 0) (st := []) hF sl_RJ0_1059 rfl [qI a, qI b, qR rq] rfl rfl (by decide) (Nat.le_of_ble_eq_true rfl) dJ0_checkIndex_df160_5 ?_
  refine mJ3_checkIndex_8e157 (by omega) ?_
  refine q_pop hF rfl dJ0_checkIndex_df160_8 ?_
  refine q_return hF rfl dJ0_checkIndex_df160_9 ?_
  exact k0
set_option maxRecDepth 100000 in
theorem mJ1_charAt_3b067 {G : q_G} {sz : Nat} {T : q_T} {I L : q_I} {P : q_P} {Q : q_Q}  {i k : Nat} (hi : i < 76) (hk : k < g_len i) (hl : g_len i < 100) (k0 : Q (.inl (some (qI (g_ch i k)))) sz T I L P) : qC G 2 0 0 YJ1_charAt_3b067 [.ref (q_KV G i), qI (k : Int)] sz T I L P Q := by
  refine qC_of (by decide +kernel) rfl rfl (Nat.le_of_ble_eq_true rfl) (fun F hF _ _ => ?_)
  refine q_iload_n hF 1 rfl rfl dJ1_charAt_3b067_0 ?_
  refine q_aload_n hF 0 rfl rfl dJ1_charAt_3b067_1 ?_
  refine q_lenV hF (i := i) hi dJ1_charAt_3b067_2 ?_
  refine q_callS (kc := 0) (ks := 0) (mc' := 0) (ms' := 0) (h' := 1) (st := []) hF sl_RJ1_9 rfl [qI (k : Int), qI (g_len i : Int)] rfl rfl (by decide) (Nat.le_of_ble_eq_true rfl) dJ1_charAt_3b067_3 ?_
  refine mJ0_checkIndex_df160 (by omega) ?_
  refine q_aload_n hF 0 rfl rfl dJ1_charAt_3b067_6 ?_
  refine q_iload_n hF 1 rfl rfl dJ1_charAt_3b067_7 ?_
  refine q_baldV hF (i := i) (j := k) hi rfl hk dJ1_charAt_3b067_8 ?_
  refine q_sipush hF (n := 255) rfl dJ1_charAt_3b067_9 ?_
  refine q_iand hF (c0 := g_ch i k) (q_and255 (g_ch_r hi hk)) dJ1_charAt_3b067_12 ?_
  refine q_i2c hF (by have := g_ch_r hi hk; omega) dJ1_charAt_3b067_13 ?_
  refine q_creturn hF (g_ch_r hi hk) (Or.inl rfl) dJ1_charAt_3b067_14 ?_
  exact k0
set_option maxRecDepth 100000 in
theorem mJ0_charAt_5068e {G : q_G} {sz : Nat} {T : q_T} {I L : q_I} {P : q_P} {Q : q_Q}  {i k : Nat} (hi : i < 76) (hk : k < g_len i) (k0 : Q (.inl (some (qI (g_ch i k)))) sz T I L P) : qC G 3 0 0 YJ0_charAt_5068e [.ref (q_KS G i), qI (k : Int)] sz T I L P Q := by
  refine qC_of (by decide +kernel) rfl rfl (Nat.le_of_ble_eq_true rfl) (fun F hF _ _ => ?_)
  refine q_aload_n hF 0 rfl rfl dJ0_charAt_5068e_0 ?_
  refine q_callVO (kc := 0) (ks := 0) (mc' := 0) (ms' := 0) (h' := 0) (st := []) hF vo_RJ0_492 rfl [] rfl rfl (q_O_K hi) (by decide) (Nat.le_of_ble_eq_true rfl) dJ0_charAt_5068e_1 ?_
  refine mJ0_isLatin1_aae02 (i := i) hi ?_
  refine q_ifeq hF (by decide) dJ0_charAt_5068e_4 (fun c4 => ?_) (fun c4 => ?_)
  · exact absurd c4 (by decide)
  · refine q_aload_n hF 0 rfl rfl dJ0_charAt_5068e_7 ?_
    refine q_getValue hF (i := i) hi (q_mem 1462 (by decide +kernel) rfl) dJ0_charAt_5068e_8 ?_
    refine q_iload_n hF 1 rfl rfl dJ0_charAt_5068e_11 ?_
    refine q_callS (kc := 0) (ks := 0) (mc' := 0) (ms' := 0) (h' := 2) (st := []) hF sl_RJ0_495 rfl [.ref (q_KV G i), qI (k : Int)] rfl rfl (by decide) (Nat.le_of_ble_eq_true rfl) dJ0_charAt_5068e_12 ?_
    refine mJ1_charAt_3b067 (k := k) (i := i) hi hk (g_len_r hi) ?_
    refine q_creturn hF (g_ch_r hi hk) (Or.inl rfl) dJ0_charAt_5068e_15 ?_
    exact k0
