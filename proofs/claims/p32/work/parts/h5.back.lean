/-! all taken back; refusals -/
theorem q_Sd.ou2 {b a0 was l9 sz sz' K : Nat} {T : q_T} {I L I' L' : q_I} {P P' : q_P} {W : Nat → Prop} {r : Nat → Int} (h : q_Sd a0 was l9 T I L P sz W K r) (hO : q_Ou b I L P I' L' P') (hb : b + 452 ≤ a0) (hs : sz ≤ sz') : q_Sd a0 was l9 T I' L' P' sz' W K r := by
  obtain ⟨E, v2, n2, w, m, ρ2, σ2, h1, h2, h3, h4⟩ := h
  exact ⟨E, v2, n2, w, m, ρ2, σ2, h1.mv (fun _ z => z) (fun _ _ => rfl) (fun q j hq => hO.1 q j (by have := h2 q hq; omega)) (fun q j hq => hO.2.1 q j (by have := h2 q hq; omega)) (fun q j hq => hO.2.2 q j (by have := h2 q hq; omega)), fun q hq => by have := h2 q hq; exact ⟨this.1, by omega, this.2.2⟩, h3, h4⟩

set_option maxRecDepth 100000 in
theorem lL_undo {G : q_G} {F : q_F} {h : Nat} {Q : q_Q} {kc ks sz : Nat} {T : q_T} {b d a0 was l9 tp k ta ii b0 : Nat} {B : Nat → Int} {W9 : Nat → Prop}  (hF : q_ok G F YL_law h) (h9 : 30 ≤ h) (hA : q_A G b) (hl3 : l9 ≤ 3) (hTw : T was = some (.inr (9, 16))) (k0 : ∀ (dn sz9 : Nat) (I9 L9 : q_I) (P9 : q_P) (bk : Nat) (R : Nat → Nat → Int), q_CE T b bk tp B R I9 L9 P9 → q_F0 sz9 I9 L9 P9 → (b + 452 ≤ k ∧ k < sz9) → I9 k 0 = (l9 : Int) → R 0 0 = (l9 : Int) → 1 ≤ R 0 1 → qX G F Q kc ks 1031 [(6, .ref k), (3, .ref b), (2, qI (ii : Int)), (1, qI 1), (0, .ref b0)] [] sz9 T I9 L9 P9) : ∀ (n : Nat) (bc : Nat) (dn : Nat) (sz9 : Nat) (I9 L9 : q_I) (P9 : q_P) (bk : Nat) (R : Nat → Nat → Int), bc < n → q_CE T b bk tp B R I9 L9 P9 → q_F0 sz9 I9 L9 P9 → b + 452 ≤ a0 ∧ a0 ≤ was ∧ was < sz9 ∧ b + 452 ≤ k ∧ k < sz9 → bc ≤ bk ∧ bc ≤ 8 ∧ bc ≤ dn ∧ dn ≤ 16 → I9 k 0 = (l9 : Int) → R 0 0 = (l9 : Int) → 1 ≤ R 0 1 → (∀ u, u < bc → ∃ K, P9 was (dn - 1 - u) = some K ∧ q_Sd a0 was l9 T I9 L9 P9 sz9 W9 K (R (bk - u))) → qX G F Q (kc + 320 * bc) (ks + 1920 * bc) 986 [(9, qI (bc : Int)), (8, qI (dn : Int)), (7, .ref was), (6, .ref k), (5, .ref d), (4, .ref ta), (3, .ref b), (2, qI (ii : Int)), (1, qI 1), (0, .ref b0)] [] sz9 T I9 L9 P9 := by
  intro n
  induction n with
  | zero => intro bc dn sz9 I9 L9 P9 bk R hn; exact absurd hn (Nat.not_lt_zero _)
  | succ n ih =>
    intro bc dn sz9 I9 L9 P9 bk R hn hE hZ hlay hbc hk0 hl9 h1 hSv
    refine q_iload hF 0 rfl dL_law_986 ?_
    refine q_ifle hF (by omega) dL_law_988 (fun c988 => ?_) (fun c988 => ?_)
    · refine q_sub [3, 6, 7, 8, 9] rfl ?_
      exact qX.room (kc := kc) (ks := ks) (by omega) (by omega) (k0 dn sz9 I9 L9 P9 bk R hE hZ ⟨hlay.2.2.2.1, hlay.2.2.2.2⟩ hk0 hl9 h1)
    · have hb8 := hE.bk8
      obtain ⟨bn, hbn⟩ : ∃ bn, bk = 1 + bn := ⟨bk - 1, by omega⟩
      obtain ⟨K9, hK9, hSd⟩ := hSv 0 (by omega)
      rw [Nat.sub_zero] at hK9
      have hO9 : q_OT T P9 K9 := by obtain ⟨E, v2, n2, w, m, ρ2, σ2, a1, a2, a3, a4⟩ := hSd; exact a1.ot
      refine qX.room (kc := kc + 320 * (bc - 1) + 320) (ks := ks + 1920 * (bc - 1) + 1920) (by omega) (by omega) ?_
      refine q_iload_n hF 8 rfl rfl dL_law_991 ?_
      refine q_ifeq hF (by decide) dL_law_992 (fun c992 => ?_) (fun c992 => ?_)
      · exact absurd c992 (by decide)
      · refine q_iinc hF (z' := (bc : Int) + (-1)) (ls' := [(9, qI ((bc : Int) + (-1))), (8, qI (dn : Int)), (7, .ref was), (6, .ref k), (5, .ref d), (4, .ref ta), (3, .ref b), (2, qI (ii : Int)), (1, qI 1), (0, .ref b0)]) 0 rfl (by first | rfl | omega) (by decide) rfl dL_law_995 ?_
        rw [show (bc : Int) + -1 = ((bc - 1 : Nat) : Int) by omega]
        refine q_iinc hF (z' := (dn : Int) + (-1)) (ls' := [(8, qI ((dn : Int) + (-1))), (9, qI ((bc - 1 : Nat) : Int)), (7, .ref was), (6, .ref k), (5, .ref d), (4, .ref ta), (3, .ref b), (2, qI (ii : Int)), (1, qI 1), (0, .ref b0)]) 1 rfl (by first | rfl | omega) (by decide) rfl dL_law_998 ?_
        rw [show (dn : Int) + -1 = ((dn - 1 : Nat) : Int) by omega]
        refine q_aload_n hF 6 rfl rfl dL_law_1001 ?_
        refine q_callV (kc := kc + 320 * (bc - 1) + 320) (ks := ks + 1920 * (bc - 1) + 1920) (mc' := 0) (ms' := 0) (h' := 0) (st := []) hF vl_RL_324 rfl [] rfl rfl hE.t0 (by omega) (Nat.le_of_ble_eq_true rfl) dL_law_1002 ?_
        refine a_undo (n := bn) hA hE hbn (fun M P2 c1002_0 c1002_1 => ?_)
        refine q_iload hF 1 rfl dL_law_1005 ?_
        refine q_icmplt hF (by omega) (by omega) dL_law_1007 (fun c1007 => ?_) (fun c1007 => ?_)
        · omega
        · refine q_aload_n hF 6 rfl rfl dL_law_1010 ?_
          refine q_aload hF 2 rfl dL_law_1011 ?_
          refine q_iload hF 0 rfl dL_law_1013 ?_
          refine q_aaloadv hF (b := K9) (((dn - 1 : Nat) : Int).toNat) hTw (by decide) (by omega) (by omega) (by decide) ((c1002_1.2.2 _ _ (by omega)).trans hK9) dL_law_1015 ?_
          have hS2 := hSd.ou2 c1002_1 hlay.1 (Nat.le_refl sz9)
          obtain ⟨E, v2, n2, w, m, ρ2, σ2, hW9, hE9, hr9, hr8, hr7⟩ := hS2
          rw [Nat.sub_zero, hbn] at hW9 hr9 hr8 hr7
          refine q_callS (kc := kc + 320 * (bc - 1)) (ks := ks + 1920 * (bc - 1)) (mc' := 320) (ms' := 1920) (h' := 10) (st := []) hF sl_RL_338 rfl [.ref b, .ref K9] rfl rfl (by omega) (Nat.le_of_ble_eq_true rfl) dL_law_1016 ?_
          refine mL_isAs (R := fun j => if j = 0 then R (1 + bn) else R j) hA hW9 (fun q hq => by have := hE9 q hq; omega) (c1002_0.ro 0 (Nat.zero_le _)) c1002_0 hr9 hl3 hr8 (fun sz4 I4 L4 c1016_0 c1016_1 c1016_2 => ?_)
          refine q_ifeq hF (by decide) dL_law_1019 (fun c1019 => ?_) (fun c1019 => ?_)
          · exact absurd c1019 (by decide)
          · refine q_iconst hF dL_law_1022 ?_
            refine q_goto hF dL_law_1023 ?_
            refine q_istore_n hF (ls' := [(1, qI 1), (8, qI ((dn - 1 : Nat) : Int)), (9, qI ((bc - 1 : Nat) : Int)), (7, .ref was), (6, .ref k), (5, .ref d), (4, .ref ta), (3, .ref b), (2, qI (ii : Int)), (0, .ref b0)]) rfl (by decide) rfl dL_law_1027 ?_
            refine q_goto hF dL_law_1028 ?_
            refine q_sub [2, 1, 3, 4, 5, 6, 7, 8, 0, 9] rfl ?_
            have hou := c1002_1.tr c1016_2
            have hk4 : I4 k 0 = (l9 : Int) := (hou.1 _ _ (by omega)).trans hk0
            exact ih (bc - 1) (dn - 1) sz4 I4 L4 P2 bn (fun j => if j = 0 then R (1 + bn) else R j) (by omega) c1016_1 (fun q j hq => ⟨(hou.1 q j (by omega)).trans (hZ q j (by omega)).1, (hou.2.1 q j (by omega)).trans (hZ q j (by omega)).2.1, (hou.2.2 q j (by omega)).trans (hZ q j (by omega)).2.2⟩) ⟨hlay.1, hlay.2.1, by omega, hlay.2.2.2.1, by omega⟩ ⟨by omega, by omega, by omega, by omega⟩ hk4 hr9 hr7 (fun u hu => by
              obtain ⟨K, k1, k2⟩ := hSv (u + 1) (by omega)
              refine ⟨K, ?_, ?_⟩
              · rw [show dn - 1 - 1 - u = dn - 1 - (u + 1) by omega]
                exact (c1002_1.2.2 _ _ (by omega)).trans k1
              · rw [if_neg (by omega), show bn - u = bk - (u + 1) by omega]
                exact (k2.ou2 c1002_1 hlay.1 (Nat.le_refl _)).ou2 c1016_2 hlay.1 c1016_0)

set_option maxRecDepth 100000 in
theorem lL_end {G : q_G} {F : q_F} {h : Nat} {Q : q_Q} {kc ks sz : Nat} {T : q_T} {I L : q_I} {P : q_P} {b l9 tp k ii b0 bk : Nat} {B : Nat → Int} {R : Nat → Nat → Int}  (hF : q_ok G F YL_law h) (h9 : 30 ≤ h) (hA : q_A G b) (hE : q_CE T b bk tp B R I L P) (hZ : q_F0 sz I L P) (hkz : b + 452 ≤ k ∧ k < sz) (hTk : T k = some (.inl 9)) (hk0 : I k 0 = (l9 : Int)) (hl9 : R 0 0 = (l9 : Int)) (hl3 : 1 ≤ l9 ∧ l9 ≤ 3) (h1 : 1 ≤ R 0 1) (k0 : ∀ (s9 : Nat) (I9 : q_I), sz ≤ s9 → q_F0 s9 I9 L P → qX G F Q kc ks 1227 [(2, qI (ii : Int)), (1, qI 1), (0, .ref b0)] [] s9 T I9 L P) : qX G F Q (kc + 15) (ks + 90) 1031 [(6, .ref k), (3, .ref b), (2, qI (ii : Int)), (1, qI 1), (0, .ref b0)] [] sz T I L P := by
  have hro := hE.ro 0 (Nat.zero_le _)
  have hmy := hro.1.1.many
  refine q_iload_n hF 3 rfl rfl dL_law_1031 ?_
  refine q_ifeq hF (by decide) dL_law_1032 (fun c1032 => ?_) (fun c1032 => ?_)
  · exact absurd c1032 (by decide)
  · refine q_aload_n hF 1 rfl rfl dL_law_1035 ?_
    refine q_bipush hF (n := 12) rfl dL_law_1036 ?_
    refine q_callSH (kc := kc + 14) (ks := ks + 84) (mc' := 1) (ms' := 6) (h' := 5) (st := []) hF sl_RL_349 rfl [.ref b, qI 12] rfl rfl (by omega) (Nat.le_of_ble_eq_true rfl) dL_law_1038 ?_
    refine a_contact0 hA hE (by decide) (by omega) (fun s9_1 I9_1 c1038_0_1 c1038_1_1 c1038_2_1 => ?_)
    refine q_ldc hF (n := -2000000096) (q_mem 789 (by decide +kernel) rfl) dL_law_1041 ?_
    refine q_icmpne_s hF (a := -2000000096) dL_law_1043 ?_
    refine q_aload_n hF 1 rfl rfl dL_law_1046 ?_
    refine q_iconst hF dL_law_1047 ?_
    refine q_iconst hF dL_law_1048 ?_
    refine q_iconst hF dL_law_1049 ?_
    refine q_iconst hF dL_law_1050 ?_
    refine q_callSH (kc := kc + 13) (ks := ks + 78) (mc' := 1) (ms' := 6) (h' := 5) (st := []) hF sl_RL_238 rfl [.ref b, qI 5, qI (-1), qI (-1), qI 0] rfl rfl (by omega) (Nat.le_of_ble_eq_true rfl) dL_law_1051 ?_
    refine a_open1 hA c1038_1_1 (by decide) (by decide) (by decide) (by decide) ⟨Or.inl rfl, Or.inl rfl⟩ (by omega) (fun s9_2 I9_2 c1051_0_2 c1051_1_2 c1051_2_2 => ?_)
    refine q_ldc hF (n := -2000000098) (q_mem 790 (by decide +kernel) rfl) dL_law_1054 ?_
    refine q_icmpne_s hF (a := -2000000098) dL_law_1056 ?_
    refine q_aload_n hF 1 rfl rfl dL_law_1059 ?_
    refine q_iconst hF dL_law_1060 ?_
    refine q_iconst hF dL_law_1061 ?_
    refine q_iconst hF dL_law_1062 ?_
    refine q_ldcw hF (n := 100000001) (q_mem 1443 (by decide +kernel) rfl) dL_law_1063 ?_
    refine q_callSH (kc := kc + 12) (ks := ks + 72) (mc' := 1) (ms' := 6) (h' := 5) (st := []) hF sl_RL_238 rfl [.ref b, qI 0, qI (-1), qI (-1), qI 100000001] rfl rfl (by omega) (Nat.le_of_ble_eq_true rfl) dL_law_1066 ?_
    refine a_open1 hA c1051_1_2 (by decide) (by decide) (by decide) (by decide) ⟨Or.inl rfl, Or.inl rfl⟩ (by omega) (fun s9_3 I9_3 c1066_0_3 c1066_1_3 c1066_2_3 => ?_)
    refine q_ldc hF (n := -2000000098) (q_mem 790 (by decide +kernel) rfl) dL_law_1069 ?_
    refine q_icmpne_s hF (a := -2000000098) dL_law_1071 ?_
    refine q_aload_n hF 1 rfl rfl dL_law_1074 ?_
    refine q_iconst hF dL_law_1075 ?_
    refine q_aload hF 0 rfl dL_law_1076 ?_
    refine q_getIv hF (z := (l9 : Int)) fl_RL_150 hTk ((c1066_2_3.1 _ _ (by omega)).trans ((c1051_2_2.1 _ _ (by omega)).trans ((c1038_2_1.1 _ _ (by omega)).trans hk0))) dL_law_1078 ?_
    refine q_iconst hF dL_law_1081 ?_
    refine q_iconst hF dL_law_1082 ?_
    refine q_callSH (kc := kc + 11) (ks := ks + 66) (mc' := 1) (ms' := 6) (h' := 5) (st := []) hF sl_RL_238 rfl [.ref b, qI 0, qI (l9 : Int), qI (-1), qI 0] rfl rfl (by omega) (Nat.le_of_ble_eq_true rfl) dL_law_1083 ?_
    refine a_open0 hA c1066_1_3 (by decide) (by omega) (by decide) (by decide) (by omega) (fun s9_4 I9_4 c1083_0_4 c1083_1_4 c1083_2_4 => ?_)
    refine q_ldc hF (n := -2000000096) (q_mem 789 (by decide +kernel) rfl) dL_law_1086 ?_
    refine q_icmpne_s hF (a := -2000000096) dL_law_1088 ?_
    refine q_aload_n hF 1 rfl rfl dL_law_1091 ?_
    refine q_iconst hF dL_law_1092 ?_
    refine q_iconst hF dL_law_1093 ?_
    refine q_callSH (kc := kc + 10) (ks := ks + 60) (mc' := 1) (ms' := 6) (h' := 5) (st := []) hF sl_RL_351 rfl [.ref b, qI 0, qI 0] rfl rfl (by omega) (Nat.le_of_ble_eq_true rfl) dL_law_1094 ?_
    refine a_deposit1 hA c1083_1_4 (i := 0) (by omega) (by decide) (by decide) (fun s9_5 I9_5 c1094_0_5 c1094_1_5 c1094_2_5 => ?_)
    refine q_ldc hF (n := -2000000098) (q_mem 790 (by decide +kernel) rfl) dL_law_1097 ?_
    refine q_icmpne_s hF (a := -2000000098) dL_law_1099 ?_
    refine q_aload_n hF 1 rfl rfl dL_law_1102 ?_
    refine q_iconst hF dL_law_1103 ?_
    refine q_ldcw hF (n := 1000001) (q_mem 1444 (by decide +kernel) rfl) dL_law_1104 ?_
    refine q_callSH (kc := kc + 9) (ks := ks + 54) (mc' := 1) (ms' := 6) (h' := 5) (st := []) hF sl_RL_353 rfl [.ref b, qI 0, qI 1000001] rfl rfl (by omega) (Nat.le_of_ble_eq_true rfl) dL_law_1107 ?_
    refine a_draw1 hA c1094_1_5 (i := 0) (by omega) (by decide) (by decide) (fun s9_6 I9_6 c1107_0_6 c1107_1_6 c1107_2_6 => ?_)
    refine q_ldc hF (n := -2000000098) (q_mem 790 (by decide +kernel) rfl) dL_law_1110 ?_
    refine q_icmpne_s hF (a := -2000000098) dL_law_1112 ?_
    refine q_aload_n hF 1 rfl rfl dL_law_1115 ?_
    refine q_iconst hF dL_law_1116 ?_
    refine q_aload hF 0 rfl dL_law_1117 ?_
    refine q_getIv hF (z := (l9 : Int)) fl_RL_150 hTk ((c1107_2_6.1 _ _ (by omega)).trans ((c1094_2_5.1 _ _ (by omega)).trans ((c1083_2_4.1 _ _ (by omega)).trans ((c1066_2_3.1 _ _ (by omega)).trans ((c1051_2_2.1 _ _ (by omega)).trans ((c1038_2_1.1 _ _ (by omega)).trans hk0)))))) dL_law_1119 ?_
    refine q_callSH (kc := kc + 8) (ks := ks + 48) (mc' := 1) (ms' := 6) (h' := 5) (st := []) hF sl_RL_355 rfl [.ref b, qI 0, qI (l9 : Int)] rfl rfl (by omega) (Nat.le_of_ble_eq_true rfl) dL_law_1122 ?_
    refine a_address1 hA c1107_1_6 (i := 0) (by omega) (by omega) (by omega) (fun s9_7 I9_7 c1122_0_7 c1122_1_7 c1122_2_7 => ?_)
    refine q_ldc hF (n := -2000000096) (q_mem 789 (by decide +kernel) rfl) dL_law_1125 ?_
    refine q_icmpne_s hF (a := -2000000096) dL_law_1127 ?_
    refine q_aload_n hF 1 rfl rfl dL_law_1130 ?_
    refine q_iconst hF dL_law_1131 ?_
    refine q_callSH (kc := kc + 7) (ks := ks + 42) (mc' := 1) (ms' := 6) (h' := 8) (st := []) hF sl_RL_346 rfl [.ref b, qI 0] rfl rfl (by omega) (Nat.le_of_ble_eq_true rfl) dL_law_1132 ?_
    refine a_months1 hA c1122_1_7 (by decide) (by decide) (fun s9_8 I9_8 c1132_0_8 c1132_1_8 c1132_2_8 => ?_)
    refine q_ldc hF (n := -2000000098) (q_mem 790 (by decide +kernel) rfl) dL_law_1135 ?_
    refine q_icmpne_s hF (a := -2000000098) dL_law_1137 ?_
    refine q_aload_n hF 1 rfl rfl dL_law_1140 ?_
    refine q_bipush hF (n := 121) rfl dL_law_1141 ?_
    refine q_callSH (kc := kc + 6) (ks := ks + 36) (mc' := 1) (ms' := 6) (h' := 8) (st := []) hF sl_RL_346 rfl [.ref b, qI 121] rfl rfl (by omega) (Nat.le_of_ble_eq_true rfl) dL_law_1143 ?_
    refine a_months1 hA c1132_1_8 (by decide) (by decide) (fun s9_9 I9_9 c1143_0_9 c1143_1_9 c1143_2_9 => ?_)
    refine q_ldc hF (n := -2000000098) (q_mem 790 (by decide +kernel) rfl) dL_law_1146 ?_
    refine q_icmpne_s hF (a := -2000000098) dL_law_1148 ?_
    refine q_aload_n hF 1 rfl rfl dL_law_1151 ?_
    refine q_bipush hF (n := 10) rfl dL_law_1152 ?_
    refine q_callSH (kc := kc + 5) (ks := ks + 30) (mc' := 1) (ms' := 6) (h' := 4) (st := []) hF sl_RL_241 rfl [.ref b, qI 10] rfl rfl (by omega) (Nat.le_of_ble_eq_true rfl) dL_law_1154 ?_
    refine a_told1 hA c1143_1_9 (by decide) (by decide) (fun s9_10 I9_10 c1154_0_10 c1154_1_10 c1154_2_10 => ?_)
    refine q_ldc hF (n := -2000000098) (q_mem 790 (by decide +kernel) rfl) dL_law_1157 ?_
    refine q_icmpne_s hF (a := -2000000098) dL_law_1159 ?_
    refine q_aload_n hF 1 rfl rfl dL_law_1162 ?_
    refine q_aload hF 0 rfl dL_law_1163 ?_
    refine q_getIv hF (z := (l9 : Int)) fl_RL_150 hTk ((c1154_2_10.1 _ _ (by omega)).trans ((c1143_2_9.1 _ _ (by omega)).trans ((c1132_2_8.1 _ _ (by omega)).trans ((c1122_2_7.1 _ _ (by omega)).trans ((c1107_2_6.1 _ _ (by omega)).trans ((c1094_2_5.1 _ _ (by omega)).trans ((c1083_2_4.1 _ _ (by omega)).trans ((c1066_2_3.1 _ _ (by omega)).trans ((c1051_2_2.1 _ _ (by omega)).trans ((c1038_2_1.1 _ _ (by omega)).trans hk0)))))))))) dL_law_1165 ?_
    refine q_iconst hF dL_law_1168 ?_
    refine q_callSH (kc := kc + 4) (ks := ks + 24) (mc' := 1) (ms' := 6) (h' := 6) (st := []) hF sl_RL_297 rfl [.ref b, qI (l9 : Int), qI 0] rfl rfl (by omega) (Nat.le_of_ble_eq_true rfl) dL_law_1169 ?_
    refine a_land0 hA c1154_1_10 (by omega) (by omega) (fun s9_11 I9_11 c1169_0_11 c1169_1_11 c1169_2_11 => ?_)
    refine q_ldc hF (n := -2000000096) (q_mem 789 (by decide +kernel) rfl) dL_law_1172 ?_
    refine q_icmpne_s hF (a := -2000000096) dL_law_1174 ?_
    refine q_aload_n hF 1 rfl rfl dL_law_1177 ?_
    refine q_iconst hF dL_law_1178 ?_
    refine q_callSH (kc := kc + 3) (ks := ks + 18) (mc' := 1) (ms' := 6) (h' := 4) (st := []) hF sl_RL_314 rfl [.ref b, qI 5] rfl rfl (by omega) (Nat.le_of_ble_eq_true rfl) dL_law_1179 ?_
    refine a_pays1 hA c1169_1_11 (by decide) (by decide) (fun s9_12 I9_12 c1179_0_12 c1179_1_12 c1179_2_12 => ?_)
    refine q_ldc hF (n := -2000000098) (q_mem 790 (by decide +kernel) rfl) dL_law_1182 ?_
    refine q_icmpne_s hF (a := -2000000098) dL_law_1184 ?_
    refine q_aload_n hF 1 rfl rfl dL_law_1187 ?_
    refine q_iconst hF dL_law_1188 ?_
    refine q_callSH (kc := kc + 2) (ks := ks + 12) (mc' := 1) (ms' := 6) (h' := 5) (st := []) hF sl_RL_357 rfl [.ref b, qI (-1)] rfl rfl (by omega) (Nat.le_of_ble_eq_true rfl) dL_law_1189 ?_
    refine a_claim0 hA c1179_1_12 (by decide) (by omega) (fun s9_13 I9_13 c1189_0_13 c1189_1_13 c1189_2_13 => ?_)
    refine q_ldc2 hF (n := -2000000096) (q_mem 953 (by decide +kernel) rfl) dL_law_1192 ?_
    refine q_cmpne_s hF (a := -2000000096) dL_law_1195 dL_law_1196 ?_
    refine q_aload_n hF 1 rfl rfl dL_law_1199 ?_
    refine q_bipush hF (n := 99) rfl dL_law_1200 ?_
    refine q_callSH (kc := kc + 1) (ks := ks + 6) (mc' := 1) (ms' := 6) (h' := 5) (st := []) hF sl_RL_359 rfl [.ref b, qI 99] rfl rfl (by omega) (Nat.le_of_ble_eq_true rfl) dL_law_1202 ?_
    refine a_pass0 hA c1189_1_13 (by decide) (by omega) (fun s9_14 I9_14 c1202_0_14 c1202_1_14 c1202_2_14 => ?_)
    refine q_ldc hF (n := -2000000096) (q_mem 789 (by decide +kernel) rfl) dL_law_1205 ?_
    refine q_icmpne_s hF (a := -2000000096) dL_law_1207 ?_
    refine q_aload_n hF 1 rfl rfl dL_law_1210 ?_
    refine q_bipush hF (n := 13) rfl dL_law_1211 ?_
    refine q_callSH (kc := kc) (ks := ks) (mc' := 1) (ms' := 6) (h' := 5) (st := []) hF sl_RL_361 rfl [.ref b, qI 13] rfl rfl (by omega) (Nat.le_of_ble_eq_true rfl) dL_law_1213 ?_
    refine a_close0 hA c1202_1_14 (by decide) (by omega) (fun s9_15 I9_15 c1213_0_15 c1213_1_15 c1213_2_15 => ?_)
    refine q_ldc hF (n := -2000000096) (q_mem 789 (by decide +kernel) rfl) dL_law_1216 ?_
    refine q_icmpne_s hF (a := -2000000096) dL_law_1218 ?_
    refine q_iconst hF dL_law_1221 ?_
    refine q_goto hF dL_law_1222 ?_
    refine q_istore_n hF (ls' := [(1, qI 1), (6, .ref k), (3, .ref b), (2, qI (ii : Int)), (0, .ref b0)]) rfl (by decide) rfl dL_law_1226 ?_
    refine q_sub [3, 0, 4] rfl ?_
    have hoa := ((((((((((((((c1038_2_1.tr c1051_2_2).tr c1066_2_3).tr c1083_2_4).tr c1094_2_5).tr c1107_2_6).tr c1122_2_7).tr c1132_2_8).tr c1143_2_9).tr c1154_2_10).tr c1169_2_11).tr c1179_2_12).tr c1189_2_13).tr c1202_2_14).tr c1213_2_15)
    exact k0 _ _ (by omega) (fun q j hq => ⟨(hoa.1 q j (by omega)).trans (hZ q j (by omega)).1, (hZ q j (by omega)).2⟩)
