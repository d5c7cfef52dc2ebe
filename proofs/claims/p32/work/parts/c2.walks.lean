/-! walks: draws, the text told -/

theorem q_anyI (v : Int) : ∃ x : Nat, x < 4294967296 ∧ qI v = qI (x : Int) := by
  refine ⟨(Int32.ofInt v).toUInt32.toNat, UInt32.toNat_lt _, congrArg Value.int (q_ux ?_)⟩
  rw [q_un, Nat.mod_eq_of_lt (UInt32.toNat_lt _)]

set_option maxRecDepth 100000 in
theorem mX9_init {G : q_G} {sz : Nat} {T : q_T} {I L : q_I} {P : q_P} {Q : q_Q} {d : Nat} {v : Int}  (hT : T d = some (.inl 8)) (hA : q_A G d) (k0 : Q (.inl none) sz T (u2 I d 0 v) L P) : qC G 1 0 0 YX9_init [.ref d, qI v] sz T I L P Q := by
  refine qC_of (by decide +kernel) rfl rfl (Nat.le_of_ble_eq_true rfl) (fun F hF _ _ => ?_)
  refine q_aload_n hF 0 rfl rfl dX9_init_0 ?_
  refine q_objInit hF (q_mem 432 (by decide +kernel) rfl) (q_mem 71 (by decide +kernel) rfl) (q_mem 72 (by decide +kernel) rfl) (Nat.le_of_ble_eq_true rfl) dX9_init_1 ?_
  refine q_aload_n hF 0 rfl rfl dX9_init_4 ?_
  refine q_iload_n hF 1 rfl rfl dX9_init_5 ?_
  refine q_putI hF fl_RX9_7 hT hA dX9_init_6 ?_
  refine q_return hF rfl dX9_init_9 ?_
  exact k0

set_option maxRecDepth 100000 in
theorem mX9_of {G : q_G} {sz : Nat} {T : q_T} {I L : q_I} {P : q_P} {Q : q_Q} {d : Nat} {x m : Nat} (hT : T d = some (.inl 8)) (hA : q_A G d) (hx : I d 0 = (x : Int)) (hm : 0 < m ∧ m < 2147483648) (k0 : ∀ v : Nat, v = d_nx x / 65536 % m → v < m → Q (.inl (some (qI (v : Int)))) sz T (u2 I d 0 ((d_nx x : Nat) : Int)) L P) : qC G 0 0 0 YX9_of [.ref d, qI (m : Int)] sz T I L P Q := by
  refine qC_of (by decide +kernel) rfl rfl (Nat.le_of_ble_eq_true rfl) (fun F hF _ _ => ?_)
  refine q_aload_n hF 0 rfl rfl dX9_of_0 ?_
  refine q_ldc hF (n := 1103515245) (q_mem 441 (by decide +kernel) rfl) dX9_of_1 ?_
  refine q_aload_n hF 0 rfl rfl dX9_of_3 ?_
  refine q_getIv hF (z := (x : Int)) fl_RX9_7 hT hx dX9_of_4 ?_
  refine q_imul hF dX9_of_7 ?_
  refine q_sipush hF (n := 12345) rfl dX9_of_8 ?_
  refine q_iadd hF dX9_of_11 ?_
  rw [q_nxI x]
  refine q_putI hF fl_RX9_7 hT hA dX9_of_12 ?_
  refine q_aload_n hF 0 rfl rfl dX9_of_15 ?_
  refine q_getIv hF (z := ((d_nx x : Nat) : Int)) fl_RX9_7 hT (u2_s _ _ _ _) dX9_of_16 ?_
  refine q_bipush hF (n := 16) rfl dX9_of_19 ?_
  refine q_iushr hF (c0 := ((d_nx x / 65536 : Nat) : Int)) (q_us16 (d_nx_lt x)) dX9_of_21 ?_
  refine q_iload_n hF 1 rfl rfl dX9_of_22 ?_
  refine q_irem hF (by have := d_nx_lt x; omega) (by have := d_nx_lt x; omega) (by omega) dX9_of_23 ?_
  refine q_ireturn hF rfl dX9_of_24 ?_
  rw [show (((d_nx x / 65536 : Nat) : Int).tmod (m : Int)) = ((d_nx x / 65536 % m : Nat) : Int) from rfl]
  exact k0 _ rfl (Nat.mod_lt _ hm.1)

set_option maxRecDepth 100000 in
theorem mL_feed {G : q_G} {sz : Nat} {T : q_T} {I L : q_I} {P : q_P} {Q : q_Q} {b : Nat} {ta : Nat} {bk tp : Nat} {B : Nat → Int} {R : Nat → Nat → Int} {bs : List Nat} (hA : q_A G b) (hTa : q_A G ta) (hT : T ta = some (.inr (0, 8))) (hE : q_CE T b bk tp B R I L P) (hbt : b + 452 ≤ ta) (h6 : tp + 20 ≤ 600) (hw : q_TW I ta tp bs) (h7 : q_B7 bs) (k0 : ∀ I9 : q_I, q_CE T b bk (20 + tp) (fun i => if tp ≤ i ∧ i < 20 + tp then (g_by bs i : Int) else B i) R I9 L P → (∀ j, j < 5 → I9 ta (1 + j) = 0) → I9 ta 0 = I ta 0 → q_Tk b ta I I9 → Q (.inl none) sz T I9 L P) : qC G 2 0 0 YL_feed [.ref b, .ref ta] sz T I L P Q := by
  refine qC_of (by decide +kernel) rfl rfl (Nat.le_of_ble_eq_true rfl) (fun F hF _ _ => ?_)
  have hf9 : ∀ k : Nat, k < 20 → 0 ≤ g_fed (I ta 1) (I ta 2) (I ta 3) (I ta 4) (I ta 5) k ∧ g_fed (I ta 1) (I ta 2) (I ta 3) (I ta 4) (I ta 5) k ≤ 255 := fun k hk => by
    rw [hw.fed h7 hk]
    have := h7 (tp + k)
    omega
  have hTb := hE.t0
  refine q_aload_n hF 0 rfl rfl dL_feed_0 ?_
  refine q_aload_n hF 1 rfl rfl dL_feed_1 ?_
  refine q_iconst hF dL_feed_2 ?_
  refine q_ialoadv hF (z := I ta 1) (n := 8) 1 hT rfl (by decide) (by decide) rfl dL_feed_3 ?_
  refine q_aload_n hF 1 rfl rfl dL_feed_4 ?_
  refine q_iconst hF dL_feed_5 ?_
  refine q_ialoadv hF (z := I ta 2) (n := 8) 2 hT rfl (by decide) (by decide) rfl dL_feed_6 ?_
  refine q_aload_n hF 1 rfl rfl dL_feed_7 ?_
  refine q_iconst hF dL_feed_8 ?_
  refine q_ialoadv hF (z := I ta 3) (n := 8) 3 hT rfl (by decide) (by decide) rfl dL_feed_9 ?_
  refine q_aload_n hF 1 rfl rfl dL_feed_10 ?_
  refine q_iconst hF dL_feed_11 ?_
  refine q_ialoadv hF (z := I ta 4) (n := 8) 4 hT rfl (by decide) (by decide) rfl dL_feed_12 ?_
  refine q_aload_n hF 1 rfl rfl dL_feed_13 ?_
  refine q_iconst hF dL_feed_14 ?_
  refine q_ialoadv hF (z := I ta 5) (n := 8) 5 hT rfl (by decide) (by decide) rfl dL_feed_15 ?_
  refine q_callV (kc := 0) (ks := 0) (mc' := 0) (ms' := 0) (h' := 1) (st := []) hF vl_RL_15 rfl [qI (I ta 1), qI (I ta 2), qI (I ta 3), qI (I ta 4), qI (I ta 5)] rfl rfl hTb (by decide) (Nat.le_of_ble_eq_true rfl) dL_feed_16 ?_
  refine a_feed hA hE h6 hf9 (fun I1 hE1 hO1 => ?_)
  refine q_pop hF rfl dL_feed_19 ?_
  refine q_iconst hF dL_feed_20 ?_
  refine q_istore_n hF (ls' := [(2, qI 1), (0, .ref b), (1, .ref ta)]) rfl (by decide) rfl dL_feed_21 ?_
  refine q_iload_n hF 0 rfl rfl dL_feed_22 ?_
  refine q_bipush hF (n := 6) rfl dL_feed_23 ?_
  refine q_icmpge hF (by decide) (by decide) dL_feed_25 (fun c25 => ?_) (fun c25 => ?_)
  · exact absurd c25 (by decide)
  · refine q_aload_n hF 2 rfl rfl dL_feed_28 ?_
    refine q_iload_n hF 0 rfl rfl dL_feed_29 ?_
    refine q_iconst hF dL_feed_30 ?_
    refine q_iastorev hF (n := 8) 1 hT hTa rfl (by decide) (by decide) dL_feed_31 ?_
    refine q_iinc hF (z' := 2) (ls' := [(2, qI 2), (0, .ref b), (1, .ref ta)]) 0 rfl (by first | rfl | omega) (by decide) rfl dL_feed_32 ?_
    refine q_goto hF dL_feed_35 ?_
    refine q_iload_n hF 0 rfl rfl dL_feed_22 ?_
    refine q_bipush hF (n := 6) rfl dL_feed_23 ?_
    refine q_icmpge hF (by decide) (by decide) dL_feed_25 (fun c25 => ?_) (fun c25 => ?_)
    · exact absurd c25 (by decide)
    · refine q_aload_n hF 2 rfl rfl dL_feed_28 ?_
      refine q_iload_n hF 0 rfl rfl dL_feed_29 ?_
      refine q_iconst hF dL_feed_30 ?_
      refine q_iastorev hF (n := 8) 2 hT hTa rfl (by decide) (by decide) dL_feed_31 ?_
      refine q_iinc hF (z' := 3) (ls' := [(2, qI 3), (0, .ref b), (1, .ref ta)]) 0 rfl (by first | rfl | omega) (by decide) rfl dL_feed_32 ?_
      refine q_goto hF dL_feed_35 ?_
      refine q_iload_n hF 0 rfl rfl dL_feed_22 ?_
      refine q_bipush hF (n := 6) rfl dL_feed_23 ?_
      refine q_icmpge hF (by decide) (by decide) dL_feed_25 (fun c25 => ?_) (fun c25 => ?_)
      · exact absurd c25 (by decide)
      · refine q_aload_n hF 2 rfl rfl dL_feed_28 ?_
        refine q_iload_n hF 0 rfl rfl dL_feed_29 ?_
        refine q_iconst hF dL_feed_30 ?_
        refine q_iastorev hF (n := 8) 3 hT hTa rfl (by decide) (by decide) dL_feed_31 ?_
        refine q_iinc hF (z' := 4) (ls' := [(2, qI 4), (0, .ref b), (1, .ref ta)]) 0 rfl (by first | rfl | omega) (by decide) rfl dL_feed_32 ?_
        refine q_goto hF dL_feed_35 ?_
        refine q_iload_n hF 0 rfl rfl dL_feed_22 ?_
        refine q_bipush hF (n := 6) rfl dL_feed_23 ?_
        refine q_icmpge hF (by decide) (by decide) dL_feed_25 (fun c25 => ?_) (fun c25 => ?_)
        · exact absurd c25 (by decide)
        · refine q_aload_n hF 2 rfl rfl dL_feed_28 ?_
          refine q_iload_n hF 0 rfl rfl dL_feed_29 ?_
          refine q_iconst hF dL_feed_30 ?_
          refine q_iastorev hF (n := 8) 4 hT hTa rfl (by decide) (by decide) dL_feed_31 ?_
          refine q_iinc hF (z' := 5) (ls' := [(2, qI 5), (0, .ref b), (1, .ref ta)]) 0 rfl (by first | rfl | omega) (by decide) rfl dL_feed_32 ?_
          refine q_goto hF dL_feed_35 ?_
          refine q_iload_n hF 0 rfl rfl dL_feed_22 ?_
          refine q_bipush hF (n := 6) rfl dL_feed_23 ?_
          refine q_icmpge hF (by decide) (by decide) dL_feed_25 (fun c25 => ?_) (fun c25 => ?_)
          · exact absurd c25 (by decide)
          · refine q_aload_n hF 2 rfl rfl dL_feed_28 ?_
            refine q_iload_n hF 0 rfl rfl dL_feed_29 ?_
            refine q_iconst hF dL_feed_30 ?_
            refine q_iastorev hF (n := 8) 5 hT hTa rfl (by decide) (by decide) dL_feed_31 ?_
            refine q_iinc hF (z' := 6) (ls' := [(2, qI 6), (0, .ref b), (1, .ref ta)]) 0 rfl (by first | rfl | omega) (by decide) rfl dL_feed_32 ?_
            refine q_goto hF dL_feed_35 ?_
            refine q_iload_n hF 0 rfl rfl dL_feed_22 ?_
            refine q_bipush hF (n := 6) rfl dL_feed_23 ?_
            refine q_icmpge hF (by decide) (by decide) dL_feed_25 (fun c25 => ?_) (fun c25 => ?_)
            · refine q_return hF rfl dL_feed_38 ?_
              have e : ∀ q k, q ≠ ta → (u2 (u2 (u2 (u2 (u2 I1 ta 1 0) ta 2 0) ta 3 0) ta 4 0) ta 5 0) q k = I1 q k := fun q k h => by rw [u2_a _ _ h, u2_a _ _ h, u2_a _ _ h, u2_a _ _ h, u2_a _ _ h]
              refine k0 _ ((hE1.by' ?_).mv (fun _ _ _ => rfl) (fun q k h1 h2 => e q k (by omega)) (fun _ _ _ _ => rfl) (fun _ _ _ _ => rfl)) ?_ ?_ (fun q k h1 h2 => (e q k h2).trans (hO1.1 q k h1))
              · funext i
                by_cases c : tp ≤ i ∧ i < 20 + tp
                · rw [if_pos c, if_pos c, hw.fed h7 (by omega), show tp + (i - tp) = i by omega]
                · rw [if_neg c, if_neg c]
              · intro j hj
                rcases (show j = 0 ∨ j = 1 ∨ j = 2 ∨ j = 3 ∨ j = 4 by omega) with rfl | rfl | rfl | rfl | rfl <;> simp [u2]
              · rw [u2_k _ _ (by decide), u2_k _ _ (by decide), u2_k _ _ (by decide), u2_k _ _ (by decide), u2_k _ _ (by decide)]
                exact hO1.1 ta 0 (by omega)
            · exact absurd c25 (by decide)

set_option maxRecDepth 100000 in
theorem mL_put {G : q_G} {sz : Nat} {T : q_T} {I L : q_I} {P : q_P} {Q : q_Q} {b : Nat} {ta : Nat} {bk : Nat} {R : Nat → Nat → Int} {bs : List Nat} {x : Nat} (hA : q_A G b) (hTa : q_A G ta) (hB : q_TB T b bk R I L P ta bs) (hx : 1 ≤ x ∧ x < 128) (hl : bs.length < 600) (k0 : ∀ I9 : q_I, q_TB T b bk R I9 L P ta (bs ++ [x]) → q_Tk b ta I I9 → Q (.inl none) sz T I9 L P) : qC G 3 0 0 YL_put [.ref b, .ref ta, qL (x : Int)] sz T I L P Q := by
  refine qC_of (by decide +kernel) rfl rfl (Nat.le_of_ble_eq_true rfl) (fun F hF _ _ => ?_)
  obtain ⟨hT, hbt, h7, h0, hw, B, hE, hBy⟩ := hB
  obtain ⟨n, hn⟩ : ∃ n, bs.length = n := ⟨_, rfl⟩
  rw [hn] at h0 hw hE hBy hl
  obtain ⟨j, hj⟩ : ∃ j, j = n % 20 / 4 := ⟨_, rfl⟩
  obtain ⟨p, hp⟩ : ∃ p, p = n % 4 := ⟨_, rfl⟩
  obtain ⟨tp, htp⟩ : ∃ tp, tp = 20 * (n / 20) := ⟨_, rfl⟩
  rw [← htp] at hw hE hBy
  have hj5 : j < 5 := by omega
  have em20 : (n : Int).tmod 20 = ((n % 20 : Nat) : Int) := rfl
  have em21 : ((n : Int) + 1).tmod 20 = (((n + 1) % 20 : Nat) : Int) := rfl
  have ej : (1 + ((n : Int).tmod 20).tdiv 4) = ((1 + j : Nat) : Int) := by
    rw [Int.tmod_eq_emod_of_nonneg (by omega), Int.tdiv_eq_ediv_of_nonneg (by omega)]; omega
  have ep : (n : Int).tmod 4 = (p : Int) := by
    rw [Int.tmod_eq_emod_of_nonneg (by omega)]; omega
  obtain ⟨W, hW⟩ : ∃ W : Int, W = g_wd4 (bs ++ [x]) (tp + 4 * j) := ⟨_, rfl⟩
  have hOr := hw.put hn htp hj hp h7 hx.2
  rw [← hW] at hOr
  have hW2 : q_TW (u2 (u2 I ta (1 + j) W) ta 0 ((n : Int) + 1)) ta tp (bs ++ [x]) := by rw [hW]; exact hw.put2 hn htp hj
  have hE2 : q_CE T b bk tp B R (u2 (u2 I ta (1 + j) W) ta 0 ((n : Int) + 1)) L P := hE.mv (fun _ _ _ => rfl) (fun q k h1 h2 => by rw [u2_a _ _ (by omega), u2_a _ _ (by omega)]) (fun _ _ _ _ => rfl) (fun _ _ _ _ => rfl)
  have h72 : q_B7 (bs ++ [x]) := h7.app (q_B7.of (fun c hc => by rw [List.mem_singleton.mp hc]; exact hx.2))
  have hlen : (bs ++ [x]).length = n + 1 := by rw [List.length_append, hn]; rfl
  have hx0 : (x : Int) ≠ 0 := by omega
  refine q_bipush hF (n := 7) rfl dL_put_0 ?_
  refine q_istore hF (ls' := [(4, qI 7), (0, .ref b), (1, .ref ta), (2, qL (x : Int))]) (by decide) rfl dL_put_2 ?_
  refine q_iload hF 0 rfl dL_put_4 ?_
  refine q_iflt hF (by decide) dL_put_6 (fun c6 => ?_) (fun c6 => ?_)
  · exact absurd c6 (by decide)
  · refine q_lload_n hF 3 rfl rfl dL_put_9 ?_
    refine q_bipush hF (n := 8) rfl dL_put_10 ?_
    refine q_iload hF 0 rfl dL_put_12 ?_
    refine q_imul hF dL_put_14 ?_
    refine q_lushr hF (c0 := 0) ((q_lush (k := 7) hx.2 (by decide)).trans (by rw [if_neg (by decide)])) dL_put_15 ?_
    refine q_ldc2 hF (n := 255) (q_mem 1118 (by decide +kernel) rfl) dL_put_16 ?_
    refine q_land hF (c0 := 0) (by decide) dL_put_19 ?_
    refine q_l2i hF dL_put_20 ?_
    refine q_istore hF (ls' := [(5, qI 0), (4, qI 7), (0, .ref b), (1, .ref ta), (2, qL (x : Int))]) (by decide) rfl dL_put_21 ?_
    refine q_iload hF 0 rfl dL_put_23 ?_
    refine q_ifne hF (by decide) dL_put_25 (fun c25 => ?_) (fun c25 => ?_)
    · exact absurd c25 (by decide)
    · refine q_goto hF dL_put_28 ?_
      refine q_iinc hF (z' := 6) (ls' := [(4, qI 6), (5, qI 0), (0, .ref b), (1, .ref ta), (2, qL (x : Int))]) 1 rfl (by first | rfl | omega) (by decide) rfl dL_put_81 ?_
      refine q_goto hF dL_put_84 ?_
      refine q_iload hF 0 rfl dL_put_4 ?_
      refine q_iflt hF (by decide) dL_put_6 (fun c6 => ?_) (fun c6 => ?_)
      · exact absurd c6 (by decide)
      · refine q_lload_n hF 4 rfl rfl dL_put_9 ?_
        refine q_bipush hF (n := 8) rfl dL_put_10 ?_
        refine q_iload hF 0 rfl dL_put_12 ?_
        refine q_imul hF dL_put_14 ?_
        refine q_lushr hF (c0 := 0) ((q_lush (k := 6) hx.2 (by decide)).trans (by rw [if_neg (by decide)])) dL_put_15 ?_
        refine q_ldc2 hF (n := 255) (q_mem 1118 (by decide +kernel) rfl) dL_put_16 ?_
        refine q_land hF (c0 := 0) (by decide) dL_put_19 ?_
        refine q_l2i hF dL_put_20 ?_
        refine q_istore hF (ls' := [(5, qI 0), (4, qI 6), (0, .ref b), (1, .ref ta), (2, qL (x : Int))]) (by decide) rfl dL_put_21 ?_
        refine q_iload hF 0 rfl dL_put_23 ?_
        refine q_ifne hF (by decide) dL_put_25 (fun c25 => ?_) (fun c25 => ?_)
        · exact absurd c25 (by decide)
        · refine q_goto hF dL_put_28 ?_
          refine q_iinc hF (z' := 5) (ls' := [(4, qI 5), (5, qI 0), (0, .ref b), (1, .ref ta), (2, qL (x : Int))]) 1 rfl (by first | rfl | omega) (by decide) rfl dL_put_81 ?_
          refine q_goto hF dL_put_84 ?_
          refine q_iload hF 0 rfl dL_put_4 ?_
          refine q_iflt hF (by decide) dL_put_6 (fun c6 => ?_) (fun c6 => ?_)
          · exact absurd c6 (by decide)
          · refine q_lload_n hF 4 rfl rfl dL_put_9 ?_
            refine q_bipush hF (n := 8) rfl dL_put_10 ?_
            refine q_iload hF 0 rfl dL_put_12 ?_
            refine q_imul hF dL_put_14 ?_
            refine q_lushr hF (c0 := 0) ((q_lush (k := 5) hx.2 (by decide)).trans (by rw [if_neg (by decide)])) dL_put_15 ?_
            refine q_ldc2 hF (n := 255) (q_mem 1118 (by decide +kernel) rfl) dL_put_16 ?_
            refine q_land hF (c0 := 0) (by decide) dL_put_19 ?_
            refine q_l2i hF dL_put_20 ?_
            refine q_istore hF (ls' := [(5, qI 0), (4, qI 5), (0, .ref b), (1, .ref ta), (2, qL (x : Int))]) (by decide) rfl dL_put_21 ?_
            refine q_iload hF 0 rfl dL_put_23 ?_
            refine q_ifne hF (by decide) dL_put_25 (fun c25 => ?_) (fun c25 => ?_)
            · exact absurd c25 (by decide)
            · refine q_goto hF dL_put_28 ?_
              refine q_iinc hF (z' := 4) (ls' := [(4, qI 4), (5, qI 0), (0, .ref b), (1, .ref ta), (2, qL (x : Int))]) 1 rfl (by first | rfl | omega) (by decide) rfl dL_put_81 ?_
              refine q_goto hF dL_put_84 ?_
              refine q_iload hF 0 rfl dL_put_4 ?_
              refine q_iflt hF (by decide) dL_put_6 (fun c6 => ?_) (fun c6 => ?_)
              · exact absurd c6 (by decide)
              · refine q_lload_n hF 4 rfl rfl dL_put_9 ?_
                refine q_bipush hF (n := 8) rfl dL_put_10 ?_
                refine q_iload hF 0 rfl dL_put_12 ?_
                refine q_imul hF dL_put_14 ?_
                refine q_lushr hF (c0 := 0) ((q_lush (k := 4) hx.2 (by decide)).trans (by rw [if_neg (by decide)])) dL_put_15 ?_
                refine q_ldc2 hF (n := 255) (q_mem 1118 (by decide +kernel) rfl) dL_put_16 ?_
                refine q_land hF (c0 := 0) (by decide) dL_put_19 ?_
                refine q_l2i hF dL_put_20 ?_
                refine q_istore hF (ls' := [(5, qI 0), (4, qI 4), (0, .ref b), (1, .ref ta), (2, qL (x : Int))]) (by decide) rfl dL_put_21 ?_
                refine q_iload hF 0 rfl dL_put_23 ?_
                refine q_ifne hF (by decide) dL_put_25 (fun c25 => ?_) (fun c25 => ?_)
                · exact absurd c25 (by decide)
                · refine q_goto hF dL_put_28 ?_
                  refine q_iinc hF (z' := 3) (ls' := [(4, qI 3), (5, qI 0), (0, .ref b), (1, .ref ta), (2, qL (x : Int))]) 1 rfl (by first | rfl | omega) (by decide) rfl dL_put_81 ?_
                  refine q_goto hF dL_put_84 ?_
                  refine q_iload hF 0 rfl dL_put_4 ?_
                  refine q_iflt hF (by decide) dL_put_6 (fun c6 => ?_) (fun c6 => ?_)
                  · exact absurd c6 (by decide)
                  · refine q_lload_n hF 4 rfl rfl dL_put_9 ?_
                    refine q_bipush hF (n := 8) rfl dL_put_10 ?_
                    refine q_iload hF 0 rfl dL_put_12 ?_
                    refine q_imul hF dL_put_14 ?_
                    refine q_lushr hF (c0 := 0) ((q_lush (k := 3) hx.2 (by decide)).trans (by rw [if_neg (by decide)])) dL_put_15 ?_
                    refine q_ldc2 hF (n := 255) (q_mem 1118 (by decide +kernel) rfl) dL_put_16 ?_
                    refine q_land hF (c0 := 0) (by decide) dL_put_19 ?_
                    refine q_l2i hF dL_put_20 ?_
                    refine q_istore hF (ls' := [(5, qI 0), (4, qI 3), (0, .ref b), (1, .ref ta), (2, qL (x : Int))]) (by decide) rfl dL_put_21 ?_
                    refine q_iload hF 0 rfl dL_put_23 ?_
                    refine q_ifne hF (by decide) dL_put_25 (fun c25 => ?_) (fun c25 => ?_)
                    · exact absurd c25 (by decide)
                    · refine q_goto hF dL_put_28 ?_
                      refine q_iinc hF (z' := 2) (ls' := [(4, qI 2), (5, qI 0), (0, .ref b), (1, .ref ta), (2, qL (x : Int))]) 1 rfl (by first | rfl | omega) (by decide) rfl dL_put_81 ?_
                      refine q_goto hF dL_put_84 ?_
                      refine q_iload hF 0 rfl dL_put_4 ?_
                      refine q_iflt hF (by decide) dL_put_6 (fun c6 => ?_) (fun c6 => ?_)
                      · exact absurd c6 (by decide)
                      · refine q_lload_n hF 4 rfl rfl dL_put_9 ?_
                        refine q_bipush hF (n := 8) rfl dL_put_10 ?_
                        refine q_iload hF 0 rfl dL_put_12 ?_
                        refine q_imul hF dL_put_14 ?_
                        refine q_lushr hF (c0 := 0) ((q_lush (k := 2) hx.2 (by decide)).trans (by rw [if_neg (by decide)])) dL_put_15 ?_
                        refine q_ldc2 hF (n := 255) (q_mem 1118 (by decide +kernel) rfl) dL_put_16 ?_
                        refine q_land hF (c0 := 0) (by decide) dL_put_19 ?_
                        refine q_l2i hF dL_put_20 ?_
                        refine q_istore hF (ls' := [(5, qI 0), (4, qI 2), (0, .ref b), (1, .ref ta), (2, qL (x : Int))]) (by decide) rfl dL_put_21 ?_
                        refine q_iload hF 0 rfl dL_put_23 ?_
                        refine q_ifne hF (by decide) dL_put_25 (fun c25 => ?_) (fun c25 => ?_)
                        · exact absurd c25 (by decide)
                        · refine q_goto hF dL_put_28 ?_
                          refine q_iinc hF (z' := 1) (ls' := [(4, qI 1), (5, qI 0), (0, .ref b), (1, .ref ta), (2, qL (x : Int))]) 1 rfl (by first | rfl | omega) (by decide) rfl dL_put_81 ?_
                          refine q_goto hF dL_put_84 ?_
                          refine q_iload hF 0 rfl dL_put_4 ?_
                          refine q_iflt hF (by decide) dL_put_6 (fun c6 => ?_) (fun c6 => ?_)
                          · exact absurd c6 (by decide)
                          · refine q_lload_n hF 4 rfl rfl dL_put_9 ?_
                            refine q_bipush hF (n := 8) rfl dL_put_10 ?_
                            refine q_iload hF 0 rfl dL_put_12 ?_
                            refine q_imul hF dL_put_14 ?_
                            refine q_lushr hF (c0 := 0) ((q_lush (k := 1) hx.2 (by decide)).trans (by rw [if_neg (by decide)])) dL_put_15 ?_
                            refine q_ldc2 hF (n := 255) (q_mem 1118 (by decide +kernel) rfl) dL_put_16 ?_
                            refine q_land hF (c0 := 0) (by decide) dL_put_19 ?_
                            refine q_l2i hF dL_put_20 ?_
                            refine q_istore hF (ls' := [(5, qI 0), (4, qI 1), (0, .ref b), (1, .ref ta), (2, qL (x : Int))]) (by decide) rfl dL_put_21 ?_
                            refine q_iload hF 0 rfl dL_put_23 ?_
                            refine q_ifne hF (by decide) dL_put_25 (fun c25 => ?_) (fun c25 => ?_)
                            · exact absurd c25 (by decide)
                            · refine q_goto hF dL_put_28 ?_
                              refine q_iinc hF (z' := 0) (ls' := [(4, qI 0), (5, qI 0), (0, .ref b), (1, .ref ta), (2, qL (x : Int))]) 1 rfl (by first | rfl | omega) (by decide) rfl dL_put_81 ?_
                              refine q_goto hF dL_put_84 ?_
                              refine q_iload hF 0 rfl dL_put_4 ?_
                              refine q_iflt hF (by decide) dL_put_6 (fun c6 => ?_) (fun c6 => ?_)
                              · exact absurd c6 (by decide)
                              · refine q_lload_n hF 4 rfl rfl dL_put_9 ?_
                                refine q_bipush hF (n := 8) rfl dL_put_10 ?_
                                refine q_iload hF 0 rfl dL_put_12 ?_
                                refine q_imul hF dL_put_14 ?_
                                refine q_lushr hF (c0 := (x : Int)) ((q_lush (k := 0) hx.2 (by decide)).trans (by rw [if_pos rfl])) dL_put_15 ?_
                                refine q_ldc2 hF (n := 255) (q_mem 1118 (by decide +kernel) rfl) dL_put_16 ?_
                                refine q_land hF (c0 := (x : Int)) (q_land_n hx.2) dL_put_19 ?_
                                refine q_l2i hF dL_put_20 ?_
                                refine q_istore hF (ls' := [(5, qI (x : Int)), (4, qI 0), (0, .ref b), (1, .ref ta), (2, qL (x : Int))]) (by decide) rfl dL_put_21 ?_
                                refine q_iload hF 0 rfl dL_put_23 ?_
                                refine q_ifne hF (by omega) dL_put_25 (fun c25 => ?_) (fun c25 => ?_)
                                · refine q_aload_n hF 3 rfl rfl dL_put_31 ?_
                                  refine q_iconst hF dL_put_32 ?_
                                  refine q_aload_n hF 3 rfl rfl dL_put_33 ?_
                                  refine q_iconst hF dL_put_34 ?_
                                  refine q_ialoadv hF (z := (n : Int)) (n := 8) 0 hT rfl (by omega) (by decide) h0 dL_put_35 ?_
                                  refine q_bipush hF (n := 20) rfl dL_put_36 ?_
                                  refine q_irem hF (by omega) (by decide) (by decide) dL_put_38 ?_
                                  refine q_iconst hF dL_put_39 ?_
                                  refine q_idiv hF (by omega) (by decide) (by decide) dL_put_40 ?_
                                  refine q_iadd hF dL_put_41 ?_
                                  rw [ej]
                                  refine q_dup2 hF rfl rfl dL_put_42 ?_
                                  refine q_ialoadv hF (z := I ta (1 + j)) (n := 8) (1 + j) hT rfl (by omega) (by decide) rfl dL_put_43 ?_
                                  refine q_iload hF 0 rfl dL_put_44 ?_
                                  refine q_bipush hF (n := 24) rfl dL_put_46 ?_
                                  refine q_bipush hF (n := 8) rfl dL_put_48 ?_
                                  refine q_aload_n hF 3 rfl rfl dL_put_50 ?_
                                  refine q_iconst hF dL_put_51 ?_
                                  refine q_ialoadv hF (z := (n : Int)) (n := 8) 0 hT rfl (by omega) (by decide) h0 dL_put_52 ?_
                                  refine q_iconst hF dL_put_53 ?_
                                  refine q_irem hF (by omega) (by decide) (by decide) dL_put_54 ?_
                                  refine q_imul hF dL_put_55 ?_
                                  refine q_isub hF dL_put_56 ?_
                                  rw [ep]
                                  refine q_ishl hF (c0 := ((x * 2 ^ (24 - 8 * p) : Nat) : Int)) (q_shl_p hx.2 (by omega)) dL_put_57 ?_
                                  refine q_ior hF (c0 := W) hOr dL_put_58 ?_
                                  refine q_iastorev hF (n := 8) (1 + j) hT hTa rfl (by omega) (by decide) dL_put_59 ?_
                                  refine q_aload_n hF 3 rfl rfl dL_put_60 ?_
                                  refine q_iconst hF dL_put_61 ?_
                                  refine q_dup2 hF rfl rfl dL_put_62 ?_
                                  refine q_ialoadv hF (z := (n : Int)) (n := 8) 0 hT rfl (by omega) (by decide) ((u2_k _ _ (by omega)).trans h0) dL_put_63 ?_
                                  refine q_iconst hF dL_put_64 ?_
                                  refine q_iadd hF dL_put_65 ?_
                                  refine q_iastorev hF (n := 8) 0 hT hTa rfl (by omega) (by decide) dL_put_66 ?_
                                  refine q_aload_n hF 3 rfl rfl dL_put_67 ?_
                                  refine q_iconst hF dL_put_68 ?_
                                  refine q_ialoadv hF (z := (n : Int) + 1) (n := 8) 0 hT rfl (by omega) (by decide) (u2_s _ _ _ _) dL_put_69 ?_
                                  refine q_bipush hF (n := 20) rfl dL_put_70 ?_
                                  refine q_irem hF (by omega) (by decide) (by decide) dL_put_72 ?_
                                  refine q_ifne hF (by omega) dL_put_73 (fun c73 => ?_) (fun c73 => ?_)
                                  · refine q_iinc hF (z' := -1) (ls' := [(4, qI (-1)), (5, qI (x : Int)), (0, .ref b), (1, .ref ta), (2, qL (x : Int))]) 1 rfl (by first | rfl | omega) (by decide) rfl dL_put_81 ?_
                                    refine q_goto hF dL_put_84 ?_
                                    refine q_iload hF 0 rfl dL_put_4 ?_
                                    refine q_iflt hF (by decide) dL_put_6 (fun c6 => ?_) (fun c6 => ?_)
                                    · refine q_return hF rfl dL_put_87 ?_
                                      have hz : ¬ (n + 1) % 20 = 0 := fun h => c73 (by rw [Int.tmod_eq_emod_of_nonneg (by omega)]; omega)
                                      refine k0 _ ⟨hT, hbt, h72, ?_, ?_, B, (by rw [hlen, show 20 * ((n + 1) / 20) = tp by omega]; exact hE2), fun k hk => ?_⟩ (fun q k h1 h2 => by rw [u2_a _ _ h2, u2_a _ _ h2])
                                      · rw [u2_s, hlen]; omega
                                      · rw [hlen, show 20 * ((n + 1) / 20) = tp by omega]; exact hW2
                                      · rw [hlen] at hk
                                        rw [hBy k (by omega), g_by_l (by omega)]
                                    · exact absurd c6 (by decide)
                                  · refine q_aload_n hF 2 rfl rfl dL_put_76 ?_
                                    refine q_aload_n hF 3 rfl rfl dL_put_77 ?_
                                    refine q_callS (kc := 0) (ks := 0) (mc' := 0) (ms' := 0) (h' := 2) (st := []) hF sl_RL_9 rfl [.ref b, .ref ta] rfl rfl (by decide) (Nat.le_of_ble_eq_true rfl) dL_put_78 ?_
                                    refine mL_feed hA hTa hT hE2 hbt (by omega) hW2 h72 (fun I2 hE3 hz3 h03 hK3 => ?_)
                                    refine q_iinc hF (z' := -1) (ls' := [(4, qI (-1)), (5, qI (x : Int)), (0, .ref b), (1, .ref ta), (2, qL (x : Int))]) 1 rfl (by first | rfl | omega) (by decide) rfl dL_put_81 ?_
                                    refine q_goto hF dL_put_84 ?_
                                    refine q_iload hF 0 rfl dL_put_4 ?_
                                    refine q_iflt hF (by decide) dL_put_6 (fun c6 => ?_) (fun c6 => ?_)
                                    · refine q_return hF rfl dL_put_87 ?_
                                      have hz : (n + 1) % 20 = 0 := by
                                        have q := c73
                                        rw [Int.tmod_eq_emod_of_nonneg (by omega)] at q
                                        omega
                                      refine k0 _ ⟨hT, hbt, h72, ?_, fun i hi => ?_, _, (by rw [hlen, show 20 * ((n + 1) / 20) = 20 + tp by omega]; exact hE3), fun k hk => ?_⟩ (fun q k h1 h2 => (hK3 q k h1 h2).trans (by rw [u2_a _ _ h2, u2_a _ _ h2]))
                                      · rw [h03, u2_s, hlen]; omega
                                      · rw [hz3 i hi, g_wd4_0 (by rw [hlen]; omega)]
                                      · rw [hlen] at hk
                                        by_cases c : tp ≤ k ∧ k < 20 + tp
                                        · rw [if_pos c]
                                        · rw [if_neg c, hBy k (by omega), g_by_l (by omega)]
                                    · exact absurd c6 (by decide)
                                · exact absurd c25 hx0
