/-! bytes on the tape, of both -/
def g_pick (v1 v2 v3 v4 v5 : Int) (k : Nat) : Int := if k < 4 then v1 else if k < 8 then v2 else if k < 12 then v3 else if k < 16 then v4 else v5
def g_fed (v1 v2 v3 v4 v5 : Int) (k : Nat) : Int := g_and (g_shr (g_pick v1 v2 v3 v4 v5 k) (24 - (8 * ((k : Int).tmod 4)))) 255
def g_byu (v : Int) (i : Nat) : Int := g_and (g_ushr v (24 - (8 * (i : Int)))) 255
theorem g_and_255 (x y : Int32) (h : ∀ i, i < 8 → x.toBitVec.getLsbD i = y.toBitVec.getLsbD i) : x &&& Int32.ofInt 255 = y &&& Int32.ofInt 255 := by
  apply Int32.toBitVec_inj.mp
  apply BitVec.eq_of_getLsbD_eq
  intro i hi
  have e : (Int32.ofInt 255).toBitVec.getLsbD i = decide (i < 8) := by
    have q : ∀ i : Fin 32, (Int32.ofInt 255).toBitVec.getLsbD i.val = decide (i.val < 8) := by decide
    exact q ⟨i, hi⟩
  simp only [Int32.toBitVec_and, BitVec.getLsbD_and, e]
  by_cases c : i < 8
  · rw [h i c]
  · simp [c]
theorem g_byu_eq (v : Int) {i : Nat} (hi : i < 4) : g_byu v i = g_and (g_shr v (24 - (8 * (i : Int)))) 255 := by
  unfold g_byu g_and g_ushr g_shr
  rw [Int32.ofInt_toInt, Int32.ofInt_toInt]
  congr 1
  apply g_and_255
  intro j hj
  have q : ∀ s : Nat, s ≤ 24 → ((((Int32.ofInt v).toUInt32 >>> (UInt32.ofNat s)).toInt32).toBitVec.getLsbD j = (Int32.ofInt v >>> (Int32.ofNat s)).toBitVec.getLsbD j) := by
    intro s hs
    have e1 : (((Int32.ofInt v).toUInt32 >>> (UInt32.ofNat s)).toInt32).toBitVec = (Int32.ofInt v).toBitVec >>> s := by
      show ((Int32.ofInt v).toUInt32 >>> (UInt32.ofNat s)).toBitVec = _
      rw [UInt32.toBitVec_shiftRight]
      show (Int32.ofInt v).toBitVec >>> ((UInt32.ofNat s).toBitVec % 32) = _
      rw [BitVec.ushiftRight_eq']
      congr 1
      show ((BitVec.ofNat 32 s) % 32#32).toNat = s
      rw [BitVec.toNat_umod, BitVec.toNat_ofNat]
      show s % 2 ^ 32 % 32 = s
      omega
    have e2 : (Int32.ofInt v >>> (Int32.ofNat s)).toBitVec = (Int32.ofInt v).toBitVec.sshiftRight s := by
      rw [Int32.toBitVec_shiftRight]
      show BitVec.sshiftRight _ _ = _
      congr 1
      show ((Int32.ofNat s).toBitVec.smod 32).toNat = s
      have q : ∀ s : Fin 25, ((Int32.ofNat s.val).toBitVec.smod 32).toNat = s.val := by decide
      exact q ⟨s, by omega⟩
    rw [e1, e2, BitVec.getLsbD_ushiftRight, BitVec.getLsbD_sshiftRight]
    simp [show j < 32 by omega, show s + j < 32 by omega]
  have h4 : i = 0 ∨ i = 1 ∨ i = 2 ∨ i = 3 := by omega
  rcases h4 with rfl | rfl | rfl | rfl
  · exact q 24 (by decide)
  · exact q 16 (by decide)
  · exact q 8 (by decide)
  · exact q 0 (by decide)
theorem g_fed_at (v1 v2 v3 v4 v5 : Int) : (∀ i, i < 4 → g_fed v1 v2 v3 v4 v5 i = g_byu v1 i) ∧ (∀ i, i < 4 → g_fed v1 v2 v3 v4 v5 (4 + i) = g_byu v2 i) ∧ (∀ i, i < 4 → g_fed v1 v2 v3 v4 v5 (8 + i) = g_byu v3 i) ∧ (∀ i, i < 4 → g_fed v1 v2 v3 v4 v5 (12 + i) = g_byu v4 i) ∧ (∀ i, i < 4 → g_fed v1 v2 v3 v4 v5 (16 + i) = g_byu v5 i) := by
  refine ⟨?_, ?_, ?_, ?_, ?_⟩ <;> intro i hi <;> rw [g_byu_eq _ hi] <;> (rcases (show i = 0 ∨ i = 1 ∨ i = 2 ∨ i = 3 by omega) with rfl | rfl | rfl | rfl) <;> rfl
theorem g_byu_r (v : Int) (i : Nat) : 0 ≤ g_byu v i ∧ g_byu v i ≤ 255 := by
  unfold g_byu g_and
  have h : ∀ x : Int32, 0 ≤ (x &&& Int32.ofInt 255).toInt ∧ (x &&& Int32.ofInt 255).toInt ≤ 255 := by
    intro x
    have e : (x &&& Int32.ofInt 255).toBitVec = x.toBitVec &&& 255#32 := by
      rw [Int32.toBitVec_and]; rfl
    have h1 : (x.toBitVec &&& 255#32).toNat ≤ 255 := by
      rw [BitVec.toNat_and]; exact Nat.and_le_right
    have h2 : (x &&& Int32.ofInt 255).toInt = ((x.toBitVec &&& 255#32).toNat : Int) := by
      show (x &&& Int32.ofInt 255).toBitVec.toInt = _
      rw [e, BitVec.toInt_eq_toNat_of_lt (by omega)]
    omega
  exact h _
set_option maxRecDepth 100000 in
theorem lX7_putOnTape {G : q_G} {F : q_F} {h : Nat} {Q : q_Q} {kc ks sz : Nat} {T : q_T} {b t : Nat} {v : Int} {I L : q_I} {P : q_P} (hF : q_ok G F YX7_putOnTape h) (hS : q_ST T P b) (hA : q_A G b) (ht : I b 4 = (t : Int)) (ht6 : 4 + t ≤ 600) (k0 : ∀ I' : q_I, (∀ q k, q ≠ b + 2 → (q ≠ b ∨ k ≠ 4) → I' q k = I q k) → I' b 4 = ((4 + t : Nat) : Int) → (∀ j, j < t ∨ 4 + t ≤ j → I' (b + 2) j = I (b + 2) j) → (∀ i : Nat, i < 4 → I' (b + 2) (i + t) = g_byu v i) → Q (.inl none) sz T I' L P) : ∀ (n : Nat) (i : Nat) (I9 : q_I), 4 - i < n → i ≤ 4 → I9 b 4 = ((i + t : Nat) : Int) → (∀ q k, q ≠ b + 2 → (q ≠ b ∨ k ≠ 4) → I9 q k = I q k) → (∀ j, j < t ∨ i + t ≤ j → I9 (b + 2) j = I (b + 2) j) → (∀ j : Nat, j < i → I9 (b + 2) (j + t) = g_byu v j) → qX G F Q kc ks 3 [(2, qI (24 - (8 * (i : Int)))), (0, .ref b), (1, qI v)] [] sz T I9 L P := by
  intro n
  induction n with
  | zero => intro i I9 hn; exact absurd hn (Nat.not_lt_zero _)
  | succ n ih =>
    intro i I9 hn hi hT hI hO hN
    refine q_iload_n hF 0 rfl rfl dX7_putOnTape_3 ?_
    refine q_iflt hF (by omega) dX7_putOnTape_4 (fun c4 => ?_) (fun c4 => ?_)
    · refine q_return hF rfl dX7_putOnTape_52 ?_
      have e4 : i = 4 := by omega
      subst e4
      exact k0 I9 hI hT hO hN
    · refine q_aload_n hF 1 rfl rfl dX7_putOnTape_7 ?_
      refine q_getIv hF (z := ((i + t : Nat) : Int)) fl_RX7_38 hS.t0 hT dX7_putOnTape_8 ?_
      refine q_sipush hF (n := 600) rfl dX7_putOnTape_11 ?_
      refine q_icmpge hF (by omega) (by decide) dX7_putOnTape_14 (fun c14 => ?_) (fun c14 => ?_)
      · omega
      · refine q_aload_n hF 1 rfl rfl dX7_putOnTape_17 ?_
        refine q_getA hF fl_RX7_10 rfl hS.t0 hS.p1 dX7_putOnTape_18 ?_
        refine q_getA hF fl_RX7_314 rfl hS.t2 hS.p0 dX7_putOnTape_21 ?_
        refine q_aload_n hF 1 rfl rfl dX7_putOnTape_24 ?_
        refine q_getIv hF (z := ((i + t : Nat) : Int)) fl_RX7_38 hS.t0 hT dX7_putOnTape_25 ?_
        refine q_iload_n hF 2 rfl rfl dX7_putOnTape_28 ?_
        refine q_iload_n hF 0 rfl rfl dX7_putOnTape_29 ?_
        refine q_iushr hF (c0 := g_ushr v (24 - (8 * (i : Int)))) (g_ushr_o _ _) dX7_putOnTape_30 ?_
        refine q_sipush hF (n := 255) rfl dX7_putOnTape_31 ?_
        refine q_iand hF (c0 := g_and (g_ushr v (24 - (8 * (i : Int)))) 255) (g_and_o _ _) dX7_putOnTape_34 ?_
        refine q_iastorev hF (n := 600) (i + t) hS.t1 (q_Ale hA (by omega)) (by omega) (by omega) (by decide) dX7_putOnTape_35 ?_
        refine q_aload_n hF 1 rfl rfl dX7_putOnTape_36 ?_
        refine q_dup hF rfl dX7_putOnTape_37 ?_
        refine q_getIv hF (z := ((i + t : Nat) : Int)) fl_RX7_38 hS.t0 ((u2_a _ _ (by omega)).trans hT) dX7_putOnTape_38 ?_
        refine q_iconst hF dX7_putOnTape_41 ?_
        refine q_iadd hF dX7_putOnTape_42 ?_
        refine q_putI hF fl_RX7_38 hS.t0 hA dX7_putOnTape_43 ?_
        refine q_iinc hF (z' := 24 - (8 * ((1 + i : Nat) : Int))) (ls' := [(2, qI (24 - (8 * ((1 + i : Nat) : Int)))), (0, .ref b), (1, qI v)]) 0 rfl (by first | rfl | omega) (by decide) rfl dX7_putOnTape_46 ?_
        refine q_goto hF dX7_putOnTape_49 ?_
        exact ih (1 + i) (u2 (u2 I9 (b + 2) (i + t) (g_and (g_ushr v (24 - (8 * (i : Int)))) 255)) b 4 (((i + t : Nat) : Int) + 1)) (by omega) (by omega) ((u2_s _ _ _ _).trans (by omega)) (fun q j x y => (q_u2o (by omega)).trans ((q_u2o (by omega)).trans (hI q j x y))) (fun j hj => by
          rw [u2_a _ _ (by omega), u2_k _ _ (by omega)]; exact hO j (by omega)) (fun j hj => by
          rw [u2_a _ _ (by omega)]
          by_cases e : j = i
          · subst e; rw [u2_s]; rfl
          · rw [u2_k _ _ (by omega)]; exact hN j (by omega))
set_option maxRecDepth 100000 in
theorem mX7_putOnTape {G : q_G} {sz : Nat} {T : q_T} {I L : q_I} {P : q_P} {Q : q_Q} {b : Nat} {v : Int} {t : Nat} (hS : q_ST T P b) (hA : q_A G b) (ht : I b 4 = (t : Int)) (ht6 : 4 + t ≤ 600) (k0 : ∀ I' : q_I, (∀ q k, q ≠ b + 2 → (q ≠ b ∨ k ≠ 4) → I' q k = I q k) → I' b 4 = ((4 + t : Nat) : Int) → (∀ j, j < t ∨ 4 + t ≤ j → I' (b + 2) j = I (b + 2) j) → (∀ i : Nat, i < 4 → I' (b + 2) (i + t) = g_byu v i) → Q (.inl none) sz T I' L P) : qC G 0 0 0 YX7_putOnTape [.ref b, qI v] sz T I L P Q := by
  refine qC_of (by decide +kernel) rfl rfl (Nat.le_of_ble_eq_true rfl) (fun F hF _ _ => ?_)
  refine q_bipush hF (n := 24) rfl dX7_putOnTape_0 ?_
  refine q_istore_n hF (ls' := [(2, qI 24), (0, .ref b), (1, qI v)]) rfl (by decide) rfl dX7_putOnTape_2 ?_
  exact lX7_putOnTape (t := t) hF hS hA ht ht6 k0 5 0 I (by omega) (by omega) (ht.trans (by omega)) (fun _ _ _ _ => rfl) (fun _ _ => rfl) (fun j hj => absurd hj (Nat.not_lt_zero _))
set_option maxRecDepth 100000 in
theorem mX7_feed {G : q_G} {sz : Nat} {T : q_T} {I L : q_I} {P : q_P} {Q : q_Q} {b : Nat} {v1 : Int} {v2 : Int} {v3 : Int} {v4 : Int} {v5 : Int} {t : Nat} (hS : q_ST T P b) (hA : q_A G b) (ht : I b 4 = (t : Int)) (ht6 : t ≤ 600) (k1 : 600 < t + 20 → Q (.inl (some (qI (-1)))) sz T I L P) (k0 : t + 20 ≤ 600 → ∀ I' : q_I, (∀ q k, q ≠ b + 2 → (q ≠ b ∨ k ≠ 4) → I' q k = I q k) → I' b 4 = ((20 + t : Nat) : Int) → (∀ j, j < t ∨ 20 + t ≤ j → I' (b + 2) j = I (b + 2) j) → (∀ k : Nat, k < 20 → I' (b + 2) (k + t) = g_fed v1 v2 v3 v4 v5 k) → Q (.inl (some (qI ((20 + t : Nat) : Int)))) sz T I' L P) : qC G 1 0 0 YX7_feed [.ref b, qI v1, qI v2, qI v3, qI v4, qI v5] sz T I L P Q := by
  refine qC_of (by decide +kernel) rfl rfl (Nat.le_of_ble_eq_true rfl) (fun F hF _ _ => ?_)
  refine q_aload_n hF 0 rfl rfl dX7_feed_0 ?_
  refine q_getIv hF (z := (t : Int)) fl_RX7_38 hS.t0 ht dX7_feed_1 ?_
  refine q_bipush hF (n := 20) rfl dX7_feed_4 ?_
  refine q_iadd hF dX7_feed_6 ?_
  refine q_sipush hF (n := 600) rfl dX7_feed_7 ?_
  refine q_icmple hF (by omega) (by decide) dX7_feed_10 (fun c10 => ?_) (fun c10 => ?_)
  · refine q_aload_n hF 0 rfl rfl dX7_feed_15 ?_
    refine q_iload_n hF 1 rfl rfl dX7_feed_16 ?_
    refine q_callV (kc := 0) (ks := 0) (mc' := 0) (ms' := 0) (h' := 0) (st := []) hF vl_RX7_41 rfl [qI v1] rfl rfl hS.t0 (by decide) (Nat.le_of_ble_eq_true rfl) dX7_feed_17 ?_
    refine mX7_putOnTape (t := t) hS hA ht (by omega) (fun Ip c17_0 c17_1 c17_2 c17_3 => ?_)
    refine q_aload_n hF 0 rfl rfl dX7_feed_20 ?_
    refine q_iload_n hF 2 rfl rfl dX7_feed_21 ?_
    refine q_callV (kc := 0) (ks := 0) (mc' := 0) (ms' := 0) (h' := 0) (st := []) hF vl_RX7_41 rfl [qI v2] rfl rfl hS.t0 (by decide) (Nat.le_of_ble_eq_true rfl) dX7_feed_22 ?_
    refine mX7_putOnTape (t := (4 + t)) hS hA (c17_1.trans (by omega)) (by omega) (fun Ip c22_0 c22_1 c22_2 c22_3 => ?_)
    refine q_aload_n hF 0 rfl rfl dX7_feed_25 ?_
    refine q_iload_n hF 3 rfl rfl dX7_feed_26 ?_
    refine q_callV (kc := 0) (ks := 0) (mc' := 0) (ms' := 0) (h' := 0) (st := []) hF vl_RX7_41 rfl [qI v3] rfl rfl hS.t0 (by decide) (Nat.le_of_ble_eq_true rfl) dX7_feed_27 ?_
    refine mX7_putOnTape (t := (8 + t)) hS hA (c22_1.trans (by omega)) (by omega) (fun Ip c27_0 c27_1 c27_2 c27_3 => ?_)
    refine q_aload_n hF 0 rfl rfl dX7_feed_30 ?_
    refine q_iload hF 4 rfl dX7_feed_31 ?_
    refine q_callV (kc := 0) (ks := 0) (mc' := 0) (ms' := 0) (h' := 0) (st := []) hF vl_RX7_41 rfl [qI v4] rfl rfl hS.t0 (by decide) (Nat.le_of_ble_eq_true rfl) dX7_feed_33 ?_
    refine mX7_putOnTape (t := (12 + t)) hS hA (c27_1.trans (by omega)) (by omega) (fun Ip c33_0 c33_1 c33_2 c33_3 => ?_)
    refine q_aload_n hF 0 rfl rfl dX7_feed_36 ?_
    refine q_iload hF 5 rfl dX7_feed_37 ?_
    refine q_callV (kc := 0) (ks := 0) (mc' := 0) (ms' := 0) (h' := 0) (st := []) hF vl_RX7_41 rfl [qI v5] rfl rfl hS.t0 (by decide) (Nat.le_of_ble_eq_true rfl) dX7_feed_39 ?_
    refine mX7_putOnTape (t := (16 + t)) hS hA (c33_1.trans (by omega)) (by omega) (fun Ip c39_0 c39_1 c39_2 c39_3 => ?_)
    refine q_aload_n hF 0 rfl rfl dX7_feed_42 ?_
    refine q_getIv hF (z := ((20 + t : Nat) : Int)) fl_RX7_38 hS.t0 (c39_1.trans (by omega)) dX7_feed_43 ?_
    refine q_ireturn hF rfl dX7_feed_46 ?_
    have fe := g_fed_at v1 v2 v3 v4 v5
    refine k0 (by omega) Ip (fun q k x y => (c39_0 q k x y).trans ((c33_0 q k x y).trans ((c27_0 q k x y).trans ((c22_0 q k x y).trans (c17_0 q k x y))))) (c39_1.trans (by omega)) (fun j hj => (c39_2 j (by omega)).trans ((c33_2 j (by omega)).trans ((c27_2 j (by omega)).trans ((c22_2 j (by omega)).trans (c17_2 j (by omega)))))) (fun k hk => ?_)
    rcases (show k < 4 ∨ (4 ≤ k ∧ k < 8) ∨ (8 ≤ k ∧ k < 12) ∨ (12 ≤ k ∧ k < 16) ∨ 16 ≤ k by omega) with h | h | h | h | h
    · obtain ⟨i, hi9⟩ : ∃ i : Nat, i = k := ⟨k, rfl⟩
      rw [← hi9] at h ⊢
      rw [fe.1 i (by omega)]
      exact (c39_2 _ (by omega)).trans ((c33_2 _ (by omega)).trans ((c27_2 _ (by omega)).trans ((c22_2 _ (by omega)).trans ((c17_3 i (by omega))))))
    · obtain ⟨i, rfl⟩ : ∃ i : Nat, k = 4 + i := ⟨k - 4, by omega⟩
      rw [fe.2.1 i (by omega)]
      exact (c39_2 _ (by omega)).trans ((c33_2 _ (by omega)).trans ((c27_2 _ (by omega)).trans ((by have q := c22_3 i (by omega); rwa [show i + (4 + t) = 4 + i + t from by omega] at q))))
    · obtain ⟨i, rfl⟩ : ∃ i : Nat, k = 8 + i := ⟨k - 8, by omega⟩
      rw [fe.2.2.1 i (by omega)]
      exact (c39_2 _ (by omega)).trans ((c33_2 _ (by omega)).trans ((by have q := c27_3 i (by omega); rwa [show i + (8 + t) = 8 + i + t from by omega] at q)))
    · obtain ⟨i, rfl⟩ : ∃ i : Nat, k = 12 + i := ⟨k - 12, by omega⟩
      rw [fe.2.2.2.1 i (by omega)]
      exact (c39_2 _ (by omega)).trans ((by have q := c33_3 i (by omega); rwa [show i + (12 + t) = 12 + i + t from by omega] at q))
    · obtain ⟨i, rfl⟩ : ∃ i : Nat, k = 16 + i := ⟨k - 16, by omega⟩
      rw [fe.2.2.2.2 i (by omega)]
      exact (by have q := c39_3 i (by omega); rwa [show i + (16 + t) = 16 + i + t from by omega] at q)
  · refine q_iconst hF dX7_feed_13 ?_
    refine q_ireturn hF rfl dX7_feed_14 ?_
    exact k1 (by omega)
