/-! the two banks compared: all -/

set_option maxRecDepth 100000 in
theorem lL_isAsR {G : q_G} {F : q_F} {h : Nat} {Q : q_Q} {kc ks sz : Nat} {T : q_T} {b bk tp k v n9 w m : Nat} {B : Nat → Int} {R : Nat → Nat → Int} {E : Nat → Prop} {ρ σ : Nat → Nat} {c : Nat} {I L : q_I} {P : q_P} (hF : q_ok G F YL_isAs h) (h9 : 9 ≤ h) (hA : q_A G b) (hW : q_OW E T I L P k v n9 ρ w m σ (R 0)) (hEr : ∀ q, E q → b + 452 ≤ q ∧ q < sz) (hro : q_RO (R 0)) (hE : q_CE T b bk tp B R I L P) (hcm : c < m) (k0 : qX G F Q kc ks 886 [(8, qI (c : Int)), (6, qL (g_sum (g_handC (R 0)) n9)), (4, qL (g_sum (g_liveC (R 0)) n9)), (2, qL (g_print (R 0) n9)), (1, .ref k), (0, .ref b)] [] sz T I L P) : ∀ (n : Nat) (i : Nat), 5 - i < n → i ≤ 5 → qX G F Q (kc + (5 - i)) (ks + 6 * (5 - i)) 851 [(9, qI (i : Int)), (8, qI (c : Int)), (6, qL (g_sum (g_handC (R 0)) n9)), (4, qL (g_sum (g_liveC (R 0)) n9)), (2, qL (g_print (R 0) n9)), (1, .ref k), (0, .ref b)] [] sz T I L P := by
  intro n
  induction n with
  | zero => intro i hn; exact absurd hn (Nat.not_lt_zero _)
  | succ n ih =>
    intro i hn hi
    have hO := hW.ot
    have hM := hW.om
    have hRk := hW.rr
    have hV0 := hro.1.1
    have hkz := hEr _ (hW.ek k (Nat.le_refl _) (by omega))
    have hn12 : n9 ≤ 12 := by have := hV0.many; have := hM.nn; omega
    have hm12 : m ≤ 12 := by have := hV0.rows; have := hM.mm; omega
    refine q_iload hF 0 rfl dL_isAs_851 ?_
    refine q_iconst hF dL_isAs_853 ?_
    refine q_icmpge hF (by omega) (by decide) dL_isAs_854 (fun c854 => ?_) (fun c854 => ?_)
    · obtain rfl : i = 5 := by omega
      refine q_sub [1, 2, 3, 4, 5, 6] rfl ?_
      exact qX.room (kc := kc) (ks := ks) (by omega) (by omega) k0
    · refine qX.room (kc := kc + (5 - (i + 1)) + 1) (ks := ks + 6 * (5 - (i + 1)) + 6) (by omega) (by omega) ?_
      refine q_aload_n hF 6 rfl rfl dL_isAs_857 ?_
      refine q_iload hF 1 rfl dL_isAs_858 ?_
      refine q_iload hF 0 rfl dL_isAs_860 ?_
      refine q_callSH (kc := kc + (5 - (i + 1))) (ks := ks + 6 * (5 - (i + 1))) (mc' := 1) (ms' := 6) (h' := 4) (st := []) hF sl_RL_309 rfl [.ref b, qI (c : Int), qI (i : Int)] rfl rfl (by omega) (Nat.le_of_ble_eq_true rfl) dL_isAs_862 ?_
      refine a_row (n := (i : Int)) (k := (c : Int)) hA hE (by have := hM.mm; omega) (by omega) ?_
      rw [Int.toNat_natCast, Int.toNat_natCast]
      refine q_aload_n hF 5 rfl rfl dL_isAs_865 ?_
      refine q_getA hF fl_RL_246 rfl hO.t0 hM.pw dL_isAs_866 ?_
      refine q_iload hF 1 rfl dL_isAs_869 ?_
      refine q_aaloadv hF (b := σ c) c hM.tw (by decide) rfl (by omega) (by omega) (hM.pr c (by omega)) dL_isAs_871 ?_
      refine q_iload hF 0 rfl dL_isAs_872 ?_
      refine q_ialoadv hF (z := R 0 (1183 + 5 * c + i)) (n := 5) i (hM.tr c (by omega)) rfl (by omega) (by decide) (hM.ro c i (by omega) (by omega)) dL_isAs_874 ?_
      refine q_icmpeq_s hF (a := R 0 (1183 + 5 * c + i)) dL_isAs_875 ?_
      refine q_iinc hF (z' := ((1 + i : Nat) : Int)) (ls' := [(9, qI ((1 + i : Nat) : Int)), (8, qI (c : Int)), (6, qL (g_sum (g_handC (R 0)) n9)), (4, qL (g_sum (g_liveC (R 0)) n9)), (2, qL (g_print (R 0) n9)), (1, .ref k), (0, .ref b)]) 0 rfl (by first | rfl | omega) (by decide) rfl dL_isAs_880 ?_
      refine q_goto hF dL_isAs_883 ?_
      rw [Nat.add_comm 1 i]
      exact ih (i + 1) (by omega) (by omega)

set_option maxRecDepth 100000 in
theorem lL_isAsRs {G : q_G} {F : q_F} {h : Nat} {Q : q_Q} {kc ks sz : Nat} {T : q_T} {b bk tp k v n9 w m : Nat} {B : Nat → Int} {R : Nat → Nat → Int} {E : Nat → Prop} {ρ σ : Nat → Nat} {I L : q_I} {P : q_P} (hF : q_ok G F YL_isAs h) (h9 : 9 ≤ h) (hA : q_A G b) (hW : q_OW E T I L P k v n9 ρ w m σ (R 0)) (hEr : ∀ q, E q → b + 452 ≤ q ∧ q < sz) (hro : q_RO (R 0)) (hE : q_CE T b bk tp B R I L P) (k0 : qX G F Q kc ks 892 [(6, qL (g_sum (g_handC (R 0)) n9)), (4, qL (g_sum (g_liveC (R 0)) n9)), (2, qL (g_print (R 0) n9)), (1, .ref k), (0, .ref b)] [] sz T I L P) : ∀ (n : Nat) (c : Nat), m - c < n → c ≤ m → qX G F Q (kc + 5 * (m - c)) (ks + 30 * (m - c)) 838 [(8, qI (c : Int)), (6, qL (g_sum (g_handC (R 0)) n9)), (4, qL (g_sum (g_liveC (R 0)) n9)), (2, qL (g_print (R 0) n9)), (1, .ref k), (0, .ref b)] [] sz T I L P := by
  intro n
  induction n with
  | zero => intro c hn; exact absurd hn (Nat.not_lt_zero _)
  | succ n ih =>
    intro c hn hc
    have hO := hW.ot
    have hM := hW.om
    have hRk := hW.rr
    have hV0 := hro.1.1
    have hkz := hEr _ (hW.ek k (Nat.le_refl _) (by omega))
    have hn12 : n9 ≤ 12 := by have := hV0.many; have := hM.nn; omega
    have hm12 : m ≤ 12 := by have := hV0.rows; have := hM.mm; omega
    refine q_iload hF 0 rfl dL_isAs_838 ?_
    refine q_aload_n hF 4 rfl rfl dL_isAs_840 ?_
    refine q_getA hF fl_RL_246 rfl hO.t0 hM.pw dL_isAs_841 ?_
    refine q_alen hF (n := m) hM.tw dL_isAs_844 ?_
    refine q_icmpge hF (by omega) (by omega) dL_isAs_845 (fun c845 => ?_) (fun c845 => ?_)
    · obtain rfl : c = m := by omega
      refine q_sub [1, 2, 3, 4, 5] rfl ?_
      exact qX.room (kc := kc) (ks := ks) (by omega) (by omega) k0
    · refine q_iconst hF dL_isAs_848 ?_
      refine q_istore hF (ls' := [(9, qI 0), (8, qI (c : Int)), (6, qL (g_sum (g_handC (R 0)) n9)), (4, qL (g_sum (g_liveC (R 0)) n9)), (2, qL (g_print (R 0) n9)), (1, .ref k), (0, .ref b)]) (by decide) rfl dL_isAs_849 ?_
      refine qX.room (kc := (kc + 5 * (m - (c + 1))) + (5 - 0)) (ks := (ks + 30 * (m - (c + 1))) + 6 * (5 - 0)) (by omega) (by omega) ?_
      refine lL_isAsR (c := c) hF h9 hA hW hEr hro hE (by omega) ?_ _ 0 (Nat.lt_succ_self _) (Nat.zero_le _)
      refine q_iinc hF (z' := ((1 + c : Nat) : Int)) (ls' := [(8, qI ((1 + c : Nat) : Int)), (6, qL (g_sum (g_handC (R 0)) n9)), (4, qL (g_sum (g_liveC (R 0)) n9)), (2, qL (g_print (R 0) n9)), (1, .ref k), (0, .ref b)]) 0 rfl (by first | rfl | omega) (by decide) rfl dL_isAs_886 ?_
      refine q_goto hF dL_isAs_889 ?_
      rw [Nat.add_comm 1 c]
      exact ih (c + 1) (by omega) (by omega)

set_option maxRecDepth 100000 in
theorem lL_isAsB {G : q_G} {F : q_F} {h : Nat} {Q : q_Q} {kc ks sz : Nat} {T : q_T} {b bk tp k v n9 w m : Nat} {B : Nat → Int} {R : Nat → Nat → Int} {E : Nat → Prop} {ρ σ : Nat → Nat} {I L : q_I} {P : q_P} (hF : q_ok G F YL_isAs h) (h9 : 9 ≤ h) (hA : q_A G b) (hW : q_OW E T I L P k v n9 ρ w m σ (R 0)) (hEr : ∀ q, E q → b + 452 ≤ q ∧ q < sz) (hro : q_RO (R 0)) (hE : q_CE T b bk tp B R I L P) (k0 : qX G F Q kc ks 926 [(6, qL (g_sum (g_handC (R 0)) n9)), (4, qL (g_sum (g_liveC (R 0)) n9)), (2, qL (g_print (R 0) n9)), (1, .ref k), (0, .ref b)] [] sz T I L P) : ∀ (n : Nat) (c : Nat), 4 - c < n → c ≤ 4 → qX G F Q (kc + (4 - c)) (ks + 6 * (4 - c)) 895 [(8, qI (c : Int)), (6, qL (g_sum (g_handC (R 0)) n9)), (4, qL (g_sum (g_liveC (R 0)) n9)), (2, qL (g_print (R 0) n9)), (1, .ref k), (0, .ref b)] [] sz T I L P := by
  intro n
  induction n with
  | zero => intro c hn; exact absurd hn (Nat.not_lt_zero _)
  | succ n ih =>
    intro c hn hc
    have hO := hW.ot
    have hM := hW.om
    have hRk := hW.rr
    have hV0 := hro.1.1
    have hkz := hEr _ (hW.ek k (Nat.le_refl _) (by omega))
    have hn12 : n9 ≤ 12 := by have := hV0.many; have := hM.nn; omega
    have hm12 : m ≤ 12 := by have := hV0.rows; have := hM.mm; omega
    refine q_iload hF 0 rfl dL_isAs_895 ?_
    refine q_iconst hF dL_isAs_897 ?_
    refine q_icmpge hF (by omega) (by decide) dL_isAs_898 (fun c898 => ?_) (fun c898 => ?_)
    · obtain rfl : c = 4 := by omega
      refine q_sub [1, 2, 3, 4, 5] rfl ?_
      exact qX.room (kc := kc) (ks := ks) (by omega) (by omega) k0
    · refine qX.room (kc := kc + (4 - (c + 1)) + 1) (ks := ks + 6 * (4 - (c + 1)) + 6) (by omega) (by omega) ?_
      refine q_aload_n hF 5 rfl rfl dL_isAs_901 ?_
      refine q_iload hF 0 rfl dL_isAs_902 ?_
      refine q_callSH (kc := kc + (4 - (c + 1))) (ks := ks + 6 * (4 - (c + 1))) (mc' := 1) (ms' := 6) (h' := 7) (st := []) hF sl_RL_311 rfl [.ref b, qI (c : Int)] rfl rfl (by omega) (Nat.le_of_ble_eq_true rfl) dL_isAs_904 ?_
      refine a_books (v := R 0 (17 + c)) hA hE (by omega) ((if_neg (by omega)).trans ((if_neg (by omega)).trans (congrArg (R 0) (by rw [Int.toNat_natCast])))) ?_
      refine q_aload_n hF 4 rfl rfl dL_isAs_907 ?_
      refine q_getA hF fl_RL_235 rfl hO.t0 hO.p12 dL_isAs_908 ?_
      refine q_iload hF 0 rfl dL_isAs_911 ?_
      refine q_laloadv hF (z := R 0 (17 + c)) (n := 7) c hO.t17 rfl (by omega) (by decide) (hM.b4 c (by omega)) dL_isAs_913 ?_
      refine q_cmpeq_s hF (a := R 0 (17 + c)) dL_isAs_914 dL_isAs_915 ?_
      refine q_iinc hF (z' := ((1 + c : Nat) : Int)) (ls' := [(8, qI ((1 + c : Nat) : Int)), (6, qL (g_sum (g_handC (R 0)) n9)), (4, qL (g_sum (g_liveC (R 0)) n9)), (2, qL (g_print (R 0) n9)), (1, .ref k), (0, .ref b)]) 0 rfl (by first | rfl | omega) (by decide) rfl dL_isAs_920 ?_
      refine q_goto hF dL_isAs_923 ?_
      rw [Nat.add_comm 1 c]
      exact ih (c + 1) (by omega) (by omega)

set_option maxRecDepth 100000 in
theorem lL_isAsP {G : q_G} {F : q_F} {h : Nat} {Q : q_Q} {kc ks sz : Nat} {T : q_T} {b bk tp k v n9 w m : Nat} {B : Nat → Int} {R : Nat → Nat → Int} {E : Nat → Prop} {ρ σ : Nat → Nat} {I L : q_I} {P : q_P} (hF : q_ok G F YL_isAs h) (h9 : 9 ≤ h) (hA : q_A G b) (hW : q_OW E T I L P k v n9 ρ w m σ (R 0)) (hEr : ∀ q, E q → b + 452 ≤ q ∧ q < sz) (hro : q_RO (R 0)) (hE : q_CE T b bk tp B R I L P) (k0 : qX G F Q kc ks 959 [(6, qL (g_sum (g_handC (R 0)) n9)), (4, qL (g_sum (g_liveC (R 0)) n9)), (2, qL (g_print (R 0) n9)), (1, .ref k), (0, .ref b)] [] sz T I L P) : ∀ (n : Nat) (c : Nat), 5 - c < n → c ≤ 5 → qX G F Q (kc + (5 - c)) (ks + 6 * (5 - c)) 929 [(8, qI (c : Int)), (6, qL (g_sum (g_handC (R 0)) n9)), (4, qL (g_sum (g_liveC (R 0)) n9)), (2, qL (g_print (R 0) n9)), (1, .ref k), (0, .ref b)] [] sz T I L P := by
  intro n
  induction n with
  | zero => intro c hn; exact absurd hn (Nat.not_lt_zero _)
  | succ n ih =>
    intro c hn hc
    have hO := hW.ot
    have hM := hW.om
    have hRk := hW.rr
    have hV0 := hro.1.1
    have hkz := hEr _ (hW.ek k (Nat.le_refl _) (by omega))
    have hn12 : n9 ≤ 12 := by have := hV0.many; have := hM.nn; omega
    have hm12 : m ≤ 12 := by have := hV0.rows; have := hM.mm; omega
    refine q_iload hF 0 rfl dL_isAs_929 ?_
    refine q_iconst hF dL_isAs_931 ?_
    refine q_icmpge hF (by omega) (by decide) dL_isAs_932 (fun c932 => ?_) (fun c932 => ?_)
    · obtain rfl : c = 5 := by omega
      refine q_sub [1, 2, 3, 4, 5] rfl ?_
      exact qX.room (kc := kc) (ks := ks) (by omega) (by omega) k0
    · refine qX.room (kc := kc + (5 - (c + 1)) + 1) (ks := ks + 6 * (5 - (c + 1)) + 6) (by omega) (by omega) ?_
      refine q_aload_n hF 5 rfl rfl dL_isAs_935 ?_
      refine q_iload hF 0 rfl dL_isAs_936 ?_
      refine q_callSH (kc := kc + (5 - (c + 1))) (ks := ks + 6 * (5 - (c + 1))) (mc' := 1) (ms' := 6) (h' := 4) (st := []) hF sl_RL_314 rfl [.ref b, qI (c : Int)] rfl rfl (by omega) (Nat.le_of_ble_eq_true rfl) dL_isAs_938 ?_
      refine a_pays (n := (c : Int)) hA hE (by omega) ?_
      rw [Int.toNat_natCast]
      refine q_aload_n hF 4 rfl rfl dL_isAs_941 ?_
      refine q_getA hF fl_RL_186 rfl hO.t0 hO.p3 dL_isAs_942 ?_
      refine q_iload hF 0 rfl dL_isAs_945 ?_
      refine q_ialoadv hF (z := R 0 (12 + c)) (n := 5) c hO.t13 rfl (by omega) (by decide) (hRk.py c (by omega)) dL_isAs_947 ?_
      refine q_icmpeq_s hF (a := R 0 (12 + c)) dL_isAs_948 ?_
      refine q_iinc hF (z' := ((1 + c : Nat) : Int)) (ls' := [(8, qI ((1 + c : Nat) : Int)), (6, qL (g_sum (g_handC (R 0)) n9)), (4, qL (g_sum (g_liveC (R 0)) n9)), (2, qL (g_print (R 0) n9)), (1, .ref k), (0, .ref b)]) 0 rfl (by first | rfl | omega) (by decide) rfl dL_isAs_953 ?_
      refine q_goto hF dL_isAs_956 ?_
      rw [Nat.add_comm 1 c]
      exact ih (c + 1) (by omega) (by omega)

set_option maxRecDepth 100000 in
theorem lL_isAsE {G : q_G} {F : q_F} {h : Nat} {Q : q_Q} {kc ks sz : Nat} {T : q_T} {I L : q_I} {P : q_P} {b bk tp k v n9 w m : Nat} {B : Nat → Int} {R : Nat → Nat → Int} {E : Nat → Prop} {ρ σ : Nat → Nat}  (hF : q_ok G F YL_isAs h) (h9 : 9 ≤ h) (hA : q_A G b) (hW : q_OW E T I L P k v n9 ρ w m σ (R 0)) (hEr : ∀ q, E q → b + 452 ≤ q ∧ q < sz) (hro : q_RO (R 0)) (hE : q_CE T b bk tp B R I L P) (k0 : ∀ (sz2 : Nat) (I2 : q_I), sz ≤ sz2 → q_CE T b bk tp B R I2 L P → q_Ou b I L P I2 L P → Q (.inl (some (qI 1))) sz2 T I2 L P) : qX G F Q (kc + 5) (ks + 30) 959 [(6, qL (g_sum (g_handC (R 0)) n9)), (4, qL (g_sum (g_liveC (R 0)) n9)), (2, qL (g_print (R 0) n9)), (1, .ref k), (0, .ref b)] [] sz T I L P := by
  have hO := hW.ot
  have hM := hW.om
  have hRk := hW.rr
  have hV0 := hro.1.1
  have hkz := hEr _ (hW.ek k (Nat.le_refl _) (by omega))
  have hn12 : n9 ≤ 12 := by have := hV0.many; have := hM.nn; omega
  have hm12 : m ≤ 12 := by have := hV0.rows; have := hM.mm; omega
  have hnN : (R 0 1).toNat = n9 := by have := hM.nn; omega
  have hmN : (R 0 6).toNat = m := by have := hM.mm; omega
  refine q_aload_n hF 4 rfl rfl dL_isAs_959 ?_
  refine q_iconst hF dL_isAs_960 ?_
  refine q_callSH (kc := kc + 4) (ks := ks + 24) (mc' := 1) (ms' := 6) (h' := 7) (st := []) hF sl_RL_311 rfl [.ref b, qI 4] rfl rfl (by omega) (Nat.le_of_ble_eq_true rfl) dL_isAs_961 ?_
  refine a_books (v := g_sum (g_liveC (R 0)) n9) hA hE (by decide) ((if_pos rfl).trans (by rw [hnN])) ?_
  refine q_lload hF 1 rfl dL_isAs_964 ?_
  refine q_cmpne_s hF (a := g_sum (g_liveC (R 0)) n9) dL_isAs_966 dL_isAs_967 ?_
  refine q_aload_n hF 4 rfl rfl dL_isAs_970 ?_
  refine q_iconst hF dL_isAs_971 ?_
  refine q_callSH (kc := kc + 3) (ks := ks + 18) (mc' := 1) (ms' := 6) (h' := 7) (st := []) hF sl_RL_311 rfl [.ref b, qI 5] rfl rfl (by omega) (Nat.le_of_ble_eq_true rfl) dL_isAs_972 ?_
  refine a_books (v := g_sum (g_handC (R 0)) n9) hA hE (by decide) ((if_neg (by decide)).trans ((if_pos rfl).trans (by rw [hnN]))) ?_
  refine q_lload hF 0 rfl dL_isAs_975 ?_
  refine q_cmpne_s hF (a := g_sum (g_handC (R 0)) n9) dL_isAs_977 dL_isAs_978 ?_
  refine q_aload_n hF 4 rfl rfl dL_isAs_981 ?_
  refine q_bipush hF (n := 6) rfl dL_isAs_982 ?_
  refine q_callSH (kc := kc + 2) (ks := ks + 12) (mc' := 1) (ms' := 6) (h' := 7) (st := []) hF sl_RL_311 rfl [.ref b, qI 6] rfl rfl (by omega) (Nat.le_of_ble_eq_true rfl) dL_isAs_984 ?_
  refine a_books (v := R 0 23) hA hE (by decide) ((if_neg (by decide)).trans (if_neg (by decide))) ?_
  refine q_aload_n hF 3 rfl rfl dL_isAs_987 ?_
  refine q_getA hF fl_RL_235 rfl hO.t0 hO.p12 dL_isAs_988 ?_
  refine q_bipush hF (n := 6) rfl dL_isAs_991 ?_
  refine q_laloadv hF (z := R 0 23) (n := 7) 6 hO.t17 rfl (by decide) (by decide) hM.b6 dL_isAs_993 ?_
  refine q_cmpne_s hF (a := R 0 23) dL_isAs_994 dL_isAs_995 ?_
  refine q_aload_n hF 4 rfl rfl dL_isAs_998 ?_
  refine q_callV (kc := kc + 2) (ks := ks + 12) (mc' := 0) (ms' := 0) (h' := 1) (st := []) hF vl_RL_316 rfl [] rfl rfl hE.t0 (by omega) (Nat.le_of_ble_eq_true rfl) dL_isAs_999 ?_
  refine a_print hA hE ?_
  rw [hnN]
  refine q_lload_n hF 2 rfl rfl dL_isAs_1002 ?_
  refine q_cmpne_s hF (a := g_print (R 0) n9) dL_isAs_1003 dL_isAs_1004 ?_
  refine q_aload_n hF 4 rfl rfl dL_isAs_1007 ?_
  refine q_aload_n hF 3 rfl rfl dL_isAs_1008 ?_
  refine q_getA hF fl_RL_246 rfl hO.t0 hM.pw dL_isAs_1009 ?_
  refine q_alen hF (n := m) hM.tw dL_isAs_1012 ?_
  refine q_iconst hF dL_isAs_1013 ?_
  refine q_callSH (kc := kc + 1) (ks := ks + 6) (mc' := 1) (ms' := 6) (h' := 4) (st := []) hF sl_RL_309 rfl [.ref b, qI (m : Int), qI 0] rfl rfl (by omega) (Nat.le_of_ble_eq_true rfl) dL_isAs_1014 ?_
  refine a_row0 hA hE (by omega) (by decide) (by have := hM.mm; omega) (fun sz' I' c1014_0 c1014_1 c1014_2 => ?_)
  refine q_ldc hF (n := -2000000096) (q_mem 789 (by decide +kernel) rfl) dL_isAs_1017 ?_
  refine q_icmpne_s hF (a := -2000000096) dL_isAs_1019 ?_
  refine q_aload_n hF 4 rfl rfl dL_isAs_1022 ?_
  refine q_aload_n hF 3 rfl rfl dL_isAs_1023 ?_
  refine q_getA hF fl_RL_231 rfl hO.t0 hM.pv dL_isAs_1024 ?_
  refine q_alen hF (n := n9) hM.tv dL_isAs_1027 ?_
  refine q_iconst hF dL_isAs_1028 ?_
  refine q_callSH (kc := kc) (ks := ks) (mc' := 1) (ms' := 6) (h' := 5) (st := []) hF sl_RL_266 rfl [.ref b, qI (n9 : Int), qI 0] rfl rfl (by omega) (Nat.le_of_ble_eq_true rfl) dL_isAs_1029 ?_
  refine a_account0 hA c1014_1 (by omega) (by have := hM.nn; omega) (fun sz2 I2 c1029_0 c1029_1 c1029_2 => ?_)
  refine q_ldc hF (n := -2000000096) (q_mem 789 (by decide +kernel) rfl) dL_isAs_1032 ?_
  refine q_icmpne_s hF (a := -2000000096) dL_isAs_1034 ?_
  refine q_iconst hF dL_isAs_1037 ?_
  refine q_goto hF dL_isAs_1038 ?_
  refine q_zreturn hF (by decide) rfl dL_isAs_1042 ?_
  exact k0 sz2 I2 (by omega) c1029_1 ((c1014_2).tr c1029_2)

set_option maxRecDepth 100000 in
theorem mL_isAs {G : q_G} {sz : Nat} {T : q_T} {I L : q_I} {P : q_P} {Q : q_Q} {b : Nat} {k : Nat} {bk tp v n9 w m l9 : Nat} {B : Nat → Int} {R : Nat → Nat → Int} {E : Nat → Prop} {ρ σ : Nat → Nat} (hA : q_A G b) (hW : q_OW E T I L P k v n9 ρ w m σ (R 0)) (hEr : ∀ q, E q → b + 452 ≤ q ∧ q < sz) (hro : q_RO (R 0)) (hE : q_CE T b bk tp B R I L P) (hl9 : R 0 0 = (l9 : Int)) (hl3 : l9 ≤ 3) (hnm : e_nms (R 0) l9) (k0 : ∀ (sz2 : Nat) (I2 L2 : q_I), sz ≤ sz2 → q_CE T b bk tp B R I2 L2 P → q_Ou b I L P I2 L2 P → Q (.inl (some (qI 1))) sz2 T I2 L2 P) : qC G 10 320 1920 YL_isAs [.ref b, .ref k] sz T I L P Q := by
  refine qC_of (by decide +kernel) rfl rfl (Nat.le_of_ble_eq_true rfl) (fun F hF _ _ => ?_)
  have hO := hW.ot
  have hM := hW.om
  have hRk := hW.rr
  have hV0 := hro.1.1
  have hkz := hEr _ (hW.ek k (Nat.le_refl _) (by omega))
  have hn12 : n9 ≤ 12 := by have := hV0.many; have := hM.nn; omega
  have hm12 : m ≤ 12 := by have := hV0.rows; have := hM.mm; omega
  refine q_aload_n hF 0 rfl rfl dL_isAs_0 ?_
  refine q_iconst hF dL_isAs_1 ?_
  refine q_callSH (kc := 319) (ks := 1914) (mc' := 1) (ms' := 6) (h' := 4) (st := []) hF sl_RL_241 rfl [.ref b, qI 0] rfl rfl (by omega) (Nat.le_of_ble_eq_true rfl) dL_isAs_2 ?_
  refine a_told (v := R 0 0) hA hE (by decide) (if_pos (by decide)) ?_
  refine q_aload_n hF 1 rfl rfl dL_isAs_5 ?_
  refine q_getIv hF (z := R 0 0) fl_RL_150 hO.t0 hRk.ln dL_isAs_6 ?_
  refine q_icmpne_s hF (a := R 0 0) dL_isAs_9 ?_
  refine q_aload_n hF 0 rfl rfl dL_isAs_12 ?_
  refine q_iconst hF dL_isAs_13 ?_
  refine q_callSH (kc := 318) (ks := 1908) (mc' := 1) (ms' := 6) (h' := 4) (st := []) hF sl_RL_241 rfl [.ref b, qI 1] rfl rfl (by omega) (Nat.le_of_ble_eq_true rfl) dL_isAs_14 ?_
  refine a_told (v := R 0 1) hA hE (by decide) (if_pos (by decide)) ?_
  refine q_aload_n hF 1 rfl rfl dL_isAs_17 ?_
  refine q_getA hF fl_RL_231 rfl hO.t0 hM.pv dL_isAs_18 ?_
  refine q_alen hF (n := n9) hM.tv dL_isAs_21 ?_
  rw [← hM.nn]
  refine q_icmpne_s hF (a := R 0 1) dL_isAs_22 ?_
  refine q_aload_n hF 0 rfl rfl dL_isAs_25 ?_
  refine q_iconst hF dL_isAs_26 ?_
  refine q_callSH (kc := 317) (ks := 1902) (mc' := 1) (ms' := 6) (h' := 4) (st := []) hF sl_RL_241 rfl [.ref b, qI 2] rfl rfl (by omega) (Nat.le_of_ble_eq_true rfl) dL_isAs_27 ?_
  refine a_told (v := R 0 2) hA hE (by decide) (if_pos (by decide)) ?_
  refine q_aload_n hF 1 rfl rfl dL_isAs_30 ?_
  refine q_getIv hF (z := R 0 2) fl_RL_243 hO.t0 hM.mo dL_isAs_31 ?_
  refine q_icmpne_s hF (a := R 0 2) dL_isAs_34 ?_
  refine q_aload_n hF 0 rfl rfl dL_isAs_37 ?_
  refine q_iconst hF dL_isAs_38 ?_
  refine q_callSH (kc := 316) (ks := 1896) (mc' := 1) (ms' := 6) (h' := 4) (st := []) hF sl_RL_241 rfl [.ref b, qI 3] rfl rfl (by omega) (Nat.le_of_ble_eq_true rfl) dL_isAs_39 ?_
  refine a_told (v := R 0 3) hA hE (by decide) (if_pos (by decide)) ?_
  refine q_aload_n hF 1 rfl rfl dL_isAs_42 ?_
  refine q_getIv hF (z := R 0 3) fl_RL_191 hO.t0 hRk.wa dL_isAs_43 ?_
  refine q_icmpne_s hF (a := R 0 3) dL_isAs_46 ?_
  refine q_aload_n hF 0 rfl rfl dL_isAs_49 ?_
  refine q_iconst hF dL_isAs_50 ?_
  refine q_callSH (kc := 315) (ks := 1890) (mc' := 1) (ms' := 6) (h' := 4) (st := []) hF sl_RL_241 rfl [.ref b, qI 4] rfl rfl (by omega) (Nat.le_of_ble_eq_true rfl) dL_isAs_51 ?_
  refine a_told (v := R 0 4) hA hE (by decide) (if_pos (by decide)) ?_
  refine q_aload_n hF 1 rfl rfl dL_isAs_54 ?_
  refine q_getIv hF (z := R 0 4) fl_RL_195 hO.t0 hRk.lt dL_isAs_55 ?_
  refine q_icmpne_s hF (a := R 0 4) dL_isAs_58 ?_
  refine q_aload_n hF 0 rfl rfl dL_isAs_61 ?_
  refine q_iconst hF dL_isAs_62 ?_
  refine q_callSH (kc := 314) (ks := 1884) (mc' := 1) (ms' := 6) (h' := 4) (st := []) hF sl_RL_241 rfl [.ref b, qI 5] rfl rfl (by omega) (Nat.le_of_ble_eq_true rfl) dL_isAs_63 ?_
  refine a_told (v := R 0 5) hA hE (by decide) (if_pos (by decide)) ?_
  refine q_aload_n hF 1 rfl rfl dL_isAs_66 ?_
  refine q_getIv hF (z := R 0 5) fl_RL_198 hO.t0 hRk.hm dL_isAs_67 ?_
  refine q_icmpne_s hF (a := R 0 5) dL_isAs_70 ?_
  refine q_aload_n hF 0 rfl rfl dL_isAs_73 ?_
  refine q_bipush hF (n := 6) rfl dL_isAs_74 ?_
  refine q_callSH (kc := 313) (ks := 1878) (mc' := 1) (ms' := 6) (h' := 4) (st := []) hF sl_RL_241 rfl [.ref b, qI 6] rfl rfl (by omega) (Nat.le_of_ble_eq_true rfl) dL_isAs_76 ?_
  refine a_told (v := R 0 6) hA hE (by decide) (if_pos (by decide)) ?_
  refine q_aload_n hF 1 rfl rfl dL_isAs_79 ?_
  refine q_getA hF fl_RL_246 rfl hO.t0 hM.pw dL_isAs_80 ?_
  refine q_alen hF (n := m) hM.tw dL_isAs_83 ?_
  rw [← hM.mm]
  refine q_icmpne_s hF (a := R 0 6) dL_isAs_84 ?_
  refine q_aload_n hF 0 rfl rfl dL_isAs_87 ?_
  refine q_bipush hF (n := 7) rfl dL_isAs_88 ?_
  refine q_callSH (kc := 312) (ks := 1872) (mc' := 1) (ms' := 6) (h' := 4) (st := []) hF sl_RL_241 rfl [.ref b, qI 7] rfl rfl (by omega) (Nat.le_of_ble_eq_true rfl) dL_isAs_90 ?_
  refine a_told (v := R 0 7) hA hE (by decide) (if_pos (by decide)) ?_
  refine q_aload_n hF 1 rfl rfl dL_isAs_93 ?_
  refine q_getIv hF (z := R 0 7) fl_RL_249 hO.t0 hM.se dL_isAs_94 ?_
  refine q_icmpeq_s hF (a := R 0 7) dL_isAs_97 ?_
  refine q_lconst hF (z := 0) rfl dL_isAs_102 ?_
  refine q_lstore_n hF (ls' := [(2, qL 0), (0, .ref b), (1, .ref k)]) rfl (by decide) rfl dL_isAs_103 ?_
  refine q_lconst hF (z := 0) rfl dL_isAs_104 ?_
  refine q_lstore hF (ls' := [(4, qL 0), (2, qL 0), (0, .ref b), (1, .ref k)]) (by decide) rfl dL_isAs_105 ?_
  refine q_lconst hF (z := 0) rfl dL_isAs_107 ?_
  refine q_lstore hF (ls' := [(6, qL 0), (4, qL 0), (2, qL 0), (0, .ref b), (1, .ref k)]) (by decide) rfl dL_isAs_108 ?_
  refine q_iconst hF dL_isAs_110 ?_
  refine q_istore hF (ls' := [(8, qI 0), (6, qL 0), (4, qL 0), (2, qL 0), (0, .ref b), (1, .ref k)]) (by decide) rfl dL_isAs_111 ?_
  refine q_sub [0, 1, 2, 3, 5, 4] rfl ?_
  refine qX.room (kc := (5 + (5 - 0) + (4 - 0) + 5 * (m - 0) + 12 * (l9 - 0)) + 13 * (n9 - 0)) (ks := (30 + 6 * (5 - 0) + 6 * (4 - 0) + 30 * (m - 0) + 72 * (l9 - 0)) + 78 * (n9 - 0)) (by omega) (by omega) ?_
  refine lL_isAsA hF (by decide) hA hW hEr hro ?_ _ 0 L (Nat.lt_succ_self _) (Nat.zero_le _) hE q_Ou.rfl'
  intro L3 hE3 hO3
  have hW3 : q_OW E T I L3 P k v n9 ρ w m σ (R 0) := hW.mv (fun _ z => z) (fun _ _ => rfl) (fun _ _ _ => rfl) (fun q j hq => hO3.2.1 q j (by have := hEr q hq; omega)) (fun _ _ _ => rfl)
  refine q_iconst hF dL_isAs_474 ?_
  refine q_istore hF (ls' := [(8, qI 0), (6, qL (g_sum (g_handC (R 0)) n9)), (4, qL (g_sum (g_liveC (R 0)) n9)), (2, qL (g_print (R 0) n9)), (1, .ref k), (0, .ref b)]) (by decide) rfl dL_isAs_475 ?_
  refine lL_isAsL hF (by decide) hA hW3 hEr hro hl9 hnm ?_ _ 0 sz I (Nat.lt_succ_self _) (Nat.zero_le _) (Nat.le_refl _) hE3 q_Ou.rfl'
  intro sz4 I4 hs4 hE4 hO4
  have hW4 : q_OW E T I4 L3 P k v n9 ρ w m σ (R 0) := hW3.mv (fun _ z => z) (fun _ _ => rfl) (fun q j hq => hO4.1 q j (by have := hEr q hq; omega)) (fun _ _ _ => rfl) (fun _ _ _ => rfl)
  have hEr4 : ∀ q, E q → b + 452 ≤ q ∧ q < sz4 := fun q hq => by have := hEr q hq; omega
  refine q_iconst hF dL_isAs_835 ?_
  refine q_istore hF (ls' := [(8, qI 0), (6, qL (g_sum (g_handC (R 0)) n9)), (4, qL (g_sum (g_liveC (R 0)) n9)), (2, qL (g_print (R 0) n9)), (1, .ref k), (0, .ref b)]) (by decide) rfl dL_isAs_836 ?_
  refine lL_isAsRs hF (by decide) hA hW4 hEr4 hro hE4 ?_ _ 0 (Nat.lt_succ_self _) (Nat.zero_le _)
  refine q_iconst hF dL_isAs_892 ?_
  refine q_istore hF (ls' := [(8, qI 0), (6, qL (g_sum (g_handC (R 0)) n9)), (4, qL (g_sum (g_liveC (R 0)) n9)), (2, qL (g_print (R 0) n9)), (1, .ref k), (0, .ref b)]) (by decide) rfl dL_isAs_893 ?_
  refine lL_isAsB hF (by decide) hA hW4 hEr4 hro hE4 ?_ _ 0 (Nat.lt_succ_self _) (Nat.zero_le _)
  refine q_iconst hF dL_isAs_926 ?_
  refine q_istore hF (ls' := [(8, qI 0), (6, qL (g_sum (g_handC (R 0)) n9)), (4, qL (g_sum (g_liveC (R 0)) n9)), (2, qL (g_print (R 0) n9)), (1, .ref k), (0, .ref b)]) (by decide) rfl dL_isAs_927 ?_
  refine lL_isAsP hF (by decide) hA hW4 hEr4 hro hE4 ?_ _ 0 (Nat.lt_succ_self _) (Nat.zero_le _)
  exact lL_isAsE (kc := 0) (ks := 0) hF (by decide) hA hW4 hEr4 hro hE4 (fun sz2 I2 hs2 hE2 hO2 => k0 sz2 I2 L3 (by omega) hE2 (hO3.tr (hO4.tr hO2)))
