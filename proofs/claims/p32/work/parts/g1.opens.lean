/-! an account opened by both -/
/-- what lies outside: nothing written but the class, the draw, the bank's own -/
def q_FO (b d : Nat) (W : Nat → Prop) (sz sz' : Nat) (T : q_T) (I L : q_I) (P : q_P) (T' : q_T) (I' L' : q_I) (P' : q_P) : Prop := q_Fr (fun q => q < b + 452 ∨ q = d ∨ W q) sz sz' T I L P T' I' L' P' ∧ ∀ q j, q < b → I' q j = I q j
theorem q_FO.rfl' {b d : Nat} {W : Nat → Prop} {sz : Nat} {T : q_T} {I L : q_I} {P : q_P} : q_FO b d W sz sz T I L P T I L P := ⟨q_Fr.rfl', fun _ _ _ => rfl⟩
theorem q_FO.tr {b d : Nat} {W W' : Nat → Prop} {s1 s2 s3 : Nat} {T T1 T2 : q_T} {I L I1 L1 I2 L2 : q_I} {P P1 P2 : q_P} (h : q_FO b d W s1 s2 T I L P T1 I1 L1 P1) (h2 : q_FO b d W' s2 s3 T1 I1 L1 P1 T2 I2 L2 P2) (hw : ∀ q, q < s1 → W' q → W q) : q_FO b d W s1 s3 T I L P T2 I2 L2 P2 := ⟨h.1.tr h2.1 (fun q hq z => by rcases z with z | z | z; exact Or.inl z; exact Or.inr (Or.inl z); exact Or.inr (Or.inr (hw q hq z))), fun q j hq => (h2.2 q j hq).trans (h.2 q j hq)⟩
/-- one account more -/
theorem q_OW.opn {E : Nat → Prop} {T T' : q_T} {I L I' L' : q_I} {P P' : q_P} {k v n w m sz : Nat} {ρ σ : Nat → Nat} {r : Nat → Int} {kd ad bi ce : Int} (h : q_OW E T I L P k v n ρ w m σ r) (hv : g_V0 r) (hE : ∀ q, E q → q < sz) (hn : n < 12) (hT : ∀ q, E q → T' q = T q) (hT1 : T' sz = some (.inl 7)) (hT2 : T' (sz + 1) = some (.inr (8, n + 1))) (hI : ∀ q j, E q → I' q j = I q j) (hL : ∀ q j, E q → (q = k + 17 → j ≠ 0) → L' q j = L q j) (hL0 : L' (k + 17) 0 = r 17 + ce) (hP : ∀ q j, E q → (q = k → j ≠ 9) → P' q j = P q j) (hP9 : P' k 9 = some (sz + 1)) (hPn : ∀ j, j < n → P' (sz + 1) j = some (ρ j)) (hPm : P' (sz + 1) n = some sz) (hA : q_OA I' L' sz (g_oopen r n kd ad bi ce) n) : q_OW (q_Ex E sz (sz + 2)) T' I' L' P' k (sz + 1) (n + 1) (fun j => if j < n then ρ j else sz) w m σ (g_oopen r n kd ad bi ce) := by
  have M := h.om
  have O := h.ot
  have hkE := h.ek k (Nat.le_refl _) (by omega)
  have hlands := hv.lands
  have hr6 := hv.rows
  have hEx : ∀ q, E q → q_Ex E sz (sz + 2) q := fun q hq => Or.inl hq
  have e : ∀ x, (x < 1039 + 12 * n ∨ 1050 + 12 * n < x) → x ≠ 17 → x ≠ 1 → g_oopen r n kd ad bi ce x = r x := fun x a c d => g_oopen_n a c d
  have ni : ∀ q x, T q = some (.inr x) → q ≠ k := fun q x hq => q_Tne hq O.t0 (by intro z; cases z)
  have n7 : ∀ j, j < n → ρ j ≠ k + 17 := fun j hj => q_Tne (M.ta j hj) O.t17 (by intro z; cases z)
  refine ⟨O.mv (fun q a c => hT q (h.ek q a c)) (fun q j a c d _ => hP q j (h.ek q a c) (fun z => (d z).2.1)), fun q a c => hEx q (h.ek q a c), (h.rr.mv O h.ek hEx hT ⟨hI _ _ hkE, hI _ _ hkE, hI _ _ hkE, hI _ _ hkE⟩ (hP _ _ hkE (by omega)) (fun q x hq _ j => hI q j hq) (fun q x hq ht j => hP q j hq (fun z => absurd z (ni q _ ht)))).row hv (fun x hx => by unfold g_rc at hx; exact e x (by omega) (by omega) (by omega)), ?_⟩
  refine ⟨(hI _ _ hkE).trans (M.mo.trans (e 2 (by omega) (by omega) (by omega)).symm), (hI _ _ hkE).trans (M.se.trans (e 7 (by omega) (by omega) (by omega)).symm), hP9, hT2, Or.inr ⟨by omega, by omega⟩, (g_oopen_m r n kd ad bi ce).trans (by omega), fun j hj => ?_, fun j hj => ?_, fun j hj => ?_, fun j hj => ?_, fun i j hi hj hij => ?_, (hP _ _ hkE (by omega)).trans M.pw, (hT _ M.ew).trans M.tw, hEx _ M.ew, (e 6 (by omega) (by omega) (by omega)).trans M.mm, fun j hj => (hP _ _ M.ew (fun z => absurd z (ni _ _ M.tw))).trans (M.pr j hj), fun j hj => (hT _ (M.er j hj)).trans (M.tr j hj), fun j hj => hEx _ (M.er j hj), fun j i hj hi => (hI _ _ (M.er j hj)).trans ((M.ro j i hj hi).trans (e _ (by omega) (by omega) (by omega)).symm), fun i hi => ?_, (hL _ _ (h.ek _ (by omega) (by omega)) (by omega)).trans (M.b6.trans (e _ (by omega) (by omega) (by omega)).symm), fun l hl => (hL _ _ (h.ek _ (by omega) (by omega)) (by omega)).trans ((M.pd l hl).trans (e _ (by omega) (by omega) (by omega)).symm), fun l hl => (hL _ _ (h.ek _ (by omega) (by omega)) (by omega)).trans ((M.ps l hl).trans (e _ (by omega) (by omega) (by omega)).symm)⟩
  · by_cases c : j < n
    · dsimp only; rw [if_pos c]; exact hPn j c
    · obtain rfl : j = n := by omega
      dsimp only; rw [if_neg c]; exact hPm
  · by_cases c : j < n
    · dsimp only; rw [if_pos c]; exact (hT _ (M.ea j c)).trans (M.ta j c)
    · dsimp only; rw [if_neg c]; exact hT1
  · by_cases c : j < n
    · dsimp only; rw [if_pos c]; exact hEx _ (M.ea j c)
    · dsimp only; rw [if_neg c]; exact Or.inr ⟨Nat.le_refl _, by omega⟩
  · by_cases c : j < n
    · dsimp only; rw [if_pos c]
      exact ((M.ac j c).mv (fun x => hI _ _ (M.ea j c)) (hL _ _ (M.ea j c) (fun z => absurd z (n7 j c)))).row (fun x a d => e x (by omega) (by omega) (by omega))
    · obtain rfl : j = n := by omega
      dsimp only; rw [if_neg c]; exact hA
  · dsimp only
    by_cases c : i < n
    · rw [if_pos c]
      by_cases c2 : j < n
      · rw [if_pos c2]; exact M.dj i j c c2 hij
      · rw [if_neg c2]; have := hE _ (M.ea i c); omega
    · rw [if_neg c]
      have c2 : j < n := by omega
      rw [if_pos c2]; have := hE _ (M.ea j c2); omega
  · by_cases c : i = 0
    · subst c; exact hL0.trans (g_oopen_b r n kd ad bi ce).symm
    · exact (hL _ _ (h.ek _ (by omega) (by omega)) (fun _ => c)).trans ((M.b4 i hi).trans (e _ (by omega) (by omega) (by omega)).symm)

set_option maxRecDepth 100000 in
theorem lL_opens {G : q_G} {F : q_F} {h : Nat} {Q : q_Q} {kc ks sz : Nat} {T : q_T} {I L : q_I} {P : q_P} {k v x a b d n9 m9 : Nat} {ρ : Nat → Nat} (hF : q_ok G F YL_opens h) (hk : T k = some (.inl 9)) (hv : T v = some (.inr (8, n9))) (hx : T x = some (.inr (8, m9))) (hm9 : m9 = n9 + 1) (hs : ∀ j, j < n9 → T (ρ j) = some (.inl 7)) (hpk : P k 9 = some v) (hpv : ∀ j, j < n9 → P v j = some (ρ j)) (hkx : k ≠ x) (hvx : v ≠ x) (hAx : q_A G x) (hm12 : n9 ≤ 12) (k0 : qX G F Q kc ks 128 [(5, .ref x), (4, qI (n9 : Int)), (3, .ref a), (0, .ref b), (1, .ref k), (2, .ref d)] [] sz T I L (q_fP P x n9 ρ)) : ∀ (n : Nat) (c : Nat), n9 - c < n → c ≤ n9 → qX G F Q kc ks 103 [(6, qI (c : Int)), (5, .ref x), (4, qI (n9 : Int)), (3, .ref a), (0, .ref b), (1, .ref k), (2, .ref d)] [] sz T I L (q_fP P x c ρ) := by
  intro n
  induction n with
  | zero => intro c hn; exact absurd hn (Nat.not_lt_zero _)
  | succ n ih =>
    intro c hn hc
    refine q_iload hF 0 rfl dL_opens_103 ?_
    refine q_iload hF 2 rfl dL_opens_105 ?_
    refine q_icmpge hF (by omega) (by omega) dL_opens_107 (fun c107 => ?_) (fun c107 => ?_)
    · obtain rfl : c = n9 := by omega
      refine q_sub [1, 2, 3, 4, 5, 6] rfl ?_
      exact k0
    · refine q_aload hF 1 rfl dL_opens_110 ?_
      refine q_iload hF 0 rfl dL_opens_112 ?_
      refine q_aload_n hF 5 rfl rfl dL_opens_114 ?_
      refine q_getA hF fl_RL_231 rfl hk ((q_fP_n P ρ hkx).trans hpk) dL_opens_115 ?_
      refine q_iload hF 0 rfl dL_opens_118 ?_
      refine q_aaloadv hF (b := ρ c) c hv (by decide) rfl (by omega) (by omega) ((q_fP_n P ρ hvx).trans (hpv c (by omega))) dL_opens_120 ?_
      refine q_aastorev hF (n := m9) (ci := 7) c hx (hs c (by omega)) rfl rfl hAx rfl (by omega) (by omega) dL_opens_121 ?_
      refine q_iinc hF (z' := ((1 + c : Nat) : Int)) (ls' := [(6, qI ((1 + c : Nat) : Int)), (5, .ref x), (4, qI (n9 : Int)), (3, .ref a), (0, .ref b), (1, .ref k), (2, .ref d)]) 0 rfl (by first | rfl | omega) (by decide) rfl dL_opens_122 ?_
      refine q_goto hF dL_opens_125 ?_
      rw [q_fP_s]
      exact ih (1 + c) (by omega) (by omega)

set_option maxRecDepth 100000 in
theorem mL_opens {G : q_G} {sz : Nat} {T : q_T} {I L : q_I} {P : q_P} {Q : q_Q} {b : Nat} {k : Nat} {d : Nat} {bk tp n v w m x l9 a0 : Nat} {B : Nat → Int} {R : Nat → Nat → Int} {E : Nat → Prop} {ρ σ : Nat → Nat} (hE : q_CE T b bk tp B R I L P) (hA : q_A G b) (hW : q_OW E T I L P k v n ρ w m σ (R 0)) (hEr : ∀ q, E q → a0 ≤ q ∧ q < sz) (hL1 : b + 452 ≤ d) (hL2 : d < a0) (hL3 : a0 ≤ sz) (hTd :  T d = some (.inl 8)) (hx : I d 0 = (x : Int)) (hZ : q_F0 sz I L P) (hn : n < 12) (hl9 : R 0 0 = (l9 : Int)) (hl5 : 1 ≤ l9 ∧ l9 ≤ 3) (k0 : ∀ (T' : q_T) (I' L' : q_I) (P' : q_P) (kd ad bi ce : Int), 0 ≤ ce ∧ ce ≤ 2999900 → q_CE T' b (g_nb bk) tp B (g_Rn R bk (g_oopen (R 0) n kd ad bi ce)) I' L' P' → I' d 0 = ((d_nx (d_nx (d_nx (d_nx (d_nx x)))) : Nat) : Int) → q_OW (q_Ex E sz (sz + 2)) T' I' L' P' k (sz + 1) (n + 1) (fun j => if j < n then ρ j else sz) w m σ (g_oopen (R 0) n kd ad bi ce) → q_F0 (sz + 2) I' L' P' → q_FO b d (q_Wk k n ρ) sz (sz + 2) T I L P T' I' L' P' → T' d = some (.inl 8) → Q (.inl (some (qI 1))) (sz + 2) T' I' L' P') : qC G 6 3 60 YL_opens [.ref b, .ref k, .ref d] sz T I L P Q := by
  refine qC_of (by decide +kernel) rfl rfl (Nat.le_of_ble_eq_true rfl) (fun F hF _ _ => ?_)
  have hO := hW.ot
  have hM := hW.om
  have hR := hW.rr
  have hkE := hW.ek k (Nat.le_refl _) (by omega)
  have hk0 := hEr k hkE
  have hk17 := hEr _ (hW.ek (k + 17) (by omega) (by omega))
  have hvz := hEr v hM.ev
  have hro := hE.ro 0 (Nat.zero_le _)
  have hV0 := hro.1.1
  obtain ⟨l1, hl1, hl2⟩ : ∃ l1 : Nat, (l9 : Int) + 1 = (l1 : Int) ∧ l1 = l9 + 1 := ⟨l9 + 1, by omega, rfl⟩
  refine q_newo hF (s' := sz + 1) (kc := 2) (ks := 48) (ci := 7) (N := 12) ⟨_, rfl, rfl, (q_mem 1362 (by decide +kernel) rfl), (q_mem 524 (by decide +kernel) rfl), (q_mem 64 (by decide +kernel) rfl)⟩ (fun j => (hZ _ _ (by omega)).1) (fun j => (hZ _ _ (by omega)).2.1) (fun j => (hZ _ _ (by omega)).2.2) dL_opens_0 rfl ?_
  refine q_dup hF rfl dL_opens_3 ?_
  refine q_callC (kc := 2) (ks := 48) (mc' := 0) (ms' := 0) (h' := 1) (st := [.ref sz]) hF cl_RL_216 rfl [] rfl rfl (by decide) (Nat.le_of_ble_eq_true rfl) dL_opens_4 ?_
  refine mX8_init (q_upT_s _ _ _) (q_Ale hA (by omega)) ?_
  refine q_astore_n hF (ls' := [(3, .ref sz), (0, .ref b), (1, .ref k), (2, .ref d)]) rfl (by decide) rfl dL_opens_7 ?_
  refine q_aload_n hF 0 rfl rfl dL_opens_8 ?_
  refine q_aload_n hF 3 rfl rfl dL_opens_9 ?_
  refine q_iconst hF dL_opens_10 ?_
  refine q_callV (kc := 2) (ks := 48) (mc' := 0) (ms' := 0) (h' := 0) (st := [.ref sz]) hF vl_RL_145 rfl [qI 3] rfl rfl ((q_upT_n _ _ (by omega)).trans hTd) (by decide) (Nat.le_of_ble_eq_true rfl) dL_opens_11 ?_
  refine mX9_of (m := 3) ((q_upT_n _ _ (by omega)).trans hTd) (q_Ale hA (by omega)) (x := x) ((u2_k _ _ (by decide)).trans ((u2_k _ _ (by decide)).trans hx)) (by omega) (fun v_1 c11_0_1 c11_1_1 => ?_)
  refine q_putI hF fl_RL_217 (q_upT_s _ _ _) (q_Ale hA (by omega)) dL_opens_14 ?_
  refine q_aload_n hF 0 rfl rfl dL_opens_17 ?_
  refine q_aload_n hF 3 rfl rfl dL_opens_18 ?_
  refine q_aload_n hF 2 rfl rfl dL_opens_19 ?_
  refine q_getIv hF (z := (l9 : Int)) fl_RL_150 ((q_upT_n _ _ (by omega)).trans hO.t0) ((u2_a _ _ (by omega)).trans ((u2_a _ _ (by omega)).trans ((u2_k _ _ (by decide)).trans ((u2_k _ _ (by decide)).trans (hR.ln.trans hl9))))) dL_opens_20 ?_
  refine q_iconst hF dL_opens_23 ?_
  refine q_iadd hF dL_opens_24 ?_
  rw [hl1]
  refine q_callV (kc := 2) (ks := 48) (mc' := 0) (ms' := 0) (h' := 0) (st := [.ref sz]) hF vl_RL_145 rfl [qI (l1 : Int)] rfl rfl ((q_upT_n _ _ (by omega)).trans hTd) (by decide) (Nat.le_of_ble_eq_true rfl) dL_opens_25 ?_
  refine mX9_of (m := l1) ((q_upT_n _ _ (by omega)).trans hTd) (q_Ale hA (by omega)) (x := d_nx x) ((u2_a _ _ (by omega)).trans (u2_s _ _ _ _)) (by omega) (fun v_2 c25_0_2 c25_1_2 => ?_)
  refine q_iconst hF dL_opens_28 ?_
  refine q_isub hF dL_opens_29 ?_
  refine q_putI hF fl_RL_220 (q_upT_s _ _ _) (q_Ale hA (by omega)) dL_opens_30 ?_
  refine q_aload_n hF 0 rfl rfl dL_opens_33 ?_
  refine q_aload_n hF 3 rfl rfl dL_opens_34 ?_
  refine q_aload_n hF 2 rfl rfl dL_opens_35 ?_
  refine q_getIv hF (z := (l9 : Int)) fl_RL_150 ((q_upT_n _ _ (by omega)).trans hO.t0) ((u2_k _ _ (by decide)).trans ((u2_a _ _ (by omega)).trans ((u2_a _ _ (by omega)).trans ((u2_a _ _ (by omega)).trans ((u2_k _ _ (by decide)).trans ((u2_k _ _ (by decide)).trans (hR.ln.trans hl9))))))) dL_opens_36 ?_
  refine q_iconst hF dL_opens_39 ?_
  refine q_iadd hF dL_opens_40 ?_
  rw [hl1]
  refine q_callV (kc := 2) (ks := 48) (mc' := 0) (ms' := 0) (h' := 0) (st := [.ref sz]) hF vl_RL_145 rfl [qI (l1 : Int)] rfl rfl ((q_upT_n _ _ (by omega)).trans hTd) (by decide) (Nat.le_of_ble_eq_true rfl) dL_opens_41 ?_
  refine mX9_of (m := l1) ((q_upT_n _ _ (by omega)).trans hTd) (q_Ale hA (by omega)) (x := d_nx (d_nx x)) ((u2_k _ _ (by decide)).trans (u2_s _ _ _ _)) (by omega) (fun v_3 c41_0_3 c41_1_3 => ?_)
  refine q_iconst hF dL_opens_44 ?_
  refine q_isub hF dL_opens_45 ?_
  refine q_putI hF fl_RL_222 (q_upT_s _ _ _) (q_Ale hA (by omega)) dL_opens_46 ?_
  refine q_aload_n hF 0 rfl rfl dL_opens_49 ?_
  refine q_aload_n hF 3 rfl rfl dL_opens_50 ?_
  refine q_iconst hF dL_opens_51 ?_
  refine q_callV (kc := 2) (ks := 48) (mc' := 0) (ms' := 0) (h' := 0) (st := [.ref sz]) hF vl_RL_145 rfl [qI 3] rfl rfl ((q_upT_n _ _ (by omega)).trans hTd) (by decide) (Nat.le_of_ble_eq_true rfl) dL_opens_52 ?_
  refine mX9_of (m := 3) ((q_upT_n _ _ (by omega)).trans hTd) (q_Ale hA (by omega)) (x := d_nx (d_nx (d_nx x))) ((u2_k _ _ (by decide)).trans (u2_s _ _ _ _)) (by omega) (fun v_4 c52_0_4 c52_1_4 => ?_)
  refine q_ifne hF (by have := hM.nn; omega) dL_opens_55 (fun c55 => ?_) (fun c55 => ?_)
  · refine q_aload_n hF 3 rfl rfl dL_opens_73 ?_
    refine q_sipush hF (n := 9000) rfl dL_opens_74 ?_
    refine q_callV (kc := 2) (ks := 48) (mc' := 0) (ms' := 0) (h' := 0) (st := [.ref sz]) hF vl_RL_145 rfl [qI 9000] rfl rfl ((q_upT_n _ _ (by omega)).trans hTd) (by decide) (Nat.le_of_ble_eq_true rfl) dL_opens_77 ?_
    refine mX9_of (m := 9000) ((q_upT_n _ _ (by omega)).trans hTd) (q_Ale hA (by omega)) (x := d_nx (d_nx (d_nx (d_nx x)))) (u2_s _ _ _ _) (by omega) (fun v_5 c77_0_5 c77_1_5 => ?_)
    refine q_i2l hF (by have := hM.nn; omega) dL_opens_80 ?_
    refine q_putL hF fl_RL_227 (q_upT_s _ _ _) (q_Ale hA (by omega)) dL_opens_81 ?_
    refine q_aload_n hF 2 rfl rfl dL_opens_84 ?_
    refine q_getA hF fl_RL_231 rfl ((q_upT_n _ _ (by omega)).trans hO.t0) hM.pv dL_opens_85 ?_
    refine q_alen hF (n := n) ((q_upT_n _ _ (by omega)).trans hM.tv) dL_opens_88 ?_
    refine q_istore hF (ls' := [(4, qI (n : Int)), (3, .ref sz), (0, .ref b), (1, .ref k), (2, .ref d)]) (by decide) rfl dL_opens_89 ?_
    refine q_iload hF 0 rfl dL_opens_91 ?_
    refine q_iconst hF dL_opens_93 ?_
    refine q_iadd hF dL_opens_94 ?_
    refine qX.room (kc := 1 + 1) (ks := 6 + (1 + n)) (by omega) (by omega) ?_
    rw [show ((n : Int) + 1) = ((1 + n : Nat) : Int) from by omega]
    refine q_newr hF (s' := sz + 2) (kc := 1) (ks := 6) (t := 8) (n := 1 + n) rfl (by decide) (by decide) (q_mem 1362 (by decide +kernel) rfl) q_aO8 (by omega) (fun j => (hZ _ _ (by omega)).2.2) dL_opens_95 rfl ?_
    refine q_astore hF (ls' := [(5, .ref (sz + 1)), (4, qI (n : Int)), (3, .ref sz), (0, .ref b), (1, .ref k), (2, .ref d)]) (by decide) rfl dL_opens_98 ?_
    refine q_iconst hF dL_opens_100 ?_
    refine q_istore hF (ls' := [(6, qI 0), (5, .ref (sz + 1)), (4, qI (n : Int)), (3, .ref sz), (0, .ref b), (1, .ref k), (2, .ref d)]) (by decide) rfl dL_opens_101 ?_
    rw [← q_fP_0 P (sz + 1) ρ]
    have tk2 : (q_upT (q_upT T sz (.inl 7)) (sz + 1) (.inr (8, 1 + n))) k = some (.inl 9) := ((q_upT_n _ _ (by omega)).trans ((q_upT_n _ _ (by omega)).trans hO.t0))
    have tv2 : (q_upT (q_upT T sz (.inl 7)) (sz + 1) (.inr (8, 1 + n))) v = some (.inr (8, n)) := ((q_upT_n _ _ (by omega)).trans ((q_upT_n _ _ (by omega)).trans hM.tv))
    have ta2 : ∀ j, j < n → (q_upT (q_upT T sz (.inl 7)) (sz + 1) (.inr (8, 1 + n))) (ρ j) = some (.inl 7) := fun j hj => ((q_upT_n _ _ (by have := hEr _ (hM.ea j hj); omega)).trans ((q_upT_n _ _ (by have := hEr _ (hM.ea j hj); omega)).trans (hM.ta j hj)))
    refine lL_opens (k := k) (x := sz + 1) (ρ := ρ) (m9 := 1 + n) (v := v) hF tk2 tv2 (q_upT_s _ _ _) (Nat.add_comm 1 n) ta2 hM.pv hM.pa (by omega) (by omega) (q_Ale hA (by omega)) (by omega) ?_ _ 0 (Nat.lt_succ_self _) (Nat.zero_le _)
    refine q_aload hF 0 rfl dL_opens_128 ?_
    refine q_iload hF 1 rfl dL_opens_130 ?_
    refine q_aload_n hF 2 rfl rfl dL_opens_132 ?_
    refine q_aastorev hF (n := 1 + n) (ci := 7) n (q_upT_s _ _ _) ((q_upT_n _ _ (by omega)).trans (q_upT_s _ _ _)) rfl rfl (q_Ale hA (by omega)) rfl (by omega) (by omega) dL_opens_133 ?_
    refine q_aload_n hF 4 rfl rfl dL_opens_134 ?_
    refine q_aload hF 0 rfl dL_opens_135 ?_
    refine q_putA hF fl_RL_231 rfl ((q_upT_n _ _ (by omega)).trans ((q_upT_n _ _ (by omega)).trans hO.t0)) (q_Ale hA (by omega)) dL_opens_137 ?_
    refine q_aload_n hF 4 rfl rfl dL_opens_140 ?_
    refine q_getA hF fl_RL_235 rfl ((q_upT_n _ _ (by omega)).trans ((q_upT_n _ _ (by omega)).trans hO.t0)) ((u2_k _ _ (by decide)).trans ((u2_a _ _ (by omega)).trans ((q_fP_n P ρ (by omega)).trans hO.p12))) dL_opens_141 ?_
    refine q_iconst hF dL_opens_144 ?_
    refine q_dup2 hF rfl rfl dL_opens_145 ?_
    refine q_laloadv hF (z := (R 0 17)) (n := 7) 0 ((q_upT_n _ _ (by omega)).trans ((q_upT_n _ _ (by omega)).trans hO.t17)) rfl (by decide) (by decide) ((u2_k _ _ (by decide)).trans (hM.b4 0 (by decide))) dL_opens_146 ?_
    refine q_aload_n hF 2 rfl rfl dL_opens_147 ?_
    refine q_getLv hF (z := (v_5 : Int)) fl_RL_227 ((q_upT_n _ _ (by omega)).trans (q_upT_s _ _ _)) (u2_s _ _ _ _) dL_opens_148 ?_
    refine q_ladd hF dL_opens_151 ?_
    refine q_lastorev hF (n := 7) 0 ((q_upT_n _ _ (by omega)).trans ((q_upT_n _ _ (by omega)).trans hO.t17)) (q_Ale hA (by omega)) rfl (by decide) (by decide) dL_opens_152 ?_
    refine q_aload_n hF 3 rfl rfl dL_opens_153 ?_
    refine q_aload_n hF 2 rfl rfl dL_opens_154 ?_
    refine q_getIv hF (z := (v_1 : Int)) fl_RL_217 ((q_upT_n _ _ (by omega)).trans (q_upT_s _ _ _)) ((u2_a _ _ (by omega)).trans ((u2_a _ _ (by omega)).trans ((u2_k _ _ (by decide)).trans ((u2_a _ _ (by omega)).trans ((u2_k _ _ (by decide)).trans ((u2_a _ _ (by omega)).trans (u2_s _ _ _ _))))))) dL_opens_155 ?_
    refine q_aload_n hF 2 rfl rfl dL_opens_158 ?_
    refine q_getIv hF (z := (v_2 : Int) - 1) fl_RL_220 ((q_upT_n _ _ (by omega)).trans (q_upT_s _ _ _)) ((u2_k _ _ (by decide)).trans ((u2_k _ _ (by decide)).trans ((u2_k _ _ (by decide)).trans ((u2_k _ _ (by decide)).trans (u2_s _ _ _ _))))) dL_opens_159 ?_
    refine q_aload_n hF 2 rfl rfl dL_opens_162 ?_
    refine q_getIv hF (z := (v_3 : Int) - 1) fl_RL_222 ((q_upT_n _ _ (by omega)).trans (q_upT_s _ _ _)) ((u2_k _ _ (by decide)).trans ((u2_k _ _ (by decide)).trans (u2_s _ _ _ _))) dL_opens_163 ?_
    refine q_aload_n hF 2 rfl rfl dL_opens_166 ?_
    refine q_getLv hF (z := (v_5 : Int)) fl_RL_227 ((q_upT_n _ _ (by omega)).trans (q_upT_s _ _ _)) ((u2_k _ _ (by decide)).trans (u2_s _ _ _ _)) dL_opens_167 ?_
    refine q_l2i hF dL_opens_170 ?_
    refine q_callSH (kc := 0) (ks := 0) (mc' := 1) (ms' := 6) (h' := 5) (st := []) hF sl_RL_238 rfl [.ref b, qI (v_1 : Int), qI ((v_2 : Int) - 1), qI ((v_3 : Int) - 1), qI (v_5 : Int)] rfl rfl (by decide) (Nat.le_of_ble_eq_true rfl) dL_opens_171 ?_
    refine a_open hA (hE.mv (fun q a c => ((q_upT_n _ _ (by omega)).trans ((q_upT_n _ _ (by omega)).trans rfl))) (fun q j a c => ((u2_a _ _ (by omega)).trans ((u2_a _ _ (by omega)).trans ((u2_a _ _ (by omega)).trans ((u2_a _ _ (by omega)).trans ((u2_a _ _ (by omega)).trans ((u2_a _ _ (by omega)).trans ((u2_a _ _ (by omega)).trans ((u2_a _ _ (by omega)).trans ((u2_a _ _ (by omega)).trans ((u2_a _ _ (by omega)).trans rfl))))))))))) (fun q j a c => ((u2_a _ _ (by omega)).trans ((u2_a _ _ (by omega)).trans rfl))) (fun q j a c => ((u2_a _ _ (by omega)).trans ((u2_a _ _ (by omega)).trans (q_fP_n _ ρ (by omega)))))) (by omega) (by omega) (by omega) (by omega) (by omega) (by omega) (by have := hM.nn; omega) (fun Mq Nq Pq c171_0 c171_1 => ?_)
    refine q_iload hF 1 rfl dL_opens_174 ?_
    refine q_icmpne hF (by have := hM.nn; omega) (by have := hM.nn; omega) dL_opens_176 (fun c176 => ?_) (fun c176 => ?_)
    · have := hM.nn; omega
    · refine q_iconst hF dL_opens_179 ?_
      refine q_goto hF dL_opens_180 ?_
      refine q_zreturn hF (by decide) rfl dL_opens_184 ?_
      have hNn : (R 0 1).toNat = n := by have := hM.nn; omega
      rw [hNn] at c171_0
      have nd : ∀ q, E q → q ≠ d ∧ q ≠ sz ∧ q ≠ sz + 1 ∧ b + 452 ≤ q ∧ q < sz := fun q hq => by have := hEr q hq; omega
      have hW2 := hW.opn (sz := sz) (T' := q_upT (q_upT T sz (.inl 7)) (sz + 1) (.inr (8, 1 + n))) (I' := Mq) (L' := Nq) (P' := Pq) (kd := (v_1 : Int)) (ad := (v_2 : Int) - 1) (bi := (v_3 : Int) - 1) (ce := (v_5 : Int)) hV0 (fun q hq => (hEr q hq).2) hn (fun q hq => by have := nd q hq; exact ((q_upT_n _ _ (by omega)).trans ((q_upT_n _ _ (by omega)).trans rfl))) ((q_upT_n _ _ (by omega)).trans (q_upT_s _ _ _)) (by rw [Nat.add_comm n 1]; exact q_upT_s _ _ _) (fun q j hq => by have := nd q hq; exact (c171_1.1 q j (by omega)).trans ((u2_a _ _ (by omega)).trans ((u2_a _ _ (by omega)).trans ((u2_a _ _ (by omega)).trans ((u2_a _ _ (by omega)).trans ((u2_a _ _ (by omega)).trans ((u2_a _ _ (by omega)).trans ((u2_a _ _ (by omega)).trans ((u2_a _ _ (by omega)).trans ((u2_a _ _ (by omega)).trans ((u2_a _ _ (by omega)).trans rfl))))))))))) (fun q j hq hz => by have := nd q hq; exact (c171_1.2.1 q j (by omega)).trans ((u2_ne0 _ (by omega)).trans ((u2_ne0 _ (by omega)).trans rfl))) ((c171_1.2.1 _ _ (by omega)).trans (u2_s _ _ _ _)) (fun q j hq hz => by have := nd q hq; exact (c171_1.2.2 q j (by omega)).trans ((u2_ne0 _ (by omega)).trans ((u2_ne0 _ (by omega)).trans (q_fP_n P ρ (by omega))))) ((c171_1.2.2 _ _ (by omega)).trans (u2_s _ _ _ _)) (fun j hj => ((c171_1.2.2 _ _ (by omega)).trans ((u2_a _ _ (by omega)).trans ((u2_k _ _ (by omega)).trans (q_fP_t P ρ hj))))) ((c171_1.2.2 _ _ (by omega)).trans ((u2_a _ _ (by omega)).trans (u2_s _ _ _ _))) ⟨((c171_1.1 _ _ (by omega)).trans ((((u2_a _ _ (by omega)).trans ((u2_a _ _ (by omega)).trans ((u2_k _ _ (by decide)).trans ((u2_a _ _ (by omega)).trans ((u2_k _ _ (by decide)).trans ((u2_a _ _ (by omega)).trans (u2_s _ _ _ _)))))))).trans (g_oopen_1039 (R 0) n (v_1 : Int) ((v_2 : Int) - 1) ((v_3 : Int) - 1) (v_5 : Int)).symm)), ((c171_1.1 _ _ (by omega)).trans ((((u2_k _ _ (by decide)).trans ((u2_k _ _ (by decide)).trans ((u2_k _ _ (by decide)).trans ((u2_k _ _ (by decide)).trans (u2_s _ _ _ _)))))).trans (g_oopen_1040 (R 0) n (v_1 : Int) ((v_2 : Int) - 1) ((v_3 : Int) - 1) (v_5 : Int)).symm)), ((c171_1.1 _ _ (by omega)).trans ((((u2_k _ _ (by decide)).trans ((u2_k _ _ (by decide)).trans (u2_s _ _ _ _)))).trans (g_oopen_1041 (R 0) n (v_1 : Int) ((v_2 : Int) - 1) ((v_3 : Int) - 1) (v_5 : Int)).symm)), ((c171_1.2.1 _ _ (by omega)).trans ((((u2_k _ _ (by decide)).trans (u2_s _ _ _ _))).trans (g_oopen_1042 (R 0) n (v_1 : Int) ((v_2 : Int) - 1) ((v_3 : Int) - 1) (v_5 : Int)).symm)), ((c171_1.1 _ _ (by omega)).trans ((((u2_k _ _ (by decide)).trans ((u2_k _ _ (by decide)).trans ((u2_k _ _ (by decide)).trans ((u2_k _ _ (by decide)).trans ((u2_k _ _ (by decide)).trans ((u2_k _ _ (by decide)).trans ((u2_k _ _ (by decide)).trans ((u2_k _ _ (by decide)).trans ((u2_k _ _ (by decide)).trans ((u2_k _ _ (by decide)).trans (hZ _ _ (by omega)).1))))))))))).trans (g_oopen_1043 (R 0) n (v_1 : Int) ((v_2 : Int) - 1) ((v_3 : Int) - 1) (v_5 : Int)).symm)), ((c171_1.1 _ _ (by omega)).trans ((((u2_k _ _ (by decide)).trans ((u2_k _ _ (by decide)).trans ((u2_k _ _ (by decide)).trans ((u2_k _ _ (by decide)).trans ((u2_k _ _ (by decide)).trans ((u2_k _ _ (by decide)).trans ((u2_k _ _ (by decide)).trans ((u2_k _ _ (by decide)).trans ((u2_k _ _ (by decide)).trans ((u2_k _ _ (by decide)).trans (hZ _ _ (by omega)).1))))))))))).trans (g_oopen_1044 (R 0) n (v_1 : Int) ((v_2 : Int) - 1) ((v_3 : Int) - 1) (v_5 : Int)).symm)), ((c171_1.1 _ _ (by omega)).trans ((((u2_k _ _ (by decide)).trans ((u2_k _ _ (by decide)).trans ((u2_k _ _ (by decide)).trans ((u2_k _ _ (by decide)).trans ((u2_k _ _ (by decide)).trans ((u2_k _ _ (by decide)).trans ((u2_k _ _ (by decide)).trans ((u2_k _ _ (by decide)).trans ((u2_k _ _ (by decide)).trans ((u2_k _ _ (by decide)).trans (hZ _ _ (by omega)).1))))))))))).trans (g_oopen_1045 (R 0) n (v_1 : Int) ((v_2 : Int) - 1) ((v_3 : Int) - 1) (v_5 : Int)).symm)), ((c171_1.1 _ _ (by omega)).trans ((((u2_k _ _ (by decide)).trans ((u2_k _ _ (by decide)).trans ((u2_k _ _ (by decide)).trans ((u2_k _ _ (by decide)).trans ((u2_k _ _ (by decide)).trans ((u2_k _ _ (by decide)).trans ((u2_k _ _ (by decide)).trans ((u2_k _ _ (by decide)).trans ((u2_k _ _ (by decide)).trans ((u2_k _ _ (by decide)).trans (hZ _ _ (by omega)).1))))))))))).trans (g_oopen_1046 (R 0) n (v_1 : Int) ((v_2 : Int) - 1) ((v_3 : Int) - 1) (v_5 : Int)).symm)), ((c171_1.1 _ _ (by omega)).trans ((((u2_k _ _ (by decide)).trans ((u2_k _ _ (by decide)).trans ((u2_k _ _ (by decide)).trans ((u2_k _ _ (by decide)).trans ((u2_k _ _ (by decide)).trans ((u2_k _ _ (by decide)).trans ((u2_k _ _ (by decide)).trans ((u2_k _ _ (by decide)).trans ((u2_k _ _ (by decide)).trans (u2_s _ _ _ _))))))))))).trans (g_oopen_1047 (R 0) n (v_1 : Int) ((v_2 : Int) - 1) ((v_3 : Int) - 1) (v_5 : Int)).symm)), ((c171_1.1 _ _ (by omega)).trans ((((u2_k _ _ (by decide)).trans ((u2_k _ _ (by decide)).trans ((u2_k _ _ (by decide)).trans ((u2_k _ _ (by decide)).trans ((u2_k _ _ (by decide)).trans ((u2_k _ _ (by decide)).trans ((u2_k _ _ (by decide)).trans ((u2_k _ _ (by decide)).trans (u2_s _ _ _ _)))))))))).trans (g_oopen_1048 (R 0) n (v_1 : Int) ((v_2 : Int) - 1) ((v_3 : Int) - 1) (v_5 : Int)).symm)), ((c171_1.1 _ _ (by omega)).trans ((((u2_k _ _ (by decide)).trans ((u2_k _ _ (by decide)).trans ((u2_k _ _ (by decide)).trans ((u2_k _ _ (by decide)).trans ((u2_k _ _ (by decide)).trans ((u2_k _ _ (by decide)).trans ((u2_k _ _ (by decide)).trans ((u2_k _ _ (by decide)).trans ((u2_k _ _ (by decide)).trans ((u2_k _ _ (by decide)).trans (hZ _ _ (by omega)).1))))))))))).trans (g_oopen_1050 (R 0) n (v_1 : Int) ((v_2 : Int) - 1) ((v_3 : Int) - 1) (v_5 : Int)).symm)), ((c171_1.1 _ _ (by omega)).trans ((((u2_k _ _ (by decide)).trans ((u2_k _ _ (by decide)).trans ((u2_k _ _ (by decide)).trans ((u2_k _ _ (by decide)).trans ((u2_k _ _ (by decide)).trans ((u2_k _ _ (by decide)).trans ((u2_k _ _ (by decide)).trans ((u2_k _ _ (by decide)).trans ((u2_k _ _ (by decide)).trans ((u2_k _ _ (by decide)).trans (hZ _ _ (by omega)).1))))))))))).trans (g_oopen_1049 (R 0) n (v_1 : Int) ((v_2 : Int) - 1) ((v_3 : Int) - 1) (v_5 : Int)).symm))⟩
      refine k0 _ Mq Nq Pq _ _ _ _ ⟨by omega, by omega⟩ c171_0 ((c171_1.1 _ _ (by omega)).trans (u2_s _ _ _ _)) hW2 (fun q j hq => ⟨(c171_1.1 q j (by omega)).trans (((u2_a _ _ (by omega)).trans ((u2_a _ _ (by omega)).trans ((u2_a _ _ (by omega)).trans ((u2_a _ _ (by omega)).trans ((u2_a _ _ (by omega)).trans ((u2_a _ _ (by omega)).trans ((u2_a _ _ (by omega)).trans ((u2_a _ _ (by omega)).trans ((u2_a _ _ (by omega)).trans ((u2_a _ _ (by omega)).trans (hZ _ _ (by omega)).1))))))))))), (c171_1.2.1 q j (by omega)).trans (((u2_a _ _ (by omega)).trans ((u2_a _ _ (by omega)).trans (hZ _ _ (by omega)).2.1))), (c171_1.2.2 q j (by omega)).trans (((u2_a _ _ (by omega)).trans ((u2_a _ _ (by omega)).trans ((q_fP_n P ρ (by omega)).trans (hZ _ _ (by omega)).2.2))))⟩) ⟨⟨by omega, fun q hq => ((q_upT_n _ _ (by omega)).trans ((q_upT_n _ _ (by omega)).trans rfl)), fun q j hq hw => ?_, fun q j hq hw => ?_, fun q j hq hw => ?_⟩, fun q j hq => (c171_1.1 q j (Or.inl hq)).trans ((u2_a _ _ (by omega)).trans ((u2_a _ _ (by omega)).trans ((u2_a _ _ (by omega)).trans ((u2_a _ _ (by omega)).trans ((u2_a _ _ (by omega)).trans ((u2_a _ _ (by omega)).trans ((u2_a _ _ (by omega)).trans ((u2_a _ _ (by omega)).trans ((u2_a _ _ (by omega)).trans ((u2_a _ _ (by omega)).trans rfl))))))))))⟩ ((((q_upT_n _ _ (by omega)).trans ((q_upT_n _ _ (by omega)).trans rfl))).trans hTd)
      · have w1 : ¬ q < b + 452 := fun z => hw (Or.inl z)
        have w2 : q ≠ d := fun z => hw (Or.inr (Or.inl z))
        exact (c171_1.1 q j (by omega)).trans ((u2_a _ _ (by omega)).trans ((u2_a _ _ (by omega)).trans ((u2_a _ _ (by omega)).trans ((u2_a _ _ (by omega)).trans ((u2_a _ _ (by omega)).trans ((u2_a _ _ (by omega)).trans ((u2_a _ _ (by omega)).trans ((u2_a _ _ (by omega)).trans ((u2_a _ _ (by omega)).trans ((u2_a _ _ (by omega)).trans rfl))))))))))
      · have w1 : ¬ q < b + 452 := fun z => hw (Or.inl z)
        have w2 : q ≠ k + 17 := fun z => hw (Or.inr (Or.inr (Or.inr (Or.inl z))))
        exact (c171_1.2.1 q j (by omega)).trans ((u2_ne0 _ (by omega)).trans ((u2_ne0 _ (by omega)).trans rfl))
      · have w1 : ¬ q < b + 452 := fun z => hw (Or.inl z)
        have w2 : q ≠ k := fun z => hw (Or.inr (Or.inr (Or.inl z)))
        exact (c171_1.2.2 q j (by omega)).trans ((u2_ne0 _ (by omega)).trans ((u2_ne0 _ (by omega)).trans (q_fP_n P ρ (by omega))))
  · refine q_ldc2 hF (n := 100) (q_mem 1364 (by decide +kernel) rfl) dL_opens_58 ?_
    refine q_aload_n hF 3 rfl rfl dL_opens_61 ?_
    refine q_sipush hF (n := 30000) rfl dL_opens_62 ?_
    refine q_callV (kc := 2) (ks := 48) (mc' := 0) (ms' := 0) (h' := 0) (st := [qL 100, .ref sz]) hF vl_RL_145 rfl [qI 30000] rfl rfl ((q_upT_n _ _ (by omega)).trans hTd) (by decide) (Nat.le_of_ble_eq_true rfl) dL_opens_65 ?_
    refine mX9_of (m := 30000) ((q_upT_n _ _ (by omega)).trans hTd) (q_Ale hA (by omega)) (x := d_nx (d_nx (d_nx (d_nx x)))) (u2_s _ _ _ _) (by omega) (fun v_6 c65_0_6 c65_1_6 => ?_)
    refine q_i2l hF (by have := hM.nn; omega) dL_opens_68 ?_
    refine q_lmul hF dL_opens_69 ?_
    refine q_goto hF dL_opens_70 ?_
    refine q_putL hF fl_RL_227 (q_upT_s _ _ _) (q_Ale hA (by omega)) dL_opens_81 ?_
    refine q_aload_n hF 2 rfl rfl dL_opens_84 ?_
    refine q_getA hF fl_RL_231 rfl ((q_upT_n _ _ (by omega)).trans hO.t0) hM.pv dL_opens_85 ?_
    refine q_alen hF (n := n) ((q_upT_n _ _ (by omega)).trans hM.tv) dL_opens_88 ?_
    refine q_istore hF (ls' := [(4, qI (n : Int)), (3, .ref sz), (0, .ref b), (1, .ref k), (2, .ref d)]) (by decide) rfl dL_opens_89 ?_
    refine q_iload hF 0 rfl dL_opens_91 ?_
    refine q_iconst hF dL_opens_93 ?_
    refine q_iadd hF dL_opens_94 ?_
    refine qX.room (kc := 1 + 1) (ks := 6 + (1 + n)) (by omega) (by omega) ?_
    rw [show ((n : Int) + 1) = ((1 + n : Nat) : Int) from by omega]
    refine q_newr hF (s' := sz + 2) (kc := 1) (ks := 6) (t := 8) (n := 1 + n) rfl (by decide) (by decide) (q_mem 1362 (by decide +kernel) rfl) q_aO8 (by omega) (fun j => (hZ _ _ (by omega)).2.2) dL_opens_95 rfl ?_
    refine q_astore hF (ls' := [(5, .ref (sz + 1)), (4, qI (n : Int)), (3, .ref sz), (0, .ref b), (1, .ref k), (2, .ref d)]) (by decide) rfl dL_opens_98 ?_
    refine q_iconst hF dL_opens_100 ?_
    refine q_istore hF (ls' := [(6, qI 0), (5, .ref (sz + 1)), (4, qI (n : Int)), (3, .ref sz), (0, .ref b), (1, .ref k), (2, .ref d)]) (by decide) rfl dL_opens_101 ?_
    rw [← q_fP_0 P (sz + 1) ρ]
    have tk2 : (q_upT (q_upT T sz (.inl 7)) (sz + 1) (.inr (8, 1 + n))) k = some (.inl 9) := ((q_upT_n _ _ (by omega)).trans ((q_upT_n _ _ (by omega)).trans hO.t0))
    have tv2 : (q_upT (q_upT T sz (.inl 7)) (sz + 1) (.inr (8, 1 + n))) v = some (.inr (8, n)) := ((q_upT_n _ _ (by omega)).trans ((q_upT_n _ _ (by omega)).trans hM.tv))
    have ta2 : ∀ j, j < n → (q_upT (q_upT T sz (.inl 7)) (sz + 1) (.inr (8, 1 + n))) (ρ j) = some (.inl 7) := fun j hj => ((q_upT_n _ _ (by have := hEr _ (hM.ea j hj); omega)).trans ((q_upT_n _ _ (by have := hEr _ (hM.ea j hj); omega)).trans (hM.ta j hj)))
    refine lL_opens (k := k) (x := sz + 1) (ρ := ρ) (m9 := 1 + n) (v := v) hF tk2 tv2 (q_upT_s _ _ _) (Nat.add_comm 1 n) ta2 hM.pv hM.pa (by omega) (by omega) (q_Ale hA (by omega)) (by omega) ?_ _ 0 (Nat.lt_succ_self _) (Nat.zero_le _)
    refine q_aload hF 0 rfl dL_opens_128 ?_
    refine q_iload hF 1 rfl dL_opens_130 ?_
    refine q_aload_n hF 2 rfl rfl dL_opens_132 ?_
    refine q_aastorev hF (n := 1 + n) (ci := 7) n (q_upT_s _ _ _) ((q_upT_n _ _ (by omega)).trans (q_upT_s _ _ _)) rfl rfl (q_Ale hA (by omega)) rfl (by omega) (by omega) dL_opens_133 ?_
    refine q_aload_n hF 4 rfl rfl dL_opens_134 ?_
    refine q_aload hF 0 rfl dL_opens_135 ?_
    refine q_putA hF fl_RL_231 rfl ((q_upT_n _ _ (by omega)).trans ((q_upT_n _ _ (by omega)).trans hO.t0)) (q_Ale hA (by omega)) dL_opens_137 ?_
    refine q_aload_n hF 4 rfl rfl dL_opens_140 ?_
    refine q_getA hF fl_RL_235 rfl ((q_upT_n _ _ (by omega)).trans ((q_upT_n _ _ (by omega)).trans hO.t0)) ((u2_k _ _ (by decide)).trans ((u2_a _ _ (by omega)).trans ((q_fP_n P ρ (by omega)).trans hO.p12))) dL_opens_141 ?_
    refine q_iconst hF dL_opens_144 ?_
    refine q_dup2 hF rfl rfl dL_opens_145 ?_
    refine q_laloadv hF (z := (R 0 17)) (n := 7) 0 ((q_upT_n _ _ (by omega)).trans ((q_upT_n _ _ (by omega)).trans hO.t17)) rfl (by decide) (by decide) ((u2_k _ _ (by decide)).trans (hM.b4 0 (by decide))) dL_opens_146 ?_
    refine q_aload_n hF 2 rfl rfl dL_opens_147 ?_
    refine q_getLv hF (z := 100 * (v_6 : Int)) fl_RL_227 ((q_upT_n _ _ (by omega)).trans (q_upT_s _ _ _)) (u2_s _ _ _ _) dL_opens_148 ?_
    refine q_ladd hF dL_opens_151 ?_
    refine q_lastorev hF (n := 7) 0 ((q_upT_n _ _ (by omega)).trans ((q_upT_n _ _ (by omega)).trans hO.t17)) (q_Ale hA (by omega)) rfl (by decide) (by decide) dL_opens_152 ?_
    refine q_aload_n hF 3 rfl rfl dL_opens_153 ?_
    refine q_aload_n hF 2 rfl rfl dL_opens_154 ?_
    refine q_getIv hF (z := (v_1 : Int)) fl_RL_217 ((q_upT_n _ _ (by omega)).trans (q_upT_s _ _ _)) ((u2_a _ _ (by omega)).trans ((u2_a _ _ (by omega)).trans ((u2_k _ _ (by decide)).trans ((u2_a _ _ (by omega)).trans ((u2_k _ _ (by decide)).trans ((u2_a _ _ (by omega)).trans (u2_s _ _ _ _))))))) dL_opens_155 ?_
    refine q_aload_n hF 2 rfl rfl dL_opens_158 ?_
    refine q_getIv hF (z := (v_2 : Int) - 1) fl_RL_220 ((q_upT_n _ _ (by omega)).trans (q_upT_s _ _ _)) ((u2_k _ _ (by decide)).trans ((u2_k _ _ (by decide)).trans ((u2_k _ _ (by decide)).trans ((u2_k _ _ (by decide)).trans (u2_s _ _ _ _))))) dL_opens_159 ?_
    refine q_aload_n hF 2 rfl rfl dL_opens_162 ?_
    refine q_getIv hF (z := (v_3 : Int) - 1) fl_RL_222 ((q_upT_n _ _ (by omega)).trans (q_upT_s _ _ _)) ((u2_k _ _ (by decide)).trans ((u2_k _ _ (by decide)).trans (u2_s _ _ _ _))) dL_opens_163 ?_
    refine q_aload_n hF 2 rfl rfl dL_opens_166 ?_
    refine q_getLv hF (z := 100 * (v_6 : Int)) fl_RL_227 ((q_upT_n _ _ (by omega)).trans (q_upT_s _ _ _)) ((u2_k _ _ (by decide)).trans (u2_s _ _ _ _)) dL_opens_167 ?_
    refine q_l2i hF dL_opens_170 ?_
    refine q_callSH (kc := 0) (ks := 0) (mc' := 1) (ms' := 6) (h' := 5) (st := []) hF sl_RL_238 rfl [.ref b, qI (v_1 : Int), qI ((v_2 : Int) - 1), qI ((v_3 : Int) - 1), qI (100 * (v_6 : Int))] rfl rfl (by decide) (Nat.le_of_ble_eq_true rfl) dL_opens_171 ?_
    refine a_open hA (hE.mv (fun q a c => ((q_upT_n _ _ (by omega)).trans ((q_upT_n _ _ (by omega)).trans rfl))) (fun q j a c => ((u2_a _ _ (by omega)).trans ((u2_a _ _ (by omega)).trans ((u2_a _ _ (by omega)).trans ((u2_a _ _ (by omega)).trans ((u2_a _ _ (by omega)).trans ((u2_a _ _ (by omega)).trans ((u2_a _ _ (by omega)).trans ((u2_a _ _ (by omega)).trans ((u2_a _ _ (by omega)).trans ((u2_a _ _ (by omega)).trans rfl))))))))))) (fun q j a c => ((u2_a _ _ (by omega)).trans ((u2_a _ _ (by omega)).trans rfl))) (fun q j a c => ((u2_a _ _ (by omega)).trans ((u2_a _ _ (by omega)).trans (q_fP_n _ ρ (by omega)))))) (by omega) (by omega) (by omega) (by omega) (by omega) (by omega) (by have := hM.nn; omega) (fun Mq Nq Pq c171_0 c171_1 => ?_)
    refine q_iload hF 1 rfl dL_opens_174 ?_
    refine q_icmpne hF (by have := hM.nn; omega) (by have := hM.nn; omega) dL_opens_176 (fun c176 => ?_) (fun c176 => ?_)
    · have := hM.nn; omega
    · refine q_iconst hF dL_opens_179 ?_
      refine q_goto hF dL_opens_180 ?_
      refine q_zreturn hF (by decide) rfl dL_opens_184 ?_
      have hNn : (R 0 1).toNat = n := by have := hM.nn; omega
      rw [hNn] at c171_0
      have nd : ∀ q, E q → q ≠ d ∧ q ≠ sz ∧ q ≠ sz + 1 ∧ b + 452 ≤ q ∧ q < sz := fun q hq => by have := hEr q hq; omega
      have hW2 := hW.opn (sz := sz) (T' := q_upT (q_upT T sz (.inl 7)) (sz + 1) (.inr (8, 1 + n))) (I' := Mq) (L' := Nq) (P' := Pq) (kd := (v_1 : Int)) (ad := (v_2 : Int) - 1) (bi := (v_3 : Int) - 1) (ce := 100 * (v_6 : Int)) hV0 (fun q hq => (hEr q hq).2) hn (fun q hq => by have := nd q hq; exact ((q_upT_n _ _ (by omega)).trans ((q_upT_n _ _ (by omega)).trans rfl))) ((q_upT_n _ _ (by omega)).trans (q_upT_s _ _ _)) (by rw [Nat.add_comm n 1]; exact q_upT_s _ _ _) (fun q j hq => by have := nd q hq; exact (c171_1.1 q j (by omega)).trans ((u2_a _ _ (by omega)).trans ((u2_a _ _ (by omega)).trans ((u2_a _ _ (by omega)).trans ((u2_a _ _ (by omega)).trans ((u2_a _ _ (by omega)).trans ((u2_a _ _ (by omega)).trans ((u2_a _ _ (by omega)).trans ((u2_a _ _ (by omega)).trans ((u2_a _ _ (by omega)).trans ((u2_a _ _ (by omega)).trans rfl))))))))))) (fun q j hq hz => by have := nd q hq; exact (c171_1.2.1 q j (by omega)).trans ((u2_ne0 _ (by omega)).trans ((u2_ne0 _ (by omega)).trans rfl))) ((c171_1.2.1 _ _ (by omega)).trans (u2_s _ _ _ _)) (fun q j hq hz => by have := nd q hq; exact (c171_1.2.2 q j (by omega)).trans ((u2_ne0 _ (by omega)).trans ((u2_ne0 _ (by omega)).trans (q_fP_n P ρ (by omega))))) ((c171_1.2.2 _ _ (by omega)).trans (u2_s _ _ _ _)) (fun j hj => ((c171_1.2.2 _ _ (by omega)).trans ((u2_a _ _ (by omega)).trans ((u2_k _ _ (by omega)).trans (q_fP_t P ρ hj))))) ((c171_1.2.2 _ _ (by omega)).trans ((u2_a _ _ (by omega)).trans (u2_s _ _ _ _))) ⟨((c171_1.1 _ _ (by omega)).trans ((((u2_a _ _ (by omega)).trans ((u2_a _ _ (by omega)).trans ((u2_k _ _ (by decide)).trans ((u2_a _ _ (by omega)).trans ((u2_k _ _ (by decide)).trans ((u2_a _ _ (by omega)).trans (u2_s _ _ _ _)))))))).trans (g_oopen_1039 (R 0) n (v_1 : Int) ((v_2 : Int) - 1) ((v_3 : Int) - 1) (100 * (v_6 : Int))).symm)), ((c171_1.1 _ _ (by omega)).trans ((((u2_k _ _ (by decide)).trans ((u2_k _ _ (by decide)).trans ((u2_k _ _ (by decide)).trans ((u2_k _ _ (by decide)).trans (u2_s _ _ _ _)))))).trans (g_oopen_1040 (R 0) n (v_1 : Int) ((v_2 : Int) - 1) ((v_3 : Int) - 1) (100 * (v_6 : Int))).symm)), ((c171_1.1 _ _ (by omega)).trans ((((u2_k _ _ (by decide)).trans ((u2_k _ _ (by decide)).trans (u2_s _ _ _ _)))).trans (g_oopen_1041 (R 0) n (v_1 : Int) ((v_2 : Int) - 1) ((v_3 : Int) - 1) (100 * (v_6 : Int))).symm)), ((c171_1.2.1 _ _ (by omega)).trans ((((u2_k _ _ (by decide)).trans (u2_s _ _ _ _))).trans (g_oopen_1042 (R 0) n (v_1 : Int) ((v_2 : Int) - 1) ((v_3 : Int) - 1) (100 * (v_6 : Int))).symm)), ((c171_1.1 _ _ (by omega)).trans ((((u2_k _ _ (by decide)).trans ((u2_k _ _ (by decide)).trans ((u2_k _ _ (by decide)).trans ((u2_k _ _ (by decide)).trans ((u2_k _ _ (by decide)).trans ((u2_k _ _ (by decide)).trans ((u2_k _ _ (by decide)).trans ((u2_k _ _ (by decide)).trans ((u2_k _ _ (by decide)).trans ((u2_k _ _ (by decide)).trans (hZ _ _ (by omega)).1))))))))))).trans (g_oopen_1043 (R 0) n (v_1 : Int) ((v_2 : Int) - 1) ((v_3 : Int) - 1) (100 * (v_6 : Int))).symm)), ((c171_1.1 _ _ (by omega)).trans ((((u2_k _ _ (by decide)).trans ((u2_k _ _ (by decide)).trans ((u2_k _ _ (by decide)).trans ((u2_k _ _ (by decide)).trans ((u2_k _ _ (by decide)).trans ((u2_k _ _ (by decide)).trans ((u2_k _ _ (by decide)).trans ((u2_k _ _ (by decide)).trans ((u2_k _ _ (by decide)).trans ((u2_k _ _ (by decide)).trans (hZ _ _ (by omega)).1))))))))))).trans (g_oopen_1044 (R 0) n (v_1 : Int) ((v_2 : Int) - 1) ((v_3 : Int) - 1) (100 * (v_6 : Int))).symm)), ((c171_1.1 _ _ (by omega)).trans ((((u2_k _ _ (by decide)).trans ((u2_k _ _ (by decide)).trans ((u2_k _ _ (by decide)).trans ((u2_k _ _ (by decide)).trans ((u2_k _ _ (by decide)).trans ((u2_k _ _ (by decide)).trans ((u2_k _ _ (by decide)).trans ((u2_k _ _ (by decide)).trans ((u2_k _ _ (by decide)).trans ((u2_k _ _ (by decide)).trans (hZ _ _ (by omega)).1))))))))))).trans (g_oopen_1045 (R 0) n (v_1 : Int) ((v_2 : Int) - 1) ((v_3 : Int) - 1) (100 * (v_6 : Int))).symm)), ((c171_1.1 _ _ (by omega)).trans ((((u2_k _ _ (by decide)).trans ((u2_k _ _ (by decide)).trans ((u2_k _ _ (by decide)).trans ((u2_k _ _ (by decide)).trans ((u2_k _ _ (by decide)).trans ((u2_k _ _ (by decide)).trans ((u2_k _ _ (by decide)).trans ((u2_k _ _ (by decide)).trans ((u2_k _ _ (by decide)).trans ((u2_k _ _ (by decide)).trans (hZ _ _ (by omega)).1))))))))))).trans (g_oopen_1046 (R 0) n (v_1 : Int) ((v_2 : Int) - 1) ((v_3 : Int) - 1) (100 * (v_6 : Int))).symm)), ((c171_1.1 _ _ (by omega)).trans ((((u2_k _ _ (by decide)).trans ((u2_k _ _ (by decide)).trans ((u2_k _ _ (by decide)).trans ((u2_k _ _ (by decide)).trans ((u2_k _ _ (by decide)).trans ((u2_k _ _ (by decide)).trans ((u2_k _ _ (by decide)).trans ((u2_k _ _ (by decide)).trans ((u2_k _ _ (by decide)).trans (u2_s _ _ _ _))))))))))).trans (g_oopen_1047 (R 0) n (v_1 : Int) ((v_2 : Int) - 1) ((v_3 : Int) - 1) (100 * (v_6 : Int))).symm)), ((c171_1.1 _ _ (by omega)).trans ((((u2_k _ _ (by decide)).trans ((u2_k _ _ (by decide)).trans ((u2_k _ _ (by decide)).trans ((u2_k _ _ (by decide)).trans ((u2_k _ _ (by decide)).trans ((u2_k _ _ (by decide)).trans ((u2_k _ _ (by decide)).trans ((u2_k _ _ (by decide)).trans (u2_s _ _ _ _)))))))))).trans (g_oopen_1048 (R 0) n (v_1 : Int) ((v_2 : Int) - 1) ((v_3 : Int) - 1) (100 * (v_6 : Int))).symm)), ((c171_1.1 _ _ (by omega)).trans ((((u2_k _ _ (by decide)).trans ((u2_k _ _ (by decide)).trans ((u2_k _ _ (by decide)).trans ((u2_k _ _ (by decide)).trans ((u2_k _ _ (by decide)).trans ((u2_k _ _ (by decide)).trans ((u2_k _ _ (by decide)).trans ((u2_k _ _ (by decide)).trans ((u2_k _ _ (by decide)).trans ((u2_k _ _ (by decide)).trans (hZ _ _ (by omega)).1))))))))))).trans (g_oopen_1050 (R 0) n (v_1 : Int) ((v_2 : Int) - 1) ((v_3 : Int) - 1) (100 * (v_6 : Int))).symm)), ((c171_1.1 _ _ (by omega)).trans ((((u2_k _ _ (by decide)).trans ((u2_k _ _ (by decide)).trans ((u2_k _ _ (by decide)).trans ((u2_k _ _ (by decide)).trans ((u2_k _ _ (by decide)).trans ((u2_k _ _ (by decide)).trans ((u2_k _ _ (by decide)).trans ((u2_k _ _ (by decide)).trans ((u2_k _ _ (by decide)).trans ((u2_k _ _ (by decide)).trans (hZ _ _ (by omega)).1))))))))))).trans (g_oopen_1049 (R 0) n (v_1 : Int) ((v_2 : Int) - 1) ((v_3 : Int) - 1) (100 * (v_6 : Int))).symm))⟩
      refine k0 _ Mq Nq Pq _ _ _ _ ⟨by omega, by omega⟩ c171_0 ((c171_1.1 _ _ (by omega)).trans (u2_s _ _ _ _)) hW2 (fun q j hq => ⟨(c171_1.1 q j (by omega)).trans (((u2_a _ _ (by omega)).trans ((u2_a _ _ (by omega)).trans ((u2_a _ _ (by omega)).trans ((u2_a _ _ (by omega)).trans ((u2_a _ _ (by omega)).trans ((u2_a _ _ (by omega)).trans ((u2_a _ _ (by omega)).trans ((u2_a _ _ (by omega)).trans ((u2_a _ _ (by omega)).trans ((u2_a _ _ (by omega)).trans (hZ _ _ (by omega)).1))))))))))), (c171_1.2.1 q j (by omega)).trans (((u2_a _ _ (by omega)).trans ((u2_a _ _ (by omega)).trans (hZ _ _ (by omega)).2.1))), (c171_1.2.2 q j (by omega)).trans (((u2_a _ _ (by omega)).trans ((u2_a _ _ (by omega)).trans ((q_fP_n P ρ (by omega)).trans (hZ _ _ (by omega)).2.2))))⟩) ⟨⟨by omega, fun q hq => ((q_upT_n _ _ (by omega)).trans ((q_upT_n _ _ (by omega)).trans rfl)), fun q j hq hw => ?_, fun q j hq hw => ?_, fun q j hq hw => ?_⟩, fun q j hq => (c171_1.1 q j (Or.inl hq)).trans ((u2_a _ _ (by omega)).trans ((u2_a _ _ (by omega)).trans ((u2_a _ _ (by omega)).trans ((u2_a _ _ (by omega)).trans ((u2_a _ _ (by omega)).trans ((u2_a _ _ (by omega)).trans ((u2_a _ _ (by omega)).trans ((u2_a _ _ (by omega)).trans ((u2_a _ _ (by omega)).trans ((u2_a _ _ (by omega)).trans rfl))))))))))⟩ ((((q_upT_n _ _ (by omega)).trans ((q_upT_n _ _ (by omega)).trans rfl))).trans hTd)
      · have w1 : ¬ q < b + 452 := fun z => hw (Or.inl z)
        have w2 : q ≠ d := fun z => hw (Or.inr (Or.inl z))
        exact (c171_1.1 q j (by omega)).trans ((u2_a _ _ (by omega)).trans ((u2_a _ _ (by omega)).trans ((u2_a _ _ (by omega)).trans ((u2_a _ _ (by omega)).trans ((u2_a _ _ (by omega)).trans ((u2_a _ _ (by omega)).trans ((u2_a _ _ (by omega)).trans ((u2_a _ _ (by omega)).trans ((u2_a _ _ (by omega)).trans ((u2_a _ _ (by omega)).trans rfl))))))))))
      · have w1 : ¬ q < b + 452 := fun z => hw (Or.inl z)
        have w2 : q ≠ k + 17 := fun z => hw (Or.inr (Or.inr (Or.inr (Or.inl z))))
        exact (c171_1.2.1 q j (by omega)).trans ((u2_ne0 _ (by omega)).trans ((u2_ne0 _ (by omega)).trans rfl))
      · have w1 : ¬ q < b + 452 := fun z => hw (Or.inl z)
        have w2 : q ≠ k := fun z => hw (Or.inr (Or.inr (Or.inl z)))
        exact (c171_1.2.2 q j (by omega)).trans ((u2_ne0 _ (by omega)).trans ((u2_ne0 _ (by omega)).trans (q_fP_n P ρ (by omega))))
