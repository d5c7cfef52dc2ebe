/-! the two banks compared -/
section QS
variable {G : q_G} {F : q_F} {Q : q_Q} {kc ks pc pc' pc1 tgt h : Nat} {Y : q_Y} {ls : List (Nat × Value)} {st : List Value} {sz : Nat} {T : q_T} {I L : q_I} {P : q_P}
theorem q_icmpne_s (hF : q_ok G F Y h) {a : Int} (d : q_j Y.2.1 pc pc' tgt (fun o => .if_icmp .ne o)) (k : qX G F Q kc ks pc' ls st sz T I L P) : qX G F Q kc ks pc ls (qI a :: qI a :: st) sz T I L P := by
  have e : qI a = qI ((Int32.ofInt a).toInt) := congrArg Value.int (Int32.ofInt_toInt _).symm
  rw [e]
  exact q_icmpne hF ⟨Int32.le_toInt _, Int32.toInt_lt _⟩ ⟨Int32.le_toInt _, Int32.toInt_lt _⟩ d (fun z => absurd rfl z) (fun _ => k)
theorem q_icmpeq_s (hF : q_ok G F Y h) {a : Int} (d : q_j Y.2.1 pc pc' tgt (fun o => .if_icmp .eq o)) (k : qX G F Q kc ks tgt ls st sz T I L P) : qX G F Q kc ks pc ls (qI a :: qI a :: st) sz T I L P := by
  have e : qI a = qI ((Int32.ofInt a).toInt) := congrArg Value.int (Int32.ofInt_toInt _).symm
  rw [e]
  exact q_icmpeq hF ⟨Int32.le_toInt _, Int32.toInt_lt _⟩ ⟨Int32.le_toInt _, Int32.toInt_lt _⟩ d (fun _ => k) (fun z => absurd rfl z)
theorem q_cmpne_s (hF : q_ok G F Y h) {a : Int} (d1 : q_d Y.2.1 pc pc1 .lcmp 1) (d2 : q_j Y.2.1 pc1 pc' tgt (fun o => .ifCond .ne o)) (k : qX G F Q kc ks pc' ls st sz T I L P) : qX G F Q kc ks pc ls (qL a :: qL a :: st) sz T I L P := by
  have e : qL a = qL ((Int64.ofInt a).toInt) := congrArg Value.long (Int64.ofInt_toInt _).symm
  rw [e]
  exact q_cmpne hF ⟨Int64.le_toInt _, Int64.toInt_lt _⟩ ⟨Int64.le_toInt _, Int64.toInt_lt _⟩ d1 d2 (fun z => absurd rfl z) (fun _ => k)
theorem q_cmpeq_s (hF : q_ok G F Y h) {a : Int} (d1 : q_d Y.2.1 pc pc1 .lcmp 1) (d2 : q_j Y.2.1 pc1 pc' tgt (fun o => .ifCond .eq o)) (k : qX G F Q kc ks tgt ls st sz T I L P) : qX G F Q kc ks pc ls (qL a :: qL a :: st) sz T I L P := by
  have e : qL a = qL ((Int64.ofInt a).toInt) := congrArg Value.long (Int64.ofInt_toInt _).symm
  rw [e]
  exact q_cmpeq hF ⟨Int64.le_toInt _, Int64.toInt_lt _⟩ ⟨Int64.le_toInt _, Int64.toInt_lt _⟩ d1 d2 (fun _ => k) (fun z => absurd rfl z)
end QS

set_option maxRecDepth 100000 in
theorem lL_isAsA {G : q_G} {F : q_F} {h : Nat} {Q : q_Q} {kc ks sz : Nat} {T : q_T} {b bk tp k v n9 w m : Nat} {B : Nat → Int} {R : Nat → Nat → Int} {E : Nat → Prop} {ρ σ : Nat → Nat} {I L : q_I} {P : q_P} (hF : q_ok G F YL_isAs h) (h9 : 9 ≤ h) (hA : q_A G b) (hW : q_OW E T I L P k v n9 ρ w m σ (R 0)) (hEr : ∀ q, E q → b + 452 ≤ q ∧ q < sz) (hro : q_RO (R 0)) (k0 : ∀ L9 : q_I, q_CE T b bk tp B R I L9 P → q_Ou b I L P I L9 P → qX G F Q kc ks 474 [(6, qL (g_sum (g_handC (R 0)) n9)), (4, qL (g_sum (g_liveC (R 0)) n9)), (2, qL (g_print (R 0) n9)), (1, .ref k), (0, .ref b)] [] sz T I L9 P) : ∀ (n : Nat) (c : Nat) (L9 : q_I), n9 - c < n → c ≤ n9 → q_CE T b bk tp B R I L9 P → q_Ou b I L P I L9 P → qX G F Q (kc + 13 * (n9 - c)) (ks + 78 * (n9 - c)) 113 [(8, qI (c : Int)), (6, qL (g_sum (g_handC (R 0)) c)), (4, qL (g_sum (g_liveC (R 0)) c)), (2, qL (g_print (R 0) c)), (1, .ref k), (0, .ref b)] [] sz T I L9 P := by
  intro n
  induction n with
  | zero => intro c L9 hn; exact absurd hn (Nat.not_lt_zero _)
  | succ n ih =>
    intro c L9 hn hc hE9 hO9
    have hO := hW.ot
    have hM := hW.om
    have hRk := hW.rr
    have hV0 := hro.1.1
    have hkz := hEr _ (hW.ek k (Nat.le_refl _) (by omega))
    have hn12 : n9 ≤ 12 := by have := hV0.many; have := hM.nn; omega
    have hm12 : m ≤ 12 := by have := hV0.rows; have := hM.mm; omega
    refine q_iload hF 0 rfl dL_isAs_113 ?_
    refine q_aload_n hF 4 rfl rfl dL_isAs_115 ?_
    refine q_getA hF fl_RL_231 rfl hO.t0 hM.pv dL_isAs_116 ?_
    refine q_alen hF (n := n9) hM.tv dL_isAs_119 ?_
    refine q_icmpge hF (by omega) (by omega) dL_isAs_120 (fun c120 => ?_) (fun c120 => ?_)
    · obtain rfl : c = n9 := by omega
      refine q_sub [1, 2, 3, 4, 5] rfl ?_
      exact qX.room (kc := kc) (ks := ks) (by omega) (by omega) (k0 L9 hE9 hO9)
    · have hlt : c < n9 := by omega
      have hil : (c : Int) < R 0 1 := by have := hM.nn; omega
      have hVA := hro.1.2.1 c hil
      rw [if_neg (Nat.not_lt_zero c)] at hVA
      have hTa := hM.ta c hlt
      have hac : q_OA I L9 (ρ c) (R 0) c := (hM.ac c hlt).mv (fun _ => rfl) (hO9.2.1 _ _ (by have := hEr _ (hM.ea c hlt); omega))
      have hst4 : I (ρ c) 4 = R 0 (1043 + 12 * c) := hac.st
      have hbz := hEr _ (hM.ea c hlt)
      have f1 := hVA.state
      have f2 := hVA.nl
      have f3 := hV0.month
      have f4 := hVA.cents
      have f5 := hVA.since
      refine qX.room (kc := kc + 13 * (n9 - (c + 1)) + 13) (ks := ks + 78 * (n9 - (c + 1)) + 78) (by omega) (by omega) ?_
      refine q_aload_n hF 4 rfl rfl dL_isAs_123 ?_
      refine q_getA hF fl_RL_231 rfl hO.t0 hM.pv dL_isAs_124 ?_
      refine q_iload hF 0 rfl dL_isAs_127 ?_
      refine q_aaloadv hF (b := ρ c) c hM.tv (by decide) rfl (by omega) (by omega) (hM.pa c hlt) dL_isAs_129 ?_
      refine q_astore hF (ls' := [(9, .ref (ρ c)), (8, qI (c : Int)), (6, qL (g_sum (g_handC (R 0)) c)), (4, qL (g_sum (g_liveC (R 0)) c)), (2, qL (g_print (R 0) c)), (1, .ref k), (0, .ref b)]) (by decide) rfl dL_isAs_130 ?_
      have hJ132 : qX G F Q (kc + 13 * (n9 - (c + 1)) + 13) (ks + 78 * (n9 - (c + 1)) + 78) 167 [(9, .ref (ρ c)), (8, qI (c : Int)), (6, qL (g_sum (g_handC (R 0)) c)), (4, qL (g_sum (g_liveC (R 0)) c)), (2, qL (g_print (R 0) c)), (1, .ref k), (0, .ref b)] [qI (g_landNow (R 0) c)] sz T I L9 P := by
        refine q_istore hF (ls' := [(10, qI (g_landNow (R 0) c)), (9, .ref (ρ c)), (8, qI (c : Int)), (6, qL (g_sum (g_handC (R 0)) c)), (4, qL (g_sum (g_liveC (R 0)) c)), (2, qL (g_print (R 0) c)), (1, .ref k), (0, .ref b)]) (by decide) rfl dL_isAs_167 ?_
        refine q_aload_n hF 7 rfl rfl dL_isAs_169 ?_
        refine q_iload hF 2 rfl dL_isAs_170 ?_
        refine q_iconst hF dL_isAs_172 ?_
        refine q_callSH (kc := kc + 13 * (n9 - (c + 1)) + 12) (ks := ks + 78 * (n9 - (c + 1)) + 72) (mc' := 1) (ms' := 6) (h' := 5) (st := []) hF sl_RL_266 rfl [.ref b, qI (c : Int), qI 0] rfl rfl (by omega) (Nat.le_of_ble_eq_true rfl) dL_isAs_173 ?_
        refine a_account (i := c) (v := R 0 (1039 + 12 * c)) hA hE9 hil (by decide) ((if_neg (by decide)).trans (congrArg (R 0) (by show 1039 + 12 * c + 0 = 1039 + 12 * c; omega))) ?_
        refine q_aload hF 1 rfl dL_isAs_176 ?_
        refine q_getIv hF (z := R 0 (1039 + 12 * c)) fl_RL_217 hTa hac.kd dL_isAs_178 ?_
        refine q_icmpne_s hF (a := R 0 (1039 + 12 * c)) dL_isAs_181 ?_
        refine q_aload_n hF 7 rfl rfl dL_isAs_184 ?_
        refine q_iload hF 2 rfl dL_isAs_185 ?_
        refine q_iconst hF dL_isAs_187 ?_
        refine q_callSH (kc := kc + 13 * (n9 - (c + 1)) + 11) (ks := ks + 78 * (n9 - (c + 1)) + 66) (mc' := 1) (ms' := 6) (h' := 5) (st := []) hF sl_RL_266 rfl [.ref b, qI (c : Int), qI 1] rfl rfl (by omega) (Nat.le_of_ble_eq_true rfl) dL_isAs_188 ?_
        refine a_account (i := c) (v := R 0 (1040 + 12 * c)) hA hE9 hil (by decide) ((if_neg (by decide)).trans (congrArg (R 0) (by show 1039 + 12 * c + 1 = 1040 + 12 * c; omega))) ?_
        refine q_aload hF 1 rfl dL_isAs_191 ?_
        refine q_getIv hF (z := R 0 (1040 + 12 * c)) fl_RL_220 hTa hac.ad dL_isAs_193 ?_
        refine q_icmpne_s hF (a := R 0 (1040 + 12 * c)) dL_isAs_196 ?_
        refine q_aload_n hF 7 rfl rfl dL_isAs_199 ?_
        refine q_iload hF 2 rfl dL_isAs_200 ?_
        refine q_iconst hF dL_isAs_202 ?_
        refine q_callSH (kc := kc + 13 * (n9 - (c + 1)) + 10) (ks := ks + 78 * (n9 - (c + 1)) + 60) (mc' := 1) (ms' := 6) (h' := 5) (st := []) hF sl_RL_266 rfl [.ref b, qI (c : Int), qI 2] rfl rfl (by omega) (Nat.le_of_ble_eq_true rfl) dL_isAs_203 ?_
        refine a_account (i := c) (v := R 0 (1041 + 12 * c)) hA hE9 hil (by decide) ((if_neg (by decide)).trans (congrArg (R 0) (by show 1039 + 12 * c + 2 = 1041 + 12 * c; omega))) ?_
        refine q_aload hF 1 rfl dL_isAs_206 ?_
        refine q_getIv hF (z := R 0 (1041 + 12 * c)) fl_RL_222 hTa hac.bi dL_isAs_208 ?_
        refine q_icmpne_s hF (a := R 0 (1041 + 12 * c)) dL_isAs_211 ?_
        refine q_aload_n hF 7 rfl rfl dL_isAs_214 ?_
        refine q_iload hF 2 rfl dL_isAs_215 ?_
        refine q_iconst hF dL_isAs_217 ?_
        refine q_callSH (kc := kc + 13 * (n9 - (c + 1)) + 9) (ks := ks + 78 * (n9 - (c + 1)) + 54) (mc' := 1) (ms' := 6) (h' := 5) (st := []) hF sl_RL_266 rfl [.ref b, qI (c : Int), qI 3] rfl rfl (by omega) (Nat.le_of_ble_eq_true rfl) dL_isAs_218 ?_
        refine a_account (i := c) (v := R 0 (1042 + 12 * c)) hA hE9 hil (by decide) ((if_neg (by decide)).trans (congrArg (R 0) (by show 1039 + 12 * c + 3 = 1042 + 12 * c; omega))) ?_
        refine q_i2l hF (by omega) dL_isAs_221 ?_
        refine q_aload hF 1 rfl dL_isAs_222 ?_
        refine q_getLv hF (z := R 0 (1042 + 12 * c)) fl_RL_227 hTa hac.ce dL_isAs_224 ?_
        refine q_cmpne_s hF (a := R 0 (1042 + 12 * c)) dL_isAs_227 dL_isAs_228 ?_
        refine q_aload_n hF 7 rfl rfl dL_isAs_231 ?_
        refine q_iload hF 2 rfl dL_isAs_232 ?_
        refine q_iconst hF dL_isAs_234 ?_
        refine q_callSH (kc := kc + 13 * (n9 - (c + 1)) + 8) (ks := ks + 78 * (n9 - (c + 1)) + 48) (mc' := 1) (ms' := 6) (h' := 5) (st := []) hF sl_RL_266 rfl [.ref b, qI (c : Int), qI 4] rfl rfl (by omega) (Nat.le_of_ble_eq_true rfl) dL_isAs_235 ?_
        refine a_account (i := c) (v := R 0 (1043 + 12 * c)) hA hE9 hil (by decide) ((if_neg (by decide)).trans (congrArg (R 0) (by show 1039 + 12 * c + 4 = 1043 + 12 * c; omega))) ?_
        refine q_aload hF 1 rfl dL_isAs_238 ?_
        refine q_getIv hF (z := R 0 (1043 + 12 * c)) fl_RL_260 hTa hac.st dL_isAs_240 ?_
        refine q_icmpne_s hF (a := R 0 (1043 + 12 * c)) dL_isAs_243 ?_
        refine q_aload_n hF 7 rfl rfl dL_isAs_246 ?_
        refine q_iload hF 2 rfl dL_isAs_247 ?_
        refine q_iconst hF dL_isAs_249 ?_
        refine q_callSH (kc := kc + 13 * (n9 - (c + 1)) + 7) (ks := ks + 78 * (n9 - (c + 1)) + 42) (mc' := 1) (ms' := 6) (h' := 5) (st := []) hF sl_RL_266 rfl [.ref b, qI (c : Int), qI 5] rfl rfl (by omega) (Nat.le_of_ble_eq_true rfl) dL_isAs_250 ?_
        refine a_account (i := c) (v := R 0 (1044 + 12 * c)) hA hE9 hil (by decide) ((if_neg (by decide)).trans (congrArg (R 0) (by show 1039 + 12 * c + 5 = 1044 + 12 * c; omega))) ?_
        refine q_aload hF 1 rfl dL_isAs_253 ?_
        refine q_getIv hF (z := R 0 (1044 + 12 * c)) fl_RL_269 hTa hac.ag dL_isAs_255 ?_
        refine q_icmpne_s hF (a := R 0 (1044 + 12 * c)) dL_isAs_258 ?_
        refine q_aload_n hF 7 rfl rfl dL_isAs_261 ?_
        refine q_iload hF 2 rfl dL_isAs_262 ?_
        refine q_bipush hF (n := 6) rfl dL_isAs_264 ?_
        refine q_callSH (kc := kc + 13 * (n9 - (c + 1)) + 6) (ks := ks + 78 * (n9 - (c + 1)) + 36) (mc' := 1) (ms' := 6) (h' := 5) (st := []) hF sl_RL_266 rfl [.ref b, qI (c : Int), qI 6] rfl rfl (by omega) (Nat.le_of_ble_eq_true rfl) dL_isAs_266 ?_
        refine a_account (i := c) (v := R 0 (1045 + 12 * c)) hA hE9 hil (by decide) ((if_neg (by decide)).trans (congrArg (R 0) (by show 1039 + 12 * c + 6 = 1045 + 12 * c; omega))) ?_
        refine q_aload hF 1 rfl dL_isAs_269 ?_
        refine q_getIv hF (z := R 0 (1045 + 12 * c)) fl_RL_272 hTa hac.si dL_isAs_271 ?_
        refine q_icmpne_s hF (a := R 0 (1045 + 12 * c)) dL_isAs_274 ?_
        refine q_aload_n hF 7 rfl rfl dL_isAs_277 ?_
        refine q_iload hF 2 rfl dL_isAs_278 ?_
        refine q_bipush hF (n := 7) rfl dL_isAs_280 ?_
        refine q_callSH (kc := kc + 13 * (n9 - (c + 1)) + 5) (ks := ks + 78 * (n9 - (c + 1)) + 30) (mc' := 1) (ms' := 6) (h' := 5) (st := []) hF sl_RL_266 rfl [.ref b, qI (c : Int), qI 7] rfl rfl (by omega) (Nat.le_of_ble_eq_true rfl) dL_isAs_282 ?_
        refine a_account (i := c) (v := R 0 (1046 + 12 * c)) hA hE9 hil (by decide) ((if_neg (by decide)).trans (congrArg (R 0) (by show 1039 + 12 * c + 7 = 1046 + 12 * c; omega))) ?_
        refine q_aload hF 1 rfl dL_isAs_285 ?_
        refine q_getIv hF (z := R 0 (1046 + 12 * c)) fl_RL_275 hTa hac.le dL_isAs_287 ?_
        refine q_icmpne_s hF (a := R 0 (1046 + 12 * c)) dL_isAs_290 ?_
        refine q_aload_n hF 7 rfl rfl dL_isAs_293 ?_
        refine q_iload hF 2 rfl dL_isAs_294 ?_
        refine q_bipush hF (n := 8) rfl dL_isAs_296 ?_
        refine q_callSH (kc := kc + 13 * (n9 - (c + 1)) + 4) (ks := ks + 78 * (n9 - (c + 1)) + 24) (mc' := 1) (ms' := 6) (h' := 5) (st := []) hF sl_RL_266 rfl [.ref b, qI (c : Int), qI 8] rfl rfl (by omega) (Nat.le_of_ble_eq_true rfl) dL_isAs_298 ?_
        refine a_account (i := c) (v := g_landNow (R 0) c) hA hE9 hil (by decide) (if_pos rfl) ?_
        refine q_iload hF 0 rfl dL_isAs_301 ?_
        refine q_icmpne_s hF (a := g_landNow (R 0) c) dL_isAs_303 ?_
        refine q_aload_n hF 7 rfl rfl dL_isAs_306 ?_
        refine q_iload hF 2 rfl dL_isAs_307 ?_
        refine q_bipush hF (n := 9) rfl dL_isAs_309 ?_
        refine q_callSH (kc := kc + 13 * (n9 - (c + 1)) + 3) (ks := ks + 78 * (n9 - (c + 1)) + 18) (mc' := 1) (ms' := 6) (h' := 5) (st := []) hF sl_RL_266 rfl [.ref b, qI (c : Int), qI 9] rfl rfl (by omega) (Nat.le_of_ble_eq_true rfl) dL_isAs_311 ?_
        refine a_account (i := c) (v := R 0 (1048 + 12 * c)) hA hE9 hil (by decide) ((if_neg (by decide)).trans (congrArg (R 0) (by show 1039 + 12 * c + 9 = 1048 + 12 * c; omega))) ?_
        refine q_aload hF 1 rfl dL_isAs_314 ?_
        refine q_getIv hF (z := R 0 (1048 + 12 * c)) fl_RL_277 hTa hac.la dL_isAs_316 ?_
        refine q_icmpne_s hF (a := R 0 (1048 + 12 * c)) dL_isAs_319 ?_
        refine q_aload_n hF 7 rfl rfl dL_isAs_322 ?_
        refine q_iload hF 2 rfl dL_isAs_323 ?_
        refine q_bipush hF (n := 10) rfl dL_isAs_325 ?_
        refine q_callSH (kc := kc + 13 * (n9 - (c + 1)) + 2) (ks := ks + 78 * (n9 - (c + 1)) + 12) (mc' := 1) (ms' := 6) (h' := 5) (st := []) hF sl_RL_266 rfl [.ref b, qI (c : Int), qI 10] rfl rfl (by omega) (Nat.le_of_ble_eq_true rfl) dL_isAs_327 ?_
        refine a_account (i := c) (v := R 0 (1049 + 12 * c)) hA hE9 hil (by decide) ((if_neg (by decide)).trans (congrArg (R 0) (by show 1039 + 12 * c + 10 = 1049 + 12 * c; omega))) ?_
        have hJ330 : qX G F Q (kc + 13 * (n9 - (c + 1)) + 2) (ks + 78 * (n9 - (c + 1)) + 12) 343 [(10, qI (g_landNow (R 0) c)), (9, .ref (ρ c)), (8, qI (c : Int)), (6, qL (g_sum (g_handC (R 0)) c)), (4, qL (g_sum (g_liveC (R 0)) c)), (2, qL (g_print (R 0) c)), (1, .ref k), (0, .ref b)] [qI (R 0 (1049 + 12 * c)), qI (R 0 (1049 + 12 * c))] sz T I L9 P := by
          refine q_icmpeq_s hF (a := R 0 (1049 + 12 * c)) dL_isAs_343 ?_
          refine q_aload_n hF 7 rfl rfl dL_isAs_348 ?_
          refine q_iload hF 2 rfl dL_isAs_349 ?_
          refine q_callSH (kc := kc + 13 * (n9 - (c + 1)) + 1) (ks := ks + 78 * (n9 - (c + 1)) + 6) (mc' := 1) (ms' := 6) (h' := 5) (st := []) hF sl_RL_284 rfl [.ref b, qI (c : Int)] rfl rfl (by omega) (Nat.le_of_ble_eq_true rfl) dL_isAs_351 ?_
          refine a_sleep (i := c) hA hE9 hil (fun N c351_0 c351_1 => ?_)
          have hJ354 : qX G F Q (kc + 13 * (n9 - (c + 1)) + 1) (ks + 78 * (n9 - (c + 1)) + 6) 372 [(10, qI (g_landNow (R 0) c)), (9, .ref (ρ c)), (8, qI (c : Int)), (6, qL (g_sum (g_handC (R 0)) c)), (4, qL (g_sum (g_liveC (R 0)) c)), (2, qL (g_print (R 0) c)), (1, .ref k), (0, .ref b)] [qI (g_sleepA (R 0) c), qI (g_sleepA (R 0) c)] sz T I N P := by
            refine q_icmpne_s hF (a := g_sleepA (R 0) c) dL_isAs_372 ?_
            refine q_aload_n hF 7 rfl rfl dL_isAs_375 ?_
            refine q_iload hF 2 rfl dL_isAs_376 ?_
            refine q_bipush hF (n := 7) rfl dL_isAs_378 ?_
            refine q_callSH (kc := kc + 13 * (n9 - (c + 1))) (ks := ks + 78 * (n9 - (c + 1))) (mc' := 1) (ms' := 6) (h' := 5) (st := []) hF sl_RL_289 rfl [.ref b, qI (c : Int), qI 7] rfl rfl (by omega) (Nat.le_of_ble_eq_true rfl) dL_isAs_380 ?_
            refine a_worth (i := c) hA c351_0 hil (by decide) ?_
            refine q_aload_n hF 6 rfl rfl dL_isAs_383 ?_
            refine q_aload hF 1 rfl dL_isAs_384 ?_
            refine q_bipush hF (n := 7) rfl dL_isAs_386 ?_
            refine q_callV (kc := kc + 13 * (n9 - (c + 1))) (ks := ks + 78 * (n9 - (c + 1))) (mc' := 0) (ms' := 0) (h' := 1) (st := [qL (g_worth (R 0) c 7)]) hF vl_RL_292 rfl [.ref (ρ c), qI 7] rfl rfl hO.t0 (by omega) (Nat.le_of_ble_eq_true rfl) dL_isAs_388 ?_
            refine mX10_worth hO hRk hTa (hac.mv (fun _ => rfl) (c351_1.2.1 _ _ (by omega))) hV0 hVA hM.mo (by decide) rfl ?_
            refine q_cmpeq_s hF (a := g_worth (R 0) c 7) dL_isAs_391 dL_isAs_392 ?_
            refine q_ldc2 hF (n := 31) (q_mem 1398 (by decide +kernel) rfl) dL_isAs_397 ?_
            refine q_ldc2 hF (n := 31) (q_mem 1398 (by decide +kernel) rfl) dL_isAs_400 ?_
            refine q_ldc2 hF (n := 31) (q_mem 1398 (by decide +kernel) rfl) dL_isAs_403 ?_
            refine q_lload_n hF 5 rfl rfl dL_isAs_406 ?_
            refine q_lmul hF dL_isAs_407 ?_
            refine q_aload hF 1 rfl dL_isAs_408 ?_
            refine q_getLv hF (z := R 0 (1042 + 12 * c)) fl_RL_227 hTa ((c351_1.2.1 _ _ (by omega)).trans hac.ce) dL_isAs_410 ?_
            refine q_ladd hF dL_isAs_413 ?_
            refine q_lmul hF dL_isAs_414 ?_
            refine q_aload hF 1 rfl dL_isAs_415 ?_
            refine q_getIv hF (z := R 0 (1043 + 12 * c)) fl_RL_260 hTa hac.st dL_isAs_417 ?_
            refine q_i2l hF (by omega) dL_isAs_420 ?_
            refine q_ladd hF dL_isAs_421 ?_
            refine q_lmul hF dL_isAs_422 ?_
            refine q_aload hF 1 rfl dL_isAs_423 ?_
            refine q_getIv hF (z := R 0 (1045 + 12 * c)) fl_RL_272 hTa hac.si dL_isAs_425 ?_
            refine q_i2l hF (by omega) dL_isAs_428 ?_
            refine q_ladd hF dL_isAs_429 ?_
            refine q_lstore_n hF (ls' := [(2, qL ((31 * ((31 * ((31 * (g_print (R 0) c)) + (R 0 (1042 + 12 * c)))) + (R 0 (1043 + 12 * c)))) + (R 0 (1045 + 12 * c)))), (10, qI (g_landNow (R 0) c)), (9, .ref (ρ c)), (8, qI (c : Int)), (6, qL (g_sum (g_handC (R 0)) c)), (4, qL (g_sum (g_liveC (R 0)) c)), (1, .ref k), (0, .ref b)]) rfl (by decide) rfl dL_isAs_430 ?_
            refine q_aload hF 2 rfl dL_isAs_431 ?_
            refine q_callV (kc := kc + 13 * (n9 - (c + 1))) (ks := ks + 78 * (n9 - (c + 1))) (mc' := 0) (ms' := 0) (h' := 0) (st := []) hF vl_RL_252 rfl [] rfl rfl hTa (by omega) (Nat.le_of_ble_eq_true rfl) dL_isAs_433 ?_
            refine mX8_isOpen hTa (by rw [hst4]; omega) ?_
            rw [show I (ρ c) 4 = R 0 (1043 + 12 * c) from hac.st]
            refine q_ifeq_b hF dL_isAs_436 (fun c436 => ?_) (fun c436 => ?_)
            · refine q_aload hF 2 rfl dL_isAs_449 ?_
              refine q_getIv hF (z := R 0 (1043 + 12 * c)) fl_RL_260 hTa hac.st dL_isAs_451 ?_
              refine q_iconst hF dL_isAs_454 ?_
              refine q_icmpne hF (by omega) (by decide) dL_isAs_455 (fun c455 => ?_) (fun c455 => ?_)
              · refine q_iinc hF (z' := ((1 + c : Nat) : Int)) (ls' := [(8, qI ((1 + c : Nat) : Int)), (2, qL ((31 * ((31 * ((31 * (g_print (R 0) c)) + (R 0 (1042 + 12 * c)))) + (R 0 (1043 + 12 * c)))) + (R 0 (1045 + 12 * c)))), (10, qI (g_landNow (R 0) c)), (9, .ref (ρ c)), (6, qL (g_sum (g_handC (R 0)) c)), (4, qL (g_sum (g_liveC (R 0)) c)), (1, .ref k), (0, .ref b)]) 3 rfl (by first | rfl | omega) (by decide) rfl dL_isAs_468 ?_
                refine q_goto hF dL_isAs_471 ?_
                refine q_sub [0, 4, 5, 1, 6, 7] rfl ?_
                have eg_liveC : g_sum (g_liveC (R 0)) c = g_sum (g_liveC (R 0)) (c + 1) := by
                  rw [g_sum_s, show g_liveC (R 0) c = 0 from if_neg (by omega), Int.add_zero]
                have eg_handC : g_sum (g_handC (R 0)) c = g_sum (g_handC (R 0)) (c + 1) := by
                  rw [g_sum_s, show g_handC (R 0) c = 0 from if_neg (by omega), Int.add_zero]
                rw [eg_liveC, eg_handC, Nat.add_comm 1 c]
                exact ih (c + 1) N (by omega) (by omega) c351_0 (hO9.tr c351_1)
              · refine q_lload hF 4 rfl dL_isAs_458 ?_
                refine q_aload hF 2 rfl dL_isAs_460 ?_
                refine q_getLv hF (z := R 0 (1042 + 12 * c)) fl_RL_227 hTa ((c351_1.2.1 _ _ (by omega)).trans hac.ce) dL_isAs_462 ?_
                refine q_ladd hF dL_isAs_465 ?_
                refine q_lstore hF (ls' := [(6, qL ((g_sum (g_handC (R 0)) c) + (R 0 (1042 + 12 * c)))), (2, qL ((31 * ((31 * ((31 * (g_print (R 0) c)) + (R 0 (1042 + 12 * c)))) + (R 0 (1043 + 12 * c)))) + (R 0 (1045 + 12 * c)))), (10, qI (g_landNow (R 0) c)), (9, .ref (ρ c)), (8, qI (c : Int)), (4, qL (g_sum (g_liveC (R 0)) c)), (1, .ref k), (0, .ref b)]) (by decide) rfl dL_isAs_466 ?_
                refine q_iinc hF (z' := ((1 + c : Nat) : Int)) (ls' := [(8, qI ((1 + c : Nat) : Int)), (6, qL ((g_sum (g_handC (R 0)) c) + (R 0 (1042 + 12 * c)))), (2, qL ((31 * ((31 * ((31 * (g_print (R 0) c)) + (R 0 (1042 + 12 * c)))) + (R 0 (1043 + 12 * c)))) + (R 0 (1045 + 12 * c)))), (10, qI (g_landNow (R 0) c)), (9, .ref (ρ c)), (4, qL (g_sum (g_liveC (R 0)) c)), (1, .ref k), (0, .ref b)]) 4 rfl (by first | rfl | omega) (by decide) rfl dL_isAs_468 ?_
                refine q_goto hF dL_isAs_471 ?_
                refine q_sub [0, 1, 5, 2, 6, 7] rfl ?_
                have eg_liveC : g_sum (g_liveC (R 0)) c = g_sum (g_liveC (R 0)) (c + 1) := by
                  rw [g_sum_s, show g_liveC (R 0) c = 0 from if_neg (by omega), Int.add_zero]
                have eg_handC : (g_sum (g_handC (R 0)) c) + (R 0 (1042 + 12 * c)) = g_sum (g_handC (R 0)) (c + 1) := by
                  rw [g_sum_s, show g_handC (R 0) c = R 0 (1042 + 12 * c) from if_pos (by omega)]
                rw [eg_liveC, eg_handC, Nat.add_comm 1 c]
                exact ih (c + 1) N (by omega) (by omega) c351_0 (hO9.tr c351_1)
            · refine q_lload hF 5 rfl dL_isAs_439 ?_
              refine q_aload hF 2 rfl dL_isAs_441 ?_
              refine q_getLv hF (z := R 0 (1042 + 12 * c)) fl_RL_227 hTa ((c351_1.2.1 _ _ (by omega)).trans hac.ce) dL_isAs_443 ?_
              refine q_ladd hF dL_isAs_446 ?_
              refine q_lstore hF (ls' := [(4, qL ((g_sum (g_liveC (R 0)) c) + (R 0 (1042 + 12 * c)))), (2, qL ((31 * ((31 * ((31 * (g_print (R 0) c)) + (R 0 (1042 + 12 * c)))) + (R 0 (1043 + 12 * c)))) + (R 0 (1045 + 12 * c)))), (10, qI (g_landNow (R 0) c)), (9, .ref (ρ c)), (8, qI (c : Int)), (6, qL (g_sum (g_handC (R 0)) c)), (1, .ref k), (0, .ref b)]) (by decide) rfl dL_isAs_447 ?_
              refine q_aload hF 3 rfl dL_isAs_449 ?_
              refine q_getIv hF (z := R 0 (1043 + 12 * c)) fl_RL_260 hTa hac.st dL_isAs_451 ?_
              refine q_iconst hF dL_isAs_454 ?_
              refine q_icmpne hF (by omega) (by decide) dL_isAs_455 (fun c455 => ?_) (fun c455 => ?_)
              · refine q_iinc hF (z' := ((1 + c : Nat) : Int)) (ls' := [(8, qI ((1 + c : Nat) : Int)), (4, qL ((g_sum (g_liveC (R 0)) c) + (R 0 (1042 + 12 * c)))), (2, qL ((31 * ((31 * ((31 * (g_print (R 0) c)) + (R 0 (1042 + 12 * c)))) + (R 0 (1043 + 12 * c)))) + (R 0 (1045 + 12 * c)))), (10, qI (g_landNow (R 0) c)), (9, .ref (ρ c)), (6, qL (g_sum (g_handC (R 0)) c)), (1, .ref k), (0, .ref b)]) 4 rfl (by first | rfl | omega) (by decide) rfl dL_isAs_468 ?_
                refine q_goto hF dL_isAs_471 ?_
                refine q_sub [0, 5, 1, 2, 6, 7] rfl ?_
                have eg_liveC : (g_sum (g_liveC (R 0)) c) + (R 0 (1042 + 12 * c)) = g_sum (g_liveC (R 0)) (c + 1) := by
                  rw [g_sum_s, show g_liveC (R 0) c = R 0 (1042 + 12 * c) from if_pos (by omega)]
                have eg_handC : g_sum (g_handC (R 0)) c = g_sum (g_handC (R 0)) (c + 1) := by
                  rw [g_sum_s, show g_handC (R 0) c = 0 from if_neg (by omega), Int.add_zero]
                rw [eg_liveC, eg_handC, Nat.add_comm 1 c]
                exact ih (c + 1) N (by omega) (by omega) c351_0 (hO9.tr c351_1)
              · refine q_lload hF 5 rfl dL_isAs_458 ?_
                refine q_aload hF 3 rfl dL_isAs_460 ?_
                refine q_getLv hF (z := R 0 (1042 + 12 * c)) fl_RL_227 hTa ((c351_1.2.1 _ _ (by omega)).trans hac.ce) dL_isAs_462 ?_
                refine q_ladd hF dL_isAs_465 ?_
                refine q_lstore hF (ls' := [(6, qL ((g_sum (g_handC (R 0)) c) + (R 0 (1042 + 12 * c)))), (4, qL ((g_sum (g_liveC (R 0)) c) + (R 0 (1042 + 12 * c)))), (2, qL ((31 * ((31 * ((31 * (g_print (R 0) c)) + (R 0 (1042 + 12 * c)))) + (R 0 (1043 + 12 * c)))) + (R 0 (1045 + 12 * c)))), (10, qI (g_landNow (R 0) c)), (9, .ref (ρ c)), (8, qI (c : Int)), (1, .ref k), (0, .ref b)]) (by decide) rfl dL_isAs_466 ?_
                refine q_iinc hF (z' := ((1 + c : Nat) : Int)) (ls' := [(8, qI ((1 + c : Nat) : Int)), (6, qL ((g_sum (g_handC (R 0)) c) + (R 0 (1042 + 12 * c)))), (4, qL ((g_sum (g_liveC (R 0)) c) + (R 0 (1042 + 12 * c)))), (2, qL ((31 * ((31 * ((31 * (g_print (R 0) c)) + (R 0 (1042 + 12 * c)))) + (R 0 (1043 + 12 * c)))) + (R 0 (1045 + 12 * c)))), (10, qI (g_landNow (R 0) c)), (9, .ref (ρ c)), (1, .ref k), (0, .ref b)]) 5 rfl (by first | rfl | omega) (by decide) rfl dL_isAs_468 ?_
                refine q_goto hF dL_isAs_471 ?_
                refine q_sub [0, 1, 2, 3, 6, 7] rfl ?_
                have eg_liveC : (g_sum (g_liveC (R 0)) c) + (R 0 (1042 + 12 * c)) = g_sum (g_liveC (R 0)) (c + 1) := by
                  rw [g_sum_s, show g_liveC (R 0) c = R 0 (1042 + 12 * c) from if_pos (by omega)]
                have eg_handC : (g_sum (g_handC (R 0)) c) + (R 0 (1042 + 12 * c)) = g_sum (g_handC (R 0)) (c + 1) := by
                  rw [g_sum_s, show g_handC (R 0) c = R 0 (1042 + 12 * c) from if_pos (by omega)]
                rw [eg_liveC, eg_handC, Nat.add_comm 1 c]
                exact ih (c + 1) N (by omega) (by omega) c351_0 (hO9.tr c351_1)
          refine q_aload hF 1 rfl dL_isAs_354 ?_
          refine q_callV (kc := kc + 13 * (n9 - (c + 1)) + 1) (ks := ks + 78 * (n9 - (c + 1)) + 6) (mc' := 0) (ms' := 0) (h' := 0) (st := [qI (g_sleepA (R 0) c)]) hF vl_RL_252 rfl [] rfl rfl hTa (by omega) (Nat.le_of_ble_eq_true rfl) dL_isAs_356 ?_
          refine mX8_isOpen hTa (by rw [hst4]; omega) ?_
          rw [show I (ρ c) 4 = R 0 (1043 + 12 * c) from hac.st]
          refine q_ifeq_b hF dL_isAs_359 (fun c359 => ?_) (fun c359 => ?_)
          · refine q_iconst hF dL_isAs_371 ?_
            have eJ : (g_sleepA (R 0) c) = (-1) := by unfold g_sleepA; first | rw [if_pos (Or.inr (by omega))] | (by_cases eb : g_bel (R 0) c = -1; rw [if_pos (Or.inl eb), if_pos eb]; rw [if_neg (by omega), if_neg eb])
            rw [eJ] at hJ354; first | exact hJ354 | (rw [eJ]; exact hJ354)
          · refine q_aload_n hF 6 rfl rfl dL_isAs_362 ?_
            refine q_aload hF 1 rfl dL_isAs_363 ?_
            refine q_callV (kc := kc + 13 * (n9 - (c + 1)) + 1) (ks := ks + 78 * (n9 - (c + 1)) + 6) (mc' := 0) (ms' := 0) (h' := 1) (st := [qI (g_sleepA (R 0) c)]) hF vl_RL_286 rfl [.ref (ρ c)] rfl rfl hO.t0 (by omega) (Nat.le_of_ble_eq_true rfl) dL_isAs_365 ?_
            refine mX10_sleepOf hO hRk hTa (hac.mv (fun _ => rfl) (c351_1.2.1 _ _ (by omega))) hV0 hVA (by omega) ?_
            refine q_goto hF dL_isAs_368 ?_
            have eJ : (g_sleepA (R 0) c) = (if g_bel (R 0) c = -1 then -1 else g_sleep (R 0) c (g_bel (R 0) c)) := by unfold g_sleepA; first | rw [if_pos (Or.inr (by omega))] | (by_cases eb : g_bel (R 0) c = -1; rw [if_pos (Or.inl eb), if_pos eb]; rw [if_neg (by omega), if_neg eb])
            rw [eJ] at hJ354; first | exact hJ354 | (rw [eJ]; exact hJ354)
        refine q_aload hF 1 rfl dL_isAs_330 ?_
        refine q_getZv hF (z := R 0 (1049 + 12 * c)) fl_RL_280 hTa hac.nl dL_isAs_332 ?_
        refine q_ifeq hF (by omega) dL_isAs_335 (fun c335 => ?_) (fun c335 => ?_)
        · refine q_iconst hF dL_isAs_342 ?_
          have eJ : (R 0 (1049 + 12 * c)) = 0 := by omega
          rw [eJ] at hJ330; first | exact hJ330 | (rw [eJ]; exact hJ330)
        · refine q_iconst hF dL_isAs_338 ?_
          refine q_goto hF dL_isAs_339 ?_
          have eJ : (R 0 (1049 + 12 * c)) = 1 := by omega
          rw [eJ] at hJ330; first | exact hJ330 | (rw [eJ]; exact hJ330)
      refine q_aload hF 0 rfl dL_isAs_132 ?_
      refine q_callV (kc := kc + 13 * (n9 - (c + 1)) + 13) (ks := ks + 78 * (n9 - (c + 1)) + 78) (mc' := 0) (ms' := 0) (h' := 0) (st := []) hF vl_RL_252 rfl [] rfl rfl hTa (by omega) (Nat.le_of_ble_eq_true rfl) dL_isAs_134 ?_
      refine mX8_isOpen hTa (by rw [hst4]; omega) ?_
      rw [show I (ρ c) 4 = R 0 (1043 + 12 * c) from hac.st]
      refine q_ifeq_b hF dL_isAs_137 (fun c137 => ?_) (fun c137 => ?_)
      · refine q_aload hF 0 rfl dL_isAs_149 ?_
        refine q_getIv hF (z := R 0 (1043 + 12 * c)) fl_RL_260 hTa hac.st dL_isAs_151 ?_
        refine q_iconst hF dL_isAs_154 ?_
        refine q_icmpne hF (by omega) (by decide) dL_isAs_155 (fun c155 => ?_) (fun c155 => ?_)
        · refine q_iconst hF dL_isAs_166 ?_
          rw [show (g_landNow (R 0) c) = (-1) from by unfold g_landNow; first | rw [if_pos (by omega)] | rw [if_neg (by omega), if_pos (by omega)] | rw [if_neg (by omega), if_neg (by omega)]] at hJ132; exact hJ132
        · refine q_aload hF 0 rfl dL_isAs_158 ?_
          refine q_getIv hF (z := R 0 (1047 + 12 * c)) fl_RL_263 hTa hac.ho dL_isAs_160 ?_
          refine q_goto hF dL_isAs_163 ?_
          rw [show (g_landNow (R 0) c) = (R 0 (1047 + 12 * c)) from by unfold g_landNow; first | rw [if_pos (by omega)] | rw [if_neg (by omega), if_pos (by omega)] | rw [if_neg (by omega), if_neg (by omega)]] at hJ132; exact hJ132
      · refine q_aload_n hF 5 rfl rfl dL_isAs_140 ?_
        refine q_aload hF 0 rfl dL_isAs_141 ?_
        refine q_callV (kc := kc + 13 * (n9 - (c + 1)) + 13) (ks := ks + 78 * (n9 - (c + 1)) + 78) (mc' := 0) (ms' := 0) (h' := 0) (st := []) hF vl_RL_256 rfl [.ref (ρ c)] rfl rfl hO.t0 (by omega) (Nat.le_of_ble_eq_true rfl) dL_isAs_143 ?_
        refine mX10_landOf hO hRk hTa hac hV0 hVA ?_
        refine q_goto hF dL_isAs_146 ?_
        rw [show (g_landNow (R 0) c) = (g_bel (R 0) c) from by unfold g_landNow; first | rw [if_pos (by omega)] | rw [if_neg (by omega), if_pos (by omega)] | rw [if_neg (by omega), if_neg (by omega)]] at hJ132; exact hJ132
