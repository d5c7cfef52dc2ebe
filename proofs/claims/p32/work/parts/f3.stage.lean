/-! a bank drawn and told: stages -/
def q_DW (b bk : Nat) (R : Nat → Nat → Int) (ta d : Nat) (L : q_I) (K l9 : Nat) (T0 : q_T) (I0 : q_I) (P0 : q_P) (T : q_T) (I : q_I) (P : q_P) (sz cd m on hp : Nat) (t : Nat → Int) (bs : List Nat) (p : Nat × Nat) : Prop := q_TB T b bk R I L P ta bs ∧ I d 0 = (p.2 : Int) ∧ q_DS T I L P K sz l9 cd t ∧ q_PT bs cd (on : Int) (hp : Int) t ∧ t 0 = (m : Int) ∧ e_nms t m ∧ (∀ q, q < b → T q = T0 q ∧ ∀ j, I q j = I0 q j ∧ P q j = P0 q j) ∧ T d = some (.inl 8)

set_option maxRecDepth 100000 in
theorem lL_wait {G : q_G} {F : q_F} {h : Nat} {Q : q_Q} {kc ks sz : Nat} {T : q_T} {I L : q_I} {P : q_P} {b bk ta d K l9 cd m on hp : Nat} {R : Nat → Nat → Int} {T0 : q_T} {I0 : q_I} {P0 : q_P} {t : Nat → Int} {bs : List Nat} {p : Nat × Nat} (hF : q_ok G F YL_drawn h) (h6 : 6 ≤ h) (hA : q_A G b) (hL1 : b + 452 ≤ ta) (hL2 : ta < d) (hL3 : d < K) (hW : q_DW b bk R ta d L K l9 T0 I0 P0 T I P sz cd m on hp t bs p) (hon : on = 0) (hm5 : m ≤ 5) (hbl : bs.length ≤ 560) (k0 : ∀ (J : q_I) (on2 : Nat) (t2 : Nat → Int) (bs2 : List Nat), on2 < 2 → bs2.length ≤ bs.length + 7 → q_DW b bk R ta d L K l9 T0 I0 P0 T J P sz cd m on2 hp t2 bs2 (f_opt p) → qX G F Q kc ks 521 [(3, .ref K), (0, .ref b), (1, .ref ta), (2, .ref d)] [] sz T J L P) : qX G F Q kc ks 480 [(3, .ref K), (0, .ref b), (1, .ref ta), (2, .ref d)] [] sz T I L P := by
  obtain ⟨hB, hx, hD, hPT, hm0, hnm, hfr, hTd⟩ := hW
  have hL4 := hD.s20
  obtain ⟨q49, q50, q51, q52, q53, q54, q55, q56, q57, q58, q59, q60, q61, q62⟩ := e_lens
  refine q_aload_n hF 3 rfl rfl dL_drawn_480 ?_
  refine q_iconst hF dL_drawn_481 ?_
  refine q_callV (kc := kc) (ks := ks) (mc' := 0) (ms' := 0) (h' := 0) (st := []) hF vl_RL_145 rfl [qI 2] rfl rfl hTd (by omega) (Nat.le_of_ble_eq_true rfl) dL_drawn_482 ?_
  refine mX9_of (m := 2) hTd (q_Ale hA (by omega)) (x := p.2) hx (by omega) (fun v_1 c482_0_1 c482_1_1 => ?_)
  refine q_ifne hF (by omega) dL_drawn_485 (fun c485 => ?_) (fun c485 => ?_)
  · have ef : f_opt p = f_p p := if_neg (by show ¬ d_nx p.2 / 65536 % 2 = 0; omega)
    exact k0 _ on t bs (by omega) (by omega) ⟨(hB.mv (fun q a c => rfl) (fun q k a c => ((u2_a _ _ (by omega)).trans rfl)) (fun _ _ _ _ => rfl) (fun q k a c => rfl)), by rw [ef]; exact (u2_s _ _ _ _), hD.hi (fun q j hq => ((u2_a _ _ (by omega)).trans rfl)), hPT, hm0, hnm, (fun q hq => ⟨(hfr q hq).1, fun j => ⟨((u2_a _ _ (by omega)).trans ((hfr q hq).2 j).1), ((hfr q hq).2 j).2⟩⟩), hTd⟩
  · refine q_aload_n hF 0 rfl rfl dL_drawn_488 ?_
    refine q_aload_n hF 3 rfl rfl dL_drawn_489 ?_
    refine q_bipush hF (n := 9) rfl dL_drawn_490 ?_
    refine q_callV (kc := kc) (ks := ks) (mc' := 0) (ms' := 0) (h' := 0) (st := [.ref K]) hF vl_RL_145 rfl [qI 9] rfl rfl hTd (by omega) (Nat.le_of_ble_eq_true rfl) dL_drawn_492 ?_
    refine mX9_of (m := 9) hTd (q_Ale hA (by omega)) (x := d_nx p.2) (u2_s _ _ _ _) (by omega) (fun v_2 c492_0_2 c492_1_2 => ?_)
    refine q_putI hF fl_RL_191 hD.ot.t0 (q_Ale hA (by omega)) dL_drawn_495 ?_
    refine q_aload_n hF 1 rfl rfl dL_drawn_498 ?_
    refine q_aload_n hF 2 rfl rfl dL_drawn_499 ?_
    refine q_ldcK hF (i := 59) (by decide) rfl rfl dL_drawn_500 ?_
    refine q_callS (kc := kc) (ks := ks) (mc' := 0) (ms' := 0) (h' := 4) (st := []) hF sl_RL_134 rfl [.ref b, .ref ta, .ref (q_KS G 59)] rfl rfl (by omega) (Nat.le_of_ble_eq_true rfl) dL_drawn_502 ?_
    refine mL_tell hA (q_Ale hA (by omega)) (hB.mv (fun q a c => rfl) (fun q k a c => ((u2_a _ _ (by omega)).trans ((u2_a _ _ (by omega)).trans ((u2_a _ _ (by omega)).trans rfl)))) (fun _ _ _ _ => rfl) (fun q k a c => rfl)) (by omega) (by (try simp only [List.length_append, g_sts_len, g_dg9_len, g_nb9_len, List.length_nil]); omega) (fun I9_3 c502_0_3 c502_1_3 => ?_)
    refine q_aload_n hF 1 rfl rfl dL_drawn_505 ?_
    refine q_aload_n hF 2 rfl rfl dL_drawn_506 ?_
    refine q_aload_n hF 0 rfl rfl dL_drawn_507 ?_
    refine q_getIv hF (z := (v_2 : Int)) fl_RL_191 hD.ot.t0 ((c502_1_3 _ _ (by omega) (by omega)).trans (u2_s _ _ _ _)) dL_drawn_508 ?_
    refine q_callS (kc := kc) (ks := ks) (mc' := 0) (ms' := 0) (h' := 5) (st := []) hF sl_RL_165 rfl [.ref b, .ref ta, qI (v_2 : Int)] rfl rfl (by omega) (Nat.le_of_ble_eq_true rfl) dL_drawn_511 ?_
    refine mL_number (v := v_2) hA (q_Ale hA (by omega)) c502_0_3 (by omega) (by have := (g_dge_lt v_2).2.2.2.2; (try simp only [List.length_append, g_sts_len, g_dg9_len, g_nb9_len, List.length_nil]); omega) (fun I9_4 c511_0_4 c511_1_4 => ?_)
    refine q_aload_n hF 1 rfl rfl dL_drawn_514 ?_
    refine q_aload_n hF 2 rfl rfl dL_drawn_515 ?_
    refine q_ldcK hF (i := 52) (by decide) rfl rfl dL_drawn_516 ?_
    refine q_callS (kc := kc) (ks := ks) (mc' := 0) (ms' := 0) (h' := 4) (st := []) hF sl_RL_134 rfl [.ref b, .ref ta, .ref (q_KS G 52)] rfl rfl (by omega) (Nat.le_of_ble_eq_true rfl) dL_drawn_518 ?_
    refine mL_tell hA (q_Ale hA (by omega)) c511_0_4 (by omega) (by have := (g_dge_lt v_2).2.2.2.2; (try simp only [List.length_append, g_sts_len, g_dg9_len, g_nb9_len, List.length_nil]); omega) (fun I9_5 c518_0_5 c518_1_5 => ?_)
    have ef : f_opt p = f_p (f_p p) := if_pos (by show d_nx p.2 / 65536 % 2 = 0; omega)
    have hlen := e_wt_len (v := v_2) (by omega)
    refine k0 _ 1 (g_up t 3 (v_2 : Int)) (bs ++ e_wt v_2) (by omega) (by rw [List.length_append]; omega) ⟨c518_0_5.bs (by unfold e_wt; simp only [List.append_assoc]), by rw [ef]; exact ((c518_1_5 _ _ (by omega) (by omega)).trans ((c511_1_4 _ _ (by omega) (by omega)).trans ((c502_1_3 _ _ (by omega) (by omega)).trans ((u2_k _ _ (by decide)).trans (u2_s _ _ _ _))))), ((hD.hi (I' := u2 (u2 I d 0 ((d_nx p.2 : Nat) : Int)) d 0 ((d_nx (d_nx p.2) : Nat) : Int)) (fun q j hq => ((u2_a _ _ (by omega)).trans ((u2_a _ _ (by omega)).trans rfl)))).one (c := 3) (v := (v_2 : Int)) (by omega)).hi (fun q j hq => ((c518_1_5 _ _ (by omega) (by omega)).trans ((c511_1_4 _ _ (by omega) (by omega)).trans ((c502_1_3 _ _ (by omega) (by omega)).trans rfl)))), hPT.ln (by subst hon; exact e_wait (by omega)) hlen.1, (g_up_n _ _ (by omega)).trans hm0, hnm.mv (by omega) (fun x a c => g_up_n _ _ (by omega)), (fun q hq => ⟨(hfr q hq).1, fun j => ⟨((c518_1_5 _ _ (by omega) (by omega)).trans ((c511_1_4 _ _ (by omega) (by omega)).trans ((c502_1_3 _ _ (by omega) (by omega)).trans ((u2_a _ _ (by omega)).trans ((u2_a _ _ (by omega)).trans ((u2_a _ _ (by omega)).trans ((hfr q hq).2 j).1)))))), ((hfr q hq).2 j).2⟩⟩), hTd⟩

set_option maxRecDepth 100000 in
theorem lL_letter {G : q_G} {F : q_F} {h : Nat} {Q : q_Q} {kc ks sz : Nat} {T : q_T} {I L : q_I} {P : q_P} {b bk ta d K l9 cd m on hp : Nat} {R : Nat → Nat → Int} {T0 : q_T} {I0 : q_I} {P0 : q_P} {t : Nat → Int} {bs : List Nat} {p : Nat × Nat} (hF : q_ok G F YL_drawn h) (h6 : 6 ≤ h) (hA : q_A G b) (hL1 : b + 452 ≤ ta) (hL2 : ta < d) (hL3 : d < K) (hW : q_DW b bk R ta d L K l9 T0 I0 P0 T I P sz cd m on hp t bs p) (hon : on < 2) (hm5 : m ≤ 5) (hbl : bs.length ≤ 560) (k0 : ∀ (J : q_I) (on2 : Nat) (t2 : Nat → Int) (bs2 : List Nat), on2 < 4 → bs2.length ≤ bs.length + 11 → q_DW b bk R ta d L K l9 T0 I0 P0 T J P sz cd m on2 hp t2 bs2 (f_opt p) → qX G F Q kc ks 563 [(3, .ref K), (0, .ref b), (1, .ref ta), (2, .ref d)] [] sz T J L P) : qX G F Q kc ks 521 [(3, .ref K), (0, .ref b), (1, .ref ta), (2, .ref d)] [] sz T I L P := by
  obtain ⟨hB, hx, hD, hPT, hm0, hnm, hfr, hTd⟩ := hW
  have hL4 := hD.s20
  obtain ⟨q49, q50, q51, q52, q53, q54, q55, q56, q57, q58, q59, q60, q61, q62⟩ := e_lens
  refine q_aload_n hF 3 rfl rfl dL_drawn_521 ?_
  refine q_iconst hF dL_drawn_522 ?_
  refine q_callV (kc := kc) (ks := ks) (mc' := 0) (ms' := 0) (h' := 0) (st := []) hF vl_RL_145 rfl [qI 2] rfl rfl hTd (by omega) (Nat.le_of_ble_eq_true rfl) dL_drawn_523 ?_
  refine mX9_of (m := 2) hTd (q_Ale hA (by omega)) (x := p.2) hx (by omega) (fun v_1 c523_0_1 c523_1_1 => ?_)
  refine q_ifne hF (by omega) dL_drawn_526 (fun c526 => ?_) (fun c526 => ?_)
  · have ef : f_opt p = f_p p := if_neg (by show ¬ d_nx p.2 / 65536 % 2 = 0; omega)
    exact k0 _ on t bs (by omega) (by omega) ⟨(hB.mv (fun q a c => rfl) (fun q k a c => ((u2_a _ _ (by omega)).trans rfl)) (fun _ _ _ _ => rfl) (fun q k a c => rfl)), by rw [ef]; exact (u2_s _ _ _ _), hD.hi (fun q j hq => ((u2_a _ _ (by omega)).trans rfl)), hPT, hm0, hnm, (fun q hq => ⟨(hfr q hq).1, fun j => ⟨((u2_a _ _ (by omega)).trans ((hfr q hq).2 j).1), ((hfr q hq).2 j).2⟩⟩), hTd⟩
  · refine q_aload_n hF 0 rfl rfl dL_drawn_529 ?_
    refine q_aload_n hF 3 rfl rfl dL_drawn_530 ?_
    refine q_sipush hF (n := 700) rfl dL_drawn_531 ?_
    refine q_callV (kc := kc) (ks := ks) (mc' := 0) (ms' := 0) (h' := 0) (st := [.ref K]) hF vl_RL_145 rfl [qI 700] rfl rfl hTd (by omega) (Nat.le_of_ble_eq_true rfl) dL_drawn_534 ?_
    refine mX9_of (m := 700) hTd (q_Ale hA (by omega)) (x := d_nx p.2) (u2_s _ _ _ _) (by omega) (fun v_2 c534_0_2 c534_1_2 => ?_)
    refine q_putI hF fl_RL_195 hD.ot.t0 (q_Ale hA (by omega)) dL_drawn_537 ?_
    refine q_aload_n hF 1 rfl rfl dL_drawn_540 ?_
    refine q_aload_n hF 2 rfl rfl dL_drawn_541 ?_
    refine q_ldcK hF (i := 60) (by decide) rfl rfl dL_drawn_542 ?_
    refine q_callS (kc := kc) (ks := ks) (mc' := 0) (ms' := 0) (h' := 4) (st := []) hF sl_RL_134 rfl [.ref b, .ref ta, .ref (q_KS G 60)] rfl rfl (by omega) (Nat.le_of_ble_eq_true rfl) dL_drawn_544 ?_
    refine mL_tell hA (q_Ale hA (by omega)) (hB.mv (fun q a c => rfl) (fun q k a c => ((u2_a _ _ (by omega)).trans ((u2_a _ _ (by omega)).trans ((u2_a _ _ (by omega)).trans rfl)))) (fun _ _ _ _ => rfl) (fun q k a c => rfl)) (by omega) (by (try simp only [List.length_append, g_sts_len, g_dg9_len, g_nb9_len, List.length_nil]); omega) (fun I9_3 c544_0_3 c544_1_3 => ?_)
    refine q_aload_n hF 1 rfl rfl dL_drawn_547 ?_
    refine q_aload_n hF 2 rfl rfl dL_drawn_548 ?_
    refine q_aload_n hF 0 rfl rfl dL_drawn_549 ?_
    refine q_getIv hF (z := (v_2 : Int)) fl_RL_195 hD.ot.t0 ((c544_1_3 _ _ (by omega) (by omega)).trans (u2_s _ _ _ _)) dL_drawn_550 ?_
    refine q_callS (kc := kc) (ks := ks) (mc' := 0) (ms' := 0) (h' := 5) (st := []) hF sl_RL_165 rfl [.ref b, .ref ta, qI (v_2 : Int)] rfl rfl (by omega) (Nat.le_of_ble_eq_true rfl) dL_drawn_553 ?_
    refine mL_number (v := v_2) hA (q_Ale hA (by omega)) c544_0_3 (by omega) (by have := (g_dge_lt v_2).2.2.2.2; (try simp only [List.length_append, g_sts_len, g_dg9_len, g_nb9_len, List.length_nil]); omega) (fun I9_4 c553_0_4 c553_1_4 => ?_)
    refine q_aload_n hF 1 rfl rfl dL_drawn_556 ?_
    refine q_aload_n hF 2 rfl rfl dL_drawn_557 ?_
    refine q_ldcK hF (i := 52) (by decide) rfl rfl dL_drawn_558 ?_
    refine q_callS (kc := kc) (ks := ks) (mc' := 0) (ms' := 0) (h' := 4) (st := []) hF sl_RL_134 rfl [.ref b, .ref ta, .ref (q_KS G 52)] rfl rfl (by omega) (Nat.le_of_ble_eq_true rfl) dL_drawn_560 ?_
    refine mL_tell hA (q_Ale hA (by omega)) c553_0_4 (by omega) (by have := (g_dge_lt v_2).2.2.2.2; (try simp only [List.length_append, g_sts_len, g_dg9_len, g_nb9_len, List.length_nil]); omega) (fun I9_5 c560_0_5 c560_1_5 => ?_)
    have ef : f_opt p = f_p (f_p p) := if_pos (by show d_nx p.2 / 65536 % 2 = 0; omega)
    have hlen := e_lr_len (v := v_2) (by omega)
    refine k0 _ (on + 2) (g_up t 4 (v_2 : Int)) (bs ++ e_lr v_2) (by omega) (by rw [List.length_append]; omega) ⟨c560_0_5.bs (by unfold e_lr; simp only [List.append_assoc]), by rw [ef]; exact ((c560_1_5 _ _ (by omega) (by omega)).trans ((c553_1_4 _ _ (by omega) (by omega)).trans ((c544_1_3 _ _ (by omega) (by omega)).trans ((u2_k _ _ (by decide)).trans (u2_s _ _ _ _))))), ((hD.hi (I' := u2 (u2 I d 0 ((d_nx p.2 : Nat) : Int)) d 0 ((d_nx (d_nx p.2) : Nat) : Int)) (fun q j hq => ((u2_a _ _ (by omega)).trans ((u2_a _ _ (by omega)).trans rfl)))).one (c := 4) (v := (v_2 : Int)) (by omega)).hi (fun q j hq => ((c560_1_5 _ _ (by omega) (by omega)).trans ((c553_1_4 _ _ (by omega) (by omega)).trans ((c544_1_3 _ _ (by omega) (by omega)).trans rfl)))), hPT.ln (e_letter (by omega) hon) hlen.1, (g_up_n _ _ (by omega)).trans hm0, hnm.mv (by omega) (fun x a c => g_up_n _ _ (by omega)), (fun q hq => ⟨(hfr q hq).1, fun j => ⟨((c560_1_5 _ _ (by omega) (by omega)).trans ((c553_1_4 _ _ (by omega) (by omega)).trans ((c544_1_3 _ _ (by omega) (by omega)).trans ((u2_a _ _ (by omega)).trans ((u2_a _ _ (by omega)).trans ((u2_a _ _ (by omega)).trans ((hfr q hq).2 j).1)))))), ((hfr q hq).2 j).2⟩⟩), hTd⟩

set_option maxRecDepth 100000 in
theorem lL_home {G : q_G} {F : q_F} {h : Nat} {Q : q_Q} {kc ks sz : Nat} {T : q_T} {I L : q_I} {P : q_P} {b bk ta d K l9 cd m on hp : Nat} {R : Nat → Nat → Int} {T0 : q_T} {I0 : q_I} {P0 : q_P} {t : Nat → Int} {bs : List Nat} {p : Nat × Nat} (hF : q_ok G F YL_drawn h) (h6 : 6 ≤ h) (hA : q_A G b) (hL1 : b + 452 ≤ ta) (hL2 : ta < d) (hL3 : d < K) (hW : q_DW b bk R ta d L K l9 T0 I0 P0 T I P sz cd m on hp t bs p) (hon : on < 4) (hm5 : l9 = m ∧ m ≤ 3) (hm1 : 0 < m) (hbl : bs.length ≤ 560) (k0 : ∀ (J : q_I) (on2 : Nat) (t2 : Nat → Int) (bs2 : List Nat), on2 < 8 → bs2.length ≤ bs.length + 12 → q_DW b bk R ta d L K l9 T0 I0 P0 T J P sz cd m on2 hp t2 bs2 (f_opt p) → qX G F Q kc ks 610 [(3, .ref K), (0, .ref b), (1, .ref ta), (2, .ref d)] [] sz T J L P) : qX G F Q kc ks 563 [(3, .ref K), (0, .ref b), (1, .ref ta), (2, .ref d)] [] sz T I L P := by
  obtain ⟨hB, hx, hD, hPT, hm0, hnm, hfr, hTd⟩ := hW
  have hL4 := hD.s20
  obtain ⟨q49, q50, q51, q52, q53, q54, q55, q56, q57, q58, q59, q60, q61, q62⟩ := e_lens
  refine q_aload_n hF 3 rfl rfl dL_drawn_563 ?_
  refine q_iconst hF dL_drawn_564 ?_
  refine q_callV (kc := kc) (ks := ks) (mc' := 0) (ms' := 0) (h' := 0) (st := []) hF vl_RL_145 rfl [qI 2] rfl rfl hTd (by omega) (Nat.le_of_ble_eq_true rfl) dL_drawn_565 ?_
  refine mX9_of (m := 2) hTd (q_Ale hA (by omega)) (x := p.2) hx (by omega) (fun v_1 c565_0_1 c565_1_1 => ?_)
  refine q_ifne hF (by omega) dL_drawn_568 (fun c568 => ?_) (fun c568 => ?_)
  · have ef : f_opt p = f_p p := if_neg (by show ¬ d_nx p.2 / 65536 % 2 = 0; omega)
    exact k0 _ on t bs (by omega) (by omega) ⟨(hB.mv (fun q a c => rfl) (fun q k a c => ((u2_a _ _ (by omega)).trans rfl)) (fun _ _ _ _ => rfl) (fun q k a c => rfl)), by rw [ef]; exact (u2_s _ _ _ _), hD.hi (fun q j hq => ((u2_a _ _ (by omega)).trans rfl)), hPT, hm0, hnm, (fun q hq => ⟨(hfr q hq).1, fun j => ⟨((u2_a _ _ (by omega)).trans ((hfr q hq).2 j).1), ((hfr q hq).2 j).2⟩⟩), hTd⟩
  · refine q_aload_n hF 0 rfl rfl dL_drawn_571 ?_
    refine q_aload_n hF 3 rfl rfl dL_drawn_572 ?_
    refine q_aload_n hF 0 rfl rfl dL_drawn_573 ?_
    refine q_getIv hF (z := (l9 : Int)) fl_RL_150 hD.ot.t0 ((u2_a _ _ (by omega)).trans hD.ln) dL_drawn_574 ?_
    refine q_callV (kc := kc) (ks := ks) (mc' := 0) (ms' := 0) (h' := 0) (st := [.ref K]) hF vl_RL_145 rfl [qI (l9 : Int)] rfl rfl hTd (by omega) (Nat.le_of_ble_eq_true rfl) dL_drawn_577 ?_
    refine mX9_of (m := l9) hTd (q_Ale hA (by omega)) (x := d_nx p.2) (u2_s _ _ _ _) (by omega) (fun v_2 c577_0_2 c577_1_2 => ?_)
    refine q_putI hF fl_RL_198 hD.ot.t0 (q_Ale hA (by omega)) dL_drawn_580 ?_
    refine q_aload_n hF 1 rfl rfl dL_drawn_583 ?_
    refine q_aload_n hF 2 rfl rfl dL_drawn_584 ?_
    refine q_ldcK hF (i := 61) (by decide) rfl rfl dL_drawn_585 ?_
    refine q_callS (kc := kc) (ks := ks) (mc' := 0) (ms' := 0) (h' := 4) (st := []) hF sl_RL_134 rfl [.ref b, .ref ta, .ref (q_KS G 61)] rfl rfl (by omega) (Nat.le_of_ble_eq_true rfl) dL_drawn_587 ?_
    refine mL_tell hA (q_Ale hA (by omega)) (hB.mv (fun q a c => rfl) (fun q k a c => ((u2_a _ _ (by omega)).trans ((u2_a _ _ (by omega)).trans ((u2_a _ _ (by omega)).trans rfl)))) (fun _ _ _ _ => rfl) (fun q k a c => rfl)) (by omega) (by (try simp only [List.length_append, g_sts_len, g_dg9_len, g_nb9_len, List.length_nil]); omega) (fun I9_3 c587_0_3 c587_1_3 => ?_)
    refine q_aload_n hF 1 rfl rfl dL_drawn_590 ?_
    refine q_aload_n hF 2 rfl rfl dL_drawn_591 ?_
    refine q_getsSa (a := 81) hF (by decide) (q_mem 1130 (by decide +kernel) rfl) dL_drawn_592 ?_
    refine q_aload_n hF 0 rfl rfl dL_drawn_595 ?_
    refine q_getIv hF (z := (v_2 : Int)) fl_RL_198 hD.ot.t0 ((c587_1_3 _ _ (by omega) (by omega)).trans (u2_s _ _ _ _)) dL_drawn_596 ?_
    refine q_aldSa hF (a := 81) (by decide) v_2 rfl (by show v_2 < 5; omega) (by omega) dL_drawn_599 ?_
    show qX G F Q kc ks 600 [(3, .ref K), (0, .ref b), (1, .ref ta), (2, .ref d)] [.ref (q_KS G (68 + v_2)), .ref ta, .ref b] sz T I9_3 L P
    refine q_callS (kc := kc) (ks := ks) (mc' := 0) (ms' := 0) (h' := 4) (st := []) hF sl_RL_134 rfl [.ref b, .ref ta, .ref (q_KS G (68 + v_2))] rfl rfl (by omega) (Nat.le_of_ble_eq_true rfl) dL_drawn_600 ?_
    refine mL_tell hA (q_Ale hA (by omega)) c587_0_3 (by omega) (by have := e_len6 v_2 (by omega); (try simp only [List.length_append, g_sts_len, g_dg9_len, g_nb9_len, List.length_nil]); omega) (fun I9_4 c600_0_4 c600_1_4 => ?_)
    refine q_aload_n hF 1 rfl rfl dL_drawn_603 ?_
    refine q_aload_n hF 2 rfl rfl dL_drawn_604 ?_
    refine q_ldcK hF (i := 52) (by decide) rfl rfl dL_drawn_605 ?_
    refine q_callS (kc := kc) (ks := ks) (mc' := 0) (ms' := 0) (h' := 4) (st := []) hF sl_RL_134 rfl [.ref b, .ref ta, .ref (q_KS G 52)] rfl rfl (by omega) (Nat.le_of_ble_eq_true rfl) dL_drawn_607 ?_
    refine mL_tell hA (q_Ale hA (by omega)) c600_0_4 (by omega) (by have := e_len6 v_2 (by omega); (try simp only [List.length_append, g_sts_len, g_dg9_len, g_nb9_len, List.length_nil]); omega) (fun I9_5 c607_0_5 c607_1_5 => ?_)
    have ef : f_opt p = f_p (f_p p) := if_pos (by show d_nx p.2 / 65536 % 2 = 0; omega)
    have hlen := e_hm_len (l := v_2) (by omega)
    refine k0 _ (on + 4) (g_up t 5 (v_2 : Int)) (bs ++ e_hm v_2) (by omega) (by rw [List.length_append]; omega) ⟨c607_0_5.bs (by unfold e_hm; simp only [List.append_assoc]), by rw [ef]; exact ((c607_1_5 _ _ (by omega) (by omega)).trans ((c600_1_4 _ _ (by omega) (by omega)).trans ((c587_1_3 _ _ (by omega) (by omega)).trans ((u2_k _ _ (by decide)).trans (u2_s _ _ _ _))))), ((hD.hi (I' := u2 (u2 I d 0 ((d_nx p.2 : Nat) : Int)) d 0 ((d_nx (d_nx p.2) : Nat) : Int)) (fun q j hq => ((u2_a _ _ (by omega)).trans ((u2_a _ _ (by omega)).trans rfl)))).one (c := 5) (v := (v_2 : Int)) (by omega)).hi (fun q j hq => ((c607_1_5 _ _ (by omega) (by omega)).trans ((c600_1_4 _ _ (by omega) (by omega)).trans ((c587_1_3 _ _ (by omega) (by omega)).trans rfl)))), hPT.ln (e_home (by omega) hm5.2 hm0 hnm hon) hlen.1, (g_up_n _ _ (by omega)).trans hm0, hnm.mv (by omega) (fun x a c => g_up_n _ _ (by omega)), (fun q hq => ⟨(hfr q hq).1, fun j => ⟨((c607_1_5 _ _ (by omega) (by omega)).trans ((c600_1_4 _ _ (by omega) (by omega)).trans ((c587_1_3 _ _ (by omega) (by omega)).trans ((u2_a _ _ (by omega)).trans ((u2_a _ _ (by omega)).trans ((u2_a _ _ (by omega)).trans ((hfr q hq).2 j).1)))))), ((hfr q hq).2 j).2⟩⟩), hTd⟩

set_option maxRecDepth 100000 in
theorem lL_order {G : q_G} {F : q_F} {h : Nat} {Q : q_Q} {kc ks sz : Nat} {T : q_T} {I L : q_I} {P : q_P} {b bk ta d K l9 cd m on hp : Nat} {R : Nat → Nat → Int} {T0 : q_T} {I0 : q_I} {P0 : q_P} {t : Nat → Int} {bs : List Nat} {p : Nat × Nat} (hF : q_ok G F YL_drawn h) (h6 : 6 ≤ h) (hA : q_A G b) (hL1 : b + 452 ≤ ta) (hL2 : ta < d) (hL3 : d < K) (hW : q_DW b bk R ta d L K l9 T0 I0 P0 T I P sz cd m on hp t bs p) (hon : on < 8) (hm5 : m ≤ 5) (hbl : bs.length ≤ 560) (k0 : ∀ (T2 : q_T) (J : q_I) (P2 : q_P) (sz2 on2 : Nat) (t2 : Nat → Int) (bs2 : List Nat), sz ≤ sz2 → bs2.length ≤ bs.length + 22 → q_DW b bk R ta d L K l9 T0 I0 P0 T2 J P2 sz2 cd m on2 hp t2 bs2 (f_ord p) → qX G F Q kc ks 737 [(3, .ref K), (0, .ref b), (1, .ref ta), (2, .ref d)] [] sz2 T2 J L P2) : qX G F Q (kc + 1) (ks + 2) 610 [(3, .ref K), (0, .ref b), (1, .ref ta), (2, .ref d)] [] sz T I L P := by
  obtain ⟨hB, hx, hD, hPT, hm0, hnm, hfr, hTd⟩ := hW
  have hL4 := hD.s20
  obtain ⟨q49, q50, q51, q52, q53, q54, q55, q56, q57, q58, q59, q60, q61, q62⟩ := e_lens
  refine q_aload_n hF 3 rfl rfl dL_drawn_610 ?_
  refine q_iconst hF dL_drawn_611 ?_
  refine q_callV (kc := kc + 1) (ks := ks + 2) (mc' := 0) (ms' := 0) (h' := 0) (st := []) hF vl_RL_145 rfl [qI 2] rfl rfl hTd (by omega) (Nat.le_of_ble_eq_true rfl) dL_drawn_612 ?_
  refine mX9_of (m := 2) hTd (q_Ale hA (by omega)) (x := p.2) hx (by omega) (fun v_1 c612_0_1 c612_1_1 => ?_)
  refine q_ifne hF (by omega) dL_drawn_615 (fun c615 => ?_) (fun c615 => ?_)
  · have ef : f_ord p = f_p p := if_neg (by show ¬ d_nx p.2 / 65536 % 2 = 0; omega)
    exact qX.room (kc := kc) (ks := ks) (by omega) (by omega) (k0 _ _ _ sz on t bs (Nat.le_refl _) (by omega) ⟨(hB.mv (fun q a c => rfl) (fun q k a c => ((u2_a _ _ (by omega)).trans rfl)) (fun _ _ _ _ => rfl) (fun q k a c => rfl)), by rw [ef]; exact (u2_s _ _ _ _), hD.hi (fun q j hq => ((u2_a _ _ (by omega)).trans rfl)), hPT, hm0, hnm, (fun q hq => ⟨(hfr q hq).1, fun j => ⟨((u2_a _ _ (by omega)).trans ((hfr q hq).2 j).1), ((hfr q hq).2 j).2⟩⟩), hTd⟩)
  · refine q_aload_n hF 3 rfl rfl dL_drawn_618 ?_
    refine q_iconst hF dL_drawn_619 ?_
    refine q_callV (kc := kc + 1) (ks := ks + 2) (mc' := 0) (ms' := 0) (h' := 0) (st := []) hF vl_RL_145 rfl [qI 3] rfl rfl hTd (by omega) (Nat.le_of_ble_eq_true rfl) dL_drawn_620 ?_
    refine mX9_of (m := 3) hTd (q_Ale hA (by omega)) (x := d_nx p.2) (u2_s _ _ _ _) (by omega) (fun v_2 c620_0_2 c620_1_2 => ?_)
    refine q_istore hF (ls' := [(5, qI (v_2 : Int)), (3, .ref K), (0, .ref b), (1, .ref ta), (2, .ref d)]) (by decide) rfl dL_drawn_623 ?_
    refine q_aload_n hF 1 rfl rfl dL_drawn_625 ?_
    refine q_aload_n hF 4 rfl rfl dL_drawn_626 ?_
    refine q_iconst hF dL_drawn_627 ?_
    refine q_callV (kc := kc + 1) (ks := ks + 2) (mc' := 0) (ms' := 0) (h' := 0) (st := [.ref K]) hF vl_RL_145 rfl [qI 2] rfl rfl hTd (by omega) (Nat.le_of_ble_eq_true rfl) dL_drawn_628 ?_
    refine mX9_of (m := 2) hTd (q_Ale hA (by omega)) (x := d_nx (d_nx p.2)) (u2_s _ _ _ _) (by omega) (fun v_3 c628_0_3 c628_1_3 => ?_)
    refine q_ifne hF (by omega) dL_drawn_631 (fun c631 => ?_) (fun c631 => ?_)
    · refine q_iconst hF dL_drawn_645 ?_
      refine qX.room (kc := kc + 1) (ks := ks + 2) (by omega) (by omega) ?_
      refine q_newaI hF (s' := sz + 1) (kc := kc) (ks := ks) (n := 2) (q_mem 124 (by decide +kernel) rfl) (fun j => ((u2_a _ _ (by omega)).trans ((u2_a _ _ (by omega)).trans ((u2_a _ _ (by omega)).trans (hD.z _ _ (Nat.le_refl _)).1)))) (fun j => (hD.z _ _ (Nat.le_refl _)).2.1) dL_drawn_646 rfl ?_
      refine q_dup hF rfl dL_drawn_648 ?_
      refine q_iconst hF dL_drawn_649 ?_
      refine q_iload hF 0 rfl dL_drawn_650 ?_
      refine q_iastorev hF (n := 2) 0 (q_upT_s _ _ _) (q_Ale hA (by omega)) rfl (by decide) (by decide) dL_drawn_652 ?_
      refine q_dup hF rfl dL_drawn_653 ?_
      refine q_iconst hF dL_drawn_654 ?_
      refine q_iload hF 0 rfl dL_drawn_655 ?_
      refine q_iconst hF dL_drawn_657 ?_
      refine q_iadd hF dL_drawn_658 ?_
      refine q_aload_n hF 4 rfl rfl dL_drawn_659 ?_
      refine q_iconst hF dL_drawn_660 ?_
      refine q_callV (kc := kc) (ks := ks) (mc' := 0) (ms' := 0) (h' := 0) (st := [qI ((v_2 : Int) + 1), qI 1, .ref sz, .ref sz, .ref K]) hF vl_RL_145 rfl [qI 2] rfl rfl ((q_upT_n _ _ (by omega)).trans hTd) (by omega) (Nat.le_of_ble_eq_true rfl) dL_drawn_661 ?_
      refine mX9_of (m := 2) ((q_upT_n _ _ (by omega)).trans hTd) (q_Ale hA (by omega)) (x := d_nx (d_nx (d_nx p.2))) ((u2_a _ _ (by omega)).trans (u2_s _ _ _ _)) (by omega) (fun v_4 c661_0_4 c661_1_4 => ?_)
      refine q_iadd hF dL_drawn_664 ?_
      refine q_iconst hF dL_drawn_665 ?_
      refine q_irem hF (by omega) (by decide) (by decide) dL_drawn_666 ?_
      obtain ⟨w, hw, hwb, hwa⟩ : ∃ w : Nat, (((v_2 : Int) + 1) + (v_4 : Int)).tmod 3 = (w : Int) ∧ w < 3 ∧ w ≠ v_2 := ⟨(v_2 + 1 + v_4) % 3, by rw [Int.tmod_eq_emod_of_nonneg (by omega)]; omega, by omega, by omega⟩
      rw [hw]
      refine q_iastorev hF (n := 2) 1 (q_upT_s _ _ _) (q_Ale hA (by omega)) rfl (by decide) (by decide) dL_drawn_667 ?_
      refine q_putA hF fl_RL_203 rfl ((q_upT_n _ _ (by omega)).trans hD.ot.t0) (q_Ale hA (by omega)) dL_drawn_668 ?_
      refine q_aload_n hF 2 rfl rfl dL_drawn_671 ?_
      refine q_aload_n hF 3 rfl rfl dL_drawn_672 ?_
      refine q_ldcK hF (i := 62) (by decide) rfl rfl dL_drawn_673 ?_
      refine q_callS (kc := kc) (ks := ks) (mc' := 0) (ms' := 0) (h' := 4) (st := []) hF sl_RL_134 rfl [.ref b, .ref ta, .ref (q_KS G 62)] rfl rfl (by omega) (Nat.le_of_ble_eq_true rfl) dL_drawn_675 ?_
      refine mL_tell hA (q_Ale hA (by omega)) (hB.mv (fun q a c => ((q_upT_n _ _ (by omega)).trans rfl)) (fun q k a c => ((u2_a _ _ (by omega)).trans ((u2_a _ _ (by omega)).trans ((u2_a _ _ (by omega)).trans ((u2_a _ _ (by omega)).trans ((u2_a _ _ (by omega)).trans ((u2_a _ _ (by omega)).trans rfl))))))) (fun _ _ _ _ => rfl) (fun q k a c => ((u2_a _ _ (by omega)).trans rfl))) (by omega) (by (try simp only [List.length_append, g_sts_len, g_dg9_len, g_nb9_len, List.length_nil]); omega) (fun I9_5 c675_0_5 c675_1_5 => ?_)
      refine q_aload_n hF 1 rfl rfl dL_drawn_678 ?_
      refine q_getA hF fl_RL_203 rfl ((q_upT_n _ _ (by omega)).trans hD.ot.t0) (u2_s _ _ _ _) dL_drawn_679 ?_
      refine q_astore hF (ls' := [(6, .ref sz), (5, qI (v_2 : Int)), (3, .ref K), (0, .ref b), (1, .ref ta), (2, .ref d)]) (by decide) rfl dL_drawn_682 ?_
      refine q_aload hF 0 rfl dL_drawn_684 ?_
      refine q_alen hF (n := 2) (q_upT_s _ _ _) dL_drawn_686 ?_
      refine q_istore hF (ls' := [(7, qI 2), (6, .ref sz), (5, qI (v_2 : Int)), (3, .ref K), (0, .ref b), (1, .ref ta), (2, .ref d)]) (by decide) rfl dL_drawn_687 ?_
      refine q_iconst hF dL_drawn_689 ?_
      refine q_istore hF (ls' := [(8, qI 0), (7, qI 2), (6, .ref sz), (5, qI (v_2 : Int)), (3, .ref K), (0, .ref b), (1, .ref ta), (2, .ref d)]) (by decide) rfl dL_drawn_690 ?_
      refine q_iload hF 0 rfl dL_drawn_692 ?_
      refine q_iload hF 1 rfl dL_drawn_694 ?_
      refine q_icmpge hF (by decide) (by decide) dL_drawn_696 (fun c696 => ?_) (fun c696 => ?_)
      · exact absurd c696 (by decide)
      · refine q_aload hF 2 rfl dL_drawn_699 ?_
        refine q_iload hF 0 rfl dL_drawn_701 ?_
        refine q_ialoadv hF (z := (v_2 : Int)) (n := 2) 0 (q_upT_s _ _ _) rfl (by decide) (by decide) ((c675_1_5 _ _ (by omega) (by omega)).trans ((u2_k _ _ (by decide)).trans ((u2_a _ _ (by omega)).trans (u2_s _ _ _ _)))) dL_drawn_703 ?_
        refine q_istore hF (ls' := [(9, qI (v_2 : Int)), (8, qI 0), (7, qI 2), (6, .ref sz), (5, qI (v_2 : Int)), (3, .ref K), (0, .ref b), (1, .ref ta), (2, .ref d)]) (by decide) rfl dL_drawn_704 ?_
        refine q_aload_n hF 6 rfl rfl dL_drawn_706 ?_
        refine q_aload_n hF 7 rfl rfl dL_drawn_707 ?_
        refine q_ldcK hF (i := 49) (by decide) rfl rfl dL_drawn_708 ?_
        refine q_callS (kc := kc) (ks := ks) (mc' := 0) (ms' := 0) (h' := 4) (st := []) hF sl_RL_134 rfl [.ref b, .ref ta, .ref (q_KS G 49)] rfl rfl (by omega) (Nat.le_of_ble_eq_true rfl) dL_drawn_710 ?_
        refine mL_tell hA (q_Ale hA (by omega)) c675_0_5 (by omega) (by (try simp only [List.length_append, g_sts_len, g_dg9_len, g_nb9_len, List.length_nil]); omega) (fun I9_6 c710_0_6 c710_1_6 => ?_)
        refine q_aload_n hF 6 rfl rfl dL_drawn_713 ?_
        refine q_aload_n hF 7 rfl rfl dL_drawn_714 ?_
        refine q_getsSa (a := 82) hF (by decide) (q_mem 1153 (by decide +kernel) rfl) dL_drawn_715 ?_
        refine q_iload hF 0 rfl dL_drawn_718 ?_
        refine q_aldSa hF (a := 82) (by decide) v_2 rfl (by show v_2 < 3; omega) (by omega) dL_drawn_720 ?_
        show qX G F Q kc ks 721 [(9, qI (v_2 : Int)), (8, qI 0), (7, qI 2), (6, .ref sz), (5, qI (v_2 : Int)), (3, .ref K), (0, .ref b), (1, .ref ta), (2, .ref d)] [.ref (q_KS G (73 + v_2)), .ref ta, .ref b] (sz + 1) (q_upT T sz (.inr (0, 2))) I9_6 L (u2 P K 7 (some sz))
        refine q_callS (kc := kc) (ks := ks) (mc' := 0) (ms' := 0) (h' := 4) (st := []) hF sl_RL_134 rfl [.ref b, .ref ta, .ref (q_KS G (73 + v_2))] rfl rfl (by omega) (Nat.le_of_ble_eq_true rfl) dL_drawn_721 ?_
        refine mL_tell hA (q_Ale hA (by omega)) c710_0_6 (by omega) (by have := e_len8 v_2 (by omega); (try simp only [List.length_append, g_sts_len, g_dg9_len, g_nb9_len, List.length_nil]); omega) (fun I9_7 c721_0_7 c721_1_7 => ?_)
        refine q_iinc hF (z' := 1) (ls' := [(8, qI 1), (9, qI (v_2 : Int)), (7, qI 2), (6, .ref sz), (5, qI (v_2 : Int)), (3, .ref K), (0, .ref b), (1, .ref ta), (2, .ref d)]) 1 rfl (by first | rfl | omega) (by decide) rfl dL_drawn_724 ?_
        refine q_goto hF dL_drawn_727 ?_
        refine q_iload hF 0 rfl dL_drawn_692 ?_
        refine q_iload hF 2 rfl dL_drawn_694 ?_
        refine q_icmpge hF (by decide) (by decide) dL_drawn_696 (fun c696 => ?_) (fun c696 => ?_)
        · exact absurd c696 (by decide)
        · refine q_aload hF 3 rfl dL_drawn_699 ?_
          refine q_iload hF 0 rfl dL_drawn_701 ?_
          refine q_ialoadv hF (z := (w : Int)) (n := 2) 1 (q_upT_s _ _ _) rfl (by decide) (by decide) ((c721_1_7 _ _ (by omega) (by omega)).trans ((c710_1_6 _ _ (by omega) (by omega)).trans ((c675_1_5 _ _ (by omega) (by omega)).trans (u2_s _ _ _ _)))) dL_drawn_703 ?_
          refine q_istore hF (ls' := [(9, qI (w : Int)), (8, qI 1), (7, qI 2), (6, .ref sz), (5, qI (v_2 : Int)), (3, .ref K), (0, .ref b), (1, .ref ta), (2, .ref d)]) (by decide) rfl dL_drawn_704 ?_
          refine q_aload_n hF 6 rfl rfl dL_drawn_706 ?_
          refine q_aload_n hF 7 rfl rfl dL_drawn_707 ?_
          refine q_ldcK hF (i := 49) (by decide) rfl rfl dL_drawn_708 ?_
          refine q_callS (kc := kc) (ks := ks) (mc' := 0) (ms' := 0) (h' := 4) (st := []) hF sl_RL_134 rfl [.ref b, .ref ta, .ref (q_KS G 49)] rfl rfl (by omega) (Nat.le_of_ble_eq_true rfl) dL_drawn_710 ?_
          refine mL_tell hA (q_Ale hA (by omega)) c721_0_7 (by omega) (by have := e_len8 v_2 (by omega); (try simp only [List.length_append, g_sts_len, g_dg9_len, g_nb9_len, List.length_nil]); omega) (fun I9_8 c710_0_8 c710_1_8 => ?_)
          refine q_aload_n hF 6 rfl rfl dL_drawn_713 ?_
          refine q_aload_n hF 7 rfl rfl dL_drawn_714 ?_
          refine q_getsSa (a := 82) hF (by decide) (q_mem 1153 (by decide +kernel) rfl) dL_drawn_715 ?_
          refine q_iload hF 0 rfl dL_drawn_718 ?_
          refine q_aldSa hF (a := 82) (by decide) w rfl (by show w < 3; omega) (by omega) dL_drawn_720 ?_
          show qX G F Q kc ks 721 [(9, qI (w : Int)), (8, qI 1), (7, qI 2), (6, .ref sz), (5, qI (v_2 : Int)), (3, .ref K), (0, .ref b), (1, .ref ta), (2, .ref d)] [.ref (q_KS G (73 + w)), .ref ta, .ref b] (sz + 1) (q_upT T sz (.inr (0, 2))) I9_8 L (u2 P K 7 (some sz))
          refine q_callS (kc := kc) (ks := ks) (mc' := 0) (ms' := 0) (h' := 4) (st := []) hF sl_RL_134 rfl [.ref b, .ref ta, .ref (q_KS G (73 + w))] rfl rfl (by omega) (Nat.le_of_ble_eq_true rfl) dL_drawn_721 ?_
          refine mL_tell hA (q_Ale hA (by omega)) c710_0_8 (by omega) (by have := e_len8 v_2 (by omega); have := e_len8 w (by omega); (try simp only [List.length_append, g_sts_len, g_dg9_len, g_nb9_len, List.length_nil]); omega) (fun I9_9 c721_0_9 c721_1_9 => ?_)
          refine q_iinc hF (z' := 2) (ls' := [(8, qI 2), (9, qI (w : Int)), (7, qI 2), (6, .ref sz), (5, qI (v_2 : Int)), (3, .ref K), (0, .ref b), (1, .ref ta), (2, .ref d)]) 1 rfl (by first | rfl | omega) (by decide) rfl dL_drawn_724 ?_
          refine q_goto hF dL_drawn_727 ?_
          refine q_iload hF 0 rfl dL_drawn_692 ?_
          refine q_iload hF 2 rfl dL_drawn_694 ?_
          refine q_icmpge hF (by decide) (by decide) dL_drawn_696 (fun c696 => ?_) (fun c696 => ?_)
          · refine q_aload_n hF 6 rfl rfl dL_drawn_730 ?_
            refine q_aload_n hF 7 rfl rfl dL_drawn_731 ?_
            refine q_ldcK hF (i := 52) (by decide) rfl rfl dL_drawn_732 ?_
            refine q_callS (kc := kc) (ks := ks) (mc' := 0) (ms' := 0) (h' := 4) (st := []) hF sl_RL_134 rfl [.ref b, .ref ta, .ref (q_KS G 52)] rfl rfl (by omega) (Nat.le_of_ble_eq_true rfl) dL_drawn_734 ?_
            refine mL_tell hA (q_Ale hA (by omega)) c721_0_9 (by omega) (by have := e_len8 v_2 (by omega); have := e_len8 w (by omega); (try simp only [List.length_append, g_sts_len, g_dg9_len, g_nb9_len, List.length_nil]); omega) (fun I9_10 c734_0_10 c734_1_10 => ?_)
            refine q_sub [5, 6, 7, 8] rfl ?_
            have ef : f_ord p = f_p (f_p (f_p (f_p p))) := by
              unfold f_ord
              rw [if_pos (by show d_nx p.2 / 65536 % 2 = 0; omega), if_neg (by show ¬ d_nx (d_nx (d_nx p.2)) / 65536 % 2 = 0; omega)]
            have hv9 : ∀ j, j < 2 → (I9_10) sz j = (g_up (g_up (g_up t 9 (v_2 : Int)) 10 (w : Int)) 8 2) (9 + j) := fun j hj => by
              rcases (show j = 0 ∨ j = 1 by omega) with rfl | rfl
              · exact (((c734_1_10 _ _ (by omega) (by omega)).trans ((c721_1_9 _ _ (by omega) (by omega)).trans ((c710_1_8 _ _ (by omega) (by omega)).trans ((c721_1_7 _ _ (by omega) (by omega)).trans ((c710_1_6 _ _ (by omega) (by omega)).trans ((c675_1_5 _ _ (by omega) (by omega)).trans ((u2_k _ _ (by decide)).trans ((u2_a _ _ (by omega)).trans (u2_s _ _ _ _)))))))))).trans ((g_up_n _ _ (by omega)).trans ((g_up_n _ _ (by omega)).trans (g_up_s _ _ _))).symm
              · exact (((c734_1_10 _ _ (by omega) (by omega)).trans ((c721_1_9 _ _ (by omega) (by omega)).trans ((c710_1_8 _ _ (by omega) (by omega)).trans ((c721_1_7 _ _ (by omega) (by omega)).trans ((c710_1_6 _ _ (by omega) (by omega)).trans ((c675_1_5 _ _ (by omega) (by omega)).trans (u2_s _ _ _ _)))))))).trans (((g_up_n _ _ (by omega)).trans (g_up_s _ _ _)).symm)
            have hlen := e_od_len (a := v_2) (c := w) (by omega) (by omega)
            exact qX.room (kc := kc) (ks := ks) (by omega) (by omega) (k0 _ _ _ (sz + 1) (on + 8) (g_up (g_up (g_up t 9 (v_2 : Int)) 10 (w : Int)) 8 2) (bs ++ e_od2 v_2 w) (by omega) (by rw [List.length_append]; omega) ⟨c734_0_10.bs (by unfold e_od2; simp only [List.append_assoc]), by rw [ef]; exact ((c734_1_10 _ _ (by omega) (by omega)).trans ((c721_1_9 _ _ (by omega) (by omega)).trans ((c710_1_8 _ _ (by omega) (by omega)).trans ((c721_1_7 _ _ (by omega) (by omega)).trans ((c710_1_6 _ _ (by omega) (by omega)).trans ((c675_1_5 _ _ (by omega) (by omega)).trans ((u2_k _ _ (by decide)).trans (u2_s _ _ _ _)))))))), hD.order (n := 2) (by omega) (fun q a c => ((q_upT_n _ _ (by omega)).trans rfl)) (q_upT_s _ _ _) (fun q j a c => ((c734_1_10 _ _ (by omega) (by omega)).trans ((c721_1_9 _ _ (by omega) (by omega)).trans ((c710_1_8 _ _ (by omega) (by omega)).trans ((c721_1_7 _ _ (by omega) (by omega)).trans ((c710_1_6 _ _ (by omega) (by omega)).trans ((c675_1_5 _ _ (by omega) (by omega)).trans ((u2_a _ _ (by omega)).trans ((u2_a _ _ (by omega)).trans ((u2_a _ _ (by omega)).trans ((u2_a _ _ (by omega)).trans ((u2_a _ _ (by omega)).trans ((u2_a _ _ (by omega)).trans rfl))))))))))))) hv9 (g_up_s _ _ _) (fun x hx => (g_up_n _ _ (by omega)).trans ((g_up_n _ _ (by omega)).trans (g_up_n _ _ (by omega)))), hPT.ln (e_order2 (by omega) (by omega) (by omega) hon) hlen.2.2.1, ((fun x hx => (g_up_n _ _ (by omega)).trans ((g_up_n _ _ (by omega)).trans (g_up_n _ _ (by omega)))) 0 (by omega)).trans hm0, hnm.mv (by omega) (fun x a c => (fun x hx => (g_up_n _ _ (by omega)).trans ((g_up_n _ _ (by omega)).trans (g_up_n _ _ (by omega)))) x (by omega)), (fun q hq => ⟨((q_upT_n _ _ (by omega)).trans (hfr q hq).1), fun j => ⟨((c734_1_10 _ _ (by omega) (by omega)).trans ((c721_1_9 _ _ (by omega) (by omega)).trans ((c710_1_8 _ _ (by omega) (by omega)).trans ((c721_1_7 _ _ (by omega) (by omega)).trans ((c710_1_6 _ _ (by omega) (by omega)).trans ((c675_1_5 _ _ (by omega) (by omega)).trans ((u2_a _ _ (by omega)).trans ((u2_a _ _ (by omega)).trans ((u2_a _ _ (by omega)).trans ((u2_a _ _ (by omega)).trans ((u2_a _ _ (by omega)).trans ((u2_a _ _ (by omega)).trans ((hfr q hq).2 j).1)))))))))))), ((u2_a _ _ (by omega)).trans ((hfr q hq).2 j).2)⟩⟩), (q_upT_n _ _ (by omega)).trans hTd⟩)
          · exact absurd c696 (by decide)
    · refine q_iconst hF dL_drawn_634 ?_
      refine qX.room (kc := kc + 1) (ks := ks + 1) (by omega) (by omega) ?_
      refine q_newaI hF (s' := sz + 1) (kc := kc) (ks := ks) (n := 1) (q_mem 124 (by decide +kernel) rfl) (fun j => ((u2_a _ _ (by omega)).trans ((u2_a _ _ (by omega)).trans ((u2_a _ _ (by omega)).trans (hD.z _ _ (Nat.le_refl _)).1)))) (fun j => (hD.z _ _ (Nat.le_refl _)).2.1) dL_drawn_635 rfl ?_
      refine q_dup hF rfl dL_drawn_637 ?_
      refine q_iconst hF dL_drawn_638 ?_
      refine q_iload hF 0 rfl dL_drawn_639 ?_
      refine q_iastorev hF (n := 1) 0 (q_upT_s _ _ _) (q_Ale hA (by omega)) rfl (by decide) (by decide) dL_drawn_641 ?_
      refine q_goto hF dL_drawn_642 ?_
      refine q_putA hF fl_RL_203 rfl ((q_upT_n _ _ (by omega)).trans hD.ot.t0) (q_Ale hA (by omega)) dL_drawn_668 ?_
      refine q_aload_n hF 2 rfl rfl dL_drawn_671 ?_
      refine q_aload_n hF 3 rfl rfl dL_drawn_672 ?_
      refine q_ldcK hF (i := 62) (by decide) rfl rfl dL_drawn_673 ?_
      refine q_callS (kc := kc) (ks := ks) (mc' := 0) (ms' := 0) (h' := 4) (st := []) hF sl_RL_134 rfl [.ref b, .ref ta, .ref (q_KS G 62)] rfl rfl (by omega) (Nat.le_of_ble_eq_true rfl) dL_drawn_675 ?_
      refine mL_tell hA (q_Ale hA (by omega)) (hB.mv (fun q a c => ((q_upT_n _ _ (by omega)).trans rfl)) (fun q k a c => ((u2_a _ _ (by omega)).trans ((u2_a _ _ (by omega)).trans ((u2_a _ _ (by omega)).trans ((u2_a _ _ (by omega)).trans rfl))))) (fun _ _ _ _ => rfl) (fun q k a c => ((u2_a _ _ (by omega)).trans rfl))) (by omega) (by (try simp only [List.length_append, g_sts_len, g_dg9_len, g_nb9_len, List.length_nil]); omega) (fun I9_11 c675_0_11 c675_1_11 => ?_)
      refine q_aload_n hF 1 rfl rfl dL_drawn_678 ?_
      refine q_getA hF fl_RL_203 rfl ((q_upT_n _ _ (by omega)).trans hD.ot.t0) (u2_s _ _ _ _) dL_drawn_679 ?_
      refine q_astore hF (ls' := [(6, .ref sz), (5, qI (v_2 : Int)), (3, .ref K), (0, .ref b), (1, .ref ta), (2, .ref d)]) (by decide) rfl dL_drawn_682 ?_
      refine q_aload hF 0 rfl dL_drawn_684 ?_
      refine q_alen hF (n := 1) (q_upT_s _ _ _) dL_drawn_686 ?_
      refine q_istore hF (ls' := [(7, qI 1), (6, .ref sz), (5, qI (v_2 : Int)), (3, .ref K), (0, .ref b), (1, .ref ta), (2, .ref d)]) (by decide) rfl dL_drawn_687 ?_
      refine q_iconst hF dL_drawn_689 ?_
      refine q_istore hF (ls' := [(8, qI 0), (7, qI 1), (6, .ref sz), (5, qI (v_2 : Int)), (3, .ref K), (0, .ref b), (1, .ref ta), (2, .ref d)]) (by decide) rfl dL_drawn_690 ?_
      refine q_iload hF 0 rfl dL_drawn_692 ?_
      refine q_iload hF 1 rfl dL_drawn_694 ?_
      refine q_icmpge hF (by decide) (by decide) dL_drawn_696 (fun c696 => ?_) (fun c696 => ?_)
      · exact absurd c696 (by decide)
      · refine q_aload hF 2 rfl dL_drawn_699 ?_
        refine q_iload hF 0 rfl dL_drawn_701 ?_
        refine q_ialoadv hF (z := (v_2 : Int)) (n := 1) 0 (q_upT_s _ _ _) rfl (by decide) (by decide) ((c675_1_11 _ _ (by omega) (by omega)).trans (u2_s _ _ _ _)) dL_drawn_703 ?_
        refine q_istore hF (ls' := [(9, qI (v_2 : Int)), (8, qI 0), (7, qI 1), (6, .ref sz), (5, qI (v_2 : Int)), (3, .ref K), (0, .ref b), (1, .ref ta), (2, .ref d)]) (by decide) rfl dL_drawn_704 ?_
        refine q_aload_n hF 6 rfl rfl dL_drawn_706 ?_
        refine q_aload_n hF 7 rfl rfl dL_drawn_707 ?_
        refine q_ldcK hF (i := 49) (by decide) rfl rfl dL_drawn_708 ?_
        refine q_callS (kc := kc) (ks := ks) (mc' := 0) (ms' := 0) (h' := 4) (st := []) hF sl_RL_134 rfl [.ref b, .ref ta, .ref (q_KS G 49)] rfl rfl (by omega) (Nat.le_of_ble_eq_true rfl) dL_drawn_710 ?_
        refine mL_tell hA (q_Ale hA (by omega)) c675_0_11 (by omega) (by (try simp only [List.length_append, g_sts_len, g_dg9_len, g_nb9_len, List.length_nil]); omega) (fun I9_12 c710_0_12 c710_1_12 => ?_)
        refine q_aload_n hF 6 rfl rfl dL_drawn_713 ?_
        refine q_aload_n hF 7 rfl rfl dL_drawn_714 ?_
        refine q_getsSa (a := 82) hF (by decide) (q_mem 1153 (by decide +kernel) rfl) dL_drawn_715 ?_
        refine q_iload hF 0 rfl dL_drawn_718 ?_
        refine q_aldSa hF (a := 82) (by decide) v_2 rfl (by show v_2 < 3; omega) (by omega) dL_drawn_720 ?_
        show qX G F Q kc ks 721 [(9, qI (v_2 : Int)), (8, qI 0), (7, qI 1), (6, .ref sz), (5, qI (v_2 : Int)), (3, .ref K), (0, .ref b), (1, .ref ta), (2, .ref d)] [.ref (q_KS G (73 + v_2)), .ref ta, .ref b] (sz + 1) (q_upT T sz (.inr (0, 1))) I9_12 L (u2 P K 7 (some sz))
        refine q_callS (kc := kc) (ks := ks) (mc' := 0) (ms' := 0) (h' := 4) (st := []) hF sl_RL_134 rfl [.ref b, .ref ta, .ref (q_KS G (73 + v_2))] rfl rfl (by omega) (Nat.le_of_ble_eq_true rfl) dL_drawn_721 ?_
        refine mL_tell hA (q_Ale hA (by omega)) c710_0_12 (by omega) (by have := e_len8 v_2 (by omega); (try simp only [List.length_append, g_sts_len, g_dg9_len, g_nb9_len, List.length_nil]); omega) (fun I9_13 c721_0_13 c721_1_13 => ?_)
        refine q_iinc hF (z' := 1) (ls' := [(8, qI 1), (9, qI (v_2 : Int)), (7, qI 1), (6, .ref sz), (5, qI (v_2 : Int)), (3, .ref K), (0, .ref b), (1, .ref ta), (2, .ref d)]) 1 rfl (by first | rfl | omega) (by decide) rfl dL_drawn_724 ?_
        refine q_goto hF dL_drawn_727 ?_
        refine q_iload hF 0 rfl dL_drawn_692 ?_
        refine q_iload hF 2 rfl dL_drawn_694 ?_
        refine q_icmpge hF (by decide) (by decide) dL_drawn_696 (fun c696 => ?_) (fun c696 => ?_)
        · refine q_aload_n hF 6 rfl rfl dL_drawn_730 ?_
          refine q_aload_n hF 7 rfl rfl dL_drawn_731 ?_
          refine q_ldcK hF (i := 52) (by decide) rfl rfl dL_drawn_732 ?_
          refine q_callS (kc := kc) (ks := ks) (mc' := 0) (ms' := 0) (h' := 4) (st := []) hF sl_RL_134 rfl [.ref b, .ref ta, .ref (q_KS G 52)] rfl rfl (by omega) (Nat.le_of_ble_eq_true rfl) dL_drawn_734 ?_
          refine mL_tell hA (q_Ale hA (by omega)) c721_0_13 (by omega) (by have := e_len8 v_2 (by omega); (try simp only [List.length_append, g_sts_len, g_dg9_len, g_nb9_len, List.length_nil]); omega) (fun I9_14 c734_0_14 c734_1_14 => ?_)
          refine q_sub [5, 6, 7, 8] rfl ?_
          have ef : f_ord p = f_p (f_p (f_p p)) := by
            unfold f_ord
            rw [if_pos (by show d_nx p.2 / 65536 % 2 = 0; omega), if_pos (by show d_nx (d_nx (d_nx p.2)) / 65536 % 2 = 0; omega)]
          have hv9 : ∀ j, j < 1 → (I9_14) sz j = (g_up (g_up t 9 (v_2 : Int)) 8 1) (9 + j) := fun j hj => by
            obtain rfl : j = 0 := by omega
            exact (((c734_1_14 _ _ (by omega) (by omega)).trans ((c721_1_13 _ _ (by omega) (by omega)).trans ((c710_1_12 _ _ (by omega) (by omega)).trans ((c675_1_11 _ _ (by omega) (by omega)).trans (u2_s _ _ _ _)))))).trans ((g_up_n _ _ (by omega)).trans (g_up_s _ _ _)).symm
          have hlen := e_od_len (a := v_2) (c := 0) (by omega) (by omega)
          exact qX.room (kc := kc) (ks := ks) (by omega) (by omega) (k0 _ _ _ (sz + 1) (on + 8) (g_up (g_up t 9 (v_2 : Int)) 8 1) (bs ++ e_od1 v_2) (by omega) (by rw [List.length_append]; omega) ⟨c734_0_14.bs (by unfold e_od1; simp only [List.append_assoc]), by rw [ef]; exact ((c734_1_14 _ _ (by omega) (by omega)).trans ((c721_1_13 _ _ (by omega) (by omega)).trans ((c710_1_12 _ _ (by omega) (by omega)).trans ((c675_1_11 _ _ (by omega) (by omega)).trans ((u2_a _ _ (by omega)).trans (u2_s _ _ _ _)))))), hD.order (n := 1) (by omega) (fun q a c => ((q_upT_n _ _ (by omega)).trans rfl)) (q_upT_s _ _ _) (fun q j a c => ((c734_1_14 _ _ (by omega) (by omega)).trans ((c721_1_13 _ _ (by omega) (by omega)).trans ((c710_1_12 _ _ (by omega) (by omega)).trans ((c675_1_11 _ _ (by omega) (by omega)).trans ((u2_a _ _ (by omega)).trans ((u2_a _ _ (by omega)).trans ((u2_a _ _ (by omega)).trans ((u2_a _ _ (by omega)).trans rfl))))))))) hv9 (g_up_s _ _ _) (fun x hx => (g_up_n _ _ (by omega)).trans (g_up_n _ _ (by omega))), hPT.ln (e_order1 (by omega) hon) hlen.1, ((fun x hx => (g_up_n _ _ (by omega)).trans (g_up_n _ _ (by omega))) 0 (by omega)).trans hm0, hnm.mv (by omega) (fun x a c => (fun x hx => (g_up_n _ _ (by omega)).trans (g_up_n _ _ (by omega))) x (by omega)), (fun q hq => ⟨((q_upT_n _ _ (by omega)).trans (hfr q hq).1), fun j => ⟨((c734_1_14 _ _ (by omega) (by omega)).trans ((c721_1_13 _ _ (by omega) (by omega)).trans ((c710_1_12 _ _ (by omega) (by omega)).trans ((c675_1_11 _ _ (by omega) (by omega)).trans ((u2_a _ _ (by omega)).trans ((u2_a _ _ (by omega)).trans ((u2_a _ _ (by omega)).trans ((u2_a _ _ (by omega)).trans ((hfr q hq).2 j).1)))))))), ((u2_a _ _ (by omega)).trans ((hfr q hq).2 j).2)⟩⟩), (q_upT_n _ _ (by omega)).trans hTd⟩)
        · exact absurd c696 (by decide)
