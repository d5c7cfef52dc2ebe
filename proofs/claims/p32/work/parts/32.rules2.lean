/-! the class: sleepOf -/
def g_res (ce ag si le c x y z w : Int) : Int := if c = -1 then ce else if c = -2 then ag else if c = -3 then si else if c = -4 then le else if c = -5 then g_held (x + y) else if c = -6 then g_held (x - y) else if c = -7 then g_held (x * y) else if c = -8 then (if y = 0 then 0 else x.fdiv y) else if c = -9 then min x y else (if x < y then z else w)
theorem g_res_1 (ce ag si le x y z w : Int) : g_res ce ag si le (-1) x y z w = ce := by unfold g_res; rw [if_pos rfl]
theorem g_res_2 (ce ag si le x y z w : Int) : g_res ce ag si le (-2) x y z w = ag := by unfold g_res; rw [if_neg (by decide), if_pos rfl]
theorem g_res_3 (ce ag si le x y z w : Int) : g_res ce ag si le (-3) x y z w = si := by unfold g_res; rw [if_neg (by decide), if_neg (by decide), if_pos rfl]
theorem g_res_4 (ce ag si le x y z w : Int) : g_res ce ag si le (-4) x y z w = le := by unfold g_res; rw [if_neg (by decide), if_neg (by decide), if_neg (by decide), if_pos rfl]
theorem g_res_5 (ce ag si le x y z w : Int) : g_res ce ag si le (-5) x y z w = g_held (x + y) := by unfold g_res; rw [if_neg (by decide), if_neg (by decide), if_neg (by decide), if_neg (by decide), if_pos rfl]
theorem g_res_6 (ce ag si le x y z w : Int) : g_res ce ag si le (-6) x y z w = g_held (x - y) := by unfold g_res; rw [if_neg (by decide), if_neg (by decide), if_neg (by decide), if_neg (by decide), if_neg (by decide), if_pos rfl]
theorem g_res_7 (ce ag si le x y z w : Int) : g_res ce ag si le (-7) x y z w = g_held (x * y) := by unfold g_res; rw [if_neg (by decide), if_neg (by decide), if_neg (by decide), if_neg (by decide), if_neg (by decide), if_neg (by decide), if_pos rfl]
theorem g_res_8 (ce ag si le x y z w : Int) : g_res ce ag si le (-8) x y z w = if y = 0 then 0 else x.fdiv y := by unfold g_res; rw [if_neg (by decide), if_neg (by decide), if_neg (by decide), if_neg (by decide), if_neg (by decide), if_neg (by decide), if_neg (by decide), if_pos rfl]
theorem g_res_9 (ce ag si le x y z w : Int) : g_res ce ag si le (-9) x y z w = min x y := by unfold g_res; rw [if_neg (by decide), if_neg (by decide), if_neg (by decide), if_neg (by decide), if_neg (by decide), if_neg (by decide), if_neg (by decide), if_neg (by decide), if_pos rfl]
theorem g_res_10 (ce ag si le x y z w : Int) : g_res ce ag si le (-10) x y z w = if x < y then z else w := by unfold g_res; rw [if_neg (by decide), if_neg (by decide), if_neg (by decide), if_neg (by decide), if_neg (by decide), if_neg (by decide), if_neg (by decide), if_neg (by decide), if_neg (by decide)]
theorem g_op_1 (ce ag si le : Int) (st : List Int) : g_op ce ag si le st (-1) = ce :: st := rfl
theorem g_op_2 (ce ag si le : Int) (st : List Int) : g_op ce ag si le st (-2) = ag :: st := rfl
theorem g_op_3 (ce ag si le : Int) (st : List Int) : g_op ce ag si le st (-3) = si :: st := rfl
theorem g_op_4 (ce ag si le : Int) (st : List Int) : g_op ce ag si le st (-4) = le :: st := rfl
theorem g_op_5 (ce ag si le x y : Int) (st : List Int) : g_op ce ag si le (y :: x :: st) (-5) = (g_held (x + y)) :: st := rfl
theorem g_op_6 (ce ag si le x y : Int) (st : List Int) : g_op ce ag si le (y :: x :: st) (-6) = (g_held (x - y)) :: st := rfl
theorem g_op_7 (ce ag si le x y : Int) (st : List Int) : g_op ce ag si le (y :: x :: st) (-7) = (g_held (x * y)) :: st := rfl
theorem g_op_8 (ce ag si le x y : Int) (st : List Int) : g_op ce ag si le (y :: x :: st) (-8) = (if y = 0 then 0 else x.fdiv y) :: st := rfl
theorem g_op_9 (ce ag si le x y : Int) (st : List Int) : g_op ce ag si le (y :: x :: st) (-9) = (min x y) :: st := rfl
theorem g_op_10 (ce ag si le x y a b : Int) (st : List Int) : g_op ce ag si le (y :: x :: b :: a :: st) (-10) = (if a < b then x else y) :: st := rfl
theorem g_step {ce ag si le : Int} {L : q_I} {s : Nat} {st : List Int} {c : Int} {cs : List Int} (hs : g_stk L s st) (hw : g_wf (c :: cs) st.length) (hm : g_mx (c :: cs) st.length) (hb : ∀ v ∈ st, -1000000000000 ≤ v ∧ v ≤ 1000000000000)
    (h1 : -1000000000000 ≤ ce ∧ ce ≤ 1000000000000) (h2 : -1000000000000 ≤ ag ∧ ag ≤ 1000000000000) (h3 : -1000000000000 ≤ si ∧ si ≤ 1000000000000) (h4 : -1000000000000 ≤ le ∧ le ≤ 1000000000000) :
    ∃ (bs : Nat) (nv : Int) (st' : List Int), (st.length : Int) - g_opn c = (bs : Int) ∧ bs ≤ 28 ∧ (-10 ≤ c ∧ c ≤ 999999) ∧ nv = (if 0 ≤ c then c else g_res ce ag si le c (L s bs) (L s (bs + 1)) (L s (bs + 2)) (L s (bs + 3))) ∧ g_op ce ag si le st c = nv :: st' ∧ g_stk L s st' ∧ st'.length = bs ∧ g_wf cs (bs + 1) ∧ g_mx cs (bs + 1) ∧ (c ≤ -5 → (-1000000000000 ≤ L s bs ∧ L s bs ≤ 1000000000000) ∧ (-1000000000000 ≤ L s (bs + 1) ∧ L s (bs + 1) ≤ 1000000000000)) ∧ (∀ v ∈ nv :: st', -1000000000000 ≤ v ∧ v ≤ 1000000000000) := by
  obtain ⟨w1, w2, w3⟩ := hw
  obtain ⟨m1, m2⟩ := hm
  by_cases q : -4 ≤ c
  · rw [if_pos q] at w3 m2
    have e0 : g_opn c = 0 := by unfold g_opn; rw [if_neg (by omega), if_neg (by omega)]
    refine ⟨st.length, (if 0 ≤ c then c else g_res ce ag si le c (L s st.length) (L s (st.length + 1)) (L s (st.length + 2)) (L s (st.length + 3))), st, by omega, m1, ⟨w1, w2⟩, rfl, ?_, hs, rfl, w3, m2, fun h => by omega, ?_⟩
    · by_cases p : 0 ≤ c
      · rw [if_pos p, g_op_lit p]
      · rw [if_neg p]
        rcases (show c = -1 ∨ c = -2 ∨ c = -3 ∨ c = -4 by omega) with rfl | rfl | rfl | rfl
        · rw [g_op_1, g_res_1]
        · rw [g_op_2, g_res_2]
        · rw [g_op_3, g_res_3]
        · rw [g_op_4, g_res_4]
    · intro v hv
      rcases List.mem_cons.mp hv with rfl | hv
      · by_cases p : 0 ≤ c
        · rw [if_pos p]; omega
        · rw [if_neg p]
          rcases (show c = -1 ∨ c = -2 ∨ c = -3 ∨ c = -4 by omega) with rfl | rfl | rfl | rfl
          · rw [g_res_1]; exact h1
          · rw [g_res_2]; exact h2
          · rw [g_res_3]; exact h3
          · rw [g_res_4]; exact h4
      · exact hb v hv
  · rw [if_neg q] at w3 m2
    by_cases q2 : -9 ≤ c
    · rw [if_pos q2] at w3 m2
      obtain ⟨w4, w5⟩ := w3
      obtain ⟨y, x, t, rfl⟩ := g_len2 w4
      have e0 : g_opn c = 2 := by unfold g_opn; rw [if_neg (by omega), if_pos (by omega)]
      have hl : ((y :: x :: t).length : Int) = (t.length : Int) + 2 := by simp only [List.length_cons]; omega
      have s1 : L s (t.length + 1) = y := hs.1
      have s2 : L s t.length = x := hs.2.1
      have b1 := hb y (by simp)
      have b2 := hb x (by simp)
      refine ⟨t.length, g_res ce ag si le c x y (L s (t.length + 2)) (L s (t.length + 3)), t, by omega, by have := m1; simp only [List.length_cons] at this; omega, ⟨w1, w2⟩, by rw [if_neg (by omega), s1, s2], ?_, hs.2.2, rfl, by simpa using w5, by simpa using m2, fun _ => by rw [s1, s2]; exact ⟨b2, b1⟩, ?_⟩
      · rcases (show c = -5 ∨ c = -6 ∨ c = -7 ∨ c = -8 ∨ c = -9 by omega) with rfl | rfl | rfl | rfl | rfl
        · rw [g_op_5, g_res_5]
        · rw [g_op_6, g_res_6]
        · rw [g_op_7, g_res_7]
        · rw [g_op_8, g_res_8]
        · rw [g_op_9, g_res_9]
      · intro v hv
        rcases List.mem_cons.mp hv with rfl | hv
        · rcases (show c = -5 ∨ c = -6 ∨ c = -7 ∨ c = -8 ∨ c = -9 by omega) with rfl | rfl | rfl | rfl | rfl
          · rw [g_res_5]; exact g_held_r _
          · rw [g_res_6]; exact g_held_r _
          · rw [g_res_7]; exact g_held_r _
          · rw [g_res_8]
            split
            · omega
            · exact g_fdiv_r b2 (by assumption)
          · rw [g_res_9]
            omega
        · exact hb v (by simp [hv])
    · rw [if_neg q2] at w3 m2
      obtain ⟨w4, w5⟩ := w3
      obtain ⟨y, x, b, a2, t, rfl⟩ := g_len4 w4
      have hc : c = -10 := by omega
      subst hc
      have hl : ((y :: x :: b :: a2 :: t).length : Int) = (t.length : Int) + 4 := by simp only [List.length_cons]; omega
      have s1 : L s (t.length + 3) = y := hs.1
      have s2 : L s (t.length + 2) = x := hs.2.1
      have s3 : L s (t.length + 1) = b := hs.2.2.1
      have s4 : L s t.length = a2 := hs.2.2.2.1
      have b1 := hb y (by simp)
      have b2 := hb x (by simp)
      have b3 := hb b (by simp)
      have b4 := hb a2 (by simp)
      have e0 : g_opn (-10) = 4 := rfl
      refine ⟨t.length, if a2 < b then x else y, t, by omega, by have := m1; simp only [List.length_cons] at this; omega, ⟨w1, w2⟩, by rw [if_neg (c := (0 : Int) ≤ -10) (by omega), s1, s2, s3, s4, g_res_10], g_op_10 _ _ _ _ _ _ _ _ _, hs.2.2.2.2, rfl, by simpa using w5, by simpa using m2, fun _ => by rw [s3, s4]; exact ⟨b4, b3⟩, ?_⟩
      intro v hv
      rcases List.mem_cons.mp hv with rfl | hv
      · split
        · exact b2
        · exact b1
      · exact hb v (by simp [hv])
set_option maxRecDepth 100000 in
theorem mX4_result {G : q_G} {sz : Nat} {T : q_T} {I L : q_I} {P : q_P} {Q : q_Q} {u : Nat} {c : Int} {o : Nat} {bs a : Nat} {bd : Int} {r : Nat → Int} (hU : q_SR T P u) (hO : T o = some (.inl 0)) (hAR : q_AR I o r a) (ha : g_VA r a bd) (hbd : bd ≤ 7000) (hb : bs ≤ 28) (hc : -10 ≤ c ∧ c ≤ -1) (hx : c ≤ -5 → (-1000000000000 ≤ L (u + 7) bs ∧ L (u + 7) bs ≤ 1000000000000) ∧ (-1000000000000 ≤ L (u + 7) (bs + 1) ∧ L (u + 7) (bs + 1) ≤ 1000000000000)) (k0 : Q (.inl (some (qL (g_res (r (1042 + 12 * a)) (r (1044 + 12 * a)) (r (1045 + 12 * a)) (r (1046 + 12 * a)) c (L (u + 7) bs) (L (u + 7) (bs + 1)) (L (u + 7) (bs + 2)) (L (u + 7) (bs + 3)))))) sz T I L P) : qC G 2 0 0 YX4_result [.ref u, qI c, qI (bs : Int), .ref o] sz T I L P Q := by
  refine qC_of (by decide +kernel) rfl rfl (Nat.le_of_ble_eq_true rfl) (fun F hF _ _ => ?_)
  have f2 := ha.cents
  have f3 := ha.age
  have f4 := ha.since
  have f5 := ha.wrote
  refine q_iload_n hF 1 rfl rfl dX4_result_0 ?_
  have c1_r := (show -2147483648 ≤ c ∧ c < 2147483648 from (by omega))
  rcases (show c = -9 ∨ c = -8 ∨ c = -7 ∨ c = -6 ∨ c = -5 ∨ c = -4 ∨ c = -3 ∨ c = -2 ∨ c = -1 ∨ (c < -9 ∨ -1 < c) from by omega) with c1 | c1 | c1 | c1 | c1 | c1 | c1 | c1 | c1 | c1
  · refine q_tableIn hF dX4_result_1 c1_r (by rw [c1]; decide) (by rw [c1]; decide) (off := 149) (by rw [c1]; rfl) (tgt := 150) rfl ?_
    refine q_aload_n hF 0 rfl rfl dX4_result_150 ?_
    refine q_getA hF fl_RX4_33 rfl hU.t0 hU.p12 dX4_result_151 ?_
    refine q_iload_n hF 2 rfl rfl dX4_result_154 ?_
    refine q_laloadv hF (z := L (u + 7) bs) (n := 32) bs hU.t7 rfl (by omega) (by decide) rfl dX4_result_155 ?_
    refine q_aload_n hF 0 rfl rfl dX4_result_156 ?_
    refine q_getA hF fl_RX4_33 rfl hU.t0 hU.p12 dX4_result_157 ?_
    refine q_iload_n hF 2 rfl rfl dX4_result_160 ?_
    refine q_iconst hF dX4_result_161 ?_
    refine q_iadd hF dX4_result_162 ?_
    refine q_laloadv hF (z := L (u + 7) (bs + 1)) (n := 32) (1 + bs) hU.t7 (by omega) (by omega) (by decide) (congrArg (L (u + 7)) (Nat.add_comm _ _)) dX4_result_163 ?_
    refine q_minl hF (q_mem 900 (by decide +kernel) rfl) (q_mem 605 (by decide +kernel) rfl) (q_mem 55 (by decide +kernel) rfl) (q_mem 606 (by decide +kernel) rfl) (by have q := hx (by omega); omega) (by have q := hx (by omega); omega) (Nat.le_of_ble_eq_true rfl) dX4_result_164 ?_
    refine q_lreturn hF rfl dX4_result_167 ?_
    rw [show g_res (r (1042 + 12 * a)) (r (1044 + 12 * a)) (r (1045 + 12 * a)) (r (1046 + 12 * a)) c (L (u + 7) bs) (L (u + 7) (bs + 1)) (L (u + 7) (bs + 2)) (L (u + 7) (bs + 3)) = (min (L (u + 7) bs) (L (u + 7) (bs + 1))) from by unfold g_res; (repeat' split) <;> first | rfl | omega | (exfalso; omega)] at k0; exact k0
  · refine q_tableIn hF dX4_result_1 c1_r (by rw [c1]; decide) (by rw [c1]; decide) (off := 131) (by rw [c1]; rfl) (tgt := 132) rfl ?_
    refine q_aload_n hF 0 rfl rfl dX4_result_132 ?_
    refine q_getA hF fl_RX4_33 rfl hU.t0 hU.p12 dX4_result_133 ?_
    refine q_iload_n hF 2 rfl rfl dX4_result_136 ?_
    refine q_laloadv hF (z := L (u + 7) bs) (n := 32) bs hU.t7 rfl (by omega) (by decide) rfl dX4_result_137 ?_
    refine q_aload_n hF 0 rfl rfl dX4_result_138 ?_
    refine q_getA hF fl_RX4_33 rfl hU.t0 hU.p12 dX4_result_139 ?_
    refine q_iload_n hF 2 rfl rfl dX4_result_142 ?_
    refine q_iconst hF dX4_result_143 ?_
    refine q_iadd hF dX4_result_144 ?_
    refine q_laloadv hF (z := L (u + 7) (bs + 1)) (n := 32) (1 + bs) hU.t7 (by omega) (by omega) (by decide) (congrArg (L (u + 7)) (Nat.add_comm _ _)) dX4_result_145 ?_
    refine q_callS (kc := 0) (ks := 0) (mc' := 0) (ms' := 0) (h' := 1) (st := []) hF sl_RX4_144 rfl [qL (L (u + 7) bs), qL (L (u + 7) (bs + 1))] rfl rfl (by decide) (Nat.le_of_ble_eq_true rfl) dX4_result_146 ?_
    refine mX4_quotient (by have q := hx (by omega); omega) (by have q := hx (by omega); omega) ?_
    refine q_lreturn hF rfl dX4_result_149 ?_
    rw [show g_res (r (1042 + 12 * a)) (r (1044 + 12 * a)) (r (1045 + 12 * a)) (r (1046 + 12 * a)) c (L (u + 7) bs) (L (u + 7) (bs + 1)) (L (u + 7) (bs + 2)) (L (u + 7) (bs + 3)) = (if (L (u + 7) (bs + 1)) = 0 then 0 else (L (u + 7) bs).fdiv (L (u + 7) (bs + 1))) from by unfold g_res; (repeat' split) <;> first | rfl | omega | (exfalso; omega)] at k0; exact k0
  · refine q_tableIn hF dX4_result_1 c1_r (by rw [c1]; decide) (by rw [c1]; decide) (off := 113) (by rw [c1]; rfl) (tgt := 114) rfl ?_
    refine q_aload_n hF 0 rfl rfl dX4_result_114 ?_
    refine q_getA hF fl_RX4_33 rfl hU.t0 hU.p12 dX4_result_115 ?_
    refine q_iload_n hF 2 rfl rfl dX4_result_118 ?_
    refine q_laloadv hF (z := L (u + 7) bs) (n := 32) bs hU.t7 rfl (by omega) (by decide) rfl dX4_result_119 ?_
    refine q_aload_n hF 0 rfl rfl dX4_result_120 ?_
    refine q_getA hF fl_RX4_33 rfl hU.t0 hU.p12 dX4_result_121 ?_
    refine q_iload_n hF 2 rfl rfl dX4_result_124 ?_
    refine q_iconst hF dX4_result_125 ?_
    refine q_iadd hF dX4_result_126 ?_
    refine q_laloadv hF (z := L (u + 7) (bs + 1)) (n := 32) (1 + bs) hU.t7 (by omega) (by omega) (by decide) (congrArg (L (u + 7)) (Nat.add_comm _ _)) dX4_result_127 ?_
    refine q_callS (kc := 0) (ks := 0) (mc' := 0) (ms' := 0) (h' := 0) (st := []) hF sl_RX4_141 rfl [qL (L (u + 7) bs), qL (L (u + 7) (bs + 1))] rfl rfl (by decide) (Nat.le_of_ble_eq_true rfl) dX4_result_128 ?_
    refine mX4_product (by have q := hx (by omega); omega) (by have q := hx (by omega); omega) ?_
    refine q_lreturn hF rfl dX4_result_131 ?_
    rw [show g_res (r (1042 + 12 * a)) (r (1044 + 12 * a)) (r (1045 + 12 * a)) (r (1046 + 12 * a)) c (L (u + 7) bs) (L (u + 7) (bs + 1)) (L (u + 7) (bs + 2)) (L (u + 7) (bs + 3)) = (g_held ((L (u + 7) bs) * (L (u + 7) (bs + 1)))) from by unfold g_res; (repeat' split) <;> first | rfl | omega | (exfalso; omega)] at k0; exact k0
  · refine q_tableIn hF dX4_result_1 c1_r (by rw [c1]; decide) (by rw [c1]; decide) (off := 94) (by rw [c1]; rfl) (tgt := 95) rfl ?_
    refine q_aload_n hF 0 rfl rfl dX4_result_95 ?_
    refine q_getA hF fl_RX4_33 rfl hU.t0 hU.p12 dX4_result_96 ?_
    refine q_iload_n hF 2 rfl rfl dX4_result_99 ?_
    refine q_laloadv hF (z := L (u + 7) bs) (n := 32) bs hU.t7 rfl (by omega) (by decide) rfl dX4_result_100 ?_
    refine q_aload_n hF 0 rfl rfl dX4_result_101 ?_
    refine q_getA hF fl_RX4_33 rfl hU.t0 hU.p12 dX4_result_102 ?_
    refine q_iload_n hF 2 rfl rfl dX4_result_105 ?_
    refine q_iconst hF dX4_result_106 ?_
    refine q_iadd hF dX4_result_107 ?_
    refine q_laloadv hF (z := L (u + 7) (bs + 1)) (n := 32) (1 + bs) hU.t7 (by omega) (by omega) (by decide) (congrArg (L (u + 7)) (Nat.add_comm _ _)) dX4_result_108 ?_
    refine q_lsub hF dX4_result_109 ?_
    refine q_callS (kc := 0) (ks := 0) (mc' := 0) (ms' := 0) (h' := 0) (st := []) hF sl_RX4_137 rfl [qL ((L (u + 7) bs) - (L (u + 7) (bs + 1)))] rfl rfl (by decide) (Nat.le_of_ble_eq_true rfl) dX4_result_110 ?_
    refine mX4_bounded (by have q := hx (by omega); omega) ?_
    refine q_lreturn hF rfl dX4_result_113 ?_
    rw [show g_res (r (1042 + 12 * a)) (r (1044 + 12 * a)) (r (1045 + 12 * a)) (r (1046 + 12 * a)) c (L (u + 7) bs) (L (u + 7) (bs + 1)) (L (u + 7) (bs + 2)) (L (u + 7) (bs + 3)) = (g_held ((L (u + 7) bs) - (L (u + 7) (bs + 1)))) from by unfold g_res; (repeat' split) <;> first | rfl | omega | (exfalso; omega)] at k0; exact k0
  · refine q_tableIn hF dX4_result_1 c1_r (by rw [c1]; decide) (by rw [c1]; decide) (off := 75) (by rw [c1]; rfl) (tgt := 76) rfl ?_
    refine q_aload_n hF 0 rfl rfl dX4_result_76 ?_
    refine q_getA hF fl_RX4_33 rfl hU.t0 hU.p12 dX4_result_77 ?_
    refine q_iload_n hF 2 rfl rfl dX4_result_80 ?_
    refine q_laloadv hF (z := L (u + 7) bs) (n := 32) bs hU.t7 rfl (by omega) (by decide) rfl dX4_result_81 ?_
    refine q_aload_n hF 0 rfl rfl dX4_result_82 ?_
    refine q_getA hF fl_RX4_33 rfl hU.t0 hU.p12 dX4_result_83 ?_
    refine q_iload_n hF 2 rfl rfl dX4_result_86 ?_
    refine q_iconst hF dX4_result_87 ?_
    refine q_iadd hF dX4_result_88 ?_
    refine q_laloadv hF (z := L (u + 7) (bs + 1)) (n := 32) (1 + bs) hU.t7 (by omega) (by omega) (by decide) (congrArg (L (u + 7)) (Nat.add_comm _ _)) dX4_result_89 ?_
    refine q_ladd hF dX4_result_90 ?_
    refine q_callS (kc := 0) (ks := 0) (mc' := 0) (ms' := 0) (h' := 0) (st := []) hF sl_RX4_137 rfl [qL ((L (u + 7) bs) + (L (u + 7) (bs + 1)))] rfl rfl (by decide) (Nat.le_of_ble_eq_true rfl) dX4_result_91 ?_
    refine mX4_bounded (by have q := hx (by omega); omega) ?_
    refine q_lreturn hF rfl dX4_result_94 ?_
    rw [show g_res (r (1042 + 12 * a)) (r (1044 + 12 * a)) (r (1045 + 12 * a)) (r (1046 + 12 * a)) c (L (u + 7) bs) (L (u + 7) (bs + 1)) (L (u + 7) (bs + 2)) (L (u + 7) (bs + 3)) = (g_held ((L (u + 7) bs) + (L (u + 7) (bs + 1)))) from by unfold g_res; (repeat' split) <;> first | rfl | omega | (exfalso; omega)] at k0; exact k0
  · refine q_tableIn hF dX4_result_1 c1_r (by rw [c1]; decide) (by rw [c1]; decide) (off := 69) (by rw [c1]; rfl) (tgt := 70) rfl ?_
    refine q_aload_n hF 3 rfl rfl dX4_result_70 ?_
    refine q_getIv hF (z := r (1046 + 12 * a)) fl_RX4_134 hO hAR.wrote dX4_result_71 ?_
    refine q_i2l hF (by omega) dX4_result_74 ?_
    refine q_lreturn hF rfl dX4_result_75 ?_
    rw [show g_res (r (1042 + 12 * a)) (r (1044 + 12 * a)) (r (1045 + 12 * a)) (r (1046 + 12 * a)) c (L (u + 7) bs) (L (u + 7) (bs + 1)) (L (u + 7) (bs + 2)) (L (u + 7) (bs + 3)) = (r (1046 + 12 * a)) from by unfold g_res; (repeat' split) <;> first | rfl | omega | (exfalso; omega)] at k0; exact k0
  · refine q_tableIn hF dX4_result_1 c1_r (by rw [c1]; decide) (by rw [c1]; decide) (off := 63) (by rw [c1]; rfl) (tgt := 64) rfl ?_
    refine q_aload_n hF 3 rfl rfl dX4_result_64 ?_
    refine q_getIv hF (z := r (1045 + 12 * a)) fl_RX4_131 hO hAR.since dX4_result_65 ?_
    refine q_i2l hF (by omega) dX4_result_68 ?_
    refine q_lreturn hF rfl dX4_result_69 ?_
    rw [show g_res (r (1042 + 12 * a)) (r (1044 + 12 * a)) (r (1045 + 12 * a)) (r (1046 + 12 * a)) c (L (u + 7) bs) (L (u + 7) (bs + 1)) (L (u + 7) (bs + 2)) (L (u + 7) (bs + 3)) = (r (1045 + 12 * a)) from by unfold g_res; (repeat' split) <;> first | rfl | omega | (exfalso; omega)] at k0; exact k0
  · refine q_tableIn hF dX4_result_1 c1_r (by rw [c1]; decide) (by rw [c1]; decide) (off := 57) (by rw [c1]; rfl) (tgt := 58) rfl ?_
    refine q_aload_n hF 3 rfl rfl dX4_result_58 ?_
    refine q_getIv hF (z := r (1044 + 12 * a)) fl_RX4_128 hO hAR.age dX4_result_59 ?_
    refine q_i2l hF (by omega) dX4_result_62 ?_
    refine q_lreturn hF rfl dX4_result_63 ?_
    rw [show g_res (r (1042 + 12 * a)) (r (1044 + 12 * a)) (r (1045 + 12 * a)) (r (1046 + 12 * a)) c (L (u + 7) bs) (L (u + 7) (bs + 1)) (L (u + 7) (bs + 2)) (L (u + 7) (bs + 3)) = (r (1044 + 12 * a)) from by unfold g_res; (repeat' split) <;> first | rfl | omega | (exfalso; omega)] at k0; exact k0
  · refine q_tableIn hF dX4_result_1 c1_r (by rw [c1]; decide) (by rw [c1]; decide) (off := 51) (by rw [c1]; rfl) (tgt := 52) rfl ?_
    refine q_aload_n hF 3 rfl rfl dX4_result_52 ?_
    refine q_getIv hF (z := r (1042 + 12 * a)) fl_RX4_125 hO hAR.cents dX4_result_53 ?_
    refine q_i2l hF (by omega) dX4_result_56 ?_
    refine q_lreturn hF rfl dX4_result_57 ?_
    rw [show g_res (r (1042 + 12 * a)) (r (1044 + 12 * a)) (r (1045 + 12 * a)) (r (1046 + 12 * a)) c (L (u + 7) bs) (L (u + 7) (bs + 1)) (L (u + 7) (bs + 2)) (L (u + 7) (bs + 3)) = (r (1042 + 12 * a)) from by unfold g_res; (repeat' split) <;> first | rfl | omega | (exfalso; omega)] at k0; exact k0
  · refine q_tableOut hF dX4_result_1 c1_r c1 (tgt := 168) rfl ?_
    refine q_aload_n hF 0 rfl rfl dX4_result_168 ?_
    refine q_getA hF fl_RX4_33 rfl hU.t0 hU.p12 dX4_result_169 ?_
    refine q_iload_n hF 2 rfl rfl dX4_result_172 ?_
    refine q_laloadv hF (z := L (u + 7) bs) (n := 32) bs hU.t7 rfl (by omega) (by decide) rfl dX4_result_173 ?_
    refine q_aload_n hF 0 rfl rfl dX4_result_174 ?_
    refine q_getA hF fl_RX4_33 rfl hU.t0 hU.p12 dX4_result_175 ?_
    refine q_iload_n hF 2 rfl rfl dX4_result_178 ?_
    refine q_iconst hF dX4_result_179 ?_
    refine q_iadd hF dX4_result_180 ?_
    refine q_laloadv hF (z := L (u + 7) (bs + 1)) (n := 32) (1 + bs) hU.t7 (by omega) (by omega) (by decide) (congrArg (L (u + 7)) (Nat.add_comm _ _)) dX4_result_181 ?_
    refine q_cmpge hF (by have q := hx (by omega); omega) (by have q := hx (by omega); omega) dX4_result_182 dX4_result_183 (fun c183 => ?_) (fun c183 => ?_)
    · refine q_aload_n hF 0 rfl rfl dX4_result_197 ?_
      refine q_getA hF fl_RX4_33 rfl hU.t0 hU.p12 dX4_result_198 ?_
      refine q_iload_n hF 2 rfl rfl dX4_result_201 ?_
      refine q_iconst hF dX4_result_202 ?_
      refine q_iadd hF dX4_result_203 ?_
      refine q_laloadv hF (z := L (u + 7) (bs + 3)) (n := 32) (3 + bs) hU.t7 (by omega) (by omega) (by decide) (congrArg (L (u + 7)) (Nat.add_comm _ _)) dX4_result_204 ?_
      refine q_lreturn hF rfl dX4_result_205 ?_
      rw [show g_res (r (1042 + 12 * a)) (r (1044 + 12 * a)) (r (1045 + 12 * a)) (r (1046 + 12 * a)) c (L (u + 7) bs) (L (u + 7) (bs + 1)) (L (u + 7) (bs + 2)) (L (u + 7) (bs + 3)) = (L (u + 7) (bs + 3)) from by unfold g_res; (repeat' split) <;> first | rfl | omega | (exfalso; omega)] at k0; exact k0
    · refine q_aload_n hF 0 rfl rfl dX4_result_186 ?_
      refine q_getA hF fl_RX4_33 rfl hU.t0 hU.p12 dX4_result_187 ?_
      refine q_iload_n hF 2 rfl rfl dX4_result_190 ?_
      refine q_iconst hF dX4_result_191 ?_
      refine q_iadd hF dX4_result_192 ?_
      refine q_laloadv hF (z := L (u + 7) (bs + 2)) (n := 32) (2 + bs) hU.t7 (by omega) (by omega) (by decide) (congrArg (L (u + 7)) (Nat.add_comm _ _)) dX4_result_193 ?_
      refine q_goto hF dX4_result_194 ?_
      refine q_lreturn hF rfl dX4_result_205 ?_
      rw [show g_res (r (1042 + 12 * a)) (r (1044 + 12 * a)) (r (1045 + 12 * a)) (r (1046 + 12 * a)) c (L (u + 7) bs) (L (u + 7) (bs + 1)) (L (u + 7) (bs + 2)) (L (u + 7) (bs + 3)) = (L (u + 7) (bs + 2)) from by unfold g_res; (repeat' split) <;> first | rfl | omega | (exfalso; omega)] at k0; exact k0
set_option maxRecDepth 100000 in
theorem lX4_sleepOf {G : q_G} {F : q_F} {h : Nat} {Q : q_Q} {kc ks sz : Nat} {T : q_T} {u o a q e : Nat} {l bd : Int} {r : Nat → Int} {FIN : List Int} {I L : q_I} {P : q_P} (h3 : 3 ≤ h) (hF : q_ok G F YX4_sleepOf h) (hU : q_SR T P u) (hUA : q_A G u) (hO : T o = some (.inl 0)) (hAR : q_AR I o r a) (ha : g_VA r a bd) (hbd : bd ≤ 7000) (hR : q_RR I u r) (hq : q < 25) (he : I (u + 5) q = (e : Int)) (he6 : e ≤ 600) (k0 : ∀ (L' : q_I) (v : Int), (∀ q k, q ≠ u + 7 → L' q k = L q k) → FIN = [v] → -1000000000000 ≤ v ∧ v ≤ 1000000000000 → Q (.inl (some (qI (max 0 (min 600 v))))) sz T I L' P) : ∀ (n : Nat) (i : Nat) (cs st : List Int) (L' : q_I), e - i < n → g_lst (I (u + 6)) (e - i) i = cs → i ≤ e → g_wf cs st.length → g_mx cs st.length → (∀ v ∈ st, -1000000000000 ≤ v ∧ v ≤ 1000000000000) → g_stk L' (u + 7) st → (∀ q k, q ≠ u + 7 → L' q k = L q k) → g_ev (r (1042 + 12 * a)) (r (1044 + 12 * a)) (r (1045 + 12 * a)) (r (1046 + 12 * a)) cs st = FIN → qX G F Q kc ks 36 [(5, qI (i : Int)), (4, qI (st.length : Int)), (3, qI (q : Int)), (0, .ref u), (1, .ref o), (2, qI l)] [] sz T I L' P := by
  intro n
  induction n with
  | zero => intro i cs st L' hn; exact absurd hn (Nat.not_lt_zero _)
  | succ n ih =>
    intro i cs st L' hn hc hie hwf hmx hb hst hL hev
    have f2 := ha.cents
    have f3 := ha.age
    have f4 := ha.since
    have f5 := ha.wrote
    refine q_iload hF 0 rfl dX4_sleepOf_36 ?_
    refine q_aload_n hF 3 rfl rfl dX4_sleepOf_38 ?_
    refine q_getA hF fl_RX4_27 rfl hU.t0 hU.p9 dX4_sleepOf_39 ?_
    refine q_iload_n hF 2 rfl rfl dX4_sleepOf_42 ?_
    refine q_ialoadv hF (z := (e : Int)) (n := 25) q hU.t5 rfl (by omega) (by decide) he dX4_sleepOf_43 ?_
    refine q_icmpge hF (by omega) (by omega) dX4_sleepOf_44 (fun c44 => ?_) (fun c44 => ?_)
    · rw [show e - i = 0 by omega] at hc
      have hcs : cs = [] := hc.symm
      subst hcs
      have hw1 : st.length = 1 := hwf
      obtain ⟨v, rfl⟩ : ∃ v, st = [v] := List.length_eq_one_iff.mp hw1
      have hbv := hb v (by simp)
      rw [show (([v].length : Nat) : Int) = 1 from rfl]
      refine q_iload hF 1 rfl dX4_sleepOf_142 ?_
      refine q_ifle hF (by decide) dX4_sleepOf_144 (fun c144 => ?_) (fun c144 => ?_)
      · exact absurd c144 (by decide)
      · refine q_aload_n hF 3 rfl rfl dX4_sleepOf_147 ?_
        refine q_getA hF fl_RX4_33 rfl hU.t0 hU.p12 dX4_sleepOf_148 ?_
        refine q_iload hF 1 rfl dX4_sleepOf_151 ?_
        refine q_iconst hF dX4_sleepOf_153 ?_
        refine q_isub hF dX4_sleepOf_154 ?_
        refine q_laloadv hF (z := v) (n := 32) 0 hU.t7 (by omega) (by omega) (by decide) hst.1 dX4_sleepOf_155 ?_
        refine q_goto hF dX4_sleepOf_156 ?_
        refine q_lstore hF (ls' := [(5, qL v), (4, qI 1), (3, qI (q : Int)), (0, .ref u), (1, .ref o), (2, qI l)]) (by decide) rfl dX4_sleepOf_160 ?_
        refine q_lconst hF (z := 0) rfl dX4_sleepOf_162 ?_
        refine q_ldc2 hF (n := 600) (q_mem 914 (by decide +kernel) rfl) dX4_sleepOf_163 ?_
        refine q_lload hF 0 rfl dX4_sleepOf_166 ?_
        refine q_minl hF (q_mem 900 (by decide +kernel) rfl) (q_mem 605 (by decide +kernel) rfl) (q_mem 55 (by decide +kernel) rfl) (q_mem 606 (by decide +kernel) rfl) (by decide) (by omega) (Nat.le_of_ble_eq_true rfl) dX4_sleepOf_168 ?_
        refine q_maxl hF (q_mem 901 (by decide +kernel) rfl) (q_mem 615 (by decide +kernel) rfl) (q_mem 55 (by decide +kernel) rfl) (q_mem 616 (by decide +kernel) rfl) (by decide) (by omega) (Nat.le_of_ble_eq_true rfl) dX4_sleepOf_171 ?_
        refine q_l2i hF dX4_sleepOf_174 ?_
        refine q_ireturn hF rfl dX4_sleepOf_175 ?_
        exact k0 L' v hL hev.symm hbv
    · obtain ⟨c, cs', hcs, hci⟩ : ∃ c cs', cs = c :: cs' ∧ I (u + 6) i = c := by
        rw [show e - i = (e - (1 + i)) + 1 by omega, g_lst] at hc
        exact ⟨_, _, hc.symm, rfl⟩
      have hc' : g_lst (I (u + 6)) (e - (1 + i)) (1 + i) = cs' := by
        rw [show e - i = (e - (1 + i)) + 1 by omega, g_lst, hcs, Nat.add_comm i 1] at hc
        exact (List.cons.inj hc).2
      subst hcs
      obtain ⟨bs, nv, st', hbs, hb28, hcr, hnv, hop, hst', hlen', hwf', hmx', hx, hb'⟩ := g_step (ce := r (1042 + 12 * a)) (ag := r (1044 + 12 * a)) (si := r (1045 + 12 * a)) (le := r (1046 + 12 * a)) hst hwf hmx hb (by omega) (by omega) (by omega) (by omega)
      refine q_iload hF 0 rfl dX4_sleepOf_47 ?_
      refine q_sipush hF (n := 600) rfl dX4_sleepOf_49 ?_
      refine q_icmpge hF (by omega) (by decide) dX4_sleepOf_52 (fun c52 => ?_) (fun c52 => ?_)
      · omega
      · refine q_iload hF 1 rfl dX4_sleepOf_55 ?_
        refine q_aload_n hF 3 rfl rfl dX4_sleepOf_57 ?_
        refine q_getA hF fl_RX4_30 rfl hU.t0 hU.p10 dX4_sleepOf_58 ?_
        refine q_iload hF 0 rfl dX4_sleepOf_61 ?_
        refine q_ialoadv hF (z := c) (n := 600) i hU.t6 rfl (by omega) (by decide) hci dX4_sleepOf_63 ?_
        refine q_callS (kc := kc) (ks := ks) (mc' := 0) (ms' := 0) (h' := 0) (st := [qI (st.length : Int)]) hF sl_RX4_109 rfl [qI c] rfl rfl (by omega) (Nat.le_of_ble_eq_true rfl) dX4_sleepOf_64 ?_
        refine mX4_operandsOf (by omega) ?_
        refine q_isub hF dX4_sleepOf_67 ?_
        rw [show (st.length : Int) - (g_opn c) = (bs : Int) from hbs]
        refine q_istore hF (ls' := [(6, qI (bs : Int)), (5, qI (i : Int)), (4, qI (st.length : Int)), (3, qI (q : Int)), (0, .ref u), (1, .ref o), (2, qI l)]) (by decide) rfl dX4_sleepOf_68 ?_
        refine q_iload hF 0 rfl dX4_sleepOf_70 ?_
        refine q_iflt hF (by omega) dX4_sleepOf_72 (fun c72 => ?_) (fun c72 => ?_)
        · omega
        · refine q_iload hF 0 rfl dX4_sleepOf_75 ?_
          refine q_iconst hF dX4_sleepOf_77 ?_
          refine q_iadd hF dX4_sleepOf_78 ?_
          refine q_bipush hF (n := 32) rfl dX4_sleepOf_79 ?_
          refine q_icmple hF (by omega) (by decide) dX4_sleepOf_81 (fun c81 => ?_) (fun c81 => ?_)
          · refine q_aload_n hF 4 rfl rfl dX4_sleepOf_88 ?_
            refine q_getA hF fl_RX4_33 rfl hU.t0 hU.p12 dX4_sleepOf_89 ?_
            refine q_iload hF 0 rfl dX4_sleepOf_92 ?_
            have hJ94 : qX G F Q kc ks 129 [(6, qI (bs : Int)), (5, qI (i : Int)), (4, qI (st.length : Int)), (3, qI (q : Int)), (0, .ref u), (1, .ref o), (2, qI l)] [qL nv, qI (bs : Int), .ref (u + 7)] sz T I L' P := by
              refine q_lastorev hF (n := 32) bs hU.t7 (q_Ale hUA (by omega)) rfl (by omega) (by decide) dX4_sleepOf_129 ?_
              refine q_iload hF 0 rfl dX4_sleepOf_130 ?_
              refine q_iconst hF dX4_sleepOf_132 ?_
              refine q_iadd hF dX4_sleepOf_133 ?_
              refine q_istore hF (ls' := [(4, qI ((bs : Int) + 1)), (6, qI (bs : Int)), (5, qI (i : Int)), (3, qI (q : Int)), (0, .ref u), (1, .ref o), (2, qI l)]) (by decide) rfl dX4_sleepOf_134 ?_
              refine q_iinc hF (z' := ((1 + i : Nat) : Int)) (ls' := [(5, qI ((1 + i : Nat) : Int)), (4, qI ((bs : Int) + 1)), (6, qI (bs : Int)), (3, qI (q : Int)), (0, .ref u), (1, .ref o), (2, qI l)]) 2 rfl (by first | rfl | omega) (by decide) rfl dX4_sleepOf_136 ?_
              refine q_goto hF dX4_sleepOf_139 ?_
              refine q_sub [0, 1, 3, 4, 5, 6] rfl ?_
              rw [show (bs : Int) + 1 = ((nv :: st').length : Int) from by simp only [List.length_cons, hlen']; omega]
              refine ih (1 + i) cs' (nv :: st') _ (by omega) hc' (by omega) (by simp only [List.length_cons, hlen']; exact hwf') (by simp only [List.length_cons, hlen']; exact hmx') hb' ⟨by rw [hlen']; exact u2_s _ _ _ _, g_stk_up hst' (Nat.le_of_eq hlen')⟩ (fun q k hq => by rw [u2_a _ _ hq]; exact hL q k hq) ?_
              rw [← hev]
              show g_ev (r (1042 + 12 * a)) (r (1044 + 12 * a)) (r (1045 + 12 * a)) (r (1046 + 12 * a)) _ _ = g_ev (r (1042 + 12 * a)) (r (1044 + 12 * a)) (r (1045 + 12 * a)) (r (1046 + 12 * a)) _ (g_op _ _ _ _ _ _)
              rw [hop]
            refine q_aload_n hF 4 rfl rfl dX4_sleepOf_94 ?_
            refine q_getA hF fl_RX4_30 rfl hU.t0 hU.p10 dX4_sleepOf_95 ?_
            refine q_iload hF 1 rfl dX4_sleepOf_98 ?_
            refine q_ialoadv hF (z := c) (n := 600) i hU.t6 rfl (by omega) (by decide) hci dX4_sleepOf_100 ?_
            refine q_iflt hF (by omega) dX4_sleepOf_101 (fun c101 => ?_) (fun c101 => ?_)
            · refine q_aload_n hF 4 rfl rfl dX4_sleepOf_115 ?_
              refine q_aload_n hF 4 rfl rfl dX4_sleepOf_116 ?_
              refine q_getA hF fl_RX4_30 rfl hU.t0 hU.p10 dX4_sleepOf_117 ?_
              refine q_iload hF 1 rfl dX4_sleepOf_120 ?_
              refine q_ialoadv hF (z := c) (n := 600) i hU.t6 rfl (by omega) (by decide) hci dX4_sleepOf_122 ?_
              refine q_iload hF 0 rfl dX4_sleepOf_123 ?_
              refine q_aload_n hF 5 rfl rfl dX4_sleepOf_125 ?_
              refine q_callV (kc := kc) (ks := ks) (mc' := 0) (ms' := 0) (h' := 2) (st := [qI (bs : Int), .ref (u + 7)]) hF vl_RX4_113 rfl [qI c, qI (bs : Int), .ref o] rfl rfl hU.t0 (by omega) (Nat.le_of_ble_eq_true rfl) dX4_sleepOf_126 ?_
              refine mX4_result (bs := bs) hU hO hAR ha (by omega) (by omega) (by omega) hx ?_
              rw [show (nv) = (g_res (r (1042 + 12 * a)) (r (1044 + 12 * a)) (r (1045 + 12 * a)) (r (1046 + 12 * a)) c (L' (u + 7) bs) (L' (u + 7) (bs + 1)) (L' (u + 7) (bs + 2)) (L' (u + 7) (bs + 3))) from by rw [hnv]; first | exact if_pos (by omega) | exact if_neg (by omega)] at hJ94; exact hJ94
            · refine q_aload_n hF 4 rfl rfl dX4_sleepOf_104 ?_
              refine q_getA hF fl_RX4_30 rfl hU.t0 hU.p10 dX4_sleepOf_105 ?_
              refine q_iload hF 1 rfl dX4_sleepOf_108 ?_
              refine q_ialoadv hF (z := c) (n := 600) i hU.t6 rfl (by omega) (by decide) hci dX4_sleepOf_110 ?_
              refine q_i2l hF (by omega) dX4_sleepOf_111 ?_
              refine q_goto hF dX4_sleepOf_112 ?_
              rw [show (nv) = c from by rw [hnv]; first | exact if_pos (by omega) | exact if_neg (by omega)] at hJ94; exact hJ94
          · omega
