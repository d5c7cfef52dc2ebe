/-! the class: what it is told -/
def g_lst (c : Nat → Int) : Nat → Nat → List Int
  | 0, _ => []
  | n + 1, i => c i :: g_lst c n (i + 1)
/-- the class's stack is high enough -/
def g_mx : List Int → Nat → Prop
  | [], _ => True
  | c :: cs, d => d ≤ 28 ∧ (if -4 ≤ c then g_mx cs (d + 1) else if -9 ≤ c then g_mx cs (d - 1) else g_mx cs (d - 3))
def q_SR (T : q_T) (P : q_P) (u : Nat) : Prop := (T u = some (.inl 4)) ∧ (P u 0 = some (u + 1)) ∧ (T (u + 1) = some (.inr (2, 5))) ∧ (P u 2 = some (u + 2)) ∧ (T (u + 2) = some (.inr (0, 5))) ∧ (P u 6 = some (u + 3)) ∧ (T (u + 3) = some (.inr (0, 3))) ∧ (P u 8 = some (u + 4)) ∧ (T (u + 4) = some (.inr (0, 25))) ∧ (P u 9 = some (u + 5)) ∧ (T (u + 5) = some (.inr (0, 25))) ∧ (P u 10 = some (u + 6)) ∧ (T (u + 6) = some (.inr (0, 600))) ∧ (P u 12 = some (u + 7)) ∧ (T (u + 7) = some (.inr (1, 32))) ∧ (∀ l : Nat, l < 5 → P (u + 1) l = some (u + 8 + 2 * l)) ∧ (∀ l : Nat, l < 5 → T (u + 8 + 2 * l) = some (.inl 2)) ∧ (∀ l : Nat, l < 5 → P (u + 8 + 2 * l) 0 = some (u + 9 + 2 * l)) ∧ (∀ l : Nat, l < 5 → T (u + 9 + 2 * l) = some (.inr (0, 6)))
theorem q_SR.t0 {T : q_T} {P : q_P} {u : Nat} (h : q_SR T P u) : T u = some (.inl 4) := h.1
theorem q_SR.p0 {T : q_T} {P : q_P} {u : Nat} (h : q_SR T P u) : P u 0 = some (u + 1) := h.2.1
theorem q_SR.t1 {T : q_T} {P : q_P} {u : Nat} (h : q_SR T P u) : T (u + 1) = some (.inr (2, 5)) := h.2.2.1
theorem q_SR.p2 {T : q_T} {P : q_P} {u : Nat} (h : q_SR T P u) : P u 2 = some (u + 2) := h.2.2.2.1
theorem q_SR.t2 {T : q_T} {P : q_P} {u : Nat} (h : q_SR T P u) : T (u + 2) = some (.inr (0, 5)) := h.2.2.2.2.1
theorem q_SR.p6 {T : q_T} {P : q_P} {u : Nat} (h : q_SR T P u) : P u 6 = some (u + 3) := h.2.2.2.2.2.1
theorem q_SR.t3 {T : q_T} {P : q_P} {u : Nat} (h : q_SR T P u) : T (u + 3) = some (.inr (0, 3)) := h.2.2.2.2.2.2.1
theorem q_SR.p8 {T : q_T} {P : q_P} {u : Nat} (h : q_SR T P u) : P u 8 = some (u + 4) := h.2.2.2.2.2.2.2.1
theorem q_SR.t4 {T : q_T} {P : q_P} {u : Nat} (h : q_SR T P u) : T (u + 4) = some (.inr (0, 25)) := h.2.2.2.2.2.2.2.2.1
theorem q_SR.p9 {T : q_T} {P : q_P} {u : Nat} (h : q_SR T P u) : P u 9 = some (u + 5) := h.2.2.2.2.2.2.2.2.2.1
theorem q_SR.t5 {T : q_T} {P : q_P} {u : Nat} (h : q_SR T P u) : T (u + 5) = some (.inr (0, 25)) := h.2.2.2.2.2.2.2.2.2.2.1
theorem q_SR.p10 {T : q_T} {P : q_P} {u : Nat} (h : q_SR T P u) : P u 10 = some (u + 6) := h.2.2.2.2.2.2.2.2.2.2.2.1
theorem q_SR.t6 {T : q_T} {P : q_P} {u : Nat} (h : q_SR T P u) : T (u + 6) = some (.inr (0, 600)) := h.2.2.2.2.2.2.2.2.2.2.2.2.1
theorem q_SR.p12 {T : q_T} {P : q_P} {u : Nat} (h : q_SR T P u) : P u 12 = some (u + 7) := h.2.2.2.2.2.2.2.2.2.2.2.2.2.1
theorem q_SR.t7 {T : q_T} {P : q_P} {u : Nat} (h : q_SR T P u) : T (u + 7) = some (.inr (1, 32)) := h.2.2.2.2.2.2.2.2.2.2.2.2.2.2.1
theorem q_SR.pl {T : q_T} {P : q_P} {u : Nat} (h : q_SR T P u) : ∀ l : Nat, l < 5 → P (u + 1) l = some (u + 8 + 2 * l) := h.2.2.2.2.2.2.2.2.2.2.2.2.2.2.2.1
theorem q_SR.tl {T : q_T} {P : q_P} {u : Nat} (h : q_SR T P u) : ∀ l : Nat, l < 5 → T (u + 8 + 2 * l) = some (.inl 2) := h.2.2.2.2.2.2.2.2.2.2.2.2.2.2.2.2.1
theorem q_SR.pn {T : q_T} {P : q_P} {u : Nat} (h : q_SR T P u) : ∀ l : Nat, l < 5 → P (u + 8 + 2 * l) 0 = some (u + 9 + 2 * l) := h.2.2.2.2.2.2.2.2.2.2.2.2.2.2.2.2.2.1
theorem q_SR.tn {T : q_T} {P : q_P} {u : Nat} (h : q_SR T P u) : ∀ l : Nat, l < 5 → T (u + 9 + 2 * l) = some (.inr (0, 6)) := h.2.2.2.2.2.2.2.2.2.2.2.2.2.2.2.2.2.2
def q_RR (I : q_I) (u : Nat) (r : Nat → Int) : Prop := (I u 1 = r 0) ∧ (I u 3 = r 3) ∧ (I u 4 = r 4) ∧ (I u 5 = r 5) ∧ (I u 7 = r 8) ∧ (∀ k : Nat, k < 5 → I (u + 2) k = r (12 + k)) ∧ (∀ k : Nat, (k : Int) < r 8 → I (u + 3) k = r (9 + k)) ∧ (∀ l : Nat, (l : Int) < r 0 → I (u + 8 + 2 * l) 1 = r (30 + 13 * l) ∧ I (u + 8 + 2 * l) 2 = r (31 + 13 * l) ∧ I (u + 8 + 2 * l) 3 = r (32 + 13 * l) ∧ I (u + 8 + 2 * l) 4 = r (33 + 13 * l) ∧ I (u + 8 + 2 * l) 5 = r (34 + 13 * l)) ∧ (∀ l j : Nat, (l : Int) < r 0 → (j : Int) < r (30 + 13 * l) → I (u + 9 + 2 * l) j = r (24 + 13 * l + j)) ∧ (∀ q : Nat, q < 25 → ¬ 0 < r (90 + 2 * q) → I (u + 4) q = -1) ∧ (∀ q : Nat, q < 25 → 0 < r (90 + 2 * q) → ∃ s e : Nat, I (u + 4) q = (s : Int) ∧ I (u + 5) q = (e : Int) ∧ s ≤ e ∧ e ≤ 600 ∧ g_lst (I (u + 6)) (e - s) s = g_dec r 901 (r (89 + 2 * q)).toNat (r (90 + 2 * q)).toNat ∧ g_mx (g_dec r 901 (r (89 + 2 * q)).toNat (r (90 + 2 * q)).toNat) 0) ∧ (0 ≤ I u 11 ∧ I u 11 ≤ 600 ∧ ∀ q : Nat, q < 25 → 0 < r (90 + 2 * q) → I (u + 5) q ≤ I u 11)
theorem q_RR.cnt {I : q_I} {u : Nat} {r : Nat → Int} (h : q_RR I u r) : I u 1 = r 0 := h.1
theorem q_RR.wait {I : q_I} {u : Nat} {r : Nat → Int} (h : q_RR I u r) : I u 3 = r 3 := h.2.1
theorem q_RR.cost {I : q_I} {u : Nat} {r : Nat → Int} (h : q_RR I u r) : I u 4 = r 4 := h.2.2.1
theorem q_RR.home {I : q_I} {u : Nat} {r : Nat → Int} (h : q_RR I u r) : I u 5 = r 5 := h.2.2.2.1
theorem q_RR.ords {I : q_I} {u : Nat} {r : Nat → Int} (h : q_RR I u r) : I u 7 = r 8 := h.2.2.2.2.1
theorem q_RR.pays {I : q_I} {u : Nat} {r : Nat → Int} (h : q_RR I u r) : ∀ k : Nat, k < 5 → I (u + 2) k = r (12 + k) := h.2.2.2.2.2.1
theorem q_RR.ord {I : q_I} {u : Nat} {r : Nat → Int} (h : q_RR I u r) : ∀ k : Nat, (k : Int) < r 8 → I (u + 3) k = r (9 + k) := h.2.2.2.2.2.2.1
theorem q_RR.land {I : q_I} {u : Nat} {r : Nat → Int} (h : q_RR I u r) : ∀ l : Nat, (l : Int) < r 0 → I (u + 8 + 2 * l) 1 = r (30 + 13 * l) ∧ I (u + 8 + 2 * l) 2 = r (31 + 13 * l) ∧ I (u + 8 + 2 * l) 3 = r (32 + 13 * l) ∧ I (u + 8 + 2 * l) 4 = r (33 + 13 * l) ∧ I (u + 8 + 2 * l) 5 = r (34 + 13 * l) := h.2.2.2.2.2.2.2.1
theorem q_RR.name {I : q_I} {u : Nat} {r : Nat → Int} (h : q_RR I u r) : ∀ l j : Nat, (l : Int) < r 0 → (j : Int) < r (30 + 13 * l) → I (u + 9 + 2 * l) j = r (24 + 13 * l + j) := h.2.2.2.2.2.2.2.2.1
theorem q_RR.law0 {I : q_I} {u : Nat} {r : Nat → Int} (h : q_RR I u r) : ∀ q : Nat, q < 25 → ¬ 0 < r (90 + 2 * q) → I (u + 4) q = -1 := h.2.2.2.2.2.2.2.2.2.1
theorem q_RR.law {I : q_I} {u : Nat} {r : Nat → Int} (h : q_RR I u r) : ∀ q : Nat, q < 25 → 0 < r (90 + 2 * q) → ∃ s e : Nat, I (u + 4) q = (s : Int) ∧ I (u + 5) q = (e : Int) ∧ s ≤ e ∧ e ≤ 600 ∧ g_lst (I (u + 6)) (e - s) s = g_dec r 901 (r (89 + 2 * q)).toNat (r (90 + 2 * q)).toNat ∧ g_mx (g_dec r 901 (r (89 + 2 * q)).toNat (r (90 + 2 * q)).toNat) 0 := h.2.2.2.2.2.2.2.2.2.2.1
theorem q_RR.cl {I : q_I} {u : Nat} {r : Nat → Int} (h : q_RR I u r) : 0 ≤ I u 11 ∧ I u 11 ≤ 600 ∧ ∀ q : Nat, q < 25 → 0 < r (90 + 2 * q) → I (u + 5) q ≤ I u 11 := h.2.2.2.2.2.2.2.2.2.2.2
def g_opn (c : Int) : Int := if c = -10 then 4 else if c ≤ -5 then 2 else 0
theorem q_RR.tk {I : q_I} {u : Nat} {r : Nat → Int} (h : q_RR I u r) (q : Nat) (hq : q < 25) : (I (u + 4) q ≠ -1 ↔ 0 < r (90 + 2 * q)) ∧ -1 ≤ I (u + 4) q ∧ I (u + 4) q ≤ 600 := by
  by_cases c : 0 < r (90 + 2 * q)
  · obtain ⟨s, e, h1, h2, h3, h4, -⟩ := h.law q hq c
    refine ⟨⟨fun _ => c, fun _ => by omega⟩, by omega, by omega⟩
  · have h1 := h.law0 q hq c
    refine ⟨⟨fun x => absurd h1 x, fun x => absurd x c⟩, by omega, by omega⟩
theorem g_tk_iff {r : Nat → Int} (hv : g_V0 r) {kd : Nat} (hk : kd < 5) {p : Int} (hp : -1 ≤ p ∧ p ≤ 4) : (p ≠ -1 ∧ 0 < r (g_law (kd : Int) p + 1)) ↔ ((0 ≤ p ∧ p < r 0) ∧ 0 < r (90 + 2 * (5 * kd + p.toNat))) := by
  by_cases h : p = -1
  · exact ⟨fun q => absurd h q.1, fun q => by omega⟩
  · have e : g_law (kd : Int) p + 1 = 90 + 2 * (5 * kd + p.toNat) := by unfold g_law; omega
    rw [e]
    refine ⟨fun q => ⟨⟨by omega, ?_⟩, q.2⟩, fun q => ⟨h, q.2⟩⟩
    have := (hv.law (5 * kd + p.toNat) (by omega) q.2).2.1
    omega
def q_AR (I : q_I) (o : Nat) (r : Nat → Int) (a : Nat) : Prop := (I o 0 = r (1039 + 12 * a)) ∧ (I o 1 = r (1040 + 12 * a)) ∧ (I o 2 = r (1041 + 12 * a)) ∧ (I o 3 = r (1042 + 12 * a)) ∧ (I o 4 = r (1043 + 12 * a)) ∧ (I o 5 = r (1044 + 12 * a)) ∧ (I o 6 = r (1045 + 12 * a)) ∧ (I o 7 = r (1046 + 12 * a)) ∧ (I o 8 = r (1048 + 12 * a)) ∧ (I o 9 = r (1047 + 12 * a)) ∧ (I o 11 = r (1049 + 12 * a)) ∧ (r (1043 + 12 * a) = 2 → I o 10 = r (1050 + 12 * a))
theorem q_AR.kind {I : q_I} {o : Nat} {r : Nat → Int} {a : Nat} (h : q_AR I o r a) : I o 0 = r (1039 + 12 * a) := h.1
theorem q_AR.addr {I : q_I} {o : Nat} {r : Nat → Int} {a : Nat} (h : q_AR I o r a) : I o 1 = r (1040 + 12 * a) := h.2.1
theorem q_AR.birth {I : q_I} {o : Nat} {r : Nat → Int} {a : Nat} (h : q_AR I o r a) : I o 2 = r (1041 + 12 * a) := h.2.2.1
theorem q_AR.cents {I : q_I} {o : Nat} {r : Nat → Int} {a : Nat} (h : q_AR I o r a) : I o 3 = r (1042 + 12 * a) := h.2.2.2.1
theorem q_AR.state {I : q_I} {o : Nat} {r : Nat → Int} {a : Nat} (h : q_AR I o r a) : I o 4 = r (1043 + 12 * a) := h.2.2.2.2.1
theorem q_AR.age {I : q_I} {o : Nat} {r : Nat → Int} {a : Nat} (h : q_AR I o r a) : I o 5 = r (1044 + 12 * a) := h.2.2.2.2.2.1
theorem q_AR.since {I : q_I} {o : Nat} {r : Nat → Int} {a : Nat} (h : q_AR I o r a) : I o 6 = r (1045 + 12 * a) := h.2.2.2.2.2.2.1
theorem q_AR.wrote {I : q_I} {o : Nat} {r : Nat → Int} {a : Nat} (h : q_AR I o r a) : I o 7 = r (1046 + 12 * a) := h.2.2.2.2.2.2.2.1
theorem q_AR.lat {I : q_I} {o : Nat} {r : Nat → Int} {a : Nat} (h : q_AR I o r a) : I o 8 = r (1048 + 12 * a) := h.2.2.2.2.2.2.2.2.1
theorem q_AR.holder {I : q_I} {o : Nat} {r : Nat → Int} {a : Nat} (h : q_AR I o r a) : I o 9 = r (1047 + 12 * a) := h.2.2.2.2.2.2.2.2.2.1
theorem q_AR.nl {I : q_I} {o : Nat} {r : Nat → Int} {a : Nat} (h : q_AR I o r a) : I o 11 = r (1049 + 12 * a) := h.2.2.2.2.2.2.2.2.2.2.1
theorem q_AR.hat {I : q_I} {o : Nat} {r : Nat → Int} {a : Nat} (h : q_AR I o r a) : r (1043 + 12 * a) = 2 → I o 10 = r (1050 + 12 * a) := h.2.2.2.2.2.2.2.2.2.2.2
set_option maxRecDepth 100000 in
theorem mX4_isLand {G : q_G} {sz : Nat} {T : q_T} {I L : q_I} {P : q_P} {Q : q_Q} {u : Nat} {l : Int} {r : Nat → Int} (hU : q_SR T P u) (hR : q_RR I u r) (hv : g_V0 r) (hl : -2147483648 ≤ l ∧ l < 2147483648) (k0 : Q (.inl (some (qI (q_b (0 ≤ l ∧ l < r 0))))) sz T I L P) : qC G 0 0 0 YX4_isLand [.ref u, qI l] sz T I L P Q := by
  refine qC_of (by decide +kernel) rfl rfl (Nat.le_of_ble_eq_true rfl) (fun F hF _ _ => ?_)
  refine q_iload_n hF 1 rfl rfl dX4_isLand_0 ?_
  refine q_iflt hF hl dX4_isLand_1 (fun c1 => ?_) (fun c1 => ?_)
  · refine q_iconst hF dX4_isLand_21 ?_
    refine q_zreturn hF (by decide) rfl dX4_isLand_22 ?_
    rw [q_b_f (c := 0 ≤ l ∧ l < r 0) (by first | omega | (have := hv.lands; omega))] at k0; exact k0
  · refine q_iload_n hF 1 rfl rfl dX4_isLand_4 ?_
    refine q_aload_n hF 0 rfl rfl dX4_isLand_5 ?_
    refine q_getIv hF (z := r 0) fl_RX4_44 hU.t0 hR.cnt dX4_isLand_6 ?_
    refine q_icmpge hF hl (by have := hv.lands; have := hv.ords; have := hv.home; omega) dX4_isLand_9 (fun c9 => ?_) (fun c9 => ?_)
    · refine q_iconst hF dX4_isLand_21 ?_
      refine q_zreturn hF (by decide) rfl dX4_isLand_22 ?_
      rw [q_b_f (c := 0 ≤ l ∧ l < r 0) (by first | omega | (have := hv.lands; omega))] at k0; exact k0
    · refine q_iload_n hF 1 rfl rfl dX4_isLand_12 ?_
      refine q_iconst hF dX4_isLand_13 ?_
      refine q_icmpge hF hl (by decide) dX4_isLand_14 (fun c14 => ?_) (fun c14 => ?_)
      · refine q_iconst hF dX4_isLand_21 ?_
        refine q_zreturn hF (by decide) rfl dX4_isLand_22 ?_
        rw [q_b_f (c := 0 ≤ l ∧ l < r 0) (by first | omega | (have := hv.lands; omega))] at k0; exact k0
      · refine q_iconst hF dX4_isLand_17 ?_
        refine q_goto hF dX4_isLand_18 ?_
        refine q_zreturn hF (by decide) rfl dX4_isLand_22 ?_
        rw [q_b_t (c := 0 ≤ l ∧ l < r 0) (by first | omega | (have := hv.lands; omega))] at k0; exact k0
set_option maxRecDepth 100000 in
theorem mX4_isLandOrNone {G : q_G} {sz : Nat} {T : q_T} {I L : q_I} {P : q_P} {Q : q_Q} {u : Nat} {l : Int} {r : Nat → Int} (hU : q_SR T P u) (hR : q_RR I u r) (hv : g_V0 r) (hl : -2147483648 ≤ l ∧ l < 2147483648) (k0 : Q (.inl (some (qI (q_b (l = -1 ∨ 0 ≤ l ∧ l < r 0))))) sz T I L P) : qC G 1 0 0 YX4_isLandOrNone [.ref u, qI l] sz T I L P Q := by
  refine qC_of (by decide +kernel) rfl rfl (Nat.le_of_ble_eq_true rfl) (fun F hF _ _ => ?_)
  refine q_iload_n hF 1 rfl rfl dX4_isLandOrNone_0 ?_
  refine q_iconst hF dX4_isLandOrNone_1 ?_
  refine q_icmpeq hF hl (by decide) dX4_isLandOrNone_2 (fun c2 => ?_) (fun c2 => ?_)
  · refine q_iconst hF dX4_isLandOrNone_13 ?_
    refine q_goto hF dX4_isLandOrNone_14 ?_
    refine q_zreturn hF (by decide) rfl dX4_isLandOrNone_18 ?_
    rw [q_b_t (c := l = -1 ∨ 0 ≤ l ∧ l < r 0) (by omega)] at k0; exact k0
  · refine q_aload_n hF 0 rfl rfl dX4_isLandOrNone_5 ?_
    refine q_iload_n hF 1 rfl rfl dX4_isLandOrNone_6 ?_
    refine q_callV (kc := 0) (ks := 0) (mc' := 0) (ms' := 0) (h' := 0) (st := []) hF vl_RX4_83 rfl [qI l] rfl rfl hU.t0 (by decide) (Nat.le_of_ble_eq_true rfl) dX4_isLandOrNone_7 ?_
    refine mX4_isLand hU hR hv hl ?_
    refine q_ifeq_b hF dX4_isLandOrNone_10 (fun c10 => ?_) (fun c10 => ?_)
    · refine q_iconst hF dX4_isLandOrNone_17 ?_
      refine q_zreturn hF (by decide) rfl dX4_isLandOrNone_18 ?_
      rw [q_b_f (c := l = -1 ∨ 0 ≤ l ∧ l < r 0) (by omega)] at k0; exact k0
    · refine q_iconst hF dX4_isLandOrNone_13 ?_
      refine q_goto hF dX4_isLandOrNone_14 ?_
      refine q_zreturn hF (by decide) rfl dX4_isLandOrNone_18 ?_
      rw [q_b_t (c := l = -1 ∨ 0 ≤ l ∧ l < r 0) (by omega)] at k0; exact k0
set_option maxRecDepth 100000 in
theorem mX4_takes {G : q_G} {sz : Nat} {T : q_T} {I L : q_I} {P : q_P} {Q : q_Q} {u : Nat} {l : Int} {kd : Nat} {r : Nat → Int} (hU : q_SR T P u) (hR : q_RR I u r) (hv : g_V0 r) (hk : kd < 5) (hl : -2147483648 ≤ l ∧ l < 2147483648) (k0 : Q (.inl (some (qI (q_b ((0 ≤ l ∧ l < r 0) ∧ 0 < r (90 + 2 * (5 * kd + l.toNat))))))) sz T I L P) : qC G 1 0 0 YX4_takes [.ref u, qI (kd : Int), qI l] sz T I L P Q := by
  refine qC_of (by decide +kernel) rfl rfl (Nat.le_of_ble_eq_true rfl) (fun F hF _ _ => ?_)
  refine q_aload_n hF 0 rfl rfl dX4_takes_0 ?_
  refine q_iload_n hF 2 rfl rfl dX4_takes_1 ?_
  refine q_callV (kc := 0) (ks := 0) (mc' := 0) (ms' := 0) (h' := 0) (st := []) hF vl_RX4_83 rfl [qI l] rfl rfl hU.t0 (by decide) (Nat.le_of_ble_eq_true rfl) dX4_takes_2 ?_
  refine mX4_isLand hU hR hv hl ?_
  refine q_ifeq_b hF dX4_takes_5 (fun c5 => ?_) (fun c5 => ?_)
  · refine q_iconst hF dX4_takes_35 ?_
    refine q_zreturn hF (by decide) rfl dX4_takes_36 ?_
    rw [q_b_f (c := (0 ≤ l ∧ l < r 0) ∧ 0 < r (90 + 2 * (5 * kd + l.toNat))) (by omega)] at k0; exact k0
  · refine q_iload_n hF 1 rfl rfl dX4_takes_8 ?_
    refine q_iflt hF (by omega) dX4_takes_9 (fun c9 => ?_) (fun c9 => ?_)
    · omega
    · refine q_iload_n hF 1 rfl rfl dX4_takes_12 ?_
      refine q_iconst hF dX4_takes_13 ?_
      refine q_icmpge hF (by omega) (by decide) dX4_takes_14 (fun c14 => ?_) (fun c14 => ?_)
      · omega
      · have hl5 := hv.lands
        have hq := hR.tk (5 * kd + l.toNat) (by omega)
        refine q_aload_n hF 0 rfl rfl dX4_takes_17 ?_
        refine q_getA hF fl_RX4_24 rfl hU.t0 hU.p8 dX4_takes_18 ?_
        refine q_iload_n hF 1 rfl rfl dX4_takes_21 ?_
        refine q_iconst hF dX4_takes_22 ?_
        refine q_imul hF dX4_takes_23 ?_
        refine q_iload_n hF 2 rfl rfl dX4_takes_24 ?_
        refine q_iadd hF dX4_takes_25 ?_
        refine q_ialoadv hF (z := I (u + 4) (5 * kd + l.toNat)) (n := 25) (5 * kd + l.toNat) hU.t4 (by omega) (by omega) (by decide) rfl dX4_takes_26 ?_
        refine q_iconst hF dX4_takes_27 ?_
        refine q_icmpeq hF (by omega) (by decide) dX4_takes_28 (fun c28 => ?_) (fun c28 => ?_)
        · refine q_iconst hF dX4_takes_35 ?_
          refine q_zreturn hF (by decide) rfl dX4_takes_36 ?_
          rw [q_b_f (c := (0 ≤ l ∧ l < r 0) ∧ 0 < r (90 + 2 * (5 * kd + l.toNat))) (by omega)] at k0; exact k0
        · refine q_iconst hF dX4_takes_31 ?_
          refine q_goto hF dX4_takes_32 ?_
          refine q_zreturn hF (by decide) rfl dX4_takes_36 ?_
          rw [q_b_t (c := (0 ≤ l ∧ l < r 0) ∧ 0 < r (90 + 2 * (5 * kd + l.toNat))) (by omega)] at k0; exact k0
set_option maxRecDepth 100000 in
theorem mX4_rateOf {G : q_G} {sz : Nat} {T : q_T} {I L : q_I} {P : q_P} {Q : q_Q} {u : Nat} {kd : Nat} {r : Nat → Int} (hU : q_SR T P u) (hR : q_RR I u r) (hk : kd < 5) (k0 : Q (.inl (some (qI (r (12 + kd))))) sz T I L P) : qC G 0 0 0 YX4_rateOf [.ref u, qI (kd : Int)] sz T I L P Q := by
  refine qC_of (by decide +kernel) rfl rfl (Nat.le_of_ble_eq_true rfl) (fun F hF _ _ => ?_)
  refine q_iload_n hF 1 rfl rfl dX4_rateOf_0 ?_
  refine q_iflt hF (by omega) dX4_rateOf_1 (fun c1 => ?_) (fun c1 => ?_)
  · omega
  · refine q_iload_n hF 1 rfl rfl dX4_rateOf_4 ?_
    refine q_iconst hF dX4_rateOf_5 ?_
    refine q_icmpge hF (by omega) (by decide) dX4_rateOf_6 (fun c6 => ?_) (fun c6 => ?_)
    · omega
    · refine q_aload_n hF 0 rfl rfl dX4_rateOf_9 ?_
      refine q_getA hF fl_RX4_17 rfl hU.t0 hU.p2 dX4_rateOf_10 ?_
      refine q_iload_n hF 1 rfl rfl dX4_rateOf_13 ?_
      refine q_ialoadv hF (z := r (12 + kd)) (n := 5) kd hU.t2 rfl (by omega) (by decide) (hR.pays _ (by omega)) dX4_rateOf_14 ?_
      refine q_goto hF dX4_rateOf_15 ?_
      refine q_ireturn hF rfl dX4_rateOf_19 ?_
      exact k0
set_option maxRecDepth 100000 in
theorem mX4_bounded {G : q_G} {sz : Nat} {T : q_T} {I L : q_I} {P : q_P} {Q : q_Q} {v : Int}  (h1 : -9223372036854775808 ≤ v ∧ v < 9223372036854775808) (k0 : Q (.inl (some (qL (g_held v)))) sz T I L P) : qC G 0 0 0 YX4_bounded [qL v] sz T I L P Q := by
  refine qC_of (by decide +kernel) rfl rfl (Nat.le_of_ble_eq_true rfl) (fun F hF _ _ => ?_)
  refine q_ldc2 hF (n := -1000000000000) (q_mem 898 (by decide +kernel) rfl) dX4_bounded_0 ?_
  refine q_ldc2 hF (n := 1000000000000) (q_mem 899 (by decide +kernel) rfl) dX4_bounded_3 ?_
  refine q_lload_n hF 0 rfl rfl dX4_bounded_6 ?_
  refine q_minl hF (q_mem 900 (by decide +kernel) rfl) (q_mem 605 (by decide +kernel) rfl) (q_mem 55 (by decide +kernel) rfl) (q_mem 606 (by decide +kernel) rfl) (by decide) h1 (Nat.le_of_ble_eq_true rfl) dX4_bounded_7 ?_
  refine q_maxl hF (q_mem 901 (by decide +kernel) rfl) (q_mem 615 (by decide +kernel) rfl) (q_mem 55 (by decide +kernel) rfl) (q_mem 616 (by decide +kernel) rfl) (by decide) (by omega) (Nat.le_of_ble_eq_true rfl) dX4_bounded_10 ?_
  refine q_lreturn hF rfl dX4_bounded_13 ?_
  rw [show (g_held v) = (max (-1000000000000) (min 1000000000000 v)) from by unfold g_held; (repeat' split) <;> omega] at k0; exact k0
set_option maxRecDepth 100000 in
theorem mX4_operandsOf {G : q_G} {sz : Nat} {T : q_T} {I L : q_I} {P : q_P} {Q : q_Q} {c : Int}  (h1 : -2147483648 ≤ c ∧ c < 2147483648) (k0 : Q (.inl (some (qI (g_opn c)))) sz T I L P) : qC G 0 0 0 YX4_operandsOf [qI c] sz T I L P Q := by
  refine qC_of (by decide +kernel) rfl rfl (Nat.le_of_ble_eq_true rfl) (fun F hF _ _ => ?_)
  refine q_iload_n hF 0 rfl rfl dX4_operandsOf_0 ?_
  refine q_bipush hF (n := -10) rfl dX4_operandsOf_1 ?_
  refine q_icmpne hF h1 (by decide) dX4_operandsOf_3 (fun c3 => ?_) (fun c3 => ?_)
  · refine q_iload_n hF 0 rfl rfl dX4_operandsOf_8 ?_
    refine q_bipush hF (n := -5) rfl dX4_operandsOf_9 ?_
    refine q_icmpgt hF h1 (by decide) dX4_operandsOf_11 (fun c11 => ?_) (fun c11 => ?_)
    · refine q_iconst hF dX4_operandsOf_18 ?_
      refine q_ireturn hF rfl dX4_operandsOf_19 ?_
      rw [show (g_opn c) = 0 from by unfold g_opn; (repeat' split) <;> first | rfl | omega] at k0; exact k0
    · refine q_iconst hF dX4_operandsOf_14 ?_
      refine q_goto hF dX4_operandsOf_15 ?_
      refine q_ireturn hF rfl dX4_operandsOf_19 ?_
      rw [show (g_opn c) = 2 from by unfold g_opn; (repeat' split) <;> first | rfl | omega] at k0; exact k0
  · refine q_iconst hF dX4_operandsOf_6 ?_
    refine q_ireturn hF rfl dX4_operandsOf_7 ?_
    rw [show (g_opn c) = 4 from by unfold g_opn; (repeat' split) <;> first | rfl | omega] at k0; exact k0
set_option maxRecDepth 100000 in
theorem lX4_landOf {G : q_G} {F : q_F} {Q : q_Q} {kc ks sz : Nat} {T : q_T} {u o a kd : Nat} {bd : Int} {r : Nat → Int} {I L : q_I} {P : q_P} (hF : q_ok G F YX4_landOf 2) (hU : q_SR T P u) (hR : q_RR I u r) (hv : g_V0 r) (hO : T o = some (.inl 0)) (hAR : q_AR I o r a) (ha : g_VA r a bd) (hk : r (1039 + 12 * a) = (kd : Int)) (k0 : Q (.inl (some (qI (g_bel r a)))) sz T I L P) : ∀ (n : Nat) (k : Nat), 3 - k < n → k ≤ 3 → g_belF r a (4 - k) k = g_bel r a → qX G F Q kc ks 2 [(2, qI (k : Int)), (0, .ref u), (1, .ref o)] [] sz T I L P := by
  intro n
  induction n with
  | zero => intro k hn; exact absurd hn (Nat.not_lt_zero _)
  | succ n ih =>
    intro k hn hk3 hg
    have hpl := g_pl_r hv ha k
    have f3 := ha.kind
    have hkd : kd < 5 := by omega
    have f4 := hv.ords
    refine q_iload_n hF 0 rfl rfl dX4_landOf_2 ?_
    refine q_aload_n hF 1 rfl rfl dX4_landOf_3 ?_
    refine q_getIv hF (z := r 8) fl_RX4_57 hU.t0 hR.ords dX4_landOf_4 ?_
    refine q_icmpge hF (by omega) (by have := hv.lands; have := hv.ords; have := hv.home; omega) dX4_landOf_7 (fun c7 => ?_) (fun c7 => ?_)
    · refine q_iconst hF dX4_landOf_72 ?_
      refine q_ireturn hF rfl dX4_landOf_73 ?_
      rw [show g_bel r a = -1 from by rw [← hg]; cases h4 : 4 - k <;> simp only [g_belF]; rw [if_neg (by omega)]] at k0; exact k0
    · refine q_iload_n hF 0 rfl rfl dX4_landOf_10 ?_
      refine q_iconst hF dX4_landOf_11 ?_
      refine q_icmpge hF (by omega) (by decide) dX4_landOf_12 (fun c12 => ?_) (fun c12 => ?_)
      · refine q_iconst hF dX4_landOf_72 ?_
        refine q_ireturn hF rfl dX4_landOf_73 ?_
        rw [show g_bel r a = -1 from by rw [← hg]; cases h4 : 4 - k <;> simp only [g_belF]; rw [if_neg (by omega)]] at k0; exact k0
      · have hJ15 : qX G F Q kc ks 52 [(3, qI (g_pl r a k)), (2, qI (k : Int)), (0, .ref u), (1, .ref o)] [] sz T I L P := by
          refine q_aload_n hF 2 rfl rfl dX4_landOf_52 ?_
          refine q_aload_n hF 3 rfl rfl dX4_landOf_53 ?_
          refine q_getIv hF (z := (kd : Int)) fl_RX4_106 hO (hAR.kind.trans hk) dX4_landOf_54 ?_
          refine q_iload_n hF 0 rfl rfl dX4_landOf_57 ?_
          refine q_callV (kc := kc) (ks := ks) (mc' := 0) (ms' := 0) (h' := 1) (st := []) hF vl_RX4_94 rfl [qI (kd : Int), qI (g_pl r a k)] rfl rfl hU.t0 (by decide) (Nat.le_of_ble_eq_true rfl) dX4_landOf_58 ?_
          refine mX4_takes (kd := kd) hU hR hv (by omega) (by omega) ?_
          refine q_ifeq_b hF dX4_landOf_61 (fun c61 => ?_) (fun c61 => ?_)
          · refine q_iinc hF (z' := ((1 + k : Nat) : Int)) (ls' := [(2, qI ((1 + k : Nat) : Int)), (3, qI (g_pl r a k)), (0, .ref u), (1, .ref o)]) 1 rfl (by first | rfl | omega) (by decide) rfl dX4_landOf_66 ?_
            refine q_goto hF dX4_landOf_69 ?_
            refine q_sub [0, 2, 3] rfl ?_
            rw [Nat.add_comm 1 k]
            refine ih (k + 1) (by omega) (by omega) ?_
            rw [← hg, show 4 - k = (4 - (k + 1)) + 1 by omega, g_belF, if_pos (by omega), if_neg (by rw [hk, g_tk_iff hv hkd hpl]; assumption)]
          · refine q_iload_n hF 0 rfl rfl dX4_landOf_64 ?_
            refine q_ireturn hF rfl dX4_landOf_65 ?_
            rw [show g_bel r a = g_pl r a k from by rw [← hg, show 4 - k = (3 - k) + 1 by omega, g_belF, if_pos (by omega), if_pos (by rw [hk, g_tk_iff hv hkd hpl]; assumption)]] at k0; exact k0
        refine q_aload_n hF 1 rfl rfl dX4_landOf_15 ?_
        refine q_getIv hF (z := r 5) fl_RX4_54 hU.t0 hR.home dX4_landOf_16 ?_
        refine q_istore_n hF (ls' := [(3, qI (r 5)), (2, qI (k : Int)), (0, .ref u), (1, .ref o)]) rfl (by decide) rfl dX4_landOf_19 ?_
        refine q_aload_n hF 2 rfl rfl dX4_landOf_20 ?_
        refine q_getA hF fl_RX4_21 rfl hU.t0 hU.p6 dX4_landOf_21 ?_
        refine q_iload_n hF 1 rfl rfl dX4_landOf_24 ?_
        refine q_ialoadv hF (z := r (9 + k)) (n := 3) k hU.t3 rfl (by omega) (by decide) (hR.ord _ (by omega)) dX4_landOf_25 ?_
        refine q_ifne hF (by have := hv.ord k (by omega); omega) dX4_landOf_26 (fun c26 => ?_) (fun c26 => ?_)
        · refine q_aload_n hF 2 rfl rfl dX4_landOf_37 ?_
          refine q_getA hF fl_RX4_21 rfl hU.t0 hU.p6 dX4_landOf_38 ?_
          refine q_iload_n hF 1 rfl rfl dX4_landOf_41 ?_
          refine q_ialoadv hF (z := r (9 + k)) (n := 3) k hU.t3 rfl (by omega) (by decide) (hR.ord _ (by omega)) dX4_landOf_42 ?_
          refine q_iconst hF dX4_landOf_43 ?_
          refine q_icmpne hF (by have := hv.ord k (by omega); omega) (by decide) dX4_landOf_44 (fun c44 => ?_) (fun c44 => ?_)
          · rw [show g_pl r a k = (r 5) from by unfold g_pl; first | rw [if_pos (by omega)] | rw [if_neg (by omega), if_pos (by omega)] | rw [if_neg (by omega), if_neg (by omega)]] at hJ15; exact hJ15
          · refine q_aload_n hF 3 rfl rfl dX4_landOf_47 ?_
            refine q_getIv hF (z := r (1041 + 12 * a)) fl_RX4_103 hO hAR.birth dX4_landOf_48 ?_
            refine q_istore_n hF (ls' := [(3, qI (r (1041 + 12 * a))), (2, qI (k : Int)), (0, .ref u), (1, .ref o)]) rfl (by decide) rfl dX4_landOf_51 ?_
            rw [show g_pl r a k = (r (1041 + 12 * a)) from by unfold g_pl; first | rw [if_pos (by omega)] | rw [if_neg (by omega), if_pos (by omega)] | rw [if_neg (by omega), if_neg (by omega)]] at hJ15; exact hJ15
        · refine q_aload_n hF 3 rfl rfl dX4_landOf_29 ?_
          refine q_getIv hF (z := r (1040 + 12 * a)) fl_RX4_98 hO hAR.addr dX4_landOf_30 ?_
          refine q_istore_n hF (ls' := [(3, qI (r (1040 + 12 * a))), (2, qI (k : Int)), (0, .ref u), (1, .ref o)]) rfl (by decide) rfl dX4_landOf_33 ?_
          refine q_goto hF dX4_landOf_34 ?_
          rw [show g_pl r a k = (r (1040 + 12 * a)) from by unfold g_pl; first | rw [if_pos (by omega)] | rw [if_neg (by omega), if_pos (by omega)] | rw [if_neg (by omega), if_neg (by omega)]] at hJ15; exact hJ15
set_option maxRecDepth 100000 in
theorem mX4_landOf {G : q_G} {sz : Nat} {T : q_T} {I L : q_I} {P : q_P} {Q : q_Q} {u : Nat} {o : Nat} {a : Nat} {bd : Int} {r : Nat → Int} (hU : q_SR T P u) (hR : q_RR I u r) (hv : g_V0 r) (hO : T o = some (.inl 0)) (hAR : q_AR I o r a) (ha : g_VA r a bd) (k0 : Q (.inl (some (qI (g_bel r a)))) sz T I L P) : qC G 2 0 0 YX4_landOf [.ref u, .ref o] sz T I L P Q := by
  refine qC_of (by decide +kernel) rfl rfl (Nat.le_of_ble_eq_true rfl) (fun F hF _ _ => ?_)
  have f3 := ha.kind
  obtain ⟨kd, hk⟩ : ∃ kd : Nat, r (1039 + 12 * a) = (kd : Int) := ⟨(r (1039 + 12 * a)).toNat, by omega⟩
  refine q_iconst hF dX4_landOf_0 ?_
  refine q_istore_n hF (ls' := [(2, qI 0), (0, .ref u), (1, .ref o)]) rfl (by decide) rfl dX4_landOf_1 ?_
  exact lX4_landOf hF hU hR hv hO hAR ha hk k0 4 0 (by omega) (by omega) rfl
set_option maxRecDepth 100000 in
theorem mX4_product {G : q_G} {sz : Nat} {T : q_T} {I L : q_I} {P : q_P} {Q : q_Q} {a : Int} {b : Int}  (ha : -1000000000000 ≤ a ∧ a ≤ 1000000000000) (hb : -1000000000000 ≤ b ∧ b ≤ 1000000000000) (k0 : Q (.inl (some (qL (g_held (a * b))))) sz T I L P) : qC G 0 0 0 YX4_product [qL a, qL b] sz T I L P Q := by
  refine qC_of (by decide +kernel) rfl rfl (Nat.le_of_ble_eq_true rfl) (fun F hF _ _ => ?_)
  refine q_lload_n hF 0 rfl rfl dX4_product_0 ?_
  refine q_lconst hF (z := 0) rfl dX4_product_1 ?_
  refine q_cmpeq hF (by omega) (by decide) dX4_product_2 dX4_product_3 (fun c3 => ?_) (fun c3 => ?_)
  · refine q_lconst hF (z := 0) rfl dX4_product_12 ?_
    refine q_lreturn hF rfl dX4_product_13 ?_
    rw [show (g_held (a * b)) = 0 from by (
              have : a * b = 0 := by rcases (show a = 0 ∨ b = 0 by omega) with h | h <;> simp [h]
              rw [this]; rfl)] at k0; exact k0
  · refine q_lload_n hF 1 rfl rfl dX4_product_6 ?_
    refine q_lconst hF (z := 0) rfl dX4_product_7 ?_
    refine q_cmpne hF (by omega) (by decide) dX4_product_8 dX4_product_9 (fun c9 => ?_) (fun c9 => ?_)
    · refine q_lload_n hF 0 rfl rfl dX4_product_14 ?_
      refine q_absl hF (q_mem 905 (by decide +kernel) rfl) (q_mem 906 (by decide +kernel) rfl) (q_mem 55 (by decide +kernel) rfl) (q_mem 907 (by decide +kernel) rfl) (by omega) (Nat.le_of_ble_eq_true rfl) dX4_product_15 ?_
      rw [show (if 0 < a then a else -a) = max a (-a) from by split <;> omega]
      refine q_ldc2 hF (n := 1000000000000) (q_mem 899 (by decide +kernel) rfl) dX4_product_18 ?_
      refine q_lload_n hF 1 rfl rfl dX4_product_21 ?_
      refine q_absl hF (q_mem 905 (by decide +kernel) rfl) (q_mem 906 (by decide +kernel) rfl) (q_mem 55 (by decide +kernel) rfl) (q_mem 907 (by decide +kernel) rfl) (by omega) (Nat.le_of_ble_eq_true rfl) dX4_product_22 ?_
      rw [show (if 0 < b then b else -b) = max b (-b) from by split <;> omega]
      refine q_ldiv hF (by decide) (by omega) (by omega) dX4_product_25 ?_
      refine q_cmple hF (by omega) (by have h1 := Int.tdiv_le_self (a := 1000000000000) (b := max b (-b)) (by decide); have h2 := Int.tdiv_nonneg (a := 1000000000000) (b := max b (-b)) (by decide) (by omega); omega) dX4_product_26 dX4_product_27 (fun c27 => ?_) (fun c27 => ?_)
      · refine q_lload_n hF 0 rfl rfl dX4_product_65 ?_
        refine q_lload_n hF 1 rfl rfl dX4_product_66 ?_
        refine q_lmul hF dX4_product_67 ?_
        refine q_lreturn hF rfl dX4_product_68 ?_
        rw [show (g_held (a * b)) = (a * b) from by (
                  have ha0 : a ≠ 0 := by omega
                  have hb0 : b ≠ 0 := by omega
                  have h1 := g_abs (a := a) (b := b) (B := 1000000000000) (by decide) hb0
                  have h2 := g_sgn ha0 hb0
                  have h3 : max (a * b) (-(a * b)) ≤ 1000000000000 ∨ 1000000000000 < max (a * b) (-(a * b)) := by omega
                  rcases h3 with h3 | h3
                  · have h4 := mt h1.mp (by omega)
                    first | (exact absurd (by assumption) h4) | (unfold g_held; (repeat' split) <;> first | rfl | omega)
                  · have h4 := h1.mpr h3
                    first | (exact absurd h4 (by omega)) | (have h5 := h2.1 (by assumption); unfold g_held; (repeat' split) <;> first | rfl | omega) | (have h5 := h2.2 (by assumption); unfold g_held; (repeat' split) <;> first | rfl | omega))] at k0; exact k0
      · have hJ30 : qX G F Q 0 0 41 [(0, qL a), (2, qL b)] [qI (q_b (a < 0))] sz T I L P := by
          have hJ41 : qX G F Q 0 0 52 [(0, qL a), (2, qL b)] [qI (q_b (b < 0)), qI (q_b (a < 0))] sz T I L P := by
            refine q_icmpne hF (q_b_r _) (q_b_r _) dX4_product_52 (fun c52 => ?_) (fun c52 => ?_)
            · refine q_ldc2 hF (n := -1000000000000) (q_mem 898 (by decide +kernel) rfl) dX4_product_61 ?_
              refine q_lreturn hF rfl dX4_product_64 ?_
              rw [show (g_held (a * b)) = (-1000000000000) from by (
                        have ha0 : a ≠ 0 := by omega
                        have hb0 : b ≠ 0 := by omega
                        have h1 := g_abs (a := a) (b := b) (B := 1000000000000) (by decide) hb0
                        have h2 := g_sgn ha0 hb0
                        have h3 : max (a * b) (-(a * b)) ≤ 1000000000000 ∨ 1000000000000 < max (a * b) (-(a * b)) := by omega
                        rcases h3 with h3 | h3
                        · have h4 := mt h1.mp (by omega)
                          first | (exact absurd (by assumption) h4) | (unfold g_held; (repeat' split) <;> first | rfl | omega)
                        · have h4 := h1.mpr h3
                          first | (exact absurd h4 (by omega)) | (have h5 := h2.1 (by assumption); unfold g_held; (repeat' split) <;> first | rfl | omega) | (have h5 := h2.2 (by assumption); unfold g_held; (repeat' split) <;> first | rfl | omega))] at k0; exact k0
            · refine q_ldc2 hF (n := 1000000000000) (q_mem 899 (by decide +kernel) rfl) dX4_product_55 ?_
              refine q_goto hF dX4_product_58 ?_
              refine q_lreturn hF rfl dX4_product_64 ?_
              rw [show (g_held (a * b)) = 1000000000000 from by (
                        have ha0 : a ≠ 0 := by omega
                        have hb0 : b ≠ 0 := by omega
                        have h1 := g_abs (a := a) (b := b) (B := 1000000000000) (by decide) hb0
                        have h2 := g_sgn ha0 hb0
                        have h3 : max (a * b) (-(a * b)) ≤ 1000000000000 ∨ 1000000000000 < max (a * b) (-(a * b)) := by omega
                        rcases h3 with h3 | h3
                        · have h4 := mt h1.mp (by omega)
                          first | (exact absurd (by assumption) h4) | (unfold g_held; (repeat' split) <;> first | rfl | omega)
                        · have h4 := h1.mpr h3
                          first | (exact absurd h4 (by omega)) | (have h5 := h2.1 (by assumption); unfold g_held; (repeat' split) <;> first | rfl | omega) | (have h5 := h2.2 (by assumption); unfold g_held; (repeat' split) <;> first | rfl | omega))] at k0; exact k0
          refine q_lload_n hF 1 rfl rfl dX4_product_41 ?_
          refine q_lconst hF (z := 0) rfl dX4_product_42 ?_
          refine q_cmpge hF (by omega) (by decide) dX4_product_43 dX4_product_44 (fun c44 => ?_) (fun c44 => ?_)
          · refine q_iconst hF dX4_product_51 ?_
            rw [show (q_b (b < 0)) = 0 from by first | exact q_b_t (by omega) | exact q_b_f (by omega)] at hJ41; exact hJ41
          · refine q_iconst hF dX4_product_47 ?_
            refine q_goto hF dX4_product_48 ?_
            rw [show (q_b (b < 0)) = 1 from by first | exact q_b_t (by omega) | exact q_b_f (by omega)] at hJ41; exact hJ41
        refine q_lload_n hF 0 rfl rfl dX4_product_30 ?_
        refine q_lconst hF (z := 0) rfl dX4_product_31 ?_
        refine q_cmpge hF (by omega) (by decide) dX4_product_32 dX4_product_33 (fun c33 => ?_) (fun c33 => ?_)
        · refine q_iconst hF dX4_product_40 ?_
          rw [show (q_b (a < 0)) = 0 from by first | exact q_b_t (by omega) | exact q_b_f (by omega)] at hJ30; exact hJ30
        · refine q_iconst hF dX4_product_36 ?_
          refine q_goto hF dX4_product_37 ?_
          rw [show (q_b (a < 0)) = 1 from by first | exact q_b_t (by omega) | exact q_b_f (by omega)] at hJ30; exact hJ30
    · refine q_lconst hF (z := 0) rfl dX4_product_12 ?_
      refine q_lreturn hF rfl dX4_product_13 ?_
      rw [show (g_held (a * b)) = 0 from by (
                have : a * b = 0 := by rcases (show a = 0 ∨ b = 0 by omega) with h | h <;> simp [h]
                rw [this]; rfl)] at k0; exact k0
/-! a method of a class with rows of its own in the table of natives -/
theorem vx_ofWF {l : Launch} {y : MethodName} {ws ws' : List Cond} {rm : Room} {Pc : Array Value → State → Prop} {Qc : Array Value → State → Outcome → State → Prop} {XC : String → State → State → Prop} {mc ms : Nat} {free : Addr → Prop} {cc : ByteArray} {maxL : Nat} {ret : Option FieldType}
    (hy : plainFor y = true) (hw : ws = Cond.code y cc maxL ret :: ws')
    (body : ∀ p e s m args below meth c s₁, BodyLoose p l y (headSpec ws rm) cc maxL ret e s m args below meth c s₁ → c.maxLocals = maxL → (∀ x ∈ c.exceptionTable.toList, False) → Pc args s →
      W p l e (headSpec ws rm).room s m args below meth c s.heap [] 0 0 (vx_MQ below Qc XC args s mc ms free) (entryFrame m args maxL)) : vx_Met l y ws rm Pc Qc XC mc ms free := by
  refine MetFree.of_bodySF (code := cc) (maxLocals := maxL) (ret := ret) hy ?_ ?_
  · intro args s m h hn
    obtain ⟨meth, c, h1, h2, h3, h4, h5, h6, -, -⟩ := Cond.code_spec hn (atoms_spec (ws := ws) h _ (by rw [hw]; exact List.mem_cons_self))
    exact ⟨meth, c, h1, h2, h3, h4, h5, h6⟩
  · intro p e s m args below meth c s₁ B hml hP _
    have hh0 : s₁.heap = s.heap := by rw [B.state]; rfl
    have ht : ∀ x ∈ c.exceptionTable.toList, False := by
      obtain ⟨meth9, c9, h1, h2, -, -, -, -, h7, -⟩ := Cond.code_spec B.named (atoms_spec (ws := ws) B.pre _ (by rw [hw]; exact List.mem_cons_self))
      cases Option.some.inj (h1.symm.trans B.method)
      cases Option.some.inj (h2.symm.trans (Stand.of_body B).code)
      intro x hx
      rw [Array.isEmpty_iff.mp h7] at hx
      cases hx
    obtain ⟨t, a1, o, b1, b2, b3⟩ := body p e s m args below meth c s₁ B hml ht hP s₁ hh0 (Stand.of_body B)
    exact ⟨t, o, a1, b1, b2, b3⟩
theorem qC_ofF {G : q_G} {h mc ms : Nat} {Y : q_Y} {av : List Value} {sz : Nat} {T : q_T} {I L : q_I} {P : q_P} {Q : q_Q} {la : List (Nat × Value)} (hp : plainFor Y.1 = true) (hh : Y.2.2.2.2 = []) (hla : lv_args 0 av = la) (hlen : (lg_sl av).length ≤ Y.2.2.1)
    (body : ∀ F : q_F, q_ok G F Y h → F.2.2.2.2.2.2.2.2.2.2.1 = mc → F.2.2.2.2.2.2.2.2.2.2.2 = ms → qX G F Q mc ms 0 la [] sz T I L P) : qC G h mc ms Y av sz T I L P Q := by
  subst hla
  refine vx_ofWF (cc := Y.2.1) (maxL := Y.2.2.1) (ret := Y.2.2.2.1) (ws' := q_all) hp (by unfold q_ws q_code; rw [hh]) ?_
  intro p e s m args below meth c s₁ B hml htab hv
  obtain ⟨rfl, hg, hsz, hR⟩ := hv
  have ht : c.exceptionTable.toList = tableOf Y.2.2.2.2 := by
    rw [hh]
    cases hc : c.exceptionTable.toList with
    | nil => rfl
    | cons a r => exact (htab a (by rw [hc]; exact List.mem_cons_self)).elim
  have q := body (p, G.1, e, q_rm h mc ms, s, m, av.toArray, below, meth, c, mc, ms) ⟨B.exec, B.bytes, B.returns, B.notSynchronized, hml, findClass_of_methodNamed B.named, (name_of_methodNamed B.named B.method).1, ht, hg, rfl, hg.1, rfl⟩ rfl rfl
  rw [lg_entry_eq]
  exact q s.heap [] 0 0 _ hsz hR va_S.rf (by rw [hml]; exact lv_entry av hlen) (by omega) (by omega)
theorem q_lxor {G : q_G} {F : q_F} {Q : q_Q} {Y : q_Y} {h kc ks pc pc' sz : Nat} {ls : List (Nat × Value)} {st : List Value} {T : q_T} {I L : q_I} {P : q_P} (hF : q_ok G F Y h) {a b c0 : Int} (hc : Int64.ofInt a ^^^ Int64.ofInt b = Int64.ofInt c0) (d : q_d Y.2.1 pc pc' .lxor 1) (k : qX G F Q kc ks pc' ls (qL c0 :: st) sz T I L P) : qX G F Q kc ks pc ls (qL b :: qL a :: st) sz T I L P := by
  obtain ⟨p, l, e, R, s, m, args, below, meth, c, mc, ms⟩ := F
  obtain ⟨hx, hb, -⟩ := hF
  obtain ⟨d, rfl⟩ := d
  intro H locs cells slots lsA z1 z2 z3 z4 z5 z6
  exact lv_lxor hx hb d (by rw [hc]; exact k H locs cells slots lsA z1 z2 z3 z4 z5 z6)
def g_xor (a b : Int) : Int := (Int64.ofInt a ^^^ Int64.ofInt b).toInt
theorem g_xor_r (a b : Int) : -9223372036854775808 ≤ g_xor a b ∧ g_xor a b < 9223372036854775808 := by
  have h1 := Int64.le_toInt (Int64.ofInt a ^^^ Int64.ofInt b)
  have h2 := Int64.toInt_lt (Int64.ofInt a ^^^ Int64.ofInt b)
  unfold g_xor
  omega
theorem g_xor_o (a b : Int) : Int64.ofInt a ^^^ Int64.ofInt b = Int64.ofInt (g_xor a b) := (Int64.ofInt_toInt _).symm
theorem g_xor_s {a b : Int} (ha : -9223372036854775808 ≤ a ∧ a < 9223372036854775808) (hb : -9223372036854775808 ≤ b ∧ b < 9223372036854775808) : (0 ≤ g_xor a b ↔ q_b (a < 0) = q_b (b < 0)) := by
  have e : ∀ x : Int64, x.toBitVec.msb = decide (x.toInt < 0) := fun x => BitVec.msb_eq_toInt
  have h := e (Int64.ofInt a ^^^ Int64.ofInt b)
  rw [Int64.toBitVec_xor, BitVec.msb_xor, e, e, ql_toInt ha, ql_toInt hb] at h
  have h2 : g_xor a b < 0 ↔ ((decide (a < 0) ^^ decide (b < 0)) = true) := by
    rw [h]; unfold g_xor; simp
  by_cases c1 : a < 0 <;> by_cases c2 : b < 0 <;> simp [c1, c2, q_b] at h2 ⊢ <;> omega
theorem g_td {a b : Int} (hb : b ≠ 0) (ha : -1000000000000 ≤ a ∧ a ≤ 1000000000000) : a.tdiv b * b = a - a.tmod b ∧ (-1000000000000 ≤ a.tmod b ∧ a.tmod b ≤ 1000000000000) ∧ (-1000000000000 ≤ a.tdiv b ∧ a.tdiv b ≤ 1000000000000) := by
  have h0 := Int.tmod_add_mul_tdiv a b
  rw [Int.mul_comm] at h0
  have h1 : (a.tmod b).natAbs ≤ a.natAbs := by rw [Int.natAbs_tmod]; exact Nat.mod_le _ _
  have h2 : (a.tdiv b).natAbs ≤ a.natAbs := by rw [Int.natAbs_tdiv]; exact Nat.div_le_self _ _
  omega
theorem g_fdiv_p {a b : Int} (hb : b ≠ 0) (h : a.tmod b = 0 ∨ q_b (a < 0) = q_b (b < 0)) : a.fdiv b = a.tdiv b := by
  rw [g_fdiv_t hb]
  by_cases c : a.tmod b = 0
  · rw [if_pos c]
  · rw [if_neg c, if_pos (by omega)]
theorem g_fdiv_m {a b : Int} (hb : b ≠ 0) (h : ¬ (a.tmod b = 0 ∨ q_b (a < 0) = q_b (b < 0))) : a.fdiv b = a.tdiv b - 1 := by
  rw [g_fdiv_t hb, if_neg (by omega), if_neg (by omega)]
set_option maxRecDepth 100000 in
theorem mJ9_floorDiv_f86c9 {G : q_G} {sz : Nat} {T : q_T} {I L : q_I} {P : q_P} {Q : q_Q} {a : Int} {b : Int}  (ha : -1000000000000 ≤ a ∧ a ≤ 1000000000000) (hb : -1000000000000 ≤ b ∧ b ≤ 1000000000000) (hb0 : b ≠ 0) (k0 : Q (.inl (some (qL (a.fdiv b)))) sz T I L P) : qC G 0 0 0 YJ9_floorDiv_f86c9 [qL a, qL b] sz T I L P Q := by
  refine qC_ofF (Jvm.Free.JP.mathPlain rfl (by decide +kernel)) rfl rfl (Nat.le_of_ble_eq_true rfl) (fun F hF _ _ => ?_)
  refine q_lload_n hF 0 rfl rfl dJ9_floorDiv_f86c9_0 ?_
  refine q_lload_n hF 1 rfl rfl dJ9_floorDiv_f86c9_1 ?_
  refine q_ldiv hF (by omega) (by omega) hb0 dJ9_floorDiv_f86c9_2 ?_
  refine q_lstore hF (ls' := [(4, qL (a.tdiv b)), (0, qL a), (2, qL b)]) (by decide) rfl dJ9_floorDiv_f86c9_3 ?_
  have hx := g_xor_s (a := a) (b := b) (by omega) (by omega)
  have hxr := g_xor_r a b
  have htd := g_td hb0 ha
  refine q_lload_n hF 1 rfl rfl dJ9_floorDiv_f86c9_5 ?_
  refine q_lload_n hF 2 rfl rfl dJ9_floorDiv_f86c9_6 ?_
  refine q_lxor hF (c0 := g_xor a b) (g_xor_o _ _) dJ9_floorDiv_f86c9_7 ?_
  refine q_lconst hF (z := 0) rfl dJ9_floorDiv_f86c9_8 ?_
  refine q_cmpge hF (by omega) (by decide) dJ9_floorDiv_f86c9_9 dJ9_floorDiv_f86c9_10 (fun c10 => ?_) (fun c10 => ?_)
  · refine q_lload hF 0 rfl dJ9_floorDiv_f86c9_27 ?_
    refine q_lreturn hF rfl dJ9_floorDiv_f86c9_29 ?_
    rw [show (a.fdiv b) = (a.tdiv b) from by (rw [g_fdiv_p (by assumption) (by omega)])] at k0; exact k0
  · refine q_lload hF 0 rfl dJ9_floorDiv_f86c9_13 ?_
    refine q_lload_n hF 2 rfl rfl dJ9_floorDiv_f86c9_15 ?_
    refine q_lmul hF dJ9_floorDiv_f86c9_16 ?_
    refine q_lload_n hF 1 rfl rfl dJ9_floorDiv_f86c9_17 ?_
    refine q_cmpeq hF (by omega) (by omega) dJ9_floorDiv_f86c9_18 dJ9_floorDiv_f86c9_19 (fun c19 => ?_) (fun c19 => ?_)
    · refine q_lload hF 0 rfl dJ9_floorDiv_f86c9_27 ?_
      refine q_lreturn hF rfl dJ9_floorDiv_f86c9_29 ?_
      rw [show (a.fdiv b) = (a.tdiv b) from by (rw [g_fdiv_p (by assumption) (by omega)])] at k0; exact k0
    · refine q_lload hF 0 rfl dJ9_floorDiv_f86c9_22 ?_
      refine q_lconst hF (z := 1) rfl dJ9_floorDiv_f86c9_24 ?_
      refine q_lsub hF dJ9_floorDiv_f86c9_25 ?_
      refine q_lreturn hF rfl dJ9_floorDiv_f86c9_26 ?_
      rw [show (a.fdiv b) = ((a.tdiv b) - 1) from by (rw [g_fdiv_m (by assumption) (by omega)])] at k0; exact k0
set_option maxRecDepth 100000 in
theorem mX4_quotient {G : q_G} {sz : Nat} {T : q_T} {I L : q_I} {P : q_P} {Q : q_Q} {a : Int} {b : Int}  (ha : -1000000000000 ≤ a ∧ a ≤ 1000000000000) (hb : -1000000000000 ≤ b ∧ b ≤ 1000000000000) (k0 : Q (.inl (some (qL (if b = 0 then 0 else a.fdiv b)))) sz T I L P) : qC G 1 0 0 YX4_quotient [qL a, qL b] sz T I L P Q := by
  refine qC_of (by decide +kernel) rfl rfl (Nat.le_of_ble_eq_true rfl) (fun F hF _ _ => ?_)
  refine q_lload_n hF 1 rfl rfl dX4_quotient_0 ?_
  refine q_lconst hF (z := 0) rfl dX4_quotient_1 ?_
  refine q_cmpne hF (by omega) (by decide) dX4_quotient_2 dX4_quotient_3 (fun c3 => ?_) (fun c3 => ?_)
  · refine q_lload_n hF 0 rfl rfl dX4_quotient_10 ?_
    refine q_lload_n hF 1 rfl rfl dX4_quotient_11 ?_
    refine q_callS (kc := 0) (ks := 0) (mc' := 0) (ms' := 0) (h' := 0) (st := []) hF sl_RX4_154 rfl [qL a, qL b] rfl rfl (by decide) (Nat.le_of_ble_eq_true rfl) dX4_quotient_12 ?_
    refine mJ9_floorDiv_f86c9 (by omega) (by omega) (by omega) ?_
    refine q_lreturn hF rfl dX4_quotient_15 ?_
    rw [show (if b = 0 then 0 else a.fdiv b) = (a.fdiv b) from by first | rw [if_pos (by omega)] | rw [if_neg (by omega)]] at k0; exact k0
  · refine q_lconst hF (z := 0) rfl dX4_quotient_6 ?_
    refine q_goto hF dX4_quotient_7 ?_
    refine q_lreturn hF rfl dX4_quotient_15 ?_
    rw [show (if b = 0 then 0 else a.fdiv b) = 0 from by first | rw [if_pos (by omega)] | rw [if_neg (by omega)]] at k0; exact k0
