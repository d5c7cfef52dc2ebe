/-! each told line is read -/
theorem g_sts_50 : g_sts 50 = [108, 97, 110, 100, 32] := by decide +kernel
theorem g_sts_51 : g_sts 51 = [32, 32, 108, 97, 110, 100, 32, 32] := by decide +kernel
theorem g_sts_52 : g_sts 52 = [59] := by decide +kernel
theorem g_sts_53 : g_sts 53 = [115, 108, 101, 101, 112, 32] := by decide +kernel
theorem g_sts_54 : g_sts 54 = [43, 108, 101, 116, 116, 101, 114, 115, 42] := by decide +kernel
theorem g_sts_55 : g_sts 55 = [45, 97, 103, 101, 47] := by decide +kernel
theorem g_sts_56 : g_sts 56 = [43, 105, 102, 32, 99, 101, 110, 116, 115, 32, 108, 101, 115, 115] := by decide +kernel
theorem g_sts_57 : g_sts 57 = [32, 116, 104, 101, 110, 32, 53, 32, 101, 108, 115, 101, 32, 48] := by decide +kernel
theorem g_sts_58 : g_sts 58 = [112, 97, 121, 115, 32] := by decide +kernel
theorem g_sts_59 : g_sts 59 = [119, 97, 105, 116] := by decide +kernel
theorem g_sts_60 : g_sts 60 = [108, 101, 116, 116, 101, 114] := by decide +kernel
theorem g_sts_61 : g_sts 61 = [104, 111, 109, 101, 32] := by decide +kernel
theorem g_sts_62 : g_sts 62 = [111, 114, 100, 101, 114] := by decide +kernel
theorem g_sts_63 : g_sts 63 = [115, 97, 118, 105, 110, 103, 115] := by decide +kernel
theorem g_sts_64 : g_sts 64 = [119, 97, 103, 101, 115] := by decide +kernel
theorem g_sts_65 : g_sts 65 = [115, 104, 97, 114, 101, 115] := by decide +kernel
theorem g_sts_66 : g_sts 66 = [99, 104, 101, 113, 117, 101] := by decide +kernel
theorem g_sts_67 : g_sts 67 = [98, 111, 120] := by decide +kernel
theorem g_sts_68 : g_sts 68 = [100, 97, 108, 101] := by decide +kernel
theorem g_sts_69 : g_sts 69 = [102, 101, 110, 109, 97, 114] := by decide +kernel
theorem g_sts_70 : g_sts 70 = [107] := by decide +kernel
theorem g_sts_71 : g_sts 71 = [111, 120, 101, 110] := by decide +kernel
theorem g_sts_72 : g_sts 72 = [122, 122] := by decide +kernel
theorem g_sts_73 : g_sts 73 = [97, 100, 100, 114, 101, 115, 115] := by decide +kernel
theorem g_sts_74 : g_sts 74 = [98, 105, 114, 116, 104] := by decide +kernel
theorem g_sts_75 : g_sts 75 = [104, 111, 109, 101] := by decide +kernel
theorem e_nm3 (l : Nat) (hl : l < 3) : 1 ≤ g_len (68 + l) ∧ g_len (68 + l) ≤ 6 ∧ ∀ c ∈ g_sts (68 + l), 97 ≤ c ∧ c ≤ 122 := by
  rcases (show l = 0 ∨ l = 1 ∨ l = 2 by omega) with rfl | rfl | rfl <;> decide +kernel
section
variable {B : Nat → Int} {n p q : Nat} {bs r : List Nat} {c : Nat}
theorem e_nw0 {i : Nat} (h : e_at B n p (c :: r)) (hi : 0 < g_len i ∧ (c : Int) ≠ g_ch i 0) : ¬ g_isW B n i p := e_nw (k := 0) h (Nat.succ_pos _) hi.1 hi.2
theorem e_ne : ∀ (w : List Nat) (q : Nat), (∀ c ∈ w, 97 ≤ c ∧ c ≤ 122) → e_at B n q (w ++ c :: r) → ¬ (97 ≤ c ∧ c ≤ 122) → g_ne B n q = q + w.length
  | [], q, _, h, hc => by
    have h : e_at B n q (c :: r) := h
    exact g_ne_e (by rw [h.hd]; unfold g_sm; omega)
  | x :: w, q, hw, h, hc => by
    have h : e_at B n q (x :: (w ++ c :: r)) := h
    have hx := hw x List.mem_cons_self
    rw [g_ne_s (by rw [h.hd]; unfold g_sm; omega), Nat.add_comm 1 q, e_ne w (q + 1) (fun c hc => hw c (List.mem_cons_of_mem _ hc)) h.tl hc]
    show q + 1 + w.length = q + (w.length + 1)
    omega
set_option maxRecDepth 100000 in
theorem e_nmw : ∀ l, l < 3 → ∀ k, k < 23 → 0 < g_len (g_wi k) ∧ g_ch (68 + l) 0 ≠ g_ch (g_wi k) 0 := by decide +kernel
/-- a name stands there -/
theorem e_nm {l : Nat} (hl : l < 3) (h : e_at B n q (g_sts (68 + l) ++ c :: r)) (hc : ¬ (97 ≤ c ∧ c ≤ 122)) : g_nl B n q = g_len (68 + l) ∧ g_nm B n q ∧ ∀ k, k < g_len (68 + l) → g_bt B n (q + k) = g_ch (68 + l) k := by
  obtain ⟨h1, h2, h3⟩ := e_nm3 l hl
  have e := e_ne (g_sts (68 + l)) q h3 h hc
  have el : g_nl B n q = g_len (68 + l) := by unfold g_nl; rw [e, g_sts_len]; omega
  have eb : ∀ k, k < g_len (68 + l) → g_bt B n (q + k) = g_ch (68 + l) k := fun k hk => by rw [h.lf k (by rw [g_sts_len]; exact hk), g_by_sts (by omega) hk]
  refine ⟨el, ⟨by rw [el]; omega, fun k hk z => ?_⟩, eb⟩
  have w := e_nmw l hl k hk
  have := z.1 0 w.1
  rw [eb 0 (by omega)] at this
  exact w.2 this
end
/-- the names of the first L lands stand in the row -/
def e_nms (t : Nat → Int) (L : Nat) : Prop := ∀ j, j < L → t (30 + 13 * j) = (g_len (68 + j) : Int) ∧ ∀ k, k < g_len (68 + j) → t (24 + 13 * j + k) = g_ch (68 + j) k
section
variable {B : Nat → Int} {n p q : Nat} {bs r : List Nat} {c : Nat} {t : Nat → Int}
theorem e_F_hit {f j c : Nat} (h : (j : Int) < t 0) (h2 : g_lm B n t q c j) : g_lndF B n t q c (f + 1) j = (j : Int) := by
  show (if (j : Int) < t 0 then (if g_lm B n t q c j then (j : Int) else _) else _) = _
  rw [if_pos h, if_pos h2]
theorem e_F_miss {f j c : Nat} (h : (j : Int) < t 0) (h2 : ¬ g_lm B n t q c j) : g_lndF B n t q c (f + 1) j = g_lndF B n t q c f (j + 1) := by
  show (if (j : Int) < t 0 then (if g_lm B n t q c j then (j : Int) else g_lndF B n t q c f (j + 1)) else _) = _
  rw [if_pos h, if_neg h2]
theorem e_F_end {f j c : Nat} (h : ¬ (j : Int) < t 0) : g_lndF B n t q c (f + 1) j = -1 := by
  show (if (j : Int) < t 0 then _ else _) = _
  rw [if_neg h]
theorem g_len_68 : g_len 68 = 4 ∧ g_len 69 = 6 ∧ g_len 70 = 1 := by decide +kernel
theorem e_miss {j l : Nat} {L : Nat} (ht : e_nms t L) (hj : j < L) (hj3 : j < 3) (hl : l < 3) (hn : j ≠ l) : ¬ g_lm B n t q (g_len (68 + l)) j := fun z => by
  have e := z.1
  rw [(ht j hj).1] at e
  obtain ⟨a, b, d⟩ := g_len_68
  have e : g_len (68 + j) = g_len (68 + l) := by omega
  rcases (show j = 0 ∨ j = 1 ∨ j = 2 by omega) with rfl | rfl | rfl <;> rcases (show l = 0 ∨ l = 1 ∨ l = 2 by omega) with rfl | rfl | rfl <;> first | exact hn rfl | (simp only [Nat.add_zero, Nat.reduceAdd] at e; omega)
theorem e_hit {l L : Nat} (ht : e_nms t L) (hl : l < L) (hb : ∀ k, k < g_len (68 + l) → g_bt B n (q + k) = g_ch (68 + l) k) : g_lm B n t q (g_len (68 + l)) l := ⟨(ht l hl).1, fun k hk => by rw [(ht l hl).2 k hk, hb k hk]⟩
/-- a land by its name: told before, or not -/
theorem e_land_of {l L : Nat} (ht : e_nms t L) (h0 : t 0 = (L : Int)) (hL : L ≤ 3) (hl : l < L) (hb : ∀ k, k < g_len (68 + l) → g_bt B n (q + k) = g_ch (68 + l) k) : g_lnd B n t q (g_len (68 + l)) = (l : Int) := by
  unfold g_lnd
  rcases (show l = 0 ∨ l = 1 ∨ l = 2 by omega) with rfl | rfl | rfl
  · exact e_F_hit (f := 5) (j := 0) (by omega) (e_hit ht hl hb)
  · rw [e_F_miss (f := 5) (j := 0) (by omega) (e_miss ht (by omega) (by omega) (by omega) (by omega))]
    exact e_F_hit (f := 4) (j := 1) (by omega) (e_hit ht hl hb)
  · rw [e_F_miss (f := 5) (j := 0) (by omega) (e_miss ht (by omega) (by omega) (by omega) (by omega)), e_F_miss (f := 4) (j := 1) (by omega) (e_miss ht (by omega) (by omega) (by omega) (by omega))]
    exact e_F_hit (f := 3) (j := 2) (by omega) (e_hit ht hl hb)
theorem e_land_new {l : Nat} (ht : e_nms t l) (h0 : t 0 = (l : Int)) (hl : l < 3) : g_lnd B n t q (g_len (68 + l)) = -1 := by
  unfold g_lnd
  rcases (show l = 0 ∨ l = 1 ∨ l = 2 by omega) with rfl | rfl | rfl
  · exact e_F_end (f := 5) (j := 0) (by omega)
  · rw [e_F_miss (f := 5) (j := 0) (by omega) (e_miss ht (by omega) (by omega) (by omega) (by omega))]
    exact e_F_end (f := 4) (j := 1) (by omega)
  · rw [e_F_miss (f := 5) (j := 0) (by omega) (e_miss ht (by omega) (by omega) (by omega) (by omega)), e_F_miss (f := 4) (j := 1) (by omega) (e_miss ht (by omega) (by omega) (by omega) (by omega))]
    exact e_F_end (f := 3) (j := 2) (by omega)
end
/-- a line at p is read: what is kept of it -/
def e_ln (ln : List Nat) (p cd : Nat) (on hp : Int) (t : Nat → Int) (cd' : Nat) (on' hp' : Int) (t' : Nat → Int) : Prop := ∀ (B : Nat → Int) (n : Nat), e_at B n p ln → ∃ q, g_sk B n p = q ∧ g_bt B n q ≠ -1 ∧ g_bt B n q ≠ 32 ∧ g_after B n (g_lnB B n 4000 (g_mk q 0 (-1) cd 0 on hp) t q) = .ok (g_mk (p + ln.length) 0 (-1) cd' 0 on' hp') t'
/-- all that was told so far is read: the row t -/
def q_PT (bs : List Nat) (cd : Nat) (on hp : Int) (t : Nat → Int) : Prop := ∀ (B : Nat → Int) (n : Nat), e_at B n 0 bs → ∃ w, w ≤ bs.length ∧ g_lines B n 4000 (n + 1) (g_mk 0 0 (-1) 0 0 0 0) g_begin = g_lines B n 4000 (n + 1 - w) (g_mk bs.length 0 (-1) cd 0 on hp) t
theorem q_PT.nil : q_PT [] 0 0 0 g_begin := fun B n _ => ⟨0, Nat.le_refl _, rfl⟩
theorem q_PT.ln {bs ln : List Nat} {cd cd' : Nat} {on hp on' hp' : Int} {t t' : Nat → Int} (h : q_PT bs cd on hp t) (hl : e_ln ln bs.length cd on hp t cd' on' hp' t') (h0 : 0 < ln.length) : q_PT (bs ++ ln) cd' on' hp' t' := fun B n ha => by
  obtain ⟨w, hw, e⟩ := h B n ha.lf
  have ha2 := ha.ri
  rw [Nat.zero_add] at ha2
  obtain ⟨q, q1, q2, q3, q4⟩ := hl B n ha2
  have hn := ha2.le h0
  refine ⟨w + 1, by rw [List.length_append]; omega, ?_⟩
  rw [e, show n + 1 - w = (n - w) + 1 by omega, show n + 1 - (w + 1) = n - w by omega]
  rw [g_lines_k (s' := g_mk (bs.length + ln.length) 0 (-1) cd' 0 on' hp') (t' := t') (show g_bt B n (g_sk B n bs.length) ≠ -1 by rw [q1]; exact q2) (by
    show g_after B n (g_lnB B n 4000 (g_mk (g_sk B n bs.length) 0 (-1) cd 0 on hp) t (g_sk B n (g_sk B n bs.length))) = _
    rw [q1, g_sk_e q3]; exact q4), List.length_append]
/-- and at its end the text is taken -/
theorem q_PT.fin {bs : List Nat} {cd : Nat} {on hp : Int} {t : Nat → Int} (h : q_PT bs cd on hp t) (h0 : t 0 ≠ 0) {B : Nat → Int} (hB : ∀ k, k < bs.length → B k = (g_by bs k : Int)) : g_text B bs.length 0 = .ok (g_mk bs.length 0 (-1) cd 0 on hp) t := by
  obtain ⟨w, hw, e⟩ := h B bs.length (fun k hk => by rw [Nat.zero_add]; unfold g_bt; rw [if_pos hk]; exact hB k hk)
  have hs : g_sk B bs.length bs.length = bs.length := g_sk_e (by rw [g_bt_n]; decide)
  unfold g_text
  rw [e, show bs.length + 1 - w = (bs.length - w) + 1 by omega, g_lines_e (by show g_bt B bs.length (g_sk B bs.length bs.length) = -1; rw [hs, g_bt_n])]
  show (if t 0 = 0 then _ else _) = _
  rw [if_neg h0]
  show g_Rl.ok (g_mk (g_sk B bs.length bs.length) 0 (-1) cd 0 on hp) t = _
  rw [hs]
theorem e_after {B : Nat → Int} {n p : Nat} {r : List Nat} {fl fa op on hp : Int} {cd : Nat} {t : Nat → Int} (h : e_at B n p (59 :: r)) : g_after B n (g_Rl.ok (g_mk p fl fa cd op on hp) t) = g_Rl.ok (g_mk (p + 1) fl fa cd op on hp) t := by
  show (if g_bt B n (g_sk B n p) = 59 then g_Rl.ok (g_mk (1 + g_sk B n p) fl fa cd op on hp) t else _) = _
  rw [e_sk h (by decide), h.hd, if_pos (show ((59 : Nat) : Int) = 59 from rfl), Nat.add_comm]
set_option maxRecDepth 100000 in
/-- bits told once -/
theorem e_bits : ∀ k : Nat, k < 5 → ∀ h : Nat, h < 32 → h < 2 ^ k → g_and (g_shr (h : Int) (k : Int)) 1 ≠ 1 ∧ g_or (h : Int) (g_shl 1 (k : Int)) = ((h + 2 ^ k : Nat) : Int) := by decide +kernel
