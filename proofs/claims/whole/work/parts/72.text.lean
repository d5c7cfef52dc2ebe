/-! a text: its bytes, blanks, words, digits -/
def g_bt (B : Nat → Int) (n k : Nat) : Int := if k < n then B k else -1
theorem g_bt_in {B : Nat → Int} {n k : Nat} (h : g_bt B n k ≠ -1) : k < n := by
  unfold g_bt at h
  by_cases c : k < n
  · exact c
  · rw [if_neg c] at h; exact absurd rfl h
def g_skF (B : Nat → Int) (n : Nat) : Nat → Nat → Nat
  | 0, k => k
  | f + 1, k => if g_bt B n k = 32 then g_skF B n f (k + 1) else k
def g_sk (B : Nat → Int) (n k : Nat) : Nat := g_skF B n (n - k) k
theorem g_sk_e {B : Nat → Int} {n k : Nat} (h : g_bt B n k ≠ 32) : g_sk B n k = k := by
  unfold g_sk
  cases n - k with
  | zero => rfl
  | succ f => unfold g_skF; rw [if_neg h]
theorem g_sk_s {B : Nat → Int} {n k : Nat} (h : g_bt B n k = 32) : g_sk B n k = g_sk B n (1 + k) := by
  have hk : k < n := g_bt_in (by rw [h]; decide)
  unfold g_sk
  rw [show n - k = (n - (1 + k)) + 1 by omega, g_skF, if_pos h, Nat.add_comm k 1]
theorem g_sk_all {B : Nat → Int} {n : Nat} : ∀ f k, n - k < f → k ≤ n → k ≤ g_sk B n k ∧ g_sk B n k ≤ n ∧ g_bt B n (g_sk B n k) ≠ 32
  | 0, _, h, _ => absurd h (Nat.not_lt_zero _)
  | f + 1, k, h, hk => by
    by_cases c : g_bt B n k = 32
    · have h2 : k < n := g_bt_in (by rw [c]; decide)
      rw [g_sk_s c]
      have q := g_sk_all (B := B) (n := n) f (1 + k) (by omega) (by omega)
      exact ⟨by omega, q.2⟩
    · rw [g_sk_e c]
      exact ⟨Nat.le_refl _, hk, c⟩
theorem g_sk_r {B : Nat → Int} {n k : Nat} (hk : k ≤ n) : k ≤ g_sk B n k ∧ g_sk B n k ≤ n := ⟨(g_sk_all _ k (Nat.lt_succ_self _) hk).1, (g_sk_all _ k (Nat.lt_succ_self _) hk).2.1⟩
theorem g_sk_n {B : Nat → Int} {n k : Nat} (hk : k ≤ n) : g_bt B n (g_sk B n k) ≠ 32 := (g_sk_all _ k (Nat.lt_succ_self _) hk).2.2
theorem g_sk_sk {B : Nat → Int} {n k : Nat} (hk : k ≤ n) : g_sk B n (g_sk B n k) = g_sk B n k := g_sk_e (g_sk_n hk)
abbrev g_sm (c : Int) : Prop := 97 ≤ c ∧ c ≤ 122
abbrev g_dg (c : Int) : Prop := 48 ≤ c ∧ c ≤ 57
/-- word i stands at a -/
abbrev g_isW (B : Nat → Int) (n i a : Nat) : Prop := (∀ k, k < g_len i → g_bt B n (a + k) = g_ch i k) ∧ ¬ g_sm (g_bt B n (a + g_len i))
def g_ndF (B : Nat → Int) (n : Nat) : Nat → Nat → Nat
  | 0, k => k
  | f + 1, k => if g_dg (g_bt B n k) then g_ndF B n f (k + 1) else k
/-- where the digits end that stand at k -/
def g_nd (B : Nat → Int) (n k : Nat) : Nat := g_ndF B n (n - k) k
def g_nvF (B : Nat → Int) (n : Nat) : Nat → Nat → Int → Int
  | 0, _, v => v
  | f + 1, k, v => if g_dg (g_bt B n k) then g_nvF B n f (k + 1) (min 10000000 (10 * v + g_bt B n k - 48)) else v
def g_nv (B : Nat → Int) (n k : Nat) (v : Int) : Int := g_nvF B n (n - k) k v
theorem g_nd_e {B : Nat → Int} {n k : Nat} (h : ¬ g_dg (g_bt B n k)) : g_nd B n k = k := by
  unfold g_nd
  cases n - k with
  | zero => rfl
  | succ f => unfold g_ndF; rw [if_neg h]
theorem g_nd_s {B : Nat → Int} {n k : Nat} (h : g_dg (g_bt B n k)) : g_nd B n k = g_nd B n (1 + k) := by
  have hk : k < n := g_bt_in (B := B) (by have := h.1; omega)
  unfold g_nd
  rw [show n - k = (n - (1 + k)) + 1 by omega, g_ndF, if_pos h, Nat.add_comm k 1]
theorem g_nv_e {B : Nat → Int} {n k : Nat} {v : Int} (h : ¬ g_dg (g_bt B n k)) : g_nv B n k v = v := by
  unfold g_nv
  cases n - k with
  | zero => rfl
  | succ f => unfold g_nvF; rw [if_neg h]
theorem g_nv_s {B : Nat → Int} {n k : Nat} {v : Int} (h : g_dg (g_bt B n k)) : g_nv B n k v = g_nv B n (1 + k) (min 10000000 (10 * v + g_bt B n k - 48)) := by
  have hk : k < n := g_bt_in (B := B) (by have := h.1; omega)
  unfold g_nv
  rw [show n - k = (n - (1 + k)) + 1 by omega, g_nvF, if_pos h, Nat.add_comm k 1]
theorem g_nd_all {B : Nat → Int} {n : Nat} : ∀ f k, n - k < f → k ≤ n → k ≤ g_nd B n k ∧ g_nd B n k ≤ n ∧ ¬ g_dg (g_bt B n (g_nd B n k))
  | 0, _, h, _ => absurd h (Nat.not_lt_zero _)
  | f + 1, k, h, hk => by
    by_cases c : g_dg (g_bt B n k)
    · have h2 : k < n := g_bt_in (B := B) (by have := c.1; omega)
      rw [g_nd_s c]
      have q := g_nd_all (B := B) (n := n) f (1 + k) (by omega) (by omega)
      exact ⟨by omega, q.2⟩
    · rw [g_nd_e c]
      exact ⟨Nat.le_refl _, hk, c⟩
theorem g_nd_r {B : Nat → Int} {n k : Nat} (hk : k ≤ n) : k ≤ g_nd B n k ∧ g_nd B n k ≤ n := ⟨(g_nd_all _ k (Nat.lt_succ_self _) hk).1, (g_nd_all _ k (Nat.lt_succ_self _) hk).2.1⟩
theorem g_nv_r {B : Nat → Int} {n : Nat} : ∀ f k v, n - k < f → 0 ≤ v → v ≤ 10000000 → 0 ≤ g_nv B n k v ∧ g_nv B n k v ≤ 10000000
  | 0, _, _, h, _, _ => absurd h (Nat.not_lt_zero _)
  | f + 1, k, v, h, h0, h1 => by
    by_cases c : g_dg (g_bt B n k)
    · have h2 : k < n := g_bt_in (B := B) (by have := c.1; omega)
      rw [g_nv_s c]
      have := c.1
      exact g_nv_r f (1 + k) _ (by omega) (by omega) (by omega)
    · rw [g_nv_e c]
      exact ⟨h0, h1⟩
def g_neF (B : Nat → Int) (n : Nat) : Nat → Nat → Nat
  | 0, k => k
  | f + 1, k => if g_sm (g_bt B n k) then g_neF B n f (k + 1) else k
/-- where the letters end that stand at k -/
def g_ne (B : Nat → Int) (n k : Nat) : Nat := g_neF B n (n - k) k
theorem g_ne_e {B : Nat → Int} {n k : Nat} (h : ¬ g_sm (g_bt B n k)) : g_ne B n k = k := by
  unfold g_ne
  cases n - k with
  | zero => rfl
  | succ f => unfold g_neF; rw [if_neg h]
theorem g_ne_s {B : Nat → Int} {n k : Nat} (h : g_sm (g_bt B n k)) : g_ne B n k = g_ne B n (1 + k) := by
  have hk : k < n := g_bt_in (B := B) (by have := h.1; omega)
  unfold g_ne
  rw [show n - k = (n - (1 + k)) + 1 by omega, g_neF, if_pos h, Nat.add_comm k 1]
theorem g_ne_all {B : Nat → Int} {n : Nat} : ∀ f k, n - k < f → k ≤ n → k ≤ g_ne B n k ∧ g_ne B n k ≤ n ∧ ¬ g_sm (g_bt B n (g_ne B n k)) ∧ ∀ j, k ≤ j → j < g_ne B n k → g_sm (g_bt B n j)
  | 0, _, h, _ => absurd h (Nat.not_lt_zero _)
  | f + 1, k, h, hk => by
    by_cases c : g_sm (g_bt B n k)
    · have h2 : k < n := g_bt_in (B := B) (by have := c.1; omega)
      rw [g_ne_s c]
      have q := g_ne_all (B := B) (n := n) f (1 + k) (by omega) (by omega)
      refine ⟨by omega, q.2.1, q.2.2.1, fun j h3 h4 => ?_⟩
      by_cases e : j = k
      · subst e; exact c
      · exact q.2.2.2 j (by omega) h4
    · rw [g_ne_e c]
      exact ⟨Nat.le_refl _, hk, c, fun j h3 h4 => by omega⟩
/-- the reference's word k: its String constant -/
def g_wi (k : Nat) : Nat := [27, 28, 29, 30, 31, 32, 33, 34, 35, 36, 37, 38, 26, 39, 40, 41, 42, 43, 44, 45, 46, 47].getD k 48
theorem g_wi_r (k : Nat) : g_wi k < 49 := by
  by_cases h : k < 22
  · have hall : ∀ k, k < 22 → g_wi k < 49 := by decide
    exact hall k h
  · unfold g_wi
    rw [List.getD_eq_getElem?_getD, List.getElem?_eq_none (by show 22 ≤ k; omega)]
    decide
/-- what the reference's parser keeps: the place, the fault and its place, codes, brackets, what was told once, which kinds have pays -/
abbrev g_PS : Type := Nat × Int × Int × Nat × Int × Int × Int
abbrev g_PS.p (s : g_PS) : Nat := s.1
abbrev g_PS.fl (s : g_PS) : Int := s.2.1
abbrev g_PS.fa (s : g_PS) : Int := s.2.2.1
abbrev g_PS.cd (s : g_PS) : Nat := s.2.2.2.1
abbrev g_PS.op (s : g_PS) : Int := s.2.2.2.2.1
abbrev g_PS.on (s : g_PS) : Int := s.2.2.2.2.2.1
abbrev g_PS.hp (s : g_PS) : Int := s.2.2.2.2.2.2
abbrev g_mk (p : Nat) (fl fa : Int) (cd : Nat) (op on hp : Int) : g_PS := (p, fl, fa, cd, op, on, hp)
def q_pz (I : q_I) (m : Nat) (a b c d e f g : Int) : q_I := fun q k => if q = m then (if k = 4 then a else if k = 6 then b else if k = 7 then c else if k = 14 then d else if k = 15 then e else if k = 16 then f else if k = 17 then g else I m k) else I q k
abbrev q_ps (I : q_I) (m : Nat) (s : g_PS) : q_I := q_pz I m (s.p : Int) s.fl s.fa (s.cd : Int) s.op s.on s.hp
section
variable {I : q_I} {m : Nat} {a b c d e f g : Int}
theorem q_pz_4 : q_pz I m a b c d e f g m 4 = a := by simp [q_pz]
theorem q_pz_6 : q_pz I m a b c d e f g m 6 = b := by simp [q_pz]
theorem q_pz_7 : q_pz I m a b c d e f g m 7 = c := by simp [q_pz]
theorem q_pz_14 : q_pz I m a b c d e f g m 14 = d := by simp [q_pz]
theorem q_pz_15 : q_pz I m a b c d e f g m 15 = e := by simp [q_pz]
theorem q_pz_16 : q_pz I m a b c d e f g m 16 = f := by simp [q_pz]
theorem q_pz_17 : q_pz I m a b c d e f g m 17 = g := by simp [q_pz]
theorem q_pz_a {q k : Nat} (h : q ≠ m) : q_pz I m a b c d e f g q k = I q k := if_neg h
theorem q_pz_k {k : Nat} (h : k ≠ 4 ∧ k ≠ 6 ∧ k ≠ 7 ∧ k ≠ 14 ∧ k ≠ 15 ∧ k ≠ 16 ∧ k ≠ 17) : q_pz I m a b c d e f g m k = I m k := by
  unfold q_pz
  rw [if_pos rfl, if_neg h.1, if_neg h.2.1, if_neg h.2.2.1, if_neg h.2.2.2.1, if_neg h.2.2.2.2.1, if_neg h.2.2.2.2.2.1, if_neg h.2.2.2.2.2.2]
theorem q_pz_w4 {v : Int} : u2 (q_pz I m a b c d e f g) m 4 v = q_pz I m v b c d e f g := by
  funext q k; unfold u2 q_pz
  by_cases e1 : q = m <;> by_cases e4 : k = 4 <;> simp_all
theorem q_pz_w6 {v : Int} : u2 (q_pz I m a b c d e f g) m 6 v = q_pz I m a v c d e f g := by
  funext q k; unfold u2 q_pz
  by_cases e1 : q = m <;> by_cases e4 : k = 6 <;> simp_all
theorem q_pz_w7 {v : Int} : u2 (q_pz I m a b c d e f g) m 7 v = q_pz I m a b v d e f g := by
  funext q k; unfold u2 q_pz
  by_cases e1 : q = m <;> by_cases e4 : k = 7 <;> simp_all
theorem q_pz_w14 {v : Int} : u2 (q_pz I m a b c d e f g) m 14 v = q_pz I m a b c v e f g := by
  funext q k; unfold u2 q_pz
  by_cases e1 : q = m <;> by_cases e4 : k = 14 <;> simp_all
theorem q_pz_w15 {v : Int} : u2 (q_pz I m a b c d e f g) m 15 v = q_pz I m a b c d v f g := by
  funext q k; unfold u2 q_pz
  by_cases e1 : q = m <;> by_cases e4 : k = 15 <;> simp_all
theorem q_pz_w16 {v : Int} : u2 (q_pz I m a b c d e f g) m 16 v = q_pz I m a b c d e v g := by
  funext q k; unfold u2 q_pz
  by_cases e1 : q = m <;> by_cases e4 : k = 16 <;> simp_all
theorem q_pz_w17 {v : Int} : u2 (q_pz I m a b c d e f g) m 17 v = q_pz I m a b c d e f v := by
  funext q k; unfold u2 q_pz
  by_cases e1 : q = m <;> by_cases e4 : k = 17 <;> simp_all
end
section
variable {I : q_I} {m : Nat} {s : g_PS}
theorem q_ps_4 : q_ps I m s m 4 = (s.p : Int) := q_pz_4
theorem q_ps_6 : q_ps I m s m 6 = s.fl := q_pz_6
theorem q_ps_7 : q_ps I m s m 7 = s.fa := q_pz_7
theorem q_ps_14 : q_ps I m s m 14 = (s.cd : Int) := q_pz_14
theorem q_ps_15 : q_ps I m s m 15 = s.op := q_pz_15
theorem q_ps_16 : q_ps I m s m 16 = s.on := q_pz_16
theorem q_ps_17 : q_ps I m s m 17 = s.hp := q_pz_17
theorem q_ps_a {q k : Nat} (h : q ≠ m) : q_ps I m s q k = I q k := q_pz_a h
theorem q_ps_k {k : Nat} (h : k ≠ 4 ∧ k ≠ 6 ∧ k ≠ 7 ∧ k ≠ 14 ∧ k ≠ 15 ∧ k ≠ 16 ∧ k ≠ 17) : q_ps I m s m k = I m k := q_pz_k h
theorem q_ps_w4 {v : Int} {x : Nat} (h : v = x) : u2 (q_ps I m s) m 4 v = q_ps I m (g_mk x s.fl s.fa s.cd s.op s.on s.hp) := by subst h; exact q_pz_w4
theorem q_ps_w6 {v : Int} : u2 (q_ps I m s) m 6 v = q_ps I m (g_mk s.p v s.fa s.cd s.op s.on s.hp) := q_pz_w6
theorem q_ps_w7 {v : Int} : u2 (q_ps I m s) m 7 v = q_ps I m (g_mk s.p s.fl v s.cd s.op s.on s.hp) := q_pz_w7
theorem q_ps_w14 {v : Int} {x : Nat} (h : v = x) : u2 (q_ps I m s) m 14 v = q_ps I m (g_mk s.p s.fl s.fa x s.op s.on s.hp) := by subst h; exact q_pz_w14
theorem q_ps_w15 {v : Int} : u2 (q_ps I m s) m 15 v = q_ps I m (g_mk s.p s.fl s.fa s.cd v s.on s.hp) := q_pz_w15
theorem q_ps_w16 {v : Int} : u2 (q_ps I m s) m 16 v = q_ps I m (g_mk s.p s.fl s.fa s.cd s.op v s.hp) := q_pz_w16
theorem q_ps_w17 {v : Int} : u2 (q_ps I m s) m 17 v = q_ps I m (g_mk s.p s.fl s.fa s.cd s.op s.on v) := q_pz_w17
end
/-- the bytes that were fed -/
def q_BT (I : q_I) (m : Nat) (B : Nat → Int) (n : Nat) : Prop := I m 3 = (n : Int) ∧ n ≤ 600 ∧ (∀ k, k < n → I (m + 2) k = B k) ∧ ∀ k, 0 ≤ B k ∧ B k ≤ 255
theorem q_BT.ps {I : q_I} {m n : Nat} {B : Nat → Int} (h : q_BT I m B n) (s : g_PS) : q_BT (q_ps I m s) m B n :=
  ⟨(q_ps_k (by decide)).trans h.1, h.2.1, fun k hk => (q_ps_a (by omega)).trans (h.2.2.1 k hk), h.2.2.2⟩
theorem g_bt_r {I : q_I} {m n : Nat} {B : Nat → Int} (h : q_BT I m B n) (k : Nat) : -1 ≤ g_bt B n k ∧ g_bt B n k ≤ 255 := by
  have := h.2.2.2 k
  unfold g_bt
  split <;> omega
set_option maxRecDepth 100000 in
theorem mX8_byteAtB {G : q_G} {sz : Nat} {T : q_T} {I L : q_I} {P : q_P} {Q : q_Q} {m : Nat} {k n : Nat} {B : Nat → Int} (hS : q_SM T P m) (hB : q_BT I m B n) (hk : k < 100000) (k0 : Q (.inl (some (qI (g_bt B n k)))) sz T I L P) : qC G 0 0 0 YX8_byteAt [.ref m, qI (k : Int)] sz T I L P Q := by
  refine qC_of (by decide +kernel) rfl rfl (Nat.le_of_ble_eq_true rfl) (fun F hF _ _ => ?_)
  refine q_iload_n hF 1 rfl rfl dX8_byteAt_0 ?_
  refine q_aload_n hF 0 rfl rfl dX8_byteAt_1 ?_
  refine q_getIv hF (z := (n : Int)) fl_RX8_62 hS.t0 hB.1 dX8_byteAt_2 ?_
  refine q_icmplt hF (by have := hB.2.1; omega) (by have := hB.2.1; omega) dX8_byteAt_5 (fun c5 => ?_) (fun c5 => ?_)
  · refine q_aload_n hF 0 rfl rfl dX8_byteAt_12 ?_
    refine q_getA hF fl_RX8_17 rfl hS.t0 hS.p8 dX8_byteAt_13 ?_
    refine q_iload_n hF 1 rfl rfl dX8_byteAt_16 ?_
    refine q_ialoadv hF (z := B k) (n := 600) k hS.t2 rfl (by have := hB.2.1; omega) (by decide) (hB.2.2.1 _ (by omega)) dX8_byteAt_17 ?_
    refine q_ireturn hF rfl dX8_byteAt_18 ?_
    rw [show (g_bt B n k) = (B k) from by unfold g_bt; first | exact if_pos (by omega) | exact if_neg (by omega)] at k0; exact k0
  · refine q_iconst hF dX8_byteAt_8 ?_
    refine q_goto hF dX8_byteAt_9 ?_
    refine q_ireturn hF rfl dX8_byteAt_18 ?_
    rw [show (g_bt B n k) = (-1) from by unfold g_bt; first | exact if_pos (by omega) | exact if_neg (by omega)] at k0; exact k0
set_option maxRecDepth 100000 in
theorem mX8_fineP {G : q_G} {sz : Nat} {T : q_T} {I L : q_I} {P : q_P} {Q : q_Q} {m : Nat}  {s : g_PS}  (hS : q_SM T P m) (hr : -2147483648 ≤ s.fl ∧ s.fl < 2147483648) (k0 : Q (.inl (some (qI (q_b (s.fl = 0))))) sz T (q_ps I m s) L P) : qC G 0 0 0 YX8_fine [.ref m] sz T (q_ps I m s) L P Q := by
  refine qC_of (by decide +kernel) rfl rfl (Nat.le_of_ble_eq_true rfl) (fun F hF _ _ => ?_)
  refine q_aload_n hF 0 rfl rfl dX8_fine_0 ?_
  refine q_getIv hF (z := s.fl) fl_RX8_72 hS.t0 q_ps_6 dX8_fine_1 ?_
  refine q_ifne hF (by omega) dX8_fine_4 (fun c4 => ?_) (fun c4 => ?_)
  · refine q_iconst hF dX8_fine_11 ?_
    refine q_zreturn hF (by decide) rfl dX8_fine_12 ?_
    rw [q_b_f (c := s.fl = 0) (by omega)] at k0; exact k0
  · refine q_iconst hF dX8_fine_7 ?_
    refine q_goto hF dX8_fine_8 ?_
    refine q_zreturn hF (by decide) rfl dX8_fine_12 ?_
    rw [q_b_t (c := s.fl = 0) (by omega)] at k0; exact k0
set_option maxRecDepth 100000 in
theorem mX8_wrongP {G : q_G} {sz : Nat} {T : q_T} {I L : q_I} {P : q_P} {Q : q_Q} {m : Nat} {w : Int} {x : Int}  {s : g_PS}  (hS : q_SM T P m) (hSA : q_A G m) (hr : -2147483648 ≤ s.fl ∧ s.fl < 2147483648) (k0 : s.fl ≠ 0 → Q (.inl none) sz T (q_ps I m s) L P) (k1 : s.fl = 0 → Q (.inl none) sz T (q_ps I m (g_mk s.p w x s.cd s.op s.on s.hp)) L P) : qC G 0 0 0 YX8_wrong [.ref m, qI w, qI x] sz T (q_ps I m s) L P Q := by
  refine qC_of (by decide +kernel) rfl rfl (Nat.le_of_ble_eq_true rfl) (fun F hF _ _ => ?_)
  refine q_aload_n hF 0 rfl rfl dX8_wrong_0 ?_
  refine q_getIv hF (z := s.fl) fl_RX8_72 hS.t0 q_ps_6 dX8_wrong_1 ?_
  refine q_ifne hF (by omega) dX8_wrong_4 (fun c4 => ?_) (fun c4 => ?_)
  · refine q_return hF rfl dX8_wrong_17 ?_
    exact k0 c4
  · refine q_aload_n hF 0 rfl rfl dX8_wrong_7 ?_
    refine q_iload_n hF 1 rfl rfl dX8_wrong_8 ?_
    refine q_putI hF fl_RX8_72 hS.t0 hSA dX8_wrong_9 ?_
    rw [q_ps_w6]
    refine q_aload_n hF 0 rfl rfl dX8_wrong_12 ?_
    refine q_iload_n hF 2 rfl rfl dX8_wrong_13 ?_
    refine q_putI hF fl_RX8_75 hS.t0 hSA dX8_wrong_14 ?_
    rw [q_ps_w7]
    refine q_return hF rfl dX8_wrong_17 ?_
    exact k1 c4
theorem g_bt_32 {I : q_I} {m n : Nat} {B : Nat → Int} (h : q_BT I m B n) (k : Nat) : -2147483648 ≤ g_bt B n k ∧ g_bt B n k < 2147483648 := by have := g_bt_r h k; omega
theorem mX8_wrongA {G : q_G} {sz : Nat} {T : q_T} {I L : q_I} {P : q_P} {Q : q_Q} {m : Nat} {w x : Int} {s : g_PS} (hS : q_SM T P m) (hSA : q_A G m) (hfl : s.fl = 0) (k0 : Q (.inl none) sz T (q_ps I m (g_mk s.p w x s.cd s.op s.on s.hp)) L P) : qC G 0 0 0 YX8_wrong [.ref m, qI w, qI x] sz T (q_ps I m s) L P Q := mX8_wrongP hS hSA (by omega) (fun h => absurd hfl h) (fun _ => k0)
theorem mX8_wrong0 {G : q_G} {sz : Nat} {T : q_T} {I L : q_I} {P : q_P} {Q : q_Q} {m : Nat} {w x : Int} {s : g_PS} (hS : q_SM T P m) (hSA : q_A G m) (her : s.fl ≠ 0) (hr : -2147483648 ≤ s.fl ∧ s.fl < 2147483648) (k0 : Q (.inl none) sz T (q_ps I m s) L P) : qC G 0 0 0 YX8_wrong [.ref m, qI w, qI x] sz T (q_ps I m s) L P Q := mX8_wrongP hS hSA hr (fun _ => k0) (fun h => absurd h her)
theorem mX8_fineA {G : q_G} {sz : Nat} {T : q_T} {I L : q_I} {P : q_P} {Q : q_Q} {m : Nat} {s : g_PS} (hS : q_SM T P m) (hfl : s.fl = 0) (k0 : Q (.inl (some (qI 1))) sz T (q_ps I m s) L P) : qC G 0 0 0 YX8_fine [.ref m] sz T (q_ps I m s) L P Q := mX8_fineP hS (by omega) (by rw [q_b_t hfl]; exact k0)
theorem mX8_fine0 {G : q_G} {sz : Nat} {T : q_T} {I L : q_I} {P : q_P} {Q : q_Q} {m : Nat} {s : g_PS} (hS : q_SM T P m) (her : s.fl ≠ 0) (hr : -2147483648 ≤ s.fl ∧ s.fl < 2147483648) (k0 : Q (.inl (some (qI 0))) sz T (q_ps I m s) L P) : qC G 0 0 0 YX8_fine [.ref m] sz T (q_ps I m s) L P Q := mX8_fineP hS hr (by rw [q_b_f her]; exact k0)
set_option maxRecDepth 100000 in
theorem lX8_here {G : q_G} {F : q_F} {h : Nat} {Q : q_Q} {kc ks sz : Nat} {T : q_T} {m n x : Nat} {B : Nat → Int} {s : g_PS} {I L : q_I} {P : q_P} (hF : q_ok G F YX8_here h) (h1 : 1 ≤ h) (hS : q_SM T P m) (hSA : q_A G m) (hB : q_BT I m B n) (k0 : Q (.inl (some (qI (g_bt B n x)))) sz T (q_ps I m (g_mk x s.fl s.fa s.cd s.op s.on s.hp)) L P) : ∀ (w p : Nat), n - p < w → p ≤ n → g_sk B n p = x → qX G F Q kc ks 0 [(0, .ref m)] [] sz T (q_ps I m (g_mk p s.fl s.fa s.cd s.op s.on s.hp)) L P := by
  intro w
  induction w with
  | zero => intro p hn; exact absurd hn (Nat.not_lt_zero _)
  | succ w ih =>
    intro p hn hp hx
    have hn6 := hB.2.1
    refine q_aload_n hF 0 rfl rfl dX8_here_0 ?_
    refine q_aload_n hF 0 rfl rfl dX8_here_1 ?_
    refine q_getIv hF (z := (p : Int)) fl_RX8_65 hS.t0 q_ps_4 dX8_here_2 ?_
    refine q_callV (kc := kc) (ks := ks) (mc' := 0) (ms' := 0) (h' := 0) (st := []) hF vl_RX8_68 rfl [qI (p : Int)] rfl rfl hS.t0 (by omega) (Nat.le_of_ble_eq_true rfl) dX8_here_5 ?_
    refine mX8_byteAtB (B := B) (n := n) (k := p) hS (hB.ps _) (by omega) ?_
    refine q_bipush hF (n := 32) rfl dX8_here_8 ?_
    refine q_icmpne hF (g_bt_32 hB _) (by decide) dX8_here_10 (fun c10 => ?_) (fun c10 => ?_)
    · refine q_aload_n hF 0 rfl rfl dX8_here_26 ?_
      refine q_aload_n hF 0 rfl rfl dX8_here_27 ?_
      refine q_getIv hF (z := (p : Int)) fl_RX8_65 hS.t0 q_ps_4 dX8_here_28 ?_
      refine q_callV (kc := kc) (ks := ks) (mc' := 0) (ms' := 0) (h' := 0) (st := []) hF vl_RX8_68 rfl [qI (p : Int)] rfl rfl hS.t0 (by omega) (Nat.le_of_ble_eq_true rfl) dX8_here_31 ?_
      refine mX8_byteAtB (B := B) (n := n) (k := p) hS (hB.ps _) (by omega) ?_
      refine q_ireturn hF rfl dX8_here_34 ?_
      rw [g_sk_e c10] at hx
      subst hx
      exact k0
    · refine q_aload_n hF 0 rfl rfl dX8_here_13 ?_
      refine q_dup hF rfl dX8_here_14 ?_
      refine q_getIv hF (z := (p : Int)) fl_RX8_65 hS.t0 q_ps_4 dX8_here_15 ?_
      refine q_iconst hF dX8_here_18 ?_
      refine q_iadd hF dX8_here_19 ?_
      refine q_putI hF fl_RX8_65 hS.t0 hSA dX8_here_20 ?_
      rw [q_ps_w4 (x := 1 + p) (by omega)]
      refine q_goto hF dX8_here_23 ?_
      refine q_sub [0] rfl ?_
      exact ih (1 + p) (by have := g_bt_in (B := B) (n := n) (k := p) (by rw [c10]; decide); omega) (by have := g_bt_in (B := B) (n := n) (k := p) (by rw [c10]; decide); omega) (by rw [← g_sk_s c10]; exact hx)
theorem mX8_hereP {G : q_G} {sz : Nat} {T : q_T} {I L : q_I} {P : q_P} {Q : q_Q} {m n : Nat} {s : g_PS} {B : Nat → Int} (hS : q_SM T P m) (hSA : q_A G m) (hB : q_BT I m B n) (hp : s.p ≤ n) (k0 : Q (.inl (some (qI (g_bt B n (g_sk B n s.p))))) sz T (q_ps I m (g_mk (g_sk B n s.p) s.fl s.fa s.cd s.op s.on s.hp)) L P) : qC G 1 0 0 YX8_here [.ref m] sz T (q_ps I m s) L P Q := by
  refine qC_of (by decide +kernel) rfl rfl (Nat.le_of_ble_eq_true rfl) (fun F hF _ _ => ?_)
  exact lX8_here hF (by decide) hS hSA hB k0 (n - s.p + 1) s.p (Nat.lt_succ_self _) hp rfl
set_option maxRecDepth 100000 in
theorem lX8_isWord {G : q_G} {F : q_F} {h : Nat} {Q : q_Q} {kc ks sz : Nat} {T : q_T} {m n : Nat} {B : Nat → Int} {s : g_PS} {I L : q_I} {P : q_P} {i a : Nat} (h4 : 4 ≤ h) (hi : i < 49) (ha : a ≤ n) (hF : q_ok G F YX8_isWord h) (hS : q_SM T P m) (hSA : q_A G m) (hB : q_BT I m B n) (k0 : Q (.inl (some (qI (q_b (g_isW B n i a))))) sz T (q_ps I m (g_mk a s.fl s.fa s.cd s.op s.on s.hp)) L P) : ∀ (w : Nat) (k : Nat), g_len i - k < w → (k ≤ g_len i) → (∀ j, j < k → g_bt B n (a + j) = g_ch i j) → qX G F Q kc ks 7 [(2, qI (k : Int)), (0, .ref m), (1, .ref (q_KS G i))] [] sz T (q_ps I m (g_mk a s.fl s.fa s.cd s.op s.on s.hp)) L P := by
  intro w
  induction w with
  | zero => intro k hn; exact absurd hn (Nat.not_lt_zero _)
  | succ w ih =>
    intro k hn hk hall
    have hn6 := hB.2.1
    have hl := g_len_r hi
    refine q_iload_n hF 0 rfl rfl dX8_isWord_7 ?_
    refine q_aload_n hF 2 rfl rfl dX8_isWord_8 ?_
    refine q_callVO (kc := kc) (ks := ks) (mc' := 0) (ms' := 0) (h' := 1) (st := [qI (k : Int)]) hF vo_RX8_82 rfl [] rfl rfl (q_O_K hi) (by omega) (Nat.le_of_ble_eq_true rfl) dX8_isWord_9 ?_
    refine mJ0_length_8abf5 (i := i) hi ?_
    refine q_icmpge hF (by omega) (by omega) dX8_isWord_12 (fun c12 => ?_) (fun c12 => ?_)
    · refine q_iload_n hF 0 rfl rfl dX8_isWord_39 ?_
      refine q_aload_n hF 2 rfl rfl dX8_isWord_40 ?_
      refine q_callVO (kc := kc) (ks := ks) (mc' := 0) (ms' := 0) (h' := 1) (st := [qI (k : Int)]) hF vo_RX8_82 rfl [] rfl rfl (q_O_K hi) (by omega) (Nat.le_of_ble_eq_true rfl) dX8_isWord_41 ?_
      refine mJ0_length_8abf5 (i := i) hi ?_
      refine q_icmpne hF (by omega) (by omega) dX8_isWord_44 (fun c44 => ?_) (fun c44 => ?_)
      · refine q_iconst hF dX8_isWord_67 ?_
        refine q_zreturn hF (by decide) rfl dX8_isWord_68 ?_
        rw [q_b_f (c := g_isW B n i a) (fun h => by first | omega | exact absurd (h.1 k (by omega)) c30 | (have h2 := h.2; rw [show g_len i = k by omega] at h2; exact absurd (by assumption) h2))] at k0; exact k0
      · refine q_aload_n hF 1 rfl rfl dX8_isWord_47 ?_
        refine q_aload_n hF 1 rfl rfl dX8_isWord_48 ?_
        refine q_getIv hF (z := (a : Int)) fl_RX8_65 hS.t0 q_ps_4 dX8_isWord_49 ?_
        refine q_iload_n hF 0 rfl rfl dX8_isWord_52 ?_
        refine q_iadd hF dX8_isWord_53 ?_
        refine q_callV (kc := kc) (ks := ks) (mc' := 0) (ms' := 0) (h' := 0) (st := []) hF vl_RX8_68 rfl [qI ((a : Int) + (k : Int))] rfl rfl hS.t0 (by omega) (Nat.le_of_ble_eq_true rfl) dX8_isWord_54 ?_
        refine mX8_byteAtB (B := B) (n := n) (k := a + k) hS (hB.ps _) (by omega) ?_
        refine q_callS (kc := kc) (ks := ks) (mc' := 0) (ms' := 0) (h' := 0) (st := []) hF sl_RX8_91 rfl [qI (g_bt B n (a + k))] rfl rfl (by omega) (Nat.le_of_ble_eq_true rfl) dX8_isWord_57 ?_
        refine mX8_isSmall (g_bt_32 hB _) ?_
        refine q_ifne_b hF dX8_isWord_60 (fun c60 => ?_) (fun c60 => ?_)
        · refine q_iconst hF dX8_isWord_67 ?_
          refine q_zreturn hF (by decide) rfl dX8_isWord_68 ?_
          rw [q_b_f (c := g_isW B n i a) (fun h => by first | omega | exact absurd (h.1 k (by omega)) c30 | (have h2 := h.2; rw [show g_len i = k by omega] at h2; exact absurd (by assumption) h2))] at k0; exact k0
        · refine q_iconst hF dX8_isWord_63 ?_
          refine q_goto hF dX8_isWord_64 ?_
          refine q_zreturn hF (by decide) rfl dX8_isWord_68 ?_
          rw [q_b_t (c := g_isW B n i a) ⟨fun j hj => hall j (by omega), by rw [show g_len i = k by omega]; assumption⟩] at k0; exact k0
    · refine q_aload_n hF 1 rfl rfl dX8_isWord_15 ?_
      refine q_aload_n hF 1 rfl rfl dX8_isWord_16 ?_
      refine q_getIv hF (z := (a : Int)) fl_RX8_65 hS.t0 q_ps_4 dX8_isWord_17 ?_
      refine q_iload_n hF 0 rfl rfl dX8_isWord_20 ?_
      refine q_iadd hF dX8_isWord_21 ?_
      refine q_callV (kc := kc) (ks := ks) (mc' := 0) (ms' := 0) (h' := 0) (st := []) hF vl_RX8_68 rfl [qI ((a : Int) + (k : Int))] rfl rfl hS.t0 (by omega) (Nat.le_of_ble_eq_true rfl) dX8_isWord_22 ?_
      refine mX8_byteAtB (B := B) (n := n) (k := a + k) hS (hB.ps _) (by omega) ?_
      refine q_aload_n hF 2 rfl rfl dX8_isWord_25 ?_
      refine q_iload_n hF 0 rfl rfl dX8_isWord_26 ?_
      refine q_callVO (kc := kc) (ks := ks) (mc' := 0) (ms' := 0) (h' := 3) (st := [qI (g_bt B n (a + k))]) hF vo_RX8_87 rfl [qI (k : Int)] rfl rfl (q_O_K hi) (by omega) (Nat.le_of_ble_eq_true rfl) dX8_isWord_27 ?_
      refine mJ0_charAt_5068e (k := k) (i := i) hi (by omega) ?_
      refine q_icmpne hF (g_bt_32 hB _) (by have := g_ch_r (k := k) hi (by omega); omega) dX8_isWord_30 (fun c30 => ?_) (fun c30 => ?_)
      · refine q_iload_n hF 0 rfl rfl dX8_isWord_39 ?_
        refine q_aload_n hF 2 rfl rfl dX8_isWord_40 ?_
        refine q_callVO (kc := kc) (ks := ks) (mc' := 0) (ms' := 0) (h' := 1) (st := [qI (k : Int)]) hF vo_RX8_82 rfl [] rfl rfl (q_O_K hi) (by omega) (Nat.le_of_ble_eq_true rfl) dX8_isWord_41 ?_
        refine mJ0_length_8abf5 (i := i) hi ?_
        refine q_icmpne hF (by omega) (by omega) dX8_isWord_44 (fun c44 => ?_) (fun c44 => ?_)
        · refine q_iconst hF dX8_isWord_67 ?_
          refine q_zreturn hF (by decide) rfl dX8_isWord_68 ?_
          rw [q_b_f (c := g_isW B n i a) (fun h => by first | omega | exact absurd (h.1 k (by omega)) c30 | (have h2 := h.2; rw [show g_len i = k by omega] at h2; exact absurd (by assumption) h2))] at k0; exact k0
        · refine q_aload_n hF 1 rfl rfl dX8_isWord_47 ?_
          refine q_aload_n hF 1 rfl rfl dX8_isWord_48 ?_
          refine q_getIv hF (z := (a : Int)) fl_RX8_65 hS.t0 q_ps_4 dX8_isWord_49 ?_
          refine q_iload_n hF 0 rfl rfl dX8_isWord_52 ?_
          refine q_iadd hF dX8_isWord_53 ?_
          refine q_callV (kc := kc) (ks := ks) (mc' := 0) (ms' := 0) (h' := 0) (st := []) hF vl_RX8_68 rfl [qI ((a : Int) + (k : Int))] rfl rfl hS.t0 (by omega) (Nat.le_of_ble_eq_true rfl) dX8_isWord_54 ?_
          refine mX8_byteAtB (B := B) (n := n) (k := a + k) hS (hB.ps _) (by omega) ?_
          refine q_callS (kc := kc) (ks := ks) (mc' := 0) (ms' := 0) (h' := 0) (st := []) hF sl_RX8_91 rfl [qI (g_bt B n (a + k))] rfl rfl (by omega) (Nat.le_of_ble_eq_true rfl) dX8_isWord_57 ?_
          refine mX8_isSmall (g_bt_32 hB _) ?_
          refine q_ifne_b hF dX8_isWord_60 (fun c60 => ?_) (fun c60 => ?_)
          · refine q_iconst hF dX8_isWord_67 ?_
            refine q_zreturn hF (by decide) rfl dX8_isWord_68 ?_
            rw [q_b_f (c := g_isW B n i a) (fun h => by first | omega | exact absurd (h.1 k (by omega)) c30 | (have h2 := h.2; rw [show g_len i = k by omega] at h2; exact absurd (by assumption) h2))] at k0; exact k0
          · refine q_iconst hF dX8_isWord_63 ?_
            refine q_goto hF dX8_isWord_64 ?_
            refine q_zreturn hF (by decide) rfl dX8_isWord_68 ?_
            rw [q_b_t (c := g_isW B n i a) ⟨fun j hj => hall j (by omega), by rw [show g_len i = k by omega]; assumption⟩] at k0; exact k0
      · refine q_iinc hF (z' := ((1 + k : Nat) : Int)) (ls' := [(2, qI ((1 + k : Nat) : Int)), (0, .ref m), (1, .ref (q_KS G i))]) 0 rfl (by first | rfl | omega) (by decide) rfl dX8_isWord_33 ?_
        refine q_goto hF dX8_isWord_36 ?_
        exact ih (1 + k) (by omega) (by omega) (fun j hj => by
          by_cases e : j = k
          · subst e; exact c30
          · exact hall j (by omega))
set_option maxRecDepth 100000 in
theorem mX8_isWordP {G : q_G} {sz : Nat} {T : q_T} {I L : q_I} {P : q_P} {Q : q_Q} {m : Nat} {i : Nat} {s : g_PS} {B : Nat → Int} {n : Nat} (hS : q_SM T P m) (hSA : q_A G m) (hB : q_BT I m B n) (hi : i < 49) (hp : s.p ≤ n) (k0 : Q (.inl (some (qI (q_b (g_isW B n i (g_sk B n s.p)))))) sz T (q_ps I m (g_mk (g_sk B n s.p) s.fl s.fa s.cd s.op s.on s.hp)) L P) : qC G 4 0 0 YX8_isWord [.ref m, .ref (q_KS G i)] sz T (q_ps I m s) L P Q := by
  refine qC_of (by decide +kernel) rfl rfl (Nat.le_of_ble_eq_true rfl) (fun F hF _ _ => ?_)
  have hn6 := hB.2.1
  have hq := g_sk_r (B := B) hp
  refine q_aload_n hF 0 rfl rfl dX8_isWord_0 ?_
  refine q_callV (kc := 0) (ks := 0) (mc' := 0) (ms' := 0) (h' := 1) (st := []) hF vl_RX8_78 rfl [] rfl rfl hS.t0 (by decide) (Nat.le_of_ble_eq_true rfl) dX8_isWord_1 ?_
  refine mX8_hereP (B := B) (n := n) hS hSA hB (show s.p ≤ n by omega) ?_
  refine q_pop hF rfl dX8_isWord_4 ?_
  refine q_iconst hF dX8_isWord_5 ?_
  refine q_istore_n hF (ls' := [(2, qI 0), (0, .ref m), (1, .ref (q_KS G i))]) rfl (by decide) rfl dX8_isWord_6 ?_
  exact lX8_isWord (by decide) hi (g_sk_r (B := B) hp).2 hF hS hSA hB k0 (g_len i + 1) 0 (by omega) (by omega) (fun j hj => absurd hj (Nat.not_lt_zero _))
set_option maxRecDepth 100000 in
theorem mX8_takesP {G : q_G} {sz : Nat} {T : q_T} {I L : q_I} {P : q_P} {Q : q_Q} {m : Nat} {i : Nat} {s : g_PS} {B : Nat → Int} {n : Nat} (hS : q_SM T P m) (hSA : q_A G m) (hB : q_BT I m B n) (hi : i < 49) (hp : s.p ≤ n) (hfl : s.fl = 0) (k0 : ¬ (g_isW B n i (g_sk B n s.p)) → Q (.inl (some (qI 0))) sz T (q_ps I m (g_mk (g_sk B n s.p) s.fl s.fa s.cd s.op s.on s.hp)) L P) (k1 : g_isW B n i (g_sk B n s.p) → Q (.inl (some (qI 1))) sz T (q_ps I m (g_mk (g_len i + (g_sk B n s.p)) s.fl s.fa s.cd s.op s.on s.hp)) L P) : qC G 5 0 0 YX8_takes [.ref m, .ref (q_KS G i)] sz T (q_ps I m s) L P Q := by
  refine qC_of (by decide +kernel) rfl rfl (Nat.le_of_ble_eq_true rfl) (fun F hF _ _ => ?_)
  have hn6 := hB.2.1
  have hq := g_sk_r (B := B) hp
  refine q_aload_n hF 0 rfl rfl dX8_takes_0 ?_
  refine q_callV (kc := 0) (ks := 0) (mc' := 0) (ms' := 0) (h' := 0) (st := []) hF vl_RX8_95 rfl [] rfl rfl hS.t0 (by decide) (Nat.le_of_ble_eq_true rfl) dX8_takes_1 ?_
  refine mX8_fineA hS hfl ?_
  refine q_ifeq hF (by decide) dX8_takes_4 (fun c4 => ?_) (fun c4 => ?_)
  · exact absurd c4 (by decide)
  · refine q_aload_n hF 0 rfl rfl dX8_takes_7 ?_
    refine q_aload_n hF 1 rfl rfl dX8_takes_8 ?_
    refine q_callV (kc := 0) (ks := 0) (mc' := 0) (ms' := 0) (h' := 4) (st := []) hF vl_RX8_99 rfl [.ref (q_KS G i)] rfl rfl hS.t0 (by decide) (Nat.le_of_ble_eq_true rfl) dX8_takes_9 ?_
    refine mX8_isWordP (i := i) hS hSA hB hi (show s.p ≤ n by omega) ?_
    refine q_ifne_b hF dX8_takes_12 (fun c12 => ?_) (fun c12 => ?_)
    · refine q_aload_n hF 0 rfl rfl dX8_takes_17 ?_
      refine q_dup hF rfl dX8_takes_18 ?_
      refine q_getIv hF (z := (g_sk B n s.p : Int)) fl_RX8_65 hS.t0 q_ps_4 dX8_takes_19 ?_
      refine q_aload_n hF 1 rfl rfl dX8_takes_22 ?_
      refine q_callVO (kc := 0) (ks := 0) (mc' := 0) (ms' := 0) (h' := 1) (st := [qI (g_sk B n s.p : Int), .ref m]) hF vo_RX8_82 rfl [] rfl rfl (q_O_K hi) (by decide) (Nat.le_of_ble_eq_true rfl) dX8_takes_23 ?_
      refine mJ0_length_8abf5 (i := i) hi ?_
      refine q_iadd hF dX8_takes_26 ?_
      refine q_putI hF fl_RX8_65 hS.t0 hSA dX8_takes_27 ?_
      rw [q_ps_w4 (x := (g_len i) + (g_sk B n s.p)) (by omega)]
      refine q_iconst hF dX8_takes_30 ?_
      refine q_zreturn hF (by decide) rfl dX8_takes_31 ?_
      exact k1 c12
    · refine q_iconst hF dX8_takes_15 ?_
      refine q_zreturn hF (by decide) rfl dX8_takes_16 ?_
      exact k0 c12
set_option maxRecDepth 100000 in
theorem mX8_takes0 {G : q_G} {sz : Nat} {T : q_T} {I L : q_I} {P : q_P} {Q : q_Q} {m : Nat} {i : Nat} {s : g_PS}  (hS : q_SM T P m) (hSA : q_A G m) (her : s.fl ≠ 0) (hrf : -2147483648 ≤ s.fl ∧ s.fl < 2147483648) (k0 : Q (.inl (some (qI 0))) sz T (q_ps I m s) L P) : qC G 5 0 0 YX8_takes [.ref m, .ref (q_KS G i)] sz T (q_ps I m s) L P Q := by
  refine qC_of (by decide +kernel) rfl rfl (Nat.le_of_ble_eq_true rfl) (fun F hF _ _ => ?_)
  refine q_aload_n hF 0 rfl rfl dX8_takes_0 ?_
  refine q_callV (kc := 0) (ks := 0) (mc' := 0) (ms' := 0) (h' := 0) (st := []) hF vl_RX8_95 rfl [] rfl rfl hS.t0 (by decide) (Nat.le_of_ble_eq_true rfl) dX8_takes_1 ?_
  refine mX8_fine0 hS her (show -2147483648 ≤ s.fl ∧ s.fl < 2147483648 by first | decide | omega | assumption) ?_
  refine q_ifeq hF (by decide) dX8_takes_4 (fun c4 => ?_) (fun c4 => ?_)
  · refine q_iconst hF dX8_takes_15 ?_
    refine q_zreturn hF (by decide) rfl dX8_takes_16 ?_
    exact k0
  · exact absurd c4 (by decide)
set_option maxRecDepth 100000 in
theorem mX8_mustP {G : q_G} {sz : Nat} {T : q_T} {I L : q_I} {P : q_P} {Q : q_Q} {m : Nat} {i : Nat} {s : g_PS} {B : Nat → Int} {n : Nat} (hS : q_SM T P m) (hSA : q_A G m) (hB : q_BT I m B n) (hi : i < 49) (hp : s.p ≤ n) (hfl : s.fl = 0) (k0 : g_isW B n i (g_sk B n s.p) → Q (.inl none) sz T (q_ps I m (g_mk (g_len i + (g_sk B n s.p)) s.fl s.fa s.cd s.op s.on s.hp)) L P) (k1 : ¬ (g_isW B n i (g_sk B n s.p)) → Q (.inl none) sz T (q_ps I m (g_mk (g_sk B n s.p) 1 ((g_sk B n s.p : Nat) : Int) s.cd s.op s.on s.hp)) L P) : qC G 6 0 0 YX8_must [.ref m, .ref (q_KS G i)] sz T (q_ps I m s) L P Q := by
  refine qC_of (by decide +kernel) rfl rfl (Nat.le_of_ble_eq_true rfl) (fun F hF _ _ => ?_)
  have hn6 := hB.2.1
  have hq := g_sk_r (B := B) hp
  refine q_aload_n hF 0 rfl rfl dX8_must_0 ?_
  refine q_callV (kc := 0) (ks := 0) (mc' := 0) (ms' := 0) (h' := 0) (st := []) hF vl_RX8_95 rfl [] rfl rfl hS.t0 (by decide) (Nat.le_of_ble_eq_true rfl) dX8_must_1 ?_
  refine mX8_fineA hS hfl ?_
  refine q_ifeq hF (by decide) dX8_must_4 (fun c4 => ?_) (fun c4 => ?_)
  · exact absurd c4 (by decide)
  · refine q_aload_n hF 0 rfl rfl dX8_must_7 ?_
    refine q_aload_n hF 1 rfl rfl dX8_must_8 ?_
    refine q_callV (kc := 0) (ks := 0) (mc' := 0) (ms' := 0) (h' := 5) (st := []) hF vl_RX8_103 rfl [.ref (q_KS G i)] rfl rfl hS.t0 (by decide) (Nat.le_of_ble_eq_true rfl) dX8_must_9 ?_
    refine mX8_takesP (i := i) hS hSA hB hi (show s.p ≤ n by omega) hfl (fun c9_0_2 => ?_) (fun c9_0_2 => ?_)
    · refine q_ifne hF (by decide) dX8_must_12 (fun c12 => ?_) (fun c12 => ?_)
      · exact absurd c12 (by decide)
      · refine q_aload_n hF 0 rfl rfl dX8_must_15 ?_
        refine q_iconst hF dX8_must_16 ?_
        refine q_aload_n hF 0 rfl rfl dX8_must_17 ?_
        refine q_getIv hF (z := (g_sk B n s.p : Int)) fl_RX8_65 hS.t0 q_ps_4 dX8_must_18 ?_
        refine q_callV (kc := 0) (ks := 0) (mc' := 0) (ms' := 0) (h' := 0) (st := []) hF vl_RX8_106 rfl [qI 1, qI (g_sk B n s.p : Int)] rfl rfl hS.t0 (by decide) (Nat.le_of_ble_eq_true rfl) dX8_must_21 ?_
        refine mX8_wrongA hS hSA hfl ?_
        refine q_return hF rfl dX8_must_24 ?_
        exact k1 c9_0_2
    · refine q_ifne hF (by decide) dX8_must_12 (fun c12 => ?_) (fun c12 => ?_)
      · refine q_return hF rfl dX8_must_24 ?_
        exact k0 c9_0_2
      · exact absurd c12 (by decide)
set_option maxRecDepth 100000 in
theorem mX8_must0 {G : q_G} {sz : Nat} {T : q_T} {I L : q_I} {P : q_P} {Q : q_Q} {m : Nat} {i : Nat} {s : g_PS}  (hS : q_SM T P m) (hSA : q_A G m) (her : s.fl ≠ 0) (hrf : -2147483648 ≤ s.fl ∧ s.fl < 2147483648) (k0 : Q (.inl none) sz T (q_ps I m s) L P) : qC G 6 0 0 YX8_must [.ref m, .ref (q_KS G i)] sz T (q_ps I m s) L P Q := by
  refine qC_of (by decide +kernel) rfl rfl (Nat.le_of_ble_eq_true rfl) (fun F hF _ _ => ?_)
  refine q_aload_n hF 0 rfl rfl dX8_must_0 ?_
  refine q_callV (kc := 0) (ks := 0) (mc' := 0) (ms' := 0) (h' := 0) (st := []) hF vl_RX8_95 rfl [] rfl rfl hS.t0 (by decide) (Nat.le_of_ble_eq_true rfl) dX8_must_1 ?_
  refine mX8_fine0 hS her (show -2147483648 ≤ s.fl ∧ s.fl < 2147483648 by first | decide | omega | assumption) ?_
  refine q_ifeq hF (by decide) dX8_must_4 (fun c4 => ?_) (fun c4 => ?_)
  · refine q_return hF rfl dX8_must_24 ?_
    exact k0
  · exact absurd c4 (by decide)
set_option maxRecDepth 100000 in
theorem mX8_signP {G : q_G} {sz : Nat} {T : q_T} {I L : q_I} {P : q_P} {Q : q_Q} {m : Nat} {c : Int}  {s : g_PS} {B : Nat → Int} {n : Nat} (hS : q_SM T P m) (hSA : q_A G m) (hB : q_BT I m B n) (hc : 0 ≤ c ∧ c ≤ 255) (hp : s.p ≤ n) (hfl : s.fl = 0) (k0 : g_bt B n (g_sk B n s.p) = c → Q (.inl none) sz T (q_ps I m (g_mk (1 + (g_sk B n s.p)) s.fl s.fa s.cd s.op s.on s.hp)) L P) (k1 : g_bt B n (g_sk B n s.p) ≠ c → Q (.inl none) sz T (q_ps I m (g_mk (g_sk B n s.p) 1 ((g_sk B n s.p : Nat) : Int) s.cd s.op s.on s.hp)) L P) : qC G 2 0 0 YX8_sign [.ref m, qI c] sz T (q_ps I m s) L P Q := by
  refine qC_of (by decide +kernel) rfl rfl (Nat.le_of_ble_eq_true rfl) (fun F hF _ _ => ?_)
  have hn6 := hB.2.1
  have hq := g_sk_r (B := B) hp
  refine q_aload_n hF 0 rfl rfl dX8_sign_0 ?_
  refine q_callV (kc := 0) (ks := 0) (mc' := 0) (ms' := 0) (h' := 0) (st := []) hF vl_RX8_95 rfl [] rfl rfl hS.t0 (by decide) (Nat.le_of_ble_eq_true rfl) dX8_sign_1 ?_
  refine mX8_fineA hS hfl ?_
  refine q_ifne hF (by decide) dX8_sign_4 (fun c4 => ?_) (fun c4 => ?_)
  · refine q_aload_n hF 0 rfl rfl dX8_sign_8 ?_
    refine q_callV (kc := 0) (ks := 0) (mc' := 0) (ms' := 0) (h' := 1) (st := []) hF vl_RX8_78 rfl [] rfl rfl hS.t0 (by decide) (Nat.le_of_ble_eq_true rfl) dX8_sign_9 ?_
    refine mX8_hereP (B := B) (n := n) hS hSA hB (show s.p ≤ n by omega) ?_
    refine q_iload_n hF 1 rfl rfl dX8_sign_12 ?_
    refine q_icmpne hF (g_bt_32 hB _) (by omega) dX8_sign_13 (fun c13 => ?_) (fun c13 => ?_)
    · refine q_aload_n hF 0 rfl rfl dX8_sign_29 ?_
      refine q_iconst hF dX8_sign_30 ?_
      refine q_aload_n hF 0 rfl rfl dX8_sign_31 ?_
      refine q_getIv hF (z := (g_sk B n s.p : Int)) fl_RX8_65 hS.t0 q_ps_4 dX8_sign_32 ?_
      refine q_callV (kc := 0) (ks := 0) (mc' := 0) (ms' := 0) (h' := 0) (st := []) hF vl_RX8_106 rfl [qI 1, qI (g_sk B n s.p : Int)] rfl rfl hS.t0 (by decide) (Nat.le_of_ble_eq_true rfl) dX8_sign_35 ?_
      refine mX8_wrongA hS hSA hfl ?_
      refine q_return hF rfl dX8_sign_38 ?_
      exact k1 c13
    · refine q_aload_n hF 0 rfl rfl dX8_sign_16 ?_
      refine q_dup hF rfl dX8_sign_17 ?_
      refine q_getIv hF (z := (g_sk B n s.p : Int)) fl_RX8_65 hS.t0 q_ps_4 dX8_sign_18 ?_
      refine q_iconst hF dX8_sign_21 ?_
      refine q_iadd hF dX8_sign_22 ?_
      refine q_putI hF fl_RX8_65 hS.t0 hSA dX8_sign_23 ?_
      rw [q_ps_w4 (x := 1 + (g_sk B n s.p)) (by omega)]
      refine q_goto hF dX8_sign_26 ?_
      refine q_return hF rfl dX8_sign_38 ?_
      exact k0 c13
  · exact absurd c4 (by decide)
set_option maxRecDepth 100000 in
theorem mX8_sign0 {G : q_G} {sz : Nat} {T : q_T} {I L : q_I} {P : q_P} {Q : q_Q} {m : Nat} {c : Int}  {s : g_PS}  (hS : q_SM T P m) (hSA : q_A G m) (her : s.fl ≠ 0) (hrf : -2147483648 ≤ s.fl ∧ s.fl < 2147483648) (k0 : Q (.inl none) sz T (q_ps I m s) L P) : qC G 2 0 0 YX8_sign [.ref m, qI c] sz T (q_ps I m s) L P Q := by
  refine qC_of (by decide +kernel) rfl rfl (Nat.le_of_ble_eq_true rfl) (fun F hF _ _ => ?_)
  refine q_aload_n hF 0 rfl rfl dX8_sign_0 ?_
  refine q_callV (kc := 0) (ks := 0) (mc' := 0) (ms' := 0) (h' := 0) (st := []) hF vl_RX8_95 rfl [] rfl rfl hS.t0 (by decide) (Nat.le_of_ble_eq_true rfl) dX8_sign_1 ?_
  refine mX8_fine0 hS her (show -2147483648 ≤ s.fl ∧ s.fl < 2147483648 by first | decide | omega | assumption) ?_
  refine q_ifne hF (by decide) dX8_sign_4 (fun c4 => ?_) (fun c4 => ?_)
  · exact absurd c4 (by decide)
  · refine q_return hF rfl dX8_sign_7 ?_
    exact k0
set_option maxRecDepth 100000 in
theorem mX8_tellsP {G : q_G} {sz : Nat} {T : q_T} {I L : q_I} {P : q_P} {Q : q_Q} {m : Nat} {c : Int}  {s : g_PS}  {t : Nat → Int} (hS : q_SM T P m) (hSA : q_A G m) (hc : -2147483648 ≤ c ∧ c < 2147483648) (hcd : s.cd < 900) (hfl : s.fl = 0) (k0 : Q (.inl none) sz T (q_ps I m (g_mk s.p s.fl s.fa (1 + s.cd) s.op s.on s.hp)) (q_row L (m + 4) (g_up t (139 + s.cd) c)) P) : qC G 1 0 0 YX8_tells [.ref m, qI c] sz T (q_ps I m s) (q_row L (m + 4) t) P Q := by
  refine qC_of (by decide +kernel) rfl rfl (Nat.le_of_ble_eq_true rfl) (fun F hF _ _ => ?_)
  refine q_aload_n hF 0 rfl rfl dX8_tells_0 ?_
  refine q_callV (kc := 0) (ks := 0) (mc' := 0) (ms' := 0) (h' := 0) (st := []) hF vl_RX8_95 rfl [] rfl rfl hS.t0 (by decide) (Nat.le_of_ble_eq_true rfl) dX8_tells_1 ?_
  refine mX8_fineA hS hfl ?_
  refine q_ifne hF (by decide) dX8_tells_4 (fun c4 => ?_) (fun c4 => ?_)
  · refine q_aload_n hF 0 rfl rfl dX8_tells_8 ?_
    refine q_getA hF fl_RX8_24 rfl hS.t0 hS.p10 dX8_tells_9 ?_
    refine q_sipush hF (n := 139) rfl dX8_tells_12 ?_
    refine q_aload_n hF 0 rfl rfl dX8_tells_15 ?_
    refine q_getIv hF (z := (s.cd : Int)) fl_RX8_190 hS.t0 q_ps_14 dX8_tells_16 ?_
    refine q_iadd hF dX8_tells_19 ?_
    refine q_iload_n hF 1 rfl rfl dX8_tells_20 ?_
    refine q_i2l hF (by omega) dX8_tells_21 ?_
    refine q_lastorev hF (n := 1243) (139 + s.cd) hS.t4 (q_Ale hSA (by omega)) (by omega) (by omega) (by decide) dX8_tells_22 ?_
    refine q_aload_n hF 0 rfl rfl dX8_tells_23 ?_
    refine q_dup hF rfl dX8_tells_24 ?_
    refine q_getIv hF (z := (s.cd : Int)) fl_RX8_190 hS.t0 q_ps_14 dX8_tells_25 ?_
    refine q_iconst hF dX8_tells_28 ?_
    refine q_iadd hF dX8_tells_29 ?_
    refine q_putI hF fl_RX8_190 hS.t0 hSA dX8_tells_30 ?_
    rw [q_ps_w14 (x := 1 + s.cd) (by omega)]
    refine q_return hF rfl dX8_tells_33 ?_
    rw [q_row_u]
    exact k0
  · exact absurd c4 (by decide)
set_option maxRecDepth 100000 in
theorem mX8_tells0 {G : q_G} {sz : Nat} {T : q_T} {I L : q_I} {P : q_P} {Q : q_Q} {m : Nat} {c : Int}  {s : g_PS}  (hS : q_SM T P m) (hSA : q_A G m) (her : s.fl ≠ 0) (hrf : -2147483648 ≤ s.fl ∧ s.fl < 2147483648) (k0 : Q (.inl none) sz T (q_ps I m s) L P) : qC G 1 0 0 YX8_tells [.ref m, qI c] sz T (q_ps I m s) L P Q := by
  refine qC_of (by decide +kernel) rfl rfl (Nat.le_of_ble_eq_true rfl) (fun F hF _ _ => ?_)
  refine q_aload_n hF 0 rfl rfl dX8_tells_0 ?_
  refine q_callV (kc := 0) (ks := 0) (mc' := 0) (ms' := 0) (h' := 0) (st := []) hF vl_RX8_95 rfl [] rfl rfl hS.t0 (by decide) (Nat.le_of_ble_eq_true rfl) dX8_tells_1 ?_
  refine mX8_fine0 hS her (show -2147483648 ≤ s.fl ∧ s.fl < 2147483648 by first | decide | omega | assumption) ?_
  refine q_ifne hF (by decide) dX8_tells_4 (fun c4 => ?_) (fun c4 => ?_)
  · exact absurd c4 (by decide)
  · refine q_return hF rfl dX8_tells_7 ?_
    exact k0
set_option maxRecDepth 100000 in
theorem mX8_opensP {G : q_G} {sz : Nat} {T : q_T} {I L : q_I} {P : q_P} {Q : q_Q} {m : Nat} {x : Int}  {s : g_PS}  (hS : q_SM T P m) (hSA : q_A G m) (hop : 0 ≤ s.op ∧ s.op ≤ 3) (hfl : s.fl = 0) (k0 : s.op ≠ 3 → Q (.inl none) sz T (q_ps I m (g_mk s.p s.fl s.fa s.cd (s.op + 1) s.on s.hp)) L P) (k1 : s.op = 3 → Q (.inl none) sz T (q_ps I m (g_mk s.p 5 x s.cd (s.op + 1) s.on s.hp)) L P) : qC G 1 0 0 YX8_opens [.ref m, qI x] sz T (q_ps I m s) L P Q := by
  refine qC_of (by decide +kernel) rfl rfl (Nat.le_of_ble_eq_true rfl) (fun F hF _ _ => ?_)
  refine q_aload_n hF 0 rfl rfl dX8_opens_0 ?_
  refine q_callV (kc := 0) (ks := 0) (mc' := 0) (ms' := 0) (h' := 0) (st := []) hF vl_RX8_95 rfl [] rfl rfl hS.t0 (by decide) (Nat.le_of_ble_eq_true rfl) dX8_opens_1 ?_
  refine mX8_fineA hS hfl ?_
  refine q_ifeq hF (by decide) dX8_opens_4 (fun c4 => ?_) (fun c4 => ?_)
  · exact absurd c4 (by decide)
  · refine q_aload_n hF 0 rfl rfl dX8_opens_7 ?_
    refine q_getIv hF (z := s.op) fl_RX8_193 hS.t0 q_ps_15 dX8_opens_8 ?_
    refine q_iconst hF dX8_opens_11 ?_
    refine q_icmpne hF (by omega) (by decide) dX8_opens_12 (fun c12 => ?_) (fun c12 => ?_)
    · refine q_aload_n hF 0 rfl rfl dX8_opens_21 ?_
      refine q_dup hF rfl dX8_opens_22 ?_
      refine q_getIv hF (z := s.op) fl_RX8_193 hS.t0 q_ps_15 dX8_opens_23 ?_
      refine q_iconst hF dX8_opens_26 ?_
      refine q_iadd hF dX8_opens_27 ?_
      refine q_putI hF fl_RX8_193 hS.t0 hSA dX8_opens_28 ?_
      rw [q_ps_w15]
      refine q_return hF rfl dX8_opens_31 ?_
      exact k0 c12
    · refine q_aload_n hF 0 rfl rfl dX8_opens_15 ?_
      refine q_iconst hF dX8_opens_16 ?_
      refine q_iload_n hF 1 rfl rfl dX8_opens_17 ?_
      refine q_callV (kc := 0) (ks := 0) (mc' := 0) (ms' := 0) (h' := 0) (st := []) hF vl_RX8_106 rfl [qI 5, qI x] rfl rfl hS.t0 (by decide) (Nat.le_of_ble_eq_true rfl) dX8_opens_18 ?_
      refine mX8_wrongA hS hSA hfl ?_
      refine q_aload_n hF 0 rfl rfl dX8_opens_21 ?_
      refine q_dup hF rfl dX8_opens_22 ?_
      refine q_getIv hF (z := s.op) fl_RX8_193 hS.t0 q_ps_15 dX8_opens_23 ?_
      refine q_iconst hF dX8_opens_26 ?_
      refine q_iadd hF dX8_opens_27 ?_
      refine q_putI hF fl_RX8_193 hS.t0 hSA dX8_opens_28 ?_
      rw [q_ps_w15]
      refine q_return hF rfl dX8_opens_31 ?_
      exact k1 c12
set_option maxRecDepth 100000 in
theorem lX8_number {G : q_G} {F : q_F} {h : Nat} {Q : q_Q} {kc ks sz : Nat} {T : q_T} {m n : Nat} {B : Nat → Int} {s : g_PS} {I L : q_I} {P : q_P} {E : Nat} {lo hi x V : Int} (h1 : 1 ≤ h) (hF : q_ok G F YX8_number h) (hS : q_SM T P m) (hSA : q_A G m) (hB : q_BT I m B n) (k0 : qX G F Q kc ks 95 [(4, qI V), (0, .ref m), (1, qI lo), (2, qI hi), (3, qI x)] [] sz T (q_ps I m (g_mk E s.fl s.fa s.cd s.op s.on s.hp)) L P) : ∀ (w : Nat) (a : Nat) (v : Int), n - a < w → (a ≤ n) → (0 ≤ v ∧ v ≤ 10000000) → (g_nv B n a v = V) → (g_nd B n a = E) → qX G F Q kc ks 38 [(4, qI v), (0, .ref m), (1, qI lo), (2, qI hi), (3, qI x)] [] sz T (q_ps I m (g_mk a s.fl s.fa s.cd s.op s.on s.hp)) L P := by
  intro w
  induction w with
  | zero => intro a v hn; exact absurd hn (Nat.not_lt_zero _)
  | succ w ih =>
    intro a v hn ha hv hV hE
    have hn6 := hB.2.1
    refine q_aload_n hF 1 rfl rfl dX8_number_38 ?_
    refine q_aload_n hF 1 rfl rfl dX8_number_39 ?_
    refine q_getIv hF (z := (a : Int)) fl_RX8_65 hS.t0 q_ps_4 dX8_number_40 ?_
    refine q_callV (kc := kc) (ks := ks) (mc' := 0) (ms' := 0) (h' := 0) (st := []) hF vl_RX8_68 rfl [qI (a : Int)] rfl rfl hS.t0 (by omega) (Nat.le_of_ble_eq_true rfl) dX8_number_43 ?_
    refine mX8_byteAtB (B := B) (n := n) (k := a) hS (hB.ps _) (by omega) ?_
    refine q_callS (kc := kc) (ks := ks) (mc' := 0) (ms' := 0) (h' := 0) (st := []) hF sl_RX8_110 rfl [qI (g_bt B n a)] rfl rfl (by omega) (Nat.le_of_ble_eq_true rfl) dX8_number_46 ?_
    refine mX8_isDigit (g_bt_32 hB _) ?_
    refine q_ifeq_b hF dX8_number_49 (fun c49 => ?_) (fun c49 => ?_)
    · rw [g_nv_e c49] at hV
      rw [g_nd_e c49] at hE
      subst hV hE
      exact k0
    · refine q_ldc2 hF (n := 10000000) (q_mem 1440 (by decide +kernel) rfl) dX8_number_52 ?_
      refine q_ldc2 hF (n := 10) (q_mem 1441 (by decide +kernel) rfl) dX8_number_55 ?_
      refine q_iload hF 0 rfl dX8_number_58 ?_
      refine q_i2l hF (by have := g_bt_32 hB a; omega) dX8_number_60 ?_
      refine q_lmul hF dX8_number_61 ?_
      refine q_aload_n hF 1 rfl rfl dX8_number_62 ?_
      refine q_aload_n hF 1 rfl rfl dX8_number_63 ?_
      refine q_getIv hF (z := (a : Int)) fl_RX8_65 hS.t0 q_ps_4 dX8_number_64 ?_
      refine q_callV (kc := kc) (ks := ks) (mc' := 0) (ms' := 0) (h' := 0) (st := [qL (10 * v), qL 10000000]) hF vl_RX8_68 rfl [qI (a : Int)] rfl rfl hS.t0 (by omega) (Nat.le_of_ble_eq_true rfl) dX8_number_67 ?_
      refine mX8_byteAtB (B := B) (n := n) (k := a) hS (hB.ps _) (by omega) ?_
      refine q_i2l hF (g_bt_32 hB _) dX8_number_70 ?_
      refine q_ladd hF dX8_number_71 ?_
      refine q_ldc2 hF (n := 48) (q_mem 1442 (by decide +kernel) rfl) dX8_number_72 ?_
      refine q_lsub hF dX8_number_75 ?_
      refine q_callS (kc := kc) (ks := ks) (mc' := 0) (ms' := 0) (h' := 0) (st := []) hF sl_RX8_119 rfl [qL 10000000, qL (((10 * v) + (g_bt B n a)) - 48)] rfl rfl (by omega) (Nat.le_of_ble_eq_true rfl) dX8_number_76 ?_
      refine mX8_less (by decide) (by have := g_bt_32 hB a; omega) ?_
      refine q_l2i hF dX8_number_79 ?_
      refine q_istore hF (ls' := [(4, qI (min 10000000 (((10 * v) + (g_bt B n a)) - 48))), (0, .ref m), (1, qI lo), (2, qI hi), (3, qI x)]) (by decide) rfl dX8_number_80 ?_
      refine q_aload_n hF 1 rfl rfl dX8_number_82 ?_
      refine q_dup hF rfl dX8_number_83 ?_
      refine q_getIv hF (z := (a : Int)) fl_RX8_65 hS.t0 q_ps_4 dX8_number_84 ?_
      refine q_iconst hF dX8_number_87 ?_
      refine q_iadd hF dX8_number_88 ?_
      refine q_putI hF fl_RX8_65 hS.t0 hSA dX8_number_89 ?_
      rw [q_ps_w4 (x := 1 + a) (by omega)]
      refine q_goto hF dX8_number_92 ?_
      have han := g_bt_in (B := B) (n := n) (k := a) (by have := c49.1; omega)
      exact ih (1 + a) _ (by omega) (by omega) (by have := c49.1; have := c49.2; omega) (by rw [← hV, g_nv_s c49]) (by rw [← hE, g_nd_s c49])
set_option maxRecDepth 100000 in
theorem mX8_numberP {G : q_G} {sz : Nat} {T : q_T} {I L : q_I} {P : q_P} {Q : q_Q} {m : Nat} {lo : Int} {hi : Int}  {s : g_PS} {B : Nat → Int} {n : Nat} (hS : q_SM T P m) (hSA : q_A G m) (hB : q_BT I m B n) (hlo : 0 ≤ lo ∧ lo ≤ 1000000) (hhi : 0 ≤ hi ∧ hi ≤ 1000000) (hp : s.p ≤ n) (hfl : s.fl = 0) (k0 : ¬ (48 ≤ g_bt B n (g_sk B n s.p) ∧ g_bt B n (g_sk B n s.p) ≤ 57) → Q (.inl (some (qI 0))) sz T (q_ps I m (g_mk (g_sk B n s.p) 1 ((g_sk B n s.p : Nat) : Int) s.cd s.op s.on s.hp)) L P) (k1 : 48 ≤ g_bt B n (g_sk B n s.p) ∧ g_bt B n (g_sk B n s.p) ≤ 57 → lo ≤ g_nv B n (g_sk B n s.p) 0 ∧ g_nv B n (g_sk B n s.p) 0 ≤ hi → Q (.inl (some (qI (g_nv B n (g_sk B n s.p) 0)))) sz T (q_ps I m (g_mk (g_nd B n (g_sk B n s.p)) s.fl s.fa s.cd s.op s.on s.hp)) L P) (k2 : 48 ≤ g_bt B n (g_sk B n s.p) ∧ g_bt B n (g_sk B n s.p) ≤ 57 → ¬ (lo ≤ g_nv B n (g_sk B n s.p) 0 ∧ g_nv B n (g_sk B n s.p) 0 ≤ hi) → Q (.inl (some (qI (g_nv B n (g_sk B n s.p) 0)))) sz T (q_ps I m (g_mk (g_nd B n (g_sk B n s.p)) 2 ((g_sk B n s.p : Nat) : Int) s.cd s.op s.on s.hp)) L P) : qC G 2 0 0 YX8_number [.ref m, qI lo, qI hi] sz T (q_ps I m s) L P Q := by
  refine qC_of (by decide +kernel) rfl rfl (Nat.le_of_ble_eq_true rfl) (fun F hF _ _ => ?_)
  have hn6 := hB.2.1
  have hq := g_sk_r (B := B) hp
  have hnd := g_nd_r (B := B) hq.2
  have hnv := g_nv_r (B := B) (n := n) _ (g_sk B n s.p) 0 (Nat.lt_succ_self _) (by decide) (by decide)
  refine q_aload_n hF 0 rfl rfl dX8_number_0 ?_
  refine q_callV (kc := 0) (ks := 0) (mc' := 0) (ms' := 0) (h' := 0) (st := []) hF vl_RX8_95 rfl [] rfl rfl hS.t0 (by decide) (Nat.le_of_ble_eq_true rfl) dX8_number_1 ?_
  refine mX8_fineA hS hfl ?_
  refine q_ifne hF (by decide) dX8_number_4 (fun c4 => ?_) (fun c4 => ?_)
  · refine q_aload_n hF 0 rfl rfl dX8_number_9 ?_
    refine q_callV (kc := 0) (ks := 0) (mc' := 0) (ms' := 0) (h' := 1) (st := []) hF vl_RX8_78 rfl [] rfl rfl hS.t0 (by decide) (Nat.le_of_ble_eq_true rfl) dX8_number_10 ?_
    refine mX8_hereP (B := B) (n := n) hS hSA hB (show s.p ≤ n by omega) ?_
    refine q_callS (kc := 0) (ks := 0) (mc' := 0) (ms' := 0) (h' := 0) (st := []) hF sl_RX8_110 rfl [qI (g_bt B n (g_sk B n s.p))] rfl rfl (by decide) (Nat.le_of_ble_eq_true rfl) dX8_number_13 ?_
    refine mX8_isDigit (g_bt_32 hB _) ?_
    refine q_ifne_b hF dX8_number_16 (fun c16 => ?_) (fun c16 => ?_)
    · refine q_aload_n hF 0 rfl rfl dX8_number_30 ?_
      refine q_getIv hF (z := (g_sk B n s.p : Int)) fl_RX8_65 hS.t0 q_ps_4 dX8_number_31 ?_
      refine q_istore_n hF (ls' := [(3, qI (g_sk B n s.p : Int)), (0, .ref m), (1, qI lo), (2, qI hi)]) rfl (by decide) rfl dX8_number_34 ?_
      refine q_iconst hF dX8_number_35 ?_
      refine q_istore hF (ls' := [(4, qI 0), (3, qI (g_sk B n s.p : Int)), (0, .ref m), (1, qI lo), (2, qI hi)]) (by decide) rfl dX8_number_36 ?_
      refine q_sub [0, 2, 3, 4, 1] rfl ?_
      refine lX8_number (by decide) hF hS hSA hB ?_ (n - (g_sk B n s.p) + 1) (g_sk B n s.p) 0 (by omega) hq.2 (by decide) rfl rfl
      refine q_iload hF 0 rfl dX8_number_95 ?_
      refine q_i2l hF (by omega) dX8_number_97 ?_
      refine q_iload_n hF 2 rfl rfl dX8_number_98 ?_
      refine q_i2l hF (by omega) dX8_number_99 ?_
      refine q_iload_n hF 3 rfl rfl dX8_number_100 ?_
      refine q_i2l hF (by omega) dX8_number_101 ?_
      refine q_callS (kc := 0) (ks := 0) (mc' := 0) (ms' := 0) (h' := 0) (st := []) hF sl_RX8_123 rfl [qL (g_nv B n (g_sk B n s.p) 0), qL lo, qL hi] rfl rfl (by decide) (Nat.le_of_ble_eq_true rfl) dX8_number_102 ?_
      refine mX8_in (by omega) (by omega) (by omega) ?_
      refine q_ifne_b hF dX8_number_105 (fun c105 => ?_) (fun c105 => ?_)
      · refine q_iload hF 0 rfl dX8_number_114 ?_
        refine q_ireturn hF rfl dX8_number_116 ?_
        exact k1 c16 c105
      · refine q_aload_n hF 1 rfl rfl dX8_number_108 ?_
        refine q_iconst hF dX8_number_109 ?_
        refine q_iload_n hF 4 rfl rfl dX8_number_110 ?_
        refine q_callV (kc := 0) (ks := 0) (mc' := 0) (ms' := 0) (h' := 0) (st := []) hF vl_RX8_106 rfl [qI 2, qI ((g_sk B n s.p : Nat) : Int)] rfl rfl hS.t0 (by decide) (Nat.le_of_ble_eq_true rfl) dX8_number_111 ?_
        refine mX8_wrongA hS hSA hfl ?_
        refine q_iload hF 0 rfl dX8_number_114 ?_
        refine q_ireturn hF rfl dX8_number_116 ?_
        exact k2 c16 c105
    · refine q_aload_n hF 0 rfl rfl dX8_number_19 ?_
      refine q_iconst hF dX8_number_20 ?_
      refine q_aload_n hF 0 rfl rfl dX8_number_21 ?_
      refine q_getIv hF (z := (g_sk B n s.p : Int)) fl_RX8_65 hS.t0 q_ps_4 dX8_number_22 ?_
      refine q_callV (kc := 0) (ks := 0) (mc' := 0) (ms' := 0) (h' := 0) (st := []) hF vl_RX8_106 rfl [qI 1, qI (g_sk B n s.p : Int)] rfl rfl hS.t0 (by decide) (Nat.le_of_ble_eq_true rfl) dX8_number_25 ?_
      refine mX8_wrongA hS hSA hfl ?_
      refine q_iconst hF dX8_number_28 ?_
      refine q_ireturn hF rfl dX8_number_29 ?_
      exact k0 c16
  · exact absurd c4 (by decide)
set_option maxRecDepth 100000 in
theorem mX8_number0 {G : q_G} {sz : Nat} {T : q_T} {I L : q_I} {P : q_P} {Q : q_Q} {m : Nat} {lo : Int} {hi : Int}  {s : g_PS}  (hS : q_SM T P m) (hSA : q_A G m) (her : s.fl ≠ 0) (hrf : -2147483648 ≤ s.fl ∧ s.fl < 2147483648) (k0 : Q (.inl (some (qI 0))) sz T (q_ps I m s) L P) : qC G 2 0 0 YX8_number [.ref m, qI lo, qI hi] sz T (q_ps I m s) L P Q := by
  refine qC_of (by decide +kernel) rfl rfl (Nat.le_of_ble_eq_true rfl) (fun F hF _ _ => ?_)
  refine q_aload_n hF 0 rfl rfl dX8_number_0 ?_
  refine q_callV (kc := 0) (ks := 0) (mc' := 0) (ms' := 0) (h' := 0) (st := []) hF vl_RX8_95 rfl [] rfl rfl hS.t0 (by decide) (Nat.le_of_ble_eq_true rfl) dX8_number_1 ?_
  refine mX8_fine0 hS her (show -2147483648 ≤ s.fl ∧ s.fl < 2147483648 by first | decide | omega | assumption) ?_
  refine q_ifne hF (by decide) dX8_number_4 (fun c4 => ?_) (fun c4 => ?_)
  · exact absurd c4 (by decide)
  · refine q_iconst hF dX8_number_7 ?_
    refine q_ireturn hF rfl dX8_number_8 ?_
    exact k0
set_option maxRecDepth 100000 in
theorem mX8_wordOf {G : q_G} {sz : Nat} {T : q_T} {I L : q_I} {P : q_P} {Q : q_Q}  {k : Nat} (hk : k < 23) (k0 : Q (.inl (some (qR (some (q_KS G (g_wi k)))))) sz T I L P) : qC G 0 0 0 YX8_wordOf [qI (k : Int)] sz T I L P Q := by
  refine qC_of (by decide +kernel) rfl rfl (Nat.le_of_ble_eq_true rfl) (fun F hF _ _ => ?_)
  refine q_iload_n hF 0 rfl rfl dX8_wordOf_0 ?_
  have c1_r := (show -2147483648 ≤ (k : Int) ∧ (k : Int) < 2147483648 from (by omega))
  rcases (show (k : Int) = 0 ∨ (k : Int) = 1 ∨ (k : Int) = 2 ∨ (k : Int) = 3 ∨ (k : Int) = 4 ∨ (k : Int) = 5 ∨ (k : Int) = 6 ∨ (k : Int) = 7 ∨ (k : Int) = 8 ∨ (k : Int) = 9 ∨ (k : Int) = 10 ∨ (k : Int) = 11 ∨ (k : Int) = 12 ∨ (k : Int) = 13 ∨ (k : Int) = 14 ∨ (k : Int) = 15 ∨ (k : Int) = 16 ∨ (k : Int) = 17 ∨ (k : Int) = 18 ∨ (k : Int) = 19 ∨ (k : Int) = 20 ∨ (k : Int) = 21 ∨ ((k : Int) < 0 ∨ 21 < (k : Int)) from by omega) with c1 | c1 | c1 | c1 | c1 | c1 | c1 | c1 | c1 | c1 | c1 | c1 | c1 | c1 | c1 | c1 | c1 | c1 | c1 | c1 | c1 | c1 | c1
  · refine q_tableIn hF dX8_wordOf_1 c1_r (by rw [c1]; decide) (by rw [c1]; decide) (off := 103) (by rw [c1]; rfl) (tgt := 104) rfl ?_
    refine q_ldcK hF (i := 27) (by decide) rfl rfl dX8_wordOf_104 ?_
    refine q_areturn hF (r := some (q_KS G 27)) rfl dX8_wordOf_106 ?_
    obtain rfl : k = 0 := by omega
    exact k0
  · refine q_tableIn hF dX8_wordOf_1 c1_r (by rw [c1]; decide) (by rw [c1]; decide) (off := 106) (by rw [c1]; rfl) (tgt := 107) rfl ?_
    refine q_ldcK hF (i := 28) (by decide) rfl rfl dX8_wordOf_107 ?_
    refine q_areturn hF (r := some (q_KS G 28)) rfl dX8_wordOf_109 ?_
    obtain rfl : k = 1 := by omega
    exact k0
  · refine q_tableIn hF dX8_wordOf_1 c1_r (by rw [c1]; decide) (by rw [c1]; decide) (off := 109) (by rw [c1]; rfl) (tgt := 110) rfl ?_
    refine q_ldcK hF (i := 29) (by decide) rfl rfl dX8_wordOf_110 ?_
    refine q_areturn hF (r := some (q_KS G 29)) rfl dX8_wordOf_112 ?_
    obtain rfl : k = 2 := by omega
    exact k0
  · refine q_tableIn hF dX8_wordOf_1 c1_r (by rw [c1]; decide) (by rw [c1]; decide) (off := 112) (by rw [c1]; rfl) (tgt := 113) rfl ?_
    refine q_ldcK hF (i := 30) (by decide) rfl rfl dX8_wordOf_113 ?_
    refine q_areturn hF (r := some (q_KS G 30)) rfl dX8_wordOf_115 ?_
    obtain rfl : k = 3 := by omega
    exact k0
  · refine q_tableIn hF dX8_wordOf_1 c1_r (by rw [c1]; decide) (by rw [c1]; decide) (off := 115) (by rw [c1]; rfl) (tgt := 116) rfl ?_
    refine q_ldcK hF (i := 31) (by decide) rfl rfl dX8_wordOf_116 ?_
    refine q_areturn hF (r := some (q_KS G 31)) rfl dX8_wordOf_118 ?_
    obtain rfl : k = 4 := by omega
    exact k0
  · refine q_tableIn hF dX8_wordOf_1 c1_r (by rw [c1]; decide) (by rw [c1]; decide) (off := 118) (by rw [c1]; rfl) (tgt := 119) rfl ?_
    refine q_ldcK hF (i := 32) (by decide) rfl rfl dX8_wordOf_119 ?_
    refine q_areturn hF (r := some (q_KS G 32)) rfl dX8_wordOf_121 ?_
    obtain rfl : k = 5 := by omega
    exact k0
  · refine q_tableIn hF dX8_wordOf_1 c1_r (by rw [c1]; decide) (by rw [c1]; decide) (off := 121) (by rw [c1]; rfl) (tgt := 122) rfl ?_
    refine q_ldcK hF (i := 33) (by decide) rfl rfl dX8_wordOf_122 ?_
    refine q_areturn hF (r := some (q_KS G 33)) rfl dX8_wordOf_124 ?_
    obtain rfl : k = 6 := by omega
    exact k0
  · refine q_tableIn hF dX8_wordOf_1 c1_r (by rw [c1]; decide) (by rw [c1]; decide) (off := 124) (by rw [c1]; rfl) (tgt := 125) rfl ?_
    refine q_ldcK hF (i := 34) (by decide) rfl rfl dX8_wordOf_125 ?_
    refine q_areturn hF (r := some (q_KS G 34)) rfl dX8_wordOf_127 ?_
    obtain rfl : k = 7 := by omega
    exact k0
  · refine q_tableIn hF dX8_wordOf_1 c1_r (by rw [c1]; decide) (by rw [c1]; decide) (off := 127) (by rw [c1]; rfl) (tgt := 128) rfl ?_
    refine q_ldcK hF (i := 35) (by decide) rfl rfl dX8_wordOf_128 ?_
    refine q_areturn hF (r := some (q_KS G 35)) rfl dX8_wordOf_130 ?_
    obtain rfl : k = 8 := by omega
    exact k0
  · refine q_tableIn hF dX8_wordOf_1 c1_r (by rw [c1]; decide) (by rw [c1]; decide) (off := 130) (by rw [c1]; rfl) (tgt := 131) rfl ?_
    refine q_ldcK hF (i := 36) (by decide) rfl rfl dX8_wordOf_131 ?_
    refine q_areturn hF (r := some (q_KS G 36)) rfl dX8_wordOf_133 ?_
    obtain rfl : k = 9 := by omega
    exact k0
  · refine q_tableIn hF dX8_wordOf_1 c1_r (by rw [c1]; decide) (by rw [c1]; decide) (off := 133) (by rw [c1]; rfl) (tgt := 134) rfl ?_
    refine q_ldcK hF (i := 37) (by decide) rfl rfl dX8_wordOf_134 ?_
    refine q_areturn hF (r := some (q_KS G 37)) rfl dX8_wordOf_136 ?_
    obtain rfl : k = 10 := by omega
    exact k0
  · refine q_tableIn hF dX8_wordOf_1 c1_r (by rw [c1]; decide) (by rw [c1]; decide) (off := 136) (by rw [c1]; rfl) (tgt := 137) rfl ?_
    refine q_ldcK hF (i := 38) (by decide) rfl rfl dX8_wordOf_137 ?_
    refine q_areturn hF (r := some (q_KS G 38)) rfl dX8_wordOf_139 ?_
    obtain rfl : k = 11 := by omega
    exact k0
  · refine q_tableIn hF dX8_wordOf_1 c1_r (by rw [c1]; decide) (by rw [c1]; decide) (off := 139) (by rw [c1]; rfl) (tgt := 140) rfl ?_
    refine q_ldcK hF (i := 26) (by decide) rfl rfl dX8_wordOf_140 ?_
    refine q_areturn hF (r := some (q_KS G 26)) rfl dX8_wordOf_142 ?_
    obtain rfl : k = 12 := by omega
    exact k0
  · refine q_tableIn hF dX8_wordOf_1 c1_r (by rw [c1]; decide) (by rw [c1]; decide) (off := 142) (by rw [c1]; rfl) (tgt := 143) rfl ?_
    refine q_ldcK hF (i := 39) (by decide) rfl rfl dX8_wordOf_143 ?_
    refine q_areturn hF (r := some (q_KS G 39)) rfl dX8_wordOf_145 ?_
    obtain rfl : k = 13 := by omega
    exact k0
  · refine q_tableIn hF dX8_wordOf_1 c1_r (by rw [c1]; decide) (by rw [c1]; decide) (off := 145) (by rw [c1]; rfl) (tgt := 146) rfl ?_
    refine q_ldcK hF (i := 40) (by decide) rfl rfl dX8_wordOf_146 ?_
    refine q_areturn hF (r := some (q_KS G 40)) rfl dX8_wordOf_148 ?_
    obtain rfl : k = 14 := by omega
    exact k0
  · refine q_tableIn hF dX8_wordOf_1 c1_r (by rw [c1]; decide) (by rw [c1]; decide) (off := 148) (by rw [c1]; rfl) (tgt := 149) rfl ?_
    refine q_ldcK hF (i := 41) (by decide) rfl rfl dX8_wordOf_149 ?_
    refine q_areturn hF (r := some (q_KS G 41)) rfl dX8_wordOf_151 ?_
    obtain rfl : k = 15 := by omega
    exact k0
  · refine q_tableIn hF dX8_wordOf_1 c1_r (by rw [c1]; decide) (by rw [c1]; decide) (off := 151) (by rw [c1]; rfl) (tgt := 152) rfl ?_
    refine q_ldcK hF (i := 42) (by decide) rfl rfl dX8_wordOf_152 ?_
    refine q_areturn hF (r := some (q_KS G 42)) rfl dX8_wordOf_154 ?_
    obtain rfl : k = 16 := by omega
    exact k0
  · refine q_tableIn hF dX8_wordOf_1 c1_r (by rw [c1]; decide) (by rw [c1]; decide) (off := 154) (by rw [c1]; rfl) (tgt := 155) rfl ?_
    refine q_ldcK hF (i := 43) (by decide) rfl rfl dX8_wordOf_155 ?_
    refine q_areturn hF (r := some (q_KS G 43)) rfl dX8_wordOf_157 ?_
    obtain rfl : k = 17 := by omega
    exact k0
  · refine q_tableIn hF dX8_wordOf_1 c1_r (by rw [c1]; decide) (by rw [c1]; decide) (off := 157) (by rw [c1]; rfl) (tgt := 158) rfl ?_
    refine q_ldcK hF (i := 44) (by decide) rfl rfl dX8_wordOf_158 ?_
    refine q_areturn hF (r := some (q_KS G 44)) rfl dX8_wordOf_160 ?_
    obtain rfl : k = 18 := by omega
    exact k0
  · refine q_tableIn hF dX8_wordOf_1 c1_r (by rw [c1]; decide) (by rw [c1]; decide) (off := 160) (by rw [c1]; rfl) (tgt := 161) rfl ?_
    refine q_ldcK hF (i := 45) (by decide) rfl rfl dX8_wordOf_161 ?_
    refine q_areturn hF (r := some (q_KS G 45)) rfl dX8_wordOf_163 ?_
    obtain rfl : k = 19 := by omega
    exact k0
  · refine q_tableIn hF dX8_wordOf_1 c1_r (by rw [c1]; decide) (by rw [c1]; decide) (off := 163) (by rw [c1]; rfl) (tgt := 164) rfl ?_
    refine q_ldcK hF (i := 46) (by decide) rfl rfl dX8_wordOf_164 ?_
    refine q_areturn hF (r := some (q_KS G 46)) rfl dX8_wordOf_166 ?_
    obtain rfl : k = 20 := by omega
    exact k0
  · refine q_tableIn hF dX8_wordOf_1 c1_r (by rw [c1]; decide) (by rw [c1]; decide) (off := 166) (by rw [c1]; rfl) (tgt := 167) rfl ?_
    refine q_ldcK hF (i := 47) (by decide) rfl rfl dX8_wordOf_167 ?_
    refine q_areturn hF (r := some (q_KS G 47)) rfl dX8_wordOf_169 ?_
    obtain rfl : k = 21 := by omega
    exact k0
  · refine q_tableOut hF dX8_wordOf_1 c1_r c1 (tgt := 170) rfl ?_
    refine q_ldcK hF (i := 48) (by decide) rfl rfl dX8_wordOf_170 ?_
    refine q_areturn hF (r := some (q_KS G 48)) rfl dX8_wordOf_172 ?_
    obtain rfl : k = 22 := by omega
    exact k0
