/-! a text: its bytes, blanks, words, digits -/
def g_bt (B : Nat → Int) (n k : Nat) : Int := if k < n then B k else -1
theorem g_bt_in {B : Nat → Int} {n k : Nat} (h : g_bt B n k ≠ -1) : k < n := by
  unfold g_bt at h
  by_cases c : k < n
  · exact c
  · rw [if_neg c] at h; exact absurd rfl h
def g_skF (B : Nat → Int) (n : Nat) : Nat → Nat → Nat
  | 0, k => k
  | f + 1, k => if g_bt B n k = 32 then g_skF B n f (k + 1) else k
def g_sk (B : Nat → Int) (n k : Nat) : Nat := g_skF B n (n - k) k
theorem g_sk_e {B : Nat → Int} {n k : Nat} (h : g_bt B n k ≠ 32) : g_sk B n k = k := by
  unfold g_sk
  cases n - k with
  | zero => rfl
  | succ f => unfold g_skF; rw [if_neg h]
theorem g_sk_s {B : Nat → Int} {n k : Nat} (h : g_bt B n k = 32) : g_sk B n k = g_sk B n (1 + k) := by
  have hk : k < n := g_bt_in (by rw [h]; decide)
  unfold g_sk
  rw [show n - k = (n - (1 + k)) + 1 by omega, g_skF, if_pos h, Nat.add_comm k 1]
theorem g_sk_all {B : Nat → Int} {n : Nat} : ∀ f k, n - k < f → k ≤ n → k ≤ g_sk B n k ∧ g_sk B n k ≤ n ∧ g_bt B n (g_sk B n k) ≠ 32
  | 0, _, h, _ => absurd h (Nat.not_lt_zero _)
  | f + 1, k, h, hk => by
    by_cases c : g_bt B n k = 32
    · have h2 : k < n := g_bt_in (by rw [c]; decide)
      rw [g_sk_s c]
      have q := g_sk_all (B := B) (n := n) f (1 + k) (by omega) (by omega)
      exact ⟨by omega, q.2⟩
    · rw [g_sk_e c]
      exact ⟨Nat.le_refl _, hk, c⟩
theorem g_sk_r {B : Nat → Int} {n k : Nat} (hk : k ≤ n) : k ≤ g_sk B n k ∧ g_sk B n k ≤ n := ⟨(g_sk_all _ k (Nat.lt_succ_self _) hk).1, (g_sk_all _ k (Nat.lt_succ_self _) hk).2.1⟩
theorem g_sk_n {B : Nat → Int} {n k : Nat} (hk : k ≤ n) : g_bt B n (g_sk B n k) ≠ 32 := (g_sk_all _ k (Nat.lt_succ_self _) hk).2.2
theorem g_sk_sk {B : Nat → Int} {n k : Nat} (hk : k ≤ n) : g_sk B n (g_sk B n k) = g_sk B n k := g_sk_e (g_sk_n hk)
abbrev g_sm (c : Int) : Prop := 97 ≤ c ∧ c ≤ 122
abbrev g_dg (c : Int) : Prop := 48 ≤ c ∧ c ≤ 57
/-- word i stands at a -/
def g_isW (B : Nat → Int) (n i a : Nat) : Prop := (∀ k, k < g_len i → g_bt B n (a + k) = g_ch i k) ∧ ¬ g_sm (g_bt B n (a + g_len i))
instance (B : Nat → Int) (n i a : Nat) : Decidable (g_isW B n i a) := inferInstanceAs (Decidable (_ ∧ _))
def g_ndF (B : Nat → Int) (n : Nat) : Nat → Nat → Nat
  | 0, k => k
  | f + 1, k => if g_dg (g_bt B n k) then g_ndF B n f (k + 1) else k
/-- where the digits end that stand at k -/
def g_nd (B : Nat → Int) (n k : Nat) : Nat := g_ndF B n (n - k) k
def g_nvF (B : Nat → Int) (n : Nat) : Nat → Nat → Int → Int
  | 0, _, v => v
  | f + 1, k, v => if g_dg (g_bt B n k) then g_nvF B n f (k + 1) (min 10000000 (10 * v + g_bt B n k - 48)) else v
def g_nv (B : Nat → Int) (n k : Nat) (v : Int) : Int := g_nvF B n (n - k) k v
theorem g_nd_e {B : Nat → Int} {n k : Nat} (h : ¬ g_dg (g_bt B n k)) : g_nd B n k = k := by
  unfold g_nd
  cases n - k with
  | zero => rfl
  | succ f => unfold g_ndF; rw [if_neg h]
theorem g_nd_s {B : Nat → Int} {n k : Nat} (h : g_dg (g_bt B n k)) : g_nd B n k = g_nd B n (1 + k) := by
  have hk : k < n := g_bt_in (B := B) (by have := h.1; omega)
  unfold g_nd
  rw [show n - k = (n - (1 + k)) + 1 by omega, g_ndF, if_pos h, Nat.add_comm k 1]
theorem g_nv_e {B : Nat → Int} {n k : Nat} {v : Int} (h : ¬ g_dg (g_bt B n k)) : g_nv B n k v = v := by
  unfold g_nv
  cases n - k with
  | zero => rfl
  | succ f => unfold g_nvF; rw [if_neg h]
theorem g_nv_s {B : Nat → Int} {n k : Nat} {v : Int} (h : g_dg (g_bt B n k)) : g_nv B n k v = g_nv B n (1 + k) (min 10000000 (10 * v + g_bt B n k - 48)) := by
  have hk : k < n := g_bt_in (B := B) (by have := h.1; omega)
  unfold g_nv
  rw [show n - k = (n - (1 + k)) + 1 by omega, g_nvF, if_pos h, Nat.add_comm k 1]
theorem g_nd_all {B : Nat → Int} {n : Nat} : ∀ f k, n - k < f → k ≤ n → k ≤ g_nd B n k ∧ g_nd B n k ≤ n ∧ ¬ g_dg (g_bt B n (g_nd B n k))
  | 0, _, h, _ => absurd h (Nat.not_lt_zero _)
  | f + 1, k, h, hk => by
    by_cases c : g_dg (g_bt B n k)
    · have h2 : k < n := g_bt_in (B := B) (by have := c.1; omega)
      rw [g_nd_s c]
      have q := g_nd_all (B := B) (n := n) f (1 + k) (by omega) (by omega)
      exact ⟨by omega, q.2⟩
    · rw [g_nd_e c]
      exact ⟨Nat.le_refl _, hk, c⟩
theorem g_nd_r {B : Nat → Int} {n k : Nat} (hk : k ≤ n) : k ≤ g_nd B n k ∧ g_nd B n k ≤ n := ⟨(g_nd_all _ k (Nat.lt_succ_self _) hk).1, (g_nd_all _ k (Nat.lt_succ_self _) hk).2.1⟩
theorem g_nv_r {B : Nat → Int} {n : Nat} : ∀ f k v, n - k < f → 0 ≤ v → v ≤ 10000000 → 0 ≤ g_nv B n k v ∧ g_nv B n k v ≤ 10000000
  | 0, _, _, h, _, _ => absurd h (Nat.not_lt_zero _)
  | f + 1, k, v, h, h0, h1 => by
    by_cases c : g_dg (g_bt B n k)
    · have h2 : k < n := g_bt_in (B := B) (by have := c.1; omega)
      rw [g_nv_s c]
      have := c.1
      exact g_nv_r f (1 + k) _ (by omega) (by omega) (by omega)
    · rw [g_nv_e c]
      exact ⟨h0, h1⟩
def g_neF (B : Nat → Int) (n : Nat) : Nat → Nat → Nat
  | 0, k => k
  | f + 1, k => if g_sm (g_bt B n k) then g_neF B n f (k + 1) else k
/-- where the letters end that stand at k -/
def g_ne (B : Nat → Int) (n k : Nat) : Nat := g_neF B n (n - k) k
theorem g_ne_e {B : Nat → Int} {n k : Nat} (h : ¬ g_sm (g_bt B n k)) : g_ne B n k = k := by
  unfold g_ne
  cases n - k with
  | zero => rfl
  | succ f => unfold g_neF; rw [if_neg h]
theorem g_ne_s {B : Nat → Int} {n k : Nat} (h : g_sm (g_bt B n k)) : g_ne B n k = g_ne B n (1 + k) := by
  have hk : k < n := g_bt_in (B := B) (by have := h.1; omega)
  unfold g_ne
  rw [show n - k = (n - (1 + k)) + 1 by omega, g_neF, if_pos h, Nat.add_comm k 1]
theorem g_ne_all {B : Nat → Int} {n : Nat} : ∀ f k, n - k < f → k ≤ n → k ≤ g_ne B n k ∧ g_ne B n k ≤ n ∧ ¬ g_sm (g_bt B n (g_ne B n k)) ∧ ∀ j, k ≤ j → j < g_ne B n k → g_sm (g_bt B n j)
  | 0, _, h, _ => absurd h (Nat.not_lt_zero _)
  | f + 1, k, h, hk => by
    by_cases c : g_sm (g_bt B n k)
    · have h2 : k < n := g_bt_in (B := B) (by have := c.1; omega)
      rw [g_ne_s c]
      have q := g_ne_all (B := B) (n := n) f (1 + k) (by omega) (by omega)
      refine ⟨by omega, q.2.1, q.2.2.1, fun j h3 h4 => ?_⟩
      by_cases e : j = k
      · subst e; exact c
      · exact q.2.2.2 j (by omega) h4
    · rw [g_ne_e c]
      exact ⟨Nat.le_refl _, hk, c, fun j h3 h4 => by omega⟩
/-- the reference's word k: its String constant -/
def g_wi (k : Nat) : Nat := [27, 28, 29, 30, 31, 32, 33, 34, 35, 36, 37, 38, 26, 39, 40, 41, 42, 43, 44, 45, 46, 47].getD k 48
theorem g_wi_r (k : Nat) : g_wi k < 49 := by
  by_cases h : k < 22
  · have hall : ∀ k, k < 22 → g_wi k < 49 := by decide
    exact hall k h
  · unfold g_wi
    rw [List.getD_eq_getElem?_getD, List.getElem?_eq_none (by show 22 ≤ k; omega)]
    decide
/-- what the reference's parser keeps: the place, the fault and its place, codes, brackets, what was told once, which kinds have pays -/
structure g_PS where
  p : Nat
  fl : Int
  fa : Int
  cd : Nat
  op : Nat
  on : Int
  hp : Int
def q_ps (I : q_I) (m : Nat) (s : g_PS) : q_I := fun q k => if q = m then (if k = 4 then (s.p : Int) else if k = 6 then s.fl else if k = 7 then s.fa else if k = 14 then (s.cd : Int) else if k = 15 then (s.op : Int) else if k = 16 then s.on else if k = 17 then s.hp else I m k) else I q k
section
variable {I : q_I} {m : Nat} {s : g_PS}
theorem q_ps_4 : q_ps I m s m 4 = (s.p : Int) := by simp [q_ps]
theorem q_ps_6 : q_ps I m s m 6 = s.fl := by simp [q_ps]
theorem q_ps_7 : q_ps I m s m 7 = s.fa := by simp [q_ps]
theorem q_ps_14 : q_ps I m s m 14 = (s.cd : Int) := by simp [q_ps]
theorem q_ps_15 : q_ps I m s m 15 = (s.op : Int) := by simp [q_ps]
theorem q_ps_16 : q_ps I m s m 16 = s.on := by simp [q_ps]
theorem q_ps_17 : q_ps I m s m 17 = s.hp := by simp [q_ps]
theorem q_ps_a {q k : Nat} (h : q ≠ m) : q_ps I m s q k = I q k := if_neg h
theorem q_ps_k {k : Nat} (h : k ≠ 4 ∧ k ≠ 6 ∧ k ≠ 7 ∧ k ≠ 14 ∧ k ≠ 15 ∧ k ≠ 16 ∧ k ≠ 17) : q_ps I m s m k = I m k := by
  unfold q_ps
  rw [if_pos rfl, if_neg h.1, if_neg h.2.1, if_neg h.2.2.1, if_neg h.2.2.2.1, if_neg h.2.2.2.2.1, if_neg h.2.2.2.2.2.1, if_neg h.2.2.2.2.2.2]
theorem q_ps_w4 {v : Int} {x : Nat} (h : v = x) : u2 (q_ps I m s) m 4 v = q_ps I m { s with p := x } := by
  subst h; funext q k; unfold u2 q_ps
  by_cases e : q = m <;> by_cases e4 : k = 4 <;> simp_all
theorem q_ps_w6 {v : Int} : u2 (q_ps I m s) m 6 v = q_ps I m { s with fl := v } := by
  funext q k; unfold u2 q_ps
  by_cases e : q = m <;> by_cases e4 : k = 6 <;> simp_all
theorem q_ps_w7 {v : Int} : u2 (q_ps I m s) m 7 v = q_ps I m { s with fa := v } := by
  funext q k; unfold u2 q_ps
  by_cases e : q = m <;> by_cases e4 : k = 7 <;> simp_all
theorem q_ps_w14 {v : Int} {x : Nat} (h : v = x) : u2 (q_ps I m s) m 14 v = q_ps I m { s with cd := x } := by
  subst h; funext q k; unfold u2 q_ps
  by_cases e : q = m <;> by_cases e4 : k = 14 <;> simp_all
theorem q_ps_w15 {v : Int} {x : Nat} (h : v = x) : u2 (q_ps I m s) m 15 v = q_ps I m { s with op := x } := by
  subst h; funext q k; unfold u2 q_ps
  by_cases e : q = m <;> by_cases e4 : k = 15 <;> simp_all
theorem q_ps_w16 {v : Int} : u2 (q_ps I m s) m 16 v = q_ps I m { s with on := v } := by
  funext q k; unfold u2 q_ps
  by_cases e : q = m <;> by_cases e4 : k = 16 <;> simp_all
theorem q_ps_w17 {v : Int} : u2 (q_ps I m s) m 17 v = q_ps I m { s with hp := v } := by
  funext q k; unfold u2 q_ps
  by_cases e : q = m <;> by_cases e4 : k = 17 <;> simp_all
end
/-- the bytes that were fed -/
def q_BT (I : q_I) (m : Nat) (B : Nat → Int) (n : Nat) : Prop := I m 3 = (n : Int) ∧ n ≤ 600 ∧ (∀ k, k < n → I (m + 2) k = B k) ∧ ∀ k, 0 ≤ B k ∧ B k ≤ 255
theorem q_BT.ps {I : q_I} {m n : Nat} {B : Nat → Int} (h : q_BT I m B n) (s : g_PS) : q_BT (q_ps I m s) m B n :=
  ⟨(q_ps_k (by decide)).trans h.1, h.2.1, fun k hk => (q_ps_a (by omega)).trans (h.2.2.1 k hk), h.2.2.2⟩
theorem g_bt_r {I : q_I} {m n : Nat} {B : Nat → Int} (h : q_BT I m B n) (k : Nat) : -1 ≤ g_bt B n k ∧ g_bt B n k ≤ 255 := by
  have := h.2.2.2 k
  unfold g_bt
  split <;> omega
set_option maxRecDepth 100000 in
theorem mX8_byteAtB {G : q_G} {sz : Nat} {T : q_T} {I L : q_I} {P : q_P} {Q : q_Q} {m : Nat} {k n : Nat} {B : Nat → Int} (hS : q_SM T P m) (hB : q_BT I m B n) (hk : k < 100000) (k0 : Q (.inl (some (qI (g_bt B n k)))) sz T I L P) : qC G 0 0 0 YX8_byteAt [.ref m, qI (k : Int)] sz T I L P Q := by
  refine qC_of (by decide +kernel) rfl rfl (Nat.le_of_ble_eq_true rfl) (fun F hF _ _ => ?_)
  refine q_iload_n hF 1 rfl rfl dX8_byteAt_0 ?_
  refine q_aload_n hF 0 rfl rfl dX8_byteAt_1 ?_
  refine q_getIv hF (z := (n : Int)) fl_RX8_62 hS.t0 hB.1 dX8_byteAt_2 ?_
  refine q_icmplt hF (by have := hB.2.1; omega) (by have := hB.2.1; omega) dX8_byteAt_5 (fun c5 => ?_) (fun c5 => ?_)
  · refine q_aload_n hF 0 rfl rfl dX8_byteAt_12 ?_
    refine q_getA hF fl_RX8_17 rfl hS.t0 hS.p8 dX8_byteAt_13 ?_
    refine q_iload_n hF 1 rfl rfl dX8_byteAt_16 ?_
    refine q_ialoadv hF (z := B k) (n := 600) k hS.t2 rfl (by have := hB.2.1; omega) (by decide) (hB.2.2.1 _ (by omega)) dX8_byteAt_17 ?_
    refine q_ireturn hF rfl dX8_byteAt_18 ?_
    rw [show (g_bt B n k) = (B k) from by unfold g_bt; first | exact if_pos (by omega) | exact if_neg (by omega)] at k0; exact k0
  · refine q_iconst hF dX8_byteAt_8 ?_
    refine q_goto hF dX8_byteAt_9 ?_
    refine q_ireturn hF rfl dX8_byteAt_18 ?_
    rw [show (g_bt B n k) = (-1) from by unfold g_bt; first | exact if_pos (by omega) | exact if_neg (by omega)] at k0; exact k0
set_option maxRecDepth 100000 in
theorem mX8_fineP {G : q_G} {sz : Nat} {T : q_T} {I L : q_I} {P : q_P} {Q : q_Q} {m : Nat}  {s : g_PS} {B : Nat → Int} {n : Nat}  (hS : q_SM T P m) (hr : -2147483648 ≤ s.fl ∧ s.fl < 2147483648) (k0 : Q (.inl (some (qI (q_b (s.fl = 0))))) sz T (q_ps I m s) L P) : qC G 0 0 0 YX8_fine [.ref m] sz T (q_ps I m s) L P Q := by
  refine qC_of (by decide +kernel) rfl rfl (Nat.le_of_ble_eq_true rfl) (fun F hF _ _ => ?_)
  refine q_aload_n hF 0 rfl rfl dX8_fine_0 ?_
  refine q_getIv hF (z := s.fl) fl_RX8_72 hS.t0 q_ps_6 dX8_fine_1 ?_
  refine q_ifne hF (by omega) dX8_fine_4 (fun c4 => ?_) (fun c4 => ?_)
  · refine q_iconst hF dX8_fine_11 ?_
    refine q_zreturn hF (by decide) rfl dX8_fine_12 ?_
    rw [q_b_f (c := s.fl = 0) (by omega)] at k0; exact k0
  · refine q_iconst hF dX8_fine_7 ?_
    refine q_goto hF dX8_fine_8 ?_
    refine q_zreturn hF (by decide) rfl dX8_fine_12 ?_
    rw [q_b_t (c := s.fl = 0) (by omega)] at k0; exact k0
set_option maxRecDepth 100000 in
theorem mX8_wrongP {G : q_G} {sz : Nat} {T : q_T} {I L : q_I} {P : q_P} {Q : q_Q} {m : Nat} {w : Int} {x : Int}  {s : g_PS} {B : Nat → Int} {n : Nat}  (hS : q_SM T P m) (hSA : q_A G m) (hr : -2147483648 ≤ s.fl ∧ s.fl < 2147483648) (k0 : s.fl ≠ 0 → Q (.inl none) sz T (q_ps I m s) L P) (k1 : s.fl = 0 → Q (.inl none) sz T (q_ps I m { s with fl := w, fa := x }) L P) : qC G 0 0 0 YX8_wrong [.ref m, qI w, qI x] sz T (q_ps I m s) L P Q := by
  refine qC_of (by decide +kernel) rfl rfl (Nat.le_of_ble_eq_true rfl) (fun F hF _ _ => ?_)
  refine q_aload_n hF 0 rfl rfl dX8_wrong_0 ?_
  refine q_getIv hF (z := s.fl) fl_RX8_72 hS.t0 q_ps_6 dX8_wrong_1 ?_
  refine q_ifne hF (by omega) dX8_wrong_4 (fun c4 => ?_) (fun c4 => ?_)
  · refine q_return hF rfl dX8_wrong_17 ?_
    exact k0 c4
  · refine q_aload_n hF 0 rfl rfl dX8_wrong_7 ?_
    refine q_iload_n hF 1 rfl rfl dX8_wrong_8 ?_
    refine q_putI hF fl_RX8_72 hS.t0 hSA dX8_wrong_9 ?_
    rw [q_ps_w6]
    refine q_aload_n hF 0 rfl rfl dX8_wrong_12 ?_
    refine q_iload_n hF 2 rfl rfl dX8_wrong_13 ?_
    refine q_putI hF fl_RX8_75 hS.t0 hSA dX8_wrong_14 ?_
    rw [q_ps_w7]
    refine q_return hF rfl dX8_wrong_17 ?_
    exact k1 c4
theorem g_bt_32 {I : q_I} {m n : Nat} {B : Nat → Int} (h : q_BT I m B n) (k : Nat) : -2147483648 ≤ g_bt B n k ∧ g_bt B n k < 2147483648 := by have := g_bt_r h k; omega
set_option maxRecDepth 100000 in
theorem lX8_here {G : q_G} {F : q_F} {h : Nat} {Q : q_Q} {kc ks sz : Nat} {T : q_T} {m n x : Nat} {B : Nat → Int} {s : g_PS} {I L : q_I} {P : q_P} (hF : q_ok G F YX8_here h) (h1 : 1 ≤ h) (hS : q_SM T P m) (hSA : q_A G m) (hB : q_BT I m B n) (k0 : Q (.inl (some (qI (g_bt B n x)))) sz T (q_ps I m { s with p := x }) L P) : ∀ (w p : Nat), n - p < w → p ≤ n → g_sk B n p = x → qX G F Q kc ks 0 [(0, .ref m)] [] sz T (q_ps I m { s with p := p }) L P := by
  intro w
  induction w with
  | zero => intro p hn; exact absurd hn (Nat.not_lt_zero _)
  | succ w ih =>
    intro p hn hp hx
    have hn6 := hB.2.1
    refine q_aload_n hF 0 rfl rfl dX8_here_0 ?_
    refine q_aload_n hF 0 rfl rfl dX8_here_1 ?_
    refine q_getIv hF (z := (p : Int)) fl_RX8_65 hS.t0 q_ps_4 dX8_here_2 ?_
    refine q_callV (kc := kc) (ks := ks) (mc' := 0) (ms' := 0) (h' := 0) (st := []) hF vl_RX8_68 rfl [qI (p : Int)] rfl rfl hS.t0 (by omega) (Nat.le_of_ble_eq_true rfl) dX8_here_5 ?_
    refine mX8_byteAtB (B := B) (n := n) (k := p) hS (hB.ps _) (by omega) ?_
    refine q_bipush hF (n := 32) rfl dX8_here_8 ?_
    refine q_icmpne hF (g_bt_32 hB _) (by decide) dX8_here_10 (fun c10 => ?_) (fun c10 => ?_)
    · refine q_aload_n hF 0 rfl rfl dX8_here_26 ?_
      refine q_aload_n hF 0 rfl rfl dX8_here_27 ?_
      refine q_getIv hF (z := (p : Int)) fl_RX8_65 hS.t0 q_ps_4 dX8_here_28 ?_
      refine q_callV (kc := kc) (ks := ks) (mc' := 0) (ms' := 0) (h' := 0) (st := []) hF vl_RX8_68 rfl [qI (p : Int)] rfl rfl hS.t0 (by omega) (Nat.le_of_ble_eq_true rfl) dX8_here_31 ?_
      refine mX8_byteAtB (B := B) (n := n) (k := p) hS (hB.ps _) (by omega) ?_
      refine q_ireturn hF rfl dX8_here_34 ?_
      rw [g_sk_e c10] at hx
      subst hx
      exact k0
    · refine q_aload_n hF 0 rfl rfl dX8_here_13 ?_
      refine q_dup hF rfl dX8_here_14 ?_
      refine q_getIv hF (z := (p : Int)) fl_RX8_65 hS.t0 q_ps_4 dX8_here_15 ?_
      refine q_iconst hF dX8_here_18 ?_
      refine q_iadd hF dX8_here_19 ?_
      refine q_putI hF fl_RX8_65 hS.t0 hSA dX8_here_20 ?_
      rw [q_ps_w4 (x := 1 + p) (by omega)]
      refine q_goto hF dX8_here_23 ?_
      refine q_sub [0] rfl ?_
      exact ih (1 + p) (by have := g_bt_in (B := B) (n := n) (k := p) (by rw [c10]; decide); omega) (by have := g_bt_in (B := B) (n := n) (k := p) (by rw [c10]; decide); omega) (by rw [← g_sk_s c10]; exact hx)
theorem mX8_hereP {G : q_G} {sz : Nat} {T : q_T} {I L : q_I} {P : q_P} {Q : q_Q} {m n : Nat} {s : g_PS} {B : Nat → Int} (hS : q_SM T P m) (hSA : q_A G m) (hB : q_BT I m B n) (hp : s.p ≤ n) (k0 : Q (.inl (some (qI (g_bt B n (g_sk B n s.p))))) sz T (q_ps I m { s with p := g_sk B n s.p }) L P) : qC G 1 0 0 YX8_here [.ref m] sz T (q_ps I m s) L P Q := by
  refine qC_of (by decide +kernel) rfl rfl (Nat.le_of_ble_eq_true rfl) (fun F hF _ _ => ?_)
  exact lX8_here hF (by decide) hS hSA hB k0 (n - s.p + 1) s.p (Nat.lt_succ_self _) hp rfl
set_option maxRecDepth 100000 in
theorem lX8_isWord {G : q_G} {F : q_F} {h : Nat} {Q : q_Q} {kc ks sz : Nat} {T : q_T} {m n : Nat} {B : Nat → Int} {s : g_PS} {I L : q_I} {P : q_P} {i a : Nat} (h4 : 4 ≤ h) (hi : i < 49) (ha : a ≤ n) (hF : q_ok G F YX8_isWord h) (hS : q_SM T P m) (hSA : q_A G m) (hB : q_BT I m B n) (k0 : Q (.inl (some (qI (q_b (g_isW B n i a))))) sz T (q_ps I m { s with p := a }) L P) : ∀ (w : Nat) (k : Nat), g_len i - k < w → k ≤ g_len i → ∀ j, j < k → g_bt B n (a + j) = g_ch i j → qX G F Q kc ks 7 [(2, qI (k : Int)), (0, .ref m), (1, .ref (q_K G i))] [] sz T (q_ps I m { s with p := a }) L P := by
  intro w
  induction w with
  | zero => intro k hn; exact absurd hn (Nat.not_lt_zero _)
  | succ w ih =>
    intro k hn hk hall
    have hn6 := hB.2.1
    have hl := g_len_r hi
    refine q_iload_n hF 0 rfl rfl dX8_isWord_7 ?_
    refine q_aload_n hF 2 rfl rfl dX8_isWord_8 ?_
    refine q_callVO (kc := kc) (ks := ks) (mc' := 0) (ms' := 0) (h' := 1) (st := [qI (k : Int)]) hF vo_RX8_82 rfl [] rfl rfl (q_O_K hi) (by omega) (Nat.le_of_ble_eq_true rfl) dX8_isWord_9 ?_
    refine mJ0_length_8abf5 (i := i) hi ?_
    refine q_icmpge hF (by omega) (by omega) dX8_isWord_12 (fun c12 => ?_) (fun c12 => ?_)
    · refine q_iload_n hF 0 rfl rfl dX8_isWord_39 ?_
      refine q_aload_n hF 2 rfl rfl dX8_isWord_40 ?_
      refine q_callVO (kc := kc) (ks := ks) (mc' := 0) (ms' := 0) (h' := 1) (st := [qI (k : Int)]) hF vo_RX8_82 rfl [] rfl rfl (q_O_K hi) (by omega) (Nat.le_of_ble_eq_true rfl) dX8_isWord_41 ?_
      refine mJ0_length_8abf5 (i := i) hi ?_
      refine q_icmpne hF (by omega) (by omega) dX8_isWord_44 (fun c44 => ?_) (fun c44 => ?_)
      · refine q_iconst hF dX8_isWord_67 ?_
        refine q_zreturn hF (by decide) rfl dX8_isWord_68 ?_
        rw [q_b_f (c := g_isW B n i a) (fun h => by first | exact absurd (h.1 k (by omega)) c30 | (have h2 := h.2; rw [show g_len i = k by omega] at h2; exact absurd (by assumption) h2))] at k0; exact k0
      · refine q_aload_n hF 1 rfl rfl dX8_isWord_47 ?_
        refine q_aload_n hF 1 rfl rfl dX8_isWord_48 ?_
        refine q_getIv hF (z := (a : Int)) fl_RX8_65 hS.t0 q_ps_4 dX8_isWord_49 ?_
        refine q_iload_n hF 0 rfl rfl dX8_isWord_52 ?_
        refine q_iadd hF dX8_isWord_53 ?_
        refine q_callV (kc := kc) (ks := ks) (mc' := 0) (ms' := 0) (h' := 0) (st := []) hF vl_RX8_68 rfl [qI ((a : Int) + (k : Int))] rfl rfl hS.t0 (by omega) (Nat.le_of_ble_eq_true rfl) dX8_isWord_54 ?_
        refine mX8_byteAtB (B := B) (n := n) (k := a + k) hS (hB.ps _) (by omega) ?_
        refine q_callS (kc := kc) (ks := ks) (mc' := 0) (ms' := 0) (h' := 0) (st := []) hF sl_RX8_91 rfl [qI (g_bt B n (a + k))] rfl rfl (by omega) (Nat.le_of_ble_eq_true rfl) dX8_isWord_57 ?_
        refine mX8_isSmall (g_bt_32 hB _) ?_
        refine q_ifne_b hF dX8_isWord_60 (fun c60 => ?_) (fun c60 => ?_)
        · refine q_iconst hF dX8_isWord_67 ?_
          refine q_zreturn hF (by decide) rfl dX8_isWord_68 ?_
          rw [q_b_f (c := g_isW B n i a) (fun h => by first | exact absurd (h.1 k (by omega)) c30 | (have h2 := h.2; rw [show g_len i = k by omega] at h2; exact absurd (by assumption) h2))] at k0; exact k0
        · refine q_iconst hF dX8_isWord_63 ?_
          refine q_goto hF dX8_isWord_64 ?_
          refine q_zreturn hF (by decide) rfl dX8_isWord_68 ?_
          rw [q_b_t (c := g_isW B n i a) ⟨fun j hj => hall j (by omega), by rw [show g_len i = k by omega]; assumption⟩] at k0; exact k0
    · refine q_aload_n hF 1 rfl rfl dX8_isWord_15 ?_
      refine q_aload_n hF 1 rfl rfl dX8_isWord_16 ?_
      refine q_getIv hF (z := (a : Int)) fl_RX8_65 hS.t0 q_ps_4 dX8_isWord_17 ?_
      refine q_iload_n hF 0 rfl rfl dX8_isWord_20 ?_
      refine q_iadd hF dX8_isWord_21 ?_
      refine q_callV (kc := kc) (ks := ks) (mc' := 0) (ms' := 0) (h' := 0) (st := []) hF vl_RX8_68 rfl [qI ((a : Int) + (k : Int))] rfl rfl hS.t0 (by omega) (Nat.le_of_ble_eq_true rfl) dX8_isWord_22 ?_
      refine mX8_byteAtB (B := B) (n := n) (k := a + k) hS (hB.ps _) (by omega) ?_
      refine q_aload_n hF 2 rfl rfl dX8_isWord_25 ?_
      refine q_iload_n hF 0 rfl rfl dX8_isWord_26 ?_
      refine q_callVO (kc := kc) (ks := ks) (mc' := 0) (ms' := 0) (h' := 3) (st := [qI (g_bt B n (a + k))]) hF vo_RX8_87 rfl [qI (k : Int)] rfl rfl (q_O_K hi) (by omega) (Nat.le_of_ble_eq_true rfl) dX8_isWord_27 ?_
      refine mJ0_charAt_5068e (k := k) (i := i) hi (by omega) ?_
      refine q_icmpne hF (g_bt_32 hB _) (by have := g_ch_r (k := k) hi (by omega); omega) dX8_isWord_30 (fun c30 => ?_) (fun c30 => ?_)
      · refine q_iload_n hF 0 rfl rfl dX8_isWord_39 ?_
        refine q_aload_n hF 2 rfl rfl dX8_isWord_40 ?_
        refine q_callVO (kc := kc) (ks := ks) (mc' := 0) (ms' := 0) (h' := 1) (st := [qI (k : Int)]) hF vo_RX8_82 rfl [] rfl rfl (q_O_K hi) (by omega) (Nat.le_of_ble_eq_true rfl) dX8_isWord_41 ?_
        refine mJ0_length_8abf5 (i := i) hi ?_
        refine q_icmpne hF (by omega) (by omega) dX8_isWord_44 (fun c44 => ?_) (fun c44 => ?_)
        · refine q_iconst hF dX8_isWord_67 ?_
          refine q_zreturn hF (by decide) rfl dX8_isWord_68 ?_
          rw [q_b_f (c := g_isW B n i a) (fun h => by first | exact absurd (h.1 k (by omega)) c30 | (have h2 := h.2; rw [show g_len i = k by omega] at h2; exact absurd (by assumption) h2))] at k0; exact k0
        · refine q_aload_n hF 1 rfl rfl dX8_isWord_47 ?_
          refine q_aload_n hF 1 rfl rfl dX8_isWord_48 ?_
          refine q_getIv hF (z := (a : Int)) fl_RX8_65 hS.t0 q_ps_4 dX8_isWord_49 ?_
          refine q_iload_n hF 0 rfl rfl dX8_isWord_52 ?_
          refine q_iadd hF dX8_isWord_53 ?_
          refine q_callV (kc := kc) (ks := ks) (mc' := 0) (ms' := 0) (h' := 0) (st := []) hF vl_RX8_68 rfl [qI ((a : Int) + (k : Int))] rfl rfl hS.t0 (by omega) (Nat.le_of_ble_eq_true rfl) dX8_isWord_54 ?_
          refine mX8_byteAtB (B := B) (n := n) (k := a + k) hS (hB.ps _) (by omega) ?_
          refine q_callS (kc := kc) (ks := ks) (mc' := 0) (ms' := 0) (h' := 0) (st := []) hF sl_RX8_91 rfl [qI (g_bt B n (a + k))] rfl rfl (by omega) (Nat.le_of_ble_eq_true rfl) dX8_isWord_57 ?_
          refine mX8_isSmall (g_bt_32 hB _) ?_
          refine q_ifne_b hF dX8_isWord_60 (fun c60 => ?_) (fun c60 => ?_)
          · refine q_iconst hF dX8_isWord_67 ?_
            refine q_zreturn hF (by decide) rfl dX8_isWord_68 ?_
            rw [q_b_f (c := g_isW B n i a) (fun h => by first | exact absurd (h.1 k (by omega)) c30 | (have h2 := h.2; rw [show g_len i = k by omega] at h2; exact absurd (by assumption) h2))] at k0; exact k0
          · refine q_iconst hF dX8_isWord_63 ?_
            refine q_goto hF dX8_isWord_64 ?_
            refine q_zreturn hF (by decide) rfl dX8_isWord_68 ?_
            rw [q_b_t (c := g_isW B n i a) ⟨fun j hj => hall j (by omega), by rw [show g_len i = k by omega]; assumption⟩] at k0; exact k0
      · refine q_iinc hF (z' := ((1 + k : Nat) : Int)) (ls' := [(2, qI ((1 + k : Nat) : Int)), (0, .ref m), (1, .ref (q_K G i))]) 0 rfl (by first | rfl | omega) (by decide) rfl dX8_isWord_33 ?_
        refine q_goto hF dX8_isWord_36 ?_
        exact ih (1 + k) (by omega) (by omega) (fun j hj => by
          by_cases e : j = k
          · subst e; exact c30
          · exact hall j (by omega))
set_option maxRecDepth 100000 in
theorem mX8_isWordP {G : q_G} {sz : Nat} {T : q_T} {I L : q_I} {P : q_P} {Q : q_Q} {m : Nat} {i : Nat} {s : g_PS} {B : Nat → Int} {n : Nat}  (hS : q_SM T P m) (hSA : q_A G m) (hB : q_BT I m B n) (hi : i < 49) (hp : s.p ≤ n) (k0 : Q (.inl (some (qI (q_b (g_isW B n i (g_sk B n s.p)))))) sz T (q_ps I m { s with p := g_sk B n s.p }) L P) : qC G 4 0 0 YX8_isWord [.ref m, .ref (q_K G i)] sz T (q_ps I m s) L P Q := by
  refine qC_of (by decide +kernel) rfl rfl (Nat.le_of_ble_eq_true rfl) (fun F hF _ _ => ?_)
  have hn6 := hB.2.1
  have hq := g_sk_r (B := B) hp
  refine q_aload_n hF 0 rfl rfl dX8_isWord_0 ?_
  refine q_callV (kc := 0) (ks := 0) (mc' := 0) (ms' := 0) (h' := 1) (st := []) hF vl_RX8_78 rfl [] rfl rfl hS.t0 (by decide) (Nat.le_of_ble_eq_true rfl) dX8_isWord_1 ?_
  refine mX8_hereP (B := B) (n := n) hS hSA hB (by omega) ?_
  refine q_pop hF rfl dX8_isWord_4 ?_
  refine q_iconst hF dX8_isWord_5 ?_
  refine q_istore_n hF (ls' := [(2, qI 0), (0, .ref m), (1, .ref (q_K G i))]) rfl (by decide) rfl dX8_isWord_6 ?_
  exact lX8_isWord (by decide) hi (g_sk_r (B := B) hp).2 hF hS hSA hB k0 (g_len i + 1) 0 (by omega) (by omega) (fun j hj => absurd hj (Nat.not_lt_zero _))
set_option maxRecDepth 100000 in
theorem mX8_takesP {G : q_G} {sz : Nat} {T : q_T} {I L : q_I} {P : q_P} {Q : q_Q} {m : Nat} {i : Nat} {s : g_PS} {B : Nat → Int} {n : Nat}  (hS : q_SM T P m) (hSA : q_A G m) (hB : q_BT I m B n) (hi : i < 49) (hp : s.p ≤ n) (hfl : s.fl = 0) (k0 : ¬ (g_isW B n i (g_sk B n s.p)) → Q (.inl (some (qI 0))) sz T (q_ps I m { s with p := g_sk B n s.p }) L P) (k1 : g_isW B n i (g_sk B n s.p) → Q (.inl (some (qI 1))) sz T (q_ps I m { s with p := g_len i + (g_sk B n s.p) }) L P) : qC G 5 0 0 YX8_takes [.ref m, .ref (q_K G i)] sz T (q_ps I m s) L P Q := by
  refine qC_of (by decide +kernel) rfl rfl (Nat.le_of_ble_eq_true rfl) (fun F hF _ _ => ?_)
  have hn6 := hB.2.1
  have hq := g_sk_r (B := B) hp
  refine q_aload_n hF 0 rfl rfl dX8_takes_0 ?_
  refine q_callV (kc := 0) (ks := 0) (mc' := 0) (ms' := 0) (h' := 0) (st := []) hF vl_RX8_95 rfl [] rfl rfl hS.t0 (by decide) (Nat.le_of_ble_eq_true rfl) dX8_takes_1 ?_
  refine mX8_fineP hS (by first | decide | omega) ?_
  refine q_ifeq_b hF dX8_takes_4 (fun c4 => ?_) (fun c4 => ?_)
  · first | omega | exact absurd c4 hfl | exact absurd hfl c4
  · refine q_aload_n hF 0 rfl rfl dX8_takes_7 ?_
    refine q_aload_n hF 1 rfl rfl dX8_takes_8 ?_
    refine q_callV (kc := 0) (ks := 0) (mc' := 0) (ms' := 0) (h' := 4) (st := []) hF vl_RX8_99 rfl [.ref (q_K G i)] rfl rfl hS.t0 (by decide) (Nat.le_of_ble_eq_true rfl) dX8_takes_9 ?_
    refine mX8_isWordP (i := i) hS hSA hB hi (by omega) ?_
    refine q_ifne_b hF dX8_takes_12 (fun c12 => ?_) (fun c12 => ?_)
    · refine q_aload_n hF 0 rfl rfl dX8_takes_17 ?_
      refine q_dup hF rfl dX8_takes_18 ?_
      refine q_getIv hF (z := (g_sk B n s.p : Int)) fl_RX8_65 hS.t0 q_ps_4 dX8_takes_19 ?_
      refine q_aload_n hF 1 rfl rfl dX8_takes_22 ?_
      refine q_callVO (kc := 0) (ks := 0) (mc' := 0) (ms' := 0) (h' := 1) (st := [qI (g_sk B n s.p : Int), .ref m]) hF vo_RX8_82 rfl [] rfl rfl (q_O_K hi) (by decide) (Nat.le_of_ble_eq_true rfl) dX8_takes_23 ?_
      refine mJ0_length_8abf5 (i := i) hi ?_
      refine q_iadd hF dX8_takes_26 ?_
      refine q_putI hF fl_RX8_65 hS.t0 hSA dX8_takes_27 ?_
      rw [q_ps_w4 (x := (g_len i) + (g_sk B n s.p)) (by omega)]
      refine q_iconst hF dX8_takes_30 ?_
      refine q_zreturn hF (by decide) rfl dX8_takes_31 ?_
      exact k1 c12
    · refine q_iconst hF dX8_takes_15 ?_
      refine q_zreturn hF (by decide) rfl dX8_takes_16 ?_
      exact k0 c12
