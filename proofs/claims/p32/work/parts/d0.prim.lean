/-! what is told is read: bytes in their places -/
def e_at (B : Nat → Int) (n p : Nat) (bs : List Nat) : Prop := ∀ k, k < bs.length → g_bt B n (p + k) = (g_by bs k : Int)
section
variable {B : Nat → Int} {n p : Nat} {x y bs r : List Nat} {c : Nat}
theorem e_at.lf (h : e_at B n p (x ++ y)) : e_at B n p x := fun k hk => by rw [h k (by rw [List.length_append]; omega), g_by_l hk]
theorem e_at.ri (h : e_at B n p (x ++ y)) : e_at B n (p + x.length) y := fun k hk => by
  have q := h (x.length + k) (by rw [List.length_append]; omega)
  rw [g_by_r (by omega), show x.length + k - x.length = k by omega] at q
  rw [Nat.add_assoc]; exact q
theorem e_at.hd (h : e_at B n p (c :: r)) : g_bt B n p = (c : Int) := h 0 (Nat.succ_pos _)
theorem e_at.tl (h : e_at B n p (c :: r)) : e_at B n (p + 1) r := e_at.ri (x := [c]) h
theorem e_at.to (h : e_at B n p bs) {p' : Nat} (e : p = p') : e_at B n p' bs := by subst e; exact h
theorem e_at.cg (h : e_at B n p bs) {bs' : List Nat} (e : bs = bs') : e_at B n p bs' := by subst e; exact h
theorem e_at.le (h : e_at B n p bs) (hp : 0 < bs.length) : p + bs.length ≤ n := by
  have q := h (bs.length - 1) (by omega)
  have := g_bt_in (B := B) (n := n) (k := p + (bs.length - 1)) (by rw [q]; omega)
  omega
theorem g_by_sts {i k : Nat} (hi : i < 76) (hk : k < g_len i) : (g_by (g_sts i) k : Int) = g_ch i k := by
  unfold g_by g_sts g_spf
  rw [List.getD_eq_getElem?_getD, List.getElem?_map, List.getElem?_range hk]
  show (((g_ch i k).toNat : Nat) : Int) = _
  rw [Int.toNat_of_nonneg (by have := g_ch_p i hi k hk; omega)]
/-- a word stands there -/
theorem e_isW {i : Nat} (hi : i < 76) (h : e_at B n p (g_sts i ++ c :: r)) (hc : ¬ (97 ≤ c ∧ c ≤ 122)) : g_isW B n i p := by
  refine ⟨fun k hk => ?_, ?_⟩
  · rw [h.lf k (by rw [g_sts_len]; exact hk), g_by_sts hi hk]
  · have q := h.ri.hd
    rw [g_sts_len] at q
    rw [q]
    intro z
    omega
theorem e_nw {i k : Nat} (h : e_at B n p bs) (hk : k < bs.length) (hi : k < g_len i) (hne : (g_by bs k : Int) ≠ g_ch i k) : ¬ g_isW B n i p := fun z => hne ((h k hk).symm.trans (z.1 k hi))
theorem e_sp (h : e_at B n p (32 :: r)) : g_sk B n p = g_sk B n (p + 1) := by rw [g_sk_s h.hd, Nat.add_comm]
theorem e_sk (h : e_at B n p (c :: r)) (hc : c ≠ 32) : g_sk B n p = p := g_sk_e (by rw [h.hd]; omega)
theorem e_dg (d : Nat) (hd : d < 10) : g_dg (((48 + d : Nat) : Int)) := by unfold g_dg; omega
theorem e_nd : ∀ (e v p : Nat), e_at B n p (g_dgk v e ++ c :: r) → ¬ (48 ≤ c ∧ c ≤ 57) → g_nd B n p = p + (e + 1)
  | 0, v, p, h, hc => by
    have h : e_at B n p ((48 + v % 10) :: c :: r) := h
    have h1 : g_dg (g_bt B n p) := by rw [h.hd]; exact e_dg _ (Nat.mod_lt _ (by decide))
    rw [g_nd_s h1, Nat.add_comm 1 p, g_nd_e (by rw [h.tl.hd]; unfold g_dg; omega)]
  | e + 1, v, p, h, hc => by
    have h : e_at B n p ((48 + v / 10 ^ (e + 1) % 10) :: (g_dgk v e ++ c :: r)) := h
    have h1 : g_dg (g_bt B n p) := by rw [h.hd]; exact e_dg _ (Nat.mod_lt _ (by decide))
    rw [g_nd_s h1, Nat.add_comm 1 p, e_nd e v (p + 1) h.tl hc]
    omega
theorem e_nv : ∀ (e v acc p : Nat), e_at B n p (g_dgk v e ++ c :: r) → ¬ (48 ≤ c ∧ c ≤ 57) → (acc + 1) * 10 ^ (e + 1) ≤ 10000000 → g_nv B n p (acc : Int) = ((acc * 10 ^ (e + 1) + v % 10 ^ (e + 1) : Nat) : Int)
  | 0, v, acc, p, h, hc, ha => by
    have h : e_at B n p ((48 + v % 10) :: c :: r) := h
    have h1 : g_dg (g_bt B n p) := by rw [h.hd]; exact e_dg _ (Nat.mod_lt _ (by decide))
    rw [show (10 : Nat) ^ (0 + 1) = 10 from rfl] at ha ⊢
    rw [g_nv_s h1, Nat.add_comm 1 p, g_nv_e (by rw [h.tl.hd]; unfold g_dg; omega), h.hd]
    omega
  | e + 1, v, acc, p, h, hc, ha => by
    have h : e_at B n p ((48 + v / 10 ^ (e + 1) % 10) :: (g_dgk v e ++ c :: r)) := h
    have h1 : g_dg (g_bt B n p) := by rw [h.hd]; exact e_dg _ (Nat.mod_lt _ (by decide))
    have hP : (10 : Nat) ^ (e + 1 + 1) = 10 ^ (e + 1) * 10 := Nat.pow_succ ..
    have h0 : 0 < (10 : Nat) ^ (e + 1) := Nat.pow_pos (by decide)
    have hm := Nat.mod_mul (a := 10 ^ (e + 1)) (b := 10) (x := v)
    have hD : v / 10 ^ (e + 1) % 10 < 10 := Nat.mod_lt _ (by decide)
    have hb := h.hd
    have ht := h.tl
    rw [hP] at ha ⊢
    rw [hm]
    have ih := fun a h2 => e_nv e v a (p + 1) ht hc h2
    generalize 10 ^ (e + 1) = X at *
    generalize v / X % 10 = D at *
    have hq : (10 * acc + D + 1) * X ≤ 10000000 := Nat.le_trans (Nat.mul_le_mul_right X (show 10 * acc + D + 1 ≤ (acc + 1) * 10 by omega)) (by rw [Nat.mul_assoc, Nat.mul_comm 10 X]; exact ha)
    have hq2 : 10 * acc + D + 1 ≤ 10000000 := Nat.le_trans (Nat.le_mul_of_pos_right _ h0) hq
    rw [g_nv_s h1, Nat.add_comm 1 p, hb, show min 10000000 (10 * (acc : Int) + ((48 + D : Nat) : Int) - 48) = ((10 * acc + D : Nat) : Int) by omega, ih _ hq]
    congr 1
    rw [Nat.add_mul, Nat.mul_comm D X, Nat.mul_comm 10 acc, Nat.mul_assoc, Nat.mul_comm 10 X]
    omega
theorem e_num {v : Nat} (hv : v < 100000) (h : e_at B n p (g_dg9 v ++ c :: r)) (hc : ¬ (48 ≤ c ∧ c ≤ 57)) : g_dg (g_bt B n p) ∧ g_nd B n p = p + (g_dg9 v).length ∧ g_nv B n p 0 = (v : Int) := by
  have hlt : v < 10 ^ (g_dge v + 1) ∧ (0 + 1) * 10 ^ (g_dge v + 1) ≤ 10000000 := by
    unfold g_dge
    by_cases h1 : v < 10
    · rw [if_pos h1]; exact ⟨h1, by decide⟩
    · rw [if_neg h1]
      by_cases h2 : v < 100
      · rw [if_pos h2]; exact ⟨h2, by decide⟩
      · rw [if_neg h2]
        by_cases h3 : v < 1000
        · rw [if_pos h3]; exact ⟨h3, by decide⟩
        · rw [if_neg h3]
          by_cases h4 : v < 10000
          · rw [if_pos h4]; exact ⟨h4, by decide⟩
          · rw [if_neg h4]; exact ⟨hv, by decide⟩
  refine ⟨?_, ?_, ?_⟩
  · cases e : g_dge v with
    | zero =>
      have h' : e_at B n p (g_dgk v 0 ++ c :: r) := by rw [← e]; exact h
      have h' : e_at B n p ((48 + v % 10) :: c :: r) := h'
      rw [h'.hd]; exact e_dg _ (Nat.mod_lt _ (by decide))
    | succ e9 =>
      have h' : e_at B n p (g_dgk v (e9 + 1) ++ c :: r) := by rw [← e]; exact h
      have h' : e_at B n p ((48 + v / 10 ^ (e9 + 1) % 10) :: (g_dgk v e9 ++ c :: r)) := h'
      rw [h'.hd]; exact e_dg _ (Nat.mod_lt _ (by decide))
  · rw [g_dg9_len]; exact e_nd _ v p h hc
  · have q := e_nv (g_dge v) v 0 p h hc hlt.2
    rw [Nat.zero_mul, Nat.zero_add, Nat.mod_eq_of_lt hlt.1] at q
    exact q
theorem g_sts_49 : g_sts 49 = [32] := by decide +kernel
theorem e_nu {v : Nat} {lo hi : Int} {K : Int → Nat → g_Rl} (hv : v < 100000) (h : e_at B n p (g_nb9 v ++ c :: r)) (hc : ¬ (48 ≤ c ∧ c ≤ 57)) (h1 : lo ≤ (v : Int)) (h2 : (v : Int) ≤ hi) : g_nu B n lo hi p K = K (v : Int) (p + (g_nb9 v).length) := by
  have h : e_at B n p (32 :: (g_dg9 v ++ c :: r)) := h.cg (by unfold g_nb9; rw [g_sts_49]; rfl)
  obtain ⟨a1, a2, a3⟩ := e_num hv h.tl hc
  have hs : g_sk B n p = p + 1 := by
    rw [e_sp h]
    exact g_sk_e (fun z => by rw [z] at a1; unfold g_dg at a1; omega)
  have hl : (g_nb9 v).length = 1 + (g_dg9 v).length := by unfold g_nb9; rw [g_sts_49]; exact Nat.add_comm _ _
  unfold g_nu
  rw [hs, if_pos a1, a3, if_pos ⟨h1, h2⟩, a2, hl, Nat.add_assoc]
end
