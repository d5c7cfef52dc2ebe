/-! the line of a land -/
def g_nu (B : Nat → Int) (n : Nat) (lo hi : Int) (p : Nat) (f : Int → Nat → g_Rl) : g_Rl :=
  if g_dg (g_bt B n (g_sk B n p)) then (if lo ≤ g_nv B n (g_sk B n p) 0 ∧ g_nv B n (g_sk B n p) 0 ≤ hi then f (g_nv B n (g_sk B n p) 0) (g_nd B n (g_sk B n p)) else g_Rl.er 2 (g_sk B n p)) else g_Rl.er 1 (g_sk B n p)
/-- k letters of the name at q, told of land l -/
def g_nms (B : Nat → Int) (n : Nat) (t : Nat → Int) (l q k : Nat) : Nat → Int := fun i => if 24 + 13 * l ≤ i ∧ i < 24 + 13 * l + k then g_bt B n (q + (i - (24 + 13 * l))) else t i
theorem g_nms_0 {B : Nat → Int} {n : Nat} {t : Nat → Int} {l q : Nat} : g_nms B n t l q 0 = t := by funext i; unfold g_nms; rw [if_neg (by omega)]
theorem g_nms_s {B : Nat → Int} {n : Nat} {t : Nat → Int} {l q k : Nat} : g_up (g_nms B n t l q k) (24 + 13 * l + k) (g_bt B n (q + k)) = g_nms B n t l q (1 + k) := by
  funext i
  unfold g_up g_nms
  by_cases e : i = 24 + 13 * l + k
  · rw [if_pos e, if_pos (by omega), show q + (i - (24 + 13 * l)) = q + k by omega]
  · rw [if_neg e]
    by_cases e2 : 24 + 13 * l ≤ i ∧ i < 24 + 13 * l + k
    · rw [if_pos e2, if_pos (by omega)]
    · rw [if_neg e2, if_neg (by omega)]
def g_t1 (t : Nat → Int) (l c : Nat) (v1 v2 v3 v4 : Int) : Nat → Int := g_up (g_up (g_up (g_up (g_up t (30 + 13 * l) (c : Int)) (31 + 13 * l) v1) (32 + 13 * l) v2) (33 + 13 * l) v3) (34 + 13 * l) v4
def g_rdLand (B : Nat → Int) (n : Nat) (s : g_PS) (t : Nat → Int) (l wh q : Nat) : g_Rl :=
  if (l : Int) = 5 then g_Rl.er 4 wh
  else if g_nm B n q then (if g_lnd B n t q (g_nl B n q) = -1 then
    g_nu B n 0 11 (g_nl B n q + q) fun v1 p1 => g_nu B n 0 9999 p1 fun v2 p2 => g_nu B n 0 999 p2 fun v3 p3 => g_nu B n 1 50 p3 fun v4 p4 =>
      g_Rl.ok (g_mk p4 s.fl s.fa s.cd s.op s.on s.hp) (g_up (g_t1 (g_nms B n t l q (g_nl B n q)) l (g_nl B n q) v1 v2 v3 v4) 0 (g_t1 (g_nms B n t l q (g_nl B n q)) l (g_nl B n q) v1 v2 v3 v4 0 + 1)) else g_Rl.er 3 q)
  else g_Rl.er 1 q