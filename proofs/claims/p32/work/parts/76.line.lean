/-! lines of a text -/
def g_or (a b : Int) : Int := (Int32.ofInt a ||| Int32.ofInt b).toInt
theorem g_or_o (a b : Int) : Int32.ofInt a ||| Int32.ofInt b = Int32.ofInt (g_or a b) := q_i32 _
abbrev g_Rl : Type := (g_PS × (Nat → Int)) ⊕ (Int × Nat)
abbrev g_Rl.ok (s : g_PS) (t : Nat → Int) : g_Rl := .inl (s, t)
abbrev g_Rl.er (w : Int) (x : Nat) : g_Rl := .inr (w, x)
/-- behind pays and a kind -/
def g_rdP (B : Nat → Int) (n : Nat) (s : g_PS) (t : Nat → Int) (k : Nat) (kz : Int) (p : Nat) (wh : Nat) : g_Rl :=
  if g_and (g_shr s.hp kz) 1 = 1 then g_Rl.er 6 wh
  else if g_dg (g_bt B n (g_sk B n p)) then (if 0 ≤ g_nv B n (g_sk B n p) 0 ∧ g_nv B n (g_sk B n p) 0 ≤ 999 then g_Rl.ok (g_mk (g_nd B n (g_sk B n p)) s.fl s.fa s.cd s.op s.on (g_or s.hp (g_shl 1 kz))) (g_up t (12 + k) (g_nv B n (g_sk B n p) 0)) else g_Rl.er 2 (g_sk B n p)) else g_Rl.er 1 (g_sk B n p)
def g_rdPays (B : Nat → Int) (n : Nat) (s : g_PS) (t : Nat → Int) (q : Nat) : g_Rl :=
  if g_isW B n 27 q then g_rdP B n s t 0 0 (g_len 27 + q) q
  else if g_isW B n 28 q then g_rdP B n s t 1 1 (g_len 28 + q) q
  else if g_isW B n 29 q then g_rdP B n s t 2 2 (g_len 29 + q) q
  else if g_isW B n 30 q then g_rdP B n s t 3 3 (g_len 30 + q) q
  else if g_isW B n 31 q then g_rdP B n s t 4 4 (g_len 31 + q) q
  else g_Rl.er 1 q