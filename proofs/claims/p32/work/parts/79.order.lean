/-! the line of the order -/
/-- word j of the order at q, place p behind it; those in u are told already -/
def g_rdO1 (B : Nat → Int) (n : Nat) (s : g_PS) (t : Nat → Int) (u : List Nat) (q j p : Nat) (R : (Nat → Int) → List Nat → Nat → g_Rl) : g_Rl :=
  if j ∈ u then g_Rl.er 1 q
  else if g_sm (g_bt B n (g_sk B n p)) then R (g_up t (9 + u.length) (j : Int)) (j :: u) (g_sk B n p)
  else g_Rl.ok (g_mk (g_sk B n p) s.fl s.fa s.cd s.op s.on s.hp) (g_up (g_up t (9 + u.length) (j : Int)) 8 ((u.length + 1 : Nat) : Int))
def g_rdO (B : Nat → Int) (n : Nat) (s : g_PS) : Nat → (Nat → Int) → List Nat → Nat → g_Rl
  | 0, _, _, q => g_Rl.er 1 q
  | f + 1, t, u, q =>
    if g_isW B n 32 q then g_rdO1 B n s t u q 0 (g_len 32 + q) (g_rdO B n s f)
    else if g_isW B n 33 q then g_rdO1 B n s t u q 1 (g_len 33 + q) (g_rdO B n s f)
    else if g_isW B n 34 q then g_rdO1 B n s t u q 2 (g_len 34 + q) (g_rdO B n s f)
    else g_Rl.er 1 q
def g_rdOrder (B : Nat → Int) (n : Nat) (s : g_PS) (t : Nat → Int) (q : Nat) : g_Rl := g_rdO B n s 4 t [] q