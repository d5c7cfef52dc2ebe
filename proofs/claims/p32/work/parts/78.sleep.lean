/-! the line of a law -/
def g_bl (r : g_Re) (f : Nat → List Int → g_Rl) : g_Rl := match r with
  | .inl c => f c.1 c.2
  | .inr e => .inr e
theorem g_bl_k (p : Nat) (cs : List Int) (f : Nat → List Int → g_Rl) : g_bl (g_Re.ok p cs) f = f p cs := rfl
theorem g_bl_e (w : Int) (x : Nat) (f : Nat → List Int → g_Rl) : g_bl (g_Re.er w x) f = g_Rl.er w x := rfl
/-- behind sleep and a kind, at q -/
def g_rdS (B : Nat → Int) (n f : Nat) (s : g_PS) (t : Nat → Int) (kz : Int) (q : Nat) : g_Rl :=
  if g_nm B n q then (if g_lnd B n t q (g_nl B n q) = -1 then g_Rl.er 3 q else
    if 0 < t (89 + 2 * (5 * kz + g_lnd B n t q (g_nl B n q)) + 1).toNat then g_Rl.er 6 q else
      g_bl (g_ex B n f 3 0 (g_nl B n q + q)) fun p1 cs => g_Rl.ok (g_mk p1 s.fl s.fa (s.cd + g_el cs) 0 s.on s.hp) (g_up (g_up (g_app t (139 + s.cd) (g_encs cs)) (89 + 2 * (5 * kz + g_lnd B n t q (g_nl B n q))).toNat (s.cd : Int)) (89 + 2 * (5 * kz + g_lnd B n t q (g_nl B n q)) + 1).toNat ((s.cd + g_el cs : Nat) : Int)))
  else g_Rl.er 1 q
def g_rdSleep (B : Nat → Int) (n f : Nat) (s : g_PS) (t : Nat → Int) (q : Nat) : g_Rl :=
  if g_isW B n 27 q then g_rdS B n f s t 0 (g_sk B n (g_len 27 + q))
  else if g_isW B n 28 q then g_rdS B n f s t 1 (g_sk B n (g_len 28 + q))
  else if g_isW B n 29 q then g_rdS B n f s t 2 (g_sk B n (g_len 29 + q))
  else if g_isW B n 30 q then g_rdS B n f s t 3 (g_sk B n (g_len 30 + q))
  else if g_isW B n 31 q then g_rdS B n f s t 4 (g_sk B n (g_len 31 + q))
  else g_Rl.er 1 q