/-! the reference: calls that tell -/
def g_account (r : Nat → Int) (i : Nat) (w : Int) : Int := if w = 8 then (if r (1043 + 12 * i) = 0 ∨ r (1043 + 12 * i) = 1 then g_bel r i else if r (1043 + 12 * i) = 2 then r (1047 + 12 * i) else -1) else r (1039 + 12 * i + w.toNat)
def g_sleepA (r : Nat → Int) (i : Nat) : Int := if g_bel r i = -1 ∨ ¬ (r (1043 + 12 * i) = 0 ∨ r (1043 + 12 * i) = 1) then -1 else g_sleep r i (g_bel r i)
def g_worth (r : Nat → Int) (i : Nat) (n : Int) : Int := if r (1043 + 12 * i) = 2 ∧ r (1049 + 12 * i) = 0 then r (1042 + 12 * i) + g_interest r i n else -1