/-! the reference: calls that add up -/
def g_print (r : Nat → Int) : Nat → Int
  | 0 => 0
  | n + 1 => 31 * (31 * (31 * g_print r n + r (1042 + 12 * n)) + r (1043 + 12 * n)) + r (1045 + 12 * n)
def g_liveC (r : Nat → Int) (k : Nat) : Int := if r (1043 + 12 * k) = 0 ∨ r (1043 + 12 * k) = 1 then r (1042 + 12 * k) else 0
def g_handC (r : Nat → Int) (k : Nat) : Int := if r (1043 + 12 * k) = 2 then r (1042 + 12 * k) else 0
def g_heldC (r : Nat → Int) (l : Int) (k : Nat) : Int := if r (1043 + 12 * k) = 2 ∧ r (1047 + 12 * k) = l then r (1042 + 12 * k) else 0
def g_rowC (r : Nat → Int) (l : Int) (k : Nat) : Int := if r (1185 + 5 * k) = l then r (1186 + 5 * k) else 0
def g_aheadC (r : Nat → Int) (l : Int) (k : Nat) : Int := if l = -1 ∨ r (1185 + 5 * k) = l then r (1186 + 5 * k) else 0