/-! the reference: calls that change it -/
def g_ocontact (r : Nat → Int) (i : Nat) : Nat → Int := g_up (g_up r (1045 + 12 * i) 0) (1043 + 12 * i) 0

def g_oclose (r : Nat → Int) (i : Nat) : Nat → Int := g_up (g_up (g_up r 19 ((r 19) + (r (1042 + 12 * i)))) (1042 + 12 * i) 0) (1043 + 12 * i) 4

def g_odeposit (r : Nat → Int) (i : Nat) (c : Int) : Nat → Int := g_up (g_up (g_up (g_up r (1045 + 12 * i) 0) (1043 + 12 * i) 0) (1042 + 12 * i) ((r (1042 + 12 * i)) + c)) 17 ((r 17) + c)

def g_odraw (r : Nat → Int) (i : Nat) (c : Int) : Nat → Int := g_up (g_up (g_up (g_up r (1045 + 12 * i) 0) (1043 + 12 * i) 0) (1042 + 12 * i) ((r (1042 + 12 * i)) + (-c))) 19 ((r 19) + c)
