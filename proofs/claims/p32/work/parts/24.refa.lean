/-! the reference: more calls that change it -/
def g_oaddress (r : Nat → Int) (i : Nat) (l : Int) : Nat → Int := g_up r (1040 + 12 * i) l

def g_interest (r : Nat → Int) (i : Nat) (n : Int) : Int := (r (1042 + 12 * i) * r (33 + 13 * (r (1047 + 12 * i)).toNat) * min (r 2 + n - r (1050 + 12 * i)) (12 * r (34 + 13 * (r (1047 + 12 * i)).toNat))).tdiv 120000
theorem g_mul3 {c r k : Int} (hc : 0 ≤ c ∧ c ≤ 100000000) (hr : 0 ≤ r ∧ r ≤ 999) (hk : 0 ≤ k ∧ k ≤ 600) : 0 ≤ c * r * k ∧ c * r * k ≤ 59940000000000 := by
  have h1 := Int.mul_nonneg hc.1 hr.1
  have h2 : c * r ≤ 100000000 * 999 := Int.mul_le_mul hc.2 hr.2 hr.1 (by decide)
  have h3 := Int.mul_nonneg h1 hk.1
  have h4 : c * r * k ≤ (100000000 * 999) * 600 := Int.mul_le_mul h2 hk.2 hk.1 (by decide)
  omega
def g_oclaim (r : Nat → Int) (i l : Nat) : Nat → Int := g_up (g_up (g_up (g_up r (35 + 13 * l) ((r (35 + 13 * l)) + (g_interest (r) i 0))) 23 ((r 23) + (r (1042 + 12 * i)))) (1042 + 12 * i) 0) (1043 + 12 * i) 3

def g_opass (r : Nat → Int) (i l : Nat) : Nat → Int := g_up (g_up r (1047 + 12 * i) (l : Int)) (36 + 13 * l) ((r (36 + 13 * l)) + (r (1042 + 12 * i)))
