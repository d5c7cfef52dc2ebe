/-! bits of small sets -/
theorem q_i32 (x : Int32) : x = Int32.ofInt x.toInt := (Int32.ofInt_toInt x).symm
def g_and (a b : Int) : Int := (Int32.ofInt a &&& Int32.ofInt b).toInt
def g_xori (a b : Int) : Int := (Int32.ofInt a ^^^ Int32.ofInt b).toInt
def g_shr (a b : Int) : Int := (Int32.ofInt a >>> (Int32.ofInt b &&& 31)).toInt
def g_shl (a b : Int) : Int := (Int32.ofInt a <<< (Int32.ofInt b &&& 31)).toInt
def g_ushr (a b : Int) : Int := (((Int32.ofInt a).toUInt32 >>> ((Int32.ofInt b).toUInt32 &&& Int32.toUInt32 31)).toInt32).toInt
theorem g_and_o (a b : Int) : Int32.ofInt a &&& Int32.ofInt b = Int32.ofInt (g_and a b) := q_i32 _
theorem g_xori_o (a b : Int) : Int32.ofInt a ^^^ Int32.ofInt b = Int32.ofInt (g_xori a b) := q_i32 _
theorem g_shr_o (a b : Int) : Int32.ofInt a >>> (Int32.ofInt b &&& 31) = Int32.ofInt (g_shr a b) := q_i32 _
theorem g_shl_o (a b : Int) : Int32.ofInt a <<< (Int32.ofInt b &&& 31) = Int32.ofInt (g_shl a b) := q_i32 _
theorem g_ushr_o (a b : Int) : ((Int32.ofInt a).toUInt32 >>> ((Int32.ofInt b).toUInt32 &&& Int32.toUInt32 31)).toInt32 = Int32.ofInt (g_ushr a b) := q_i32 _
theorem g_and_r (a b : Int) : -2147483648 ≤ g_and a b ∧ g_and a b < 2147483648 := qi_rng _
theorem g_shr_r (a b : Int) : -2147483648 ≤ g_shr a b ∧ g_shr a b < 2147483648 := qi_rng _
/-- how many of the first twelve bits -/
def g_pop (s : Nat) : Nat → Nat
  | 0 => 0
  | n + 1 => g_pop s n + (if s.testBit n then 1 else 0)
theorem g_pop_s (s n : Nat) : g_pop s (n + 1) = g_pop s n + (if s.testBit n then 1 else 0) := rfl
/-- the machine's own way to count them -/
def g_bc1 (a : Int) : Int := a - g_and (g_ushr a 1) 1431655765
def g_bc2 (a : Int) : Int := g_and a 858993459 + g_and (g_ushr a 2) 858993459
def g_bc3 (a : Int) : Int := g_and (a + g_ushr a 4) 252645135
def g_bc4 (a : Int) : Int := a + g_ushr a 8
def g_bc5 (a : Int) : Int := g_and (a + g_ushr a 16) 63
def g_bc (a : Int) : Int := g_bc5 (g_bc4 (g_bc3 (g_bc2 (g_bc1 a))))
set_option maxRecDepth 100000 in
theorem g_bc_all : (List.range 4096).all (fun s => decide (g_bc (s : Int) = (g_pop s 12 : Nat))) = true := by decide +kernel
theorem g_bc_pop {s : Nat} (h : s < 4096) : g_bc (s : Int) = (g_pop s 12 : Nat) := of_decide_eq_true (List.all_eq_true.mp g_bc_all s (List.mem_range.mpr h))
set_option maxRecDepth 100000 in
theorem g_bit_all : (List.range 12).all (fun i => (List.range 4096).all (fun s => decide (g_and (g_shr (s : Int) (i : Int)) 1 = if s.testBit i then 1 else 0))) = true := by decide +kernel
theorem g_bit {s i : Nat} (h : s < 4096) (hi : i < 12) : g_and (g_shr (s : Int) (i : Int)) 1 = if s.testBit i then 1 else 0 :=
  of_decide_eq_true (List.all_eq_true.mp (List.all_eq_true.mp g_bit_all i (List.mem_range.mpr hi)) s (List.mem_range.mpr h))
theorem g_pop_le (s : Nat) : ∀ n, g_pop s n ≤ n
  | 0 => Nat.le_refl _
  | n + 1 => by
    have := g_pop_le s n
    rw [g_pop_s]
    split <;> omega
theorem q_bv12 {s : Nat} (h : s < 4096) (i : Nat) : (Int32.ofInt (s : Int)).toBitVec.getLsbD i = s.testBit i := by
  rw [Int32.toBitVec_ofInt, BitVec.ofInt_natCast, BitVec.getLsbD_ofNat]
  by_cases hi : i < 32
  · simp [hi]
  · have : s.testBit i = false := Nat.testBit_lt_two_pow (Nat.lt_of_lt_of_le h (by
      calc 4096 = 2 ^ 12 := by decide
        _ ≤ 2 ^ i := Nat.pow_le_pow_right (by decide) (by omega)))
    simp [this]
/-- s & ~c is nought: all of s lies in c -/
theorem g_out {s c : Nat} (hs : s < 4096) (hc : c < 4096) : g_and (s : Int) (g_xori (c : Int) (-1)) = 0 ↔ ∀ i, s.testBit i = true → c.testBit i = true := by
  have e : Int32.ofInt (g_xori (c : Int) (-1)) = Int32.ofInt (c : Int) ^^^ Int32.ofInt (-1) := (g_xori_o _ _).symm
  have e1 : (Int32.ofInt (-1)).toBitVec = BitVec.allOnes 32 := by decide
  unfold g_and
  rw [e]
  constructor
  · intro h i hi
    have h0 : Int32.ofInt (s : Int) &&& (Int32.ofInt (c : Int) ^^^ Int32.ofInt (-1)) = 0 := Int32.toInt_inj.mp (by rw [h]; rfl)
    have h1 := congrArg (fun x : Int32 => x.toBitVec.getLsbD i) h0
    simp only [Int32.toBitVec_and, Int32.toBitVec_xor, BitVec.getLsbD_and, BitVec.getLsbD_xor, q_bv12 hs, q_bv12 hc, e1, BitVec.getLsbD_allOnes, hi] at h1
    have hi32 : i < 32 := by
      by_cases q : i < 32
      · exact q
      · have h2 : s.testBit i = false := by
          rw [← q_bv12 hs]
          exact BitVec.getLsbD_of_ge _ _ (by omega)
        rw [h2] at hi
        cases hi
    simp [hi32] at h1
    exact h1
  · intro h
    have h0 : Int32.ofInt (s : Int) &&& (Int32.ofInt (c : Int) ^^^ Int32.ofInt (-1)) = 0 := by
      apply Int32.toBitVec_inj.mp
      apply BitVec.eq_of_getLsbD_eq
      intro i hi
      simp only [Int32.toBitVec_and, Int32.toBitVec_xor, BitVec.getLsbD_and, BitVec.getLsbD_xor, q_bv12 hs, q_bv12 hc, e1, BitVec.getLsbD_allOnes, hi]
      have := h i
      cases h1 : s.testBit i <;> cases h2 : c.testBit i <;> simp_all
    rw [h0]
    rfl
