/-! machine numbers as Int: qI z, qL z stand for z modulo 2^32, 2^64 -/
abbrev qI (z : Int) : Value := .int (Int32.ofInt z)
abbrev qL (z : Int) : Value := .long (Int64.ofInt z)
abbrev qR (r : Option Nat) : Value := va_rf r
theorem qi_toInt {a : Int} (ha : -2147483648 ≤ a ∧ a < 2147483648) : (Int32.ofInt a).toInt = a := Int32.toInt_ofInt_of_le (by omega) (by omega)
theorem ql_toInt {a : Int} (ha : -9223372036854775808 ≤ a ∧ a < 9223372036854775808) : (Int64.ofInt a).toInt = a := Int64.toInt_ofInt_of_le (by omega) (by omega)
theorem qi_lt {a b : Int} (ha : -2147483648 ≤ a ∧ a < 2147483648) (hb : -2147483648 ≤ b ∧ b < 2147483648) : Int32.ofInt a < Int32.ofInt b ↔ a < b := by
  rw [Int32.lt_iff_toInt_lt, qi_toInt ha, qi_toInt hb]
theorem qi_le {a b : Int} (ha : -2147483648 ≤ a ∧ a < 2147483648) (hb : -2147483648 ≤ b ∧ b < 2147483648) : Int32.ofInt a ≤ Int32.ofInt b ↔ a ≤ b := by
  rw [Int32.le_iff_toInt_le, qi_toInt ha, qi_toInt hb]
theorem qi_eq {a b : Int} (ha : -2147483648 ≤ a ∧ a < 2147483648) (hb : -2147483648 ≤ b ∧ b < 2147483648) : Int32.ofInt a = Int32.ofInt b ↔ a = b := by
  rw [← Int32.toInt_inj, qi_toInt ha, qi_toInt hb]
theorem ql_lt {a b : Int} (ha : -9223372036854775808 ≤ a ∧ a < 9223372036854775808) (hb : -9223372036854775808 ≤ b ∧ b < 9223372036854775808) : Int64.ofInt a < Int64.ofInt b ↔ a < b := by
  rw [Int64.lt_iff_toInt_lt, ql_toInt ha, ql_toInt hb]
theorem ql_eq {a b : Int} (ha : -9223372036854775808 ≤ a ∧ a < 9223372036854775808) (hb : -9223372036854775808 ≤ b ∧ b < 9223372036854775808) : Int64.ofInt a = Int64.ofInt b ↔ a = b := by
  rw [← Int64.toInt_inj, ql_toInt ha, ql_toInt hb]
theorem qi_0 : (0 : Int32) = Int32.ofInt 0 := rfl
theorem qi_lt0 {a : Int} (ha : -2147483648 ≤ a ∧ a < 2147483648) : Int32.ofInt a < 0 ↔ a < 0 := by rw [qi_0, qi_lt ha (by decide)]
theorem qi_ge0 {a : Int} (ha : -2147483648 ≤ a ∧ a < 2147483648) : 0 ≤ Int32.ofInt a ↔ 0 ≤ a := by rw [qi_0, qi_le (by decide) ha]
theorem qi_le0 {a : Int} (ha : -2147483648 ≤ a ∧ a < 2147483648) : Int32.ofInt a ≤ 0 ↔ a ≤ 0 := by rw [qi_0, qi_le ha (by decide)]
theorem qi_gt0 {a : Int} (ha : -2147483648 ≤ a ∧ a < 2147483648) : 0 < Int32.ofInt a ↔ 0 < a := by rw [qi_0, qi_lt (by decide) ha]
theorem qi_eq0 {a : Int} (ha : -2147483648 ≤ a ∧ a < 2147483648) : Int32.ofInt a = 0 ↔ a = 0 := by rw [qi_0, qi_eq ha (by decide)]
theorem qi_nat {k : Nat} : Int32.ofInt (k : Int) = Int32.ofNat k := Int32.ofInt_eq_ofNat
theorem qi_cl {a : Int} (ha : 0 ≤ a ∧ a < 2147483648) : (Int32.ofInt a).toNatClampNeg = a.toNat := by
  show ((Int32.ofInt a).toInt).toNat = a.toNat
  rw [qi_toInt (by omega)]
theorem qi_in {a : Int} {n : Nat} (ha : 0 ≤ a ∧ a < (n : Int)) (hn : n < 2147483648) : vp_in (Int32.ofInt a) n := by
  rw [vp_in_iff, qi_toInt (by omega)]
  exact ha
theorem qi_64 {a : Int} (ha : -2147483648 ≤ a ∧ a < 2147483648) : (Int32.ofInt a).toInt64 = Int64.ofInt a := by
  rw [← Int64.toInt_inj, Int32.toInt_toInt64, qi_toInt ha, ql_toInt (by omega)]
theorem qi_self (v : Int32) : v = Int32.ofInt v.toInt := (Int32.ofInt_toInt v).symm
theorem qi_rng (v : Int32) : -2147483648 ≤ v.toInt ∧ v.toInt < 2147483648 := ⟨by have := Int32.le_toInt v; omega, by have := Int32.toInt_lt v; omega⟩
theorem qi_div {a b : Int} (ha : -2147483647 ≤ a ∧ a < 2147483648) (hb : -2147483648 ≤ b ∧ b < 2147483648) : Int32.ofInt a / Int32.ofInt b = Int32.ofInt (a.tdiv b) := by
  rw [← Int32.toInt_inj, Int32.toInt_div, qi_toInt (by omega), qi_toInt hb, Int32.toInt_ofInt]
theorem qi_rem {a b : Int} (ha : -2147483648 ≤ a ∧ a < 2147483648) (hb : -2147483648 ≤ b ∧ b < 2147483648) : Int32.ofInt a % Int32.ofInt b = Int32.ofInt (a.tmod b) := by
  have h : (a.tmod b) = (Int32.ofInt a % Int32.ofInt b).toInt := by rw [Int32.toInt_mod, qi_toInt ha, qi_toInt hb]
  rw [h]; exact qi_self _
theorem ql_div {a b : Int} (ha : -9223372036854775808 ≤ a ∧ a < 9223372036854775808) (hb : -9223372036854775808 ≤ b ∧ b < 9223372036854775808) : Int64.ofInt a / Int64.ofInt b = Int64.ofInt (a.tdiv b) := by
  rw [← Int64.toInt_inj, Int64.toInt_div, ql_toInt ha, ql_toInt hb, Int64.toInt_ofInt]
theorem ql_rem {a b : Int} (ha : -9223372036854775808 ≤ a ∧ a < 9223372036854775808) (hb : -9223372036854775808 ≤ b ∧ b < 9223372036854775808) : Int64.ofInt a % Int64.ofInt b = Int64.ofInt (a.tmod b) := by
  have h : (a.tmod b) = (Int64.ofInt a % Int64.ofInt b).toInt := by rw [Int64.toInt_mod, ql_toInt ha, ql_toInt hb]
  rw [h]; exact (Int64.ofInt_toInt _).symm
/-- lcmp's answer -/
def q_cmp (a b : Int) : Int := if a < b then -1 else if a = b then 0 else 1
theorem q_cmp_r (a b : Int) : -2147483648 ≤ q_cmp a b ∧ q_cmp a b < 2147483648 := by unfold q_cmp; split <;> (try split) <;> decide
theorem q_cmp_lt {a b : Int} : q_cmp a b < 0 ↔ a < b := by unfold q_cmp; split <;> (try split) <;> omega
theorem q_cmp_le {a b : Int} : q_cmp a b ≤ 0 ↔ a ≤ b := by unfold q_cmp; split <;> (try split) <;> omega
theorem q_cmp_eq {a b : Int} : q_cmp a b = 0 ↔ a = b := by unfold q_cmp; split <;> (try split) <;> omega
theorem q_cmp_gt {a b : Int} : 0 < q_cmp a b ↔ b < a := by unfold q_cmp; split <;> (try split) <;> omega
theorem q_cmp_ge {a b : Int} : 0 ≤ q_cmp a b ↔ b ≤ a := by unfold q_cmp; split <;> (try split) <;> omega
theorem q_lcmp_eq {a b : Int} (ha : -9223372036854775808 ≤ a ∧ a < 9223372036854775808) (hb : -9223372036854775808 ≤ b ∧ b < 9223372036854775808) : lg_cmp (Int64.ofInt a) (Int64.ofInt b) = Int32.ofInt (q_cmp a b) := by
  unfold lg_cmp q_cmp
  by_cases h1 : a < b
  · rw [if_pos h1, if_neg (by rw [gt_iff_lt, ql_lt hb ha]; omega), if_neg (by rw [ql_eq ha hb]; omega)]; rfl
  · by_cases h2 : a = b
    · rw [if_neg h1, if_pos h2, if_neg (by rw [gt_iff_lt, ql_lt hb ha]; omega), if_pos (by rw [h2])]; rfl
    · rw [if_neg h1, if_neg h2, if_pos (by rw [gt_iff_lt, ql_lt hb ha]; omega)]; rfl
/-- a boolean as a number -/
def q_b (c : Prop) [Decidable c] : Int := if c then 1 else 0
theorem q_b_01 (c : Prop) [Decidable c] : q_b c = 0 ∨ q_b c = 1 := by unfold q_b; split <;> simp
theorem q_b_r (c : Prop) [Decidable c] : -2147483648 ≤ q_b c ∧ q_b c < 2147483648 := by unfold q_b; split <;> decide
theorem q_b_0 {c : Prop} [Decidable c] : q_b c = 0 ↔ ¬ c := by unfold q_b; split <;> simp [*]
theorem q_b_t {c : Prop} [Decidable c] (h : c) : q_b c = 1 := if_pos h
theorem q_b_f {c : Prop} [Decidable c] (h : ¬ c) : q_b c = 0 := if_neg h
/-! memory: by address and place -/
abbrev q_K : Type := Nat ⊕ (Nat × Nat)
abbrev q_T : Type := Nat → Option q_K
abbrev q_I : Type := Nat → Nat → Int
abbrev q_P : Type := Nat → Nat → Option Nat
def u2 {α : Type} (f : Nat → Nat → α) (a i : Nat) (v : α) : Nat → Nat → α := fun q k => if q = a ∧ k = i then v else f q k
theorem u2_s {α : Type} (f : Nat → Nat → α) (a i : Nat) (v : α) : u2 f a i v a i = v := if_pos ⟨rfl, rfl⟩
theorem u2_a {α : Type} (f : Nat → Nat → α) {a i q k : Nat} (v : α) (h : q ≠ a) : u2 f a i v q k = f q k := if_neg (fun e => h e.1)
theorem u2_k {α : Type} (f : Nat → Nat → α) {a i q k : Nat} (v : α) (h : k ≠ i) : u2 f a i v q k = f q k := if_neg (fun e => h e.2)
theorem u2_u {α : Type} (f : Nat → Nat → α) (a i : Nat) (v w : α) : u2 (u2 f a i v) a i w = u2 f a i w := by
  funext q k
  unfold u2
  split <;> rfl
