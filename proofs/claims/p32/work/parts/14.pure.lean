/-! what a row of the reference means: pure functions of r : place -> Int -/
/-- how a law's codes are kept by the class: numbers themselves, -1 cents, -2 age, -3 since, -4 letters, -5 .. -8 + - * /, -9 min, -10 if -/
def g_dec (r : Nat → Int) : Nat → Nat → Nat → List Int
  | 0, _, _ => []
  | n + 1, i, e => if i < e then (if r (139 + i) = 1 then (if i + 1 < e ∧ 0 ≤ r (140 + i) then r (140 + i) else -11) :: g_dec r n (i + 2) e else (if 2 ≤ r (139 + i) then 1 - r (139 + i) else -11) :: g_dec r n (i + 1) e) else []
def g_held (v : Int) : Int := if 1000000000000 < v then 1000000000000 else if v < -1000000000000 then -1000000000000 else v
def g_op (ce ag si le : Int) (st : List Int) (c : Int) : List Int :=
  if 0 ≤ c then c :: st else
  if c = -1 then ce :: st else if c = -2 then ag :: st else if c = -3 then si :: st else if c = -4 then le :: st else
  match st with
  | y :: x :: st' =>
    if c = -5 then g_held (x + y) :: st' else if c = -6 then g_held (x - y) :: st' else if c = -7 then g_held (x * y) :: st' else
    if c = -8 then (if y = 0 then 0 else x.fdiv y) :: st' else if c = -9 then min x y :: st' else
    (match st' with
    | b :: a :: st2 => (if a < b then x else y) :: st2
    | _ => [])
  | _ => []
def g_ev (ce ag si le : Int) (cs : List Int) (st : List Int) : List Int := cs.foldl (g_op ce ag si le) st
/-- the codes work on a stack of d values -/
def g_wf : List Int → Nat → Prop
  | [], d => d = 1
  | c :: cs, d => -10 ≤ c ∧ c ≤ 999999 ∧ (if -4 ≤ c then g_wf cs (d + 1) else if -9 ≤ c then 2 ≤ d ∧ g_wf cs (d - 1) else 4 ≤ d ∧ g_wf cs (d - 3))
/-- account a's fields in row r -/
abbrev g_a (r : Nat → Int) (a f : Nat) : Int := r (1039 + f + 12 * a)
def g_law (kind l : Int) : Nat := (89 + 2 * (5 * kind + l)).toNat
def g_codes (r : Nat → Int) (a : Nat) (l : Int) : List Int := g_dec r 901 (r (g_law (r (1039 + 12 * a)) l)).toNat (r (g_law (r (1039 + 12 * a)) l + 1)).toNat
def g_sleep (r : Nat → Int) (a : Nat) (l : Int) : Int := max 0 (min 600 ((g_ev (r (1042 + 12 * a)) (r (1044 + 12 * a)) (r (1045 + 12 * a)) (r (1046 + 12 * a)) (g_codes r a l) []).headD 0))
def g_open (r : Nat → Int) (a : Nat) : Prop := r (1043 + 12 * a) = 0 ∨ r (1043 + 12 * a) = 1
def g_pl (r : Nat → Int) (a k : Nat) : Int := if r (9 + k) = 0 then r (1040 + 12 * a) else if r (9 + k) = 1 then r (1041 + 12 * a) else r 5
def g_tk (r : Nat → Int) (kind l : Int) : Prop := 0 < r (g_law kind l + 1)
def g_belF (r : Nat → Int) (a : Nat) : Nat → Nat → Int
  | 0, _ => -1
  | n + 1, k => if (k : Int) < r 8 then (if g_pl r a k ≠ -1 ∧ 0 < r (g_law (r (1039 + 12 * a)) (g_pl r a k) + 1) then g_pl r a k else g_belF r a n (k + 1)) else -1
def g_bel (r : Nat → Int) (a : Nat) : Int := g_belF r a 4 0
def g_up (r : Nat → Int) (k : Nat) (v : Int) : Nat → Int := fun j => if j = k then v else r j
/-- what must hold of a row, for the calls to find their places -/
def g_V0 (r : Nat → Int) : Prop := (0 ≤ r 0 ∧ r 0 ≤ 5) ∧ (0 ≤ r 1 ∧ r 1 ≤ 12) ∧ (0 ≤ r 2 ∧ r 2 ≤ 6000) ∧ (0 ≤ r 3 ∧ r 3 ≤ 60) ∧ (0 ≤ r 4 ∧ r 4 ≤ 999) ∧ (-1 ≤ r 5 ∧ r 5 < max 1 (r 0)) ∧ (0 ≤ r 6 ∧ r 6 ≤ 12) ∧ (0 ≤ r 8 ∧ r 8 ≤ 3) ∧ (∀ k : Nat, k < 3 → 0 ≤ r (9 + k) ∧ r (9 + k) ≤ 2) ∧ (∀ k : Nat, k < 5 → 0 ≤ r (12 + k) ∧ r (12 + k) ≤ 999) ∧ (∀ l : Nat, (l : Int) < r 0 → (0 ≤ r (31 + 13 * l) ∧ r (31 + 13 * l) ≤ 11) ∧ (0 ≤ r (32 + 13 * l) ∧ r (32 + 13 * l) ≤ 9999) ∧ (0 ≤ r (33 + 13 * l) ∧ r (33 + 13 * l) ≤ 999) ∧ (1 ≤ r (34 + 13 * l) ∧ r (34 + 13 * l) ≤ 50) ∧ (1 ≤ r (30 + 13 * l) ∧ r (30 + 13 * l) ≤ 6)) ∧ (∀ q : Nat, q < 25 → 0 ≤ r (90 + 2 * q) ∧ r (90 + 2 * q) ≤ 900) ∧ (∀ q : Nat, q < 25 → 0 < r (90 + 2 * q) → (0 ≤ r (89 + 2 * q) ∧ r (89 + 2 * q) ≤ r (90 + 2 * q)) ∧ (q : Int) % 5 < r 0 ∧ g_wf (g_dec r 901 (r (89 + 2 * q)).toNat (r (90 + 2 * q)).toNat) 0)
theorem g_V0.lands {r : Nat → Int} (h : g_V0 r) : 0 ≤ r 0 ∧ r 0 ≤ 5 := h.1
theorem g_V0.many {r : Nat → Int} (h : g_V0 r) : 0 ≤ r 1 ∧ r 1 ≤ 12 := h.2.1
theorem g_V0.month {r : Nat → Int} (h : g_V0 r) : 0 ≤ r 2 ∧ r 2 ≤ 6000 := h.2.2.1
theorem g_V0.wait {r : Nat → Int} (h : g_V0 r) : 0 ≤ r 3 ∧ r 3 ≤ 60 := h.2.2.2.1
theorem g_V0.cost {r : Nat → Int} (h : g_V0 r) : 0 ≤ r 4 ∧ r 4 ≤ 999 := h.2.2.2.2.1
theorem g_V0.home {r : Nat → Int} (h : g_V0 r) : -1 ≤ r 5 ∧ r 5 < max 1 (r 0) := h.2.2.2.2.2.1
theorem g_V0.rows {r : Nat → Int} (h : g_V0 r) : 0 ≤ r 6 ∧ r 6 ≤ 12 := h.2.2.2.2.2.2.1
theorem g_V0.ords {r : Nat → Int} (h : g_V0 r) : 0 ≤ r 8 ∧ r 8 ≤ 3 := h.2.2.2.2.2.2.2.1
theorem g_V0.ord {r : Nat → Int} (h : g_V0 r) : ∀ k : Nat, k < 3 → 0 ≤ r (9 + k) ∧ r (9 + k) ≤ 2 := h.2.2.2.2.2.2.2.2.1
theorem g_V0.pays {r : Nat → Int} (h : g_V0 r) : ∀ k : Nat, k < 5 → 0 ≤ r (12 + k) ∧ r (12 + k) ≤ 999 := h.2.2.2.2.2.2.2.2.2.1
theorem g_V0.land {r : Nat → Int} (h : g_V0 r) : ∀ l : Nat, (l : Int) < r 0 → (0 ≤ r (31 + 13 * l) ∧ r (31 + 13 * l) ≤ 11) ∧ (0 ≤ r (32 + 13 * l) ∧ r (32 + 13 * l) ≤ 9999) ∧ (0 ≤ r (33 + 13 * l) ∧ r (33 + 13 * l) ≤ 999) ∧ (1 ≤ r (34 + 13 * l) ∧ r (34 + 13 * l) ≤ 50) ∧ (1 ≤ r (30 + 13 * l) ∧ r (30 + 13 * l) ≤ 6) := h.2.2.2.2.2.2.2.2.2.2.1
theorem g_V0.laws {r : Nat → Int} (h : g_V0 r) : ∀ q : Nat, q < 25 → 0 ≤ r (90 + 2 * q) ∧ r (90 + 2 * q) ≤ 900 := h.2.2.2.2.2.2.2.2.2.2.2.1
theorem g_V0.law {r : Nat → Int} (h : g_V0 r) : ∀ q : Nat, q < 25 → 0 < r (90 + 2 * q) → (0 ≤ r (89 + 2 * q) ∧ r (89 + 2 * q) ≤ r (90 + 2 * q)) ∧ (q : Int) % 5 < r 0 ∧ g_wf (g_dec r 901 (r (89 + 2 * q)).toNat (r (90 + 2 * q)).toNat) 0 := h.2.2.2.2.2.2.2.2.2.2.2.2
/-- one account of a row, its numbers of months at most b -/
def g_VA (r : Nat → Int) (a : Nat) (b : Int) : Prop := (0 ≤ r (1039 + 12 * a) ∧ r (1039 + 12 * a) ≤ 4) ∧ (-1 ≤ r (1040 + 12 * a) ∧ r (1040 + 12 * a) < max 1 (r 0)) ∧ (-1 ≤ r (1041 + 12 * a) ∧ r (1041 + 12 * a) < max 1 (r 0)) ∧ (0 ≤ r (1042 + 12 * a) ∧ r (1042 + 12 * a) ≤ 100000000) ∧ (0 ≤ r (1043 + 12 * a) ∧ r (1043 + 12 * a) ≤ 4) ∧ (0 ≤ r (1044 + 12 * a) ∧ r (1044 + 12 * a) ≤ b) ∧ (0 ≤ r (1045 + 12 * a) ∧ r (1045 + 12 * a) ≤ b) ∧ (0 ≤ r (1046 + 12 * a) ∧ r (1046 + 12 * a) ≤ b) ∧ (-1 ≤ r (1047 + 12 * a) ∧ r (1047 + 12 * a) < max 1 (r 0)) ∧ (-1 ≤ r (1048 + 12 * a) ∧ r (1048 + 12 * a) ≤ b) ∧ (0 ≤ r (1049 + 12 * a) ∧ r (1049 + 12 * a) ≤ 1) ∧ (0 ≤ r (1050 + 12 * a) ∧ r (1050 + 12 * a) ≤ b) ∧ (r (1043 + 12 * a) = 2 → 0 ≤ r (1047 + 12 * a) ∧ r (1047 + 12 * a) < r 0)
theorem g_VA.kind {r : Nat → Int} {a : Nat} {b : Int} (h : g_VA r a b) : 0 ≤ r (1039 + 12 * a) ∧ r (1039 + 12 * a) ≤ 4 := h.1
theorem g_VA.addr {r : Nat → Int} {a : Nat} {b : Int} (h : g_VA r a b) : -1 ≤ r (1040 + 12 * a) ∧ r (1040 + 12 * a) < max 1 (r 0) := h.2.1
theorem g_VA.birth {r : Nat → Int} {a : Nat} {b : Int} (h : g_VA r a b) : -1 ≤ r (1041 + 12 * a) ∧ r (1041 + 12 * a) < max 1 (r 0) := h.2.2.1
theorem g_VA.cents {r : Nat → Int} {a : Nat} {b : Int} (h : g_VA r a b) : 0 ≤ r (1042 + 12 * a) ∧ r (1042 + 12 * a) ≤ 100000000 := h.2.2.2.1
theorem g_VA.state {r : Nat → Int} {a : Nat} {b : Int} (h : g_VA r a b) : 0 ≤ r (1043 + 12 * a) ∧ r (1043 + 12 * a) ≤ 4 := h.2.2.2.2.1
theorem g_VA.age {r : Nat → Int} {a : Nat} {b : Int} (h : g_VA r a b) : 0 ≤ r (1044 + 12 * a) ∧ r (1044 + 12 * a) ≤ b := h.2.2.2.2.2.1
theorem g_VA.since {r : Nat → Int} {a : Nat} {b : Int} (h : g_VA r a b) : 0 ≤ r (1045 + 12 * a) ∧ r (1045 + 12 * a) ≤ b := h.2.2.2.2.2.2.1
theorem g_VA.wrote {r : Nat → Int} {a : Nat} {b : Int} (h : g_VA r a b) : 0 ≤ r (1046 + 12 * a) ∧ r (1046 + 12 * a) ≤ b := h.2.2.2.2.2.2.2.1
theorem g_VA.holder {r : Nat → Int} {a : Nat} {b : Int} (h : g_VA r a b) : -1 ≤ r (1047 + 12 * a) ∧ r (1047 + 12 * a) < max 1 (r 0) := h.2.2.2.2.2.2.2.2.1
theorem g_VA.lat {r : Nat → Int} {a : Nat} {b : Int} (h : g_VA r a b) : -1 ≤ r (1048 + 12 * a) ∧ r (1048 + 12 * a) ≤ b := h.2.2.2.2.2.2.2.2.2.1
theorem g_VA.nl {r : Nat → Int} {a : Nat} {b : Int} (h : g_VA r a b) : 0 ≤ r (1049 + 12 * a) ∧ r (1049 + 12 * a) ≤ 1 := h.2.2.2.2.2.2.2.2.2.2.1
theorem g_VA.hat {r : Nat → Int} {a : Nat} {b : Int} (h : g_VA r a b) : 0 ≤ r (1050 + 12 * a) ∧ r (1050 + 12 * a) ≤ b := h.2.2.2.2.2.2.2.2.2.2.2.1
theorem g_VA.hh {r : Nat → Int} {a : Nat} {b : Int} (h : g_VA r a b) : r (1043 + 12 * a) = 2 → 0 ≤ r (1047 + 12 * a) ∧ r (1047 + 12 * a) < r 0 := h.2.2.2.2.2.2.2.2.2.2.2.2
theorem g_law_q {kd l : Int} (hk : 0 ≤ kd ∧ kd ≤ 4) (hl : 0 ≤ l ∧ l ≤ 4) : ∃ q : Nat, q < 25 ∧ (q : Int) = 5 * kd + l ∧ g_law kd l = 89 + 2 * q := ⟨(5 * kd + l).toNat, by omega, by omega, by unfold g_law; omega⟩
theorem g_V0.lawr {r : Nat → Int} (h : g_V0 r) {kd l : Int} (hk : 0 ≤ kd ∧ kd ≤ 4) (hl : 0 ≤ l ∧ l ≤ 4) : 0 ≤ r (g_law kd l + 1) ∧ r (g_law kd l + 1) ≤ 900 := by
  obtain ⟨q, h1, h2, h3⟩ := g_law_q hk hl
  have := h.laws q h1
  rw [h3, show 89 + 2 * q + 1 = 90 + 2 * q by omega]
  exact this
theorem g_pl_r {r : Nat → Int} (h : g_V0 r) {a : Nat} {b : Int} (ha : g_VA r a b) (k : Nat) : -1 ≤ g_pl r a k ∧ g_pl r a k ≤ 4 := by
  have h1 := ha.addr
  have h2 := ha.birth
  have h3 := h.home
  have h4 := h.lands
  unfold g_pl
  split
  · omega
  · split <;> omega
/-- a month of account a, "next" is the month that comes: the row behind it, and whether it was handed over -/
def g_int (r : Nat → Int) (a : Nat) : Int := min (100000000 - r (1042 + 12 * a)) ((r (1042 + 12 * a) * r (12 + (r (1039 + 12 * a)).toNat)).tdiv 120000)
def g_r1 (r : Nat → Int) (a : Nat) : Nat → Int := g_up (g_up (g_up (g_up r (1042 + 12 * a) (r (1042 + 12 * a) + g_int r a)) 18 (r 18 + g_int r a)) (1044 + 12 * a) (r (1044 + 12 * a) + 1)) (1045 + 12 * a) (r (1045 + 12 * a) + 1)
def g_wr (r : Nat → Int) (a : Nat) (next : Int) : Nat → Int :=
  let c := min (r 4) (r (1042 + 12 * a))
  g_up (g_up (g_up (g_up (g_up (g_up r (1042 + 12 * a) (r (1042 + 12 * a) + -c)) 20 (r 20 + c)) (1046 + 12 * a) (r (1046 + 12 * a) + 1)) (1043 + 12 * a) 1) (1048 + 12 * a) next) 7 (r 7 + 1)
def g_ha (r : Nat → Int) (a : Nat) (l next : Int) : Nat → Int :=
  let p := (1183 + 5 * r 6).toNat
  let nm : Int := if r (1042 + 12 * a) < r (32 + 13 * l.toNat) then 1 else 0
  g_up (g_up (g_up (g_up (g_up (g_up (g_up (g_up (g_up (g_up r p next) (p + 1) (a : Int)) (p + 2) l) (p + 3) (r (1042 + 12 * a))) (p + 4) nm) 6 (r 6 + 1)) (1043 + 12 * a) 2) (1047 + 12 * a) l) (1049 + 12 * a) nm) (1050 + 12 * a) next
def g_goes (r : Nat → Int) (a : Nat) (next : Int) : Int × (Nat → Int) :=
  if r (1043 + 12 * a) = 0 ∨ r (1043 + 12 * a) = 1 then
    (if g_bel (g_r1 r a) a = -1 then (0, g_r1 r a) else
      if r (1043 + 12 * a) = 0 then (0, if g_sleep (g_r1 r a) a (g_bel (g_r1 r a) a) ≤ g_r1 r a (1045 + 12 * a) then g_wr (g_r1 r a) a next else g_r1 r a)
      else if next - r (1048 + 12 * a) < r 3 ∨ next.tmod 12 ≠ r (31 + 13 * (g_bel (g_r1 r a) a).toNat) then (0, g_r1 r a)
      else (1, g_ha (g_r1 r a) a (g_bel (g_r1 r a) a) next))
  else (0, r)
/-- the accounts from a on, n of them -/
def g_accs (next : Int) : Nat → Nat → (Nat → Int) → Int × (Nat → Int)
  | 0, _, r => (0, r)
  | n + 1, a, r => let x := g_goes r a next; let y := g_accs next n (a + 1) x.2; (x.1 + y.1, y.2)
def g_month (r : Nat → Int) : Int × (Nat → Int) := let x := g_accs (r 2 + 1) (r 1).toNat 0 r; (x.1, g_up x.2 2 (x.2 2 + 1))
def g_months : Nat → (Nat → Int) → Int × (Nat → Int)
  | 0, r => (0, r)
  | n + 1, r => if r 2 < 6000 then (let x := g_month r; let y := g_months n x.2; (x.1 + y.1, y.2)) else (0, r)
theorem g_up_s (r : Nat → Int) (k : Nat) (v : Int) : g_up r k v k = v := if_pos rfl
theorem g_up_n (r : Nat → Int) {k j : Nat} (v : Int) (h : j ≠ k) : g_up r k v j = r j := if_neg h
