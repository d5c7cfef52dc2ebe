/-! numbers of the draws, and of the bytes told -/
theorem q_un (m : Nat) : (Int32.ofInt (m : Int)).toUInt32.toNat = m % 4294967296 := by
  show (BitVec.ofInt 32 (m : Int)).toNat = _
  rw [BitVec.ofInt_natCast, BitVec.toNat_ofNat]
theorem q_ux {x y : Int32} (h : x.toUInt32.toNat = y.toUInt32.toNat) : x = y := by
  have e := UInt32.toNat_inj.mp h
  cases x; cases y
  cases e
  rfl
theorem q_umod (m : Nat) : Int32.ofInt ((m : Nat) : Int) = Int32.ofInt ((m % 4294967296 : Nat) : Int) := q_ux (by rw [q_un, q_un, Nat.mod_mod])
theorem q_nxI (x : Nat) : qI (1103515245 * (x : Int) + 12345) = qI ((d_nx x : Nat) : Int) := by
  have e : (1103515245 * (x : Int) + 12345) = ((1103515245 * x + 12345 : Nat) : Int) := by omega
  rw [e]
  unfold d_nx
  exact congrArg Value.int (q_umod _)
theorem q_us16 {m : Nat} (hm : m < 4294967296) : ((Int32.ofInt (m : Int)).toUInt32 >>> ((Int32.ofInt 16).toUInt32 &&& Int32.toUInt32 31)).toInt32 = Int32.ofInt ((m / 65536 : Nat) : Int) := by
  apply q_ux
  rw [q_un]
  show ((Int32.ofInt (m : Int)).toUInt32 >>> ((Int32.ofInt 16).toUInt32 &&& Int32.toUInt32 31)).toNat = _
  rw [show ((Int32.ofInt 16).toUInt32 &&& Int32.toUInt32 31) = (16 : UInt32) by decide, UInt32.toNat_shiftRight, q_un, Nat.mod_eq_of_lt hm, show (16 : UInt32).toNat % 32 = 16 by decide, Nat.shiftRight_eq_div_pow]
  rw [show (2 : Nat) ^ 16 = 65536 by decide, Nat.mod_eq_of_lt (by omega)]
theorem q_orM {m n : Nat} (hm : m < 4294967296) (hn : n < 4294967296) : Int32.ofInt (m : Int) ||| Int32.ofInt (n : Int) = Int32.ofInt ((m ||| n : Nat) : Int) := by
  apply q_ux
  rw [q_un]
  show ((Int32.ofInt (m : Int)).toUInt32 ||| (Int32.ofInt (n : Int)).toUInt32).toNat = _
  rw [UInt32.toNat_or, q_un, q_un, Nat.mod_eq_of_lt hm, Nat.mod_eq_of_lt hn, Nat.mod_eq_of_lt (Nat.or_lt_two_pow (n := 32) hm hn)]
/-- four bytes in a word -/
def g_pk (a b c d : Nat) : Nat := 16777216 * a + 65536 * b + 256 * c + d
theorem g_pk_lt {a b c d : Nat} (ha : a < 128) (hb : b < 128) (hc : c < 128) (hd : d < 128) : g_pk a b c d < 2147483648 := by unfold g_pk; omega
theorem g_pk_or0 {x : Nat} (hx : x < 128) : Int32.ofInt ((g_pk 0 0 0 0 : Nat) : Int) ||| Int32.ofInt ((x * 16777216 : Nat) : Int) = Int32.ofInt ((g_pk x 0 0 0 : Nat) : Int) := by
  rw [q_orM (by decide) (by omega)]
  congr 2
  unfold g_pk
  rw [show 16777216 * 0 + 65536 * 0 + 256 * 0 + 0 = 0 by decide, Nat.zero_or]
  omega
theorem g_pk_or1 {a x : Nat} (ha : a < 128) (hx : x < 128) : Int32.ofInt ((g_pk a 0 0 0 : Nat) : Int) ||| Int32.ofInt ((x * 65536 : Nat) : Int) = Int32.ofInt ((g_pk a x 0 0 : Nat) : Int) := by
  rw [q_orM (by unfold g_pk; omega) (by omega)]
  congr 2
  have := Nat.two_pow_add_eq_or_of_lt (i := 24) (b := x * 65536) (by omega) a
  unfold g_pk
  rw [show 16777216 * a + 65536 * 0 + 256 * 0 + 0 = 2 ^ 24 * a by omega, ← this]
  omega
theorem g_pk_or2 {a b x : Nat} (ha : a < 128) (hb : b < 128) (hx : x < 128) : Int32.ofInt ((g_pk a b 0 0 : Nat) : Int) ||| Int32.ofInt ((x * 256 : Nat) : Int) = Int32.ofInt ((g_pk a b x 0 : Nat) : Int) := by
  rw [q_orM (by unfold g_pk; omega) (by omega)]
  congr 2
  have := Nat.two_pow_add_eq_or_of_lt (i := 16) (b := x * 256) (by omega) (256 * a + b)
  unfold g_pk
  rw [show 16777216 * a + 65536 * b + 256 * 0 + 0 = 2 ^ 16 * (256 * a + b) by omega, ← this]
  omega
theorem g_pk_or3 {a b c x : Nat} (ha : a < 128) (hb : b < 128) (hc : c < 128) (hx : x < 128) : Int32.ofInt ((g_pk a b c 0 : Nat) : Int) ||| Int32.ofInt ((x : Nat) : Int) = Int32.ofInt ((g_pk a b c x : Nat) : Int) := by
  rw [q_orM (by unfold g_pk; omega) (by omega)]
  congr 2
  have := Nat.two_pow_add_eq_or_of_lt (i := 8) (b := x) (by omega) (65536 * a + 256 * b + c)
  unfold g_pk
  rw [show 16777216 * a + 65536 * b + 256 * c + 0 = 2 ^ 8 * (65536 * a + 256 * b + c) by omega, ← this]
  omega
set_option maxRecDepth 100000 in
theorem q_shl_all : ∀ x : Fin 128, Int32.ofInt (x.val : Int) <<< (Int32.ofInt 24 &&& 31) = Int32.ofInt ((x.val * 16777216 : Nat) : Int) ∧ Int32.ofInt (x.val : Int) <<< (Int32.ofInt 16 &&& 31) = Int32.ofInt ((x.val * 65536 : Nat) : Int) ∧ Int32.ofInt (x.val : Int) <<< (Int32.ofInt 8 &&& 31) = Int32.ofInt ((x.val * 256 : Nat) : Int) ∧ Int32.ofInt (x.val : Int) <<< (Int32.ofInt 0 &&& 31) = Int32.ofInt ((x.val : Nat) : Int) := by decide +kernel
set_option maxRecDepth 100000 in
theorem q_lush_all : ∀ (x : Fin 128) (k : Fin 8), ((Int64.ofInt (x.val : Int)).toUInt64 >>> ((Int32.ofInt (8 * (k.val : Int))).toInt64.toUInt64 &&& Int64.toUInt64 63)).toInt64 = Int64.ofInt (if k.val = 0 then (x.val : Int) else 0) := by decide +kernel
theorem q_lush {x k : Nat} (hx : x < 128) (hk : k < 8) : ((Int64.ofInt (x : Int)).toUInt64 >>> ((Int32.ofInt (8 * (k : Int))).toInt64.toUInt64 &&& Int64.toUInt64 63)).toInt64 = Int64.ofInt (if k = 0 then (x : Int) else 0) := q_lush_all ⟨x, hx⟩ ⟨k, hk⟩
set_option maxRecDepth 100000 in
theorem q_land_all : ∀ x : Fin 128, Int64.ofInt (x.val : Int) &&& Int64.ofInt 255 = Int64.ofInt (x.val : Int) := by decide +kernel
theorem q_land_n {x : Nat} (hx : x < 128) : Int64.ofInt (x : Int) &&& Int64.ofInt 255 = Int64.ofInt (x : Int) := q_land_all ⟨x, hx⟩
theorem q_ti {x : Int32} {n : Nat} (h : x.toUInt32.toNat = n) (hn : n < 2147483648) : x.toInt = (n : Int) := by
  have e : x = Int32.ofInt (n : Int) := q_ux (by rw [q_un, h, Nat.mod_eq_of_lt (by omega)])
  rw [e]; exact qi_toInt (by omega)
theorem g_byu_n {m i : Nat} (hm : m < 4294967296) (hi : i < 4) : g_byu (m : Int) i = ((m / 2 ^ (24 - 8 * i) % 256 : Nat) : Int) := by
  unfold g_byu g_and g_ushr
  rw [Int32.ofInt_toInt]
  refine q_ti ?_ (Nat.lt_of_lt_of_le (Nat.mod_lt _ (by decide)) (by decide))
  show (((Int32.ofInt (m : Int)).toUInt32 >>> ((Int32.ofInt (24 - 8 * (i : Int))).toUInt32 &&& Int32.toUInt32 31)) &&& (Int32.ofInt 255).toUInt32).toNat = _
  rw [UInt32.toNat_and, UInt32.toNat_shiftRight, q_un, Nat.mod_eq_of_lt hm, Nat.shiftRight_eq_div_pow, show (Int32.ofInt 255).toUInt32.toNat = 2 ^ 8 - 1 by decide, Nat.and_two_pow_sub_one_eq_mod, show (2 : Nat) ^ 8 = 256 by decide]
  rcases (show i = 0 ∨ i = 1 ∨ i = 2 ∨ i = 3 by omega) with rfl | rfl | rfl | rfl
  · rw [show ((Int32.ofInt (24 - 8 * ((0 : Nat) : Int))).toUInt32 &&& Int32.toUInt32 31).toNat % 32 = 24 - 8 * 0 by decide]
  · rw [show ((Int32.ofInt (24 - 8 * ((1 : Nat) : Int))).toUInt32 &&& Int32.toUInt32 31).toNat % 32 = 24 - 8 * 1 by decide]
  · rw [show ((Int32.ofInt (24 - 8 * ((2 : Nat) : Int))).toUInt32 &&& Int32.toUInt32 31).toNat % 32 = 24 - 8 * 2 by decide]
  · rw [show ((Int32.ofInt (24 - 8 * ((3 : Nat) : Int))).toUInt32 &&& Int32.toUInt32 31).toNat % 32 = 24 - 8 * 3 by decide]
theorem g_byu_pk {a b c d : Nat} (ha : a < 128) (hb : b < 128) (hc : c < 128) (hd : d < 128) : g_byu ((g_pk a b c d : Nat) : Int) 0 = (a : Int) ∧ g_byu ((g_pk a b c d : Nat) : Int) 1 = (b : Int) ∧ g_byu ((g_pk a b c d : Nat) : Int) 2 = (c : Int) ∧ g_byu ((g_pk a b c d : Nat) : Int) 3 = (d : Int) := by
  have hl := g_pk_lt ha hb hc hd
  have hl2 : g_pk a b c d < 4294967296 := by omega
  rw [g_byu_n hl2 (by decide), g_byu_n hl2 (by decide), g_byu_n hl2 (by decide), g_byu_n hl2 (by decide)]
  rw [show (2 : Nat) ^ (24 - 8 * 0) = 16777216 by decide, show (2 : Nat) ^ (24 - 8 * 1) = 65536 by decide, show (2 : Nat) ^ (24 - 8 * 2) = 256 by decide, show (2 : Nat) ^ (24 - 8 * 3) = 1 by decide]
  unfold g_pk
  refine ⟨?_, ?_, ?_, ?_⟩ <;> omega
/-- twenty bytes, packed, are fed as they are -/
theorem g_fed_pk {w : Nat → Nat} (hw : ∀ k, w k < 128) {k : Nat} (hk : k < 20) : g_fed ((g_pk (w 0) (w 1) (w 2) (w 3) : Nat) : Int) ((g_pk (w 4) (w 5) (w 6) (w 7) : Nat) : Int) ((g_pk (w 8) (w 9) (w 10) (w 11) : Nat) : Int) ((g_pk (w 12) (w 13) (w 14) (w 15) : Nat) : Int) ((g_pk (w 16) (w 17) (w 18) (w 19) : Nat) : Int) k = (w k : Int) := by
  obtain ⟨f1, f2, f3, f4, f5⟩ := g_fed_at ((g_pk (w 0) (w 1) (w 2) (w 3) : Nat) : Int) ((g_pk (w 4) (w 5) (w 6) (w 7) : Nat) : Int) ((g_pk (w 8) (w 9) (w 10) (w 11) : Nat) : Int) ((g_pk (w 12) (w 13) (w 14) (w 15) : Nat) : Int) ((g_pk (w 16) (w 17) (w 18) (w 19) : Nat) : Int)
  have b1 := g_byu_pk (hw 0) (hw 1) (hw 2) (hw 3)
  have b2 := g_byu_pk (hw 4) (hw 5) (hw 6) (hw 7)
  have b3 := g_byu_pk (hw 8) (hw 9) (hw 10) (hw 11)
  have b4 := g_byu_pk (hw 12) (hw 13) (hw 14) (hw 15)
  have b5 := g_byu_pk (hw 16) (hw 17) (hw 18) (hw 19)
  rcases (show k = 0 ∨ k = 1 ∨ k = 2 ∨ k = 3 ∨ k = 4 + 0 ∨ k = 4 + 1 ∨ k = 4 + 2 ∨ k = 4 + 3 ∨ k = 8 + 0 ∨ k = 8 + 1 ∨ k = 8 + 2 ∨ k = 8 + 3 ∨ k = 12 + 0 ∨ k = 12 + 1 ∨ k = 12 + 2 ∨ k = 12 + 3 ∨ k = 16 + 0 ∨ k = 16 + 1 ∨ k = 16 + 2 ∨ k = 16 + 3 by omega) with rfl | rfl | rfl | rfl | rfl | rfl | rfl | rfl | rfl | rfl | rfl | rfl | rfl | rfl | rfl | rfl | rfl | rfl | rfl | rfl
  · exact (f1 0 (by decide)).trans b1.1
  · exact (f1 1 (by decide)).trans b1.2.1
  · exact (f1 2 (by decide)).trans b1.2.2.1
  · exact (f1 3 (by decide)).trans b1.2.2.2
  · exact (f2 0 (by decide)).trans b2.1
  · exact (f2 1 (by decide)).trans b2.2.1
  · exact (f2 2 (by decide)).trans b2.2.2.1
  · exact (f2 3 (by decide)).trans b2.2.2.2
  · exact (f3 0 (by decide)).trans b3.1
  · exact (f3 1 (by decide)).trans b3.2.1
  · exact (f3 2 (by decide)).trans b3.2.2.1
  · exact (f3 3 (by decide)).trans b3.2.2.2
  · exact (f4 0 (by decide)).trans b4.1
  · exact (f4 1 (by decide)).trans b4.2.1
  · exact (f4 2 (by decide)).trans b4.2.2.1
  · exact (f4 3 (by decide)).trans b4.2.2.2
  · exact (f5 0 (by decide)).trans b5.1
  · exact (f5 1 (by decide)).trans b5.2.1
  · exact (f5 2 (by decide)).trans b5.2.2.1
  · exact (f5 3 (by decide)).trans b5.2.2.2
