/-! the frame: global things, a state's abstract memory, contracts, the judgement qX -/
def q_fv (ty : FieldType) (I L : q_I) (P : q_P) (q k : Nat) : Value := match ty with
  | .long => qL (L q k)
  | .object _ => qR (P q k)
  | .array _ => qR (P q k)
  | _ => qI (I q k)
abbrev q_cl : List vw_C := [(RX0, TX0, 17), (RX1, TX1, 4), (RX2, TX2, 6), (RX3, TX3, 10), (RX4, TX4, 13), (RX6, TX6, 8), (RX7, TX7, 10), (RX8, TX8, 12), (RX9, TX9, 1), (RX10, TX10, 15)]
def q_ft (ci k : Nat) : FieldType := match ci with
  | 0 => tyX0 k
  | 1 => tyX1 k
  | 2 => tyX2 k
  | 3 => tyX3 k
  | 4 => tyX4 k
  | 5 => tyX6 k
  | 6 => tyX7 k
  | 7 => tyX8 k
  | 8 => tyX9 k
  | _ => tyX10 k
theorem q_ft_ok : ∀ ci r, q_cl[ci]? = some r → ∀ k, k < r.2.2 → parseFieldDescriptor (r.2.1 k).2.2.1 = some (q_ft ci k) := by
  intro ci r h
  match ci, h with
  | 0, h => cases h; exact tyX0_ok
  | 1, h => cases h; exact tyX1_ok
  | 2, h => cases h; exact tyX2_ok
  | 3, h => cases h; exact tyX3_ok
  | 4, h => cases h; exact tyX4_ok
  | 5, h => cases h; exact tyX6_ok
  | 6, h => cases h; exact tyX7_ok
  | 7, h => cases h; exact tyX8_ok
  | 8, h => cases h; exact tyX9_ok
  | 9, h => cases h; exact tyX10_ok
  | n + 10, h => simp at h
theorem q_nm_ok : ∀ (ci : Nat) (r : vw_C), q_cl[ci]? = some r → ∀ a, a < r.2.2 → ∀ b, b < r.2.2 → a ≠ b → (r.2.1 a).2.1 ≠ (r.2.1 b).2.1 := by
  intro ci r h
  match ci, h with
  | 0, h => cases h; exact nmX0
  | 1, h => cases h; exact nmX1
  | 2, h => cases h; exact nmX2
  | 3, h => cases h; exact nmX3
  | 4, h => cases h; exact nmX4
  | 5, h => cases h; exact nmX6
  | 6, h => cases h; exact nmX7
  | 7, h => cases h; exact nmX8
  | 8, h => cases h; exact nmX9
  | 9, h => cases h; exact nmX10
  | n + 10, h => simp at h
/-- the tables' words that stay good -/
def q_all : List Cond := lw_tbl.filter goodWord
theorem q_mem {w : Cond} (i : Nat) (h : lw_tbl[i]? = some w) (hg : goodWord w = true) : w ∈ q_all := List.mem_filter.mpr ⟨List.mem_of_getElem? h, hg⟩
theorem q_all_good {w : Cond} (h : w ∈ q_all) : goodWord w = true := (List.mem_filter.mp h).2
def q_lays : Bool := q_cl.all (fun r => (u_ws r.1 r.2.1 r.2.2).all (fun w => decide (w ∈ q_all)))
set_option maxRecDepth 100000 in
theorem q_lays_ok : q_lays = true := by decide +kernel
theorem q_lay_in {ci : Nat} {r : vw_C} (h : q_cl[ci]? = some r) : ∀ w ∈ u_ws r.1 r.2.1 r.2.2, w ∈ q_all := fun w hw => by
  have h1 := List.all_eq_true.mp q_lays_ok r (List.mem_of_getElem? h)
  exact of_decide_eq_true (List.all_eq_true.mp h1 w hw)
abbrev q_ty (t : Nat) : FieldType := match t with
  | 0 => .int
  | 1 => .long
  | 2 => .object RX2
  | 3 => .object RX0
  | 4 => .object RX6
  | 5 => .object RX5
  | 6 => .array .int
  | 7 => .array (.array .int)
  | 8 => .object RX8
  | _ => .object RX10
abbrev q_tys (cT : Nat → ClassId) : List (ClassId × FieldType) := [(cT 0, q_ty 0), (cT 1, q_ty 1), (cT 2, q_ty 2), (cT 3, q_ty 3), (cT 4, q_ty 4), (cT 5, q_ty 5), (cT 6, q_ty 6), (cT 7, q_ty 7), (cT 8, q_ty 8), (cT 9, q_ty 9)]
theorem q_tys_at (cT : Nat → ClassId) {t : Nat} (h : t < 10) : (q_tys cT)[t]? = some (cT t, q_ty t) := by
  match t, h with
  | 0, _ => rfl
  | 1, _ => rfl
  | 2, _ => rfl
  | 3, _ => rfl
  | 4, _ => rfl
  | 5, _ => rfl
  | 6, _ => rfl
  | 7, _ => rfl
  | 8, _ => rfl
  | 9, _ => rfl
/-- the launch, the classes' numbers, the arrays' classes, the heap's size at the start, the constants' addresses: enum constants, String constants, their byte arrays, Word.ALL -/
abbrev q_G : Type := Launch × va_G × (Nat → ClassId) × Nat × (Nat → Nat) × (Nat → Nat) × (Nat → Nat) × Nat
def q_A (G : q_G) : Nat → Prop := fun q => G.2.2.2.1 ≤ q
def q_wn : List String := ["LAND", "SLEEP", "PAYS", "WAIT", "LETTER", "HOME", "ORDER", "ADDRESS", "BIRTH", "CENTS", "AGE", "SINCE", "LETTERS", "MIN", "IF", "LESS", "THEN", "ELSE", "SAVINGS", "WAGES", "SHARES", "CHEQUE", "BOX"]
def q_wk : List Int32 := [(-1), (-1), (-1), (-1), (-1), (-1), (-1), (-1), (-1), (-1), (-1), (-1), (-1), (-1), (-1), (-1), (-1), (-1), 0, 1, 2, 3, 4]
def q_wF : List (String × String × String × List Int32) := [("IdleMoney$Word", "kind", "I", q_wk)]
/-- the String constants: whose, which entry, the text, its bytes -/
def q_sr : List (String × Nat × String × List Int32) := [("IdleMoney$Word", 120, "land", [108, 97, 110, 100]), ("IdleMoney$Word", 126, "sleep", [115, 108, 101, 101, 112]), ("IdleMoney$Word", 129, "pays", [112, 97, 121, 115]), ("IdleMoney$Word", 132, "wait", [119, 97, 105, 116]), ("IdleMoney$Word", 135, "letter", [108, 101, 116, 116, 101, 114]), ("IdleMoney$Word", 138, "home", [104, 111, 109, 101]), ("IdleMoney$Word", 141, "order", [111, 114, 100, 101, 114]), ("IdleMoney$Word", 144, "address", [97, 100, 100, 114, 101, 115, 115]), ("IdleMoney$Word", 147, "birth", [98, 105, 114, 116, 104]), ("IdleMoney$Word", 150, "cents", [99, 101, 110, 116, 115]), ("IdleMoney$Word", 153, "age", [97, 103, 101]), ("IdleMoney$Word", 156, "since", [115, 105, 110, 99, 101]), ("IdleMoney$Word", 159, "letters", [108, 101, 116, 116, 101, 114, 115]), ("IdleMoney$Word", 161, "min", [109, 105, 110]), ("IdleMoney$Word", 164, "if", [105, 102]), ("IdleMoney$Word", 167, "less", [108, 101, 115, 115]), ("IdleMoney$Word", 170, "then", [116, 104, 101, 110]), ("IdleMoney$Word", 173, "else", [101, 108, 115, 101]), ("IdleMoney$Word", 176, "savings", [115, 97, 118, 105, 110, 103, 115]), ("IdleMoney$Word", 179, "wages", [119, 97, 103, 101, 115]), ("IdleMoney$Word", 182, "shares", [115, 104, 97, 114, 101, 115]), ("IdleMoney$Word", 185, "cheque", [99, 104, 101, 113, 117, 101]), ("IdleMoney$Word", 188, "box", [98, 111, 120]), ("IdleMoney", 306, "a number that is none such", [97, 32, 110, 117, 109, 98, 101, 114, 32, 116, 104, 97, 116, 32, 105, 115, 32, 110, 111, 110, 101, 32, 115, 117, 99, 104]), ("IdleMoney", 299, "no such land, account, row or letter", [110, 111, 32, 115, 117, 99, 104, 32, 108, 97, 110, 100, 44, 32, 97, 99, 99, 111, 117, 110, 116, 44, 32, 114, 111, 119, 32, 111, 114, 32, 108, 101, 116, 116, 101, 114]), ("IdleMoney", 311, "not as things stand", [110, 111, 116, 32, 97, 115, 32, 116, 104, 105, 110, 103, 115, 32, 115, 116, 97, 110, 100]), ("IdleMoney$Word", 120, "land", [108, 97, 110, 100]), ("IdleMoney$Word", 176, "savings", [115, 97, 118, 105, 110, 103, 115]), ("IdleMoney$Word", 179, "wages", [119, 97, 103, 101, 115]), ("IdleMoney$Word", 182, "shares", [115, 104, 97, 114, 101, 115]), ("IdleMoney$Word", 185, "cheque", [99, 104, 101, 113, 117, 101]), ("IdleMoney$Word", 188, "box", [98, 111, 120]), ("IdleMoney$Word", 144, "address", [97, 100, 100, 114, 101, 115, 115]), ("IdleMoney$Word", 147, "birth", [98, 105, 114, 116, 104]), ("IdleMoney$Word", 138, "home", [104, 111, 109, 101]), ("IdleMoney$Word", 150, "cents", [99, 101, 110, 116, 115]), ("IdleMoney$Word", 153, "age", [97, 103, 101]), ("IdleMoney$Word", 156, "since", [115, 105, 110, 99, 101]), ("IdleMoney$Word", 159, "letters", [108, 101, 116, 116, 101, 114, 115]), ("IdleMoney$Word", 126, "sleep", [115, 108, 101, 101, 112]), ("IdleMoney$Word", 129, "pays", [112, 97, 121, 115]), ("IdleMoney$Word", 132, "wait", [119, 97, 105, 116]), ("IdleMoney$Word", 135, "letter", [108, 101, 116, 116, 101, 114]), ("IdleMoney$Word", 141, "order", [111, 114, 100, 101, 114]), ("IdleMoney$Word", 161, "min", [109, 105, 110]), ("IdleMoney$Word", 164, "if", [105, 102]), ("IdleMoney$Word", 167, "less", [108, 101, 115, 115]), ("IdleMoney$Word", 170, "then", [116, 104, 101, 110]), ("IdleMoney$Word", 173, "else", [101, 108, 115, 101]), ("IdleMoneyLaw", 132, " ", [32]), ("IdleMoneyLaw", 154, "land ", [108, 97, 110, 100, 32]), ("IdleMoneyLaw", 156, "  land  ", [32, 32, 108, 97, 110, 100, 32, 32]), ("IdleMoneyLaw", 168, ";", [59]), ("IdleMoneyLaw", 173, "sleep ", [115, 108, 101, 101, 112, 32]), ("IdleMoneyLaw", 178, "+letters*", [43, 108, 101, 116, 116, 101, 114, 115, 42]), ("IdleMoneyLaw", 180, "-age/", [45, 97, 103, 101, 47]), ("IdleMoneyLaw", 182, "+if cents less", [43, 105, 102, 32, 99, 101, 110, 116, 115, 32, 108, 101, 115, 115]), ("IdleMoneyLaw", 184, " then 5 else 0", [32, 116, 104, 101, 110, 32, 53, 32, 101, 108, 115, 101, 32, 48]), ("IdleMoneyLaw", 189, "pays ", [112, 97, 121, 115, 32]), ("IdleMoneyLaw", 194, "wait", [119, 97, 105, 116]), ("IdleMoneyLaw", 197, "letter", [108, 101, 116, 116, 101, 114]), ("IdleMoneyLaw", 201, "home ", [104, 111, 109, 101, 32]), ("IdleMoneyLaw", 206, "order", [111, 114, 100, 101, 114]), ("IdleMoneyLaw", 370, "savings", [115, 97, 118, 105, 110, 103, 115]), ("IdleMoneyLaw", 372, "wages", [119, 97, 103, 101, 115]), ("IdleMoneyLaw", 374, "shares", [115, 104, 97, 114, 101, 115]), ("IdleMoneyLaw", 376, "cheque", [99, 104, 101, 113, 117, 101]), ("IdleMoneyLaw", 378, "box", [98, 111, 120]), ("IdleMoneyLaw", 380, "dale", [100, 97, 108, 101]), ("IdleMoneyLaw", 382, "fenmar", [102, 101, 110, 109, 97, 114]), ("IdleMoneyLaw", 384, "k", [107]), ("IdleMoneyLaw", 386, "oxen", [111, 120, 101, 110]), ("IdleMoneyLaw", 388, "zz", [122, 122]), ("IdleMoneyLaw", 390, "address", [97, 100, 100, 114, 101, 115, 115]), ("IdleMoneyLaw", 391, "birth", [98, 105, 114, 116, 104]), ("IdleMoneyLaw", 392, "home", [104, 111, 109, 101])]
def q_EX : List (String × String) := [("java/util/NoSuchElementException", "java/lang/IllegalArgumentException"), ("java/util/NoSuchElementException", "java/lang/IllegalStateException"), ("java/lang/IllegalArgumentException", "java/util/NoSuchElementException"), ("java/lang/IllegalArgumentException", "java/lang/IllegalStateException"), ("java/lang/IllegalStateException", "java/util/NoSuchElementException"), ("java/lang/IllegalStateException", "java/lang/IllegalArgumentException")]
def q_S1 (i : Nat) (sr : String × Nat × String × List Int32) (adK adV : Nat → Nat) (A : Nat → Prop) (U : State) (H : Heap) : Prop := vk_R sr.1 sr.2.1 sr.2.2.1 (adK i) U ∧ va_O "java/lang/String" (adK i) A U H ∧ va_OF "java/lang/String" "coder" "B" (.int 0) (adK i) A U H ∧ va_OF "java/lang/String" "value" "[B" (.ref (adV i)) (adK i) A U H ∧ va_T .byte (adV i) sr.2.2.2.length (fun j => .int (sr.2.2.2.getD j 0)) A U H
/-- a static row of texts of the law: its n places hold the String constants f 0, f 1 .. -/
def q_Sa (nm : String) (a n : Nat) (f : Nat → Nat) (adK : Nat → Nat) (A : Nat → Prop) (U : State) (H : Heap) : Prop := va_Z "IdleMoneyLaw" nm "[Ljava/lang/String;" (.ref (adK a)) A U H ∧ va_T (.object "java/lang/String") (adK a) n (fun i => .ref (adK (f i))) A U H
theorem q_Sa.warm {nm : String} {a n : Nat} {f adK : Nat → Nat} {A : Nat → Prop} {s U : State} {H : Heap} (hW : s.WarmedH U.vm) (h : q_Sa nm a n f adK A s H) : q_Sa nm a n f adK A U H := ⟨h.1.moved hW.alike, h.2.moved hW.alike⟩
theorem q_Sa.kept {nm : String} {a n : Nat} {f adK : Nat → Nat} {A : Nat → Prop} {U : State} {H H1 : Heap} (h : q_Sa nm a n f adK A U H) (hq : ∀ a : Nat, a < H.size → ¬ A a → H1[a]? = H[a]?) : q_Sa nm a n f adK A U H1 := ⟨h.1.kept hq, h.2.kept hq⟩
def q_St (G : q_G) (U : State) (H : Heap) : Prop :=
  vx_Zq Bundle.tN "UNASSIGNED_STACK" Bundle.steD (q_A G) U H ∧ vx_Zq Bundle.tN "SUPPRESSED_SENTINEL" Bundle.listD (q_A G) U H ∧
  va_En "IdleMoney$Word" "LIdleMoney$Word;" q_wn q_wF G.2.2.2.2.1 (q_A G) U H ∧
  va_Ef 23 "IdleMoney$Word" "letters" "Ljava/lang/String;" (fun i => .ref (G.2.2.2.2.2.1 i)) G.2.2.2.2.1 (q_A G) U H ∧
  va_Z "IdleMoney$Word" "ALL" "[LIdleMoney$Word;" (.ref G.2.2.2.2.2.2.2) (q_A G) U H ∧ va_T (.object "IdleMoney$Word") G.2.2.2.2.2.2.2 23 (fun i => .ref (G.2.2.2.2.1 i)) (q_A G) U H ∧
  (∀ (i : Nat) (sr : String × Nat × String × List Int32), q_sr[i]? = some sr → q_S1 i sr G.2.2.2.2.2.1 G.2.2.2.2.2.2.1 (q_A G) U H) ∧
  va_Z "java/lang/String" "COMPACT_STRINGS" "Z" (.int 1) (q_A G) U H ∧ (∀ e ∈ q_EX, va_Nc e.1 e.2 U) ∧ va_Zq "jdk/internal/util/Preconditions" "SIOOBE_FORMATTER" "Ljava/util/function/BiFunction;" (q_A G) U H ∧
  q_Sa "KINDS" 80 5 (fun i => 63 + i) G.2.2.2.2.2.1 (q_A G) U H ∧ q_Sa "NAMES" 81 5 (fun i => 68 + i) G.2.2.2.2.2.1 (q_A G) U H ∧ q_Sa "ORDERS" 82 3 (fun i => 73 + i) G.2.2.2.2.2.1 (q_A G) U H
theorem q_S1.warm {i : Nat} {sr : String × Nat × String × List Int32} {adK adV : Nat → Nat} {A : Nat → Prop} {s U : State} {H : Heap} (hW : s.WarmedH U.vm) (h : q_S1 i sr adK adV A s H) : q_S1 i sr adK adV A U H :=
  ⟨h.1.warm hW, h.2.1.moved hW.alike, h.2.2.1.moved hW.alike, h.2.2.2.1.moved hW.alike, h.2.2.2.2.moved hW.alike⟩
theorem q_S1.kept {i : Nat} {sr : String × Nat × String × List Int32} {adK adV : Nat → Nat} {A : Nat → Prop} {U : State} {H H1 : Heap} (h : q_S1 i sr adK adV A U H) (hq : ∀ a : Nat, a < H.size → ¬ A a → H1[a]? = H[a]?) : q_S1 i sr adK adV A U H1 :=
  ⟨h.1, h.2.1.kept hq, h.2.2.1.kept hq, h.2.2.2.1.kept hq, h.2.2.2.2.kept hq⟩
theorem q_St.warm {G : q_G} {s U : State} {H : Heap} (hW : s.WarmedH U.vm) (h : q_St G s H) : q_St G U H := by
  obtain ⟨h1, h2, h3, h4, h5, h6, h7, h8, h9, h10, h11, h12, h13⟩ := h
  exact ⟨h1.moved hW.alike, h2.moved hW.alike, h3.moved hW.alike, h4.moved hW.alike, h5.moved hW.alike, h6.moved hW.alike, fun i sr hi => (h7 i sr hi).warm hW, h8.moved hW.alike, fun e he => (h9 e he).moved hW.alike, h10.moved hW.alike, h11.warm hW, h12.warm hW, h13.warm hW⟩
theorem q_St.kept {G : q_G} {U : State} {H H1 : Heap} (h : q_St G U H) (hq : ∀ a : Nat, a < H.size → ¬ q_A G a → H1[a]? = H[a]?) : q_St G U H1 := by
  obtain ⟨h1, h2, h3, h4, h5, h6, h7, h8, h9, h10, h11, h12, h13⟩ := h
  exact ⟨h1.kept hq, h2.kept hq, h3.kept hq, h4.kept hq, h5.kept hq, h6.kept hq, fun i sr hi => (h7 i sr hi).kept hq, h8.kept hq, h9, h10.kept hq, h11.kept hq, h12.kept hq, h13.kept hq⟩
def q_nst : List Cond := [Cond.methodLinkNest RX7 9 yX3_init "IdleMoney", Cond.methodLinkNest RX4 37 yX2_init "IdleMoney", Cond.methodLinkNest RX7 18 yX1_init "IdleMoney", Cond.methodLinkNest RX1 11 yX0_init "IdleMoney", Cond.methodLinkNest RX6 36 yX0_init "IdleMoney", Cond.methodLinkNest RL 144 yX10_init "IdleMoneyLaw", Cond.methodLinkNest RL 216 yX8_init "IdleMoneyLaw", Cond.arrayOver (.object RX5), Cond.arrayOver (.object RX2), Cond.arrayOver (.object RX0), Cond.arrayOver (.array .int), Cond.arrayOver (.object RX6), Cond.arrayOver (.array (.array .int)), Cond.arrayOver (.object RX8), Cond.arrayOver (.object RX10), Cond.castable "java/util/NoSuchElementException" "java/util/NoSuchElementException", Cond.castable "java/lang/IllegalArgumentException" "java/lang/IllegalArgumentException", Cond.castable "java/lang/IllegalStateException" "java/lang/IllegalStateException"]
theorem q_AOA_moved {t : FieldType} {u U : State} (hvm : u.vm.Alike U.vm) (h : va_Nw (.arrayOver (.array t)) u) : va_Nw (.arrayOver (.array t)) U := by
  unfold va_Nw Cond.before at h ⊢
  simp only [Cond.holds, Cond.value, beq_iff_eq] at h ⊢
  cases hc : u.vm.findClass (FieldType.array t).toString with
  | none => simp [hc] at h
  | some comp =>
    simp only [hc, Option.bind_some, Option.bind_eq_some_iff, Option.map_eq_some_iff] at h
    obtain ⟨c, hi, k, hk, hb⟩ := h
    obtain ⟨k', hk', he⟩ := hvm.2.2 _ _ hk
    have b1 := va_idx_bare U.vm comp
    have b2 := va_idx_bare u.vm comp
    rw [← hvm.bare_eq] at b2
    have hi2 := (b1.symm.trans b2).trans hi
    have f1 : U.vm.findClass (FieldType.array t).toString = some comp := by rw [hvm.findClass]; exact hc
    have f2 : U.vm.findClass ("[" ++ (FieldType.array t).toString) = u.vm.findClass ("[" ++ (FieldType.array t).toString) := by rw [hvm.findClass]
    simp only [f1, Option.bind_some, Option.bind_eq_some_iff, Option.map_eq_some_iff]
    refine ⟨c, hi2, k', hk', ?_⟩
    rw [he]
    rw [f2]
    exact hb
theorem q_nst_warm {s U : State} (hW : s.WarmedH U.vm) : ∀ w ∈ q_nst, va_Nw w s → va_Nw w U := by
  intro w hw h
  simp only [q_nst, List.mem_cons, List.not_mem_nil, or_false] at hw
  rcases hw with rfl | rfl | rfl | rfl | rfl | rfl | rfl | rfl | rfl | rfl | rfl | rfl | rfl | rfl | rfl | rfl | rfl | rfl
  · exact h.warmM hW
  · exact h.warmM hW
  · exact h.warmM hW
  · exact h.warmM hW
  · exact h.warmM hW
  · exact h.warmM hW
  · exact h.warmM hW
  · exact va_AO.moved hW.alike h
  · exact va_AO.moved hW.alike h
  · exact va_AO.moved hW.alike h
  · exact q_AOA_moved hW.alike h
  · exact va_AO.moved hW.alike h
  · exact q_AOA_moved hW.alike h
  · exact va_AO.moved hW.alike h
  · exact va_AO.moved hW.alike h
  · exact h.warmC hW
  · exact h.warmC hW
  · exact h.warmC hW
/-- what holds of the tables and of what nobody writes -/
def q_Gs (G : q_G) (U : State) : Prop := G.1.stackTraces = false ∧ va_K G.2.1 q_cl (q_tys G.2.2.1) U ∧ (∀ w ∈ q_all, w.before #[] U = true) ∧ (∀ w ∈ q_nst, va_Nw w U) ∧ q_St G U U.heap
theorem q_word {w : Cond} {s U : State} {args : Array Value} (hW : s.WarmedH U.vm) (hg : goodWord w = true) (h : w.before #[] s = true) : w.before args U = true := word_at hW (good_of_word hg) h
theorem q_Gs.go {G : q_G} {s U : State} (hW : s.WarmedH U.vm) (hH : ∀ a : Nat, a < s.heap.size → ¬ q_A G a → U.heap[a]? = s.heap[a]?) (h : q_Gs G s) : q_Gs G U :=
  ⟨h.1, h.2.1.moved hW.alike, fun w hw => q_word hW (q_all_good hw) (h.2.2.1 w hw), fun w hw => q_nst_warm hW w hw (h.2.2.2.1 w hw), (h.2.2.2.2.warm hW).kept hH⟩
theorem q_Gs.at {G : q_G} {s : State} (h : q_Gs G s) {w : Cond} (hw : w ∈ q_all) (args : Array Value) : w.before args s = true := q_word (State.WarmedH.refl s) (q_all_good hw) (h.2.2.1 w hw)
def q_at (G : q_G) (I L : q_I) (P : q_P) (q : Nat) (k : q_K) (H : Heap) : Prop := match k with
  | .inl ci => ∃ r : vw_C, q_cl[ci]? = some r ∧ t_OB q (G.2.1.1 ci) r.2.2 (G.2.1.2 ci) H (fun k => q_fv (q_ft ci k) I L P q k)
  | .inr (t, n) => t < 10 ∧ H[q]? = some (arrV (G.2.2.1 t) n (fun j => q_fv (q_ty t) I L P q j))
def q_Rep (G : q_G) (T : q_T) (I L : q_I) (P : q_P) (H : Heap) : Prop := ∀ (q : Nat) (k : q_K), T q = some k → q_at G I L P q k H
theorem q_at.kept {G : q_G} {I L I' L' : q_I} {P P' : q_P} {q : Nat} {k : q_K} {H H' : Heap} (h : q_at G I L P q k H) (hq : H'[q]? = H[q]?) (hI : ∀ j, I' q j = I q j) (hL : ∀ j, L' q j = L q j) (hP : ∀ j, P' q j = P q j) : q_at G I' L' P' q k H' := by
  have e : ∀ ty j, q_fv ty I' L' P' q j = q_fv ty I L P q j := by
    intro ty j
    unfold q_fv
    rw [hI, hL, hP]
  cases k with
  | inl ci =>
    obtain ⟨r, h1, h2⟩ := h
    exact ⟨r, h1, (h2.kept hq).to (fun k _ => (e _ _).symm)⟩
  | inr tn =>
    obtain ⟨t, n⟩ := tn
    obtain ⟨h1, h2⟩ := h
    refine ⟨h1, hq.trans ?_⟩
    rw [h2]
    congr 2
    funext j
    exact (e _ _).symm
theorem q_Rep.kept {G : q_G} {T : q_T} {I L : q_I} {P : q_P} {H H' : Heap} (h : q_Rep G T I L P H) (hq : ∀ q k, T q = some k → H'[q]? = H[q]?) : q_Rep G T I L P H' := fun q k hk => (h q k hk).kept (hq q k hk) (fun _ => rfl) (fun _ => rfl) (fun _ => rfl)
theorem q_at.lt {G : q_G} {I L : q_I} {P : q_P} {q : Nat} {k : q_K} {H : Heap} (h : q_at G I L P q k H) : q < H.size := by
  cases k with
  | inl ci =>
    obtain ⟨r, h1, cell, h2, -⟩ := h
    exact (Array.getElem?_eq_some_iff.mp h2).1
  | inr tn =>
    obtain ⟨t, n⟩ := tn
    exact (Array.getElem?_eq_some_iff.mp h.2).1
/-- a store into one cell -/
theorem q_Rep.put {G : q_G} {T : q_T} {I L I' L' : q_I} {P P' : q_P} {H H' : Heap} {a : Nat} (h : q_Rep G T I L P H) (oq : ∀ q : Nat, q ≠ a → H'[q]? = H[q]?) (hI : ∀ q j, q ≠ a → I' q j = I q j) (hL : ∀ q j, q ≠ a → L' q j = L q j) (hP : ∀ q j, q ≠ a → P' q j = P q j) (ha : ∀ k, T a = some k → q_at G I' L' P' a k H') : q_Rep G T I' L' P' H' := by
  intro q k hk
  by_cases e : q = a
  · subst e
    exact ha k hk
  · exact (h q k hk).kept (oq q e) (fun j => hI q j e) (fun j => hL q j e) (fun j => hP q j e)
/-- a method's frame: program, launch, choices, room, the state at its call, its number, arguments, frames below, method, code, cells and slots that it may take -/
abbrev q_F : Type := Program × Launch × Env × Room × State × MethodId × Array Value × List Frame × Method × Code × Nat × Nat
abbrev q_Q : Type := (Option Value ⊕ String) → Nat → q_T → q_I → q_I → q_P → Prop
def q_Qc (G : q_G) (Q : q_Q) : Array Value → State → Outcome → State → Prop := fun _ st oc t =>
  (∃ (v : Option Value) (sz : Nat) (T : q_T) (I L : q_I) (P : q_P), oc = .returned v ∧ Q (.inl v) sz T I L P ∧ t.heap.size = sz ∧ q_Rep G T I L P t.heap) ∧ va_F (q_A G) st t
def q_XC (G : q_G) (Q : q_Q) : String → State → State → Prop := fun E st t =>
  (∃ (sz : Nat) (T : q_T) (I L : q_I) (P : q_P), Q (.inr E) sz T I L P ∧ t.heap.size = sz ∧ q_Rep G T I L P t.heap) ∧ va_F (q_A G) st t
def q_rm (h mc ms : Nat) : Room := { frames := h + 12, cells := mc, slots := ms, locals := 260 + 60 * h }
/-- a method: its name, bytes, locals, answer, exception table -/
abbrev q_Y : Type := MethodName × ByteArray × Nat × Option FieldType × List (Nat × Nat × Nat × Nat)
def q_code (Y : q_Y) : Cond := match Y.2.2.2.2 with
  | [] => .code Y.1 Y.2.1 Y.2.2.1 Y.2.2.2.1
  | hh => .codeWith Y.1 Y.2.1 Y.2.2.1 Y.2.2.2.1 hh
def q_ws (Y : q_Y) : List Cond := q_code Y :: q_all
/-- THE CONTRACT: called with these arguments in this memory, method Y ends, and Q holds of how, and of the memory then -/
def qC (G : q_G) (h mc ms : Nat) (Y : q_Y) (av : List Value) (sz : Nat) (T : q_T) (I L : q_I) (P : q_P) (Q : q_Q) : Prop :=
  vx_Met G.1 Y.1 (q_ws Y) (q_rm h mc ms) (va_Pc av (fun U => q_Gs G U ∧ U.heap.size = sz ∧ q_Rep G T I L P U.heap)) (q_Qc G Q) (q_XC G Q) mc ms (q_A G)
/-- what holds in a method's frame -/
def q_ok (G : q_G) (F : q_F) (Y : q_Y) (h : Nat) : Prop := match F with
  | (p, l, _, R, s, m, _, _, meth, c, mc, ms) => p.tables.exec = Jvm.exec ∧ c.code = Y.2.1 ∧ meth.sig.returnType = Y.2.2.2.1 ∧ meth.locks = false ∧ c.maxLocals = Y.2.2.1 ∧ s.vm.findClass Y.1.cls = some m.cls ∧ meth.name = Y.1.name ∧ c.exceptionTable.toList = tableOf Y.2.2.2.2 ∧ q_Gs G s ∧ R = q_rm h mc ms ∧ l.stackTraces = false ∧ l = G.1
/-- THE JUDGEMENT: from this place, with kc cells and ks slots to take, the method ends as Q says -/
def qX (G : q_G) (F : q_F) (Q : q_Q) (kc ks pc : Nat) (ls : List (Nat × Value)) (st : List Value) (sz : Nat) (T : q_T) (I L : q_I) (P : q_P) : Prop := match F with
  | (p, l, e, R, s, m, args, below, meth, c, mc, ms) =>
    ∀ (H : Heap) (locs : List Loc) (cells slots : Nat) (lsA : Array Slot), H.size = sz → q_Rep G T I L P H → va_S (q_A G) s.heap H locs → lv_has lsA c.maxLocals ls → cells + kc ≤ mc → slots + ks ≤ ms →
      W p l e R s m args below meth c H locs cells slots (vx_MQ below (q_Qc G Q) (q_XC G Q) args s mc ms (q_A G)) (F0 m pc lsA st)
/-- .. an exception of class E is on its way, thrown by the call at pc -/
def qT (G : q_G) (F : q_F) (Q : q_Q) (kc ks pc : Nat) (ls : List (Nat × Value)) (st : List Value) (E : String) (sz : Nat) (T : q_T) (I L : q_I) (P : q_P) : Prop := match F with
  | (p, l, e, R, s, m, args, below, meth, c, mc, ms) =>
    ∀ (H : Heap) (locs : List Loc) (cells slots : Nat) (lsA : Array Slot) (q9 : Nat) (ce : Cell), H.size = sz → q_Rep G T I L P H → va_S (q_A G) s.heap H locs → lv_has lsA c.maxLocals ls → cells + kc ≤ mc → slots + ks ≤ ms →
      H[q9]? = some ce → ce.vm = .none → s.vm.findClass E = some ce.cls →
      vx_W p l e R s m args below meth c H locs cells slots (vx_MQ below (q_Qc G Q) (q_XC G Q) args s mc ms (q_A G)) (F0 m pc lsA st) q9
def q_d (cc : ByteArray) (pc pc' : Nat) (i : Instr) (n : Nat) : Prop := decode cc pc = .ok (i, n) ∧ pc + n = pc'
def q_j (cc : ByteArray) (pc pc' tgt : Nat) (i : Int → Instr) : Prop := ∃ off : Int, decode cc pc = .ok (i off, 3) ∧ pc + 3 = pc' ∧ (pc : Int) + off = (tgt : Int)
section QX
variable {G : q_G} {F : q_F} {Y : q_Y} {h : Nat} {Q : q_Q} {kc ks pc pc' tgt : Nat} {ls : List (Nat × Value)} {st : List Value} {sz : Nat} {T : q_T} {I L : q_I} {P : q_P}
theorem q_iconst (hF : q_ok G F Y h) {n : Int} (d : q_d Y.2.1 pc pc' (.iconst n) 1) (k : qX G F Q kc ks pc' ls (qI n :: st) sz T I L P) : qX G F Q kc ks pc ls (st) sz T I L P := by
  obtain ⟨p, l, e, R, s, m, args, below, meth, c, mc, ms⟩ := F
  obtain ⟨hx, hb, -⟩ := hF
  obtain ⟨d, rfl⟩ := d
  intro H locs cells slots lsA z1 z2 z3 z4 z5 z6
  exact lv_iconst hx hb d rfl (k H locs cells slots lsA z1 z2 z3 z4 z5 z6)
theorem q_bipush (hF : q_ok G F Y h) {n : Int} (hn : (Int8.ofInt n).toInt32 = Int32.ofInt n) (d : q_d Y.2.1 pc pc' (.bipush n) 2) (k : qX G F Q kc ks pc' ls (qI n :: st) sz T I L P) : qX G F Q kc ks pc ls (st) sz T I L P := by
  obtain ⟨p, l, e, R, s, m, args, below, meth, c, mc, ms⟩ := F
  obtain ⟨hx, hb, -⟩ := hF
  obtain ⟨d, rfl⟩ := d
  intro H locs cells slots lsA z1 z2 z3 z4 z5 z6
  exact lv_bipush hx hb d hn (k H locs cells slots lsA z1 z2 z3 z4 z5 z6)
theorem q_sipush (hF : q_ok G F Y h) {n : Int} (hn : (Int16.ofInt n).toInt32 = Int32.ofInt n) (d : q_d Y.2.1 pc pc' (.sipush n) 3) (k : qX G F Q kc ks pc' ls (qI n :: st) sz T I L P) : qX G F Q kc ks pc ls (st) sz T I L P := by
  obtain ⟨p, l, e, R, s, m, args, below, meth, c, mc, ms⟩ := F
  obtain ⟨hx, hb, -⟩ := hF
  obtain ⟨d, rfl⟩ := d
  intro H locs cells slots lsA z1 z2 z3 z4 z5 z6
  exact lv_sipush hx hb d hn (k H locs cells slots lsA z1 z2 z3 z4 z5 z6)
theorem q_lconst (hF : q_ok G F Y h) {n : Fin 2} {z : Int} (hn : Int64.ofNat (n : Nat) = Int64.ofInt z) (d : q_d Y.2.1 pc pc' (.lconst n) 1) (k : qX G F Q kc ks pc' ls (qL z :: st) sz T I L P) : qX G F Q kc ks pc ls (st) sz T I L P := by
  obtain ⟨p, l, e, R, s, m, args, below, meth, c, mc, ms⟩ := F
  obtain ⟨hx, hb, -⟩ := hF
  obtain ⟨d, rfl⟩ := d
  intro H locs cells slots lsA z1 z2 z3 z4 z5 z6
  exact lv_lconst hx hb d hn (k H locs cells slots lsA z1 z2 z3 z4 z5 z6)
theorem q_null (hF : q_ok G F Y h)  (d : q_d Y.2.1 pc pc' .aconst_null 1) (k : qX G F Q kc ks pc' ls (.null :: st) sz T I L P) : qX G F Q kc ks pc ls (st) sz T I L P := by
  obtain ⟨p, l, e, R, s, m, args, below, meth, c, mc, ms⟩ := F
  obtain ⟨hx, hb, -⟩ := hF
  obtain ⟨d, rfl⟩ := d
  intro H locs cells slots lsA z1 z2 z3 z4 z5 z6
  exact lv_null hx hb d (k H locs cells slots lsA z1 z2 z3 z4 z5 z6)
theorem q_iload_n (hF : q_ok G F Y h) {i : Fin 4} {i' : Nat} {z : Int} (j : Nat) (hi : (i : Nat) = i') (hl : ls[j]? = some (i', qI z)) (d : q_d Y.2.1 pc pc' (.iload_n i) 1) (k : qX G F Q kc ks pc' ls (qI z :: st) sz T I L P) : qX G F Q kc ks pc ls (st) sz T I L P := by
  obtain ⟨p, l, e, R, s, m, args, below, meth, c, mc, ms⟩ := F
  obtain ⟨hx, hb, -⟩ := hF
  obtain ⟨d, rfl⟩ := d
  intro H locs cells slots lsA z1 z2 z3 z4 z5 z6
  exact lv_iload_n hx hb d hi (lv_at z4 j hl) (k H locs cells slots lsA z1 z2 z3 z4 z5 z6)
theorem q_iload (hF : q_ok G F Y h) {i : Nat} {z : Int} (j : Nat) (hl : ls[j]? = some (i, qI z)) (d : q_d Y.2.1 pc pc' (.iload i) 2) (k : qX G F Q kc ks pc' ls (qI z :: st) sz T I L P) : qX G F Q kc ks pc ls (st) sz T I L P := by
  obtain ⟨p, l, e, R, s, m, args, below, meth, c, mc, ms⟩ := F
  obtain ⟨hx, hb, -⟩ := hF
  obtain ⟨d, rfl⟩ := d
  intro H locs cells slots lsA z1 z2 z3 z4 z5 z6
  exact lv_iload hx hb d (lv_at z4 j hl) (k H locs cells slots lsA z1 z2 z3 z4 z5 z6)
theorem q_lload_n (hF : q_ok G F Y h) {i : Fin 4} {i' : Nat} {z : Int} (j : Nat) (hi : (i : Nat) = i') (hl : ls[j]? = some (i', qL z)) (d : q_d Y.2.1 pc pc' (.lload_n i) 1) (k : qX G F Q kc ks pc' ls (qL z :: st) sz T I L P) : qX G F Q kc ks pc ls (st) sz T I L P := by
  obtain ⟨p, l, e, R, s, m, args, below, meth, c, mc, ms⟩ := F
  obtain ⟨hx, hb, -⟩ := hF
  obtain ⟨d, rfl⟩ := d
  intro H locs cells slots lsA z1 z2 z3 z4 z5 z6
  exact lv_lload_n hx hb d hi (lv_at z4 j hl) (k H locs cells slots lsA z1 z2 z3 z4 z5 z6)
theorem q_lload (hF : q_ok G F Y h) {i : Nat} {z : Int} (j : Nat) (hl : ls[j]? = some (i, qL z)) (d : q_d Y.2.1 pc pc' (.lload i) 2) (k : qX G F Q kc ks pc' ls (qL z :: st) sz T I L P) : qX G F Q kc ks pc ls (st) sz T I L P := by
  obtain ⟨p, l, e, R, s, m, args, below, meth, c, mc, ms⟩ := F
  obtain ⟨hx, hb, -⟩ := hF
  obtain ⟨d, rfl⟩ := d
  intro H locs cells slots lsA z1 z2 z3 z4 z5 z6
  exact lv_lload hx hb d (lv_at z4 j hl) (k H locs cells slots lsA z1 z2 z3 z4 z5 z6)
theorem q_aload_n (hF : q_ok G F Y h) {i : Fin 4} {i' : Nat} {z : Nat} (j : Nat) (hi : (i : Nat) = i') (hl : ls[j]? = some (i', .ref z)) (d : q_d Y.2.1 pc pc' (.aload_n i) 1) (k : qX G F Q kc ks pc' ls (.ref z :: st) sz T I L P) : qX G F Q kc ks pc ls (st) sz T I L P := by
  obtain ⟨p, l, e, R, s, m, args, below, meth, c, mc, ms⟩ := F
  obtain ⟨hx, hb, -⟩ := hF
  obtain ⟨d, rfl⟩ := d
  intro H locs cells slots lsA z1 z2 z3 z4 z5 z6
  exact lv_aload_n hx hb d hi (lv_at z4 j hl) (k H locs cells slots lsA z1 z2 z3 z4 z5 z6)
theorem q_aload (hF : q_ok G F Y h) {i : Nat} {z : Nat} (j : Nat) (hl : ls[j]? = some (i, .ref z)) (d : q_d Y.2.1 pc pc' (.aload i) 2) (k : qX G F Q kc ks pc' ls (.ref z :: st) sz T I L P) : qX G F Q kc ks pc ls (st) sz T I L P := by
  obtain ⟨p, l, e, R, s, m, args, below, meth, c, mc, ms⟩ := F
  obtain ⟨hx, hb, -⟩ := hF
  obtain ⟨d, rfl⟩ := d
  intro H locs cells slots lsA z1 z2 z3 z4 z5 z6
  exact lv_aload hx hb d (lv_at z4 j hl) (k H locs cells slots lsA z1 z2 z3 z4 z5 z6)
theorem q_aload_nR (hF : q_ok G F Y h) {i : Fin 4} {i' : Nat} {r : Option Nat} (j : Nat) (hi : (i : Nat) = i') (hl : ls[j]? = some (i', qR r)) (d : q_d Y.2.1 pc pc' (.aload_n i) 1) (k : qX G F Q kc ks pc' ls (qR r :: st) sz T I L P) : qX G F Q kc ks pc ls (st) sz T I L P := by
  obtain ⟨p, l, e, R, s, m, args, below, meth, c, mc, ms⟩ := F
  obtain ⟨hx, hb, -⟩ := hF
  obtain ⟨d, rfl⟩ := d
  intro H locs cells slots lsA z1 z2 z3 z4 z5 z6
  have q := k H locs cells slots lsA z1 z2 z3 z4 z5 z6
  cases r with
  | none => exact lv_aload_nN hx hb d hi (lv_at z4 j hl) q
  | some a => exact lv_aload_n hx hb d hi (lv_at z4 j hl) q
theorem q_aloadR (hF : q_ok G F Y h) {i : Nat} {r : Option Nat} (j : Nat) (hl : ls[j]? = some (i, qR r)) (d : q_d Y.2.1 pc pc' (.aload i) 2) (k : qX G F Q kc ks pc' ls (qR r :: st) sz T I L P) : qX G F Q kc ks pc ls (st) sz T I L P := by
  obtain ⟨p, l, e, R, s, m, args, below, meth, c, mc, ms⟩ := F
  obtain ⟨hx, hb, -⟩ := hF
  obtain ⟨d, rfl⟩ := d
  intro H locs cells slots lsA z1 z2 z3 z4 z5 z6
  have q := k H locs cells slots lsA z1 z2 z3 z4 z5 z6
  cases r with
  | none => exact lv_aloadN hx hb d (lv_at z4 j hl) q
  | some a => exact lv_aload hx hb d (lv_at z4 j hl) q
theorem q_istore_n (hF : q_ok G F Y h) {i0 : Fin 4} {i : Nat} {z : Int} {ls' : List (Nat × Value)} (hi : (i0 : Nat) = i) (hn : i < Y.2.2.1) (hl : (i, qI z) :: ls.filter (fun q => !(q.1 == i) && !(q.1 + 1 == i && q.2.category == 2)) = ls') (d : q_d Y.2.1 pc pc' (.istore_n i0) 1) (k : qX G F Q kc ks pc' ls' st sz T I L P) : qX G F Q kc ks pc ls (qI z :: st) sz T I L P := by
  obtain ⟨p, l, e, R, s, m, args, below, meth, c, mc, ms⟩ := F
  obtain ⟨hx, hb, -, -, hml, -⟩ := hF
  obtain ⟨d, rfl⟩ := d
  intro H locs cells slots lsA z1 z2 z3 z4 z5 z6
  exact lv_istore_n hx hb d hi z4 (by rw [hml]; exact hn) hl (fun lsA z4 => k H locs cells slots lsA z1 z2 z3 z4 z5 z6)
theorem q_istore (hF : q_ok G F Y h) {i : Nat} {z : Int} {ls' : List (Nat × Value)} (hn : i < Y.2.2.1) (hl : (i, qI z) :: ls.filter (fun q => !(q.1 == i) && !(q.1 + 1 == i && q.2.category == 2)) = ls') (d : q_d Y.2.1 pc pc' (.istore i) 2) (k : qX G F Q kc ks pc' ls' st sz T I L P) : qX G F Q kc ks pc ls (qI z :: st) sz T I L P := by
  obtain ⟨p, l, e, R, s, m, args, below, meth, c, mc, ms⟩ := F
  obtain ⟨hx, hb, -, -, hml, -⟩ := hF
  obtain ⟨d, rfl⟩ := d
  intro H locs cells slots lsA z1 z2 z3 z4 z5 z6
  exact lv_istore hx hb d z4 (by rw [hml]; exact hn) hl (fun lsA z4 => k H locs cells slots lsA z1 z2 z3 z4 z5 z6)
theorem q_lstore_n (hF : q_ok G F Y h) {i0 : Fin 4} {i : Nat} {z : Int} {ls' : List (Nat × Value)} (hi : (i0 : Nat) = i) (hn : i + 1 < Y.2.2.1) (hl : (i, qL z) :: ls.filter (fun q => !(q.1 == i) && (!(q.1 == i + 1) && !(q.1 + 1 == i && q.2.category == 2))) = ls') (d : q_d Y.2.1 pc pc' (.lstore_n i0) 1) (k : qX G F Q kc ks pc' ls' st sz T I L P) : qX G F Q kc ks pc ls (qL z :: st) sz T I L P := by
  obtain ⟨p, l, e, R, s, m, args, below, meth, c, mc, ms⟩ := F
  obtain ⟨hx, hb, -, -, hml, -⟩ := hF
  obtain ⟨d, rfl⟩ := d
  intro H locs cells slots lsA z1 z2 z3 z4 z5 z6
  exact lv_lstore_n hx hb d hi z4 (by rw [hml]; exact hn) hl (fun lsA z4 => k H locs cells slots lsA z1 z2 z3 z4 z5 z6)
theorem q_lstore (hF : q_ok G F Y h) {i : Nat} {z : Int} {ls' : List (Nat × Value)} (hn : i + 1 < Y.2.2.1) (hl : (i, qL z) :: ls.filter (fun q => !(q.1 == i) && (!(q.1 == i + 1) && !(q.1 + 1 == i && q.2.category == 2))) = ls') (d : q_d Y.2.1 pc pc' (.lstore i) 2) (k : qX G F Q kc ks pc' ls' st sz T I L P) : qX G F Q kc ks pc ls (qL z :: st) sz T I L P := by
  obtain ⟨p, l, e, R, s, m, args, below, meth, c, mc, ms⟩ := F
  obtain ⟨hx, hb, -, -, hml, -⟩ := hF
  obtain ⟨d, rfl⟩ := d
  intro H locs cells slots lsA z1 z2 z3 z4 z5 z6
  exact lv_lstore hx hb d z4 (by rw [hml]; exact hn) hl (fun lsA z4 => k H locs cells slots lsA z1 z2 z3 z4 z5 z6)
theorem q_astore_n (hF : q_ok G F Y h) {i0 : Fin 4} {i : Nat} {z : Nat} {ls' : List (Nat × Value)} (hi : (i0 : Nat) = i) (hn : i < Y.2.2.1) (hl : (i, .ref z) :: ls.filter (fun q => !(q.1 == i) && !(q.1 + 1 == i && q.2.category == 2)) = ls') (d : q_d Y.2.1 pc pc' (.astore_n i0) 1) (k : qX G F Q kc ks pc' ls' st sz T I L P) : qX G F Q kc ks pc ls (.ref z :: st) sz T I L P := by
  obtain ⟨p, l, e, R, s, m, args, below, meth, c, mc, ms⟩ := F
  obtain ⟨hx, hb, -, -, hml, -⟩ := hF
  obtain ⟨d, rfl⟩ := d
  intro H locs cells slots lsA z1 z2 z3 z4 z5 z6
  exact lv_astore_n hx hb d hi z4 (by rw [hml]; exact hn) hl (fun lsA z4 => k H locs cells slots lsA z1 z2 z3 z4 z5 z6)
theorem q_astore (hF : q_ok G F Y h) {i : Nat} {z : Nat} {ls' : List (Nat × Value)} (hn : i < Y.2.2.1) (hl : (i, .ref z) :: ls.filter (fun q => !(q.1 == i) && !(q.1 + 1 == i && q.2.category == 2)) = ls') (d : q_d Y.2.1 pc pc' (.astore i) 2) (k : qX G F Q kc ks pc' ls' st sz T I L P) : qX G F Q kc ks pc ls (.ref z :: st) sz T I L P := by
  obtain ⟨p, l, e, R, s, m, args, below, meth, c, mc, ms⟩ := F
  obtain ⟨hx, hb, -, -, hml, -⟩ := hF
  obtain ⟨d, rfl⟩ := d
  intro H locs cells slots lsA z1 z2 z3 z4 z5 z6
  exact lv_astore hx hb d z4 (by rw [hml]; exact hn) hl (fun lsA z4 => k H locs cells slots lsA z1 z2 z3 z4 z5 z6)
theorem q_astore_nR (hF : q_ok G F Y h) {i0 : Fin 4} {i : Nat} {z : Option Nat} {ls' : List (Nat × Value)} (hi : (i0 : Nat) = i) (hn : i < Y.2.2.1) (hl : (i, qR z) :: ls.filter (fun q => !(q.1 == i) && !(q.1 + 1 == i && q.2.category == 2)) = ls') (d : q_d Y.2.1 pc pc' (.astore_n i0) 1) (k : qX G F Q kc ks pc' ls' st sz T I L P) : qX G F Q kc ks pc ls (qR z :: st) sz T I L P := by
  obtain ⟨p, l, e, R, s, m, args, below, meth, c, mc, ms⟩ := F
  obtain ⟨hx, hb, -, -, hml, -⟩ := hF
  obtain ⟨d, rfl⟩ := d
  intro H locs cells slots lsA z1 z2 z3 z4 z5 z6
  cases z with
  | none => exact lv_astore_nN hx hb d hi z4 (by rw [hml]; exact hn) hl (fun lsA z4 => k H locs cells slots lsA z1 z2 z3 z4 z5 z6)
  | some a => exact lv_astore_n hx hb d hi z4 (by rw [hml]; exact hn) hl (fun lsA z4 => k H locs cells slots lsA z1 z2 z3 z4 z5 z6)
theorem q_astoreR (hF : q_ok G F Y h) {i : Nat} {z : Option Nat} {ls' : List (Nat × Value)} (hn : i < Y.2.2.1) (hl : (i, qR z) :: ls.filter (fun q => !(q.1 == i) && !(q.1 + 1 == i && q.2.category == 2)) = ls') (d : q_d Y.2.1 pc pc' (.astore i) 2) (k : qX G F Q kc ks pc' ls' st sz T I L P) : qX G F Q kc ks pc ls (qR z :: st) sz T I L P := by
  obtain ⟨p, l, e, R, s, m, args, below, meth, c, mc, ms⟩ := F
  obtain ⟨hx, hb, -, -, hml, -⟩ := hF
  obtain ⟨d, rfl⟩ := d
  intro H locs cells slots lsA z1 z2 z3 z4 z5 z6
  cases z with
  | none => exact lv_astoreN hx hb d z4 (by rw [hml]; exact hn) hl (fun lsA z4 => k H locs cells slots lsA z1 z2 z3 z4 z5 z6)
  | some a => exact lv_astore hx hb d z4 (by rw [hml]; exact hn) hl (fun lsA z4 => k H locs cells slots lsA z1 z2 z3 z4 z5 z6)
theorem q_iinc (hF : q_ok G F Y h) {i : Nat} {n z z' : Int} {ls' : List (Nat × Value)} (j : Nat) (hk : ls[j]? = some (i, qI z)) (hv : z + n = z') (hn : i < Y.2.2.1) (hl : (i, qI z') :: ls.filter (fun q => !(q.1 == i) && !(q.1 + 1 == i && q.2.category == 2)) = ls') (d : q_d Y.2.1 pc pc' (.iinc i n) 3) (k : qX G F Q kc ks pc' ls' st sz T I L P) : qX G F Q kc ks pc ls st sz T I L P := by
  obtain ⟨p, l, e, R, s, m, args, below, meth, c, mc, ms⟩ := F
  obtain ⟨hx, hb, -, -, hml, -⟩ := hF
  subst hv
  obtain ⟨d, rfl⟩ := d
  intro H locs cells slots lsA z1 z2 z3 z4 z5 z6
  exact lv_iinc hx hb d z4 hk (Int32.ofInt_add z n).symm (by rw [hml]; exact hn) hl (fun lsA z4 => k H locs cells slots lsA z1 z2 z3 z4 z5 z6)
theorem q_iadd (hF : q_ok G F Y h) {a b : Int}  (d : q_d Y.2.1 pc pc' .iadd 1) (k : qX G F Q kc ks pc' ls (qI (a + b) :: st) sz T I L P) : qX G F Q kc ks pc ls (qI b :: qI a :: st) sz T I L P := by
  obtain ⟨p, l, e, R, s, m, args, below, meth, c, mc, ms⟩ := F
  obtain ⟨hx, hb, -⟩ := hF
  obtain ⟨d, rfl⟩ := d
  intro H locs cells slots lsA z1 z2 z3 z4 z5 z6
  have q := k H locs cells slots lsA z1 z2 z3 z4 z5 z6
  rw [show qI (a + b) = .int (Int32.ofInt a + Int32.ofInt b) from congrArg _ (Int32.ofInt_add a b)] at q
  exact lv_iadd hx hb d q
theorem q_isub (hF : q_ok G F Y h) {a b : Int}  (d : q_d Y.2.1 pc pc' .isub 1) (k : qX G F Q kc ks pc' ls (qI (a - b) :: st) sz T I L P) : qX G F Q kc ks pc ls (qI b :: qI a :: st) sz T I L P := by
  obtain ⟨p, l, e, R, s, m, args, below, meth, c, mc, ms⟩ := F
  obtain ⟨hx, hb, -⟩ := hF
  obtain ⟨d, rfl⟩ := d
  intro H locs cells slots lsA z1 z2 z3 z4 z5 z6
  have q := k H locs cells slots lsA z1 z2 z3 z4 z5 z6
  rw [show qI (a - b) = .int (Int32.ofInt a - Int32.ofInt b) from congrArg _ (Int32.ofInt_sub a b)] at q
  exact lv_isub hx hb d q
theorem q_imul (hF : q_ok G F Y h) {a b : Int}  (d : q_d Y.2.1 pc pc' .imul 1) (k : qX G F Q kc ks pc' ls (qI (a * b) :: st) sz T I L P) : qX G F Q kc ks pc ls (qI b :: qI a :: st) sz T I L P := by
  obtain ⟨p, l, e, R, s, m, args, below, meth, c, mc, ms⟩ := F
  obtain ⟨hx, hb, -⟩ := hF
  obtain ⟨d, rfl⟩ := d
  intro H locs cells slots lsA z1 z2 z3 z4 z5 z6
  have q := k H locs cells slots lsA z1 z2 z3 z4 z5 z6
  rw [show qI (a * b) = .int (Int32.ofInt a * Int32.ofInt b) from congrArg _ (Int32.ofInt_mul a b)] at q
  exact lv_imul hx hb d q
theorem q_ladd (hF : q_ok G F Y h) {a b : Int}  (d : q_d Y.2.1 pc pc' .ladd 1) (k : qX G F Q kc ks pc' ls (qL (a + b) :: st) sz T I L P) : qX G F Q kc ks pc ls (qL b :: qL a :: st) sz T I L P := by
  obtain ⟨p, l, e, R, s, m, args, below, meth, c, mc, ms⟩ := F
  obtain ⟨hx, hb, -⟩ := hF
  obtain ⟨d, rfl⟩ := d
  intro H locs cells slots lsA z1 z2 z3 z4 z5 z6
  have q := k H locs cells slots lsA z1 z2 z3 z4 z5 z6
  rw [show qL (a + b) = .long (Int64.ofInt a + Int64.ofInt b) from congrArg _ (Int64.ofInt_add a b)] at q
  exact lv_ladd hx hb d q
theorem q_lsub (hF : q_ok G F Y h) {a b : Int}  (d : q_d Y.2.1 pc pc' .lsub 1) (k : qX G F Q kc ks pc' ls (qL (a - b) :: st) sz T I L P) : qX G F Q kc ks pc ls (qL b :: qL a :: st) sz T I L P := by
  obtain ⟨p, l, e, R, s, m, args, below, meth, c, mc, ms⟩ := F
  obtain ⟨hx, hb, -⟩ := hF
  obtain ⟨d, rfl⟩ := d
  intro H locs cells slots lsA z1 z2 z3 z4 z5 z6
  have q := k H locs cells slots lsA z1 z2 z3 z4 z5 z6
  rw [show qL (a - b) = .long (Int64.ofInt a - Int64.ofInt b) from congrArg _ (Int64.ofInt_sub a b)] at q
  exact lv_lsub hx hb d q
theorem q_lmul (hF : q_ok G F Y h) {a b : Int}  (d : q_d Y.2.1 pc pc' .lmul 1) (k : qX G F Q kc ks pc' ls (qL (a * b) :: st) sz T I L P) : qX G F Q kc ks pc ls (qL b :: qL a :: st) sz T I L P := by
  obtain ⟨p, l, e, R, s, m, args, below, meth, c, mc, ms⟩ := F
  obtain ⟨hx, hb, -⟩ := hF
  obtain ⟨d, rfl⟩ := d
  intro H locs cells slots lsA z1 z2 z3 z4 z5 z6
  have q := k H locs cells slots lsA z1 z2 z3 z4 z5 z6
  rw [show qL (a * b) = .long (Int64.ofInt a * Int64.ofInt b) from congrArg _ (Int64.ofInt_mul a b)] at q
  exact lv_lmul hx hb d q
theorem q_ldiv (hF : q_ok G F Y h) {a b : Int} (ha : -9223372036854775808 ≤ a ∧ a < 9223372036854775808) (hb2 : -9223372036854775808 ≤ b ∧ b < 9223372036854775808) (h0 : b ≠ 0) (d : q_d Y.2.1 pc pc' .ldiv 1) (k : qX G F Q kc ks pc' ls (qL (a.tdiv b) :: st) sz T I L P) : qX G F Q kc ks pc ls (qL b :: qL a :: st) sz T I L P := by
  obtain ⟨p, l, e, R, s, m, args, below, meth, c, mc, ms⟩ := F
  obtain ⟨hx, hb, -⟩ := hF
  obtain ⟨d, rfl⟩ := d
  intro H locs cells slots lsA z1 z2 z3 z4 z5 z6
  have q := k H locs cells slots lsA z1 z2 z3 z4 z5 z6
  rw [show qL (a.tdiv b) = .long (Int64.ofInt a / Int64.ofInt b) from congrArg _ ((ql_div ha hb2).symm)] at q
  exact lv_ldiv hx hb d (by intro e; exact h0 ((ql_eq hb2 (by decide)).mp (e.trans rfl))) q
theorem q_lrem (hF : q_ok G F Y h) {a b : Int} (ha : -9223372036854775808 ≤ a ∧ a < 9223372036854775808) (hb2 : -9223372036854775808 ≤ b ∧ b < 9223372036854775808) (h0 : b ≠ 0) (d : q_d Y.2.1 pc pc' .lrem 1) (k : qX G F Q kc ks pc' ls (qL (a.tmod b) :: st) sz T I L P) : qX G F Q kc ks pc ls (qL b :: qL a :: st) sz T I L P := by
  obtain ⟨p, l, e, R, s, m, args, below, meth, c, mc, ms⟩ := F
  obtain ⟨hx, hb, -⟩ := hF
  obtain ⟨d, rfl⟩ := d
  intro H locs cells slots lsA z1 z2 z3 z4 z5 z6
  have q := k H locs cells slots lsA z1 z2 z3 z4 z5 z6
  have e0 : Int64.ofInt (a.tmod b) = Int64.ofInt a - Int64.ofInt a / Int64.ofInt b * Int64.ofInt b := by
    rw [ql_div ha hb2, ← Int64.ofInt_mul, ← Int64.ofInt_sub]
    congr 1
    have := Int.tmod_add_mul_tdiv a b
    rw [Int.mul_comm] at this
    omega
  rw [show qL (a.tmod b) = .long (Int64.ofInt a - Int64.ofInt a / Int64.ofInt b * Int64.ofInt b) from congrArg _ e0] at q
  exact lv_lrem hx hb d (by intro e; exact h0 ((ql_eq hb2 (by decide)).mp (e.trans rfl))) q
theorem q_irem (hF : q_ok G F Y h) {a b : Int} (ha : -2147483647 ≤ a ∧ a < 2147483648) (hb2 : -2147483648 ≤ b ∧ b < 2147483648) (h0 : b ≠ 0) (d : q_d Y.2.1 pc pc' .irem 1) (k : qX G F Q kc ks pc' ls (qI (a.tmod b) :: st) sz T I L P) : qX G F Q kc ks pc ls (qI b :: qI a :: st) sz T I L P := by
  obtain ⟨p, l, e, R, s, m, args, below, meth, c, mc, ms⟩ := F
  obtain ⟨hx, hb, -⟩ := hF
  obtain ⟨d, rfl⟩ := d
  intro H locs cells slots lsA z1 z2 z3 z4 z5 z6
  have q := k H locs cells slots lsA z1 z2 z3 z4 z5 z6
  have e0 : Int32.ofInt (a.tmod b) = Int32.ofInt a - Int32.ofInt a / Int32.ofInt b * Int32.ofInt b := by
    rw [qi_div ha hb2, ← Int32.ofInt_mul, ← Int32.ofInt_sub]
    congr 1
    have := Int.tmod_add_mul_tdiv a b
    rw [Int.mul_comm] at this
    omega
  rw [show qI (a.tmod b) = .int (Int32.ofInt a - Int32.ofInt a / Int32.ofInt b * Int32.ofInt b) from congrArg _ e0] at q
  exact lv_irem hx hb d (by intro e; exact h0 ((qi_eq hb2 (by decide)).mp (e.trans rfl))) q
theorem q_iand (hF : q_ok G F Y h) {a b c0 : Int} (hc : Int32.ofInt a &&& Int32.ofInt b = Int32.ofInt c0) (d : q_d Y.2.1 pc pc' .iand 1) (k : qX G F Q kc ks pc' ls (qI c0 :: st) sz T I L P) : qX G F Q kc ks pc ls (qI b :: qI a :: st) sz T I L P := by
  obtain ⟨p, l, e, R, s, m, args, below, meth, c, mc, ms⟩ := F
  obtain ⟨hx, hb, -⟩ := hF
  obtain ⟨d, rfl⟩ := d
  intro H locs cells slots lsA z1 z2 z3 z4 z5 z6
  exact lv_iand hx hb d (by rw [hc]; exact k H locs cells slots lsA z1 z2 z3 z4 z5 z6)
theorem q_ior (hF : q_ok G F Y h) {a b c0 : Int} (hc : Int32.ofInt a ||| Int32.ofInt b = Int32.ofInt c0) (d : q_d Y.2.1 pc pc' .ior 1) (k : qX G F Q kc ks pc' ls (qI c0 :: st) sz T I L P) : qX G F Q kc ks pc ls (qI b :: qI a :: st) sz T I L P := by
  obtain ⟨p, l, e, R, s, m, args, below, meth, c, mc, ms⟩ := F
  obtain ⟨hx, hb, -⟩ := hF
  obtain ⟨d, rfl⟩ := d
  intro H locs cells slots lsA z1 z2 z3 z4 z5 z6
  exact lv_ior hx hb d (by rw [hc]; exact k H locs cells slots lsA z1 z2 z3 z4 z5 z6)
theorem q_ixor (hF : q_ok G F Y h) {a b c0 : Int} (hc : Int32.ofInt a ^^^ Int32.ofInt b = Int32.ofInt c0) (d : q_d Y.2.1 pc pc' .ixor 1) (k : qX G F Q kc ks pc' ls (qI c0 :: st) sz T I L P) : qX G F Q kc ks pc ls (qI b :: qI a :: st) sz T I L P := by
  obtain ⟨p, l, e, R, s, m, args, below, meth, c, mc, ms⟩ := F
  obtain ⟨hx, hb, -⟩ := hF
  obtain ⟨d, rfl⟩ := d
  intro H locs cells slots lsA z1 z2 z3 z4 z5 z6
  exact lv_ixor hx hb d (by rw [hc]; exact k H locs cells slots lsA z1 z2 z3 z4 z5 z6)
theorem q_ishl (hF : q_ok G F Y h) {a b c0 : Int} (hc : Int32.ofInt a <<< (Int32.ofInt b &&& 31) = Int32.ofInt c0) (d : q_d Y.2.1 pc pc' .ishl 1) (k : qX G F Q kc ks pc' ls (qI c0 :: st) sz T I L P) : qX G F Q kc ks pc ls (qI b :: qI a :: st) sz T I L P := by
  obtain ⟨p, l, e, R, s, m, args, below, meth, c, mc, ms⟩ := F
  obtain ⟨hx, hb, -⟩ := hF
  obtain ⟨d, rfl⟩ := d
  intro H locs cells slots lsA z1 z2 z3 z4 z5 z6
  exact lv_ishl hx hb d (by rw [hc]; exact k H locs cells slots lsA z1 z2 z3 z4 z5 z6)
theorem q_ishr (hF : q_ok G F Y h) {a b c0 : Int} (hc : Int32.ofInt a >>> (Int32.ofInt b &&& 31) = Int32.ofInt c0) (d : q_d Y.2.1 pc pc' .ishr 1) (k : qX G F Q kc ks pc' ls (qI c0 :: st) sz T I L P) : qX G F Q kc ks pc ls (qI b :: qI a :: st) sz T I L P := by
  obtain ⟨p, l, e, R, s, m, args, below, meth, c, mc, ms⟩ := F
  obtain ⟨hx, hb, -⟩ := hF
  obtain ⟨d, rfl⟩ := d
  intro H locs cells slots lsA z1 z2 z3 z4 z5 z6
  exact lv_ishr hx hb d (by rw [hc]; exact k H locs cells slots lsA z1 z2 z3 z4 z5 z6)
theorem q_iushr (hF : q_ok G F Y h) {a b c0 : Int} (hc : ((Int32.ofInt a).toUInt32 >>> ((Int32.ofInt b).toUInt32 &&& Int32.toUInt32 31)).toInt32 = Int32.ofInt c0) (d : q_d Y.2.1 pc pc' .iushr 1) (k : qX G F Q kc ks pc' ls (qI c0 :: st) sz T I L P) : qX G F Q kc ks pc ls (qI b :: qI a :: st) sz T I L P := by
  obtain ⟨p, l, e, R, s, m, args, below, meth, c, mc, ms⟩ := F
  obtain ⟨hx, hb, -⟩ := hF
  obtain ⟨d, rfl⟩ := d
  intro H locs cells slots lsA z1 z2 z3 z4 z5 z6
  exact lv_iushr hx hb d hc (k H locs cells slots lsA z1 z2 z3 z4 z5 z6)
theorem q_ineg (hF : q_ok G F Y h) {a : Int} (d : q_d Y.2.1 pc pc' .ineg 1) (k : qX G F Q kc ks pc' ls (qI (-a) :: st) sz T I L P) : qX G F Q kc ks pc ls (qI a :: st) sz T I L P := by
  obtain ⟨p, l, e, R, s, m, args, below, meth, c, mc, ms⟩ := F
  obtain ⟨hx, hb, -⟩ := hF
  obtain ⟨d, rfl⟩ := d
  intro H locs cells slots lsA z1 z2 z3 z4 z5 z6
  exact lv_ineg hx hb d (by rw [← Int32.ofInt_neg]; exact k H locs cells slots lsA z1 z2 z3 z4 z5 z6)
theorem q_lneg (hF : q_ok G F Y h) {a : Int} (d : q_d Y.2.1 pc pc' .lneg 1) (k : qX G F Q kc ks pc' ls (qL (-a) :: st) sz T I L P) : qX G F Q kc ks pc ls (qL a :: st) sz T I L P := by
  obtain ⟨p, l, e, R, s, m, args, below, meth, c, mc, ms⟩ := F
  obtain ⟨hx, hb, -⟩ := hF
  obtain ⟨d, rfl⟩ := d
  intro H locs cells slots lsA z1 z2 z3 z4 z5 z6
  exact lv_lneg hx hb d (by rw [← Int64.ofInt_neg]; exact k H locs cells slots lsA z1 z2 z3 z4 z5 z6)
theorem q_i2l (hF : q_ok G F Y h) {a : Int} (ha : -2147483648 ≤ a ∧ a < 2147483648) (d : q_d Y.2.1 pc pc' .i2l 1) (k : qX G F Q kc ks pc' ls (qL a :: st) sz T I L P) : qX G F Q kc ks pc ls (qI a :: st) sz T I L P := by
  obtain ⟨p, l, e, R, s, m, args, below, meth, c, mc, ms⟩ := F
  obtain ⟨hx, hb, -⟩ := hF
  obtain ⟨d, rfl⟩ := d
  intro H locs cells slots lsA z1 z2 z3 z4 z5 z6
  exact lv_i2l hx hb d (qi_64 ha) (k H locs cells slots lsA z1 z2 z3 z4 z5 z6)
theorem q_l2i (hF : q_ok G F Y h) {a : Int} (d : q_d Y.2.1 pc pc' .l2i 1) (k : qX G F Q kc ks pc' ls (qI a :: st) sz T I L P) : qX G F Q kc ks pc ls (qL a :: st) sz T I L P := by
  obtain ⟨p, l, e, R, s, m, args, below, meth, c, mc, ms⟩ := F
  obtain ⟨hx, hb, -⟩ := hF
  obtain ⟨d, rfl⟩ := d
  intro H locs cells slots lsA z1 z2 z3 z4 z5 z6
  exact lv_l2i hx hb d Int64.toInt32_ofInt (k H locs cells slots lsA z1 z2 z3 z4 z5 z6)
theorem q_dup (hF : q_ok G F Y h) {v : Value} (hv : v.category = 1) (d : q_d Y.2.1 pc pc' .dup 1) (k : qX G F Q kc ks pc' ls (v :: v :: st) sz T I L P) : qX G F Q kc ks pc ls (v :: st) sz T I L P := by
  obtain ⟨p, l, e, R, s, m, args, below, meth, c, mc, ms⟩ := F
  obtain ⟨hx, hb, -⟩ := hF
  obtain ⟨d, rfl⟩ := d
  intro H locs cells slots lsA z1 z2 z3 z4 z5 z6
  exact lv_dup hx hb d hv (k H locs cells slots lsA z1 z2 z3 z4 z5 z6)
theorem q_pop (hF : q_ok G F Y h) {v : Value} (hv : v.category = 1) (d : q_d Y.2.1 pc pc' .pop 1) (k : qX G F Q kc ks pc' ls (st) sz T I L P) : qX G F Q kc ks pc ls (v :: st) sz T I L P := by
  obtain ⟨p, l, e, R, s, m, args, below, meth, c, mc, ms⟩ := F
  obtain ⟨hx, hb, -⟩ := hF
  obtain ⟨d, rfl⟩ := d
  intro H locs cells slots lsA z1 z2 z3 z4 z5 z6
  exact lv_pop hx hb d hv (k H locs cells slots lsA z1 z2 z3 z4 z5 z6)
theorem q_ifeq (hF : q_ok G F Y h) {a : Int} (ha : -2147483648 ≤ a ∧ a < 2147483648) (d : q_j Y.2.1 pc pc' tgt (fun o => .ifCond .eq o)) (kt : a = 0 → qX G F Q kc ks tgt ls st sz T I L P) (kf : a ≠ 0 → qX G F Q kc ks pc' ls st sz T I L P) : qX G F Q kc ks pc ls (qI a :: st) sz T I L P := by
  obtain ⟨p, l, e, R, s, m, args, below, meth, c, mc, ms⟩ := F
  obtain ⟨hx, hb, -⟩ := hF
  obtain ⟨off, d, rfl, ht⟩ := d
  intro H locs cells slots lsA z1 z2 z3 z4 z5 z6
  exact lv_if_eq hx hb d ht (fun q => kt ((qi_eq0 ha).mp q) H locs cells slots lsA z1 z2 z3 z4 z5 z6) (fun q => kf (fun e => q ((qi_eq0 ha).mpr e)) H locs cells slots lsA z1 z2 z3 z4 z5 z6)
theorem q_ifne (hF : q_ok G F Y h) {a : Int} (ha : -2147483648 ≤ a ∧ a < 2147483648) (d : q_j Y.2.1 pc pc' tgt (fun o => .ifCond .ne o)) (kt : a ≠ 0 → qX G F Q kc ks tgt ls st sz T I L P) (kf : a = 0 → qX G F Q kc ks pc' ls st sz T I L P) : qX G F Q kc ks pc ls (qI a :: st) sz T I L P := by
  obtain ⟨p, l, e, R, s, m, args, below, meth, c, mc, ms⟩ := F
  obtain ⟨hx, hb, -⟩ := hF
  obtain ⟨off, d, rfl, ht⟩ := d
  intro H locs cells slots lsA z1 z2 z3 z4 z5 z6
  exact lv_if_ne hx hb d ht (fun q => kt (fun e => q ((qi_eq0 ha).mpr e)) H locs cells slots lsA z1 z2 z3 z4 z5 z6) (fun q => kf ((qi_eq0 ha).mp q) H locs cells slots lsA z1 z2 z3 z4 z5 z6)
theorem q_iflt (hF : q_ok G F Y h) {a : Int} (ha : -2147483648 ≤ a ∧ a < 2147483648) (d : q_j Y.2.1 pc pc' tgt (fun o => .ifCond .lt o)) (kt : a < 0 → qX G F Q kc ks tgt ls st sz T I L P) (kf : 0 ≤ a → qX G F Q kc ks pc' ls st sz T I L P) : qX G F Q kc ks pc ls (qI a :: st) sz T I L P := by
  obtain ⟨p, l, e, R, s, m, args, below, meth, c, mc, ms⟩ := F
  obtain ⟨hx, hb, -⟩ := hF
  obtain ⟨off, d, rfl, ht⟩ := d
  intro H locs cells slots lsA z1 z2 z3 z4 z5 z6
  exact lv_if_lt hx hb d ht (fun q => kt ((qi_lt0 ha).mp q) H locs cells slots lsA z1 z2 z3 z4 z5 z6) (fun q => kf (by have := mt (qi_lt0 ha).mpr q; omega) H locs cells slots lsA z1 z2 z3 z4 z5 z6)
theorem q_ifge (hF : q_ok G F Y h) {a : Int} (ha : -2147483648 ≤ a ∧ a < 2147483648) (d : q_j Y.2.1 pc pc' tgt (fun o => .ifCond .ge o)) (kt : 0 ≤ a → qX G F Q kc ks tgt ls st sz T I L P) (kf : a < 0 → qX G F Q kc ks pc' ls st sz T I L P) : qX G F Q kc ks pc ls (qI a :: st) sz T I L P := by
  obtain ⟨p, l, e, R, s, m, args, below, meth, c, mc, ms⟩ := F
  obtain ⟨hx, hb, -⟩ := hF
  obtain ⟨off, d, rfl, ht⟩ := d
  intro H locs cells slots lsA z1 z2 z3 z4 z5 z6
  exact lv_if_ge hx hb d ht (fun q => kt ((qi_ge0 ha).mp q) H locs cells slots lsA z1 z2 z3 z4 z5 z6) (fun q => kf (by have := mt (qi_ge0 ha).mpr q; omega) H locs cells slots lsA z1 z2 z3 z4 z5 z6)
theorem q_ifgt (hF : q_ok G F Y h) {a : Int} (ha : -2147483648 ≤ a ∧ a < 2147483648) (d : q_j Y.2.1 pc pc' tgt (fun o => .ifCond .gt o)) (kt : 0 < a → qX G F Q kc ks tgt ls st sz T I L P) (kf : a ≤ 0 → qX G F Q kc ks pc' ls st sz T I L P) : qX G F Q kc ks pc ls (qI a :: st) sz T I L P := by
  obtain ⟨p, l, e, R, s, m, args, below, meth, c, mc, ms⟩ := F
  obtain ⟨hx, hb, -⟩ := hF
  obtain ⟨off, d, rfl, ht⟩ := d
  intro H locs cells slots lsA z1 z2 z3 z4 z5 z6
  exact lv_if_gt hx hb d ht (fun q => kt ((qi_gt0 ha).mp q) H locs cells slots lsA z1 z2 z3 z4 z5 z6) (fun q => kf (by have := mt (qi_gt0 ha).mpr q; omega) H locs cells slots lsA z1 z2 z3 z4 z5 z6)
theorem q_ifle (hF : q_ok G F Y h) {a : Int} (ha : -2147483648 ≤ a ∧ a < 2147483648) (d : q_j Y.2.1 pc pc' tgt (fun o => .ifCond .le o)) (kt : a ≤ 0 → qX G F Q kc ks tgt ls st sz T I L P) (kf : 0 < a → qX G F Q kc ks pc' ls st sz T I L P) : qX G F Q kc ks pc ls (qI a :: st) sz T I L P := by
  obtain ⟨p, l, e, R, s, m, args, below, meth, c, mc, ms⟩ := F
  obtain ⟨hx, hb, -⟩ := hF
  obtain ⟨off, d, rfl, ht⟩ := d
  intro H locs cells slots lsA z1 z2 z3 z4 z5 z6
  exact lv_if_le hx hb d ht (fun q => kt ((qi_le0 ha).mp q) H locs cells slots lsA z1 z2 z3 z4 z5 z6) (fun q => kf (by have := mt (qi_le0 ha).mpr q; omega) H locs cells slots lsA z1 z2 z3 z4 z5 z6)
theorem q_icmpeq (hF : q_ok G F Y h) {a b : Int} (ha : -2147483648 ≤ a ∧ a < 2147483648) (hb2 : -2147483648 ≤ b ∧ b < 2147483648) (d : q_j Y.2.1 pc pc' tgt (fun o => .if_icmp .eq o)) (kt : a = b → qX G F Q kc ks tgt ls st sz T I L P) (kf : a ≠ b → qX G F Q kc ks pc' ls st sz T I L P) : qX G F Q kc ks pc ls (qI b :: qI a :: st) sz T I L P := by
  obtain ⟨p, l, e, R, s, m, args, below, meth, c, mc, ms⟩ := F
  obtain ⟨hx, hb, -⟩ := hF
  obtain ⟨off, d, rfl, ht⟩ := d
  intro H locs cells slots lsA z1 z2 z3 z4 z5 z6
  exact lv_icmp_eq hx hb d ht (fun q => kt ((qi_eq ha hb2).mp q) H locs cells slots lsA z1 z2 z3 z4 z5 z6) (fun q => kf (fun e => q ((qi_eq ha hb2).mpr e)) H locs cells slots lsA z1 z2 z3 z4 z5 z6)
theorem q_icmpne (hF : q_ok G F Y h) {a b : Int} (ha : -2147483648 ≤ a ∧ a < 2147483648) (hb2 : -2147483648 ≤ b ∧ b < 2147483648) (d : q_j Y.2.1 pc pc' tgt (fun o => .if_icmp .ne o)) (kt : a ≠ b → qX G F Q kc ks tgt ls st sz T I L P) (kf : a = b → qX G F Q kc ks pc' ls st sz T I L P) : qX G F Q kc ks pc ls (qI b :: qI a :: st) sz T I L P := by
  obtain ⟨p, l, e, R, s, m, args, below, meth, c, mc, ms⟩ := F
  obtain ⟨hx, hb, -⟩ := hF
  obtain ⟨off, d, rfl, ht⟩ := d
  intro H locs cells slots lsA z1 z2 z3 z4 z5 z6
  exact lv_icmp_ne hx hb d ht (fun q => kt (fun e => q ((qi_eq ha hb2).mpr e)) H locs cells slots lsA z1 z2 z3 z4 z5 z6) (fun q => kf ((qi_eq ha hb2).mp q) H locs cells slots lsA z1 z2 z3 z4 z5 z6)
theorem q_icmplt (hF : q_ok G F Y h) {a b : Int} (ha : -2147483648 ≤ a ∧ a < 2147483648) (hb2 : -2147483648 ≤ b ∧ b < 2147483648) (d : q_j Y.2.1 pc pc' tgt (fun o => .if_icmp .lt o)) (kt : a < b → qX G F Q kc ks tgt ls st sz T I L P) (kf : b ≤ a → qX G F Q kc ks pc' ls st sz T I L P) : qX G F Q kc ks pc ls (qI b :: qI a :: st) sz T I L P := by
  obtain ⟨p, l, e, R, s, m, args, below, meth, c, mc, ms⟩ := F
  obtain ⟨hx, hb, -⟩ := hF
  obtain ⟨off, d, rfl, ht⟩ := d
  intro H locs cells slots lsA z1 z2 z3 z4 z5 z6
  exact lv_icmp_lt hx hb d ht (fun q => kt ((qi_lt ha hb2).mp q) H locs cells slots lsA z1 z2 z3 z4 z5 z6) (fun q => kf (by have := mt (qi_lt ha hb2).mpr q; omega) H locs cells slots lsA z1 z2 z3 z4 z5 z6)
theorem q_icmpge (hF : q_ok G F Y h) {a b : Int} (ha : -2147483648 ≤ a ∧ a < 2147483648) (hb2 : -2147483648 ≤ b ∧ b < 2147483648) (d : q_j Y.2.1 pc pc' tgt (fun o => .if_icmp .ge o)) (kt : b ≤ a → qX G F Q kc ks tgt ls st sz T I L P) (kf : a < b → qX G F Q kc ks pc' ls st sz T I L P) : qX G F Q kc ks pc ls (qI b :: qI a :: st) sz T I L P := by
  obtain ⟨p, l, e, R, s, m, args, below, meth, c, mc, ms⟩ := F
  obtain ⟨hx, hb, -⟩ := hF
  obtain ⟨off, d, rfl, ht⟩ := d
  intro H locs cells slots lsA z1 z2 z3 z4 z5 z6
  exact lv_icmp_ge hx hb d ht (fun q => kt ((qi_le hb2 ha).mp q) H locs cells slots lsA z1 z2 z3 z4 z5 z6) (fun q => kf (by have := mt (qi_le hb2 ha).mpr q; omega) H locs cells slots lsA z1 z2 z3 z4 z5 z6)
theorem q_icmpgt (hF : q_ok G F Y h) {a b : Int} (ha : -2147483648 ≤ a ∧ a < 2147483648) (hb2 : -2147483648 ≤ b ∧ b < 2147483648) (d : q_j Y.2.1 pc pc' tgt (fun o => .if_icmp .gt o)) (kt : b < a → qX G F Q kc ks tgt ls st sz T I L P) (kf : a ≤ b → qX G F Q kc ks pc' ls st sz T I L P) : qX G F Q kc ks pc ls (qI b :: qI a :: st) sz T I L P := by
  obtain ⟨p, l, e, R, s, m, args, below, meth, c, mc, ms⟩ := F
  obtain ⟨hx, hb, -⟩ := hF
  obtain ⟨off, d, rfl, ht⟩ := d
  intro H locs cells slots lsA z1 z2 z3 z4 z5 z6
  exact lv_icmp_gt hx hb d ht (fun q => kt ((qi_lt hb2 ha).mp q) H locs cells slots lsA z1 z2 z3 z4 z5 z6) (fun q => kf (by have := mt (qi_lt hb2 ha).mpr q; omega) H locs cells slots lsA z1 z2 z3 z4 z5 z6)
theorem q_icmple (hF : q_ok G F Y h) {a b : Int} (ha : -2147483648 ≤ a ∧ a < 2147483648) (hb2 : -2147483648 ≤ b ∧ b < 2147483648) (d : q_j Y.2.1 pc pc' tgt (fun o => .if_icmp .le o)) (kt : a ≤ b → qX G F Q kc ks tgt ls st sz T I L P) (kf : b < a → qX G F Q kc ks pc' ls st sz T I L P) : qX G F Q kc ks pc ls (qI b :: qI a :: st) sz T I L P := by
  obtain ⟨p, l, e, R, s, m, args, below, meth, c, mc, ms⟩ := F
  obtain ⟨hx, hb, -⟩ := hF
  obtain ⟨off, d, rfl, ht⟩ := d
  intro H locs cells slots lsA z1 z2 z3 z4 z5 z6
  exact lv_icmp_le hx hb d ht (fun q => kt ((qi_le ha hb2).mp q) H locs cells slots lsA z1 z2 z3 z4 z5 z6) (fun q => kf (by have := mt (qi_le ha hb2).mpr q; omega) H locs cells slots lsA z1 z2 z3 z4 z5 z6)
theorem q_goto (hF : q_ok G F Y h) (d : q_j Y.2.1 pc pc' tgt (fun o => .goto o)) (k : qX G F Q kc ks tgt ls st sz T I L P) : qX G F Q kc ks pc ls st sz T I L P := by
  obtain ⟨p, l, e, R, s, m, args, below, meth, c, mc, ms⟩ := F
  obtain ⟨hx, hb, -⟩ := hF
  obtain ⟨off, d, rfl, ht⟩ := d
  intro H locs cells slots lsA z1 z2 z3 z4 z5 z6
  exact lv_goto hx hb d ht (k H locs cells slots lsA z1 z2 z3 z4 z5 z6)
theorem q_lcmp (hF : q_ok G F Y h) {a b : Int} (ha : -9223372036854775808 ≤ a ∧ a < 9223372036854775808) (hb2 : -9223372036854775808 ≤ b ∧ b < 9223372036854775808) (d : q_d Y.2.1 pc pc' .lcmp 1) (k : qX G F Q kc ks pc' ls (qI (q_cmp a b) :: st) sz T I L P) : qX G F Q kc ks pc ls (qL b :: qL a :: st) sz T I L P := by
  obtain ⟨p, l, e, R, s, m, args, below, meth, c, mc, ms⟩ := F
  obtain ⟨hx, hb, -⟩ := hF
  obtain ⟨d, rfl⟩ := d
  intro H locs cells slots lsA z1 z2 z3 z4 z5 z6
  have q := k H locs cells slots lsA z1 z2 z3 z4 z5 z6
  rw [show qI (q_cmp a b) = .int (lg_cmp (Int64.ofInt a) (Int64.ofInt b)) from congrArg _ (q_lcmp_eq ha hb2).symm] at q
  exact W.lcmp hx hb d q
theorem q_ldc (hF : q_ok G F Y h) {n : Int} {i : Nat} (hw : Cond.constant Y.1.cls i (Int32.ofInt n) ∈ q_all) (d : q_d Y.2.1 pc pc' (.ldc i) 2) (k : qX G F Q kc ks pc' ls (qI n :: st) sz T I L P) : qX G F Q kc ks pc ls st sz T I L P := by
  obtain ⟨p, l, e, R, s, m, args, below, meth, c, mc, ms⟩ := F
  obtain ⟨hx, hb, hr, hlk, hml, ho, hnm, htb, hg, -⟩ := hF
  obtain ⟨d, rfl⟩ := d
  intro H locs cells slots lsA z1 z2 z3 z4 z5 z6
  exact lv_ldc hx hb ho (hg.at hw args) d (k H locs cells slots lsA z1 z2 z3 z4 z5 z6)
theorem q_ldc2 (hF : q_ok G F Y h) {n : Int} {i : Nat} (hw : Cond.constantLong Y.1.cls i (Int64.ofInt n) ∈ q_all) (d : q_d Y.2.1 pc pc' (.ldc2_w i) 3) (k : qX G F Q kc ks pc' ls (qL n :: st) sz T I L P) : qX G F Q kc ks pc ls st sz T I L P := by
  obtain ⟨p, l, e, R, s, m, args, below, meth, c, mc, ms⟩ := F
  obtain ⟨hx, hb, hr, hlk, hml, ho, hnm, htb, hg, -⟩ := hF
  obtain ⟨d, rfl⟩ := d
  intro H locs cells slots lsA z1 z2 z3 z4 z5 z6
  exact lv_ldc2 hx hb ho (hg.at hw args) d (k H locs cells slots lsA z1 z2 z3 z4 z5 z6)
/-- a field link, resolved: class ci of q_cl, its field k, of type ty -/
def q_FL (own : String) (idx ci k : Nat) (ty : FieldType) (fin : Bool) : Prop := ∃ r : vw_C, q_cl[ci]? = some r ∧ k < r.2.2 ∧ Cond.fieldLink own idx (r.2.1 k).1 (r.2.1 k).2.1 (r.2.1 k).2.2.1 ∈ q_all ∧ q_ft ci k = ty ∧ (r.2.1 k).2.2.2 = fin ∧ (r.2.1 k).1 = r.1
theorem q_Gs.ts {G : q_G} {s : State} (h : q_Gs G s) (args : Array Value) : ∀ w ∈ q_all, w.before args s = true := fun _ hw => h.at hw args
theorem q_getV (hF : q_ok G F Y h) {idx ci j a : Nat} {ty : FieldType} {fin : Bool} (fl : q_FL Y.1.cls idx ci j ty fin) (hT : T a = some (.inl ci)) (d : q_d Y.2.1 pc pc' (.getfield idx) 3) (k : qX G F Q kc ks pc' ls (q_fv ty I L P a j :: st) sz T I L P) : qX G F Q kc ks pc ls (.ref a :: st) sz T I L P := by
  obtain ⟨p, l, e, R, s, m, args, below, meth, c, mc, ms⟩ := F
  obtain ⟨hx, hb, hr, hlk, hml, ho, hnm, htb, hg, -⟩ := hF
  obtain ⟨d, rfl⟩ := d
  intro H locs cells slots lsA z1 z2 z3 z4 z5 z6
  obtain ⟨r, f1, f2, f3, rfl, -⟩ := fl
  obtain ⟨r', h1, cell, q1, q2, q3, q4⟩ := z2 a _ hT
  cases f1.symm.trans h1
  obtain ⟨hS, hfc, kC, hkC, hkind⟩ := hg.2.1.1 ci _ f1
  obtain ⟨cf, kf, fi, f, hi, hsl⟩ := hS j f2
  exact W.getf hx hb ho (hg.at f3 args) hi (u_facts hfc hkC (u_lays (hg.ts args) (q_lay_in f1) f2) hi).1 q1 (by rw [q3]; exact fun h => by cases h) (by rw [hsl, q4 j f2]) rfl rfl d (k H locs cells slots lsA z1 z2 z3 z4 z5 z6)
theorem q_getI (hF : q_ok G F Y h) {idx ci j a : Nat} {fin : Bool} (fl : q_FL Y.1.cls idx ci j .int fin) (hT : T a = some (.inl ci)) (d : q_d Y.2.1 pc pc' (.getfield idx) 3) (k : qX G F Q kc ks pc' ls (qI (I a j) :: st) sz T I L P) : qX G F Q kc ks pc ls (.ref a :: st) sz T I L P := q_getV hF fl hT d k
theorem q_getZ (hF : q_ok G F Y h) {idx ci j a : Nat} {fin : Bool} (fl : q_FL Y.1.cls idx ci j .boolean fin) (hT : T a = some (.inl ci)) (d : q_d Y.2.1 pc pc' (.getfield idx) 3) (k : qX G F Q kc ks pc' ls (qI (I a j) :: st) sz T I L P) : qX G F Q kc ks pc ls (.ref a :: st) sz T I L P := q_getV hF fl hT d k
theorem q_getL (hF : q_ok G F Y h) {idx ci j a : Nat} {fin : Bool} (fl : q_FL Y.1.cls idx ci j .long fin) (hT : T a = some (.inl ci)) (d : q_d Y.2.1 pc pc' (.getfield idx) 3) (k : qX G F Q kc ks pc' ls (qL (L a j) :: st) sz T I L P) : qX G F Q kc ks pc ls (.ref a :: st) sz T I L P := q_getV hF fl hT d k
/-- a reference that isn't null -/
theorem q_getA (hF : q_ok G F Y h) {idx ci j a b : Nat} {ty : FieldType} {fin : Bool} (fl : q_FL Y.1.cls idx ci j ty fin) (hty : refKind ty = true) (hT : T a = some (.inl ci)) (hp : P a j = some b) (d : q_d Y.2.1 pc pc' (.getfield idx) 3) (k : qX G F Q kc ks pc' ls (.ref b :: st) sz T I L P) : qX G F Q kc ks pc ls (.ref a :: st) sz T I L P := by
  refine q_getV hF fl hT d ?_
  have e : q_fv ty I L P a j = .ref b := by
    unfold q_fv
    cases ty <;> first | (cases hty; done) | (show qR (P a j) = _; rw [hp]; rfl)
  rw [e]
  exact k
theorem q_upd_ob {G : q_G} {I L I' L' : q_I} {P P' : q_P} {a j ci : Nat} {r : vw_C} {v : Value} {cell : Cell} {H' : Heap} {s : State} {cls cf fi : Nat} {f : Field}
    (q2 : cell.cls = G.2.1.1 ci) (q3 : cell.vm = .none) (q4 : ∀ k, k < r.2.2 → cell.slots[G.2.1.2 ci k]? = some (q_fv (q_ft ci k) I L P a k)) (f1 : q_cl[ci]? = some r) (hap : ∀ x y, x < r.2.2 → y < r.2.2 → x ≠ y → (G.2.1.2 ci) x ≠ (G.2.1.2 ci) y) (f2 : j < r.2.2)
    (e1 : H'[a]? = some (cell.setSlot (G.2.1.2 ci j) v)) (hv : q_fv (q_ft ci j) I' L' P' a j = v) (ho : ∀ k, k ≠ j → q_fv (q_ft ci k) I' L' P' a k = q_fv (q_ft ci k) I L P a k) : q_at G I' L' P' a (.inl ci) H' := by
  refine ⟨r, f1, t_OB.to (V := updV (fun k => q_fv (q_ft ci k) I L P a k) j v) ⟨_, e1, q2, q3, t_set q4 hap f2 v⟩ (fun k hk => ?_)⟩
  unfold updV
  by_cases e : k = j
  · rw [if_pos e, e, hv]
  · rw [if_neg e, ho k e]
/-- a store into a field that isn't final: the memory behind it is told by I', L', P' -/
theorem q_putV (hF : q_ok G F Y h) {idx ci j a : Nat} {ty : FieldType} {v : Value} {I' L' : q_I} {P' : q_P} (fl : q_FL Y.1.cls idx ci j ty false) (hT : T a = some (.inl ci)) (hA : q_A G a) (hn : narrow ty v = v) (hfit : fits ty v = true)
    (hI : ∀ q i, (q ≠ a ∨ i ≠ j) → I' q i = I q i) (hL : ∀ q i, (q ≠ a ∨ i ≠ j) → L' q i = L q i) (hP : ∀ q i, (q ≠ a ∨ i ≠ j) → P' q i = P q i) (hv : q_fv ty I' L' P' a j = v)
    (d : q_d Y.2.1 pc pc' (.putfield idx) 3) (k : qX G F Q kc ks pc' ls st sz T I' L' P') : qX G F Q kc ks pc ls (v :: .ref a :: st) sz T I L P := by
  obtain ⟨p, l, e, R, s, m, args, below, meth, c, mc, ms⟩ := F
  obtain ⟨hx, hb, hr, hlk, hml, ho, hnm, htb, hg, -⟩ := hF
  obtain ⟨d, rfl⟩ := d
  intro H locs cells slots lsA z1 z2 z3 z4 z5 z6
  obtain ⟨r, f1, f2, f3, rfl, f5, f6⟩ := fl
  obtain ⟨r', h1, cell, q1, q2, q3, q4⟩ := z2 a _ hT
  cases f1.symm.trans h1
  have hts := hg.ts args
  have hap := va_apart (own := Y.1.cls) hts (q_lay_in f1) (q_ft ci) (q_ft_ok ci r f1) (q_nm_ok ci r f1) hg.2.1 f1
  obtain ⟨hS, hfc, kC, hkC, hkind⟩ := hg.2.1.1 ci _ f1
  obtain ⟨cf, kf, fi, f, hi, hsl⟩ := hS j f2
  have hlay := hts _ (q_lay_in f1 _ (u_in_lay f2))
  unfold u_lay at hlay
  rw [if_neg (by rw [f5]; decide)] at hlay
  have hst := (u_facts hfc hkC (u_lays hts (q_lay_in f1) f2) hi).1
  have h6 := u_store hfc hkC hkind hlay hi (q_ft_ok ci r f1 j f2) hn hfit
  refine W.putK hx hb (f := f) ⟨ho, hg.at f3 args, ⟨_, _, _, hi⟩, hst⟩ (by rw [q2]; exact h6) q1 q3 (by rw [hsl]; exact k2_hasslot (q4 j f2)) rfl rfl d fun H' e1 e2 e3 => ?_
  rw [hsl] at e1 ⊢
  refine k H' _ cells slots lsA (e2.trans z1) (z2.put e3 (fun q i hq => hI q i (Or.inl hq)) (fun q i hq => hL q i (Or.inl hq)) (fun q i hq => hP q i (Or.inl hq)) (fun kk hk => ?_)) (z3.put e2 e3 hA) z4 z5 z6
  cases hT.symm.trans hk
  exact q_upd_ob (s := s) (cls := 0) (cf := 0) (fi := 0) (f := f) q2 q3 q4 f1 hap f2 e1 hv (fun i hi => by unfold q_fv; rw [hI a i (Or.inr hi), hL a i (Or.inr hi), hP a i (Or.inr hi)])
theorem q_u2o {α : Type} {f : Nat → Nat → α} {a j q i : Nat} {v : α} (h : q ≠ a ∨ i ≠ j) : u2 f a j v q i = f q i := by
  unfold u2
  rw [if_neg (fun e => h.elim (fun h => h e.1) (fun h => h e.2))]
theorem q_putI (hF : q_ok G F Y h) {idx ci j a : Nat} {z : Int} (fl : q_FL Y.1.cls idx ci j .int false) (hT : T a = some (.inl ci)) (hA : q_A G a) (d : q_d Y.2.1 pc pc' (.putfield idx) 3) (k : qX G F Q kc ks pc' ls st sz T (u2 I a j z) L P) : qX G F Q kc ks pc ls (qI z :: .ref a :: st) sz T I L P :=
  q_putV hF fl hT hA rfl rfl (fun _ _ h => q_u2o h) (fun _ _ _ => rfl) (fun _ _ _ => rfl) (by show qI (u2 I a j z a j) = _; rw [u2_s]) d k
theorem q_putZ (hF : q_ok G F Y h) {idx ci j a : Nat} {z : Int} (hz : z = 0 ∨ z = 1) (fl : q_FL Y.1.cls idx ci j .boolean false) (hT : T a = some (.inl ci)) (hA : q_A G a) (d : q_d Y.2.1 pc pc' (.putfield idx) 3) (k : qX G F Q kc ks pc' ls st sz T (u2 I a j z) L P) : qX G F Q kc ks pc ls (qI z :: .ref a :: st) sz T I L P :=
  q_putV hF fl hT hA (by rcases hz with rfl | rfl <;> decide +kernel) (by rcases hz with rfl | rfl <;> decide +kernel) (fun _ _ h => q_u2o h) (fun _ _ _ => rfl) (fun _ _ _ => rfl) (by show qI (u2 I a j z a j) = _; rw [u2_s]) d k
theorem q_putL (hF : q_ok G F Y h) {idx ci j a : Nat} {z : Int} (fl : q_FL Y.1.cls idx ci j .long false) (hT : T a = some (.inl ci)) (hA : q_A G a) (d : q_d Y.2.1 pc pc' (.putfield idx) 3) (k : qX G F Q kc ks pc' ls st sz T I (u2 L a j z) P) : qX G F Q kc ks pc ls (qL z :: .ref a :: st) sz T I L P :=
  q_putV hF fl hT hA rfl rfl (fun _ _ _ => rfl) (fun _ _ h => q_u2o h) (fun _ _ _ => rfl) (by show qL (u2 L a j z a j) = _; rw [u2_s]) d k
theorem q_putA (hF : q_ok G F Y h) {idx ci j a b : Nat} {ty : FieldType} (fl : q_FL Y.1.cls idx ci j ty false) (hty : refKind ty = true) (hT : T a = some (.inl ci)) (hA : q_A G a) (d : q_d Y.2.1 pc pc' (.putfield idx) 3) (k : qX G F Q kc ks pc' ls st sz T I L (u2 P a j (some b))) : qX G F Q kc ks pc ls (.ref b :: .ref a :: st) sz T I L P :=
  q_putV hF fl hT hA (by cases ty <;> first | (cases hty; done) | rfl) (by cases ty <;> first | (cases hty; done) | rfl) (fun _ _ _ => rfl) (fun _ _ _ => rfl) (fun _ _ h => q_u2o h) (by unfold q_fv; cases ty <;> first | (cases hty; done) | (show qR (u2 P a j (some b) a j) = _; rw [u2_s]; rfl)) d k
/-- a final reference field, in its class's constructor -/
theorem q_putF (hF : q_ok G F Y h) {idx ci j a b : Nat} {ty : FieldType} {r0 : vw_C} (fl : q_FL Y.1.cls idx ci j ty true) (hci : q_cl[ci]? = some r0) (hcls : r0.1 = Y.1.cls) (hini : Y.1.name = "<init>") (hty : refKind ty = true) (hT : T a = some (.inl ci)) (hA : q_A G a) (d : q_d Y.2.1 pc pc' (.putfield idx) 3) (k : qX G F Q kc ks pc' ls st sz T I L (u2 P a j (some b))) : qX G F Q kc ks pc ls (.ref b :: .ref a :: st) sz T I L P := by
  obtain ⟨p, l, e, R, s, m, args, below, meth, c, mc, ms⟩ := F
  obtain ⟨hx, hb, hr, hlk, hml, ho, hnm, htb, hg, -⟩ := hF
  obtain ⟨d, rfl⟩ := d
  intro H locs cells slots lsA z1 z2 z3 z4 z5 z6
  obtain ⟨r, f1, f2, f3, rfl, f5, f6⟩ := fl
  cases f1.symm.trans hci
  obtain ⟨r', h1, cell, q1, q2, q3, q4⟩ := z2 a _ hT
  cases f1.symm.trans h1
  have hts := hg.ts args
  have hap := va_apart (own := Y.1.cls) hts (q_lay_in f1) (q_ft ci) (q_ft_ok ci _ f1) (q_nm_ok ci _ f1) hg.2.1 f1
  obtain ⟨hS, hfc, kC, hkC, hkind⟩ := hg.2.1.1 ci _ f1
  obtain ⟨cf, kf, fi, f, hi, hsl⟩ := hS j f2
  have hlay := hts _ (q_lay_in f1 _ (u_in_lay f2))
  unfold u_lay at hlay
  rw [if_pos f5] at hlay
  have hst := (u_facts hfc hkC (u_lays hts (q_lay_in f1) f2) hi).1
  have hcf : m.cls = cf := by
    obtain ⟨_, _, c', _, _, _, -, -, hf', -, -, -, hown2, -⟩ := Cond.laysFinal_spec hlay
    have e1 : c' = cf := by have := hi.symm.trans hf'; simp at this; exact this.1.symm
    rw [f6, hcls] at hown2
    rw [← e1]; exact Option.some.inj (ho.symm.trans hown2)
  have h6 := u_fits hfc hkC hkind (Or.inr hlay) hi (q_ft_ok ci _ f1 j f2) (v := .ref b) (by generalize q_ft ci j = ty at hty; cases ty <;> first | (cases hty; done) | rfl) (by generalize q_ft ci j = ty at hty; cases ty <;> first | (cases hty; done) | rfl)
  refine W.putFinK hx hb ho (hg.at f3 args) hi hst hcf (hnm.trans hini) (by rw [q2]; exact h6) q1 q3 (by rw [hsl]; exact k2_hasslot (q4 j f2)) rfl rfl d fun H' e1 e2 e3 => ?_
  rw [hsl] at e1 ⊢
  refine k H' _ cells slots lsA (e2.trans z1) (z2.put e3 (fun _ _ _ => rfl) (fun _ _ _ => rfl) (fun q i hq => q_u2o (Or.inl hq)) (fun kk hk => ?_)) (z3.put e2 e3 hA) z4 z5 z6
  cases hT.symm.trans hk
  refine q_upd_ob (s := s) (cls := 0) (cf := 0) (fi := 0) (f := f) q2 q3 q4 f1 hap f2 e1 ?_ (fun i hi => by unfold q_fv; rw [q_u2o (Or.inr hi)])
  unfold q_fv
  generalize q_ft ci j = ty at hty
  cases ty <;> first | (cases hty; done) | (show qR (u2 P a j (some b) a j) = _; rw [u2_s]; rfl)
/-! arrays -/
theorem q_ix {i : Int} {n : Nat} (hi : 0 ≤ i ∧ i < (n : Int)) (hn : (n : Int) < 2147483648) : vp_in (Int32.ofInt i) n ∧ (Int32.ofInt i).toNatClampNeg = i.toNat ∧ i.toNat < n := ⟨qi_in hi (by omega), qi_cl (by omega), by omega⟩
theorem q_iaload (hF : q_ok G F Y h) {a n : Nat} {i : Int} (hT : T a = some (.inr (0, n))) (hi : 0 ≤ i ∧ i < (n : Int)) (hn : (n : Int) < 2147483648) (d : q_d Y.2.1 pc pc' .iaload 1) (k : qX G F Q kc ks pc' ls (qI (I a i.toNat) :: st) sz T I L P) : qX G F Q kc ks pc ls (qI i :: .ref a :: st) sz T I L P := by
  obtain ⟨p, l, e, R, s, m, args, below, meth, c, mc, ms⟩ := F
  obtain ⟨hx, hb, hr, hlk, hml, ho, hnm, htb, hg, -⟩ := hF
  obtain ⟨d, rfl⟩ := d
  intro H locs cells slots lsA z1 z2 z3 z4 z5 z6
  obtain ⟨w1, w2, w3⟩ := q_ix hi hn
  obtain ⟨-, hc⟩ := z2 a _ hT
  have hAr := (hg.2.1.2 0 _ rfl).1
  refine W.iald (v := qI (I a i.toNat)) hx hb hc (hAr n _) (fun q => by cases q) (by show ¬ (_ < 0 ∨ (arrV _ _ _).slots.size ≤ _); rw [arrV_size]; exact w1) (by show (arrV _ _ _).slots[_]? = _; rw [w2, arrV_read _ _ w3]; rfl) rfl rfl d (k H locs cells slots lsA z1 z2 z3 z4 z5 z6)
theorem q_laload (hF : q_ok G F Y h) {a n : Nat} {i : Int} (hT : T a = some (.inr (1, n))) (hi : 0 ≤ i ∧ i < (n : Int)) (hn : (n : Int) < 2147483648) (d : q_d Y.2.1 pc pc' .laload 1) (k : qX G F Q kc ks pc' ls (qL (L a i.toNat) :: st) sz T I L P) : qX G F Q kc ks pc ls (qI i :: .ref a :: st) sz T I L P := by
  obtain ⟨p, l, e, R, s, m, args, below, meth, c, mc, ms⟩ := F
  obtain ⟨hx, hb, hr, hlk, hml, ho, hnm, htb, hg, -⟩ := hF
  obtain ⟨d, rfl⟩ := d
  intro H locs cells slots lsA z1 z2 z3 z4 z5 z6
  obtain ⟨w1, w2, w3⟩ := q_ix hi hn
  obtain ⟨-, hc⟩ := z2 a _ hT
  have hAr := (hg.2.1.2 1 _ rfl).1
  refine W.lald (v := qL (L a i.toNat)) hx hb hc (hAr n _) (fun q => by cases q) (by show ¬ (_ < 0 ∨ (arrV _ _ _).slots.size ≤ _); rw [arrV_size]; exact w1) (by show (arrV _ _ _).slots[_]? = _; rw [w2, arrV_read _ _ w3]; rfl) rfl rfl d (k H locs cells slots lsA z1 z2 z3 z4 z5 z6)
theorem q_refty {t : Nat} (h2 : 2 ≤ t) (h8 : t < 10) : refKind (q_ty t) = true ∧ ∀ (I L : q_I) (P : q_P) (q k : Nat), q_fv (q_ty t) I L P q k = qR (P q k) := by
  match t, h2, h8 with
  | 2, _, _ => exact ⟨rfl, fun _ _ _ _ _ => rfl⟩
  | 3, _, _ => exact ⟨rfl, fun _ _ _ _ _ => rfl⟩
  | 4, _, _ => exact ⟨rfl, fun _ _ _ _ _ => rfl⟩
  | 5, _, _ => exact ⟨rfl, fun _ _ _ _ _ => rfl⟩
  | 6, _, _ => exact ⟨rfl, fun _ _ _ _ _ => rfl⟩
  | 7, _, _ => exact ⟨rfl, fun _ _ _ _ _ => rfl⟩
  | 8, _, _ => exact ⟨rfl, fun _ _ _ _ _ => rfl⟩
  | 9, _, _ => exact ⟨rfl, fun _ _ _ _ _ => rfl⟩
theorem q_aaloadR (hF : q_ok G F Y h) {a n t : Nat} {i : Int} (hT : T a = some (.inr (t, n))) (h2 : 2 ≤ t) (hi : 0 ≤ i ∧ i < (n : Int)) (hn : (n : Int) < 2147483648) (d : q_d Y.2.1 pc pc' .aaload 1) (k : qX G F Q kc ks pc' ls (qR (P a i.toNat) :: st) sz T I L P) : qX G F Q kc ks pc ls (qI i :: .ref a :: st) sz T I L P := by
  obtain ⟨p, l, e, R, s, m, args, below, meth, c, mc, ms⟩ := F
  obtain ⟨hx, hb, hr, hlk, hml, ho, hnm, htb, hg, -⟩ := hF
  obtain ⟨d, rfl⟩ := d
  intro H locs cells slots lsA z1 z2 z3 z4 z5 z6
  obtain ⟨w1, w2, w3⟩ := q_ix hi hn
  obtain ⟨ht, hc⟩ := z2 a _ hT
  have hAr := (hg.2.1.2 t _ (q_tys_at _ ht)).1
  obtain ⟨hk, hv⟩ := q_refty h2 ht
  refine W.aald (v := qR (P a i.toNat)) (ty := q_ty t) hx hb hc (hAr n _) hk (fun q => by cases q) (by show ¬ (_ < 0 ∨ (arrV _ _ _).slots.size ≤ _); rw [arrV_size]; exact w1) (by show (arrV _ _ _).slots[_]? = _; rw [w2, arrV_read _ _ w3, hv]) rfl rfl d (k H locs cells slots lsA z1 z2 z3 z4 z5 z6)
theorem q_aaload (hF : q_ok G F Y h) {a n t b : Nat} {i : Int} (hT : T a = some (.inr (t, n))) (h2 : 2 ≤ t) (hi : 0 ≤ i ∧ i < (n : Int)) (hn : (n : Int) < 2147483648) (hp : P a i.toNat = some b) (d : q_d Y.2.1 pc pc' .aaload 1) (k : qX G F Q kc ks pc' ls (.ref b :: st) sz T I L P) : qX G F Q kc ks pc ls (qI i :: .ref a :: st) sz T I L P :=
  q_aaloadR hF hT h2 hi hn d (by rw [hp]; exact k)
theorem q_alen (hF : q_ok G F Y h) {a n t : Nat} (hT : T a = some (.inr (t, n))) (d : q_d Y.2.1 pc pc' .arraylength 1) (k : qX G F Q kc ks pc' ls (qI (n : Int) :: st) sz T I L P) : qX G F Q kc ks pc ls (.ref a :: st) sz T I L P := by
  obtain ⟨p, l, e, R, s, m, args, below, meth, c, mc, ms⟩ := F
  obtain ⟨hx, hb, hr, hlk, hml, ho, hnm, htb, hg, -⟩ := hF
  obtain ⟨d, rfl⟩ := d
  intro H locs cells slots lsA z1 z2 z3 z4 z5 z6
  obtain ⟨ht, hc⟩ := z2 a _ hT
  have hAr := (hg.2.1.2 t _ (q_tys_at _ ht)).1
  exact W.alen (n := Int32.ofInt (n : Int)) hx hb hc (hAr n _) (by rw [arrV_size, qi_nat]) rfl rfl d (k H locs cells slots lsA z1 z2 z3 z4 z5 z6)
theorem q_upd_ar {G : q_G} {I L I' L' : q_I} {P P' : q_P} {a j t n : Nat} {v : Value} {H' : Heap} (ht : t < 10) (e1 : H'[a]? = some ((arrV (G.2.2.1 t) n (fun j => q_fv (q_ty t) I L P a j)).setSlot j v)) (hv : q_fv (q_ty t) I' L' P' a j = v) (ho : ∀ i, i ≠ j → q_fv (q_ty t) I' L' P' a i = q_fv (q_ty t) I L P a i) : q_at G I' L' P' a (.inr (t, n)) H' := by
  refine ⟨ht, e1.trans ?_⟩
  rw [arrV_store]
  congr 2
  funext i
  unfold updV
  by_cases e : i = j
  · rw [if_pos e, e, hv]
  · rw [if_neg e, ho i e]
theorem q_iastore (hF : q_ok G F Y h) {a n : Nat} {i z : Int} (hT : T a = some (.inr (0, n))) (hA : q_A G a) (hi : 0 ≤ i ∧ i < (n : Int)) (hn : (n : Int) < 2147483648) (d : q_d Y.2.1 pc pc' .iastore 1) (k : qX G F Q kc ks pc' ls st sz T (u2 I a i.toNat z) L P) : qX G F Q kc ks pc ls (qI z :: qI i :: .ref a :: st) sz T I L P := by
  obtain ⟨p, l, e, R, s, m, args, below, meth, c, mc, ms⟩ := F
  obtain ⟨hx, hb, hr, hlk, hml, ho, hnm, htb, hg, -⟩ := hF
  obtain ⟨d, rfl⟩ := d
  intro H locs cells slots lsA z1 z2 z3 z4 z5 z6
  obtain ⟨w1, w2, w3⟩ := q_ix hi hn
  obtain ⟨ht, hc⟩ := z2 a _ hT
  have hAr := (hg.2.1.2 0 _ rfl).1
  refine W.iast hx hb hc (hAr n _) (fun q => by cases q) (by show ¬ (_ < 0 ∨ (arrV _ _ _).slots.size ≤ _); rw [arrV_size]; exact w1) rfl rfl d fun H' e1 e2 e3 => ?_
  rw [w2] at e1 ⊢
  refine k H' _ cells slots lsA (e2.trans z1) (z2.put e3 (fun q i hq => q_u2o (Or.inl hq)) (fun _ _ _ => rfl) (fun _ _ _ => rfl) (fun kk hk => ?_)) (z3.put e2 e3 hA) z4 z5 z6
  cases hT.symm.trans hk
  exact q_upd_ar ht e1 (by show qI (u2 I a _ z a _) = _; rw [u2_s]) (fun i hi => by show qI (u2 I a _ z a i) = qI _; rw [q_u2o (Or.inr hi)])
theorem q_lastore (hF : q_ok G F Y h) {a n : Nat} {i z : Int} (hT : T a = some (.inr (1, n))) (hA : q_A G a) (hi : 0 ≤ i ∧ i < (n : Int)) (hn : (n : Int) < 2147483648) (d : q_d Y.2.1 pc pc' .lastore 1) (k : qX G F Q kc ks pc' ls st sz T I (u2 L a i.toNat z) P) : qX G F Q kc ks pc ls (qL z :: qI i :: .ref a :: st) sz T I L P := by
  obtain ⟨p, l, e, R, s, m, args, below, meth, c, mc, ms⟩ := F
  obtain ⟨hx, hb, hr, hlk, hml, ho, hnm, htb, hg, -⟩ := hF
  obtain ⟨d, rfl⟩ := d
  intro H locs cells slots lsA z1 z2 z3 z4 z5 z6
  obtain ⟨w1, w2, w3⟩ := q_ix hi hn
  obtain ⟨ht, hc⟩ := z2 a _ hT
  have hAr := (hg.2.1.2 1 _ rfl).1
  refine W.last hx hb hc (hAr n _) (fun q => by cases q) (by show ¬ (_ < 0 ∨ (arrV _ _ _).slots.size ≤ _); rw [arrV_size]; exact w1) rfl rfl d fun H' e1 e2 e3 => ?_
  rw [w2] at e1 ⊢
  refine k H' _ cells slots lsA (e2.trans z1) (z2.put e3 (fun _ _ _ => rfl) (fun q i hq => q_u2o (Or.inl hq)) (fun _ _ _ => rfl) (fun kk hk => ?_)) (z3.put e2 e3 hA) z4 z5 z6
  cases hT.symm.trans hk
  exact q_upd_ar ht e1 (by show qL (u2 L a _ z a _) = _; rw [u2_s]) (fun i hi => by show qL (u2 L a _ z a i) = qL _; rw [q_u2o (Or.inr hi)])
end QX
