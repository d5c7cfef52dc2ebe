/-! the frame, more: arrays of arrays made -/
theorem q_outer (c : ClassId) (N h0 : Nat) : ∀ i, Jvm.Free.Multi.outerC c N h0 i = arrV c N (fun j => if j < i then .ref (h0 + 1 + j) else .null)
  | 0 => by
    show ({ cls := c, slots := Array.replicate N .null, vm := .none } : Cell) = _
    rw [arrV_new]
    congr 1
  | i + 1 => by
    show (Jvm.Free.Multi.outerC c N h0 i).setSlot i (.ref (h0 + 1 + i)) = _
    rw [q_outer c N h0 i, arrV_store]
    congr 1
    funext j
    unfold updV
    dsimp only
    by_cases e : j = i
    · subst e; rw [if_pos rfl, if_pos (Nat.lt_succ_self _)]
    · rw [if_neg e]
      by_cases l : j < i
      · rw [if_pos l, if_pos (by omega)]
      · rw [if_neg l, if_neg (by omega)]
theorem va_tabs_over {G : q_G} {s : State} (hg : q_Gs G s) {t : FieldType} (h : Cond.arrayOver (.array t) ∈ q_nst) (args : Array Value) : (Cond.arrayOver (.array t)).before args s = true := hg.2.2.2.1 _ h
/-- the cells of a new array of n arrays of type t2, of k each -/
def q_upTm (T : q_T) (sz t n t2 k : Nat) : q_T := fun q => if q = sz then some (.inr (t, n)) else if sz + 1 ≤ q ∧ q < sz + 1 + n then some (.inr (t2, k)) else T q
def q_upPm (P : q_P) (sz n : Nat) : q_P := fun q j => if q = sz ∧ j < n then some (sz + 1 + j) else P q j
theorem q_mnew {G : q_G} {F : q_F} {Y : q_Y} {h : Nat} {Q : q_Q} {kc ks pc pc' : Nat} {ls : List (Nat × Value)} {st : List Value} {sz : Nat} {T : q_T} {I L : q_I} {P : q_P} (hF : q_ok G F Y h) {t t2 idx n k : Nat} {ty : FieldType} {kz nz : Int}
    (ht : t = 6 ∧ t2 = 0 ∧ ty = .int ∨ t = 7 ∧ t2 = 6 ∧ ty = .array .int) (w1 : Cond.classLink Y.1.cls idx ("[" ++ (FieldType.array ty).toString) ∈ q_all) (w2 : Cond.arrayOver (.array ty) ∈ q_nst) (w3 : ∀ (args : Array Value) (s : State), q_Gs G s → (Cond.arrayClass ty).before args s = true) (hkz : kz = (k : Int)) (hnz : nz = (n : Int)) (hn : n < 100000) (hk : k < 100000)
    (hA : q_A G sz) (hI : ∀ q j, sz ≤ q → I q j = 0) (hL : ∀ q j, sz ≤ q → L q j = 0) (hP : ∀ q j, sz ≤ q → P q j = none) (d : q_d Y.2.1 pc pc' (.multianewarray idx 2) 4)
    (kk : qX G F Q kc ks pc' ls (.ref sz :: st) (sz + 1 + n) (q_upTm T sz t n t2 k) I L (q_upPm P sz n)) : qX G F Q (kc + (1 + n)) (ks + (n + n * k)) pc ls (qI kz :: qI nz :: st) sz T I L P := by
  obtain ⟨p, l, e, R, s, m, args, below, meth, c, mc, ms⟩ := F
  obtain ⟨hx, hb, hr, hlk, hml, ho, hnm, htb, hg, rfl, -⟩ := hF
  obtain ⟨d, rfl⟩ := d
  subst hkz hnz
  intro H locs cells slots lsA z1 z2 z3 z4 z5 z6
  have en : (Int32.ofInt (n : Int)).toNatClampNeg = n := by rw [qi_cl (by omega)]; omega
  have ek : (Int32.ofInt (k : Int)).toNatClampNeg = k := by rw [qi_cl (by omega)]; omega
  have hcb : componentBytes ty ≤ 8 := by rcases ht with ⟨-, -, rfl⟩ | ⟨-, -, rfl⟩ <;> decide
  have hb2 : k * componentBytes ty ≤ 536870912 := Nat.le_trans (Nat.mul_le_mul_left _ hcb) (by omega)
  refine fun T0 hT X => ?_
  obtain ⟨vm₁, cA, comp, hW, hfA, hfC, X1, step⟩ := X.multianewarray2 hx ho (hg.at w1 args) (va_tabs_over hg w2 args) (w3 args _ hg) (g := F0 m pc lsA (qI (k : Int) :: qI (n : Int) :: st)) rfl (by rw [hb]; exact d) (n := Int32.ofInt (n : Int)) (k := Int32.ofInt (k : Int)) (rest := st) rfl
    (by rw [qi_lt0 (by omega)]; omega) (by rw [qi_lt0 (by omega)]; omega) (by rw [en]; omega) (by rw [ek]; exact hb2) (by rw [ek]; omega) (by rcases ht with ⟨-, -, rfl⟩ | ⟨-, -, rfl⟩ <;> rfl) (by rcases ht with ⟨-, -, rfl⟩ | ⟨-, -, rfl⟩ <;> rfl) (by rw [en]; show _ ≤ mc; omega) (by rw [en, ek]; show _ ≤ ms; omega)
  rw [en, ek] at X1 step
  obtain ⟨f1, f2, f3, f4⟩ := Jvm.Free.Multi.fill_facts (T0.setVm vm₁) cA comp n k (defaultValue ty) n
  have hheap : (T0.setVm vm₁).heap = H := hT
  have hs0 : T0.heap.size = sz := by rw [hT]; exact z1
  have e1 : (Jvm.Free.Multi.fill (T0.setVm vm₁) cA comp n k (defaultValue ty) n).heap.size = sz + 1 + n := by rw [f1, hheap, z1]
  have e2 : (Jvm.Free.Multi.fill (T0.setVm vm₁) cA comp n k (defaultValue ty) n).heap[sz]? = some (arrV cA n (fun j => if j < n then .ref (sz + 1 + j) else .null)) := by rw [← q_outer]; rw [hheap, z1] at f2; exact f2
  have e3 : ∀ j, j < n → (Jvm.Free.Multi.fill (T0.setVm vm₁) cA comp n k (defaultValue ty) n).heap[sz + 1 + j]? = some (arrV comp k (fun _ => defaultValue ty)) := fun j hj => by
    have q := Jvm.Free.Multi.fill_inner (T0.setVm vm₁) cA comp n k (defaultValue ty) n j hj
    rw [hheap, z1] at q
    rw [q, ← arrV_new]
    rfl
  have e4 : ∀ q : Nat, q < sz → (Jvm.Free.Multi.fill (T0.setVm vm₁) cA comp n k (defaultValue ty) n).heap[q]? = H[q]? := fun q hq => by
    rw [Jvm.Free.Multi.fill_old (T0.setVm vm₁) cA comp n k (defaultValue ty) (by rw [hheap, z1]; exact hq) n, hheap]
  have hcA : cA = G.2.2.1 t ∧ comp = G.2.2.1 t2 ∧ t < 10 ∧ t2 < 10 := by
    rcases ht with ⟨rfl, rfl, rfl⟩ | ⟨rfl, rfl, rfl⟩
    · exact ⟨q_arrA hfA (hg.2.1.2 6 _ rfl).2, q_arrA hfC (hg.2.1.2 0 _ rfl).2, by decide, by decide⟩
    · exact ⟨q_arrA hfA (hg.2.1.2 7 _ rfl).2, q_arrA hfC (hg.2.1.2 6 _ rfl).2, by decide, by decide⟩
  obtain ⟨rfl, rfl, h8, h82⟩ := hcA
  have hRep : q_Rep G (q_upTm T sz t n t2 k) I L (q_upPm P sz n) (Jvm.Free.Multi.fill (T0.setVm vm₁) (G.2.2.1 t) (G.2.2.1 t2) n k (defaultValue ty) n).heap := by
    intro q kd hkd
    unfold q_upTm at hkd
    by_cases c1 : q = sz
    · subst c1
      rw [if_pos rfl] at hkd
      cases hkd
      refine ⟨h8, e2.trans ?_⟩
      congr 2
      funext j
      rcases ht with ⟨rfl, -, -⟩ | ⟨rfl, -, -⟩
      · show _ = qR (q_upPm P q n q j)
        unfold q_upPm
        by_cases c2 : j < n
        · rw [if_pos c2, if_pos ⟨rfl, c2⟩]; rfl
        · rw [if_neg c2, if_neg (fun x => c2 x.2), hP q j (Nat.le_refl _)]; rfl
      · show _ = qR (q_upPm P q n q j)
        unfold q_upPm
        by_cases c2 : j < n
        · rw [if_pos c2, if_pos ⟨rfl, c2⟩]; rfl
        · rw [if_neg c2, if_neg (fun x => c2 x.2), hP q j (Nat.le_refl _)]; rfl
    · rw [if_neg c1] at hkd
      by_cases c2 : sz + 1 ≤ q ∧ q < sz + 1 + n
      · rw [if_pos c2] at hkd
        cases hkd
        obtain ⟨j, rfl⟩ : ∃ j, q = sz + 1 + j := ⟨q - (sz + 1), by omega⟩
        refine ⟨h82, (e3 j (by omega)).trans ?_⟩
        congr 2
        funext i
        rcases ht with ⟨-, rfl, rfl⟩ | ⟨-, rfl, rfl⟩
        · show _ = qI (I _ i); rw [hI _ _ (by omega)]; rfl
        · show _ = qR (q_upPm P sz n (sz + 1 + j) i); unfold q_upPm; rw [if_neg (fun x => absurd x.1 (by omega)), hP _ _ (by omega)]; rfl
      · rw [if_neg c2] at hkd
        have q1 := z2 q kd hkd
        have hlt := q1.lt
        rw [z1] at hlt
        refine q1.kept (e4 q hlt) (fun _ => rfl) (fun _ => rfl) (fun j => ?_)
        unfold q_upPm
        rw [if_neg (fun x => c1 x.1)]
  obtain ⟨t9, a1, b1⟩ := kk _ _ (cells + 1 + n) (slots + n + n * k) lsA e1 hRep ⟨by rw [e1]; have := z3.1; omega, fun q g1 g2 => by
      rw [e4 q (by have := z3.1; omega)]
      exact z3.2.1 q g1 g2, fun q hq => by
      rcases List.mem_append.mp hq with h | h
      · exact z3.2.2 q h
      · obtain ⟨z, -, hz⟩ := List.mem_map.mp h
        rw [← hz]
        show q_A G T0.heap.size
        rw [hs0]; exact hA⟩ z4 (by omega) (by omega) _ rfl X1
  refine ⟨t9, step t9 ?_, b1⟩
  rw [hs0]
  exact a1
