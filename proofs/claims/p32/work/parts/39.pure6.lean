/-! rows are kept by the calls that change them -/
theorem g_VM.acc {r x : Nat → Int} {b : Int} {i : Nat} (h : g_VM r 0 b) (hi : (i : Int) < r 1) (hk : ∀ k, (k < 1039 + 12 * i ∨ 1050 + 12 * i < k) → (g_rc k ∨ k = 1 ∨ k = 2 ∨ k = 6 ∨ 1039 ≤ k) → x k = r k) (hA : g_VA x i b) (hs : (x (1043 + 12 * i) = 2 ∨ x (1043 + 12 * i) = 3) ↔ (r (1043 + 12 * i) = 2 ∨ r (1043 + 12 * i) = 3)) : g_VM x 0 b := by
  obtain ⟨h0, h1, h2⟩ := h
  have hm := h0.many
  have e1 := hk 1 (by omega) (by omega)
  have e6 := hk 6 (by omega) (by omega)
  refine ⟨h0.same (fun k q => hk k (by unfold g_rc at q; omega) (Or.inl q)) (by rw [e1]; exact hm) (by rw [hk 2 (by omega) (by omega)]; exact h0.month) (by rw [e6]; exact h0.rows), fun j hj => ?_, ?_⟩
  · rw [if_neg (Nat.not_lt_zero _)]
    rw [e1] at hj
    by_cases e : j = i
    · subst e; exact hA
    · have q := h1 j hj
      rw [if_neg (Nat.not_lt_zero _)] at q
      exact q.ext (hk 0 (by omega) (by unfold g_rc; omega)) (fun k k1 k2 => hk k (by omega) (by omega))
  · rw [e6, e1, g_cnt_same (r := r) _ (fun j hj => ?_)]
    · exact h2
    · by_cases e : j = i
      · subst e; exact hs
      · rw [hk (1043 + 12 * j) (by omega) (by omega)]
theorem g_ocontact_n {r : Nat → Int} {i : Nat} {k : Nat} (x0 : k ≠ 1045 + 12 * i) (x1 : k ≠ 1043 + 12 * i) : g_ocontact r i k = r k := by
  unfold g_ocontact
  rw [g_up_n _ _ x1, g_up_n _ _ x0]
theorem g_ocontact_VM {r : Nat → Int} {i : Nat} {b : Int} (h : g_VM r 0 b) (hi : (i : Int) < r 1) (ho : r (1043 + 12 * i) = 0 ∨ r (1043 + 12 * i) = 1) : g_VM (g_ocontact r i) 0 b := by
  have hm := h.1.many
  have hl5 := h.1.lands
  have hA := h.2.1 i hi
  rw [if_neg (Nat.not_lt_zero _)] at hA
  have f_kind := hA.kind
  have f_addr := hA.addr
  have f_birth := hA.birth
  have f_cents := hA.cents
  have f_state := hA.state
  have f_age := hA.age
  have f_since := hA.since
  have f_wrote := hA.wrote
  have f_holder := hA.holder
  have f_lat := hA.lat
  have f_nl := hA.nl
  have f_hat := hA.hat
  have e1045 : (g_ocontact r i) (1045 + 12 * i) = 0 := by
    unfold g_ocontact
    rw [g_up_n _ _ (by omega), g_up_s]
  have e1043 : (g_ocontact r i) (1043 + 12 * i) = 0 := by
    unfold g_ocontact
    rw [g_up_s]
  have n : ∀ k, k ≠ 1045 + 12 * i → k ≠ 1043 + 12 * i → (g_ocontact r i) k = r k := fun k x0 x1 => g_ocontact_n x0 x1
  refine h.acc hi (fun k x y => n k (by unfold g_rc at y; omega) (by unfold g_rc at y; omega)) ?_ ?_
  · unfold g_VA
    rw [n 0 (by omega) (by omega), n (1039 + 12 * i) (by omega) (by omega), n (1040 + 12 * i) (by omega) (by omega), n (1041 + 12 * i) (by omega) (by omega), n (1042 + 12 * i) (by omega) (by omega), e1043, n (1044 + 12 * i) (by omega) (by omega), e1045, n (1046 + 12 * i) (by omega) (by omega), n (1047 + 12 * i) (by omega) (by omega), n (1048 + 12 * i) (by omega) (by omega), n (1049 + 12 * i) (by omega) (by omega), n (1050 + 12 * i) (by omega) (by omega)]
    exact ⟨f_kind, f_addr, f_birth, f_cents, by omega, f_age, by omega, f_wrote, f_holder, f_lat, f_nl, f_hat, fun q => by omega⟩
  · rw [e1043]; omega
theorem g_ocontact_RW {r : Nat → Int} {i : Nat} (h : g_RW r) (hi : i < 12) : g_RW (g_ocontact r i) := h.ext (g_ocontact_n (by omega) (by omega)) (fun k hk => g_ocontact_n (by omega) (by omega))
theorem g_ocontact_Z {r : Nat → Int} {i : Nat} (h : g_Zr r) (hi : i < 12) : g_Zr (g_ocontact r i) := (h.up (by omega)).up (by omega)
theorem g_oclose_n {r : Nat → Int} {i : Nat} {k : Nat} (x0 : k ≠ 19) (x1 : k ≠ 1042 + 12 * i) (x2 : k ≠ 1043 + 12 * i) : g_oclose r i k = r k := by
  unfold g_oclose
  rw [g_up_n _ _ x2, g_up_n _ _ x1, g_up_n _ _ x0]
theorem g_oclose_VM {r : Nat → Int} {i : Nat} {b : Int} (h : g_VM r 0 b) (hi : (i : Int) < r 1) (ho : r (1043 + 12 * i) = 0 ∨ r (1043 + 12 * i) = 1) : g_VM (g_oclose r i) 0 b := by
  have hm := h.1.many
  have hl5 := h.1.lands
  have hA := h.2.1 i hi
  rw [if_neg (Nat.not_lt_zero _)] at hA
  have f_kind := hA.kind
  have f_addr := hA.addr
  have f_birth := hA.birth
  have f_cents := hA.cents
  have f_state := hA.state
  have f_age := hA.age
  have f_since := hA.since
  have f_wrote := hA.wrote
  have f_holder := hA.holder
  have f_lat := hA.lat
  have f_nl := hA.nl
  have f_hat := hA.hat
  have e1042 : (g_oclose r i) (1042 + 12 * i) = 0 := by
    unfold g_oclose
    rw [g_up_n _ _ (by omega), g_up_s]
  have e1043 : (g_oclose r i) (1043 + 12 * i) = 4 := by
    unfold g_oclose
    rw [g_up_s]
  have n : ∀ k, k ≠ 19 → k ≠ 1042 + 12 * i → k ≠ 1043 + 12 * i → (g_oclose r i) k = r k := fun k x0 x1 x2 => g_oclose_n x0 x1 x2
  refine h.acc hi (fun k x y => n k (by unfold g_rc at y; omega) (by unfold g_rc at y; omega) (by unfold g_rc at y; omega)) ?_ ?_
  · unfold g_VA
    rw [n 0 (by omega) (by omega) (by omega), n (1039 + 12 * i) (by omega) (by omega) (by omega), n (1040 + 12 * i) (by omega) (by omega) (by omega), n (1041 + 12 * i) (by omega) (by omega) (by omega), e1042, e1043, n (1044 + 12 * i) (by omega) (by omega) (by omega), n (1045 + 12 * i) (by omega) (by omega) (by omega), n (1046 + 12 * i) (by omega) (by omega) (by omega), n (1047 + 12 * i) (by omega) (by omega) (by omega), n (1048 + 12 * i) (by omega) (by omega) (by omega), n (1049 + 12 * i) (by omega) (by omega) (by omega), n (1050 + 12 * i) (by omega) (by omega) (by omega)]
    exact ⟨f_kind, f_addr, f_birth, by omega, by omega, f_age, f_since, f_wrote, f_holder, f_lat, f_nl, f_hat, fun q => by omega⟩
  · rw [e1043]; omega
theorem g_oclose_RW {r : Nat → Int} {i : Nat} (h : g_RW r) (hi : i < 12) : g_RW (g_oclose r i) := h.ext (g_oclose_n (by omega) (by omega) (by omega)) (fun k hk => g_oclose_n (by omega) (by omega) (by omega))
theorem g_oclose_Z {r : Nat → Int} {i : Nat} (h : g_Zr r) (hi : i < 12) : g_Zr (g_oclose r i) := ((h.up (by omega)).up (by omega)).up (by omega)
theorem g_odeposit_n {r : Nat → Int} {i : Nat} {c : Int} {k : Nat} (x0 : k ≠ 1045 + 12 * i) (x1 : k ≠ 1043 + 12 * i) (x2 : k ≠ 1042 + 12 * i) (x3 : k ≠ 17) : g_odeposit r i c k = r k := by
  unfold g_odeposit
  rw [g_up_n _ _ x3, g_up_n _ _ x2, g_up_n _ _ x1, g_up_n _ _ x0]
theorem g_odeposit_VM {r : Nat → Int} {i : Nat} {c : Int} {b : Int} (h : g_VM r 0 b) (hi : (i : Int) < r 1) (ho : r (1043 + 12 * i) = 0 ∨ r (1043 + 12 * i) = 1) (hc : 1 ≤ c ∧ r (1042 + 12 * i) + c ≤ 100000000) : g_VM (g_odeposit r i c) 0 b := by
  have hm := h.1.many
  have hl5 := h.1.lands
  have hA := h.2.1 i hi
  rw [if_neg (Nat.not_lt_zero _)] at hA
  have f_kind := hA.kind
  have f_addr := hA.addr
  have f_birth := hA.birth
  have f_cents := hA.cents
  have f_state := hA.state
  have f_age := hA.age
  have f_since := hA.since
  have f_wrote := hA.wrote
  have f_holder := hA.holder
  have f_lat := hA.lat
  have f_nl := hA.nl
  have f_hat := hA.hat
  have e1045 : (g_odeposit r i c) (1045 + 12 * i) = 0 := by
    unfold g_odeposit
    rw [g_up_n _ _ (by omega), g_up_n _ _ (by omega), g_up_n _ _ (by omega), g_up_s]
  have e1043 : (g_odeposit r i c) (1043 + 12 * i) = 0 := by
    unfold g_odeposit
    rw [g_up_n _ _ (by omega), g_up_n _ _ (by omega), g_up_s]
  have e1042 : (g_odeposit r i c) (1042 + 12 * i) = r (1042 + 12 * i) + c := by
    unfold g_odeposit
    rw [g_up_n _ _ (by omega), g_up_s]
  have n : ∀ k, k ≠ 1045 + 12 * i → k ≠ 1043 + 12 * i → k ≠ 1042 + 12 * i → k ≠ 17 → (g_odeposit r i c) k = r k := fun k x0 x1 x2 x3 => g_odeposit_n x0 x1 x2 x3
  refine h.acc hi (fun k x y => n k (by unfold g_rc at y; omega) (by unfold g_rc at y; omega) (by unfold g_rc at y; omega) (by unfold g_rc at y; omega)) ?_ ?_
  · unfold g_VA
    rw [n 0 (by omega) (by omega) (by omega) (by omega), n (1039 + 12 * i) (by omega) (by omega) (by omega) (by omega), n (1040 + 12 * i) (by omega) (by omega) (by omega) (by omega), n (1041 + 12 * i) (by omega) (by omega) (by omega) (by omega), e1042, e1043, n (1044 + 12 * i) (by omega) (by omega) (by omega) (by omega), e1045, n (1046 + 12 * i) (by omega) (by omega) (by omega) (by omega), n (1047 + 12 * i) (by omega) (by omega) (by omega) (by omega), n (1048 + 12 * i) (by omega) (by omega) (by omega) (by omega), n (1049 + 12 * i) (by omega) (by omega) (by omega) (by omega), n (1050 + 12 * i) (by omega) (by omega) (by omega) (by omega)]
    exact ⟨f_kind, f_addr, f_birth, by omega, by omega, f_age, by omega, f_wrote, f_holder, f_lat, f_nl, f_hat, fun q => by omega⟩
  · rw [e1043]; omega
theorem g_odeposit_RW {r : Nat → Int} {i : Nat} {c : Int} (h : g_RW r) (hi : i < 12) : g_RW (g_odeposit r i c) := h.ext (g_odeposit_n (by omega) (by omega) (by omega) (by omega)) (fun k hk => g_odeposit_n (by omega) (by omega) (by omega) (by omega))
theorem g_odeposit_Z {r : Nat → Int} {i : Nat} {c : Int} (h : g_Zr r) (hi : i < 12) : g_Zr (g_odeposit r i c) := (((h.up (by omega)).up (by omega)).up (by omega)).up (by omega)
theorem g_odraw_n {r : Nat → Int} {i : Nat} {c : Int} {k : Nat} (x0 : k ≠ 1045 + 12 * i) (x1 : k ≠ 1043 + 12 * i) (x2 : k ≠ 1042 + 12 * i) (x3 : k ≠ 19) : g_odraw r i c k = r k := by
  unfold g_odraw
  rw [g_up_n _ _ x3, g_up_n _ _ x2, g_up_n _ _ x1, g_up_n _ _ x0]
theorem g_odraw_VM {r : Nat → Int} {i : Nat} {c : Int} {b : Int} (h : g_VM r 0 b) (hi : (i : Int) < r 1) (ho : r (1043 + 12 * i) = 0 ∨ r (1043 + 12 * i) = 1) (hc : 1 ≤ c ∧ c ≤ r (1042 + 12 * i)) : g_VM (g_odraw r i c) 0 b := by
  have hm := h.1.many
  have hl5 := h.1.lands
  have hA := h.2.1 i hi
  rw [if_neg (Nat.not_lt_zero _)] at hA
  have f_kind := hA.kind
  have f_addr := hA.addr
  have f_birth := hA.birth
  have f_cents := hA.cents
  have f_state := hA.state
  have f_age := hA.age
  have f_since := hA.since
  have f_wrote := hA.wrote
  have f_holder := hA.holder
  have f_lat := hA.lat
  have f_nl := hA.nl
  have f_hat := hA.hat
  have e1045 : (g_odraw r i c) (1045 + 12 * i) = 0 := by
    unfold g_odraw
    rw [g_up_n _ _ (by omega), g_up_n _ _ (by omega), g_up_n _ _ (by omega), g_up_s]
  have e1043 : (g_odraw r i c) (1043 + 12 * i) = 0 := by
    unfold g_odraw
    rw [g_up_n _ _ (by omega), g_up_n _ _ (by omega), g_up_s]
  have e1042 : (g_odraw r i c) (1042 + 12 * i) = r (1042 + 12 * i) + -c := by
    unfold g_odraw
    rw [g_up_n _ _ (by omega), g_up_s]
  have n : ∀ k, k ≠ 1045 + 12 * i → k ≠ 1043 + 12 * i → k ≠ 1042 + 12 * i → k ≠ 19 → (g_odraw r i c) k = r k := fun k x0 x1 x2 x3 => g_odraw_n x0 x1 x2 x3
  refine h.acc hi (fun k x y => n k (by unfold g_rc at y; omega) (by unfold g_rc at y; omega) (by unfold g_rc at y; omega) (by unfold g_rc at y; omega)) ?_ ?_
  · unfold g_VA
    rw [n 0 (by omega) (by omega) (by omega) (by omega), n (1039 + 12 * i) (by omega) (by omega) (by omega) (by omega), n (1040 + 12 * i) (by omega) (by omega) (by omega) (by omega), n (1041 + 12 * i) (by omega) (by omega) (by omega) (by omega), e1042, e1043, n (1044 + 12 * i) (by omega) (by omega) (by omega) (by omega), e1045, n (1046 + 12 * i) (by omega) (by omega) (by omega) (by omega), n (1047 + 12 * i) (by omega) (by omega) (by omega) (by omega), n (1048 + 12 * i) (by omega) (by omega) (by omega) (by omega), n (1049 + 12 * i) (by omega) (by omega) (by omega) (by omega), n (1050 + 12 * i) (by omega) (by omega) (by omega) (by omega)]
    exact ⟨f_kind, f_addr, f_birth, by omega, by omega, f_age, by omega, f_wrote, f_holder, f_lat, f_nl, f_hat, fun q => by omega⟩
  · rw [e1043]; omega
theorem g_odraw_RW {r : Nat → Int} {i : Nat} {c : Int} (h : g_RW r) (hi : i < 12) : g_RW (g_odraw r i c) := h.ext (g_odraw_n (by omega) (by omega) (by omega) (by omega)) (fun k hk => g_odraw_n (by omega) (by omega) (by omega) (by omega))
theorem g_odraw_Z {r : Nat → Int} {i : Nat} {c : Int} (h : g_Zr r) (hi : i < 12) : g_Zr (g_odraw r i c) := (((h.up (by omega)).up (by omega)).up (by omega)).up (by omega)
theorem g_oaddress_n {r : Nat → Int} {i : Nat} {l : Int} {k : Nat} (x0 : k ≠ 1040 + 12 * i) : g_oaddress r i l k = r k := by
  unfold g_oaddress
  rw [g_up_n _ _ x0]
theorem g_oaddress_VM {r : Nat → Int} {i : Nat} {l : Int} {b : Int} (h : g_VM r 0 b) (hi : (i : Int) < r 1) (hl : l = -1 ∨ 0 ≤ l ∧ l < r 0) : g_VM (g_oaddress r i l) 0 b := by
  have hm := h.1.many
  have hl5 := h.1.lands
  have hA := h.2.1 i hi
  rw [if_neg (Nat.not_lt_zero _)] at hA
  have f_kind := hA.kind
  have f_addr := hA.addr
  have f_birth := hA.birth
  have f_cents := hA.cents
  have f_state := hA.state
  have f_age := hA.age
  have f_since := hA.since
  have f_wrote := hA.wrote
  have f_holder := hA.holder
  have f_lat := hA.lat
  have f_nl := hA.nl
  have f_hat := hA.hat
  have e1040 : (g_oaddress r i l) (1040 + 12 * i) = l := by
    unfold g_oaddress
    rw [g_up_s]
  have n : ∀ k, k ≠ 1040 + 12 * i → (g_oaddress r i l) k = r k := fun k x0 => g_oaddress_n x0
  refine h.acc hi (fun k x y => n k (by unfold g_rc at y; omega)) ?_ ?_
  · unfold g_VA
    rw [n 0 (by omega), n (1039 + 12 * i) (by omega), e1040, n (1041 + 12 * i) (by omega), n (1042 + 12 * i) (by omega), n (1043 + 12 * i) (by omega), n (1044 + 12 * i) (by omega), n (1045 + 12 * i) (by omega), n (1046 + 12 * i) (by omega), n (1047 + 12 * i) (by omega), n (1048 + 12 * i) (by omega), n (1049 + 12 * i) (by omega), n (1050 + 12 * i) (by omega)]
    exact ⟨f_kind, by omega, f_birth, f_cents, f_state, f_age, f_since, f_wrote, f_holder, f_lat, f_nl, f_hat, hA.hh⟩
  · rw [n (1043 + 12 * i) (by omega)]
theorem g_oaddress_RW {r : Nat → Int} {i : Nat} {l : Int} (h : g_RW r) (hi : i < 12) : g_RW (g_oaddress r i l) := h.ext (g_oaddress_n (by omega)) (fun k hk => g_oaddress_n (by omega))
theorem g_oaddress_Z {r : Nat → Int} {i : Nat} {l : Int} (h : g_Zr r) (hi : i < 12) : g_Zr (g_oaddress r i l) := h.up (by omega)
theorem g_oclaim_n {r : Nat → Int} {i l : Nat} {k : Nat} (x0 : k ≠ 35 + 13 * l) (x1 : k ≠ 23) (x2 : k ≠ 1042 + 12 * i) (x3 : k ≠ 1043 + 12 * i) : g_oclaim r i l k = r k := by
  unfold g_oclaim
  rw [g_up_n _ _ x3, g_up_n _ _ x2, g_up_n _ _ x1, g_up_n _ _ x0]
theorem g_oclaim_VM {r : Nat → Int} {i l : Nat} {b : Int} (h : g_VM r 0 b) (hi : (i : Int) < r 1) (ho : r (1043 + 12 * i) = 2) (hl : l < 5) : g_VM (g_oclaim r i l) 0 b := by
  have hm := h.1.many
  have hl5 := h.1.lands
  have hA := h.2.1 i hi
  rw [if_neg (Nat.not_lt_zero _)] at hA
  have f_kind := hA.kind
  have f_addr := hA.addr
  have f_birth := hA.birth
  have f_cents := hA.cents
  have f_state := hA.state
  have f_age := hA.age
  have f_since := hA.since
  have f_wrote := hA.wrote
  have f_holder := hA.holder
  have f_lat := hA.lat
  have f_nl := hA.nl
  have f_hat := hA.hat
  have e1042 : (g_oclaim r i l) (1042 + 12 * i) = 0 := by
    unfold g_oclaim
    rw [g_up_n _ _ (by omega), g_up_s]
  have e1043 : (g_oclaim r i l) (1043 + 12 * i) = 3 := by
    unfold g_oclaim
    rw [g_up_s]
  have n : ∀ k, k ≠ 35 + 13 * l → k ≠ 23 → k ≠ 1042 + 12 * i → k ≠ 1043 + 12 * i → (g_oclaim r i l) k = r k := fun k x0 x1 x2 x3 => g_oclaim_n x0 x1 x2 x3
  refine h.acc hi (fun k x y => n k (by unfold g_rc at y; omega) (by unfold g_rc at y; omega) (by unfold g_rc at y; omega) (by unfold g_rc at y; omega)) ?_ ?_
  · unfold g_VA
    rw [n 0 (by omega) (by omega) (by omega) (by omega), n (1039 + 12 * i) (by omega) (by omega) (by omega) (by omega), n (1040 + 12 * i) (by omega) (by omega) (by omega) (by omega), n (1041 + 12 * i) (by omega) (by omega) (by omega) (by omega), e1042, e1043, n (1044 + 12 * i) (by omega) (by omega) (by omega) (by omega), n (1045 + 12 * i) (by omega) (by omega) (by omega) (by omega), n (1046 + 12 * i) (by omega) (by omega) (by omega) (by omega), n (1047 + 12 * i) (by omega) (by omega) (by omega) (by omega), n (1048 + 12 * i) (by omega) (by omega) (by omega) (by omega), n (1049 + 12 * i) (by omega) (by omega) (by omega) (by omega), n (1050 + 12 * i) (by omega) (by omega) (by omega) (by omega)]
    exact ⟨f_kind, f_addr, f_birth, by omega, by omega, f_age, f_since, f_wrote, f_holder, f_lat, f_nl, f_hat, fun q => by omega⟩
  · rw [e1043]; omega
theorem g_oclaim_RW {r : Nat → Int} {i l : Nat} (h : g_RW r) (hi : i < 12) (hl : l < 5) : g_RW (g_oclaim r i l) := h.ext (g_oclaim_n (by omega) (by omega) (by omega) (by omega)) (fun k hk => g_oclaim_n (by omega) (by omega) (by omega) (by omega))
theorem g_oclaim_Z {r : Nat → Int} {i l : Nat} (h : g_Zr r) (hi : i < 12) (hl : l < 5) : g_Zr (g_oclaim r i l) := (((h.up (by omega)).up (by omega)).up (by omega)).up (by omega)
theorem g_opass_n {r : Nat → Int} {i l : Nat} {k : Nat} (x0 : k ≠ 1047 + 12 * i) (x1 : k ≠ 36 + 13 * l) : g_opass r i l k = r k := by
  unfold g_opass
  rw [g_up_n _ _ x1, g_up_n _ _ x0]
theorem g_opass_VM {r : Nat → Int} {i l : Nat} {b : Int} (h : g_VM r 0 b) (hi : (i : Int) < r 1) (ho : r (1043 + 12 * i) = 2) (hl : (l : Int) < r 0) : g_VM (g_opass r i l) 0 b := by
  have hm := h.1.many
  have hl5 := h.1.lands
  have hA := h.2.1 i hi
  rw [if_neg (Nat.not_lt_zero _)] at hA
  have f_kind := hA.kind
  have f_addr := hA.addr
  have f_birth := hA.birth
  have f_cents := hA.cents
  have f_state := hA.state
  have f_age := hA.age
  have f_since := hA.since
  have f_wrote := hA.wrote
  have f_holder := hA.holder
  have f_lat := hA.lat
  have f_nl := hA.nl
  have f_hat := hA.hat
  have e1047 : (g_opass r i l) (1047 + 12 * i) = (l : Int) := by
    unfold g_opass
    rw [g_up_n _ _ (by omega), g_up_s]
  have n : ∀ k, k ≠ 1047 + 12 * i → k ≠ 36 + 13 * l → (g_opass r i l) k = r k := fun k x0 x1 => g_opass_n x0 x1
  refine h.acc hi (fun k x y => n k (by unfold g_rc at y; omega) (by unfold g_rc at y; omega)) ?_ ?_
  · unfold g_VA
    rw [n 0 (by omega) (by omega), n (1039 + 12 * i) (by omega) (by omega), n (1040 + 12 * i) (by omega) (by omega), n (1041 + 12 * i) (by omega) (by omega), n (1042 + 12 * i) (by omega) (by omega), n (1043 + 12 * i) (by omega) (by omega), n (1044 + 12 * i) (by omega) (by omega), n (1045 + 12 * i) (by omega) (by omega), n (1046 + 12 * i) (by omega) (by omega), e1047, n (1048 + 12 * i) (by omega) (by omega), n (1049 + 12 * i) (by omega) (by omega), n (1050 + 12 * i) (by omega) (by omega)]
    exact ⟨f_kind, f_addr, f_birth, f_cents, f_state, f_age, f_since, f_wrote, by omega, f_lat, f_nl, f_hat, fun q => by omega⟩
  · rw [n (1043 + 12 * i) (by omega) (by omega)]
theorem g_opass_RW {r : Nat → Int} {i l : Nat} (h : g_RW r) (hi : i < 12) (hl : l < 5) : g_RW (g_opass r i l) := h.ext (g_opass_n (by omega) (by omega)) (fun k hk => g_opass_n (by omega) (by omega))
theorem g_opass_Z {r : Nat → Int} {i l : Nat} (h : g_Zr r) (hi : i < 12) (hl : l < 5) : g_Zr (g_opass r i l) := (h.up (by omega)).up (by omega)
