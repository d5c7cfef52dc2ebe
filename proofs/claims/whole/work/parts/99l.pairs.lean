/-! each call of the law: class and reference answer alike -/
theorem q_hasRoom {s : State} {pl : Platform} {r r' : Room} (hf : r.frames ≤ r'.frames) (hl : r.locals ≤ r'.locals) (hc : r.cells ≤ r'.cells) (hs : r.slots ≤ r'.slots) (h : s.hasRoom pl r' = true) : s.hasRoom pl r = true := by
  simp only [State.hasRoom, Bool.and_eq_true, decide_eq_true_eq] at h ⊢
  obtain ⟨⟨⟨⟨y, a, b, c, d, e⟩, f⟩, g⟩, i⟩ := h
  exact ⟨⟨⟨⟨by omega, by omega, by omega, by omega, by omega, e⟩, by omega⟩, by omega⟩, i⟩
/-- with more room -/
theorem qC.wide {G : q_G} {h h' mc mc' ms ms' : Nat} {Y : q_Y} {av : List Value} {sz : Nat} {T : q_T} {I L : q_I} {P : q_P} {Q : q_Q} (hh : h ≤ h') (hc : mc ≤ mc') (hs : ms ≤ ms') (k : qC G h mc ms Y av sz T I L P Q) : qC G h' mc' ms' Y av sz T I L P Q := by
  intro p e ha hcs hk s m args below hfr happ hP hK
  obtain ⟨a1, a2, a3, a4, a5, a6, a7, a8⟩ := (Spec.appliesLoose_iff hfr).mp happ
  obtain ⟨n, o, h1, h2, h3, h4⟩ := k p e ha hcs hk s m args below hfr ((Spec.appliesLoose_iff hfr).mpr ⟨a1, a2, a3, a4, a5, a6, q_hasRoom (r := q_rm h mc ms) (r' := q_rm h' mc' ms') (show h + 12 ≤ h' + 12 by omega) (show 260 + 60 * h ≤ 260 + 60 * h' by omega) hc hs a7, a8⟩) hP hK
  refine ⟨n, o, h1, h2, h3, ?_⟩
  rcases h4 with ⟨x, L9, hf, hq⟩ | ⟨q, hq, E, ce, L9, b1, b2, b3, b4, b5, b6, b7⟩
  · exact Or.inl ⟨x, L9, ⟨hf.1, hf.2.1, hf.2.2.mono hc hs⟩, hq⟩
  · exact Or.inr ⟨q, hq, E, ce, L9, b1, b2, b3, b4, b5, b6.mono hc hs, b7⟩
theorem q_LQ.er {es : List String} {o : Nat} {lg : Bool} {T : q_T} {Q : q_Q} {E : String} {sz : Nat} {I L : q_I} {P : q_P} (n : Nat) (hn : es[n]? = some E) (h : Q (.inl (some (qI ((n + 1 : Nat) : Int)))) sz T I L P) : q_LQ es o lg T Q (.inr E) sz T I L P := And.intro rfl (Exists.intro n (And.intro hn h))
theorem q_LQ.ok {es : List String} {o : Nat} {T : q_T} {Q : q_Q} {sz : Nat} {I L : q_I} {P : q_P} {z : Int} (h : Q (.inl (some (qI 0))) sz T I (u2 L o 0 (q_w32 z)) P) : q_LQ es o false T Q (.inl (some (qI z))) sz T I L P := And.intro rfl (Exists.intro z (And.intro rfl h))
theorem q_LQ.okl {es : List String} {o : Nat} {T : q_T} {Q : q_Q} {sz : Nat} {I L : q_I} {P : q_P} {z : Int} (h : Q (.inl (some (qI 0))) sz T I (u2 L o 0 z) P) : q_LQ es o true T Q (.inl (some (qL z))) sz T I L P := And.intro rfl (Exists.intro z (And.intro rfl h))
/-- a call of the law: the class's answer is laid down, then the reference, asked the same, answers alike -/
abbrev q_PR (G : q_G) (b m o : Nat) (T : q_T) (mk : Int → Value) (cv : Int → Int) (YL : q_Y) (hL : Nat) (aL : List Value) (YR : q_Y) (hR : Nat) (aR : List Value) (sz : Nat) (I L : q_I) (P : q_P) : Prop :=
  ∀ Q' : q_Q, (∀ (k : Int) (sz' : Nat) (I1 L1 : q_I) (P1 : q_P), sz ≤ sz' → (0 ≤ k ∧ k ≤ 3) →
    (∀ Q2 : q_Q, (∀ (bv : Int) (I2 L2 : q_I), q_GE T b m I2 L2 P1 → I2 m 0 = k → (k = 0 → L2 o 0 = cv bv) → Q2 (.inl (some (mk bv))) sz' T I2 L2 P1) → qC G hR 0 0 YR aR sz' T I1 L1 P1 Q2) →
    Q' (.inl (some (qI k))) sz' T I1 L1 P1) → qC G hL 1 6 YL aL sz T I L P Q'
/-- a call of both that is compared at once -/
abbrev q_PD (G : q_G) (b m : Nat) (T : q_T) (mk : Int → Value) (YL : q_Y) (hL : Nat) (aL : List Value) (YR : q_Y) (hR : Nat) (aR : List Value) (sz : Nat) (I L : q_I) (P : q_P) : Prop :=
  ∀ Q' : q_Q, (∀ (bv : Int) (I1 L1 : q_I) (P1 : q_P), (∀ Q2 : q_Q, (∀ I2 L2 : q_I, q_GE T b m I2 L2 P1 → Q2 (.inl (some (mk bv))) sz T I2 L2 P1) → qC G hR 0 0 YR aR sz T I1 L1 P1 Q2) → Q' (.inl (some (mk bv))) sz T I1 L1 P1) → qC G hL 0 0 YL aL sz T I L P Q'
theorem q_RO.of {r : Nat → Int} {b : Int} (h : g_VM r 0 b) (h2 : r 2 = b) (h3 : g_RW r) (h4 : g_Zr r) (h5 : g_SL r) : q_RO r := ⟨by subst h2; exact h, h3, h4, h5⟩
theorem q_RO.months {r : Nat → Int} (h : q_RO r) (n : Nat) : q_RO (g_months n r).2 := ⟨(g_months_z n h.2.2.1 h.1).2, g_months_rw n h.2.1 h.2.2.1 h.1, (g_months_z n h.2.2.1 h.1).1, g_months_SL n h.2.2.2 h.2.2.1 h.1⟩
/-- what stands fast through the law -/
def q_FX (G : q_G) (T : q_T) (b m o : Nat) : Prop := q_A G b ∧ b + 452 ≤ m ∧ m + 18 ≤ o ∧ T o = some (.inr (1, 1))
theorem q_out_rm {N L1 L2 : q_I} {m o bk : Nat} {z : Int} (h : g_Rm (u2 N o 0 z) L1 m bk) (ho : m + 18 ≤ o) (h2 : ∀ q k, q ≠ m + 3 → q ≠ m + 15 → L2 q k = L1 q k) : L2 o 0 = z := by
  rw [h2 _ _ (by omega) (by omega), h.1 _ _ (Or.inr (by omega)), u2_s]
theorem mX8_openR {G : q_G} {sz : Nat} {T : q_T} {I L : q_I} {P : q_P} {Q : q_Q} {m : Nat} {kd : Int} {ad : Int} {bi : Int} {ce : Int} {i bk : Nat} {r : Nat → Int} (e3 : L (m + 3) = r) (hS : q_SM T P m) (hSA : q_A G m) (hv : g_V0 (r)) (hmn : r 1 = (i : Int)) (h1 : -2147483648 ≤ kd ∧ kd < 2147483648) (h2 : -2147483648 ≤ ad ∧ ad < 2147483648) (h3 : -2147483648 ≤ bi ∧ bi < 2147483648) (h4 : -2147483648 ≤ ce ∧ ce < 2147483648) (hb : I m 13 = (bk : Int)) (hbk : bk ≤ 8) (hz : q_Z0 L m) (k1 : ¬ ((ad = -1 ∨ 0 ≤ ad ∧ ad < r 0) ∧ (bi = -1 ∨ 0 ≤ bi ∧ bi < r 0)) → Q (.inl (some (qI 0))) sz T (u2 (u2 (u2 I m 0 0) m 0 1) (m + 1) 0 ((I (m + 1) 0) + 1)) L P) (k2 : ((ad = -1 ∨ 0 ≤ ad ∧ ad < r 0) ∧ (bi = -1 ∨ 0 ≤ bi ∧ bi < r 0)) → ¬ ((0 ≤ kd ∧ kd ≤ 4) ∧ 0 ≤ ce ∧ ce ≤ 100000000) → Q (.inl (some (qI 0))) sz T (u2 (u2 (u2 I m 0 0) m 0 2) (m + 1) 1 ((I (m + 1) 1) + 1)) L P) (k3 : ((ad = -1 ∨ 0 ≤ ad ∧ ad < r 0) ∧ (bi = -1 ∨ 0 ≤ bi ∧ bi < r 0)) → ((0 ≤ kd ∧ kd ≤ 4) ∧ 0 ≤ ce ∧ ce ≤ 100000000) → i = 12 → Q (.inl (some (qI 0))) sz T (u2 (u2 (u2 I m 0 0) m 0 3) (m + 1) 2 ((I (m + 1) 2) + 1)) L P) (k0 : ∀ L', ((ad = -1 ∨ 0 ≤ ad ∧ ad < r 0) ∧ (bi = -1 ∨ 0 ≤ bi ∧ bi < r 0)) → ((0 ≤ kd ∧ kd ≤ 4) ∧ 0 ≤ ce ∧ ce ≤ 100000000) → i < 12 → g_Rm L L' m bk → Q (.inl (some (qI ((i : Int))))) sz T (u2 (u2 I m 0 0) m 13 (g_nb bk : Int)) (q_row L' (m + 3) (g_oopen (r) i kd ad bi ce)) P) : qC G 4 0 0 YX8_open [.ref m, qI kd, qI ad, qI bi, qI ce] sz T I L P Q := by
  subst e3
  exact mX8_open hS hSA hv hmn h1 h2 h3 h4 hb hbk hz k1 k2 k3 k0
theorem mX8_contact0R {G : q_G} {sz : Nat} {T : q_T} {I L : q_I} {P : q_P} {Q : q_Q} {m : Nat} {a : Int} {r : Nat → Int} (e3 : L (m + 3) = r) (hS : q_SM T P m) (hSA : q_A G m) (hv : g_V0 (r)) (ha : -2147483648 ≤ a ∧ a < 2147483648) (hn : ¬ (0 ≤ a ∧ a ≤ r 1 - 1)) (k1 : Q (.inl (some (qI 0))) sz T (u2 (u2 (u2 I m 0 0) m 0 1) (m + 1) 0 ((I (m + 1) 0) + 1)) L P) : qC G 4 0 0 YX8_contact [.ref m, qI a] sz T I L P Q := by
  subst e3
  exact mX8_contact0 hS hSA hv ha hn k1
theorem mX8_contactR {G : q_G} {sz : Nat} {T : q_T} {I L : q_I} {P : q_P} {Q : q_Q} {m : Nat} {i bk : Nat} {bd : Int} {r : Nat → Int} (e3 : L (m + 3) = r) (hS : q_SM T P m) (hSA : q_A G m) (hv : g_V0 (r)) (hy : (i : Int) < r 1) (hva : g_VA (r) i bd) (hb : I m 13 = (bk : Int)) (hbk : bk ≤ 8) (hz : q_Z0 L m) (k2 : ¬ (r (1043 + 12 * i) = 0 ∨ r (1043 + 12 * i) = 1) → Q (.inl (some (qI 0))) sz T (u2 (u2 (u2 I m 0 0) m 0 2) (m + 1) 2 ((I (m + 1) 2) + 1)) L P) (k0 : ∀ L', (r (1043 + 12 * i) = 0 ∨ r (1043 + 12 * i) = 1) → g_Rm L L' m bk → Q (.inl (some (qI (r (1045 + 12 * i))))) sz T (u2 (u2 I m 0 0) m 13 (g_nb bk : Int)) (q_row L' (m + 3) (g_ocontact (r) i)) P) : qC G 4 0 0 YX8_contact [.ref m, qI (i : Int)] sz T I L P Q := by
  subst e3
  exact mX8_contact hS hSA hv hy hva hb hbk hz k2 k0
theorem mX8_deposit0R {G : q_G} {sz : Nat} {T : q_T} {I L : q_I} {P : q_P} {Q : q_Q} {m : Nat} {a : Int} {c : Int} {r : Nat → Int} (e3 : L (m + 3) = r) (hS : q_SM T P m) (hSA : q_A G m) (hv : g_V0 (r)) (ha : -2147483648 ≤ a ∧ a < 2147483648) (hn : ¬ (0 ≤ a ∧ a ≤ r 1 - 1)) (k1 : Q (.inl (some (qI 0))) sz T (u2 (u2 (u2 I m 0 0) m 0 1) (m + 1) 0 ((I (m + 1) 0) + 1)) L P) : qC G 4 0 0 YX8_deposit [.ref m, qI a, qI c] sz T I L P Q := by
  subst e3
  exact mX8_deposit0 hS hSA hv ha hn k1
theorem mX8_depositR {G : q_G} {sz : Nat} {T : q_T} {I L : q_I} {P : q_P} {Q : q_Q} {m : Nat} {c : Int} {i bk : Nat} {bd : Int} {r : Nat → Int} (e3 : L (m + 3) = r) (hS : q_SM T P m) (hSA : q_A G m) (hv : g_V0 (r)) (hy : (i : Int) < r 1) (hva : g_VA (r) i bd) (hc : -2147483648 ≤ c ∧ c < 2147483648) (hb : I m 13 = (bk : Int)) (hbk : bk ≤ 8) (hz : q_Z0 L m) (k2 : ¬ (1 ≤ c ∧ c ≤ 1000000) → Q (.inl (some (qI 0))) sz T (u2 (u2 (u2 I m 0 0) m 0 2) (m + 1) 1 ((I (m + 1) 1) + 1)) L P) (k3 : (1 ≤ c ∧ c ≤ 1000000) → ¬ ((r (1043 + 12 * i) = 0 ∨ r (1043 + 12 * i) = 1) ∧ r (1042 + 12 * i) + c ≤ 100000000) → Q (.inl (some (qI 0))) sz T (u2 (u2 (u2 I m 0 0) m 0 3) (m + 1) 2 ((I (m + 1) 2) + 1)) L P) (k0 : ∀ L', (1 ≤ c ∧ c ≤ 1000000) → (r (1043 + 12 * i) = 0 ∨ r (1043 + 12 * i) = 1) ∧ r (1042 + 12 * i) + c ≤ 100000000 → g_Rm L L' m bk → Q (.inl (some (qI ((r (1042 + 12 * i)) + c)))) sz T (u2 (u2 I m 0 0) m 13 (g_nb bk : Int)) (q_row L' (m + 3) (g_odeposit (r) i c)) P) : qC G 4 0 0 YX8_deposit [.ref m, qI (i : Int), qI c] sz T I L P Q := by
  subst e3
  exact mX8_deposit hS hSA hv hy hva hc hb hbk hz k2 k3 k0
theorem mX8_draw0R {G : q_G} {sz : Nat} {T : q_T} {I L : q_I} {P : q_P} {Q : q_Q} {m : Nat} {a : Int} {c : Int} {r : Nat → Int} (e3 : L (m + 3) = r) (hS : q_SM T P m) (hSA : q_A G m) (hv : g_V0 (r)) (ha : -2147483648 ≤ a ∧ a < 2147483648) (hn : ¬ (0 ≤ a ∧ a ≤ r 1 - 1)) (k1 : Q (.inl (some (qI 0))) sz T (u2 (u2 (u2 I m 0 0) m 0 1) (m + 1) 0 ((I (m + 1) 0) + 1)) L P) : qC G 4 0 0 YX8_draw [.ref m, qI a, qI c] sz T I L P Q := by
  subst e3
  exact mX8_draw0 hS hSA hv ha hn k1
theorem mX8_drawR {G : q_G} {sz : Nat} {T : q_T} {I L : q_I} {P : q_P} {Q : q_Q} {m : Nat} {c : Int} {i bk : Nat} {bd : Int} {r : Nat → Int} (e3 : L (m + 3) = r) (hS : q_SM T P m) (hSA : q_A G m) (hv : g_V0 (r)) (hy : (i : Int) < r 1) (hva : g_VA (r) i bd) (hc : -2147483648 ≤ c ∧ c < 2147483648) (hb : I m 13 = (bk : Int)) (hbk : bk ≤ 8) (hz : q_Z0 L m) (k2 : ¬ (1 ≤ c ∧ c ≤ 1000000) → Q (.inl (some (qI 0))) sz T (u2 (u2 (u2 I m 0 0) m 0 2) (m + 1) 1 ((I (m + 1) 1) + 1)) L P) (k3 : (1 ≤ c ∧ c ≤ 1000000) → ¬ ((r (1043 + 12 * i) = 0 ∨ r (1043 + 12 * i) = 1) ∧ c ≤ r (1042 + 12 * i)) → Q (.inl (some (qI 0))) sz T (u2 (u2 (u2 I m 0 0) m 0 3) (m + 1) 2 ((I (m + 1) 2) + 1)) L P) (k0 : ∀ L', (1 ≤ c ∧ c ≤ 1000000) → (r (1043 + 12 * i) = 0 ∨ r (1043 + 12 * i) = 1) ∧ c ≤ r (1042 + 12 * i) → g_Rm L L' m bk → Q (.inl (some (qI ((r (1042 + 12 * i)) + (-c))))) sz T (u2 (u2 I m 0 0) m 13 (g_nb bk : Int)) (q_row L' (m + 3) (g_odraw (r) i c)) P) : qC G 4 0 0 YX8_draw [.ref m, qI (i : Int), qI c] sz T I L P Q := by
  subst e3
  exact mX8_draw hS hSA hv hy hva hc hb hbk hz k2 k3 k0
theorem mX8_address0R {G : q_G} {sz : Nat} {T : q_T} {I L : q_I} {P : q_P} {Q : q_Q} {m : Nat} {a : Int} {l : Int} {r : Nat → Int} (e3 : L (m + 3) = r) (hS : q_SM T P m) (hSA : q_A G m) (hv : g_V0 (r)) (ha : -2147483648 ≤ a ∧ a < 2147483648) (hn : ¬ (0 ≤ a ∧ a ≤ r 1 - 1)) (k1 : Q (.inl (some (qI 0))) sz T (u2 (u2 (u2 I m 0 0) m 0 1) (m + 1) 0 ((I (m + 1) 0) + 1)) L P) : qC G 3 0 0 YX8_address [.ref m, qI a, qI l] sz T I L P Q := by
  subst e3
  exact mX8_address0 hS hSA hv ha hn k1
theorem mX8_addressR {G : q_G} {sz : Nat} {T : q_T} {I L : q_I} {P : q_P} {Q : q_Q} {m : Nat} {l : Int} {i bk : Nat} {bd : Int} {r : Nat → Int} (e3 : L (m + 3) = r) (hS : q_SM T P m) (hSA : q_A G m) (hv : g_V0 (r)) (hy : (i : Int) < r 1) (hva : g_VA (r) i bd) (hl : -2147483648 ≤ l ∧ l < 2147483648) (hb : I m 13 = (bk : Int)) (hbk : bk ≤ 8) (hz : q_Z0 L m) (k1 : ¬ (l = -1 ∨ 0 ≤ l ∧ l < r 0) → Q (.inl (some (qI 0))) sz T (u2 (u2 (u2 I m 0 0) m 0 1) (m + 1) 0 ((I (m + 1) 0) + 1)) L P) (k0 : ∀ L', (l = -1 ∨ 0 ≤ l ∧ l < r 0) → g_Rm L L' m bk → Q (.inl (some (qI (r (1040 + 12 * i))))) sz T (u2 (u2 I m 0 0) m 13 (g_nb bk : Int)) (q_row L' (m + 3) (g_oaddress (r) i l)) P) : qC G 3 0 0 YX8_address [.ref m, qI (i : Int), qI l] sz T I L P Q := by
  subst e3
  exact mX8_address hS hSA hv hy hva hl hb hbk hz k1 k0
theorem mX8_close0R {G : q_G} {sz : Nat} {T : q_T} {I L : q_I} {P : q_P} {Q : q_Q} {m : Nat} {a : Int} {r : Nat → Int} (e3 : L (m + 3) = r) (hS : q_SM T P m) (hSA : q_A G m) (hv : g_V0 (r)) (ha : -2147483648 ≤ a ∧ a < 2147483648) (hn : ¬ (0 ≤ a ∧ a ≤ r 1 - 1)) (k1 : Q (.inl (some (qI 0))) sz T (u2 (u2 (u2 I m 0 0) m 0 1) (m + 1) 0 ((I (m + 1) 0) + 1)) L P) : qC G 4 0 0 YX8_close [.ref m, qI a] sz T I L P Q := by
  subst e3
  exact mX8_close0 hS hSA hv ha hn k1
theorem mX8_closeR {G : q_G} {sz : Nat} {T : q_T} {I L : q_I} {P : q_P} {Q : q_Q} {m : Nat} {i bk : Nat} {bd : Int} {r : Nat → Int} (e3 : L (m + 3) = r) (hS : q_SM T P m) (hSA : q_A G m) (hv : g_V0 (r)) (hy : (i : Int) < r 1) (hva : g_VA (r) i bd) (hb : I m 13 = (bk : Int)) (hbk : bk ≤ 8) (hz : q_Z0 L m) (k2 : ¬ (r (1043 + 12 * i) = 0 ∨ r (1043 + 12 * i) = 1) → Q (.inl (some (qI 0))) sz T (u2 (u2 (u2 I m 0 0) m 0 2) (m + 1) 2 ((I (m + 1) 2) + 1)) L P) (k0 : ∀ L', (r (1043 + 12 * i) = 0 ∨ r (1043 + 12 * i) = 1) → g_Rm L L' m bk → Q (.inl (some (qI (r (1042 + 12 * i))))) sz T (u2 (u2 I m 0 0) m 13 (g_nb bk : Int)) (q_row L' (m + 3) (g_oclose (r) i)) P) : qC G 4 0 0 YX8_close [.ref m, qI (i : Int)] sz T I L P Q := by
  subst e3
  exact mX8_close hS hSA hv hy hva hb hbk hz k2 k0
theorem mX8_months0R {G : q_G} {sz : Nat} {T : q_T} {I L : q_I} {P : q_P} {Q : q_Q} {m : Nat} {n : Int} {r : Nat → Int} (e3 : L (m + 3) = r) (hS : q_SM T P m) (hSA : q_A G m) (hv : g_V0 (r)) (hn : -2147483648 ≤ n ∧ n < 2147483648) (hx : ¬ (1 ≤ n ∧ n ≤ 120)) (k1 : Q (.inl (some (qI 0))) sz T (u2 (u2 (u2 I m 0 0) m 0 1) (m + 1) 1 ((I (m + 1) 1) + 1)) L P) : qC G 6 0 0 YX8_months [.ref m, qI n] sz T I L P Q := by
  subst e3
  exact mX8_months0 hS hSA hv hn hx k1
theorem mX8_monthsR {G : q_G} {sz : Nat} {T : q_T} {I L : q_I} {P : q_P} {Q : q_Q} {m : Nat} {n bk : Nat} {r : Nat → Int} (e3 : L (m + 3) = r) (hS : q_SM T P m) (hSA : q_A G m) (hv : g_V0 (r)) (hn : 1 ≤ n ∧ n ≤ 120) (hVR : g_VR (r)) (hb : I m 13 = (bk : Int)) (hbk : bk ≤ 8) (hz : q_Z0 L m) (k2 : ¬ (r 2 + n ≤ 6000) → Q (.inl (some (qI 0))) sz T (u2 (u2 (u2 I m 0 0) m 0 2) (m + 1) 2 ((I (m + 1) 2) + 1)) L P) (k0 : ∀ L1 L', r 2 + n ≤ 6000 → g_Rm L L1 m bk → (∀ q k, q ≠ m + 3 → q ≠ m + 15 → L' q k = L1 q k) → L' (m + 3) = (g_months n (r)).2 → Q (.inl (some (qI (g_months n (r)).1))) sz T (u2 (u2 I m 0 0) m 13 (g_nb bk : Int)) L' P) : qC G 6 0 0 YX8_months [.ref m, qI (n : Int)] sz T I L P Q := by
  subst e3
  exact mX8_months hS hSA hv hn hVR hb hbk hz k2 k0
theorem mX8_claim0R {G : q_G} {sz : Nat} {T : q_T} {I L : q_I} {P : q_P} {Q : q_Q} {m : Nat} {a : Int} {r : Nat → Int} (e3 : L (m + 3) = r) (hS : q_SM T P m) (hSA : q_A G m) (hv : g_V0 (r)) (ha : -2147483648 ≤ a ∧ a < 2147483648) (hn : ¬ (0 ≤ a ∧ a ≤ r 1 - 1)) (k1 : Q (.inl (some (qL 0))) sz T (u2 (u2 (u2 I m 0 0) m 0 1) (m + 1) 0 ((I (m + 1) 0) + 1)) L P) : qC G 4 0 0 YX8_claim [.ref m, qI a] sz T I L P Q := by
  subst e3
  exact mX8_claim0 hS hSA hv ha hn k1
theorem mX8_claimR {G : q_G} {sz : Nat} {T : q_T} {I L : q_I} {P : q_P} {Q : q_Q} {m : Nat} {i bk : Nat} {bd : Int} {r : Nat → Int} (e3 : L (m + 3) = r) (hS : q_SM T P m) (hSA : q_A G m) (hv : g_V0 (r)) (hy : (i : Int) < r 1) (hva : g_VA (r) i bd) (hbd : bd ≤ r 2) (hb : I m 13 = (bk : Int)) (hbk : bk ≤ 8) (hz : q_Z0 L m) (k2 : ¬ (r (1043 + 12 * i) = 2 ∧ r (1049 + 12 * i) = 0) → Q (.inl (some (qL 0))) sz T (u2 (u2 (u2 I m 0 0) m 0 2) (m + 1) 2 ((I (m + 1) 2) + 1)) L P) (k0 : ∀ L' (l : Nat), r (1047 + 12 * i) = (l : Int) → (l : Int) < r 0 → (r (1043 + 12 * i) = 2 ∧ r (1049 + 12 * i) = 0) → g_Rm L L' m bk → Q (.inl (some (qL ((r (1042 + 12 * i)) + (g_interest (r) i 0))))) sz T (u2 (u2 I m 0 0) m 13 (g_nb bk : Int)) (q_row L' (m + 3) (g_oclaim (r) i l)) P) : qC G 4 0 0 YX8_claim [.ref m, qI (i : Int)] sz T I L P Q := by
  subst e3
  exact mX8_claim hS hSA hv hy hva hbd hb hbk hz k2 k0
theorem mX8_pass0R {G : q_G} {sz : Nat} {T : q_T} {I L : q_I} {P : q_P} {Q : q_Q} {m : Nat} {a : Int} {r : Nat → Int} (e3 : L (m + 3) = r) (hS : q_SM T P m) (hSA : q_A G m) (hv : g_V0 (r)) (ha : -2147483648 ≤ a ∧ a < 2147483648) (hn : ¬ (0 ≤ a ∧ a ≤ r 1 - 1)) (k1 : Q (.inl (some (qI 0))) sz T (u2 (u2 (u2 I m 0 0) m 0 1) (m + 1) 0 ((I (m + 1) 0) + 1)) L P) : qC G 3 0 0 YX8_pass [.ref m, qI a] sz T I L P Q := by
  subst e3
  exact mX8_pass0 hS hSA hv ha hn k1
theorem mX8_passR {G : q_G} {sz : Nat} {T : q_T} {I L : q_I} {P : q_P} {Q : q_Q} {m : Nat} {i bk : Nat} {bd : Int} {r : Nat → Int} (e3 : L (m + 3) = r) (hS : q_SM T P m) (hSA : q_A G m) (hv : g_V0 (r)) (hy : (i : Int) < r 1) (hva : g_VA (r) i bd) (hbd : bd ≤ 7000) (hb : I m 13 = (bk : Int)) (hbk : bk ≤ 8) (hz : q_Z0 L m) (k2 : ¬ (r (1043 + 12 * i) = 2 ∧ g_bel (r) i ≠ -1 ∧ g_bel (r) i ≠ r (1047 + 12 * i)) → Q (.inl (some (qI 0))) sz T (u2 (u2 (u2 I m 0 0) m 0 2) (m + 1) 2 ((I (m + 1) 2) + 1)) L P) (k0 : ∀ L' (l : Nat), g_bel (r) i = (l : Int) → (r (1043 + 12 * i) = 2 ∧ g_bel (r) i ≠ -1 ∧ g_bel (r) i ≠ r (1047 + 12 * i)) → g_Rm L L' m bk → Q (.inl (some (qI (l : Int)))) sz T (u2 (u2 I m 0 0) m 13 (g_nb bk : Int)) (q_row L' (m + 3) (g_opass (r) i l)) P) : qC G 3 0 0 YX8_pass [.ref m, qI (i : Int)] sz T I L P Q := by
  subst e3
  exact mX8_pass hS hSA hv hy hva hbd hb hbk hz k2 k0
theorem mX8_told0R {G : q_G} {sz : Nat} {T : q_T} {I L : q_I} {P : q_P} {Q : q_Q} {m : Nat} {w : Int} {r : Nat → Int} (e3 : L (m + 3) = r) (hS : q_SM T P m) (hSA : q_A G m) (hv : g_V0 (r)) (hw : -2147483648 ≤ w ∧ w < 2147483648) (hn : ¬ (0 ≤ w ∧ w ≤ 9)) (k1 : Q (.inl (some (qI 0))) sz T (u2 (u2 (u2 I m 0 0) m 0 1) (m + 1) 1 ((I (m + 1) 1) + 1)) L P) : qC G 2 0 0 YX8_told [.ref m, qI w] sz T I L P Q := by
  subst e3
  exact mX8_told0 hS hSA hv hw hn k1
theorem mX8_toldR {G : q_G} {sz : Nat} {T : q_T} {I L : q_I} {P : q_P} {Q : q_Q} {m : Nat} {w : Nat} {r : Nat → Int} (e3 : L (m + 3) = r) (hS : q_SM T P m) (hSA : q_A G m) (hv : g_V0 (r)) (hw : w ≤ 9) (k0 : Q (.inl (some (qI (if w < 8 then r w else if w = 8 then I m 2 else I m 13)))) sz T (u2 I m 0 0) L P) : qC G 2 0 0 YX8_told [.ref m, qI (w : Int)] sz T I L P Q := by
  subst e3
  exact mX8_told hS hSA hv hw k0
theorem mX8_land00R {G : q_G} {sz : Nat} {T : q_T} {I L : q_I} {P : q_P} {Q : q_Q} {m : Nat} {l : Int} {w : Int} {r : Nat → Int} (e3 : L (m + 3) = r) (hS : q_SM T P m) (hSA : q_A G m) (hv : g_V0 (r)) (hl : -2147483648 ≤ l ∧ l < 2147483648) (hn : ¬ (0 ≤ l ∧ l ≤ r 0 - 1)) (k1 : Q (.inl (some (qI 0))) sz T (u2 (u2 (u2 I m 0 0) m 0 1) (m + 1) 0 ((I (m + 1) 0) + 1)) L P) : qC G 4 0 0 YX8_land [.ref m, qI l, qI w] sz T I L P Q := by
  subst e3
  exact mX8_land00 hS hSA hv hl hn k1
theorem mX8_land0R {G : q_G} {sz : Nat} {T : q_T} {I L : q_I} {P : q_P} {Q : q_Q} {m : Nat} {w : Int} {l : Nat} {r : Nat → Int} (e3 : L (m + 3) = r) (hS : q_SM T P m) (hSA : q_A G m) (hv : g_V0 (r)) (hly : (l : Int) < r 0) (hw : -2147483648 ≤ w ∧ w < 2147483648) (hn : ¬ (0 ≤ w ∧ w ≤ 5)) (k2 : Q (.inl (some (qI 0))) sz T (u2 (u2 (u2 I m 0 0) m 0 2) (m + 1) 1 ((I (m + 1) 1) + 1)) L P) : qC G 4 0 0 YX8_land [.ref m, qI (l : Int), qI w] sz T I L P Q := by
  subst e3
  exact mX8_land0 hS hSA hv hly hw hn k2
theorem mX8_landR {G : q_G} {sz : Nat} {T : q_T} {I L : q_I} {P : q_P} {Q : q_Q} {m : Nat} {l w : Nat} {r : Nat → Int} (e3 : L (m + 3) = r) (hS : q_SM T P m) (hSA : q_A G m) (hv : g_V0 (r)) (hly : (l : Int) < r 0) (hw : w < 4) (k0 : Q (.inl (some (qI (r (31 + 13 * l + w))))) sz T (u2 I m 0 0) L P) : qC G 4 0 0 YX8_land [.ref m, qI (l : Int), qI (w : Int)] sz T I L P Q := by
  subst e3
  exact mX8_land hS hSA hv hly hw k0
theorem mX8_land5R {G : q_G} {sz : Nat} {T : q_T} {I L : q_I} {P : q_P} {Q : q_Q} {m : Nat} {l mn : Nat} {bd : Int} {r : Nat → Int} (e3 : L (m + 3) = r) (hS : q_SM T P m) (hSA : q_A G m) (hv : g_V0 (r)) (hmn : r 1 = (mn : Int)) (hm12 : mn ≤ 12) (hvs : ∀ i : Nat, i < mn → g_VA (r) i bd) (hly : (l : Int) < r 0) (k0 : Q (.inl (some (qI (g_set (fun k => r (1043 + 12 * k) = 2 ∧ r (1047 + 12 * k) = (l : Int)) mn)))) sz T (u2 I m 0 0) L P) : qC G 4 0 0 YX8_land [.ref m, qI (l : Int), qI 5] sz T I L P Q := by
  subst e3
  exact mX8_land5 hS hSA hv hmn hm12 hvs hly k0
theorem mX8_land4R {G : q_G} {sz : Nat} {T : q_T} {I L : q_I} {P : q_P} {Q : q_Q} {m : Nat} {l : Nat} {r : Nat → Int} (e3 : L (m + 3) = r) (hS : q_SM T P m) (hSA : q_A G m) (hv : g_V0 (r)) (hly : (l : Int) < r 0) (k0 : Q (.inl (some (qI (g_set (fun k => 0 < r (90 + 2 * (5 * k + l))) 5)))) sz T (u2 I m 0 0) L P) : qC G 4 0 0 YX8_land [.ref m, qI (l : Int), qI 4] sz T I L P Q := by
  subst e3
  exact mX8_land4 hS hSA hv hly k0
theorem mX8_purse00R {G : q_G} {sz : Nat} {T : q_T} {I L : q_I} {P : q_P} {Q : q_Q} {m : Nat} {l : Int} {w : Int} {r : Nat → Int} (e3 : L (m + 3) = r) (hS : q_SM T P m) (hSA : q_A G m) (hv : g_V0 (r)) (hl : -2147483648 ≤ l ∧ l < 2147483648) (hn : ¬ (0 ≤ l ∧ l ≤ r 0 - 1)) (k1 : Q (.inl (some (qL 0))) sz T (u2 (u2 (u2 I m 0 0) m 0 1) (m + 1) 0 ((I (m + 1) 0) + 1)) L P) : qC G 4 0 0 YX8_purse [.ref m, qI l, qI w] sz T I L P Q := by
  subst e3
  exact mX8_purse00 hS hSA hv hl hn k1
theorem mX8_purse0R {G : q_G} {sz : Nat} {T : q_T} {I L : q_I} {P : q_P} {Q : q_Q} {m : Nat} {w : Int} {l : Nat} {r : Nat → Int} (e3 : L (m + 3) = r) (hS : q_SM T P m) (hSA : q_A G m) (hv : g_V0 (r)) (hly : (l : Int) < r 0) (hw : -2147483648 ≤ w ∧ w < 2147483648) (hn : ¬ (0 ≤ w ∧ w ≤ 3)) (k2 : Q (.inl (some (qL 0))) sz T (u2 (u2 (u2 I m 0 0) m 0 2) (m + 1) 1 ((I (m + 1) 1) + 1)) L P) : qC G 4 0 0 YX8_purse [.ref m, qI (l : Int), qI w] sz T I L P Q := by
  subst e3
  exact mX8_purse0 hS hSA hv hly hw hn k2
theorem mX8_purse1R {G : q_G} {sz : Nat} {T : q_T} {I L : q_I} {P : q_P} {Q : q_Q} {m : Nat} {l : Nat} {r : Nat → Int} (e3 : L (m + 3) = r) (hS : q_SM T P m) (hSA : q_A G m) (hv : g_V0 (r)) (hly : (l : Int) < r 0) (k0 : Q (.inl (some (qL (r (35 + 13 * l))))) sz T (u2 I m 0 0) L P) : qC G 4 0 0 YX8_purse [.ref m, qI (l : Int), qI 1] sz T I L P Q := by
  subst e3
  exact mX8_purse1 hS hSA hv hly k0
theorem mX8_purse3R {G : q_G} {sz : Nat} {T : q_T} {I L : q_I} {P : q_P} {Q : q_Q} {m : Nat} {l : Nat} {r : Nat → Int} (e3 : L (m + 3) = r) (hS : q_SM T P m) (hSA : q_A G m) (hv : g_V0 (r)) (hly : (l : Int) < r 0) (k0 : Q (.inl (some (qL (r (36 + 13 * l))))) sz T (u2 I m 0 0) L P) : qC G 4 0 0 YX8_purse [.ref m, qI (l : Int), qI 3] sz T I L P Q := by
  subst e3
  exact mX8_purse3 hS hSA hv hly k0
theorem mX8_purse_0R {G : q_G} {sz : Nat} {T : q_T} {I L : q_I} {P : q_P} {Q : q_Q} {m : Nat} {l mn : Nat} {bd : Int} {r : Nat → Int} (e3 : L (m + 3) = r) (hS : q_SM T P m) (hSA : q_A G m) (hv : g_V0 (r)) (hmn : r 1 = (mn : Int)) (hm12 : mn ≤ 12) (hvs : ∀ i : Nat, i < mn → g_VA (r) i bd) (hly : (l : Int) < r 0) (k0 : Q (.inl (some (qL (g_sum (g_heldC (r) (l : Int)) mn)))) sz T (u2 I m 0 0) L P) : qC G 4 0 0 YX8_purse [.ref m, qI (l : Int), qI 0] sz T I L P Q := by
  subst e3
  exact mX8_purse_0 hS hSA hv hmn hm12 hvs hly k0
theorem mX8_purse2R {G : q_G} {sz : Nat} {T : q_T} {I L : q_I} {P : q_P} {Q : q_Q} {m : Nat} {l rn : Nat} {r : Nat → Int} (e3 : L (m + 3) = r) (hS : q_SM T P m) (hSA : q_A G m) (hv : g_V0 (r)) (hly : (l : Int) < r 0) (hrw : r 6 = (rn : Int)) (hr12 : rn ≤ 12) (hrr : ∀ k : Nat, k < rn → 0 ≤ r (1185 + 5 * k) ∧ r (1185 + 5 * k) ≤ 4) (k0 : Q (.inl (some (qL (g_sum (g_rowC (r) (l : Int)) rn)))) sz T (u2 I m 0 0) L P) : qC G 4 0 0 YX8_purse [.ref m, qI (l : Int), qI 2] sz T I L P Q := by
  subst e3
  exact mX8_purse2 hS hSA hv hly hrw hr12 hrr k0
theorem mX8_letter0R {G : q_G} {sz : Nat} {T : q_T} {I L : q_I} {P : q_P} {Q : q_Q} {m : Nat} {l : Int} {i : Int} {r : Nat → Int} (e3 : L (m + 3) = r) (hS : q_SM T P m) (hSA : q_A G m) (hv : g_V0 (r)) (hl : -2147483648 ≤ l ∧ l < 2147483648) (hn : ¬ (0 ≤ l ∧ l ≤ r 0 - 1)) (k1 : Q (.inl (some (qI 0))) sz T (u2 (u2 (u2 I m 0 0) m 0 1) (m + 1) 0 ((I (m + 1) 0) + 1)) L P) : qC G 2 0 0 YX8_letter [.ref m, qI l, qI i] sz T I L P Q := by
  subst e3
  exact mX8_letter0 hS hSA hv hl hn k1
theorem mX8_letterR {G : q_G} {sz : Nat} {T : q_T} {I L : q_I} {P : q_P} {Q : q_Q} {m : Nat} {i : Int} {l : Nat} {r : Nat → Int} (e3 : L (m + 3) = r) (hS : q_SM T P m) (hSA : q_A G m) (hv : g_V0 (r)) (hly : (l : Int) < r 0) (hi : -2147483648 ≤ i ∧ i < 2147483648) (k1 : ¬ (0 ≤ i ∧ i < r (30 + 13 * l)) → Q (.inl (some (qI 0))) sz T (u2 (u2 (u2 I m 0 0) m 0 1) (m + 1) 0 ((I (m + 1) 0) + 1)) L P) (k0 : 0 ≤ i ∧ i < r (30 + 13 * l) → Q (.inl (some (qI (r (24 + 13 * l + i.toNat))))) sz T (u2 I m 0 0) L P) : qC G 2 0 0 YX8_letter [.ref m, qI (l : Int), qI i] sz T I L P Q := by
  subst e3
  exact mX8_letter hS hSA hv hly hi k1 k0
theorem mX8_pays0R {G : q_G} {sz : Nat} {T : q_T} {I L : q_I} {P : q_P} {Q : q_Q} {m : Nat} {w : Int} {r : Nat → Int} (e3 : L (m + 3) = r) (hS : q_SM T P m) (hSA : q_A G m) (hv : g_V0 (r)) (hw : -2147483648 ≤ w ∧ w < 2147483648) (hn : ¬ (0 ≤ w ∧ w ≤ 4)) (k1 : Q (.inl (some (qI 0))) sz T (u2 (u2 (u2 I m 0 0) m 0 1) (m + 1) 1 ((I (m + 1) 1) + 1)) L P) : qC G 2 0 0 YX8_pays [.ref m, qI w] sz T I L P Q := by
  subst e3
  exact mX8_pays0 hS hSA hv hw hn k1
theorem mX8_paysR {G : q_G} {sz : Nat} {T : q_T} {I L : q_I} {P : q_P} {Q : q_Q} {m : Nat} {w : Nat} {r : Nat → Int} (e3 : L (m + 3) = r) (hS : q_SM T P m) (hSA : q_A G m) (hv : g_V0 (r)) (hw : w ≤ 4) (k0 : Q (.inl (some (qI (r (12 + w))))) sz T (u2 I m 0 0) L P) : qC G 2 0 0 YX8_pays [.ref m, qI (w : Int)] sz T I L P Q := by
  subst e3
  exact mX8_pays hS hSA hv hw k0
theorem mX8_account0R {G : q_G} {sz : Nat} {T : q_T} {I L : q_I} {P : q_P} {Q : q_Q} {m : Nat} {a : Int} {w : Int} {r : Nat → Int} (e3 : L (m + 3) = r) (hS : q_SM T P m) (hSA : q_A G m) (hv : g_V0 (r)) (ha : -2147483648 ≤ a ∧ a < 2147483648) (hn : ¬ (0 ≤ a ∧ a ≤ r 1 - 1)) (k1 : Q (.inl (some (qI 0))) sz T (u2 (u2 (u2 I m 0 0) m 0 1) (m + 1) 0 ((I (m + 1) 0) + 1)) L P) : qC G 3 0 0 YX8_account [.ref m, qI a, qI w] sz T I L P Q := by
  subst e3
  exact mX8_account0 hS hSA hv ha hn k1
theorem mX8_accountR {G : q_G} {sz : Nat} {T : q_T} {I L : q_I} {P : q_P} {Q : q_Q} {m : Nat} {w : Int} {i : Nat} {bd : Int} {r : Nat → Int} (e3 : L (m + 3) = r) (hS : q_SM T P m) (hSA : q_A G m) (hv : g_V0 (r)) (hy : (i : Int) < r 1) (hva : g_VA (r) i bd) (hbd : bd ≤ 7000) (hw : -2147483648 ≤ w ∧ w < 2147483648) (k2 : ¬ (0 ≤ w ∧ w ≤ 10) → Q (.inl (some (qI 0))) sz T (u2 (u2 (u2 I m 0 0) m 0 2) (m + 1) 1 ((I (m + 1) 1) + 1)) L P) (k0 : (0 ≤ w ∧ w ≤ 10) → Q (.inl (some (qI (g_account (r) i w)))) sz T (u2 I m 0 0) L P) : qC G 3 0 0 YX8_account [.ref m, qI (i : Int), qI w] sz T I L P Q := by
  subst e3
  exact mX8_account hS hSA hv hy hva hbd hw k2 k0
theorem mX8_sleep0R {G : q_G} {sz : Nat} {T : q_T} {I L : q_I} {P : q_P} {Q : q_Q} {m : Nat} {a : Int} {r : Nat → Int} (e3 : L (m + 3) = r) (hS : q_SM T P m) (hSA : q_A G m) (hv : g_V0 (r)) (ha : -2147483648 ≤ a ∧ a < 2147483648) (hn : ¬ (0 ≤ a ∧ a ≤ r 1 - 1)) (k1 : Q (.inl (some (qI 0))) sz T (u2 (u2 (u2 I m 0 0) m 0 1) (m + 1) 0 ((I (m + 1) 0) + 1)) L P) : qC G 4 0 0 YX8_sleep [.ref m, qI a] sz T I L P Q := by
  subst e3
  exact mX8_sleep0 hS hSA hv ha hn k1
theorem mX8_sleepR {G : q_G} {sz : Nat} {T : q_T} {I L : q_I} {P : q_P} {Q : q_Q} {m : Nat} {i : Nat} {bd : Int} {r : Nat → Int} (e3 : L (m + 3) = r) (hS : q_SM T P m) (hSA : q_A G m) (hv : g_V0 (r)) (hy : (i : Int) < r 1) (hva : g_VA (r) i bd) (hbd : bd ≤ 7000) (k0 : ∀ L', (∀ q k, q ≠ m + 15 → L' q k = L q k) → Q (.inl (some (qI (g_sleepA (r) i)))) sz T (u2 I m 0 0) L' P) : qC G 4 0 0 YX8_sleep [.ref m, qI (i : Int)] sz T I L P Q := by
  subst e3
  exact mX8_sleep hS hSA hv hy hva hbd k0
theorem mX8_soon0R {G : q_G} {sz : Nat} {T : q_T} {I L : q_I} {P : q_P} {Q : q_Q} {m : Nat} {a : Int} {r : Nat → Int} (e3 : L (m + 3) = r) (hS : q_SM T P m) (hSA : q_A G m) (hv : g_V0 (r)) (ha : -2147483648 ≤ a ∧ a < 2147483648) (hn : ¬ (0 ≤ a ∧ a ≤ r 1 - 1)) (k1 : Q (.inl (some (qI 0))) sz T (u2 (u2 (u2 I m 0 0) m 0 1) (m + 1) 0 ((I (m + 1) 0) + 1)) L P) : qC G 7 0 0 YX8_soon [.ref m, qI a] sz T I L P Q := by
  subst e3
  exact mX8_soon0 hS hSA hv ha hn k1
theorem mX8_soonR {G : q_G} {sz : Nat} {T : q_T} {I L : q_I} {P : q_P} {Q : q_Q} {m : Nat} {i mn : Nat} {r : Nat → Int} (e3 : L (m + 3) = r) (hS : q_SM T P m) (hSA : q_A G m) (hv : g_V0 (r)) (hmn : r 1 = (mn : Int)) (hVR : g_VR (r)) (hz : q_Z0 L m) (hy : (i : Int) < r 1) (k0 : ∀ L', (∀ q k, q ≠ m + 5 → q ≠ m + 15 → L' q k = L q k) → q_Z0 L' m → Q (.inl (some (qI (g_run (r 2) 600 i 600 1 (r)).1))) sz T (u2 I m 0 0) L' P) : qC G 6 0 0 YX8_soon [.ref m, qI (i : Int)] sz T I L P Q := by
  subst e3
  exact mX8_soon hS hSA hv hmn hVR hz hy k0
theorem mX8_worth0R {G : q_G} {sz : Nat} {T : q_T} {I L : q_I} {P : q_P} {Q : q_Q} {m : Nat} {a : Int} {n : Int} {r : Nat → Int} (e3 : L (m + 3) = r) (hS : q_SM T P m) (hSA : q_A G m) (hv : g_V0 (r)) (ha : -2147483648 ≤ a ∧ a < 2147483648) (hn : ¬ (0 ≤ a ∧ a ≤ r 1 - 1)) (k1 : Q (.inl (some (qL 0))) sz T (u2 (u2 (u2 I m 0 0) m 0 1) (m + 1) 0 ((I (m + 1) 0) + 1)) L P) : qC G 4 0 0 YX8_worth [.ref m, qI a, qI n] sz T I L P Q := by
  subst e3
  exact mX8_worth0 hS hSA hv ha hn k1
theorem mX8_worthR {G : q_G} {sz : Nat} {T : q_T} {I L : q_I} {P : q_P} {Q : q_Q} {m : Nat} {n : Int} {i : Nat} {bd : Int} {r : Nat → Int} (e3 : L (m + 3) = r) (hS : q_SM T P m) (hSA : q_A G m) (hv : g_V0 (r)) (hy : (i : Int) < r 1) (hva : g_VA (r) i bd) (hbd : bd ≤ r 2) (hn : -2147483648 ≤ n ∧ n < 2147483648) (k2 : ¬ (0 ≤ n ∧ n ≤ 600) → Q (.inl (some (qL 0))) sz T (u2 (u2 (u2 I m 0 0) m 0 2) (m + 1) 1 ((I (m + 1) 1) + 1)) L P) (k0 : (0 ≤ n ∧ n ≤ 600) → Q (.inl (some (qL (g_worth (r) i n)))) sz T (u2 I m 0 0) L P) : qC G 4 0 0 YX8_worth [.ref m, qI (i : Int), qI n] sz T I L P Q := by
  subst e3
  exact mX8_worth hS hSA hv hy hva hbd hn k2 k0
theorem mX8_rowR {G : q_G} {sz : Nat} {T : q_T} {I L : q_I} {P : q_P} {Q : q_Q} {m : Nat} {k : Int} {w : Int} {r : Nat → Int} (e3 : L (m + 3) = r) (hS : q_SM T P m) (hSA : q_A G m) (hv : g_V0 (r)) (hk : -2147483648 ≤ k ∧ k < 2147483648) (hw : -2147483648 ≤ w ∧ w < 2147483648) (k1 : ¬ (0 ≤ k ∧ k < r 6) → Q (.inl (some (qI 0))) sz T (u2 (u2 (u2 I m 0 0) m 0 1) (m + 1) 0 ((I (m + 1) 0) + 1)) L P) (k2 : (0 ≤ k ∧ k < r 6) → ¬ (0 ≤ w ∧ w ≤ 4) → Q (.inl (some (qI 0))) sz T (u2 (u2 (u2 I m 0 0) m 0 2) (m + 1) 1 ((I (m + 1) 1) + 1)) L P) (k0 : (0 ≤ k ∧ k < r 6) → (0 ≤ w ∧ w ≤ 4) → Q (.inl (some (qI (r (1183 + 5 * k.toNat + w.toNat))))) sz T (u2 I m 0 0) L P) : qC G 2 0 0 YX8_row [.ref m, qI k, qI w] sz T I L P Q := by
  subst e3
  exact mX8_row hS hSA hv hk hw k1 k2 k0
theorem mX8_ahead0R {G : q_G} {sz : Nat} {T : q_T} {I L : q_I} {P : q_P} {Q : q_Q} {m : Nat} {l : Int} {n : Int} {r : Nat → Int} (e3 : L (m + 3) = r) (hS : q_SM T P m) (hSA : q_A G m) (hv : g_V0 (r)) (hl : -2147483648 ≤ l ∧ l < 2147483648) (hn : -2147483648 ≤ n ∧ n < 2147483648) (hx : ¬ ((l = -1 ∨ 0 ≤ l ∧ l < r 0) ∧ 1 ≤ n ∧ n ≤ 120)) (k1 : ¬ (l = -1 ∨ 0 ≤ l ∧ l < r 0) → Q (.inl (some (qL 0))) sz T (u2 (u2 (u2 I m 0 0) m 0 1) (m + 1) 0 ((I (m + 1) 0) + 1)) L P) (k2 : (l = -1 ∨ 0 ≤ l ∧ l < r 0) → ¬ (1 ≤ n ∧ n ≤ 120) → Q (.inl (some (qL 0))) sz T (u2 (u2 (u2 I m 0 0) m 0 2) (m + 1) 1 ((I (m + 1) 1) + 1)) L P) : qC G 6 0 0 YX8_ahead [.ref m, qI l, qI n] sz T I L P Q := by
  subst e3
  exact mX8_ahead0 hS hSA hv hl hn hx k1 k2
theorem mX8_aheadR {G : q_G} {sz : Nat} {T : q_T} {I L : q_I} {P : q_P} {Q : q_Q} {m : Nat} {l : Int} {nn : Nat} {r : Nat → Int} (e3 : L (m + 3) = r) (hS : q_SM T P m) (hSA : q_A G m) (hv : g_V0 (r)) (hl : -2147483648 ≤ l ∧ l < 2147483648) (hVR : g_VR (r)) (hz : q_Z0 L m) (hRW : g_RW (r)) (hn : 1 ≤ nn ∧ nn ≤ 120) (hlo : (l = -1 ∨ 0 ≤ l ∧ l < r 0)) (k0 : ∀ L', (∀ q k, q ≠ m + 5 → q ≠ m + 15 → L' q k = L q k) → q_Z0 L' m → Q (.inl (some (qL (g_ahead (r) l nn)))) sz T (u2 I m 0 0) L' P) : qC G 6 0 0 YX8_ahead [.ref m, qI l, qI (nn : Int)] sz T I L P Q := by
  subst e3
  exact mX8_ahead hS hSA hv hl hVR hz hRW hn hlo k0
theorem mX8_letters0R {G : q_G} {sz : Nat} {T : q_T} {I L : q_I} {P : q_P} {Q : q_Q} {m : Nat} {n : Int} {r : Nat → Int} (e3 : L (m + 3) = r) (hS : q_SM T P m) (hSA : q_A G m) (hv : g_V0 (r)) (hn : -2147483648 ≤ n ∧ n < 2147483648) (hx : ¬ (1 ≤ n ∧ n ≤ 120)) (k1 : Q (.inl (some (qI 0))) sz T (u2 (u2 (u2 I m 0 0) m 0 1) (m + 1) 1 ((I (m + 1) 1) + 1)) L P) : qC G 6 0 0 YX8_letters [.ref m, qI n] sz T I L P Q := by
  subst e3
  exact mX8_letters0 hS hSA hv hn hx k1
theorem mX8_lettersR {G : q_G} {sz : Nat} {T : q_T} {I L : q_I} {P : q_P} {Q : q_Q} {m : Nat} {nn : Nat} {r : Nat → Int} (e3 : L (m + 3) = r) (hS : q_SM T P m) (hSA : q_A G m) (hv : g_V0 (r)) (hVR : g_VR (r)) (hz : q_Z0 L m) (hn : 1 ≤ nn ∧ nn ≤ 120) (k0 : ∀ L', (∀ q k, q ≠ m + 5 → q ≠ m + 15 → L' q k = L q k) → q_Z0 L' m → Q (.inl (some (qI ((g_months nn (r)).2 7 - r 7)))) sz T (u2 I m 0 0) L' P) : qC G 6 0 0 YX8_letters [.ref m, qI (nn : Int)] sz T I L P Q := by
  subst e3
  exact mX8_letters hS hSA hv hVR hz hn k0
theorem mX8_rescue0R {G : q_G} {sz : Nat} {T : q_T} {I L : q_I} {P : q_P} {Q : q_Q} {m : Nat} {k : Int} {n : Int} {w : Int} {r : Nat → Int} (e3 : L (m + 3) = r) (hS : q_SM T P m) (hSA : q_A G m) (hv : g_V0 (r)) (hk : -2147483648 ≤ k ∧ k < 2147483648) (hn : -2147483648 ≤ n ∧ n < 2147483648) (hw : -2147483648 ≤ w ∧ w < 2147483648) (hx : ¬ ((1 ≤ k ∧ k ≤ 3) ∧ (1 ≤ n ∧ n ≤ 120) ∧ (0 ≤ w ∧ w ≤ 1))) (k1 : Q (.inl (some (qL 0))) sz T (u2 (u2 (u2 I m 0 0) m 0 1) (m + 1) 1 ((I (m + 1) 1) + 1)) L P) : qC G 7 0 0 YX8_rescue [.ref m, qI k, qI n, qI w] sz T I L P Q := by
  subst e3
  exact mX8_rescue0 hS hSA hv hk hn hw hx k1
theorem mX8_rescueR {G : q_G} {sz : Nat} {T : q_T} {I L : q_I} {P : q_P} {Q : q_Q} {m : Nat} {kk : Int} {wh : Int} {mn nn : Nat} {r : Nat → Int} (e3 : L (m + 3) = r) (hS : q_SM T P m) (hSA : q_A G m) (hv : g_V0 (r)) (hmn : r 1 = (mn : Int)) (hm12 : mn ≤ 12) (hVR : g_VR (r)) (hz : q_Z0 L m) (hkk : 1 ≤ kk ∧ kk ≤ 3) (hn : 1 ≤ nn ∧ nn ≤ 120) (hwh : 0 ≤ wh ∧ wh ≤ 1) (k0 : ∀ (x : Nat × Int) (L' : q_I), (∀ q k, q ≠ m + 5 → q ≠ m + 15 → q ≠ m + 16 → q ≠ m + 17 → L' q k = L q k) → q_Z0 L' m → g_resc (r) kk nn mn = some x → Q (.inl (some (qL (if wh = 0 then (x.1 : Int) else x.2)))) sz T (u2 I m 0 0) L' P) : qC G 7 0 0 YX8_rescue [.ref m, qI kk, qI (nn : Int), qI wh] sz T I L P Q := by
  subst e3
  exact mX8_rescue hS hSA hv hmn hm12 hVR hz hkk hn hwh k0
theorem mX8_books0R {G : q_G} {sz : Nat} {T : q_T} {I L : q_I} {P : q_P} {Q : q_Q} {m : Nat} {w : Int} {r : Nat → Int} (e3 : L (m + 3) = r) (hS : q_SM T P m) (hSA : q_A G m) (hv : g_V0 (r)) (hw : -2147483648 ≤ w ∧ w < 2147483648) (hn : ¬ (0 ≤ w ∧ w ≤ 6)) (k1 : Q (.inl (some (qL 0))) sz T (u2 (u2 (u2 I m 0 0) m 0 1) (m + 1) 1 ((I (m + 1) 1) + 1)) L P) : qC G 4 0 0 YX8_books [.ref m, qI w] sz T I L P Q := by
  subst e3
  exact mX8_books0 hS hSA hv hw hn k1
theorem mX8_booksR {G : q_G} {sz : Nat} {T : q_T} {I L : q_I} {P : q_P} {Q : q_Q} {m : Nat} {w : Nat} {r : Nat → Int} (e3 : L (m + 3) = r) (hS : q_SM T P m) (hSA : q_A G m) (hv : g_V0 (r)) (hw : w < 4 ∨ w = 6) (k0 : Q (.inl (some (qL (r (17 + w))))) sz T (u2 I m 0 0) L P) : qC G 4 0 0 YX8_books [.ref m, qI (w : Int)] sz T I L P Q := by
  subst e3
  exact mX8_books hS hSA hv hw k0
theorem mX8_books4R {G : q_G} {sz : Nat} {T : q_T} {I L : q_I} {P : q_P} {Q : q_Q} {m : Nat} {mn : Nat} {bd : Int} {r : Nat → Int} (e3 : L (m + 3) = r) (hS : q_SM T P m) (hSA : q_A G m) (hv : g_V0 (r)) (hmn : r 1 = (mn : Int)) (hm12 : mn ≤ 12) (hvs : ∀ i : Nat, i < mn → g_VA (r) i bd) (k0 : Q (.inl (some (qL (g_sum (g_liveC (r)) mn)))) sz T (u2 I m 0 0) L P) : qC G 4 0 0 YX8_books [.ref m, qI 4] sz T I L P Q := by
  subst e3
  exact mX8_books4 hS hSA hv hmn hm12 hvs k0
theorem mX8_books5R {G : q_G} {sz : Nat} {T : q_T} {I L : q_I} {P : q_P} {Q : q_Q} {m : Nat} {mn : Nat} {bd : Int} {r : Nat → Int} (e3 : L (m + 3) = r) (hS : q_SM T P m) (hSA : q_A G m) (hv : g_V0 (r)) (hmn : r 1 = (mn : Int)) (hm12 : mn ≤ 12) (hvs : ∀ i : Nat, i < mn → g_VA (r) i bd) (k0 : Q (.inl (some (qL (g_sum (g_handC (r)) mn)))) sz T (u2 I m 0 0) L P) : qC G 4 0 0 YX8_books [.ref m, qI 5] sz T I L P Q := by
  subst e3
  exact mX8_books5 hS hSA hv hmn hm12 hvs k0
theorem mX8_printR {G : q_G} {sz : Nat} {T : q_T} {I L : q_I} {P : q_P} {Q : q_Q} {m : Nat} {mn : Nat} {bd : Int} {r : Nat → Int} (e3 : L (m + 3) = r) (hS : q_SM T P m) (hSA : q_A G m) (hv : g_V0 (r)) (hmn : r 1 = (mn : Int)) (hm12 : mn ≤ 12) (hvs : ∀ i : Nat, i < mn → g_VA (r) i bd) (k0 : Q (.inl (some (qL (g_print (r) mn)))) sz T (u2 I m 0 0) L P) : qC G 2 0 0 YX8_print [.ref m] sz T I L P Q := by
  subst e3
  exact mX8_print hS hSA hv hmn hm12 hvs k0
set_option maxRecDepth 100000 in
theorem pr_contact {G : q_G} {b m o : Nat} {T : q_T} {sz : Nat} {I L : q_I} {P : q_P} {a : Int} (hX : q_FX G T b m o) (hG : q_GE T b m I L P) (ha : -2147483648 ≤ a ∧ a < 2147483648) : q_PR G b m o T qI q_w32 YL_contact 5 [.ref b, qI a, .ref o] YX8_contact 4 [.ref m, qI a] sz I L P := by
  obtain ⟨hA, hmb, hmo, hTo⟩ := hX
  obtain ⟨V, bk, tp, B, R, f, cn, hC, hM, hP⟩ := hG
  have hV := (hP.ro 0 (Nat.zero_le _)).1
  have hv := hV.1
  have hAm : q_A G m := q_Ale hA (by omega)
  have hw2 := hv.month
  have hmany := hv.many
  have hlands := hv.lands
  have hrows := hv.rows
  have hmn : R 0 1 = ((R 0 1).toNat : Int) := by omega
  have hm12 : (R 0 1).toNat ≤ 12 := by omega
  have hRW := (hP.ro 0 (Nat.zero_le _)).2.1
  have hZ := (hP.ro 0 (Nat.zero_le _)).2.2.1
  have hSL := (hP.ro 0 (Nat.zero_le _)).2.2.2
  have hvs : ∀ i : Nat, i < (R 0 1).toNat → g_VA (R 0) i (R 0 2) := fun i hi => by have q := hV.2.1 i (by omega); rwa [if_neg (Nat.not_lt_zero _)] at q
  intro Q' kQ
  refine mL_contact (hx := 4) hC.st.t0 hTo (q_Ale hA (by omega)) (fun Q1 k1 => ?_)
  by_cases hn : 0 ≤ a ∧ a < R 0 1
  · obtain ⟨i, rfl⟩ : ∃ i : Nat, a = (i : Int) := ⟨a.toNat, by omega⟩
    have hy := hn.2
    have hVA := hvs i (by omega)
    refine qC.wide (h := 4) (mc := 1) (ms := 6) (by decide) (by decide) (by decide) ?_
    refine mX7_contact hC.st hA hC.pv hC.ov rfl (hC.wr 0 (Nat.zero_le _)) hV hC.b8 hP.bk hy (fun sz' hsz ho => ?_) (fun M N P9 V9 ho hAF => ?_)
    · refine k1 _ _ _ _ _ _ (q_LQ.er 1 rfl (kQ _ _ _ _ _ hsz (by decide) (fun Q2 kR => ?_)))
      have hM1 := hM.rf (b := b) (k := 7 + 2) (v := (I b (7 + 2)) + 1) hP.bk hmb
      refine qC.wide (h := 4) (mc := 0) (ms := 0) (by decide) (by decide) (by decide) ?_
      refine mX8_contactR hM1.l3 hM1.sm hAm hv hy hVA hM1.m13 hP.bk hM1.z0 (fun _ => ?_) (fun _ h _ => absurd h ho)
      exact kR 0 _ _ (q_GE.rf hC hM hP hmb 2 (by decide) 2) (by rw [u2_a _ _ (by omega), u2_s]; rfl) (fun h => absurd h (by decide))
    · have hro : q_RO (g_ocontact (R 0) i) := q_RO.of (b := R 0 2) (g_ocontact_VM hV hy ho) (g_ocontact_n (by omega) (by omega)) (g_ocontact_RW hRW (by omega)) (g_ocontact_Z hZ (by omega)) (g_ocontact_SL hSL)
      refine k1 _ _ _ _ _ _ (q_LQ.ok (kQ 0 _ _ _ _ (Nat.le_refl _) (by decide) (fun Q2 kR => ?_)))
      have hM1 := fun z => hAF.gm (z := z) hM hP.bk hmb hmo
      refine qC.wide (h := 4) (mc := 0) (ms := 0) (by decide) (by decide) (by decide) ?_
      refine mX8_contactR (hM1 _).l3 (hM1 0).sm hAm hv hy hVA (hM1 0).m13 hP.bk (hM1 _).z0 (fun h => absurd ho h) (fun L' _ hRm => ?_)
      exact kR _ _ _ (hAF.ge hC hM hP hmb hmo hro hRm (fun q k h1 h2 => by rw [q_row_n _ _ h1]) (q_row_s' _ _ _)) (by rw [u2_k _ _ (by decide), u2_s]) (fun _ => q_out_rm hRm hmo (fun q k h1 h2 => by rw [q_row_n _ _ h1]))
  · refine qC.wide (h := 4) (mc := 1) (ms := 6) (by decide) (by decide) (by decide) ?_
    refine mX7_contact0 hC.st hA hC.pv hC.ov rfl (hC.wr 0 (Nat.zero_le _)) hV ha hn (fun sz' hsz => ?_)
    refine k1 _ _ _ _ _ _ (q_LQ.er 0 rfl (kQ _ _ _ _ _ hsz (by decide) (fun Q2 kR => ?_)))
    have hM1 := hM.rf (b := b) (k := 7 + 0) (v := (I b (7 + 0)) + 1) hP.bk hmb
    refine qC.wide (h := 4) (mc := 0) (ms := 0) (by decide) (by decide) (by decide) ?_
    refine mX8_contact0R hM1.l3 hM1.sm hAm hv ha (by omega) ?_
    exact kR 0 _ _ (q_GE.rf hC hM hP hmb 0 (by decide) 1) (by rw [u2_a _ _ (by omega), u2_s]; rfl) (fun h => absurd h (by decide))

set_option maxRecDepth 100000 in
theorem pr_close {G : q_G} {b m o : Nat} {T : q_T} {sz : Nat} {I L : q_I} {P : q_P} {a : Int} (hX : q_FX G T b m o) (hG : q_GE T b m I L P) (ha : -2147483648 ≤ a ∧ a < 2147483648) : q_PR G b m o T qI q_w32 YL_close 5 [.ref b, qI a, .ref o] YX8_close 4 [.ref m, qI a] sz I L P := by
  obtain ⟨hA, hmb, hmo, hTo⟩ := hX
  obtain ⟨V, bk, tp, B, R, f, cn, hC, hM, hP⟩ := hG
  have hV := (hP.ro 0 (Nat.zero_le _)).1
  have hv := hV.1
  have hAm : q_A G m := q_Ale hA (by omega)
  have hw2 := hv.month
  have hmany := hv.many
  have hlands := hv.lands
  have hrows := hv.rows
  have hmn : R 0 1 = ((R 0 1).toNat : Int) := by omega
  have hm12 : (R 0 1).toNat ≤ 12 := by omega
  have hRW := (hP.ro 0 (Nat.zero_le _)).2.1
  have hZ := (hP.ro 0 (Nat.zero_le _)).2.2.1
  have hSL := (hP.ro 0 (Nat.zero_le _)).2.2.2
  have hvs : ∀ i : Nat, i < (R 0 1).toNat → g_VA (R 0) i (R 0 2) := fun i hi => by have q := hV.2.1 i (by omega); rwa [if_neg (Nat.not_lt_zero _)] at q
  intro Q' kQ
  refine mL_close (hx := 4) hC.st.t0 hTo (q_Ale hA (by omega)) (fun Q1 k1 => ?_)
  by_cases hn : 0 ≤ a ∧ a < R 0 1
  · obtain ⟨i, rfl⟩ : ∃ i : Nat, a = (i : Int) := ⟨a.toNat, by omega⟩
    have hy := hn.2
    have hVA := hvs i (by omega)
    refine qC.wide (h := 4) (mc := 1) (ms := 6) (by decide) (by decide) (by decide) ?_
    refine mX7_close hC.st hA hC.pv hC.ov rfl (hC.wr 0 (Nat.zero_le _)) hV hC.b8 hP.bk hy (fun sz' hsz ho => ?_) (fun M N P9 V9 ho hAF => ?_)
    · refine k1 _ _ _ _ _ _ (q_LQ.er 1 rfl (kQ _ _ _ _ _ hsz (by decide) (fun Q2 kR => ?_)))
      have hM1 := hM.rf (b := b) (k := 7 + 2) (v := (I b (7 + 2)) + 1) hP.bk hmb
      refine qC.wide (h := 4) (mc := 0) (ms := 0) (by decide) (by decide) (by decide) ?_
      refine mX8_closeR hM1.l3 hM1.sm hAm hv hy hVA hM1.m13 hP.bk hM1.z0 (fun _ => ?_) (fun _ h _ => absurd h ho)
      exact kR 0 _ _ (q_GE.rf hC hM hP hmb 2 (by decide) 2) (by rw [u2_a _ _ (by omega), u2_s]; rfl) (fun h => absurd h (by decide))
    · have hro : q_RO (g_oclose (R 0) i) := q_RO.of (b := R 0 2) (g_oclose_VM hV hy ho) (g_oclose_n (by omega) (by omega) (by omega)) (g_oclose_RW hRW (by omega)) (g_oclose_Z hZ (by omega)) (g_oclose_SL hSL)
      refine k1 _ _ _ _ _ _ (q_LQ.ok (kQ 0 _ _ _ _ (Nat.le_refl _) (by decide) (fun Q2 kR => ?_)))
      have hM1 := fun z => hAF.gm (z := z) hM hP.bk hmb hmo
      refine qC.wide (h := 4) (mc := 0) (ms := 0) (by decide) (by decide) (by decide) ?_
      refine mX8_closeR (hM1 _).l3 (hM1 0).sm hAm hv hy hVA (hM1 0).m13 hP.bk (hM1 _).z0 (fun h => absurd ho h) (fun L' _ hRm => ?_)
      exact kR _ _ _ (hAF.ge hC hM hP hmb hmo hro hRm (fun q k h1 h2 => by rw [q_row_n _ _ h1]) (q_row_s' _ _ _)) (by rw [u2_k _ _ (by decide), u2_s]) (fun _ => q_out_rm hRm hmo (fun q k h1 h2 => by rw [q_row_n _ _ h1]))
  · refine qC.wide (h := 4) (mc := 1) (ms := 6) (by decide) (by decide) (by decide) ?_
    refine mX7_close0 hC.st hA hC.pv hC.ov rfl (hC.wr 0 (Nat.zero_le _)) hV ha hn (fun sz' hsz => ?_)
    refine k1 _ _ _ _ _ _ (q_LQ.er 0 rfl (kQ _ _ _ _ _ hsz (by decide) (fun Q2 kR => ?_)))
    have hM1 := hM.rf (b := b) (k := 7 + 0) (v := (I b (7 + 0)) + 1) hP.bk hmb
    refine qC.wide (h := 4) (mc := 0) (ms := 0) (by decide) (by decide) (by decide) ?_
    refine mX8_close0R hM1.l3 hM1.sm hAm hv ha (by omega) ?_
    exact kR 0 _ _ (q_GE.rf hC hM hP hmb 0 (by decide) 1) (by rw [u2_a _ _ (by omega), u2_s]; rfl) (fun h => absurd h (by decide))

set_option maxRecDepth 100000 in
theorem pr_deposit {G : q_G} {b m o : Nat} {T : q_T} {sz : Nat} {I L : q_I} {P : q_P} {a c : Int} (hX : q_FX G T b m o) (hG : q_GE T b m I L P) (ha : -2147483648 ≤ a ∧ a < 2147483648) (hc : -2147483648 ≤ c ∧ c < 2147483648) : q_PR G b m o T qI q_w32 YL_deposit 5 [.ref b, qI a, qI c, .ref o] YX8_deposit 4 [.ref m, qI a, qI c] sz I L P := by
  obtain ⟨hA, hmb, hmo, hTo⟩ := hX
  obtain ⟨V, bk, tp, B, R, f, cn, hC, hM, hP⟩ := hG
  have hV := (hP.ro 0 (Nat.zero_le _)).1
  have hv := hV.1
  have hAm : q_A G m := q_Ale hA (by omega)
  have hw2 := hv.month
  have hmany := hv.many
  have hlands := hv.lands
  have hrows := hv.rows
  have hmn : R 0 1 = ((R 0 1).toNat : Int) := by omega
  have hm12 : (R 0 1).toNat ≤ 12 := by omega
  have hRW := (hP.ro 0 (Nat.zero_le _)).2.1
  have hZ := (hP.ro 0 (Nat.zero_le _)).2.2.1
  have hSL := (hP.ro 0 (Nat.zero_le _)).2.2.2
  have hvs : ∀ i : Nat, i < (R 0 1).toNat → g_VA (R 0) i (R 0 2) := fun i hi => by have q := hV.2.1 i (by omega); rwa [if_neg (Nat.not_lt_zero _)] at q
  intro Q' kQ
  refine mL_deposit (hx := 4) hC.st.t0 hTo (q_Ale hA (by omega)) (fun Q1 k1 => ?_)
  by_cases hn : 0 ≤ a ∧ a < R 0 1
  · obtain ⟨i, rfl⟩ : ∃ i : Nat, a = (i : Int) := ⟨a.toNat, by omega⟩
    have hy := hn.2
    have hVA := hvs i (by omega)
    refine qC.wide (h := 4) (mc := 1) (ms := 6) (by decide) (by decide) (by decide) ?_
    refine mX7_deposit hC.st hA hC.pv hC.ov rfl (hC.wr 0 (Nat.zero_le _)) hV hC.b8 hP.bk hy hc (fun sz' hsz h1 h2 => ?_) (fun sz' hsz h1 => ?_) (fun M N P9 V9 h1 h2 hAF => ?_)
    · refine k1 _ _ _ _ _ _ (q_LQ.er 2 rfl (kQ _ _ _ _ _ hsz (by decide) (fun Q2 kR => ?_)))
      have hM1 := hM.rf (b := b) (k := 7 + 2) (v := (I b (7 + 2)) + 1) hP.bk hmb
      refine qC.wide (h := 4) (mc := 0) (ms := 0) (by decide) (by decide) (by decide) ?_
      refine mX8_depositR hM1.l3 hM1.sm hAm hv hy hVA hc hM1.m13 hP.bk hM1.z0 (fun h => absurd h1 h) (fun _ _ => ?_) (fun _ _ h _ => absurd h h2)
      exact kR 0 _ _ (q_GE.rf hC hM hP hmb 2 (by decide) 3) (by rw [u2_a _ _ (by omega), u2_s]; rfl) (fun h => absurd h (by decide))
    · refine k1 _ _ _ _ _ _ (q_LQ.er 1 rfl (kQ _ _ _ _ _ hsz (by decide) (fun Q2 kR => ?_)))
      have hM1 := hM.rf (b := b) (k := 7 + 1) (v := (I b (7 + 1)) + 1) hP.bk hmb
      refine qC.wide (h := 4) (mc := 0) (ms := 0) (by decide) (by decide) (by decide) ?_
      refine mX8_depositR hM1.l3 hM1.sm hAm hv hy hVA hc hM1.m13 hP.bk hM1.z0 (fun _ => ?_) (fun h _ => absurd h h1) (fun _ h _ _ => absurd h h1)
      exact kR 0 _ _ (q_GE.rf hC hM hP hmb 1 (by decide) 2) (by rw [u2_a _ _ (by omega), u2_s]; rfl) (fun h => absurd h (by decide))
    · have hro : q_RO (g_odeposit (R 0) i c) := q_RO.of (b := R 0 2) (g_odeposit_VM hV hy h2.1 ⟨h1.1, h2.2⟩) (g_odeposit_n (by omega) (by omega) (by omega) (by omega)) (g_odeposit_RW hRW (by omega)) (g_odeposit_Z hZ (by omega)) (g_odeposit_SL hSL)
      refine k1 _ _ _ _ _ _ (q_LQ.ok (kQ 0 _ _ _ _ (Nat.le_refl _) (by decide) (fun Q2 kR => ?_)))
      have hM1 := fun z => hAF.gm (z := z) hM hP.bk hmb hmo
      refine qC.wide (h := 4) (mc := 0) (ms := 0) (by decide) (by decide) (by decide) ?_
      refine mX8_depositR (hM1 _).l3 (hM1 0).sm hAm hv hy hVA hc (hM1 0).m13 hP.bk (hM1 _).z0 (fun h => absurd h1 h) (fun _ h => absurd h2 h) (fun L' _ _ hRm => ?_)
      exact kR _ _ _ (hAF.ge hC hM hP hmb hmo hro hRm (fun q k h1 h2 => by rw [q_row_n _ _ h1]) (q_row_s' _ _ _)) (by rw [u2_k _ _ (by decide), u2_s]) (fun _ => q_out_rm hRm hmo (fun q k h1 h2 => by rw [q_row_n _ _ h1]))
  · refine qC.wide (h := 4) (mc := 1) (ms := 6) (by decide) (by decide) (by decide) ?_
    refine mX7_deposit0 hC.st hA hC.pv hC.ov rfl (hC.wr 0 (Nat.zero_le _)) hV ha hn (fun sz' hsz => ?_)
    refine k1 _ _ _ _ _ _ (q_LQ.er 0 rfl (kQ _ _ _ _ _ hsz (by decide) (fun Q2 kR => ?_)))
    have hM1 := hM.rf (b := b) (k := 7 + 0) (v := (I b (7 + 0)) + 1) hP.bk hmb
    refine qC.wide (h := 4) (mc := 0) (ms := 0) (by decide) (by decide) (by decide) ?_
    refine mX8_deposit0R hM1.l3 hM1.sm hAm hv ha (by omega) ?_
    exact kR 0 _ _ (q_GE.rf hC hM hP hmb 0 (by decide) 1) (by rw [u2_a _ _ (by omega), u2_s]; rfl) (fun h => absurd h (by decide))

set_option maxRecDepth 100000 in
theorem pr_draw {G : q_G} {b m o : Nat} {T : q_T} {sz : Nat} {I L : q_I} {P : q_P} {a c : Int} (hX : q_FX G T b m o) (hG : q_GE T b m I L P) (ha : -2147483648 ≤ a ∧ a < 2147483648) (hc : -2147483648 ≤ c ∧ c < 2147483648) : q_PR G b m o T qI q_w32 YL_draw 5 [.ref b, qI a, qI c, .ref o] YX8_draw 4 [.ref m, qI a, qI c] sz I L P := by
  obtain ⟨hA, hmb, hmo, hTo⟩ := hX
  obtain ⟨V, bk, tp, B, R, f, cn, hC, hM, hP⟩ := hG
  have hV := (hP.ro 0 (Nat.zero_le _)).1
  have hv := hV.1
  have hAm : q_A G m := q_Ale hA (by omega)
  have hw2 := hv.month
  have hmany := hv.many
  have hlands := hv.lands
  have hrows := hv.rows
  have hmn : R 0 1 = ((R 0 1).toNat : Int) := by omega
  have hm12 : (R 0 1).toNat ≤ 12 := by omega
  have hRW := (hP.ro 0 (Nat.zero_le _)).2.1
  have hZ := (hP.ro 0 (Nat.zero_le _)).2.2.1
  have hSL := (hP.ro 0 (Nat.zero_le _)).2.2.2
  have hvs : ∀ i : Nat, i < (R 0 1).toNat → g_VA (R 0) i (R 0 2) := fun i hi => by have q := hV.2.1 i (by omega); rwa [if_neg (Nat.not_lt_zero _)] at q
  intro Q' kQ
  refine mL_draw (hx := 4) hC.st.t0 hTo (q_Ale hA (by omega)) (fun Q1 k1 => ?_)
  by_cases hn : 0 ≤ a ∧ a < R 0 1
  · obtain ⟨i, rfl⟩ : ∃ i : Nat, a = (i : Int) := ⟨a.toNat, by omega⟩
    have hy := hn.2
    have hVA := hvs i (by omega)
    refine qC.wide (h := 4) (mc := 1) (ms := 6) (by decide) (by decide) (by decide) ?_
    refine mX7_draw hC.st hA hC.pv hC.ov rfl (hC.wr 0 (Nat.zero_le _)) hV hC.b8 hP.bk hy hc (fun sz' hsz h1 h2 => ?_) (fun sz' hsz h1 => ?_) (fun M N P9 V9 h1 h2 hAF => ?_)
    · refine k1 _ _ _ _ _ _ (q_LQ.er 2 rfl (kQ _ _ _ _ _ hsz (by decide) (fun Q2 kR => ?_)))
      have hM1 := hM.rf (b := b) (k := 7 + 2) (v := (I b (7 + 2)) + 1) hP.bk hmb
      refine qC.wide (h := 4) (mc := 0) (ms := 0) (by decide) (by decide) (by decide) ?_
      refine mX8_drawR hM1.l3 hM1.sm hAm hv hy hVA hc hM1.m13 hP.bk hM1.z0 (fun h => absurd h1 h) (fun _ _ => ?_) (fun _ _ h _ => absurd h h2)
      exact kR 0 _ _ (q_GE.rf hC hM hP hmb 2 (by decide) 3) (by rw [u2_a _ _ (by omega), u2_s]; rfl) (fun h => absurd h (by decide))
    · refine k1 _ _ _ _ _ _ (q_LQ.er 1 rfl (kQ _ _ _ _ _ hsz (by decide) (fun Q2 kR => ?_)))
      have hM1 := hM.rf (b := b) (k := 7 + 1) (v := (I b (7 + 1)) + 1) hP.bk hmb
      refine qC.wide (h := 4) (mc := 0) (ms := 0) (by decide) (by decide) (by decide) ?_
      refine mX8_drawR hM1.l3 hM1.sm hAm hv hy hVA hc hM1.m13 hP.bk hM1.z0 (fun _ => ?_) (fun h _ => absurd h h1) (fun _ h _ _ => absurd h h1)
      exact kR 0 _ _ (q_GE.rf hC hM hP hmb 1 (by decide) 2) (by rw [u2_a _ _ (by omega), u2_s]; rfl) (fun h => absurd h (by decide))
    · have hro : q_RO (g_odraw (R 0) i c) := q_RO.of (b := R 0 2) (g_odraw_VM hV hy h2.1 ⟨h1.1, h2.2⟩) (g_odraw_n (by omega) (by omega) (by omega) (by omega)) (g_odraw_RW hRW (by omega)) (g_odraw_Z hZ (by omega)) (g_odraw_SL hSL)
      refine k1 _ _ _ _ _ _ (q_LQ.ok (kQ 0 _ _ _ _ (Nat.le_refl _) (by decide) (fun Q2 kR => ?_)))
      have hM1 := fun z => hAF.gm (z := z) hM hP.bk hmb hmo
      refine qC.wide (h := 4) (mc := 0) (ms := 0) (by decide) (by decide) (by decide) ?_
      refine mX8_drawR (hM1 _).l3 (hM1 0).sm hAm hv hy hVA hc (hM1 0).m13 hP.bk (hM1 _).z0 (fun h => absurd h1 h) (fun _ h => absurd h2 h) (fun L' _ _ hRm => ?_)
      exact kR _ _ _ (hAF.ge hC hM hP hmb hmo hro hRm (fun q k h1 h2 => by rw [q_row_n _ _ h1]) (q_row_s' _ _ _)) (by rw [u2_k _ _ (by decide), u2_s]) (fun _ => q_out_rm hRm hmo (fun q k h1 h2 => by rw [q_row_n _ _ h1]))
  · refine qC.wide (h := 4) (mc := 1) (ms := 6) (by decide) (by decide) (by decide) ?_
    refine mX7_draw0 hC.st hA hC.pv hC.ov rfl (hC.wr 0 (Nat.zero_le _)) hV ha hn (fun sz' hsz => ?_)
    refine k1 _ _ _ _ _ _ (q_LQ.er 0 rfl (kQ _ _ _ _ _ hsz (by decide) (fun Q2 kR => ?_)))
    have hM1 := hM.rf (b := b) (k := 7 + 0) (v := (I b (7 + 0)) + 1) hP.bk hmb
    refine qC.wide (h := 4) (mc := 0) (ms := 0) (by decide) (by decide) (by decide) ?_
    refine mX8_draw0R hM1.l3 hM1.sm hAm hv ha (by omega) ?_
    exact kR 0 _ _ (q_GE.rf hC hM hP hmb 0 (by decide) 1) (by rw [u2_a _ _ (by omega), u2_s]; rfl) (fun h => absurd h (by decide))

set_option maxRecDepth 100000 in
theorem pr_address {G : q_G} {b m o : Nat} {T : q_T} {sz : Nat} {I L : q_I} {P : q_P} {a l : Int} (hX : q_FX G T b m o) (hG : q_GE T b m I L P) (ha : -2147483648 ≤ a ∧ a < 2147483648) (hl : -2147483648 ≤ l ∧ l < 2147483648) : q_PR G b m o T qI q_w32 YL_address 5 [.ref b, qI a, qI l, .ref o] YX8_address 3 [.ref m, qI a, qI l] sz I L P := by
  obtain ⟨hA, hmb, hmo, hTo⟩ := hX
  obtain ⟨V, bk, tp, B, R, f, cn, hC, hM, hP⟩ := hG
  have hV := (hP.ro 0 (Nat.zero_le _)).1
  have hv := hV.1
  have hAm : q_A G m := q_Ale hA (by omega)
  have hw2 := hv.month
  have hmany := hv.many
  have hlands := hv.lands
  have hrows := hv.rows
  have hmn : R 0 1 = ((R 0 1).toNat : Int) := by omega
  have hm12 : (R 0 1).toNat ≤ 12 := by omega
  have hRW := (hP.ro 0 (Nat.zero_le _)).2.1
  have hZ := (hP.ro 0 (Nat.zero_le _)).2.2.1
  have hSL := (hP.ro 0 (Nat.zero_le _)).2.2.2
  have hvs : ∀ i : Nat, i < (R 0 1).toNat → g_VA (R 0) i (R 0 2) := fun i hi => by have q := hV.2.1 i (by omega); rwa [if_neg (Nat.not_lt_zero _)] at q
  intro Q' kQ
  refine mL_address (hx := 4) hC.st.t0 hTo (q_Ale hA (by omega)) (fun Q1 k1 => ?_)
  by_cases hn : 0 ≤ a ∧ a < R 0 1
  · obtain ⟨i, rfl⟩ : ∃ i : Nat, a = (i : Int) := ⟨a.toNat, by omega⟩
    have hy := hn.2
    have hVA := hvs i (by omega)
    refine qC.wide (h := 4) (mc := 1) (ms := 6) (by decide) (by decide) (by decide) ?_
    refine mX7_address hC.st hA hC.pv hC.ov rfl (hC.wr 0 (Nat.zero_le _)) hV hC.b8 hP.bk hy hl (fun sz' hsz h1 => ?_) (fun M N P9 V9 h1 hAF => ?_)
    · refine k1 _ _ _ _ _ _ (q_LQ.er 0 rfl (kQ _ _ _ _ _ hsz (by decide) (fun Q2 kR => ?_)))
      have hM1 := hM.rf (b := b) (k := 7 + 0) (v := (I b (7 + 0)) + 1) hP.bk hmb
      refine qC.wide (h := 3) (mc := 0) (ms := 0) (by decide) (by decide) (by decide) ?_
      refine mX8_addressR hM1.l3 hM1.sm hAm hv hy hVA hl hM1.m13 hP.bk hM1.z0 (fun _ => ?_) (fun _ h _ => absurd h h1)
      exact kR 0 _ _ (q_GE.rf hC hM hP hmb 0 (by decide) 1) (by rw [u2_a _ _ (by omega), u2_s]; rfl) (fun h => absurd h (by decide))
    · have hro : q_RO (g_oaddress (R 0) i l) := q_RO.of (b := R 0 2) (g_oaddress_VM hV hy h1) (g_oaddress_n (by omega)) (g_oaddress_RW hRW (by omega)) (g_oaddress_Z hZ (by omega)) (g_oaddress_SL hSL)
      refine k1 _ _ _ _ _ _ (q_LQ.ok (kQ 0 _ _ _ _ (Nat.le_refl _) (by decide) (fun Q2 kR => ?_)))
      have hM1 := fun z => hAF.gm (z := z) hM hP.bk hmb hmo
      refine qC.wide (h := 3) (mc := 0) (ms := 0) (by decide) (by decide) (by decide) ?_
      refine mX8_addressR (hM1 _).l3 (hM1 0).sm hAm hv hy hVA hl (hM1 0).m13 hP.bk (hM1 _).z0 (fun h => absurd h1 h) (fun L' _ hRm => ?_)
      exact kR _ _ _ (hAF.ge hC hM hP hmb hmo hro hRm (fun q k h1 h2 => by rw [q_row_n _ _ h1]) (q_row_s' _ _ _)) (by rw [u2_k _ _ (by decide), u2_s]) (fun _ => q_out_rm hRm hmo (fun q k h1 h2 => by rw [q_row_n _ _ h1]))
  · refine qC.wide (h := 4) (mc := 1) (ms := 6) (by decide) (by decide) (by decide) ?_
    refine mX7_address0 hC.st hA hC.pv hC.ov rfl (hC.wr 0 (Nat.zero_le _)) hV ha hn (fun sz' hsz => ?_)
    refine k1 _ _ _ _ _ _ (q_LQ.er 0 rfl (kQ _ _ _ _ _ hsz (by decide) (fun Q2 kR => ?_)))
    have hM1 := hM.rf (b := b) (k := 7 + 0) (v := (I b (7 + 0)) + 1) hP.bk hmb
    refine qC.wide (h := 3) (mc := 0) (ms := 0) (by decide) (by decide) (by decide) ?_
    refine mX8_address0R hM1.l3 hM1.sm hAm hv ha (by omega) ?_
    exact kR 0 _ _ (q_GE.rf hC hM hP hmb 0 (by decide) 1) (by rw [u2_a _ _ (by omega), u2_s]; rfl) (fun h => absurd h (by decide))

set_option maxRecDepth 100000 in
theorem pr_claim {G : q_G} {b m o : Nat} {T : q_T} {sz : Nat} {I L : q_I} {P : q_P} {a : Int} (hX : q_FX G T b m o) (hG : q_GE T b m I L P) (ha : -2147483648 ≤ a ∧ a < 2147483648) : q_PR G b m o T qL (fun z => z) YL_claim 5 [.ref b, qI a, .ref o] YX8_claim 4 [.ref m, qI a] sz I L P := by
  obtain ⟨hA, hmb, hmo, hTo⟩ := hX
  obtain ⟨V, bk, tp, B, R, f, cn, hC, hM, hP⟩ := hG
  have hV := (hP.ro 0 (Nat.zero_le _)).1
  have hv := hV.1
  have hAm : q_A G m := q_Ale hA (by omega)
  have hw2 := hv.month
  have hmany := hv.many
  have hlands := hv.lands
  have hrows := hv.rows
  have hmn : R 0 1 = ((R 0 1).toNat : Int) := by omega
  have hm12 : (R 0 1).toNat ≤ 12 := by omega
  have hRW := (hP.ro 0 (Nat.zero_le _)).2.1
  have hZ := (hP.ro 0 (Nat.zero_le _)).2.2.1
  have hSL := (hP.ro 0 (Nat.zero_le _)).2.2.2
  have hvs : ∀ i : Nat, i < (R 0 1).toNat → g_VA (R 0) i (R 0 2) := fun i hi => by have q := hV.2.1 i (by omega); rwa [if_neg (Nat.not_lt_zero _)] at q
  intro Q' kQ
  refine mL_claim (hx := 4) hC.st.t0 hTo (q_Ale hA (by omega)) (fun Q1 k1 => ?_)
  by_cases hn : 0 ≤ a ∧ a < R 0 1
  · obtain ⟨i, rfl⟩ : ∃ i : Nat, a = (i : Int) := ⟨a.toNat, by omega⟩
    have hy := hn.2
    have hVA := hvs i (by omega)
    refine qC.wide (h := 4) (mc := 1) (ms := 6) (by decide) (by decide) (by decide) ?_
    refine mX7_claim hC.st hA hC.pv hC.ov rfl (hC.wr 0 (Nat.zero_le _)) hV hC.b8 hP.bk hy (fun sz' hsz h1 => ?_) (fun M N P9 V9 l hl1 hl2 h1 hAF => ?_)
    · refine k1 _ _ _ _ _ _ (q_LQ.er 1 rfl (kQ _ _ _ _ _ hsz (by decide) (fun Q2 kR => ?_)))
      have hM1 := hM.rf (b := b) (k := 7 + 2) (v := (I b (7 + 2)) + 1) hP.bk hmb
      refine qC.wide (h := 4) (mc := 0) (ms := 0) (by decide) (by decide) (by decide) ?_
      refine mX8_claimR hM1.l3 hM1.sm hAm hv hy hVA (Int.le_refl _) hM1.m13 hP.bk hM1.z0 (fun _ => ?_) (fun _ _ _ _ h _ => absurd h h1)
      exact kR 0 _ _ (q_GE.rf hC hM hP hmb 2 (by decide) 2) (by rw [u2_a _ _ (by omega), u2_s]; rfl) (fun h => absurd h (by decide))
    · have hro : q_RO (g_oclaim (R 0) i l) := q_RO.of (b := R 0 2) (g_oclaim_VM hV hy h1.1 (by omega)) (g_oclaim_n (by omega) (by omega) (by omega) (by omega)) (g_oclaim_RW hRW (by omega) (by omega)) (g_oclaim_Z hZ (by omega) (by omega)) (g_oclaim_SL hSL (by omega))
      refine k1 _ _ _ _ _ _ (q_LQ.okl (kQ 0 _ _ _ _ (Nat.le_refl _) (by decide) (fun Q2 kR => ?_)))
      have hM1 := fun z => hAF.gm (z := z) hM hP.bk hmb hmo
      refine qC.wide (h := 4) (mc := 0) (ms := 0) (by decide) (by decide) (by decide) ?_
      refine mX8_claimR (hM1 _).l3 (hM1 0).sm hAm hv hy hVA (Int.le_refl _) (hM1 0).m13 hP.bk (hM1 _).z0 (fun h => absurd h1 h) (fun L' l9 hl9 _ _ hRm => ?_)
      obtain rfl : l9 = l := by omega
      exact kR _ _ _ (hAF.ge hC hM hP hmb hmo hro hRm (fun q k h1 h2 => by rw [q_row_n _ _ h1]) (q_row_s' _ _ _)) (by rw [u2_k _ _ (by decide), u2_s]) (fun _ => q_out_rm hRm hmo (fun q k h1 h2 => by rw [q_row_n _ _ h1]))
  · refine qC.wide (h := 4) (mc := 1) (ms := 6) (by decide) (by decide) (by decide) ?_
    refine mX7_claim0 hC.st hA hC.pv hC.ov rfl (hC.wr 0 (Nat.zero_le _)) hV ha hn (fun sz' hsz => ?_)
    refine k1 _ _ _ _ _ _ (q_LQ.er 0 rfl (kQ _ _ _ _ _ hsz (by decide) (fun Q2 kR => ?_)))
    have hM1 := hM.rf (b := b) (k := 7 + 0) (v := (I b (7 + 0)) + 1) hP.bk hmb
    refine qC.wide (h := 4) (mc := 0) (ms := 0) (by decide) (by decide) (by decide) ?_
    refine mX8_claim0R hM1.l3 hM1.sm hAm hv ha (by omega) ?_
    exact kR 0 _ _ (q_GE.rf hC hM hP hmb 0 (by decide) 1) (by rw [u2_a _ _ (by omega), u2_s]; rfl) (fun h => absurd h (by decide))

set_option maxRecDepth 100000 in
theorem pr_pass {G : q_G} {b m o : Nat} {T : q_T} {sz : Nat} {I L : q_I} {P : q_P} {a : Int} (hX : q_FX G T b m o) (hG : q_GE T b m I L P) (ha : -2147483648 ≤ a ∧ a < 2147483648) : q_PR G b m o T qI q_w32 YL_pass 5 [.ref b, qI a, .ref o] YX8_pass 3 [.ref m, qI a] sz I L P := by
  obtain ⟨hA, hmb, hmo, hTo⟩ := hX
  obtain ⟨V, bk, tp, B, R, f, cn, hC, hM, hP⟩ := hG
  have hV := (hP.ro 0 (Nat.zero_le _)).1
  have hv := hV.1
  have hAm : q_A G m := q_Ale hA (by omega)
  have hw2 := hv.month
  have hmany := hv.many
  have hlands := hv.lands
  have hrows := hv.rows
  have hmn : R 0 1 = ((R 0 1).toNat : Int) := by omega
  have hm12 : (R 0 1).toNat ≤ 12 := by omega
  have hRW := (hP.ro 0 (Nat.zero_le _)).2.1
  have hZ := (hP.ro 0 (Nat.zero_le _)).2.2.1
  have hSL := (hP.ro 0 (Nat.zero_le _)).2.2.2
  have hvs : ∀ i : Nat, i < (R 0 1).toNat → g_VA (R 0) i (R 0 2) := fun i hi => by have q := hV.2.1 i (by omega); rwa [if_neg (Nat.not_lt_zero _)] at q
  intro Q' kQ
  refine mL_pass (hx := 4) hC.st.t0 hTo (q_Ale hA (by omega)) (fun Q1 k1 => ?_)
  by_cases hn : 0 ≤ a ∧ a < R 0 1
  · obtain ⟨i, rfl⟩ : ∃ i : Nat, a = (i : Int) := ⟨a.toNat, by omega⟩
    have hy := hn.2
    have hVA := hvs i (by omega)
    refine qC.wide (h := 4) (mc := 1) (ms := 6) (by decide) (by decide) (by decide) ?_
    refine mX7_pass hC.st hA hC.pv hC.ov rfl (hC.wr 0 (Nat.zero_le _)) hV hC.b8 hP.bk hy (fun sz' hsz h1 => ?_) (fun M N P9 V9 l hl1 h1 hAF => ?_)
    · refine k1 _ _ _ _ _ _ (q_LQ.er 1 rfl (kQ _ _ _ _ _ hsz (by decide) (fun Q2 kR => ?_)))
      have hM1 := hM.rf (b := b) (k := 7 + 2) (v := (I b (7 + 2)) + 1) hP.bk hmb
      refine qC.wide (h := 3) (mc := 0) (ms := 0) (by decide) (by decide) (by decide) ?_
      refine mX8_passR hM1.l3 hM1.sm hAm hv hy hVA (show R 0 2 ≤ 7000 by omega) hM1.m13 hP.bk hM1.z0 (fun _ => ?_) (fun _ _ _ h _ => absurd h h1)
      exact kR 0 _ _ (q_GE.rf hC hM hP hmb 2 (by decide) 2) (by rw [u2_a _ _ (by omega), u2_s]; rfl) (fun h => absurd h (by decide))
    · have hlr := (g_bel_tk hv hVA h1.2.1).1
      rw [hl1] at hlr
      have hro : q_RO (g_opass (R 0) i l) := q_RO.of (b := R 0 2) (g_opass_VM hV hy h1.1 hlr.2.1) (g_opass_n (by omega) (by omega)) (g_opass_RW hRW (by omega) (by omega)) (g_opass_Z hZ (by omega) (by omega)) (g_opass_SL hSL (by omega))
      refine k1 _ _ _ _ _ _ (q_LQ.ok (kQ 0 _ _ _ _ (Nat.le_refl _) (by decide) (fun Q2 kR => ?_)))
      have hM1 := fun z => hAF.gm (z := z) hM hP.bk hmb hmo
      refine qC.wide (h := 3) (mc := 0) (ms := 0) (by decide) (by decide) (by decide) ?_
      refine mX8_passR (hM1 _).l3 (hM1 0).sm hAm hv hy hVA (show R 0 2 ≤ 7000 by omega) (hM1 0).m13 hP.bk (hM1 _).z0 (fun h => absurd h1 h) (fun L' l9 hl9 _ hRm => ?_)
      obtain rfl : l9 = l := by omega
      exact kR _ _ _ (hAF.ge hC hM hP hmb hmo hro hRm (fun q k h1 h2 => by rw [q_row_n _ _ h1]) (q_row_s' _ _ _)) (by rw [u2_k _ _ (by decide), u2_s]) (fun _ => q_out_rm hRm hmo (fun q k h1 h2 => by rw [q_row_n _ _ h1]))
  · refine qC.wide (h := 4) (mc := 1) (ms := 6) (by decide) (by decide) (by decide) ?_
    refine mX7_pass0 hC.st hA hC.pv hC.ov rfl (hC.wr 0 (Nat.zero_le _)) hV ha hn (fun sz' hsz => ?_)
    refine k1 _ _ _ _ _ _ (q_LQ.er 0 rfl (kQ _ _ _ _ _ hsz (by decide) (fun Q2 kR => ?_)))
    have hM1 := hM.rf (b := b) (k := 7 + 0) (v := (I b (7 + 0)) + 1) hP.bk hmb
    refine qC.wide (h := 3) (mc := 0) (ms := 0) (by decide) (by decide) (by decide) ?_
    refine mX8_pass0R hM1.l3 hM1.sm hAm hv ha (by omega) ?_
    exact kR 0 _ _ (q_GE.rf hC hM hP hmb 0 (by decide) 1) (by rw [u2_a _ _ (by omega), u2_s]; rfl) (fun h => absurd h (by decide))

set_option maxRecDepth 100000 in
theorem pr_open {G : q_G} {b m o : Nat} {T : q_T} {sz : Nat} {I L : q_I} {P : q_P} {k ad bi ce : Int} (hX : q_FX G T b m o) (hG : q_GE T b m I L P) (hk : -2147483648 ≤ k ∧ k < 2147483648) (had : -2147483648 ≤ ad ∧ ad < 2147483648) (hbi : -2147483648 ≤ bi ∧ bi < 2147483648) (hce : -2147483648 ≤ ce ∧ ce < 2147483648) : q_PR G b m o T qI q_w32 YL_open 5 [.ref b, qI k, qI ad, qI bi, qI ce, .ref o] YX8_open 4 [.ref m, qI k, qI ad, qI bi, qI ce] sz I L P := by
  obtain ⟨hA, hmb, hmo, hTo⟩ := hX
  obtain ⟨V, bk, tp, B, R, f, cn, hC, hM, hP⟩ := hG
  have hV := (hP.ro 0 (Nat.zero_le _)).1
  have hv := hV.1
  have hAm : q_A G m := q_Ale hA (by omega)
  have hw2 := hv.month
  have hmany := hv.many
  have hlands := hv.lands
  have hrows := hv.rows
  have hmn : R 0 1 = ((R 0 1).toNat : Int) := by omega
  have hm12 : (R 0 1).toNat ≤ 12 := by omega
  have hRW := (hP.ro 0 (Nat.zero_le _)).2.1
  have hZ := (hP.ro 0 (Nat.zero_le _)).2.2.1
  have hSL := (hP.ro 0 (Nat.zero_le _)).2.2.2
  have hvs : ∀ i : Nat, i < (R 0 1).toNat → g_VA (R 0) i (R 0 2) := fun i hi => by have q := hV.2.1 i (by omega); rwa [if_neg (Nat.not_lt_zero _)] at q
  intro Q' kQ
  refine mL_open (hx := 4) hC.st.t0 hTo (q_Ale hA (by omega)) (fun Q1 k1 => ?_)
  refine qC.wide (h := 4) (mc := 1) (ms := 6) (by decide) (by decide) (by decide) ?_
  refine mX7_open hC.st hA hC.pv hC.ov rfl (hC.wr 0 (Nat.zero_le _)) hV hC.b8 hP.bk hmn hk had hbi hce (fun sz' hsz x1 => ?_) (fun sz' hsz x1 x2 => ?_) (fun sz' hsz x1 x2 x3 => ?_) (fun M N P9 V9 x1 x2 x3 hAF => ?_)
  · refine k1 _ _ _ _ _ _ (q_LQ.er 0 rfl (kQ _ _ _ _ _ hsz (by decide) (fun Q2 kR => ?_)))
    have hM1 := hM.rf (b := b) (k := 7 + 0) (v := (I b (7 + 0)) + 1) hP.bk hmb
    refine qC.wide (h := 4) (mc := 0) (ms := 0) (by decide) (by decide) (by decide) ?_
    refine mX8_openR hM1.l3 hM1.sm hAm hv hmn hk had hbi hce hM1.m13 hP.bk hM1.z0 (fun _ => ?_) (fun h _ => absurd h x1) (fun h _ _ => absurd h x1) (fun _ h _ _ _ => absurd h x1)
    exact kR 0 _ _ (q_GE.rf hC hM hP hmb 0 (by decide) 1) (by rw [u2_a _ _ (by omega), u2_s]; rfl) (fun h => absurd h (by decide))
  · refine k1 _ _ _ _ _ _ (q_LQ.er 1 rfl (kQ _ _ _ _ _ hsz (by decide) (fun Q2 kR => ?_)))
    have hM1 := hM.rf (b := b) (k := 7 + 1) (v := (I b (7 + 1)) + 1) hP.bk hmb
    refine qC.wide (h := 4) (mc := 0) (ms := 0) (by decide) (by decide) (by decide) ?_
    refine mX8_openR hM1.l3 hM1.sm hAm hv hmn hk had hbi hce hM1.m13 hP.bk hM1.z0 (fun h => absurd x1 h) (fun _ _ => ?_) (fun _ h _ => absurd h x2) (fun _ _ h _ _ => absurd h x2)
    exact kR 0 _ _ (q_GE.rf hC hM hP hmb 1 (by decide) 2) (by rw [u2_a _ _ (by omega), u2_s]; rfl) (fun h => absurd h (by decide))
  · refine k1 _ _ _ _ _ _ (q_LQ.er 2 rfl (kQ _ _ _ _ _ hsz (by decide) (fun Q2 kR => ?_)))
    have hM1 := hM.rf (b := b) (k := 7 + 2) (v := (I b (7 + 2)) + 1) hP.bk hmb
    refine qC.wide (h := 4) (mc := 0) (ms := 0) (by decide) (by decide) (by decide) ?_
    refine mX8_openR hM1.l3 hM1.sm hAm hv hmn hk had hbi hce hM1.m13 hP.bk hM1.z0 (fun h => absurd x1 h) (fun _ h => absurd x2 h) (fun _ _ _ => ?_) (fun _ _ _ h _ => by omega)
    exact kR 0 _ _ (q_GE.rf hC hM hP hmb 2 (by decide) 3) (by rw [u2_a _ _ (by omega), u2_s]; rfl) (fun h => absurd h (by decide))
  · have hro : q_RO (g_oopen (R 0) (R 0 1).toNat k ad bi ce) := q_RO.of (b := R 0 2) (g_oopen_VM hV hw2.1 hmn x3 x2.1 x1.1 x1.2 x2.2) (g_oopen_n (by omega) (by omega) (by omega)) (g_oopen_RW hRW x3) (g_oopen_Z hZ x3) (g_oopen_SL hSL hmn x3)
    refine k1 _ _ _ _ _ _ (q_LQ.ok (kQ 0 _ _ _ _ (Nat.le_refl _) (by decide) (fun Q2 kR => ?_)))
    have hM1 := fun z => hAF.gm (z := z) hM hP.bk hmb hmo
    refine qC.wide (h := 4) (mc := 0) (ms := 0) (by decide) (by decide) (by decide) ?_
    refine mX8_openR (hM1 _).l3 (hM1 0).sm hAm hv hmn hk had hbi hce (hM1 0).m13 hP.bk (hM1 _).z0 (fun h => absurd x1 h) (fun _ h => absurd x2 h) (fun _ _ h => by omega) (fun L' _ _ _ hRm => ?_)
    exact kR _ _ _ (hAF.ge hC hM hP hmb hmo hro hRm (fun q k h1 h2 => by rw [q_row_n _ _ h1]) (q_row_s' _ _ _)) (by rw [u2_k _ _ (by decide), u2_s]) (fun _ => q_out_rm hRm hmo (fun q k h1 h2 => by rw [q_row_n _ _ h1]))

set_option maxRecDepth 100000 in
theorem pr_months {G : q_G} {b m o : Nat} {T : q_T} {sz : Nat} {I L : q_I} {P : q_P} {n : Int} (hX : q_FX G T b m o) (hG : q_GE T b m I L P) (hn : -2147483648 ≤ n ∧ n < 2147483648) : q_PR G b m o T qI q_w32 YL_months 8 [.ref b, qI n, .ref o] YX8_months 6 [.ref m, qI n] sz I L P := by
  obtain ⟨hA, hmb, hmo, hTo⟩ := hX
  obtain ⟨V, bk, tp, B, R, f, cn, hC, hM, hP⟩ := hG
  have hV := (hP.ro 0 (Nat.zero_le _)).1
  have hv := hV.1
  have hAm : q_A G m := q_Ale hA (by omega)
  have hw2 := hv.month
  have hmany := hv.many
  have hlands := hv.lands
  have hrows := hv.rows
  have hmn : R 0 1 = ((R 0 1).toNat : Int) := by omega
  have hm12 : (R 0 1).toNat ≤ 12 := by omega
  have hRW := (hP.ro 0 (Nat.zero_le _)).2.1
  have hZ := (hP.ro 0 (Nat.zero_le _)).2.2.1
  have hSL := (hP.ro 0 (Nat.zero_le _)).2.2.2
  have hvs : ∀ i : Nat, i < (R 0 1).toNat → g_VA (R 0) i (R 0 2) := fun i hi => by have q := hV.2.1 i (by omega); rwa [if_neg (Nat.not_lt_zero _)] at q
  intro Q' kQ
  refine mL_months (hx := 7) hC.st.t0 hTo (q_Ale hA (by omega)) (fun Q1 k1 => ?_)
  by_cases hx : 1 ≤ n ∧ n ≤ 120
  · obtain ⟨nn, rfl⟩ : ∃ nn : Nat, n = (nn : Int) := ⟨n.toNat, by omega⟩
    have hnn : 1 ≤ nn ∧ nn ≤ 120 := by omega
    refine qC.wide (h := 7) (mc := 1) (ms := 6) (by decide) (by decide) (by decide) ?_
    refine mX7_months hC.st hA hC.pv hC.ov rfl (hC.wr 0 (Nat.zero_le _)) hV hC.b8 hP.bk hZ hnn (fun sz' hsz x1 => ?_) (fun M N P9 V9 x1 hAF => ?_)
    · refine k1 _ _ _ _ _ _ (q_LQ.er 1 rfl (kQ _ _ _ _ _ hsz (by decide) (fun Q2 kR => ?_)))
      have hM1 := hM.rf (b := b) (k := 7 + 2) (v := (I b (7 + 2)) + 1) hP.bk hmb
      refine qC.wide (h := 6) (mc := 0) (ms := 0) (by decide) (by decide) (by decide) ?_
      refine mX8_monthsR hM1.l3 hM1.sm hAm hv hnn hV hM1.m13 hP.bk hM1.z0 (fun _ => ?_) (fun _ _ h _ _ _ => absurd h x1)
      exact kR 0 _ _ (q_GE.rf hC hM hP hmb 2 (by decide) 2) (by rw [u2_a _ _ (by omega), u2_s]; rfl) (fun h => absurd h (by decide))
    · have hro : q_RO ((g_months nn (R 0)).2) := (hP.ro 0 (Nat.zero_le _)).months nn
      refine k1 _ _ _ _ _ _ (q_LQ.ok (kQ 0 _ _ _ _ (Nat.le_refl _) (by decide) (fun Q2 kR => ?_)))
      have hM1 := fun z => hAF.gm (z := z) hM hP.bk hmb hmo
      refine qC.wide (h := 6) (mc := 0) (ms := 0) (by decide) (by decide) (by decide) ?_
      refine mX8_monthsR (hM1 _).l3 (hM1 0).sm hAm hv hnn hV (hM1 0).m13 hP.bk (hM1 _).z0 (fun h => absurd x1 h) (fun L1 L' _ hRm h2 h3 => ?_)
      exact kR _ _ _ (hAF.ge hC hM hP hmb hmo hro hRm h2 h3) (by rw [u2_k _ _ (by decide), u2_s]) (fun _ => q_out_rm hRm hmo h2)
  · refine qC.wide (h := 7) (mc := 1) (ms := 6) (by decide) (by decide) (by decide) ?_
    refine mX7_months0 hC.st hA hC.pv hC.ov rfl (hC.wr 0 (Nat.zero_le _)) hV hn hx (fun sz' hsz => ?_)
    refine k1 _ _ _ _ _ _ (q_LQ.er 0 rfl (kQ _ _ _ _ _ hsz (by decide) (fun Q2 kR => ?_)))
    have hM1 := hM.rf (b := b) (k := 7 + 1) (v := (I b (7 + 1)) + 1) hP.bk hmb
    refine qC.wide (h := 6) (mc := 0) (ms := 0) (by decide) (by decide) (by decide) ?_
    refine mX8_months0R hM1.l3 hM1.sm hAm hv hn hx ?_
    exact kR 0 _ _ (q_GE.rf hC hM hP hmb 1 (by decide) 1) (by rw [u2_a _ _ (by omega), u2_s]; rfl) (fun h => absurd h (by decide))

set_option maxRecDepth 100000 in
theorem pr_told {G : q_G} {b m o : Nat} {T : q_T} {sz : Nat} {I L : q_I} {P : q_P} {w : Int} (hX : q_FX G T b m o) (hG : q_GE T b m I L P) (hw : -2147483648 ≤ w ∧ w < 2147483648) : q_PR G b m o T qI q_w32 YL_told 4 [.ref b, qI w, .ref o] YX8_told 2 [.ref m, qI w] sz I L P := by
  obtain ⟨hA, hmb, hmo, hTo⟩ := hX
  obtain ⟨V, bk, tp, B, R, f, cn, hC, hM, hP⟩ := hG
  have hV := (hP.ro 0 (Nat.zero_le _)).1
  have hv := hV.1
  have hAm : q_A G m := q_Ale hA (by omega)
  have hw2 := hv.month
  have hmany := hv.many
  have hlands := hv.lands
  have hrows := hv.rows
  have hmn : R 0 1 = ((R 0 1).toNat : Int) := by omega
  have hm12 : (R 0 1).toNat ≤ 12 := by omega
  have hRW := (hP.ro 0 (Nat.zero_le _)).2.1
  have hZ := (hP.ro 0 (Nat.zero_le _)).2.2.1
  have hSL := (hP.ro 0 (Nat.zero_le _)).2.2.2
  have hvs : ∀ i : Nat, i < (R 0 1).toNat → g_VA (R 0) i (R 0 2) := fun i hi => by have q := hV.2.1 i (by omega); rwa [if_neg (Nat.not_lt_zero _)] at q
  intro Q' kQ
  refine mL_told (hx := 3) hC.st.t0 hTo (q_Ale hA (by omega)) (fun Q1 k1 => ?_)
  refine qC.wide (h := 3) (mc := 1) (ms := 6) (by decide) (by decide) (by decide) ?_
  refine mX7_told hC.st hA hC.pv hC.ov rfl (hC.wr 0 (Nat.zero_le _)) hV hmn hSL hw (fun sz' hsz x1 => ?_) (fun x1 => ?_)
  · refine k1 _ _ _ _ _ _ (q_LQ.er 0 rfl (kQ _ _ _ _ _ hsz (by decide) (fun Q2 kR => ?_)))
    have hM1 := hM.rf (b := b) (k := 7 + 1) (v := (I b (7 + 1)) + 1) hP.bk hmb
    refine qC.wide (h := 2) (mc := 0) (ms := 0) (by decide) (by decide) (by decide) ?_
    refine mX8_told0R hM1.l3 hM1.sm hAm hv hw x1 ?_
    exact kR 0 _ _ (q_GE.rf hC hM hP hmb 1 (by decide) 1) (by rw [u2_a _ _ (by omega), u2_s]; rfl) (fun h => absurd h (by decide))
  · obtain ⟨n, rfl⟩ : ∃ n : Nat, w = (n : Int) := ⟨w.toNat, by omega⟩
    have ez : g_toldQ (R 0) (I b 4) (I b 6) (n : Int) = if n < 8 then R 0 n else if n = 8 then I m 2 else I m 13 := by
      unfold g_toldQ
      rw [hC.b6, hC.b8, hM.m2, hM.m13]
      by_cases h8 : n < 8
      · rw [if_pos (by omega), if_pos h8]; rfl
      · rw [if_neg (by omega), if_neg h8]
        by_cases h9 : n = 8
        · rw [if_pos (by omega), if_pos h9]
        · rw [if_neg (by omega), if_neg h9]
    have hK : q_AK b (V 0) I L I L := q_AK.rf hC
    refine k1 _ _ _ _ _ _ (q_LQ.ok (kQ 0 _ _ _ _ (Nat.le_refl _) (by decide) (fun Q2 kR => ?_)))
    have hM1 := fun z => hK.gm (o := o) (z := z) (by have := hC.ov.r (i := 0) (by omega); omega) hM hP.bk hmb hmo
    refine qC.wide (h := 2) (mc := 0) (ms := 0) (by decide) (by decide) (by decide) ?_
    refine mX8_toldR (hM1 _).l3 (hM1 0).sm hAm hv (w := n) (by omega) ?_
    exact kR _ _ _ (hK.ge hC hM hP hmb hmo (fun _ _ _ _ _ _ => rfl) ((hM1 _).z0)) (u2_s _ _ _ _) (fun _ => (u2_s _ _ _ _).trans (congrArg q_w32 (ez)))

set_option maxRecDepth 100000 in
theorem pr_pays {G : q_G} {b m o : Nat} {T : q_T} {sz : Nat} {I L : q_I} {P : q_P} {w : Int} (hX : q_FX G T b m o) (hG : q_GE T b m I L P) (hw : -2147483648 ≤ w ∧ w < 2147483648) : q_PR G b m o T qI q_w32 YL_pays 4 [.ref b, qI w, .ref o] YX8_pays 2 [.ref m, qI w] sz I L P := by
  obtain ⟨hA, hmb, hmo, hTo⟩ := hX
  obtain ⟨V, bk, tp, B, R, f, cn, hC, hM, hP⟩ := hG
  have hV := (hP.ro 0 (Nat.zero_le _)).1
  have hv := hV.1
  have hAm : q_A G m := q_Ale hA (by omega)
  have hw2 := hv.month
  have hmany := hv.many
  have hlands := hv.lands
  have hrows := hv.rows
  have hmn : R 0 1 = ((R 0 1).toNat : Int) := by omega
  have hm12 : (R 0 1).toNat ≤ 12 := by omega
  have hRW := (hP.ro 0 (Nat.zero_le _)).2.1
  have hZ := (hP.ro 0 (Nat.zero_le _)).2.2.1
  have hSL := (hP.ro 0 (Nat.zero_le _)).2.2.2
  have hvs : ∀ i : Nat, i < (R 0 1).toNat → g_VA (R 0) i (R 0 2) := fun i hi => by have q := hV.2.1 i (by omega); rwa [if_neg (Nat.not_lt_zero _)] at q
  intro Q' kQ
  refine mL_pays (hx := 3) hC.st.t0 hTo (q_Ale hA (by omega)) (fun Q1 k1 => ?_)
  refine qC.wide (h := 3) (mc := 1) (ms := 6) (by decide) (by decide) (by decide) ?_
  refine mX7_pays hC.st hA hC.pv hC.ov rfl (hC.wr 0 (Nat.zero_le _)) hV hw (fun sz' hsz x1 => ?_) (fun x1 => ?_)
  · refine k1 _ _ _ _ _ _ (q_LQ.er 0 rfl (kQ _ _ _ _ _ hsz (by decide) (fun Q2 kR => ?_)))
    have hM1 := hM.rf (b := b) (k := 7 + 1) (v := (I b (7 + 1)) + 1) hP.bk hmb
    refine qC.wide (h := 2) (mc := 0) (ms := 0) (by decide) (by decide) (by decide) ?_
    refine mX8_pays0R hM1.l3 hM1.sm hAm hv hw x1 ?_
    exact kR 0 _ _ (q_GE.rf hC hM hP hmb 1 (by decide) 1) (by rw [u2_a _ _ (by omega), u2_s]; rfl) (fun h => absurd h (by decide))
  · obtain ⟨n, rfl⟩ : ∃ n : Nat, w = (n : Int) := ⟨w.toNat, by omega⟩
    have hK : q_AK b (V 0) I L I L := q_AK.rf hC
    refine k1 _ _ _ _ _ _ (q_LQ.ok (kQ 0 _ _ _ _ (Nat.le_refl _) (by decide) (fun Q2 kR => ?_)))
    have hM1 := fun z => hK.gm (o := o) (z := z) (by have := hC.ov.r (i := 0) (by omega); omega) hM hP.bk hmb hmo
    refine qC.wide (h := 2) (mc := 0) (ms := 0) (by decide) (by decide) (by decide) ?_
    refine mX8_paysR (hM1 _).l3 (hM1 0).sm hAm hv (w := n) (by omega) ?_
    exact kR _ _ _ (hK.ge hC hM hP hmb hmo (fun _ _ _ _ _ _ => rfl) ((hM1 _).z0)) (u2_s _ _ _ _) (fun _ => (u2_s _ _ _ _).trans (congrArg q_w32 (rfl)))

set_option maxRecDepth 100000 in
theorem pr_land {G : q_G} {b m o : Nat} {T : q_T} {sz : Nat} {I L : q_I} {P : q_P} {l w : Int} (hX : q_FX G T b m o) (hG : q_GE T b m I L P) (hl : -2147483648 ≤ l ∧ l < 2147483648) (hw : -2147483648 ≤ w ∧ w < 2147483648) : q_PR G b m o T qI q_w32 YL_land 6 [.ref b, qI l, qI w, .ref o] YX8_land 4 [.ref m, qI l, qI w] sz I L P := by
  obtain ⟨hA, hmb, hmo, hTo⟩ := hX
  obtain ⟨V, bk, tp, B, R, f, cn, hC, hM, hP⟩ := hG
  have hV := (hP.ro 0 (Nat.zero_le _)).1
  have hv := hV.1
  have hAm : q_A G m := q_Ale hA (by omega)
  have hw2 := hv.month
  have hmany := hv.many
  have hlands := hv.lands
  have hrows := hv.rows
  have hmn : R 0 1 = ((R 0 1).toNat : Int) := by omega
  have hm12 : (R 0 1).toNat ≤ 12 := by omega
  have hRW := (hP.ro 0 (Nat.zero_le _)).2.1
  have hZ := (hP.ro 0 (Nat.zero_le _)).2.2.1
  have hSL := (hP.ro 0 (Nat.zero_le _)).2.2.2
  have hvs : ∀ i : Nat, i < (R 0 1).toNat → g_VA (R 0) i (R 0 2) := fun i hi => by have q := hV.2.1 i (by omega); rwa [if_neg (Nat.not_lt_zero _)] at q
  intro Q' kQ
  refine mL_land (hx := 5) hC.st.t0 hTo (q_Ale hA (by omega)) (fun Q1 k1 => ?_)
  by_cases hn : 0 ≤ l ∧ l < R 0 0
  · obtain ⟨i, rfl⟩ : ∃ i : Nat, l = (i : Int) := ⟨l.toNat, by omega⟩
    have hy := hn.2
    refine qC.wide (h := 5) (mc := 1) (ms := 6) (by decide) (by decide) (by decide) ?_
    refine mX7_land hC.st hA hC.pv hC.ov rfl (hC.wr 0 (Nat.zero_le _)) hV hmn hy hw (fun sz' hsz x1 => ?_) (fun x1 => ?_)
    · refine k1 _ _ _ _ _ _ (q_LQ.er 1 rfl (kQ _ _ _ _ _ hsz (by decide) (fun Q2 kR => ?_)))
      have hM1 := hM.rf (b := b) (k := 7 + 1) (v := (I b (7 + 1)) + 1) hP.bk hmb
      refine qC.wide (h := 4) (mc := 0) (ms := 0) (by decide) (by decide) (by decide) ?_
      refine mX8_land0R hM1.l3 hM1.sm hAm hv hy hw x1 ?_
      exact kR 0 _ _ (q_GE.rf hC hM hP hmb 1 (by decide) 2) (by rw [u2_a _ _ (by omega), u2_s]; rfl) (fun h => absurd h (by decide))
    · obtain ⟨n, rfl⟩ : ∃ n : Nat, w = (n : Int) := ⟨w.toNat, by omega⟩
      by_cases h4 : n < 4
      · have ez : g_landQ (R 0) i (R 0 1).toNat (n : Int) = R 0 (31 + 13 * i + n) := by unfold g_landQ; rw [if_pos (by omega)]; rfl
        have hK : q_AK b (V 0) I L I L := q_AK.rf hC
        refine k1 _ _ _ _ _ _ (q_LQ.ok (kQ 0 _ _ _ _ (Nat.le_refl _) (by decide) (fun Q2 kR => ?_)))
        have hM1 := fun z => hK.gm (o := o) (z := z) (by have := hC.ov.r (i := 0) (by omega); omega) hM hP.bk hmb hmo
        refine qC.wide (h := 4) (mc := 0) (ms := 0) (by decide) (by decide) (by decide) ?_
        refine mX8_landR (hM1 _).l3 (hM1 0).sm hAm hv hy h4 ?_
        exact kR _ _ _ (hK.ge hC hM hP hmb hmo (fun _ _ _ _ _ _ => rfl) ((hM1 _).z0)) (u2_s _ _ _ _) (fun _ => (u2_s _ _ _ _).trans (congrArg q_w32 (ez)))
      by_cases h5 : n = 4
      · subst h5
        have ez : g_landQ (R 0) i (R 0 1).toNat ((4 : Nat) : Int) = g_set (fun k => 0 < R 0 (90 + 2 * (5 * k + i))) 5 := by unfold g_landQ; rw [if_neg (by decide), if_pos (by decide)]
        have hK : q_AK b (V 0) I L I L := q_AK.rf hC
        refine k1 _ _ _ _ _ _ (q_LQ.ok (kQ 0 _ _ _ _ (Nat.le_refl _) (by decide) (fun Q2 kR => ?_)))
        have hM1 := fun z => hK.gm (o := o) (z := z) (by have := hC.ov.r (i := 0) (by omega); omega) hM hP.bk hmb hmo
        refine qC.wide (h := 4) (mc := 0) (ms := 0) (by decide) (by decide) (by decide) ?_
        refine mX8_land4R (hM1 _).l3 (hM1 0).sm hAm hv hy ?_
        exact kR _ _ _ (hK.ge hC hM hP hmb hmo (fun _ _ _ _ _ _ => rfl) ((hM1 _).z0)) (u2_s _ _ _ _) (fun _ => (u2_s _ _ _ _).trans (congrArg q_w32 (ez)))
      obtain rfl : n = 5 := by omega
      have ez : g_landQ (R 0) i (R 0 1).toNat ((5 : Nat) : Int) = g_set (fun k => R 0 (1043 + 12 * k) = 2 ∧ R 0 (1047 + 12 * k) = (i : Int)) (R 0 1).toNat := by unfold g_landQ; rw [if_neg (by decide), if_neg (by decide)]
      have hK : q_AK b (V 0) I L I L := q_AK.rf hC
      refine k1 _ _ _ _ _ _ (q_LQ.ok (kQ 0 _ _ _ _ (Nat.le_refl _) (by decide) (fun Q2 kR => ?_)))
      have hM1 := fun z => hK.gm (o := o) (z := z) (by have := hC.ov.r (i := 0) (by omega); omega) hM hP.bk hmb hmo
      refine qC.wide (h := 4) (mc := 0) (ms := 0) (by decide) (by decide) (by decide) ?_
      refine mX8_land5R (hM1 _).l3 (hM1 0).sm hAm hv hmn hm12 hvs hy ?_
      exact kR _ _ _ (hK.ge hC hM hP hmb hmo (fun _ _ _ _ _ _ => rfl) ((hM1 _).z0)) (u2_s _ _ _ _) (fun _ => (u2_s _ _ _ _).trans (congrArg q_w32 (ez)))
  · refine qC.wide (h := 4) (mc := 1) (ms := 6) (by decide) (by decide) (by decide) ?_
    refine mX7_land0 hC.st hA hC.pv hC.ov rfl (hC.wr 0 (Nat.zero_le _)) hV hl hn (fun sz' hsz => ?_)
    refine k1 _ _ _ _ _ _ (q_LQ.er 0 rfl (kQ _ _ _ _ _ hsz (by decide) (fun Q2 kR => ?_)))
    have hM1 := hM.rf (b := b) (k := 7 + 0) (v := (I b (7 + 0)) + 1) hP.bk hmb
    refine qC.wide (h := 4) (mc := 0) (ms := 0) (by decide) (by decide) (by decide) ?_
    refine mX8_land00R hM1.l3 hM1.sm hAm hv hl (by omega) ?_
    exact kR 0 _ _ (q_GE.rf hC hM hP hmb 0 (by decide) 1) (by rw [u2_a _ _ (by omega), u2_s]; rfl) (fun h => absurd h (by decide))

set_option maxRecDepth 100000 in
theorem pr_purse {G : q_G} {b m o : Nat} {T : q_T} {sz : Nat} {I L : q_I} {P : q_P} {l w : Int} (hX : q_FX G T b m o) (hG : q_GE T b m I L P) (hl : -2147483648 ≤ l ∧ l < 2147483648) (hw : -2147483648 ≤ w ∧ w < 2147483648) : q_PR G b m o T qL (fun z => z) YL_purse 7 [.ref b, qI l, qI w, .ref o] YX8_purse 4 [.ref m, qI l, qI w] sz I L P := by
  obtain ⟨hA, hmb, hmo, hTo⟩ := hX
  obtain ⟨V, bk, tp, B, R, f, cn, hC, hM, hP⟩ := hG
  have hV := (hP.ro 0 (Nat.zero_le _)).1
  have hv := hV.1
  have hAm : q_A G m := q_Ale hA (by omega)
  have hw2 := hv.month
  have hmany := hv.many
  have hlands := hv.lands
  have hrows := hv.rows
  have hmn : R 0 1 = ((R 0 1).toNat : Int) := by omega
  have hm12 : (R 0 1).toNat ≤ 12 := by omega
  have hRW := (hP.ro 0 (Nat.zero_le _)).2.1
  have hZ := (hP.ro 0 (Nat.zero_le _)).2.2.1
  have hSL := (hP.ro 0 (Nat.zero_le _)).2.2.2
  have hvs : ∀ i : Nat, i < (R 0 1).toNat → g_VA (R 0) i (R 0 2) := fun i hi => by have q := hV.2.1 i (by omega); rwa [if_neg (Nat.not_lt_zero _)] at q
  intro Q' kQ
  refine mL_purse (hx := 6) hC.st.t0 hTo (q_Ale hA (by omega)) (fun Q1 k1 => ?_)
  by_cases hn : 0 ≤ l ∧ l < R 0 0
  · obtain ⟨i, rfl⟩ : ∃ i : Nat, l = (i : Int) := ⟨l.toNat, by omega⟩
    have hy := hn.2
    refine qC.wide (h := 6) (mc := 1) (ms := 6) (by decide) (by decide) (by decide) ?_
    refine mX7_purse hC.st hA hC.pv hC.ov rfl (hC.wr 0 (Nat.zero_le _)) hV hmn (show R 0 6 = ((R 0 6).toNat : Int) by omega) hRW hy hw (fun sz' hsz x1 => ?_) (fun x1 => ?_)
    · refine k1 _ _ _ _ _ _ (q_LQ.er 1 rfl (kQ _ _ _ _ _ hsz (by decide) (fun Q2 kR => ?_)))
      have hM1 := hM.rf (b := b) (k := 7 + 1) (v := (I b (7 + 1)) + 1) hP.bk hmb
      refine qC.wide (h := 4) (mc := 0) (ms := 0) (by decide) (by decide) (by decide) ?_
      refine mX8_purse0R hM1.l3 hM1.sm hAm hv hy hw x1 ?_
      exact kR 0 _ _ (q_GE.rf hC hM hP hmb 1 (by decide) 2) (by rw [u2_a _ _ (by omega), u2_s]; rfl) (fun h => absurd h (by decide))
    · obtain ⟨n, rfl⟩ : ∃ n : Nat, w = (n : Int) := ⟨w.toNat, by omega⟩
      obtain rfl | rfl | rfl | rfl : n = 0 ∨ n = 1 ∨ n = 2 ∨ n = 3 := by omega
      · have ez : g_purseQ (R 0) i (R 0 1).toNat (R 0 6).toNat ((0 : Nat) : Int) = g_sum (g_heldC (R 0) (i : Int)) (R 0 1).toNat := by unfold g_purseQ; rw [if_pos (by decide)]
        have hK : q_AK b (V 0) I L I L := q_AK.rf hC
        refine k1 _ _ _ _ _ _ (q_LQ.okl (kQ 0 _ _ _ _ (Nat.le_refl _) (by decide) (fun Q2 kR => ?_)))
        have hM1 := fun z => hK.gm (o := o) (z := z) (by have := hC.ov.r (i := 0) (by omega); omega) hM hP.bk hmb hmo
        refine qC.wide (h := 4) (mc := 0) (ms := 0) (by decide) (by decide) (by decide) ?_
        refine mX8_purse_0R (hM1 _).l3 (hM1 0).sm hAm hv hmn hm12 hvs hy ?_
        exact kR _ _ _ (hK.ge hC hM hP hmb hmo (fun _ _ _ _ _ _ => rfl) ((hM1 _).z0)) (u2_s _ _ _ _) (fun _ => (u2_s _ _ _ _).trans (congrArg (fun z => z) (ez)))
      · have ez : g_purseQ (R 0) i (R 0 1).toNat (R 0 6).toNat ((1 : Nat) : Int) = R 0 (35 + 13 * i) := by unfold g_purseQ; rw [if_neg (by decide), if_pos (by decide)]
        have hK : q_AK b (V 0) I L I L := q_AK.rf hC
        refine k1 _ _ _ _ _ _ (q_LQ.okl (kQ 0 _ _ _ _ (Nat.le_refl _) (by decide) (fun Q2 kR => ?_)))
        have hM1 := fun z => hK.gm (o := o) (z := z) (by have := hC.ov.r (i := 0) (by omega); omega) hM hP.bk hmb hmo
        refine qC.wide (h := 4) (mc := 0) (ms := 0) (by decide) (by decide) (by decide) ?_
        refine mX8_purse1R (hM1 _).l3 (hM1 0).sm hAm hv hy ?_
        exact kR _ _ _ (hK.ge hC hM hP hmb hmo (fun _ _ _ _ _ _ => rfl) ((hM1 _).z0)) (u2_s _ _ _ _) (fun _ => (u2_s _ _ _ _).trans (congrArg (fun z => z) (ez)))
      · have ez : g_purseQ (R 0) i (R 0 1).toNat (R 0 6).toNat ((2 : Nat) : Int) = g_sum (g_rowC (R 0) (i : Int)) (R 0 6).toNat := by unfold g_purseQ; rw [if_neg (by decide), if_neg (by decide), if_pos (by decide)]
        have hK : q_AK b (V 0) I L I L := q_AK.rf hC
        refine k1 _ _ _ _ _ _ (q_LQ.okl (kQ 0 _ _ _ _ (Nat.le_refl _) (by decide) (fun Q2 kR => ?_)))
        have hM1 := fun z => hK.gm (o := o) (z := z) (by have := hC.ov.r (i := 0) (by omega); omega) hM hP.bk hmb hmo
        refine qC.wide (h := 4) (mc := 0) (ms := 0) (by decide) (by decide) (by decide) ?_
        refine mX8_purse2R (hM1 _).l3 (hM1 0).sm hAm hv hy (show R 0 6 = ((R 0 6).toNat : Int) by omega) (by omega) (fun k hk => (hRW k (by omega)).2.2.1) ?_
        exact kR _ _ _ (hK.ge hC hM hP hmb hmo (fun _ _ _ _ _ _ => rfl) ((hM1 _).z0)) (u2_s _ _ _ _) (fun _ => (u2_s _ _ _ _).trans (congrArg (fun z => z) (ez)))
      · have ez : g_purseQ (R 0) i (R 0 1).toNat (R 0 6).toNat ((3 : Nat) : Int) = R 0 (36 + 13 * i) := by unfold g_purseQ; rw [if_neg (by decide), if_neg (by decide), if_neg (by decide)]
        have hK : q_AK b (V 0) I L I L := q_AK.rf hC
        refine k1 _ _ _ _ _ _ (q_LQ.okl (kQ 0 _ _ _ _ (Nat.le_refl _) (by decide) (fun Q2 kR => ?_)))
        have hM1 := fun z => hK.gm (o := o) (z := z) (by have := hC.ov.r (i := 0) (by omega); omega) hM hP.bk hmb hmo
        refine qC.wide (h := 4) (mc := 0) (ms := 0) (by decide) (by decide) (by decide) ?_
        refine mX8_purse3R (hM1 _).l3 (hM1 0).sm hAm hv hy ?_
        exact kR _ _ _ (hK.ge hC hM hP hmb hmo (fun _ _ _ _ _ _ => rfl) ((hM1 _).z0)) (u2_s _ _ _ _) (fun _ => (u2_s _ _ _ _).trans (congrArg (fun z => z) (ez)))
  · refine qC.wide (h := 4) (mc := 1) (ms := 6) (by decide) (by decide) (by decide) ?_
    refine mX7_purse0 hC.st hA hC.pv hC.ov rfl (hC.wr 0 (Nat.zero_le _)) hV hl hn (fun sz' hsz => ?_)
    refine k1 _ _ _ _ _ _ (q_LQ.er 0 rfl (kQ _ _ _ _ _ hsz (by decide) (fun Q2 kR => ?_)))
    have hM1 := hM.rf (b := b) (k := 7 + 0) (v := (I b (7 + 0)) + 1) hP.bk hmb
    refine qC.wide (h := 4) (mc := 0) (ms := 0) (by decide) (by decide) (by decide) ?_
    refine mX8_purse00R hM1.l3 hM1.sm hAm hv hl (by omega) ?_
    exact kR 0 _ _ (q_GE.rf hC hM hP hmb 0 (by decide) 1) (by rw [u2_a _ _ (by omega), u2_s]; rfl) (fun h => absurd h (by decide))

set_option maxRecDepth 100000 in
theorem pr_letter {G : q_G} {b m o : Nat} {T : q_T} {sz : Nat} {I L : q_I} {P : q_P} {l w : Int} (hX : q_FX G T b m o) (hG : q_GE T b m I L P) (hl : -2147483648 ≤ l ∧ l < 2147483648) (hw : -2147483648 ≤ w ∧ w < 2147483648) : q_PR G b m o T qI q_w32 YL_letter 5 [.ref b, qI l, qI w, .ref o] YX8_letter 2 [.ref m, qI l, qI w] sz I L P := by
  obtain ⟨hA, hmb, hmo, hTo⟩ := hX
  obtain ⟨V, bk, tp, B, R, f, cn, hC, hM, hP⟩ := hG
  have hV := (hP.ro 0 (Nat.zero_le _)).1
  have hv := hV.1
  have hAm : q_A G m := q_Ale hA (by omega)
  have hw2 := hv.month
  have hmany := hv.many
  have hlands := hv.lands
  have hrows := hv.rows
  have hmn : R 0 1 = ((R 0 1).toNat : Int) := by omega
  have hm12 : (R 0 1).toNat ≤ 12 := by omega
  have hRW := (hP.ro 0 (Nat.zero_le _)).2.1
  have hZ := (hP.ro 0 (Nat.zero_le _)).2.2.1
  have hSL := (hP.ro 0 (Nat.zero_le _)).2.2.2
  have hvs : ∀ i : Nat, i < (R 0 1).toNat → g_VA (R 0) i (R 0 2) := fun i hi => by have q := hV.2.1 i (by omega); rwa [if_neg (Nat.not_lt_zero _)] at q
  intro Q' kQ
  refine mL_letter (hx := 4) hC.st.t0 hTo (q_Ale hA (by omega)) (fun Q1 k1 => ?_)
  by_cases hn : 0 ≤ l ∧ l < R 0 0
  · obtain ⟨i, rfl⟩ : ∃ i : Nat, l = (i : Int) := ⟨l.toNat, by omega⟩
    have hy := hn.2
    refine qC.wide (h := 4) (mc := 1) (ms := 6) (by decide) (by decide) (by decide) ?_
    refine mX7_letter hC.st hA hC.pv hC.ov rfl (hC.wr 0 (Nat.zero_le _)) hV hy hw (fun sz' hsz x1 => ?_) (fun x1 => ?_)
    · refine k1 _ _ _ _ _ _ (q_LQ.er 0 rfl (kQ _ _ _ _ _ hsz (by decide) (fun Q2 kR => ?_)))
      have hM1 := hM.rf (b := b) (k := 7 + 0) (v := (I b (7 + 0)) + 1) hP.bk hmb
      refine qC.wide (h := 2) (mc := 0) (ms := 0) (by decide) (by decide) (by decide) ?_
      refine mX8_letterR hM1.l3 hM1.sm hAm hv hy hw (fun _ => ?_) (fun h => absurd h x1)
      exact kR 0 _ _ (q_GE.rf hC hM hP hmb 0 (by decide) 1) (by rw [u2_a _ _ (by omega), u2_s]; rfl) (fun h => absurd h (by decide))
    · have hK : q_AK b (V 0) I L I L := q_AK.rf hC
      refine k1 _ _ _ _ _ _ (q_LQ.ok (kQ 0 _ _ _ _ (Nat.le_refl _) (by decide) (fun Q2 kR => ?_)))
      have hM1 := fun z => hK.gm (o := o) (z := z) (by have := hC.ov.r (i := 0) (by omega); omega) hM hP.bk hmb hmo
      refine qC.wide (h := 2) (mc := 0) (ms := 0) (by decide) (by decide) (by decide) ?_
      refine mX8_letterR (hM1 _).l3 (hM1 0).sm hAm hv hy hw (fun h => absurd x1 h) (fun _ => ?_)
      exact kR _ _ _ (hK.ge hC hM hP hmb hmo (fun _ _ _ _ _ _ => rfl) ((hM1 _).z0)) (u2_s _ _ _ _) (fun _ => (u2_s _ _ _ _).trans (congrArg q_w32 (rfl)))
  · refine qC.wide (h := 4) (mc := 1) (ms := 6) (by decide) (by decide) (by decide) ?_
    refine mX7_letter0 hC.st hA hC.pv hC.ov rfl (hC.wr 0 (Nat.zero_le _)) hV hl hn (fun sz' hsz => ?_)
    refine k1 _ _ _ _ _ _ (q_LQ.er 0 rfl (kQ _ _ _ _ _ hsz (by decide) (fun Q2 kR => ?_)))
    have hM1 := hM.rf (b := b) (k := 7 + 0) (v := (I b (7 + 0)) + 1) hP.bk hmb
    refine qC.wide (h := 2) (mc := 0) (ms := 0) (by decide) (by decide) (by decide) ?_
    refine mX8_letter0R hM1.l3 hM1.sm hAm hv hl (by omega) ?_
    exact kR 0 _ _ (q_GE.rf hC hM hP hmb 0 (by decide) 1) (by rw [u2_a _ _ (by omega), u2_s]; rfl) (fun h => absurd h (by decide))

set_option maxRecDepth 100000 in
theorem pr_account {G : q_G} {b m o : Nat} {T : q_T} {sz : Nat} {I L : q_I} {P : q_P} {a w : Int} (hX : q_FX G T b m o) (hG : q_GE T b m I L P) (ha : -2147483648 ≤ a ∧ a < 2147483648) (hw : -2147483648 ≤ w ∧ w < 2147483648) : q_PR G b m o T qI q_w32 YL_account 5 [.ref b, qI a, qI w, .ref o] YX8_account 3 [.ref m, qI a, qI w] sz I L P := by
  obtain ⟨hA, hmb, hmo, hTo⟩ := hX
  obtain ⟨V, bk, tp, B, R, f, cn, hC, hM, hP⟩ := hG
  have hV := (hP.ro 0 (Nat.zero_le _)).1
  have hv := hV.1
  have hAm : q_A G m := q_Ale hA (by omega)
  have hw2 := hv.month
  have hmany := hv.many
  have hlands := hv.lands
  have hrows := hv.rows
  have hmn : R 0 1 = ((R 0 1).toNat : Int) := by omega
  have hm12 : (R 0 1).toNat ≤ 12 := by omega
  have hRW := (hP.ro 0 (Nat.zero_le _)).2.1
  have hZ := (hP.ro 0 (Nat.zero_le _)).2.2.1
  have hSL := (hP.ro 0 (Nat.zero_le _)).2.2.2
  have hvs : ∀ i : Nat, i < (R 0 1).toNat → g_VA (R 0) i (R 0 2) := fun i hi => by have q := hV.2.1 i (by omega); rwa [if_neg (Nat.not_lt_zero _)] at q
  intro Q' kQ
  refine mL_account (hx := 4) hC.st.t0 hTo (q_Ale hA (by omega)) (fun Q1 k1 => ?_)
  by_cases hn : 0 ≤ a ∧ a < R 0 1
  · obtain ⟨i, rfl⟩ : ∃ i : Nat, a = (i : Int) := ⟨a.toNat, by omega⟩
    have hy := hn.2
    have hVA := hvs i (by omega)
    refine qC.wide (h := 4) (mc := 1) (ms := 6) (by decide) (by decide) (by decide) ?_
    refine mX7_account hC.st hA hC.pv hC.ov rfl (hC.wr 0 (Nat.zero_le _)) hV hy hw (fun sz' hsz x1 => ?_) (fun x1 => ?_)
    · refine k1 _ _ _ _ _ _ (q_LQ.er 1 rfl (kQ _ _ _ _ _ hsz (by decide) (fun Q2 kR => ?_)))
      have hM1 := hM.rf (b := b) (k := 7 + 1) (v := (I b (7 + 1)) + 1) hP.bk hmb
      refine qC.wide (h := 3) (mc := 0) (ms := 0) (by decide) (by decide) (by decide) ?_
      refine mX8_accountR hM1.l3 hM1.sm hAm hv hy hVA (show R 0 2 ≤ 7000 by omega) hw (fun _ => ?_) (fun h => absurd h x1)
      exact kR 0 _ _ (q_GE.rf hC hM hP hmb 1 (by decide) 2) (by rw [u2_a _ _ (by omega), u2_s]; rfl) (fun h => absurd h (by decide))
    · have hK : q_AK b (V 0) I L I L := q_AK.rf hC
      refine k1 _ _ _ _ _ _ (q_LQ.ok (kQ 0 _ _ _ _ (Nat.le_refl _) (by decide) (fun Q2 kR => ?_)))
      have hM1 := fun z => hK.gm (o := o) (z := z) (by have := hC.ov.r (i := 0) (by omega); omega) hM hP.bk hmb hmo
      refine qC.wide (h := 3) (mc := 0) (ms := 0) (by decide) (by decide) (by decide) ?_
      refine mX8_accountR (hM1 _).l3 (hM1 0).sm hAm hv hy hVA (show R 0 2 ≤ 7000 by omega) hw (fun h => absurd x1 h) (fun _ => ?_)
      exact kR _ _ _ (hK.ge hC hM hP hmb hmo (fun _ _ _ _ _ _ => rfl) ((hM1 _).z0)) (u2_s _ _ _ _) (fun _ => (u2_s _ _ _ _).trans (congrArg q_w32 (rfl)))
  · refine qC.wide (h := 4) (mc := 1) (ms := 6) (by decide) (by decide) (by decide) ?_
    refine mX7_account0 hC.st hA hC.pv hC.ov rfl (hC.wr 0 (Nat.zero_le _)) hV ha hn (fun sz' hsz => ?_)
    refine k1 _ _ _ _ _ _ (q_LQ.er 0 rfl (kQ _ _ _ _ _ hsz (by decide) (fun Q2 kR => ?_)))
    have hM1 := hM.rf (b := b) (k := 7 + 0) (v := (I b (7 + 0)) + 1) hP.bk hmb
    refine qC.wide (h := 3) (mc := 0) (ms := 0) (by decide) (by decide) (by decide) ?_
    refine mX8_account0R hM1.l3 hM1.sm hAm hv ha (by omega) ?_
    exact kR 0 _ _ (q_GE.rf hC hM hP hmb 0 (by decide) 1) (by rw [u2_a _ _ (by omega), u2_s]; rfl) (fun h => absurd h (by decide))

set_option maxRecDepth 100000 in
theorem pr_worth {G : q_G} {b m o : Nat} {T : q_T} {sz : Nat} {I L : q_I} {P : q_P} {a w : Int} (hX : q_FX G T b m o) (hG : q_GE T b m I L P) (ha : -2147483648 ≤ a ∧ a < 2147483648) (hw : -2147483648 ≤ w ∧ w < 2147483648) : q_PR G b m o T qL (fun z => z) YL_worth 5 [.ref b, qI a, qI w, .ref o] YX8_worth 4 [.ref m, qI a, qI w] sz I L P := by
  obtain ⟨hA, hmb, hmo, hTo⟩ := hX
  obtain ⟨V, bk, tp, B, R, f, cn, hC, hM, hP⟩ := hG
  have hV := (hP.ro 0 (Nat.zero_le _)).1
  have hv := hV.1
  have hAm : q_A G m := q_Ale hA (by omega)
  have hw2 := hv.month
  have hmany := hv.many
  have hlands := hv.lands
  have hrows := hv.rows
  have hmn : R 0 1 = ((R 0 1).toNat : Int) := by omega
  have hm12 : (R 0 1).toNat ≤ 12 := by omega
  have hRW := (hP.ro 0 (Nat.zero_le _)).2.1
  have hZ := (hP.ro 0 (Nat.zero_le _)).2.2.1
  have hSL := (hP.ro 0 (Nat.zero_le _)).2.2.2
  have hvs : ∀ i : Nat, i < (R 0 1).toNat → g_VA (R 0) i (R 0 2) := fun i hi => by have q := hV.2.1 i (by omega); rwa [if_neg (Nat.not_lt_zero _)] at q
  intro Q' kQ
  refine mL_worth (hx := 4) hC.st.t0 hTo (q_Ale hA (by omega)) (fun Q1 k1 => ?_)
  by_cases hn : 0 ≤ a ∧ a < R 0 1
  · obtain ⟨i, rfl⟩ : ∃ i : Nat, a = (i : Int) := ⟨a.toNat, by omega⟩
    have hy := hn.2
    have hVA := hvs i (by omega)
    refine qC.wide (h := 4) (mc := 1) (ms := 6) (by decide) (by decide) (by decide) ?_
    refine mX7_worth hC.st hA hC.pv hC.ov rfl (hC.wr 0 (Nat.zero_le _)) hV hy hw (fun sz' hsz x1 => ?_) (fun x1 => ?_)
    · refine k1 _ _ _ _ _ _ (q_LQ.er 1 rfl (kQ _ _ _ _ _ hsz (by decide) (fun Q2 kR => ?_)))
      have hM1 := hM.rf (b := b) (k := 7 + 1) (v := (I b (7 + 1)) + 1) hP.bk hmb
      refine qC.wide (h := 4) (mc := 0) (ms := 0) (by decide) (by decide) (by decide) ?_
      refine mX8_worthR hM1.l3 hM1.sm hAm hv hy hVA (Int.le_refl _) hw (fun _ => ?_) (fun h => absurd h x1)
      exact kR 0 _ _ (q_GE.rf hC hM hP hmb 1 (by decide) 2) (by rw [u2_a _ _ (by omega), u2_s]; rfl) (fun h => absurd h (by decide))
    · have hK : q_AK b (V 0) I L I L := q_AK.rf hC
      refine k1 _ _ _ _ _ _ (q_LQ.okl (kQ 0 _ _ _ _ (Nat.le_refl _) (by decide) (fun Q2 kR => ?_)))
      have hM1 := fun z => hK.gm (o := o) (z := z) (by have := hC.ov.r (i := 0) (by omega); omega) hM hP.bk hmb hmo
      refine qC.wide (h := 4) (mc := 0) (ms := 0) (by decide) (by decide) (by decide) ?_
      refine mX8_worthR (hM1 _).l3 (hM1 0).sm hAm hv hy hVA (Int.le_refl _) hw (fun h => absurd x1 h) (fun _ => ?_)
      exact kR _ _ _ (hK.ge hC hM hP hmb hmo (fun _ _ _ _ _ _ => rfl) ((hM1 _).z0)) (u2_s _ _ _ _) (fun _ => (u2_s _ _ _ _).trans (congrArg (fun z => z) (rfl)))
  · refine qC.wide (h := 4) (mc := 1) (ms := 6) (by decide) (by decide) (by decide) ?_
    refine mX7_worth0 hC.st hA hC.pv hC.ov rfl (hC.wr 0 (Nat.zero_le _)) hV ha hn (fun sz' hsz => ?_)
    refine k1 _ _ _ _ _ _ (q_LQ.er 0 rfl (kQ _ _ _ _ _ hsz (by decide) (fun Q2 kR => ?_)))
    have hM1 := hM.rf (b := b) (k := 7 + 0) (v := (I b (7 + 0)) + 1) hP.bk hmb
    refine qC.wide (h := 4) (mc := 0) (ms := 0) (by decide) (by decide) (by decide) ?_
    refine mX8_worth0R hM1.l3 hM1.sm hAm hv ha (by omega) ?_
    exact kR 0 _ _ (q_GE.rf hC hM hP hmb 0 (by decide) 1) (by rw [u2_a _ _ (by omega), u2_s]; rfl) (fun h => absurd h (by decide))

set_option maxRecDepth 100000 in
theorem pr_row {G : q_G} {b m o : Nat} {T : q_T} {sz : Nat} {I L : q_I} {P : q_P} {k w : Int} (hX : q_FX G T b m o) (hG : q_GE T b m I L P) (hk : -2147483648 ≤ k ∧ k < 2147483648) (hw : -2147483648 ≤ w ∧ w < 2147483648) : q_PR G b m o T qI q_w32 YL_row 4 [.ref b, qI k, qI w, .ref o] YX8_row 2 [.ref m, qI k, qI w] sz I L P := by
  obtain ⟨hA, hmb, hmo, hTo⟩ := hX
  obtain ⟨V, bk, tp, B, R, f, cn, hC, hM, hP⟩ := hG
  have hV := (hP.ro 0 (Nat.zero_le _)).1
  have hv := hV.1
  have hAm : q_A G m := q_Ale hA (by omega)
  have hw2 := hv.month
  have hmany := hv.many
  have hlands := hv.lands
  have hrows := hv.rows
  have hmn : R 0 1 = ((R 0 1).toNat : Int) := by omega
  have hm12 : (R 0 1).toNat ≤ 12 := by omega
  have hRW := (hP.ro 0 (Nat.zero_le _)).2.1
  have hZ := (hP.ro 0 (Nat.zero_le _)).2.2.1
  have hSL := (hP.ro 0 (Nat.zero_le _)).2.2.2
  have hvs : ∀ i : Nat, i < (R 0 1).toNat → g_VA (R 0) i (R 0 2) := fun i hi => by have q := hV.2.1 i (by omega); rwa [if_neg (Nat.not_lt_zero _)] at q
  intro Q' kQ
  refine mL_row (hx := 3) hC.st.t0 hTo (q_Ale hA (by omega)) (fun Q1 k1 => ?_)
  refine qC.wide (h := 3) (mc := 1) (ms := 6) (by decide) (by decide) (by decide) ?_
  refine mX7_row hC.st hA hC.pv hC.ov rfl (hC.wr 0 (Nat.zero_le _)) hV hk hw (fun sz' hsz x1 x2 => ?_) (fun sz' hsz x1 => ?_) (fun x1 x2 => ?_)
  · refine k1 _ _ _ _ _ _ (q_LQ.er 1 rfl (kQ _ _ _ _ _ hsz (by decide) (fun Q2 kR => ?_)))
    have hM1 := hM.rf (b := b) (k := 7 + 1) (v := (I b (7 + 1)) + 1) hP.bk hmb
    refine qC.wide (h := 2) (mc := 0) (ms := 0) (by decide) (by decide) (by decide) ?_
    refine mX8_rowR hM1.l3 hM1.sm hAm hv hk hw (fun h => absurd x1 h) (fun _ _ => ?_) (fun _ h => absurd h x2)
    exact kR 0 _ _ (q_GE.rf hC hM hP hmb 1 (by decide) 2) (by rw [u2_a _ _ (by omega), u2_s]; rfl) (fun h => absurd h (by decide))
  · refine k1 _ _ _ _ _ _ (q_LQ.er 0 rfl (kQ _ _ _ _ _ hsz (by decide) (fun Q2 kR => ?_)))
    have hM1 := hM.rf (b := b) (k := 7 + 0) (v := (I b (7 + 0)) + 1) hP.bk hmb
    refine qC.wide (h := 2) (mc := 0) (ms := 0) (by decide) (by decide) (by decide) ?_
    refine mX8_rowR hM1.l3 hM1.sm hAm hv hk hw (fun _ => ?_) (fun h _ => absurd h x1) (fun h _ => absurd h x1)
    exact kR 0 _ _ (q_GE.rf hC hM hP hmb 0 (by decide) 1) (by rw [u2_a _ _ (by omega), u2_s]; rfl) (fun h => absurd h (by decide))
  · have hK : q_AK b (V 0) I L I L := q_AK.rf hC
    refine k1 _ _ _ _ _ _ (q_LQ.ok (kQ 0 _ _ _ _ (Nat.le_refl _) (by decide) (fun Q2 kR => ?_)))
    have hM1 := fun z => hK.gm (o := o) (z := z) (by have := hC.ov.r (i := 0) (by omega); omega) hM hP.bk hmb hmo
    refine qC.wide (h := 2) (mc := 0) (ms := 0) (by decide) (by decide) (by decide) ?_
    refine mX8_rowR (hM1 _).l3 (hM1 0).sm hAm hv hk hw (fun h => absurd x1 h) (fun _ h => absurd x2 h) (fun _ _ => ?_)
    exact kR _ _ _ (hK.ge hC hM hP hmb hmo (fun _ _ _ _ _ _ => rfl) ((hM1 _).z0)) (u2_s _ _ _ _) (fun _ => (u2_s _ _ _ _).trans (congrArg q_w32 (rfl)))

set_option maxRecDepth 100000 in
theorem pr_books {G : q_G} {b m o : Nat} {T : q_T} {sz : Nat} {I L : q_I} {P : q_P} {w : Int} (hX : q_FX G T b m o) (hG : q_GE T b m I L P) (hw : -2147483648 ≤ w ∧ w < 2147483648) : q_PR G b m o T qL (fun z => z) YL_books 7 [.ref b, qI w, .ref o] YX8_books 4 [.ref m, qI w] sz I L P := by
  obtain ⟨hA, hmb, hmo, hTo⟩ := hX
  obtain ⟨V, bk, tp, B, R, f, cn, hC, hM, hP⟩ := hG
  have hV := (hP.ro 0 (Nat.zero_le _)).1
  have hv := hV.1
  have hAm : q_A G m := q_Ale hA (by omega)
  have hw2 := hv.month
  have hmany := hv.many
  have hlands := hv.lands
  have hrows := hv.rows
  have hmn : R 0 1 = ((R 0 1).toNat : Int) := by omega
  have hm12 : (R 0 1).toNat ≤ 12 := by omega
  have hRW := (hP.ro 0 (Nat.zero_le _)).2.1
  have hZ := (hP.ro 0 (Nat.zero_le _)).2.2.1
  have hSL := (hP.ro 0 (Nat.zero_le _)).2.2.2
  have hvs : ∀ i : Nat, i < (R 0 1).toNat → g_VA (R 0) i (R 0 2) := fun i hi => by have q := hV.2.1 i (by omega); rwa [if_neg (Nat.not_lt_zero _)] at q
  intro Q' kQ
  refine mL_books (hx := 6) hC.st.t0 hTo (q_Ale hA (by omega)) (fun Q1 k1 => ?_)
  refine qC.wide (h := 6) (mc := 1) (ms := 6) (by decide) (by decide) (by decide) ?_
  refine mX7_books hC.st hA hC.pv hC.ov rfl (hC.wr 0 (Nat.zero_le _)) hV hmn hw (fun sz' hsz x1 => ?_) (fun x1 => ?_)
  · refine k1 _ _ _ _ _ _ (q_LQ.er 0 rfl (kQ _ _ _ _ _ hsz (by decide) (fun Q2 kR => ?_)))
    have hM1 := hM.rf (b := b) (k := 7 + 1) (v := (I b (7 + 1)) + 1) hP.bk hmb
    refine qC.wide (h := 4) (mc := 0) (ms := 0) (by decide) (by decide) (by decide) ?_
    refine mX8_books0R hM1.l3 hM1.sm hAm hv hw x1 ?_
    exact kR 0 _ _ (q_GE.rf hC hM hP hmb 1 (by decide) 1) (by rw [u2_a _ _ (by omega), u2_s]; rfl) (fun h => absurd h (by decide))
  · obtain ⟨n, rfl⟩ : ∃ n : Nat, w = (n : Int) := ⟨w.toNat, by omega⟩
    by_cases h4 : n = 4
    · subst h4
      have ez : g_booksQ (R 0) (R 0 1).toNat ((4 : Nat) : Int) = g_sum (g_liveC (R 0)) (R 0 1).toNat := by unfold g_booksQ; rw [if_pos (by decide)]
      have hK : q_AK b (V 0) I L I L := q_AK.rf hC
      refine k1 _ _ _ _ _ _ (q_LQ.okl (kQ 0 _ _ _ _ (Nat.le_refl _) (by decide) (fun Q2 kR => ?_)))
      have hM1 := fun z => hK.gm (o := o) (z := z) (by have := hC.ov.r (i := 0) (by omega); omega) hM hP.bk hmb hmo
      refine qC.wide (h := 4) (mc := 0) (ms := 0) (by decide) (by decide) (by decide) ?_
      refine mX8_books4R (hM1 _).l3 (hM1 0).sm hAm hv hmn hm12 hvs ?_
      exact kR _ _ _ (hK.ge hC hM hP hmb hmo (fun _ _ _ _ _ _ => rfl) ((hM1 _).z0)) (u2_s _ _ _ _) (fun _ => (u2_s _ _ _ _).trans (congrArg (fun z => z) (ez)))
    by_cases h5 : n = 5
    · subst h5
      have ez : g_booksQ (R 0) (R 0 1).toNat ((5 : Nat) : Int) = g_sum (g_handC (R 0)) (R 0 1).toNat := by unfold g_booksQ; rw [if_neg (by decide), if_pos (by decide)]
      have hK : q_AK b (V 0) I L I L := q_AK.rf hC
      refine k1 _ _ _ _ _ _ (q_LQ.okl (kQ 0 _ _ _ _ (Nat.le_refl _) (by decide) (fun Q2 kR => ?_)))
      have hM1 := fun z => hK.gm (o := o) (z := z) (by have := hC.ov.r (i := 0) (by omega); omega) hM hP.bk hmb hmo
      refine qC.wide (h := 4) (mc := 0) (ms := 0) (by decide) (by decide) (by decide) ?_
      refine mX8_books5R (hM1 _).l3 (hM1 0).sm hAm hv hmn hm12 hvs ?_
      exact kR _ _ _ (hK.ge hC hM hP hmb hmo (fun _ _ _ _ _ _ => rfl) ((hM1 _).z0)) (u2_s _ _ _ _) (fun _ => (u2_s _ _ _ _).trans (congrArg (fun z => z) (ez)))
    have ez : g_booksQ (R 0) (R 0 1).toNat (n : Int) = R 0 (17 + n) := by unfold g_booksQ; rw [if_neg (by omega), if_neg (by omega)]; rfl
    have hK : q_AK b (V 0) I L I L := q_AK.rf hC
    refine k1 _ _ _ _ _ _ (q_LQ.okl (kQ 0 _ _ _ _ (Nat.le_refl _) (by decide) (fun Q2 kR => ?_)))
    have hM1 := fun z => hK.gm (o := o) (z := z) (by have := hC.ov.r (i := 0) (by omega); omega) hM hP.bk hmb hmo
    refine qC.wide (h := 4) (mc := 0) (ms := 0) (by decide) (by decide) (by decide) ?_
    refine mX8_booksR (hM1 _).l3 (hM1 0).sm hAm hv (w := n) (by omega) ?_
    exact kR _ _ _ (hK.ge hC hM hP hmb hmo (fun _ _ _ _ _ _ => rfl) ((hM1 _).z0)) (u2_s _ _ _ _) (fun _ => (u2_s _ _ _ _).trans (congrArg (fun z => z) (ez)))

set_option maxRecDepth 100000 in
theorem pr_sleep {G : q_G} {b m o : Nat} {T : q_T} {sz : Nat} {I L : q_I} {P : q_P} {a : Int} (hX : q_FX G T b m o) (hG : q_GE T b m I L P) (ha : -2147483648 ≤ a ∧ a < 2147483648) : q_PR G b m o T qI q_w32 YL_sleep 5 [.ref b, qI a, .ref o] YX8_sleep 4 [.ref m, qI a] sz I L P := by
  obtain ⟨hA, hmb, hmo, hTo⟩ := hX
  obtain ⟨V, bk, tp, B, R, f, cn, hC, hM, hP⟩ := hG
  have hV := (hP.ro 0 (Nat.zero_le _)).1
  have hv := hV.1
  have hAm : q_A G m := q_Ale hA (by omega)
  have hw2 := hv.month
  have hmany := hv.many
  have hlands := hv.lands
  have hrows := hv.rows
  have hmn : R 0 1 = ((R 0 1).toNat : Int) := by omega
  have hm12 : (R 0 1).toNat ≤ 12 := by omega
  have hRW := (hP.ro 0 (Nat.zero_le _)).2.1
  have hZ := (hP.ro 0 (Nat.zero_le _)).2.2.1
  have hSL := (hP.ro 0 (Nat.zero_le _)).2.2.2
  have hvs : ∀ i : Nat, i < (R 0 1).toNat → g_VA (R 0) i (R 0 2) := fun i hi => by have q := hV.2.1 i (by omega); rwa [if_neg (Nat.not_lt_zero _)] at q
  intro Q' kQ
  refine mL_sleep (hx := 4) hC.st.t0 hTo (q_Ale hA (by omega)) (fun Q1 k1 => ?_)
  by_cases hn : 0 ≤ a ∧ a < R 0 1
  · obtain ⟨i, rfl⟩ : ∃ i : Nat, a = (i : Int) := ⟨a.toNat, by omega⟩
    have hy := hn.2
    have hVA := hvs i (by omega)
    refine qC.wide (h := 4) (mc := 0) (ms := 0) (by decide) (by decide) (by decide) ?_
    refine mX7_sleep hC.st hA hC.pv hC.ov rfl (hC.wr 0 (Nat.zero_le _)) hV hy (fun N h1 => ?_)
    have hK : q_AK b (V 0) I L I N := ⟨fun _ _ _ _ => rfl, fun q k a1 a2 a3 a4 => h1 q k a2, fun i9 hi9 => by have := hC.ov.r (i := 0) (by omega); rw [h1 _ _ (by omega)]; exact hC.ch i9 hi9⟩
    refine k1 _ _ _ _ _ _ (q_LQ.ok (kQ 0 _ _ _ _ (Nat.le_refl _) (by decide) (fun Q2 kR => ?_)))
    have hM1 := fun z => hK.gm (o := o) (z := z) (by have := hC.ov.r (i := 0) (by omega); omega) hM hP.bk hmb hmo
    refine qC.wide (h := 4) (mc := 0) (ms := 0) (by decide) (by decide) (by decide) ?_
    refine mX8_sleepR (hM1 _).l3 (hM1 0).sm hAm hv hy hVA (show R 0 2 ≤ 7000 by omega) (fun L' h2 => ?_)
    exact kR _ _ _ (hK.ge hC hM hP hmb hmo (fun q k a1 a2 a3 a4 => h2 q k a2) (fun q k a1 a2 a3 => by rw [h2 q k (by omega)]; exact (hM1 _).z0 q k a1 a2 a3)) (u2_s _ _ _ _) (fun _ => ((h2 _ _ (by omega)).trans (u2_s _ _ _ _)).trans (congrArg q_w32 (rfl)))
  · refine qC.wide (h := 4) (mc := 1) (ms := 6) (by decide) (by decide) (by decide) ?_
    refine mX7_sleep0 hC.st hA hC.pv hC.ov rfl (hC.wr 0 (Nat.zero_le _)) hV ha hn (fun sz' hsz => ?_)
    refine k1 _ _ _ _ _ _ (q_LQ.er 0 rfl (kQ _ _ _ _ _ hsz (by decide) (fun Q2 kR => ?_)))
    have hM1 := hM.rf (b := b) (k := 7 + 0) (v := (I b (7 + 0)) + 1) hP.bk hmb
    refine qC.wide (h := 4) (mc := 0) (ms := 0) (by decide) (by decide) (by decide) ?_
    refine mX8_sleep0R hM1.l3 hM1.sm hAm hv ha (by omega) ?_
    exact kR 0 _ _ (q_GE.rf hC hM hP hmb 0 (by decide) 1) (by rw [u2_a _ _ (by omega), u2_s]; rfl) (fun h => absurd h (by decide))

set_option maxRecDepth 100000 in
theorem pr_soon {G : q_G} {b m o : Nat} {T : q_T} {sz : Nat} {I L : q_I} {P : q_P} {a : Int} (hX : q_FX G T b m o) (hG : q_GE T b m I L P) (ha : -2147483648 ≤ a ∧ a < 2147483648) : q_PR G b m o T qI q_w32 YL_soon 8 [.ref b, qI a, .ref o] YX8_soon 7 [.ref m, qI a] sz I L P := by
  obtain ⟨hA, hmb, hmo, hTo⟩ := hX
  obtain ⟨V, bk, tp, B, R, f, cn, hC, hM, hP⟩ := hG
  have hV := (hP.ro 0 (Nat.zero_le _)).1
  have hv := hV.1
  have hAm : q_A G m := q_Ale hA (by omega)
  have hw2 := hv.month
  have hmany := hv.many
  have hlands := hv.lands
  have hrows := hv.rows
  have hmn : R 0 1 = ((R 0 1).toNat : Int) := by omega
  have hm12 : (R 0 1).toNat ≤ 12 := by omega
  have hRW := (hP.ro 0 (Nat.zero_le _)).2.1
  have hZ := (hP.ro 0 (Nat.zero_le _)).2.2.1
  have hSL := (hP.ro 0 (Nat.zero_le _)).2.2.2
  have hvs : ∀ i : Nat, i < (R 0 1).toNat → g_VA (R 0) i (R 0 2) := fun i hi => by have q := hV.2.1 i (by omega); rwa [if_neg (Nat.not_lt_zero _)] at q
  intro Q' kQ
  refine mL_soon (hx := 7) hC.st.t0 hTo (q_Ale hA (by omega)) (fun Q1 k1 => ?_)
  by_cases hn : 0 ≤ a ∧ a < R 0 1
  · obtain ⟨i, rfl⟩ : ∃ i : Nat, a = (i : Int) := ⟨a.toNat, by omega⟩
    have hy := hn.2
    have hVA := hvs i (by omega)
    refine qC.wide (h := 7) (mc := 0) (ms := 0) (by decide) (by decide) (by decide) ?_
    refine mX7_soon hC.st hA hC.pv hC.ov rfl (hC.wr 0 (Nat.zero_le _)) hV hy hmn (fun M N h1 h2 => ?_)
    have hK : q_AK b (V 0) I L M N := ⟨fun q k a1 a2 => h1 q k a1, fun q k a1 a2 a3 a4 => h2 q k a1 a2, fun i9 hi9 => by have := hC.ov.r (i := 0) (by omega); rw [h2 _ _ (by omega) (by omega)]; exact hC.ch i9 hi9⟩
    refine k1 _ _ _ _ _ _ (q_LQ.ok (kQ 0 _ _ _ _ (Nat.le_refl _) (by decide) (fun Q2 kR => ?_)))
    have hM1 := fun z => hK.gm (o := o) (z := z) (by have := hC.ov.r (i := 0) (by omega); omega) hM hP.bk hmb hmo
    refine qC.wide (h := 6) (mc := 0) (ms := 0) (by decide) (by decide) (by decide) ?_
    refine mX8_soonR (hM1 _).l3 (hM1 0).sm hAm hv hmn hV (hM1 _).z0 hy (fun L' h3 hz => ?_)
    exact kR _ _ _ (hK.ge hC hM hP hmb hmo (fun q k a1 a2 a3 a4 => h3 q k a1 a2) (hz)) (u2_s _ _ _ _) (fun _ => ((h3 _ _ (by omega) (by omega)).trans (u2_s _ _ _ _)).trans (congrArg q_w32 (rfl)))
  · refine qC.wide (h := 4) (mc := 1) (ms := 6) (by decide) (by decide) (by decide) ?_
    refine mX7_soon0 hC.st hA hC.pv hC.ov rfl (hC.wr 0 (Nat.zero_le _)) hV ha hn (fun sz' hsz => ?_)
    refine k1 _ _ _ _ _ _ (q_LQ.er 0 rfl (kQ _ _ _ _ _ hsz (by decide) (fun Q2 kR => ?_)))
    have hM1 := hM.rf (b := b) (k := 7 + 0) (v := (I b (7 + 0)) + 1) hP.bk hmb
    refine qC.wide (h := 7) (mc := 0) (ms := 0) (by decide) (by decide) (by decide) ?_
    refine mX8_soon0R hM1.l3 hM1.sm hAm hv ha (by omega) ?_
    exact kR 0 _ _ (q_GE.rf hC hM hP hmb 0 (by decide) 1) (by rw [u2_a _ _ (by omega), u2_s]; rfl) (fun h => absurd h (by decide))

set_option maxRecDepth 100000 in
theorem pr_letters {G : q_G} {b m o : Nat} {T : q_T} {sz : Nat} {I L : q_I} {P : q_P} {n : Int} (hX : q_FX G T b m o) (hG : q_GE T b m I L P) (hn : -2147483648 ≤ n ∧ n < 2147483648) : q_PR G b m o T qI q_w32 YL_letters 8 [.ref b, qI n, .ref o] YX8_letters 6 [.ref m, qI n] sz I L P := by
  obtain ⟨hA, hmb, hmo, hTo⟩ := hX
  obtain ⟨V, bk, tp, B, R, f, cn, hC, hM, hP⟩ := hG
  have hV := (hP.ro 0 (Nat.zero_le _)).1
  have hv := hV.1
  have hAm : q_A G m := q_Ale hA (by omega)
  have hw2 := hv.month
  have hmany := hv.many
  have hlands := hv.lands
  have hrows := hv.rows
  have hmn : R 0 1 = ((R 0 1).toNat : Int) := by omega
  have hm12 : (R 0 1).toNat ≤ 12 := by omega
  have hRW := (hP.ro 0 (Nat.zero_le _)).2.1
  have hZ := (hP.ro 0 (Nat.zero_le _)).2.2.1
  have hSL := (hP.ro 0 (Nat.zero_le _)).2.2.2
  have hvs : ∀ i : Nat, i < (R 0 1).toNat → g_VA (R 0) i (R 0 2) := fun i hi => by have q := hV.2.1 i (by omega); rwa [if_neg (Nat.not_lt_zero _)] at q
  intro Q' kQ
  refine mL_letters (hx := 7) hC.st.t0 hTo (q_Ale hA (by omega)) (fun Q1 k1 => ?_)
  by_cases hx : 1 ≤ n ∧ n ≤ 120
  · obtain ⟨nn, rfl⟩ : ∃ nn : Nat, n = (nn : Int) := ⟨n.toNat, by omega⟩
    have hnn : 1 ≤ nn ∧ nn ≤ 120 := by omega
    refine qC.wide (h := 7) (mc := 0) (ms := 0) (by decide) (by decide) (by decide) ?_
    refine mX7_letters hC.st hA hC.pv hC.ov rfl (hC.wr 0 (Nat.zero_le _)) hV hmn hZ hSL hnn (fun M N h1 h2 => ?_)
    have hK : q_AK b (V 0) I L M N := ⟨fun q k a1 a2 => h1 q k a1, fun q k a1 a2 a3 a4 => h2 q k a1 a2, fun i9 hi9 => by have := hC.ov.r (i := 0) (by omega); rw [h2 _ _ (by omega) (by omega)]; exact hC.ch i9 hi9⟩
    refine k1 _ _ _ _ _ _ (q_LQ.ok (kQ 0 _ _ _ _ (Nat.le_refl _) (by decide) (fun Q2 kR => ?_)))
    have hM1 := fun z => hK.gm (o := o) (z := z) (by have := hC.ov.r (i := 0) (by omega); omega) hM hP.bk hmb hmo
    refine qC.wide (h := 6) (mc := 0) (ms := 0) (by decide) (by decide) (by decide) ?_
    refine mX8_lettersR (hM1 _).l3 (hM1 0).sm hAm hv hV (hM1 _).z0 hnn (fun L' h3 hz => ?_)
    exact kR _ _ _ (hK.ge hC hM hP hmb hmo (fun q k a1 a2 a3 a4 => h3 q k a1 a2) (hz)) (u2_s _ _ _ _) (fun _ => ((h3 _ _ (by omega) (by omega)).trans (u2_s _ _ _ _)).trans (congrArg q_w32 (rfl)))
  · refine qC.wide (h := 7) (mc := 1) (ms := 6) (by decide) (by decide) (by decide) ?_
    refine mX7_letters0 hC.st hA hC.pv hC.ov rfl (hC.wr 0 (Nat.zero_le _)) hV hn hx (fun sz' hsz => ?_)
    refine k1 _ _ _ _ _ _ (q_LQ.er 0 rfl (kQ _ _ _ _ _ hsz (by decide) (fun Q2 kR => ?_)))
    have hM1 := hM.rf (b := b) (k := 7 + 1) (v := (I b (7 + 1)) + 1) hP.bk hmb
    refine qC.wide (h := 6) (mc := 0) (ms := 0) (by decide) (by decide) (by decide) ?_
    refine mX8_letters0R hM1.l3 hM1.sm hAm hv hn hx ?_
    exact kR 0 _ _ (q_GE.rf hC hM hP hmb 1 (by decide) 1) (by rw [u2_a _ _ (by omega), u2_s]; rfl) (fun h => absurd h (by decide))

set_option maxRecDepth 100000 in
theorem pr_ahead {G : q_G} {b m o : Nat} {T : q_T} {sz : Nat} {I L : q_I} {P : q_P} {l n : Int} (hX : q_FX G T b m o) (hG : q_GE T b m I L P) (hl : -2147483648 ≤ l ∧ l < 2147483648) (hn : -2147483648 ≤ n ∧ n < 2147483648) : q_PR G b m o T qL (fun z => z) YL_ahead 8 [.ref b, qI l, qI n, .ref o] YX8_ahead 6 [.ref m, qI l, qI n] sz I L P := by
  obtain ⟨hA, hmb, hmo, hTo⟩ := hX
  obtain ⟨V, bk, tp, B, R, f, cn, hC, hM, hP⟩ := hG
  have hV := (hP.ro 0 (Nat.zero_le _)).1
  have hv := hV.1
  have hAm : q_A G m := q_Ale hA (by omega)
  have hw2 := hv.month
  have hmany := hv.many
  have hlands := hv.lands
  have hrows := hv.rows
  have hmn : R 0 1 = ((R 0 1).toNat : Int) := by omega
  have hm12 : (R 0 1).toNat ≤ 12 := by omega
  have hRW := (hP.ro 0 (Nat.zero_le _)).2.1
  have hZ := (hP.ro 0 (Nat.zero_le _)).2.2.1
  have hSL := (hP.ro 0 (Nat.zero_le _)).2.2.2
  have hvs : ∀ i : Nat, i < (R 0 1).toNat → g_VA (R 0) i (R 0 2) := fun i hi => by have q := hV.2.1 i (by omega); rwa [if_neg (Nat.not_lt_zero _)] at q
  intro Q' kQ
  refine mL_ahead (hx := 7) hC.st.t0 hTo (q_Ale hA (by omega)) (fun Q1 k1 => ?_)
  by_cases hx : (l = -1 ∨ 0 ≤ l ∧ l < R 0 0) ∧ 1 ≤ n ∧ n ≤ 120
  · obtain ⟨nn, rfl⟩ : ∃ nn : Nat, n = (nn : Int) := ⟨n.toNat, by omega⟩
    have hnn : 1 ≤ nn ∧ nn ≤ 120 := by omega
    refine qC.wide (h := 7) (mc := 0) (ms := 0) (by decide) (by decide) (by decide) ?_
    refine mX7_ahead hC.st hA hC.pv hC.ov rfl (hC.wr 0 (Nat.zero_le _)) hV hmn hZ hl hnn hx.1 (fun M N h1 h2 => ?_)
    have hK : q_AK b (V 0) I L M N := ⟨fun q k a1 a2 => h1 q k a1, fun q k a1 a2 a3 a4 => h2 q k a1 a2, fun i9 hi9 => by have := hC.ov.r (i := 0) (by omega); rw [h2 _ _ (by omega) (by omega)]; exact hC.ch i9 hi9⟩
    refine k1 _ _ _ _ _ _ (q_LQ.okl (kQ 0 _ _ _ _ (Nat.le_refl _) (by decide) (fun Q2 kR => ?_)))
    have hM1 := fun z => hK.gm (o := o) (z := z) (by have := hC.ov.r (i := 0) (by omega); omega) hM hP.bk hmb hmo
    refine qC.wide (h := 6) (mc := 0) (ms := 0) (by decide) (by decide) (by decide) ?_
    refine mX8_aheadR (hM1 _).l3 (hM1 0).sm hAm hv hl hV (hM1 _).z0 hRW hnn hx.1 (fun L' h3 hz => ?_)
    exact kR _ _ _ (hK.ge hC hM hP hmb hmo (fun q k a1 a2 a3 a4 => h3 q k a1 a2) (hz)) (u2_s _ _ _ _) (fun _ => ((h3 _ _ (by omega) (by omega)).trans (u2_s _ _ _ _)).trans (congrArg (fun z => z) (rfl)))
  · refine qC.wide (h := 7) (mc := 1) (ms := 6) (by decide) (by decide) (by decide) ?_
    refine mX7_ahead0 hC.st hA hC.pv hC.ov rfl (hC.wr 0 (Nat.zero_le _)) hV hl hn hx (fun sz' hsz x1 x2 => ?_) (fun sz' hsz x1 => ?_)
    · refine k1 _ _ _ _ _ _ (q_LQ.er 1 rfl (kQ _ _ _ _ _ hsz (by decide) (fun Q2 kR => ?_)))
      have hM1 := hM.rf (b := b) (k := 7 + 1) (v := (I b (7 + 1)) + 1) hP.bk hmb
      refine qC.wide (h := 6) (mc := 0) (ms := 0) (by decide) (by decide) (by decide) ?_
      refine mX8_ahead0R hM1.l3 hM1.sm hAm hv hl hn hx (fun h => absurd x1 h) (fun _ _ => ?_)
      exact kR 0 _ _ (q_GE.rf hC hM hP hmb 1 (by decide) 2) (by rw [u2_a _ _ (by omega), u2_s]; rfl) (fun h => absurd h (by decide))
    · refine k1 _ _ _ _ _ _ (q_LQ.er 0 rfl (kQ _ _ _ _ _ hsz (by decide) (fun Q2 kR => ?_)))
      have hM1 := hM.rf (b := b) (k := 7 + 0) (v := (I b (7 + 0)) + 1) hP.bk hmb
      refine qC.wide (h := 6) (mc := 0) (ms := 0) (by decide) (by decide) (by decide) ?_
      refine mX8_ahead0R hM1.l3 hM1.sm hAm hv hl hn hx (fun _ => ?_) (fun h _ => absurd h x1)
      exact kR 0 _ _ (q_GE.rf hC hM hP hmb 0 (by decide) 1) (by rw [u2_a _ _ (by omega), u2_s]; rfl) (fun h => absurd h (by decide))

set_option maxRecDepth 100000 in
theorem pr_rescue {G : q_G} {b m o : Nat} {T : q_T} {sz : Nat} {I L : q_I} {P : q_P} {k n w : Int} (hX : q_FX G T b m o) (hG : q_GE T b m I L P) (hk : -2147483648 ≤ k ∧ k < 2147483648) (hn : -2147483648 ≤ n ∧ n < 2147483648) (hw : -2147483648 ≤ w ∧ w < 2147483648) : q_PR G b m o T qL (fun z => z) YL_rescue 8 [.ref b, qI k, qI n, qI w, .ref o] YX8_rescue 7 [.ref m, qI k, qI n, qI w] sz I L P := by
  obtain ⟨hA, hmb, hmo, hTo⟩ := hX
  obtain ⟨V, bk, tp, B, R, f, cn, hC, hM, hP⟩ := hG
  have hV := (hP.ro 0 (Nat.zero_le _)).1
  have hv := hV.1
  have hAm : q_A G m := q_Ale hA (by omega)
  have hw2 := hv.month
  have hmany := hv.many
  have hlands := hv.lands
  have hrows := hv.rows
  have hmn : R 0 1 = ((R 0 1).toNat : Int) := by omega
  have hm12 : (R 0 1).toNat ≤ 12 := by omega
  have hRW := (hP.ro 0 (Nat.zero_le _)).2.1
  have hZ := (hP.ro 0 (Nat.zero_le _)).2.2.1
  have hSL := (hP.ro 0 (Nat.zero_le _)).2.2.2
  have hvs : ∀ i : Nat, i < (R 0 1).toNat → g_VA (R 0) i (R 0 2) := fun i hi => by have q := hV.2.1 i (by omega); rwa [if_neg (Nat.not_lt_zero _)] at q
  intro Q' kQ
  refine mL_rescue (hx := 7) hC.st.t0 hTo (q_Ale hA (by omega)) (fun Q1 k1 => ?_)
  by_cases hx : (1 ≤ k ∧ k ≤ 3) ∧ (1 ≤ n ∧ n ≤ 120) ∧ (0 ≤ w ∧ w ≤ 1)
  · obtain ⟨nn, rfl⟩ : ∃ nn : Nat, n = (nn : Int) := ⟨n.toNat, by omega⟩
    have hnn : 1 ≤ nn ∧ nn ≤ 120 := by omega
    refine qC.wide (h := 7) (mc := 0) (ms := 0) (by decide) (by decide) (by decide) ?_
    refine mX7_rescue hC.st hA hC.pv hC.ov rfl (hC.wr 0 (Nat.zero_le _)) hV hmn hZ hC.ch hx.1 hnn hx.2.2 (fun x M N h1 h2 h4 h5 => ?_)
    have hK : q_AK b (V 0) I L M N := ⟨h1, h2, h4⟩
    refine k1 _ _ _ _ _ _ (q_LQ.okl (kQ 0 _ _ _ _ (Nat.le_refl _) (by decide) (fun Q2 kR => ?_)))
    have hM1 := fun z => hK.gm (o := o) (z := z) (by have := hC.ov.r (i := 0) (by omega); omega) hM hP.bk hmb hmo
    refine qC.wide (h := 7) (mc := 0) (ms := 0) (by decide) (by decide) (by decide) ?_
    refine mX8_rescueR (hM1 _).l3 (hM1 0).sm hAm hv hmn hm12 hV (hM1 _).z0 hx.1 hnn hx.2.2 (fun x' L' h3 hz hx' => ?_)
    obtain rfl : x = x' := Option.some.inj (h5.symm.trans hx')
    exact kR _ _ _ (hK.ge hC hM hP hmb hmo (h3) (hz)) (u2_s _ _ _ _) (fun _ => ((h3 _ _ (by omega) (by omega) (by omega) (by omega)).trans (u2_s _ _ _ _)).trans (congrArg (fun z => z) (rfl)))
  · refine qC.wide (h := 7) (mc := 1) (ms := 6) (by decide) (by decide) (by decide) ?_
    refine mX7_rescue0 hC.st hA hC.pv hC.ov rfl (hC.wr 0 (Nat.zero_le _)) hV hk hn hw hx (fun sz' hsz => ?_)
    refine k1 _ _ _ _ _ _ (q_LQ.er 0 rfl (kQ _ _ _ _ _ hsz (by decide) (fun Q2 kR => ?_)))
    have hM1 := hM.rf (b := b) (k := 7 + 1) (v := (I b (7 + 1)) + 1) hP.bk hmb
    refine qC.wide (h := 7) (mc := 0) (ms := 0) (by decide) (by decide) (by decide) ?_
    refine mX8_rescue0R hM1.l3 hM1.sm hAm hv hk hn hw hx ?_
    exact kR 0 _ _ (q_GE.rf hC hM hP hmb 1 (by decide) 1) (by rw [u2_a _ _ (by omega), u2_s]; rfl) (fun h => absurd h (by decide))
