/-! what the statement gives of the start -/
def q_nr : List Cond := flatC (Jvm.Cond.and given_1 narrow_1)
def q_iE : List Nat := [39, 43, 138, 153, 169, 186, 204, 223, 243, 88, 99, 111, 124, 78, 48, 54, 61, 69, 264, 286, 309, 333, 358]
def q_iK : List Nat := [42, 46, 141, 156, 172, 189, 207, 226, 246, 91, 102, 114, 127, 81, 51, 57, 64, 72, 267, 289, 312, 336, 361]
def q_iL : List Nat := [41, 45, 140, 155, 171, 188, 206, 225, 245, 90, 101, 113, 126, 80, 50, 56, 63, 71, 266, 288, 311, 335, 360]
def q_iA : List Nat := [11, 12, 13, 14, 15, 16, 17, 18, 19, 20, 21, 22, 23, 24, 25, 26, 27, 28, 29, 30, 31, 32, 33]
def q_sE : List Nat := [762, 771, 863, 872, 881, 892, 901, 911, 923, 823, 833, 841, 851, 815, 781, 788, 797, 806, 933, 945, 955, 966, 977, 469, 499, 539, 562, 570, 581, 590, 600, 610, 617, 628, 637, 645, 654, 661, 670, 681, 690, 698, 706, 716, 725, 732, 738, 746, 754]
def q_sC : List Nat := [763, 772, 864, 873, 882, 893, 902, 912, 924, 824, 834, 842, 852, 816, 782, 789, 798, 807, 934, 946, 956, 967, 978, 470, 500, 540, 563, 571, 582, 591, 601, 611, 618, 629, 638, 646, 655, 662, 671, 682, 691, 699, 707, 717, 726, 733, 739, 747, 755]
def q_sA : List Nat := [764, 773, 865, 874, 883, 894, 903, 913, 925, 825, 835, 843, 853, 817, 783, 790, 799, 808, 935, 947, 957, 968, 979, 471, 501, 541, 564, 572, 583, 592, 602, 612, 619, 630, 639, 647, 656, 663, 672, 683, 692, 700, 708, 718, 727, 734, 740, 748, 756]
def q_sL : List Nat := [765, 774, 866, 875, 884, 895, 904, 914, 926, 826, 836, 844, 854, 818, 784, 791, 800, 809, 936, 948, 958, 969, 980, 472, 502, 542, 565, 573, 584, 593, 603, 613, 620, 631, 640, 648, 657, 664, 673, 684, 693, 701, 709, 719, 728, 735, 741, 749, 757]
def q_lay : List Nat := [645, 680, 766, 772, 778, 784, 790, 800, 802, 744, 746, 748, 750, 730, 714, 720, 722, 724, 1742, 1743, 1744, 1745, 1746]
def q_srf : List Nat := [1747, 1748, 1758, 1759, 1760, 1761, 1762, 1763, 1764, 1754, 1755, 1756, 1757, 1753, 1749, 1750, 1751, 1752, 1765, 1766, 1767, 1768, 1769, 537, 865, 889, 1374, 1404, 1405, 1406, 1407, 1408, 1409, 1410, 1411, 1412, 1413, 1414, 1415, 1416, 1417, 1418, 1419, 1420, 1421, 1422, 1423, 1424, 1425]
def q_ins : List Nat := [275, 269, 125, 112, 118, 378, 104, 1263]
def q_exN : List Nat := [393, 416, 403, 414, 405, 394]
def q_ixt : List Nat := [113, 126, 270, 276, 389, 233, 124, 386, 388, 427, 1269, 858, 498, 882]
def q_iN : List (List Nat) := [[0, 47, 142, 157, 173, 190, 208, 227, 247, 92, 103, 115, 128, 82, 52, 58, 65, 73, 268, 290, 313, 337, 362], [0, 0, 143, 158, 174, 191, 209, 228, 248, 93, 104, 116, 129, 83, 53, 59, 66, 74, 269, 291, 314, 338, 363], [0, 0, 0, 168, 184, 201, 219, 238, 258, 0, 0, 0, 0, 0, 0, 0, 0, 0, 279, 301, 324, 348, 373], [0, 0, 0, 0, 185, 202, 220, 239, 259, 0, 0, 0, 0, 0, 0, 0, 0, 0, 280, 302, 325, 349, 374], [0, 0, 0, 0, 0, 203, 221, 240, 260, 0, 0, 0, 0, 0, 0, 0, 0, 0, 281, 303, 326, 350, 375], [0, 0, 0, 0, 0, 0, 222, 241, 261, 0, 0, 0, 0, 0, 0, 0, 0, 0, 282, 304, 327, 351, 376], [0, 0, 0, 0, 0, 0, 0, 242, 262, 0, 0, 0, 0, 0, 0, 0, 0, 0, 283, 305, 328, 352, 377], [0, 0, 0, 0, 0, 0, 0, 0, 263, 0, 0, 0, 0, 0, 0, 0, 0, 0, 284, 306, 329, 353, 378], [0, 0, 0, 0, 0, 0, 0, 0, 0, 0, 0, 0, 0, 0, 0, 0, 0, 0, 285, 307, 330, 354, 379], [0, 0, 149, 164, 180, 197, 215, 234, 254, 0, 110, 122, 135, 0, 0, 0, 0, 0, 275, 297, 320, 344, 369], [0, 0, 150, 165, 181, 198, 216, 235, 255, 0, 0, 123, 136, 0, 0, 0, 0, 0, 276, 298, 321, 345, 370], [0, 0, 151, 166, 182, 199, 217, 236, 256, 0, 0, 0, 137, 0, 0, 0, 0, 0, 277, 299, 322, 346, 371], [0, 0, 152, 167, 183, 200, 218, 237, 257, 0, 0, 0, 0, 0, 0, 0, 0, 0, 278, 300, 323, 347, 372], [0, 0, 148, 163, 179, 196, 214, 233, 253, 98, 109, 121, 134, 0, 0, 0, 0, 0, 274, 296, 319, 343, 368], [0, 0, 144, 159, 175, 192, 210, 229, 249, 94, 105, 117, 130, 84, 0, 60, 67, 75, 270, 292, 315, 339, 364], [0, 0, 145, 160, 176, 193, 211, 230, 250, 95, 106, 118, 131, 85, 0, 0, 68, 76, 271, 293, 316, 340, 365], [0, 0, 146, 161, 177, 194, 212, 231, 251, 96, 107, 119, 132, 86, 0, 0, 0, 77, 272, 294, 317, 341, 366], [0, 0, 147, 162, 178, 195, 213, 232, 252, 97, 108, 120, 133, 87, 0, 0, 0, 0, 273, 295, 318, 342, 367], [0, 0, 0, 0, 0, 0, 0, 0, 0, 0, 0, 0, 0, 0, 0, 0, 0, 0, 0, 308, 331, 355, 380], [0, 0, 0, 0, 0, 0, 0, 0, 0, 0, 0, 0, 0, 0, 0, 0, 0, 0, 0, 0, 332, 356, 381], [0, 0, 0, 0, 0, 0, 0, 0, 0, 0, 0, 0, 0, 0, 0, 0, 0, 0, 0, 0, 0, 357, 382], [0, 0, 0, 0, 0, 0, 0, 0, 0, 0, 0, 0, 0, 0, 0, 0, 0, 0, 0, 0, 0, 0, 383], [0, 0, 0, 0, 0, 0, 0, 0, 0, 0, 0, 0, 0, 0, 0, 0, 0, 0, 0, 0, 0, 0, 0]]
def q_sB : List (List Nat) := [[766, 767, 768, 769], [775, 776, 777, 778, 779], [867, 868, 869, 870], [876, 877, 878, 879], [885, 886, 887, 888, 889, 890], [896, 897, 898, 899], [905, 906, 907, 908, 909], [915, 916, 917, 918, 919, 920, 921], [927, 928, 929, 930, 931], [827, 828, 829, 830, 831], [837, 838, 839], [845, 846, 847, 848, 849], [855, 856, 857, 858, 859, 860, 861], [819, 820, 821], [785, 786], [792, 793, 794, 795], [801, 802, 803, 804], [810, 811, 812, 813], [937, 938, 939, 940, 941, 942, 943], [949, 950, 951, 952, 953], [959, 960, 961, 962, 963, 964], [970, 971, 972, 973, 974, 975], [981, 982, 983], [473, 474, 475, 476, 477, 478, 479, 480, 481, 482, 483, 484, 485, 486, 487, 488, 489, 490, 491, 492, 493, 494, 495, 496, 497, 498], [503, 504, 505, 506, 507, 508, 509, 510, 511, 512, 513, 514, 515, 516, 517, 518, 519, 520, 521, 522, 523, 524, 525, 526, 527, 528, 529, 530, 531, 532, 533, 534, 535, 536, 537, 538], [543, 544, 545, 546, 547, 548, 549, 550, 551, 552, 553, 554, 555, 556, 557, 558, 559, 560, 561], [566, 567, 568, 569], [574, 575, 576, 577, 578, 579, 580], [585, 586, 587, 588, 589], [594, 595, 596, 597, 598, 599], [604, 605, 606, 607, 608, 609], [614, 615, 616], [621, 622, 623, 624, 625, 626, 627], [632, 633, 634, 635, 636], [641, 642, 643, 644], [649, 650, 651, 652, 653], [658, 659, 660], [665, 666, 667, 668, 669], [674, 675, 676, 677, 678, 679, 680], [685, 686, 687, 688, 689], [694, 695, 696, 697], [702, 703, 704, 705], [710, 711, 712, 713, 714, 715], [720, 721, 722, 723, 724], [729, 730, 731], [736, 737], [742, 743, 744, 745], [750, 751, 752, 753], [758, 759, 760, 761]]
def q_Wt (i : Nat) : Term := .static "IdleMoney$Word" (q_wn.getD i "") "LIdleMoney$Word;"
def q_srd (i : Nat) : String × Nat × String × List Int32 := q_sr.getD i ("", 0, "", [])
def q_Stm (i : Nat) : Term := .string (q_srd i).1 (q_srd i).2.1
def q_Vtm (i : Nat) : Term := .field (q_Stm i) "java/lang/String" "value" "[B"
set_option maxRecDepth 100000 in
theorem q_fE : ∀ i, i < 23 → q_nr[q_iE.getD i 0]? = some (Cond.exactly (q_Wt i) "IdleMoney$Word") := by decide +kernel
set_option maxRecDepth 100000 in
theorem q_fK : ∀ i, i < 23 → q_nr[q_iK.getD i 0]? = some (Cond.eq (.field (q_Wt i) "IdleMoney$Word" "kind" "I") (.int (q_wk.getD i 0))) := by decide +kernel
set_option maxRecDepth 100000 in
theorem q_fL : ∀ i, i < 23 → q_nr[q_iL.getD i 0]? = some (Cond.eq (.field (q_Wt i) "IdleMoney$Word" "letters" "Ljava/lang/String;") (q_Stm i)) := by decide +kernel
set_option maxRecDepth 100000 in
theorem q_fA : ∀ i, i < 23 → q_nr[q_iA.getD i 0]? = some (Cond.eq (.elem (.static "IdleMoney$Word" "ALL" "[LIdleMoney$Word;") (.int (Int32.ofNat i))) (q_Wt i)) := by decide +kernel
set_option maxRecDepth 100000 in
theorem q_fN : ∀ i, i < 23 → ∀ j, j < i → q_nr[(q_iN.getD i []).getD j 0]? = some (Cond.not (.eq (q_Wt i) (q_Wt j))) ∨ q_nr[(q_iN.getD j []).getD i 0]? = some (Cond.not (.eq (q_Wt j) (q_Wt i))) := by decide +kernel
set_option maxRecDepth 100000 in
theorem q_fsE : ∀ i, i < 49 → q_nr[q_sE.getD i 0]? = some (Cond.exactly (q_Stm i) "java/lang/String") := by decide +kernel
set_option maxRecDepth 100000 in
theorem q_fsC : ∀ i, i < 49 → q_nr[q_sC.getD i 0]? = some (Cond.eq (.field (q_Stm i) "java/lang/String" "coder" "B") (.int 0)) := by decide +kernel
set_option maxRecDepth 100000 in
theorem q_fsA : ∀ i, i < 49 → q_nr[q_sA.getD i 0]? = some (Cond.arrayOf (q_Vtm i) .byte) := by decide +kernel
set_option maxRecDepth 100000 in
theorem q_fsL : ∀ i, i < 49 → q_nr[q_sL.getD i 0]? = some (Cond.eq (.length (q_Vtm i)) (.int (Int32.ofNat (q_srd i).2.2.2.length))) := by decide +kernel
set_option maxRecDepth 100000 in
theorem q_fsB : ∀ i, i < 49 → ∀ j, j < (q_srd i).2.2.2.length → q_nr[(q_sB.getD i []).getD j 0]? = some (Cond.eq (.elem (q_Vtm i) (.int (Int32.ofNat j))) (.int ((q_srd i).2.2.2.getD j 0))) := by decide +kernel
set_option maxRecDepth 100000 in
theorem q_flay : ∀ i, i < 23 → lw_tbl[q_lay.getD i 0]? = some (Cond.laysStatic "IdleMoney$Word" (q_wn.getD i "") "LIdleMoney$Word;") := by decide +kernel
set_option maxRecDepth 100000 in
theorem q_fsrf : ∀ i, i < 49 → lw_tbl[q_srf.getD i 0]? = some (Cond.stringRef (q_srd i).1 (q_srd i).2.1 (q_srd i).2.2.1) := by decide +kernel
set_option maxRecDepth 100000 in
theorem q_fins : ∀ i, i < 8 → (q_cl[i]?).map (fun r => Cond.instantiable r.1 r.2.2) = lw_tbl[q_ins.getD i 0]? := by decide +kernel
set_option maxRecDepth 100000 in
theorem q_fexN : ∀ i, i < 6 → (q_EX[i]?).map (fun e => Cond.not (.castable e.1 e.2)) = q_nr[q_exN.getD i 0]? := by decide +kernel
set_option maxRecDepth 100000 in
theorem q_fnst : ∀ i, i < 14 → q_nst[i]? = lw_tbl[q_ixt.getD i 0]? := by decide +kernel
theorem q_fsrl : ∀ i, i < 49 → (q_srd i).2.2.2.length < 2 ^ 31 := by decide +kernel
theorem q_srd_at {i : Nat} {x : String × Nat × String × List Int32} (h : q_sr[i]? = some x) : i < 49 ∧ q_srd i = x := by
  have h1 := (List.getElem?_eq_some_iff.mp h).1
  refine ⟨h1, ?_⟩
  unfold q_srd
  rw [List.getD_eq_getElem?_getD, h]
  rfl
/-- an array class over arrays -/
theorem q_aOA_spec {t : FieldType} {args : Array Value} {s : State} (h : (Cond.arrayOver (.array t)).before args s = true) : ∃ comp c k, s.vm.classes[c]? = some k ∧ k.kind = .array comp (.array t) ∧ s.vm.findClass ("[" ++ (FieldType.array t).toString) = some c := by
  unfold Cond.before at h
  simp only [Cond.holds, Cond.value, beq_iff_eq] at h
  cases hc : s.vm.findClass (FieldType.array t).toString with
  | none => simp [hc] at h
  | some comp =>
    simp only [hc, Option.bind_some, Option.bind_eq_some_iff, Option.map_eq_some_iff] at h
    obtain ⟨c, hi, k, hk, hb⟩ := h
    obtain ⟨hlt, hp, -⟩ := Array.findIdx?_eq_some_iff_getElem.mp hi
    have hkk : s.vm.classes[c] = k := (Array.getElem?_eq_some_iff.mp hk).2
    rw [hkk] at hp
    cases hkind : k.kind with
    | array component ty =>
      rw [hkind] at hb hp
      simp at hb hp
      exact ⟨comp, c, k, hk, by rw [hkind, hp, hb.1], hb.2⟩
    | _ => rw [hkind] at hb; simp at hb
theorem q_arrK {ty : FieldType} {s : State} {c comp : ClassId} {k : Class} (h1 : s.vm.classes[c]? = some k) (h2 : k.kind = .array comp ty) : ArrOfT s c ty := fun _ _ => ⟨fun _ h => (by cases h), k, h1, comp, h2⟩
section
variable {s : State} {args : Array Value}
theorem q_arr_p {ty : FieldType} (h : (Cond.arrayClass ty).before args s = true) (hty : ty = .int ∨ ty = .long) : ∃ c : ClassId, ArrOfT s c ty ∧ va_RA s c ty := by
  obtain ⟨c, k, comp, h1, h2, h3⟩ := Cond.arrayClass_spec h
  refine ⟨c, q_arrK h2 h3, ?_⟩
  rcases hty with rfl | rfl <;> exact h1
theorem q_arr_o {n : String} (h : (Cond.arrayOver (.object n)).before args s = true) : ∃ c : ClassId, ArrOfT s c (.object n) ∧ va_RA s c (.object n) := by
  obtain ⟨comp, c, k, h1, h2, h3, h4, h5⟩ := Cond.arrayOver_spec h
  exact ⟨c, q_arrK h3 h4, ⟨k, comp, h3, h4, h1, h5⟩⟩
theorem q_arr_a {t : FieldType} (h : (Cond.arrayOver (.array t)).before args s = true) : ∃ c : ClassId, ArrOfT s c (.array t) ∧ va_RA s c (.array t) := by
  obtain ⟨comp, c, k, h1, h2, h3⟩ := q_aOA_spec h
  exact ⟨c, q_arrK h1 h2, h3⟩
end
set_option maxRecDepth 100000 in
/-- all that holds at the start -/
theorem q_Gs_start {s : State} {l : Launch} {b : Nat} (hl : l.stackTraces = false) (hts : ∀ w ∈ lw_tbl, w.before #[Value.ref b] s = true) (hn : ∀ w ∈ q_nr, w.before #[Value.ref b] s = true) : ∃ G : q_G, G.1 = l ∧ G.2.2.2.1 = s.heap.size ∧ q_Gs G s := by
  have tb : ∀ (i : Nat) {w : Cond}, lw_tbl[i]? = some w → w.before #[Value.ref b] s = true := fun i w h => hts w (List.mem_of_getElem? h)
  have nr : ∀ (i : Nat) {w : Cond}, q_nr[i]? = some w → w.before #[Value.ref b] s = true := fun i w h => hn w (List.mem_of_getElem? h)
  have hA : ∀ a : Nat, a < s.heap.size → ¬ (fun q : Nat => s.heap.size ≤ q) a := fun a h1 h2 => Nat.not_le.mpr h1 h2
  have hall : ∀ w ∈ q_all, w.before #[Value.ref b] s = true := fun w hw => hts w (List.mem_filter.mp hw).1
  have hk0 : ∀ ci : Nat, ∃ x : ClassId × (Nat → Nat), ∀ r : vw_C, q_cl[ci]? = some r → u_Kn s r.1 r.2.1 r.2.2 x.1 x.2 := by
    intro ci
    cases hr : q_cl[ci]? with
    | none => exact ⟨(default, fun _ => 0), fun r h => by cases h⟩
    | some r =>
      have hci : ci < 8 := (List.getElem?_eq_some_iff.mp hr).1
      have h1 := q_fins ci hci
      rw [hr] at h1
      obtain ⟨cC, iS, hK⟩ := u_known (ws := q_all) (n := r.2.2) hall (q_lay_in hr) (tb _ h1.symm)
      exact ⟨(cC, iS), fun r' h => by cases h; exact hK⟩
  have ha0 : ∀ t : Nat, ∃ c : ClassId, t < 8 → ArrOfT s c (q_ty t) ∧ va_RA s c (q_ty t) := by
    intro t
    match t with
    | 0 => obtain ⟨c, h⟩ := q_arr_p (tb 162 (by decide +kernel)) (Or.inl rfl); exact ⟨c, fun _ => h⟩
    | 1 => obtain ⟨c, h⟩ := q_arr_p (tb 163 (by decide +kernel)) (Or.inr rfl); exact ⟨c, fun _ => h⟩
    | 2 => obtain ⟨c, h⟩ := q_arr_o (n := RX2) (tb 124 (by decide +kernel)); exact ⟨c, fun _ => h⟩
    | 3 => obtain ⟨c, h⟩ := q_arr_o (n := RX0) (tb 386 (by decide +kernel)); exact ⟨c, fun _ => h⟩
    | 4 => obtain ⟨c, h⟩ := q_arr_o (n := RX6) (tb 427 (by decide +kernel)); exact ⟨c, fun _ => h⟩
    | 5 => obtain ⟨c, h⟩ := q_arr_o (n := RX5) (tb 233 (by decide +kernel)); exact ⟨c, fun _ => h⟩
    | 6 => obtain ⟨c, h⟩ := q_arr_a (t := .int) (tb 388 (by decide +kernel)); exact ⟨c, fun _ => h⟩
    | 7 => obtain ⟨c, h⟩ := q_arr_a (t := .long) (tb 1269 (by decide +kernel)); exact ⟨c, fun _ => h⟩
    | n + 8 => exact ⟨default, fun h => by omega⟩
  have hs0 : ∀ i : Nat, ∃ q : Nat × Nat, i < 49 → (q_Stm i).eval #[Value.ref b] s none [] s = some (.ref q.1) ∧ va_O "java/lang/String" q.1 (fun q : Nat => s.heap.size ≤ q) s s.heap ∧ va_OF "java/lang/String" "coder" "B" (.int 0) q.1 (fun q : Nat => s.heap.size ≤ q) s s.heap ∧ va_OF "java/lang/String" "value" "[B" (.ref q.2) q.1 (fun q : Nat => s.heap.size ≤ q) s s.heap ∧ va_T .byte q.2 (q_srd i).2.2.2.length (fun j => .int ((q_srd i).2.2.2.getD j 0)) (fun q : Nat => s.heap.size ≤ q) s s.heap := by
    intro i
    by_cases hi : i < 49
    · obtain ⟨a, c, cA, kA, q1, q2, q3, q4, q5, q6, -⟩ := Cond.exactly_spec (args := #[Value.ref b]) (first := s) (o := none) (s := s) (idx := []) (t := q_Stm i) (cls := "java/lang/String") (nr _ (q_fsE i hi))
      obtain ⟨t, ht, hT⟩ := va_Tof (f := fun j => .int ((q_srd i).2.2.2.getD j 0)) (A := fun q : Nat => s.heap.size ≤ q) (q_fsrl i hi) (nr _ (q_fsA i hi)) (va_eqt (nr _ (q_fsL i hi))) (fun j hj => va_eqt (nr _ (q_fsB i hi j hj))) hA
      exact ⟨(a, t), fun _ => ⟨q1, ⟨cA, q3, q5, by rw [q6]; exact q2, hA a (Array.getElem?_eq_some_iff.mp q3).1⟩, vk_OFof q1 (va_eqt (nr _ (q_fsC i hi))) hA, vk_OFof q1 ht hA, hT⟩⟩
    · exact ⟨(0, 0), fun h => absurd h hi⟩
  obtain ⟨D, hD⟩ := Classical.axiomOfChoice hk0
  obtain ⟨cT, hcT⟩ := Classical.axiomOfChoice ha0
  obtain ⟨ad, had⟩ := Classical.axiomOfChoice hs0
  obtain ⟨adE, hE, hEv⟩ := va_Enof2 (args := #[Value.ref b]) (s := s) (E := "IdleMoney$Word") (d := "LIdleMoney$Word;") (nm := q_wn) (F := q_wF) (A := fun q : Nat => s.heap.size ≤ q) (fun i hi => tb _ (q_flay i hi)) (tb 94 (by decide +kernel)) (fun i hi => nr _ (q_fE i hi)) (fun q hq i hi => by
      obtain rfl : q = ("IdleMoney$Word", "kind", "I", q_wk) := by simpa [q_wF] using hq
      exact nr _ (q_fK i hi)) (fun i j hi hj hne => by
      rcases Nat.lt_or_gt_of_ne hne with h | h
      · exact (q_fN j hj i h).elim (fun x => Or.inr (nr _ x)) (fun x => Or.inl (nr _ x))
      · exact (q_fN i hi j h).elim (fun x => Or.inl (nr _ x)) (fun x => Or.inr (nr _ x))) hA
  obtain ⟨adA, hAe, hAT⟩ := va_Tof (args := #[Value.ref b]) (s := s) (tm := .static "IdleMoney$Word" "ALL" "[LIdleMoney$Word;") (ty := .object "IdleMoney$Word") (N := 23) (f := fun i => .ref (adE i)) (A := fun q : Nat => s.heap.size ≤ q) (by decide) (nr 8 (by decide +kernel)) (va_eqt (nr 9 (by decide +kernel))) (fun j hj => va_eqv (nr _ (q_fA j hj)) (hEv j hj)) hA
  refine ⟨(l, (fun ci => (D ci).1, fun ci => (D ci).2), cT, s.heap.size, adE, fun i => (ad i).1, fun i => (ad i).2, adA), rfl, rfl, hl, ⟨fun c q hq => hD c q hq, fun k q hq => ?_⟩, fun w hw => word_at (State.WarmedH.refl s) (good_of_word (q_all_good hw)) (hall w hw), fun w hw => ?_, ?_⟩
  · by_cases hk : k < 8
    · rw [q_tys_at cT hk] at hq
      cases hq
      exact hcT k hk
    · have : k < (q_tys cT).length := (List.getElem?_eq_some_iff.mp hq).1
      exact absurd this hk
  · have h9 : w.before #[Value.ref b] s = true := by
      obtain ⟨i, hi⟩ := List.getElem?_of_mem hw
      have h14 : i < 14 := (List.getElem?_eq_some_iff.mp hi).1
      have h1 := q_fnst i h14
      rw [hi] at h1
      exact tb _ h1.symm
    simp only [q_nst, List.mem_cons, List.not_mem_nil, or_false] at hw
    rcases hw with rfl | rfl | rfl | rfl | rfl | rfl | rfl | rfl | rfl | rfl | rfl | rfl | rfl | rfl
    · exact h9
    · exact h9
    · exact h9
    · exact h9
    · exact h9
    · exact h9
    · exact h9
    · exact h9
    · exact h9
    · exact h9
    · exact h9
    · exact h9
    · exact h9
    · exact h9
  · refine ⟨vx_Zqof (tb 523 (by decide +kernel)) (tb 88 (by decide +kernel)) (nr 4 (by decide +kernel)) hA, vx_Zqof (tb 525 (by decide +kernel)) (tb 88 (by decide +kernel)) (nr 5 (by decide +kernel)) hA, hE, ?_, va_Zof (tb 586 (by decide +kernel)) (tb 94 (by decide +kernel)) hAe hA, hAT, fun i sr hi => ?_, va_Zof (tb 601 (by decide +kernel)) (tb 95 (by decide +kernel)) (va_eqi (nr 34 (by decide +kernel))) hA, fun e he => ?_, va_Zqof (tb 617 (by decide +kernel)) (tb 97 (by decide +kernel)) (nr 35 (by decide +kernel)) hA⟩
    · exact va_Efof (args := #[Value.ref b]) (N := 23) (E := "IdleMoney$Word") (d0 := "LIdleMoney$Word;") (nm := q_wn) (tm := q_Stm) hEv (fun i hi => nr _ (q_fL i hi)) (fun i hi => (had i (by omega)).1) hA
    · obtain ⟨h49, rfl⟩ := q_srd_at hi
      obtain ⟨h1, h2, h3, h4, h5⟩ := had i h49
      exact ⟨vk_R.of (tb _ (q_fsrf i h49)) h1, h2, h3, h4, h5⟩
    · obtain ⟨i, hi⟩ := List.getElem?_of_mem he
      have h6 : i < 6 := (List.getElem?_eq_some_iff.mp hi).1
      have h1 := q_fexN i h6
      rw [hi] at h1
      exact va_Nc.of (nr _ h1.symm)
