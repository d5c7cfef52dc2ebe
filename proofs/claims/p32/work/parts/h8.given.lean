/-! what the statement gives of the start -/
def q_nr : List Cond := flatC (Jvm.Cond.and given_1 narrow_1)
def q_iE : List Nat := [61, 65, 160, 175, 191, 208, 226, 245, 265, 110, 121, 133, 146, 100, 70, 76, 83, 91, 286, 308, 331, 355, 380]
def q_iK : List Nat := [64, 68, 163, 178, 194, 211, 229, 248, 268, 113, 124, 136, 149, 103, 73, 79, 86, 94, 289, 311, 334, 358, 383]
def q_iL : List Nat := [63, 67, 162, 177, 193, 210, 228, 247, 267, 112, 123, 135, 148, 102, 72, 78, 85, 93, 288, 310, 333, 357, 382]
def q_iA : List Nat := [38, 39, 40, 41, 42, 43, 44, 45, 46, 47, 48, 49, 50, 51, 52, 53, 54, 55, 56, 57, 58, 59, 60]
def q_sE : List Nat := [884, 892, 974, 982, 991, 1002, 1011, 1021, 1033, 938, 947, 954, 963, 931, 901, 907, 915, 923, 1043, 1055, 1065, 1076, 1087, 575, 535, 605, 884, 1043, 1055, 1065, 1076, 1087, 1021, 1033, 1002, 938, 947, 954, 963, 892, 974, 982, 991, 1011, 931, 901, 907, 915, 923, 649, 628, 637, 654, 659, 669, 682, 691, 709, 727, 736, 744, 754, 763, 809, 820, 829, 839, 849, 772, 780, 790, 795, 803, 856, 867, 876]
def q_sC : List Nat := [885, 893, 975, 983, 992, 1003, 1012, 1022, 1034, 939, 948, 955, 964, 932, 902, 908, 916, 924, 1044, 1056, 1066, 1077, 1088, 576, 536, 606, 885, 1044, 1056, 1066, 1077, 1088, 1022, 1034, 1003, 939, 948, 955, 964, 893, 975, 983, 992, 1012, 932, 902, 908, 916, 924, 650, 629, 638, 655, 660, 670, 683, 692, 710, 728, 737, 745, 755, 764, 810, 821, 830, 840, 850, 773, 781, 791, 796, 804, 857, 868, 877]
def q_sA : List Nat := [886, 894, 976, 984, 993, 1004, 1013, 1023, 1035, 940, 949, 956, 965, 933, 903, 909, 917, 925, 1045, 1057, 1067, 1078, 1089, 577, 537, 607, 886, 1045, 1057, 1067, 1078, 1089, 1023, 1035, 1004, 940, 949, 956, 965, 894, 976, 984, 993, 1013, 933, 903, 909, 917, 925, 651, 630, 639, 656, 661, 671, 684, 693, 711, 729, 738, 746, 756, 765, 811, 822, 831, 841, 851, 774, 782, 792, 797, 805, 858, 869, 878]
def q_sL : List Nat := [887, 895, 977, 985, 994, 1005, 1014, 1024, 1036, 941, 950, 957, 966, 934, 904, 910, 918, 926, 1046, 1058, 1068, 1079, 1090, 578, 538, 608, 887, 1046, 1058, 1068, 1079, 1090, 1024, 1036, 1005, 941, 950, 957, 966, 895, 977, 985, 994, 1014, 934, 904, 910, 918, 926, 652, 631, 640, 657, 662, 672, 685, 694, 712, 730, 739, 747, 757, 766, 812, 823, 832, 842, 852, 775, 783, 793, 798, 806, 859, 870, 879]
def q_lay : List Nat := [1198, 1233, 1312, 1318, 1324, 1330, 1336, 1346, 1348, 1290, 1292, 1294, 1296, 1276, 1260, 1266, 1268, 1270, 1480, 1481, 1482, 1483, 1484]
def q_srf : List Nat := [1485, 1486, 1496, 1497, 1498, 1499, 1500, 1501, 1502, 1492, 1493, 1494, 1495, 1491, 1487, 1488, 1489, 1490, 1503, 1504, 1505, 1506, 1507, 730, 686, 750, 1485, 1503, 1504, 1505, 1506, 1507, 1501, 1502, 1499, 1492, 1493, 1494, 1495, 1486, 1496, 1497, 1498, 1500, 1491, 1487, 1488, 1489, 1490, 1135, 1062, 1063, 1140, 1141, 1144, 1145, 1146, 1147, 1148, 1149, 1150, 1151, 1152, 1472, 1473, 1474, 1475, 1476, 1466, 1467, 1468, 1469, 1470, 1477, 1478, 1479]
def q_ins : List Nat := [237, 231, 87, 74, 80, 338, 66, 524, 428, 447]
def q_exN : List Nat := [427, 441, 414, 440, 415, 428]
def q_ixt : List Nat := [75, 88, 232, 238, 349, 1061, 1363, 195, 86, 346, 348, 387, 454, 456, 1442, 647, 723, 743]
def q_iN : List (List Nat) := [[0, 69, 164, 179, 195, 212, 230, 249, 269, 114, 125, 137, 150, 104, 74, 80, 87, 95, 290, 312, 335, 359, 384], [0, 0, 165, 180, 196, 213, 231, 250, 270, 115, 126, 138, 151, 105, 75, 81, 88, 96, 291, 313, 336, 360, 385], [0, 0, 0, 190, 206, 223, 241, 260, 280, 0, 0, 0, 0, 0, 0, 0, 0, 0, 301, 323, 346, 370, 395], [0, 0, 0, 0, 207, 224, 242, 261, 281, 0, 0, 0, 0, 0, 0, 0, 0, 0, 302, 324, 347, 371, 396], [0, 0, 0, 0, 0, 225, 243, 262, 282, 0, 0, 0, 0, 0, 0, 0, 0, 0, 303, 325, 348, 372, 397], [0, 0, 0, 0, 0, 0, 244, 263, 283, 0, 0, 0, 0, 0, 0, 0, 0, 0, 304, 326, 349, 373, 398], [0, 0, 0, 0, 0, 0, 0, 264, 284, 0, 0, 0, 0, 0, 0, 0, 0, 0, 305, 327, 350, 374, 399], [0, 0, 0, 0, 0, 0, 0, 0, 285, 0, 0, 0, 0, 0, 0, 0, 0, 0, 306, 328, 351, 375, 400], [0, 0, 0, 0, 0, 0, 0, 0, 0, 0, 0, 0, 0, 0, 0, 0, 0, 0, 307, 329, 352, 376, 401], [0, 0, 171, 186, 202, 219, 237, 256, 276, 0, 132, 144, 157, 0, 0, 0, 0, 0, 297, 319, 342, 366, 391], [0, 0, 172, 187, 203, 220, 238, 257, 277, 0, 0, 145, 158, 0, 0, 0, 0, 0, 298, 320, 343, 367, 392], [0, 0, 173, 188, 204, 221, 239, 258, 278, 0, 0, 0, 159, 0, 0, 0, 0, 0, 299, 321, 344, 368, 393], [0, 0, 174, 189, 205, 222, 240, 259, 279, 0, 0, 0, 0, 0, 0, 0, 0, 0, 300, 322, 345, 369, 394], [0, 0, 170, 185, 201, 218, 236, 255, 275, 120, 131, 143, 156, 0, 0, 0, 0, 0, 296, 318, 341, 365, 390], [0, 0, 166, 181, 197, 214, 232, 251, 271, 116, 127, 139, 152, 106, 0, 82, 89, 97, 292, 314, 337, 361, 386], [0, 0, 167, 182, 198, 215, 233, 252, 272, 117, 128, 140, 153, 107, 0, 0, 90, 98, 293, 315, 338, 362, 387], [0, 0, 168, 183, 199, 216, 234, 253, 273, 118, 129, 141, 154, 108, 0, 0, 0, 99, 294, 316, 339, 363, 388], [0, 0, 169, 184, 200, 217, 235, 254, 274, 119, 130, 142, 155, 109, 0, 0, 0, 0, 295, 317, 340, 364, 389], [0, 0, 0, 0, 0, 0, 0, 0, 0, 0, 0, 0, 0, 0, 0, 0, 0, 0, 0, 330, 353, 377, 402], [0, 0, 0, 0, 0, 0, 0, 0, 0, 0, 0, 0, 0, 0, 0, 0, 0, 0, 0, 0, 354, 378, 403], [0, 0, 0, 0, 0, 0, 0, 0, 0, 0, 0, 0, 0, 0, 0, 0, 0, 0, 0, 0, 0, 379, 404], [0, 0, 0, 0, 0, 0, 0, 0, 0, 0, 0, 0, 0, 0, 0, 0, 0, 0, 0, 0, 0, 0, 405], [0, 0, 0, 0, 0, 0, 0, 0, 0, 0, 0, 0, 0, 0, 0, 0, 0, 0, 0, 0, 0, 0, 0]]
def q_sB : List (List Nat) := [[888, 889, 890, 891], [896, 897, 898, 899, 900], [978, 979, 980, 981], [986, 987, 988, 989], [995, 996, 997, 998, 999, 1000], [1006, 1007, 1008, 1009], [1015, 1016, 1017, 1018, 1019], [1025, 1026, 1027, 1028, 1029, 1030, 1031], [1037, 1038, 1039, 1040, 1041], [942, 943, 944, 945, 946], [951, 952, 953], [958, 959, 960, 961, 962], [967, 968, 969, 970, 971, 972, 973], [935, 936, 937], [905, 906], [911, 912, 913, 914], [919, 920, 921, 922], [927, 928, 929, 930], [1047, 1048, 1049, 1050, 1051, 1052, 1053], [1059, 1060, 1061, 1062, 1063], [1069, 1070, 1071, 1072, 1073, 1074], [1080, 1081, 1082, 1083, 1084, 1085], [1091, 1092, 1093], [579, 580, 581, 582, 583, 584, 585, 586, 587, 588, 589, 590, 591, 592, 593, 594, 595, 596, 597, 598, 599, 600, 601, 602, 603, 604], [539, 540, 541, 542, 543, 544, 545, 546, 547, 548, 549, 550, 551, 552, 553, 554, 555, 556, 557, 558, 559, 560, 561, 562, 563, 564, 565, 566, 567, 568, 569, 570, 571, 572, 573, 574], [609, 610, 611, 612, 613, 614, 615, 616, 617, 618, 619, 620, 621, 622, 623, 624, 625, 626, 627], [888, 889, 890, 891], [1047, 1048, 1049, 1050, 1051, 1052, 1053], [1059, 1060, 1061, 1062, 1063], [1069, 1070, 1071, 1072, 1073, 1074], [1080, 1081, 1082, 1083, 1084, 1085], [1091, 1092, 1093], [1025, 1026, 1027, 1028, 1029, 1030, 1031], [1037, 1038, 1039, 1040, 1041], [1006, 1007, 1008, 1009], [942, 943, 944, 945, 946], [951, 952, 953], [958, 959, 960, 961, 962], [967, 968, 969, 970, 971, 972, 973], [896, 897, 898, 899, 900], [978, 979, 980, 981], [986, 987, 988, 989], [995, 996, 997, 998, 999, 1000], [1015, 1016, 1017, 1018, 1019], [935, 936, 937], [905, 906], [911, 912, 913, 914], [919, 920, 921, 922], [927, 928, 929, 930], [653], [632, 633, 634, 635, 636], [641, 642, 643, 644, 645, 646, 647, 648], [658], [663, 664, 665, 666, 667, 668], [673, 674, 675, 676, 677, 678, 679, 680, 681], [686, 687, 688, 689, 690], [695, 696, 697, 698, 699, 700, 701, 702, 703, 704, 705, 706, 707, 708], [713, 714, 715, 716, 717, 718, 719, 720, 721, 722, 723, 724, 725, 726], [731, 732, 733, 734, 735], [740, 741, 742, 743], [748, 749, 750, 751, 752, 753], [758, 759, 760, 761, 762], [767, 768, 769, 770, 771], [813, 814, 815, 816, 817, 818, 819], [824, 825, 826, 827, 828], [833, 834, 835, 836, 837, 838], [843, 844, 845, 846, 847, 848], [853, 854, 855], [776, 777, 778, 779], [784, 785, 786, 787, 788, 789], [794], [799, 800, 801, 802], [807, 808], [860, 861, 862, 863, 864, 865, 866], [871, 872, 873, 874, 875], [880, 881, 882, 883]]
def q_Wt (i : Nat) : Term := .static "IdleMoney$Word" (q_wn.getD i "") "LIdleMoney$Word;"
def q_srd (i : Nat) : String × Nat × String × List Int32 := q_sr.getD i ("", 0, "", [])
def q_Stm (i : Nat) : Term := .string (q_srd i).1 (q_srd i).2.1
def q_Vtm (i : Nat) : Term := .field (q_Stm i) "java/lang/String" "value" "[B"
set_option maxRecDepth 100000 in
theorem q_fE : ∀ i, i < 23 → q_nr[q_iE.getD i 0]? = some (Cond.exactly (q_Wt i) "IdleMoney$Word") := by decide +kernel
set_option maxRecDepth 100000 in
theorem q_fK : ∀ i, i < 23 → q_nr[q_iK.getD i 0]? = some (Cond.eq (.field (q_Wt i) "IdleMoney$Word" "kind" "I") (.int (q_wk.getD i 0))) := by decide +kernel
set_option maxRecDepth 100000 in
theorem q_fL : ∀ i, i < 23 → q_nr[q_iL.getD i 0]? = some (Cond.eq (.field (q_Wt i) "IdleMoney$Word" "letters" "Ljava/lang/String;") (q_Stm i)) := by decide +kernel
set_option maxRecDepth 100000 in
theorem q_fA : ∀ i, i < 23 → q_nr[q_iA.getD i 0]? = some (Cond.eq (.elem (.static "IdleMoney$Word" "ALL" "[LIdleMoney$Word;") (.int (Int32.ofNat i))) (q_Wt i)) := by decide +kernel
set_option maxRecDepth 100000 in
theorem q_fN : ∀ i, i < 23 → ∀ j, j < i → q_nr[(q_iN.getD i []).getD j 0]? = some (Cond.not (.eq (q_Wt i) (q_Wt j))) ∨ q_nr[(q_iN.getD j []).getD i 0]? = some (Cond.not (.eq (q_Wt j) (q_Wt i))) := by decide +kernel
set_option maxRecDepth 100000 in
theorem q_fsE : ∀ i, i < 76 → q_nr[q_sE.getD i 0]? = some (Cond.exactly (q_Stm i) "java/lang/String") := by decide +kernel
set_option maxRecDepth 100000 in
theorem q_fsC : ∀ i, i < 76 → q_nr[q_sC.getD i 0]? = some (Cond.eq (.field (q_Stm i) "java/lang/String" "coder" "B") (.int 0)) := by decide +kernel
set_option maxRecDepth 100000 in
theorem q_fsA : ∀ i, i < 76 → q_nr[q_sA.getD i 0]? = some (Cond.arrayOf (q_Vtm i) .byte) := by decide +kernel
set_option maxRecDepth 100000 in
theorem q_fsL : ∀ i, i < 76 → q_nr[q_sL.getD i 0]? = some (Cond.eq (.length (q_Vtm i)) (.int (Int32.ofNat (q_srd i).2.2.2.length))) := by decide +kernel
set_option maxRecDepth 100000 in
theorem q_fsB : ∀ i, i < 76 → ∀ j, j < (q_srd i).2.2.2.length → q_nr[(q_sB.getD i []).getD j 0]? = some (Cond.eq (.elem (q_Vtm i) (.int (Int32.ofNat j))) (.int ((q_srd i).2.2.2.getD j 0))) := by decide +kernel
set_option maxRecDepth 100000 in
theorem q_flay : ∀ i, i < 23 → lw_tbl[q_lay.getD i 0]? = some (Cond.laysStatic "IdleMoney$Word" (q_wn.getD i "") "LIdleMoney$Word;") := by decide +kernel
set_option maxRecDepth 100000 in
theorem q_fsrf : ∀ i, i < 76 → lw_tbl[q_srf.getD i 0]? = some (Cond.stringRef (q_srd i).1 (q_srd i).2.1 (q_srd i).2.2.1) := by decide +kernel
set_option maxRecDepth 100000 in
theorem q_fins : ∀ i, i < 10 → (q_cl[i]?).map (fun r => Cond.instantiable r.1 r.2.2) = lw_tbl[q_ins.getD i 0]? := by decide +kernel
set_option maxRecDepth 100000 in
theorem q_fexN : ∀ i, i < 6 → (q_EX[i]?).map (fun e => Cond.not (.castable e.1 e.2)) = q_nr[q_exN.getD i 0]? := by decide +kernel
set_option maxRecDepth 100000 in
theorem q_fnst : ∀ i, i < 18 → q_nst[i]? = lw_tbl[q_ixt.getD i 0]? := by decide +kernel
theorem q_fsrl : ∀ i, i < 76 → (q_srd i).2.2.2.length < 2 ^ 31 := by decide +kernel
theorem q_srd_at {i : Nat} {x : String × Nat × String × List Int32} (h : q_sr[i]? = some x) : i < 76 ∧ q_srd i = x := by
  have h1 := (List.getElem?_eq_some_iff.mp h).1
  refine ⟨h1, ?_⟩
  unfold q_srd
  rw [List.getD_eq_getElem?_getD, h]
  rfl
/-- an array class over arrays -/
theorem q_aOA_spec {t : FieldType} {args : Array Value} {s : State} (h : (Cond.arrayOver (.array t)).before args s = true) : ∃ comp c k, s.vm.classes[c]? = some k ∧ k.kind = .array comp (.array t) ∧ s.vm.findClass ("[" ++ (FieldType.array t).toString) = some c := by
  unfold Cond.before at h
  simp only [Cond.holds, Cond.value, beq_iff_eq] at h
  cases hc : s.vm.findClass (FieldType.array t).toString with
  | none => simp [hc] at h
  | some comp =>
    simp only [hc, Option.bind_some, Option.bind_eq_some_iff, Option.map_eq_some_iff] at h
    obtain ⟨c, hi, k, hk, hb⟩ := h
    obtain ⟨hlt, hp, -⟩ := Array.findIdx?_eq_some_iff_getElem.mp hi
    have hkk : s.vm.classes[c] = k := (Array.getElem?_eq_some_iff.mp hk).2
    rw [hkk] at hp
    cases hkind : k.kind with
    | array component ty =>
      rw [hkind] at hb hp
      simp at hb hp
      exact ⟨comp, c, k, hk, by rw [hkind, hp, hb.1], hb.2⟩
    | _ => rw [hkind] at hb; simp at hb
theorem q_arrK {ty : FieldType} {s : State} {c comp : ClassId} {k : Class} (h1 : s.vm.classes[c]? = some k) (h2 : k.kind = .array comp ty) : ArrOfT s c ty := fun _ _ => ⟨fun _ h => (by cases h), k, h1, comp, h2⟩
section
variable {s : State} {args : Array Value}
theorem q_arr_p {ty : FieldType} (h : (Cond.arrayClass ty).before args s = true) (hty : ty = .int ∨ ty = .long) : ∃ c : ClassId, ArrOfT s c ty ∧ va_RA s c ty := by
  obtain ⟨c, k, comp, h1, h2, h3⟩ := Cond.arrayClass_spec h
  refine ⟨c, q_arrK h2 h3, ?_⟩
  rcases hty with rfl | rfl <;> exact h1
theorem q_arr_o {n : String} (h : (Cond.arrayOver (.object n)).before args s = true) : ∃ c : ClassId, ArrOfT s c (.object n) ∧ va_RA s c (.object n) := by
  obtain ⟨comp, c, k, h1, h2, h3, h4, h5⟩ := Cond.arrayOver_spec h
  exact ⟨c, q_arrK h3 h4, ⟨k, comp, h3, h4, h1, h5⟩⟩
theorem q_arr_a {t : FieldType} (h : (Cond.arrayOver (.array t)).before args s = true) : ∃ c : ClassId, ArrOfT s c (.array t) ∧ va_RA s c (.array t) := by
  obtain ⟨comp, c, k, h1, h2, h3⟩ := q_aOA_spec h
  exact ⟨c, q_arrK h1 h2, h3⟩
end
def q_iKINDS : List Nat := [22, 23, 24, 25, 26]
set_option maxRecDepth 100000 in
theorem q_fKINDS : ∀ j, j < 5 → q_nr[q_iKINDS.getD j 0]? = some (Cond.eq (.elem (.static "IdleMoneyLaw" "KINDS" "[Ljava/lang/String;") (.int (Int32.ofNat j))) (q_Stm (63 + j))) := by decide +kernel
def q_iNAMES : List Nat := [14, 15, 16, 17, 18]
set_option maxRecDepth 100000 in
theorem q_fNAMES : ∀ j, j < 5 → q_nr[q_iNAMES.getD j 0]? = some (Cond.eq (.elem (.static "IdleMoneyLaw" "NAMES" "[Ljava/lang/String;") (.int (Int32.ofNat j))) (q_Stm (68 + j))) := by decide +kernel
def q_iORDERS : List Nat := [30, 31, 32]
set_option maxRecDepth 100000 in
theorem q_fORDERS : ∀ j, j < 3 → q_nr[q_iORDERS.getD j 0]? = some (Cond.eq (.elem (.static "IdleMoneyLaw" "ORDERS" "[Ljava/lang/String;") (.int (Int32.ofNat j))) (q_Stm (73 + j))) := by decide +kernel
/-- a row told by other values that are the same -/
theorem q_vaT_ext {ty : FieldType} {a N : Nat} {f g : Nat → Value} {A : Nat → Prop} {U : State} {H : Heap} (h : va_T ty a N f A U H) (e : ∀ j, j < N → g j = f j) : va_T ty a N g A U H := by
  obtain ⟨cell, h1, h2, h3, h4, h5, h6, h7⟩ := h
  exact ⟨cell, h1, h2, h3, h4, h5, fun j hj => (h6 j hj).trans (congrArg some (e j hj).symm), h7⟩
set_option maxRecDepth 100000 in
/-- all that holds at the start -/
theorem q_Gs_start {s : State} {l : Launch} {b : Nat} (hl : l.stackTraces = false) (hts : ∀ w ∈ lw_tbl, w.before #[Value.ref b] s = true) (hn : ∀ w ∈ q_nr, w.before #[Value.ref b] s = true) : ∃ G : q_G, G.1 = l ∧ G.2.2.2.1 = s.heap.size ∧ q_Gs G s := by
  have tb : ∀ (i : Nat) {w : Cond}, lw_tbl[i]? = some w → w.before #[Value.ref b] s = true := fun i w h => hts w (List.mem_of_getElem? h)
  have nr : ∀ (i : Nat) {w : Cond}, q_nr[i]? = some w → w.before #[Value.ref b] s = true := fun i w h => hn w (List.mem_of_getElem? h)
  have hA : ∀ a : Nat, a < s.heap.size → ¬ (fun q : Nat => s.heap.size ≤ q) a := fun a h1 h2 => Nat.not_le.mpr h1 h2
  have hall : ∀ w ∈ q_all, w.before #[Value.ref b] s = true := fun w hw => hts w (List.mem_filter.mp hw).1
  have hk0 : ∀ ci : Nat, ∃ x : ClassId × (Nat → Nat), ∀ r : vw_C, q_cl[ci]? = some r → u_Kn s r.1 r.2.1 r.2.2 x.1 x.2 := by
    intro ci
    cases hr : q_cl[ci]? with
    | none => exact ⟨(default, fun _ => 0), fun r h => by cases h⟩
    | some r =>
      have hci : ci < 10 := (List.getElem?_eq_some_iff.mp hr).1
      have h1 := q_fins ci hci
      rw [hr] at h1
      obtain ⟨cC, iS, hK⟩ := u_known (ws := q_all) (n := r.2.2) hall (q_lay_in hr) (tb _ h1.symm)
      exact ⟨(cC, iS), fun r' h => by cases h; exact hK⟩
  have ha0 : ∀ t : Nat, ∃ c : ClassId, t < 10 → ArrOfT s c (q_ty t) ∧ va_RA s c (q_ty t) := by
    intro t
    match t with
    | 0 => obtain ⟨c, h⟩ := q_arr_p (tb 124 (by decide +kernel)) (Or.inl rfl); exact ⟨c, fun _ => h⟩
    | 1 => obtain ⟨c, h⟩ := q_arr_p (tb 125 (by decide +kernel)) (Or.inr rfl); exact ⟨c, fun _ => h⟩
    | 2 => obtain ⟨c, h⟩ := q_arr_o (n := RX2) (tb 86 (by decide +kernel)); exact ⟨c, fun _ => h⟩
    | 3 => obtain ⟨c, h⟩ := q_arr_o (n := RX0) (tb 346 (by decide +kernel)); exact ⟨c, fun _ => h⟩
    | 4 => obtain ⟨c, h⟩ := q_arr_o (n := RX6) (tb 387 (by decide +kernel)); exact ⟨c, fun _ => h⟩
    | 5 => obtain ⟨c, h⟩ := q_arr_o (n := RX5) (tb 195 (by decide +kernel)); exact ⟨c, fun _ => h⟩
    | 6 => obtain ⟨c, h⟩ := q_arr_a (t := .int) (tb 348 (by decide +kernel)); exact ⟨c, fun _ => h⟩
    | 7 => obtain ⟨c, h⟩ := q_arr_a (t := .array .int) (tb 454 (by decide +kernel)); exact ⟨c, fun _ => h⟩
    | 8 => obtain ⟨c, h⟩ := q_arr_o (n := RX8) (tb 456 (by decide +kernel)); exact ⟨c, fun _ => h⟩
    | 9 => obtain ⟨c, h⟩ := q_arr_o (n := RX10) (tb 1442 (by decide +kernel)); exact ⟨c, fun _ => h⟩
    | n + 10 => exact ⟨default, fun h => by omega⟩
  have hs0 : ∀ i : Nat, ∃ q : Nat × Nat, i < 76 → (q_Stm i).eval #[Value.ref b] s none [] s = some (.ref q.1) ∧ va_O "java/lang/String" q.1 (fun q : Nat => s.heap.size ≤ q) s s.heap ∧ va_OF "java/lang/String" "coder" "B" (.int 0) q.1 (fun q : Nat => s.heap.size ≤ q) s s.heap ∧ va_OF "java/lang/String" "value" "[B" (.ref q.2) q.1 (fun q : Nat => s.heap.size ≤ q) s s.heap ∧ va_T .byte q.2 (q_srd i).2.2.2.length (fun j => .int ((q_srd i).2.2.2.getD j 0)) (fun q : Nat => s.heap.size ≤ q) s s.heap := by
    intro i
    by_cases hi : i < 76
    · obtain ⟨a, c, cA, kA, q1, q2, q3, q4, q5, q6, -⟩ := Cond.exactly_spec (args := #[Value.ref b]) (first := s) (o := none) (s := s) (idx := []) (t := q_Stm i) (cls := "java/lang/String") (nr _ (q_fsE i hi))
      obtain ⟨t, ht, hT⟩ := va_Tof (f := fun j => .int ((q_srd i).2.2.2.getD j 0)) (A := fun q : Nat => s.heap.size ≤ q) (q_fsrl i hi) (nr _ (q_fsA i hi)) (va_eqt (nr _ (q_fsL i hi))) (fun j hj => va_eqt (nr _ (q_fsB i hi j hj))) hA
      exact ⟨(a, t), fun _ => ⟨q1, ⟨cA, q3, q5, by rw [q6]; exact q2, hA a (Array.getElem?_eq_some_iff.mp q3).1⟩, vk_OFof q1 (va_eqt (nr _ (q_fsC i hi))) hA, vk_OFof q1 ht hA, hT⟩⟩
    · exact ⟨(0, 0), fun h => absurd h hi⟩
  obtain ⟨D, hD⟩ := Classical.axiomOfChoice hk0
  obtain ⟨cT, hcT⟩ := Classical.axiomOfChoice ha0
  obtain ⟨ad, had⟩ := Classical.axiomOfChoice hs0
  obtain ⟨adE, hE, hEv⟩ := va_Enof2 (args := #[Value.ref b]) (s := s) (E := "IdleMoney$Word") (d := "LIdleMoney$Word;") (nm := q_wn) (F := q_wF) (A := fun q : Nat => s.heap.size ≤ q) (fun i hi => tb _ (q_flay i hi)) (tb 63 (by decide +kernel)) (fun i hi => nr _ (q_fE i hi)) (fun q hq i hi => by
      obtain rfl : q = ("IdleMoney$Word", "kind", "I", q_wk) := by simpa [q_wF] using hq
      exact nr _ (q_fK i hi)) (fun i j hi hj hne => by
      rcases Nat.lt_or_gt_of_ne hne with h | h
      · exact (q_fN j hj i h).elim (fun x => Or.inr (nr _ x)) (fun x => Or.inl (nr _ x))
      · exact (q_fN i hi j h).elim (fun x => Or.inl (nr _ x)) (fun x => Or.inr (nr _ x))) hA
  obtain ⟨adA, hAe, hAT⟩ := va_Tof (args := #[Value.ref b]) (s := s) (tm := .static "IdleMoney$Word" "ALL" "[LIdleMoney$Word;") (ty := .object "IdleMoney$Word") (N := 23) (f := fun i => .ref (adE i)) (A := fun q : Nat => s.heap.size ≤ q) (by decide) (nr 35 (by decide +kernel)) (va_eqt (nr 36 (by decide +kernel))) (fun j hj => va_eqv (nr _ (q_fA j hj)) (hEv j hj)) hA
  obtain ⟨adK, hKe, hKT⟩ := va_Tof (args := #[Value.ref b]) (s := s) (tm := .static "IdleMoneyLaw" "KINDS" "[Ljava/lang/String;") (ty := .object "java/lang/String") (N := 5) (f := fun i => .ref (ad (63 + i)).1) (A := fun q : Nat => s.heap.size ≤ q) (by decide) (nr 20 (by decide +kernel)) (va_eqt (nr 21 (by decide +kernel))) (fun j hj => va_eqv (nr _ (q_fKINDS j hj)) (had (63 + j) (by omega)).1) hA
  obtain ⟨adN, hNe, hNT⟩ := va_Tof (args := #[Value.ref b]) (s := s) (tm := .static "IdleMoneyLaw" "NAMES" "[Ljava/lang/String;") (ty := .object "java/lang/String") (N := 5) (f := fun i => .ref (ad (68 + i)).1) (A := fun q : Nat => s.heap.size ≤ q) (by decide) (nr 12 (by decide +kernel)) (va_eqt (nr 13 (by decide +kernel))) (fun j hj => va_eqv (nr _ (q_fNAMES j hj)) (had (68 + j) (by omega)).1) hA
  obtain ⟨adO, hOe, hOT⟩ := va_Tof (args := #[Value.ref b]) (s := s) (tm := .static "IdleMoneyLaw" "ORDERS" "[Ljava/lang/String;") (ty := .object "java/lang/String") (N := 3) (f := fun i => .ref (ad (73 + i)).1) (A := fun q : Nat => s.heap.size ≤ q) (by decide) (nr 28 (by decide +kernel)) (va_eqt (nr 29 (by decide +kernel))) (fun j hj => va_eqv (nr _ (q_fORDERS j hj)) (had (73 + j) (by omega)).1) hA
  have hKT9 : va_T (.object "java/lang/String") adK 5 (fun i => .ref ((fun i => if i = 80 then adK else if i = 81 then adN else if i = 82 then adO else (ad i).1) (63 + i))) (fun q : Nat => s.heap.size ≤ q) s s.heap := q_vaT_ext hKT (fun j hj => by dsimp only; rw [if_neg (by omega), if_neg (by omega), if_neg (by omega)])
  have hNT9 : va_T (.object "java/lang/String") adN 5 (fun i => .ref ((fun i => if i = 80 then adK else if i = 81 then adN else if i = 82 then adO else (ad i).1) (68 + i))) (fun q : Nat => s.heap.size ≤ q) s s.heap := q_vaT_ext hNT (fun j hj => by dsimp only; rw [if_neg (by omega), if_neg (by omega), if_neg (by omega)])
  have hOT9 : va_T (.object "java/lang/String") adO 3 (fun i => .ref ((fun i => if i = 80 then adK else if i = 81 then adN else if i = 82 then adO else (ad i).1) (73 + i))) (fun q : Nat => s.heap.size ≤ q) s s.heap := q_vaT_ext hOT (fun j hj => by dsimp only; rw [if_neg (by omega), if_neg (by omega), if_neg (by omega)])
  refine ⟨(l, (fun ci => (D ci).1, fun ci => (D ci).2), cT, s.heap.size, adE, fun i => if i = 80 then adK else if i = 81 then adN else if i = 82 then adO else (ad i).1, fun i => (ad i).2, adA), rfl, rfl, hl, ⟨fun c q hq => hD c q hq, fun k q hq => ?_⟩, fun w hw => word_at (State.WarmedH.refl s) (good_of_word (q_all_good hw)) (hall w hw), fun w hw => ?_, ?_⟩
  · by_cases hk : k < 10
    · rw [q_tys_at cT hk] at hq
      cases hq
      exact hcT k hk
    · have : k < (q_tys cT).length := (List.getElem?_eq_some_iff.mp hq).1
      exact absurd this hk
  · have h9 : w.before #[Value.ref b] s = true := by
      obtain ⟨i, hi⟩ := List.getElem?_of_mem hw
      have h14 : i < 18 := (List.getElem?_eq_some_iff.mp hi).1
      have h1 := q_fnst i h14
      rw [hi] at h1
      exact tb _ h1.symm
    simp only [q_nst, List.mem_cons, List.not_mem_nil, or_false] at hw
    rcases hw with rfl | rfl | rfl | rfl | rfl | rfl | rfl | rfl | rfl | rfl | rfl | rfl | rfl | rfl | rfl | rfl | rfl | rfl
    · exact h9
    · exact h9
    · exact h9
    · exact h9
    · exact h9
    · exact h9
    · exact h9
    · exact h9
    · exact h9
    · exact h9
    · exact h9
    · exact h9
    · exact h9
    · exact h9
    · exact h9
    · exact h9
    · exact h9
    · exact h9
  · refine ⟨vx_Zqof (tb 672 (by decide +kernel)) (tb 48 (by decide +kernel)) (nr 4 (by decide +kernel)) hA, vx_Zqof (tb 674 (by decide +kernel)) (tb 48 (by decide +kernel)) (nr 5 (by decide +kernel)) hA, hE, ?_, va_Zof (tb 1185 (by decide +kernel)) (tb 63 (by decide +kernel)) hAe hA, hAT, fun i sr hi => ?_, va_Zof (tb 1076 (by decide +kernel)) (tb 58 (by decide +kernel)) (va_eqi (nr 6 (by decide +kernel))) hA, fun e he => ?_, va_Zqof (tb 1092 (by decide +kernel)) (tb 60 (by decide +kernel)) (nr 7 (by decide +kernel)) hA, ⟨va_Zof (tb 1143 (by decide +kernel)) (tb 39 (by decide +kernel)) hKe hA, hKT9⟩, ⟨va_Zof (tb 1131 (by decide +kernel)) (tb 39 (by decide +kernel)) hNe hA, hNT9⟩, ⟨va_Zof (tb 1154 (by decide +kernel)) (tb 39 (by decide +kernel)) hOe hA, hOT9⟩⟩
    · exact va_Efof (args := #[Value.ref b]) (N := 23) (E := "IdleMoney$Word") (d0 := "LIdleMoney$Word;") (nm := q_wn) (tm := q_Stm) hEv (fun i hi => nr _ (q_fL i hi)) (fun i hi => ((had i (by omega)).1).trans (congrArg (fun z => some (Value.ref z)) (show (ad i).1 = (if i = 80 then adK else if i = 81 then adN else if i = 82 then adO else (ad i).1) from by rw [if_neg (by omega), if_neg (by omega), if_neg (by omega)]))) hA
    · obtain ⟨h76, rfl⟩ := q_srd_at hi
      obtain ⟨h1, h2, h3, h4, h5⟩ := had i h76
      have ei : (if i = 80 then adK else if i = 81 then adN else if i = 82 then adO else (ad i).1) = (ad i).1 := by rw [if_neg (by omega), if_neg (by omega), if_neg (by omega)]
      exact ⟨vk_R.of (tb _ (q_fsrf i h76)) (h1.trans (congrArg (fun z => some (Value.ref z)) ei.symm)), (show va_O "java/lang/String" (if i = 80 then adK else if i = 81 then adN else if i = 82 then adO else (ad i).1) (fun q : Nat => s.heap.size ≤ q) s s.heap from by rw [ei]; exact h2), (show va_OF "java/lang/String" "coder" "B" (.int 0) (if i = 80 then adK else if i = 81 then adN else if i = 82 then adO else (ad i).1) (fun q : Nat => s.heap.size ≤ q) s s.heap from by rw [ei]; exact h3), (show va_OF "java/lang/String" "value" "[B" (.ref (ad i).2) (if i = 80 then adK else if i = 81 then adN else if i = 82 then adO else (ad i).1) (fun q : Nat => s.heap.size ≤ q) s s.heap from by rw [ei]; exact h4), h5⟩
    · obtain ⟨i, hi⟩ := List.getElem?_of_mem he
      have h6 : i < 6 := (List.getElem?_eq_some_iff.mp hi).1
      have h1 := q_fexN i h6
      rw [hi] at h1
      exact va_Nc.of (nr _ h1.symm)
