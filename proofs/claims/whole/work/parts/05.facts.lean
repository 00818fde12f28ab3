/-! what the tables say of the pools: by program -/
def aTb : List Cond := lw_tbl.filter goodWord
theorem aTb_of {ws : List Cond} (ps : List Nat) (hp : ws = ps.filterMap (fun i => lw_tbl[i]?)) (h : ws.all goodWord = true) : ∀ w ∈ ws, w ∈ aTb := by
  intro w hw
  refine List.mem_filter.mpr ⟨?_, List.all_eq_true.mp h w hw⟩
  rw [hp] at hw
  obtain ⟨i, -, hi⟩ := List.mem_filterMap.mp hw
  exact List.mem_of_getElem? hi
theorem aTb_good : ∀ w ∈ aTb, (w.onTables && w.keeps) = true ∨ ∃ ty, w = .arrayClass ty := fun w hw => good_of_word (List.mem_filter.mp hw).2
theorem aTb_tbl : ∀ w ∈ aTb, w ∈ lw_tbl := fun w hw => (List.mem_filter.mp hw).1
/-- the name of a class, by its number; of the kind of an object -/
def aCs (k : Nat) : String := aGet "" aCn k
def aKs (k : Nat) : String := if k = 14 then "java/lang/String" else aGet "" aCn k
def aTT (k : Nat) : u_T := match k with
  | 0 => aT0
  | 1 => aT1
  | 2 => aT2
  | 3 => aT3
  | 4 => aT4
  | 5 => aT5
  | 6 => aT6
  | _ => aT7
def aYY (k : Nat) : Nat → FieldType := match k with
  | 0 => aY0
  | 1 => aY1
  | 2 => aY2
  | 3 => aY3
  | 4 => aY4
  | 5 => aY5
  | 6 => aY6
  | _ => aY7
def aNf (k : Nat) : Nat := (aGet [] aFk k).length
theorem aCl_at : ∀ k, k < 8 → aCl[k]? = some (aCs k, aTT k, aNf k) := by
  intro k hk
  rcases (show k = 0 ∨ k = 1 ∨ k = 2 ∨ k = 3 ∨ k = 4 ∨ k = 5 ∨ k = 6 ∨ k = 7 by omega) with rfl | rfl | rfl | rfl | rfl | rfl | rfl | rfl <;> rfl
theorem aYY_ok : ∀ k, k < 8 → ∀ j, j < aNf k → parseFieldDescriptor (aTT k j).2.2.1 = some (aYY k j) := by decide +kernel
theorem aTT_nm : ∀ k, k < 8 → ∀ a, a < aNf k → ∀ b, b < aNf k → a ≠ b → (aTT k a).2.1 ≠ (aTT k b).2.1 := by decide +kernel
/-- a field's kind and its type -/
def aYk (ty : FieldType) : Nat := match ty with
  | .int => 0
  | .boolean => 2
  | _ => 1
theorem aYY_k : ∀ k, k < 8 → ∀ j, j < aNf k → aGet 9 (aGet [] aFk k) j = aYk (aYY k j) ∧ (aYk (aYY k j) = 1 → refKind (aYY k j) = true) := by decide +kernel
def aFw (e : (Nat × Nat) × Nat × Nat × Nat × Bool) : Cond := if e.2.1 = 14 then .fieldLink (aCs e.1.1) e.1.2 "java/lang/String" (if e.2.2.1 = 0 then "value" else "coder") (if e.2.2.1 = 0 then "[B" else "B") else .fieldLink (aCs e.1.1) e.1.2 (aCs e.2.1) (aTT e.2.1 e.2.2.1).2.1 (aTT e.2.1 e.2.2.1).2.2.1
def aFok (e : (Nat × Nat) × Nat × Nat × Nat × Bool) : Bool := if e.2.1 = 14 then true else decide (e.2.1 < 8) && decide (e.2.2.1 < aNf e.2.1) && decide (aGet 9 (aGet [] aFk e.2.1) e.2.2.1 = e.2.2.2.1) && decide ((aTT e.2.1 e.2.2.1).1 = aCs e.2.1) && decide ((aTT e.2.1 e.2.2.1).2.2.2 = e.2.2.2.2)
theorem aF_ok : aFl.all aFok = true := by decide +kernel
theorem aF_w : ∀ w ∈ aFl.map aFw, w ∈ aTb := aTb_of [258, 261, 263, 280, 282, 284, 286, 288, 112, 114, 116, 117, 120, 122, 124, 126, 129, 132, 134, 136, 138, 140, 142, 144, 145, 146, 911, 265, 260, 214, 215, 217, 219, 220, 221, 222, 223, 224, 225, 226, 227, 910, 913, 915, 192, 193, 195, 127, 130, 118, 301, 302, 303, 304, 305, 306, 307, 308, 309, 310, 113, 115, 121, 123, 131, 119, 137, 128, 133, 135, 194, 196, 125, 216, 218, 141, 139, 912, 914, 143, 262, 259, 264, 281, 283, 285, 289, 287, 1022, 1023, 1024, 1026, 1027, 1035, 1036, 1037, 1040, 1042, 1043, 1044, 1045, 1046, 1047, 1048, 1049, 1050, 1051, 1052, 1053, 1028, 1029, 1030, 1033, 1031, 1032, 1034, 1041, 1038, 1039, 1054, 1025, 1538, 1539] (by decide +kernel) (by decide +kernel)
theorem aC_w0 : ∀ w ∈ u_ws (aCs 0) (aTT 0) (aNf 0), w ∈ aTb := aTb_of [266, 268, 270] (by decide +kernel) (by decide +kernel)
theorem aC_w1 : ∀ w ∈ u_ws (aCs 1) (aTT 1) (aNf 1), w ∈ aTb := aTb_of [290, 292, 294, 296, 298] (by decide +kernel) (by decide +kernel)
theorem aC_w2 : ∀ w ∈ u_ws (aCs 2) (aTT 2) (aNf 2), w ∈ aTb := aTb_of [147, 149, 151, 153, 155, 157, 159, 161, 163, 165, 167, 169, 171, 173, 175, 177, 179, 181] (by decide +kernel) (by decide +kernel)
theorem aC_w3 : ∀ w ∈ u_ws (aCs 3) (aTT 3) (aNf 3), w ∈ aTb := aTb_of [228, 230, 232, 234, 236, 238, 240, 242, 244, 246, 248, 250] (by decide +kernel) (by decide +kernel)
theorem aC_w4 : ∀ w ∈ u_ws (aCs 4) (aTT 4) (aNf 4), w ∈ aTb := aTb_of [916, 918, 920] (by decide +kernel) (by decide +kernel)
theorem aC_w5 : ∀ w ∈ u_ws (aCs 5) (aTT 5) (aNf 5), w ∈ aTb := aTb_of [197, 199, 201] (by decide +kernel) (by decide +kernel)
theorem aC_w6 : ∀ w ∈ u_ws (aCs 6) (aTT 6) (aNf 6), w ∈ aTb := aTb_of [311, 313, 315, 317, 319, 321, 323, 325, 327, 329] (by decide +kernel) (by decide +kernel)
theorem aC_w7 : ∀ w ∈ u_ws (aCs 7) (aTT 7) (aNf 7), w ∈ aTb := aTb_of [1055, 1057, 1059, 1061, 1063, 1065, 1067, 1069, 1071, 1073, 1075, 1077, 1079, 1081, 1083, 1085, 1087, 1089, 1091, 1093, 1095, 1097, 1099, 1101, 1103, 1105, 1107, 1109, 1111, 1113, 1115, 1117, 1119] (by decide +kernel) (by decide +kernel)
theorem aC_w : ∀ k, k < 8 → ∀ w ∈ u_ws (aCs k) (aTT k) (aNf k), w ∈ aTb := by
  intro k hk
  rcases (show k = 0 ∨ k = 1 ∨ k = 2 ∨ k = 3 ∨ k = 4 ∨ k = 5 ∨ k = 6 ∨ k = 7 by omega) with rfl | rfl | rfl | rfl | rfl | rfl | rfl | rfl
  · exact aC_w0
  · exact aC_w1
  · exact aC_w2
  · exact aC_w3
  · exact aC_w4
  · exact aC_w5
  · exact aC_w6
  · exact aC_w7
def aNe : List (Nat × Nat) := [(1, 26), (2, 85), (2, 133), (5, 46), (6, 9), (6, 24), (6, 43), (6, 60), (6, 61)]
/-- how a method is called: 0 virtual, 1 static, 2 constructor -/
def aTk : List Nat := [2, 0, 0, 0, 0, 0, 0, 2, 2, 0, 0, 0, 0, 0, 0, 0, 0, 0, 0, 0, 0, 0, 0, 0, 0, 0, 0, 0, 0, 0, 0, 0, 0, 0, 0, 0, 0, 0, 0, 0, 0, 0, 0, 0, 0, 2, 0, 0, 0, 0, 0, 0, 0, 0, 0, 0, 0, 0, 0, 0, 0, 0, 0, 0, 0, 0, 2, 0, 1, 1, 2, 0, 0, 0, 0, 0, 2, 0, 0, 0, 0, 0, 0, 0, 0, 0, 0, 0, 0, 0, 0, 0, 0, 0, 0, 0, 0, 0, 0, 0, 0, 0, 0, 0, 0, 0, 0, 0, 0, 0, 0, 0, 0, 0, 0, 0, 0, 0, 0, 0, 0, 0, 0, 0, 1, 1, 1, 1, 1, 1, 1, 1, 1, 0, 2, 1, 1, 1, 1, 0, 0, 1, 0, 1, 0, 0, 0, 0, 0, 0, 0, 0, 0, 0, 0, 0, 0, 0, 0, 0, 0, 0, 0, 0, 0, 0, 0, 1, 0, 0, 0, 0, 0, 0, 0, 0, 0, 0, 0, 0, 0, 0, 0, 0, 0, 0, 0, 0, 0, 0, 0, 0, 0, 0, 0, 0, 0, 0, 0, 0, 0, 0, 0, 0, 0, 0, 0, 0, 0, 0, 1, 0, 0, 0, 0, 0, 0, 0, 0, 0, 1, 0, 1, 1, 0, 0, 0, 0, 0, 0, 0, 0, 0, 0, 0, 0, 0, 0, 0, 0, 0, 0, 0, 0, 1, 1, 1, 1, 1, 1, 1, 1]
/-- the link of a pool's entry; a nest mate's is told apart -/
def aMw (e : (Nat × Nat) × Nat × Nat × Nat × Nat) : List Cond :=
  if e.2.2.1 = 1000 then [.methodLink (aCs e.1.1) e.1.2 objectInit]
  else if e.2.2.1 = 1001 then [.methodLink (aCs e.1.1) e.1.2 arraycopyName]
  else if e.2.2.1 = 1002 then [.methodLink (aCs e.1.1) e.1.2 Lib.Math.max.name]
  else if e.2.2.1 = 1003 then [.methodLink (aCs e.1.1) e.1.2 Lib.Math.min.name]
  else if aNe.contains e.1 then [] else [.methodLink (aCs e.1.1) e.1.2 (aNm e.2.2.1)]
/-- what the tables say of a method -/
def aQw (m : Nat) : List Cond := (if aGet 9 aTk m = 1 then [.static (aNm m)] else if aGet 9 aTk m = 0 then [.instanceMethod (aNm m), .selects (aNm m).cls (aNm m) (aNm m)] else [.instanceMethod (aNm m)]) ++ [.code (aNm m) (aBy m) (aNL m) (aRt m), .initialized (aNm m).cls]
abbrev aE : Type := (Nat × Nat) × Nat × Nat × Nat × Nat
def aMk1 (e : aE) : Bool := if e.2.2.1 = 1000 then decide (e.2.1 = 2) && decide (e.2.2.2.1 = 1) && decide (e.2.2.2.2 = 99) else if e.2.2.1 = 1001 then decide (e.2.1 = 1) && decide (e.2.2.2.1 = 5) && decide (e.2.2.2.2 = 99) else if e.2.2.1 = 1002 ∨ e.2.2.1 = 1003 then decide (e.2.1 = 1) && decide (e.2.2.2.1 = 2) && decide (e.2.2.2.2 = 99) else decide (e.2.2.1 < 251) && decide (e.2.1 = aGet 9 aTk e.2.2.1) && decide (e.2.1 ≤ 2)
def aMk2 (e : aE) : Bool := if 1000 ≤ e.2.2.1 then true else decide ((parseMethodDescriptor (aNm e.2.2.1).desc).map (fun d => d.parameters.length + (if e.2.1 = 1 then 0 else 1)) = some e.2.2.2.1)
def aMk3 (e : aE) : Bool := if 1000 ≤ e.2.2.1 then true else if e.2.1 = 1 then decide (e.2.2.2.2 = 99) else decide ((e.2.2.2.2 < 8 ∨ e.2.2.2.2 = 14) ∧ (aNm e.2.2.1).cls = aKs e.2.2.2.2)
def aMk4 (e : aE) : Bool := if 1000 ≤ e.2.2.1 then true else if e.2.1 = 2 then decide ((aNm e.2.2.1).name = "<init>" ∧ aRt e.2.2.1 = none) else true
theorem aM_1 : ∀ e ∈ aMl, aMk1 e = true := by decide +kernel
theorem aM_2 : ∀ e ∈ aMl, aMk2 e = true := by decide +kernel
theorem aM_3 : ∀ e ∈ aMl, aMk3 e = true := by decide +kernel
theorem aM_4 : ∀ e ∈ aMl, aMk4 e = true := by decide +kernel
def aQk1 (m : Nat) : Bool := decide ((aNm m).cls ≠ "java/lang/invoke/MethodHandle") && decide ((aNm m).cls ≠ "java/lang/invoke/VarHandle")
def aQk2 (m : Nat) : Bool := plainName (aNm m).cls
def aQk3 (m : Nat) : Bool := decide ((aNm m).cls = aCs (aOw m))
def aQk4 (m : Nat) : Bool := decide (aNL m ≤ 16)
theorem aQ_1 : ∀ m, m < 252 → aQk1 m = true := by decide +kernel
theorem aQ_2 : ∀ m, m < 252 → aQk2 m = true := by decide +kernel
theorem aQ_3 : ∀ m, m < 252 → aQk3 m = true := by decide +kernel
theorem aQ_4 : ∀ m, m < 252 → aQk4 m = true := by decide +kernel
theorem aX_w : ∀ w ∈ [Cond.instanceMethod objectInit, .code objectInit ⟨#[0xb1]⟩ 1 none, .native arraycopyName, .static arraycopyName, .initialized "java/lang/System", .static Lib.Math.max.name, .initialized "java/lang/Math", .code Lib.Math.max.name Lib.Math.max.code 2 (some .int), .static Lib.Math.min.name, .code Lib.Math.min.name Lib.Math.min.code 2 (some .int)], w ∈ aTb := aTb_of [102, 103, 667, 666, 90, 466, 89, 467, 463, 464] (by decide +kernel) (by decide +kernel)
theorem aM_w0 : ∀ w ∈ ((aMl).take 75).flatMap aMw, w ∈ aTb := aTb_of [257, 688, 983, 277, 109, 665, 357, 369, 365, 529, 547, 415, 423, 431, 427, 437, 441, 445, 449, 419, 411, 525, 530, 548, 549, 550, 559, 563, 564, 568, 599, 609, 613, 684, 213, 722, 730, 789, 905, 735, 726, 739, 749, 793, 887, 817, 797, 801, 805, 809, 813, 821, 891, 895, 825, 832, 908, 909, 453, 456, 190, 625, 626, 644, 631, 635, 636, 637, 643, 641, 642] (by decide +kernel) (by decide +kernel)
theorem aM_w1 : ∀ w ∈ (((aMl.drop 75)).take 75).flatMap aMw, w ∈ aTb := aTb_of [648, 101, 336, 340, 349, 353, 361, 384, 387, 390, 398, 402, 468, 475, 476, 481, 462, 499, 512, 516, 521, 534, 543, 555, 577, 578, 583, 595, 605, 621, 653, 661, 672, 675, 680, 697, 706, 718, 899, 924, 940, 949, 957, 958, 967, 971, 976, 979, 465, 407, 1021, 1128, 1149, 1159, 1133, 1141, 1145, 1155, 1167, 1175, 1211, 1219, 1230, 1215, 1238, 1207, 1223, 1190, 1242, 1249] (by decide +kernel) (by decide +kernel)
theorem aM_w2 : ∀ w ∈ ((((aMl.drop 75).drop 75)).take 75).flatMap aMw, w ∈ aTb := aTb_of [1194, 1226, 1234, 1203, 1182, 1186, 1199, 1252, 1263, 1279, 1292, 1300, 1304, 1309, 1317, 1329, 1325, 1345, 1361, 1369, 1373, 1385, 1389, 1397, 1401, 1425, 1429, 1421, 1453, 1445, 1449, 1441, 1456, 1460, 1433, 1437, 1246, 1500, 1523, 743, 753, 757, 836, 840, 841, 765, 760, 844, 847, 848, 849, 98, 1018, 332, 1124, 345, 1137, 376, 1163, 380, 1171, 394, 1178, 471, 1255, 477, 1259, 487, 1267, 491, 1271, 495, 1275, 504, 1284] (by decide +kernel) (by decide +kernel)
theorem aM_w3 : ∀ w ∈ (((((aMl.drop 75).drop 75).drop 75)).take 75).flatMap aMw, w ∈ aTb := aTb_of [508, 1288, 517, 1296, 539, 1313, 551, 1321, 569, 1333, 573, 1337, 579, 1341, 587, 1349, 591, 1353, 601, 1357, 617, 1365, 649, 1377, 657, 1381, 668, 1393, 693, 1405, 701, 1409, 710, 1413, 714, 1417, 928, 1464, 932, 1468, 936, 1472, 945, 1477, 953, 1484, 959, 1488, 963, 1492, 972, 1496, 984, 1503, 988, 1507, 992, 1511, 996, 1515, 1000, 1519, 1004, 1526, 1008, 1530, 1012, 1534] (by decide +kernel) (by decide +kernel)
theorem aM_w : ∀ e ∈ aMl, ∀ w ∈ aMw e, w ∈ aTb := by
  intro e he w hw
  rw [← List.take_append_drop 75 aMl] at he
  rcases List.mem_append.mp he with h | he
  · exact aM_w0 w (List.mem_flatMap.mpr ⟨e, h, hw⟩)
  rw [← List.take_append_drop 75 ((aMl.drop 75))] at he
  rcases List.mem_append.mp he with h | he
  · exact aM_w1 w (List.mem_flatMap.mpr ⟨e, h, hw⟩)
  rw [← List.take_append_drop 75 (((aMl.drop 75).drop 75))] at he
  rcases List.mem_append.mp he with h | he
  · exact aM_w2 w (List.mem_flatMap.mpr ⟨e, h, hw⟩)
  rw [← List.take_append_drop 75 ((((aMl.drop 75).drop 75).drop 75))] at he
  rcases List.mem_append.mp he with h | he
  · exact aM_w3 w (List.mem_flatMap.mpr ⟨e, h, hw⟩)
  rw [show ((((aMl.drop 75).drop 75).drop 75).drop 75) = [] from by decide +kernel] at he
  exact absurd he List.not_mem_nil
theorem aQ_w0 : ∀ w ∈ ((List.range 32).map (fun i => 0 + i)).flatMap aQw, w ∈ aTb := aTb_of [255, 256, 84, 676, 677, 678, 84, 689, 690, 691, 84, 968, 969, 970, 84, 685, 686, 687, 84, 941, 942, 943, 84, 980, 981, 982, 84, 275, 276, 85, 107, 108, 81, 662, 663, 664, 81, 341, 342, 343, 81, 391, 392, 393, 81, 925, 926, 927, 81, 500, 501, 502, 81, 358, 359, 360, 81, 354, 355, 356, 81, 420, 421, 422, 81, 428, 429, 430, 81, 424, 425, 426, 81, 366, 367, 368, 81, 371, 1, 372, 81, 362, 363, 364, 81, 610, 611, 612, 81, 654, 655, 656, 81, 412, 413, 414, 81, 443, 6, 444, 81, 417, 4, 418, 81, 439, 5, 440, 81, 408, 409, 410, 81, 513, 514, 515, 81, 526, 527, 528, 81, 531, 532, 533, 81] (by decide +kernel) (by decide +kernel)
theorem aQ_w1 : ∀ w ∈ ((List.range 32).map (fun i => 32 + i)).flatMap aQw, w ∈ aTb := aTb_of [522, 523, 524, 81, 535, 536, 537, 81, 544, 545, 546, 81, 556, 557, 558, 81, 561, 8, 562, 81, 566, 9, 567, 81, 698, 699, 700, 81, 447, 7, 448, 81, 584, 585, 586, 81, 596, 597, 598, 81, 606, 607, 608, 81, 615, 10, 616, 81, 681, 682, 683, 81, 211, 212, 83, 707, 708, 709, 83, 719, 720, 721, 83, 900, 901, 902, 83, 732, 17, 733, 83, 827, 28, 828, 83, 724, 15, 725, 83, 728, 16, 729, 83, 889, 29, 890, 83, 737, 18, 738, 83, 819, 26, 820, 83, 791, 19, 792, 83, 795, 20, 796, 83, 799, 21, 800, 83, 803, 22, 804, 83, 807, 23, 808, 83, 811, 24, 812, 83, 815, 25, 816, 83, 823, 27, 824, 83] (by decide +kernel) (by decide +kernel)
theorem aQ_w2 : ∀ w ∈ ((List.range 32).map (fun i => 64 + i)).flatMap aQw, w ∈ aTb := aTb_of [893, 30, 894, 83, 897, 31, 898, 83, 906, 907, 88, 450, 451, 452, 88, 454, 455, 88, 457, 458, 88, 188, 189, 82, 622, 623, 624, 82, 628, 11, 629, 82, 633, 12, 634, 82, 639, 13, 640, 82, 646, 14, 647, 82, 99, 100, 80, 333, 334, 335, 80, 346, 347, 348, 80, 377, 378, 379, 80, 381, 382, 383, 80, 395, 396, 397, 80, 472, 473, 474, 80, 478, 479, 480, 80, 488, 489, 490, 80, 492, 493, 494, 80, 496, 497, 498, 80, 505, 506, 507, 80, 509, 510, 511, 80, 518, 519, 520, 80, 540, 541, 542, 80, 552, 553, 554, 80, 570, 571, 572, 80, 574, 575, 576, 80, 580, 581, 582, 80, 588, 589, 590, 80] (by decide +kernel) (by decide +kernel)
theorem aQ_w3 : ∀ w ∈ ((List.range 32).map (fun i => 96 + i)).flatMap aQw, w ∈ aTb := aTb_of [592, 593, 594, 80, 602, 603, 604, 80, 618, 619, 620, 80, 650, 651, 652, 80, 658, 659, 660, 80, 669, 670, 671, 80, 694, 695, 696, 80, 702, 703, 704, 80, 711, 712, 713, 80, 715, 716, 717, 80, 929, 930, 931, 80, 933, 934, 935, 80, 937, 938, 939, 80, 946, 947, 948, 80, 954, 955, 956, 80, 960, 961, 962, 80, 964, 965, 966, 80, 973, 974, 975, 80, 985, 986, 987, 80, 989, 990, 991, 80, 993, 994, 995, 80, 997, 998, 999, 80, 1001, 1002, 1003, 80, 1005, 1006, 1007, 80, 1009, 1010, 1011, 80, 1013, 1014, 1015, 80, 351, 0, 352, 80, 400, 2, 401, 80, 388, 389, 80, 337, 338, 80, 385, 386, 80, 673, 674, 80] (by decide +kernel) (by decide +kernel)
theorem aQ_w4 : ∀ w ∈ ((List.range 32).map (fun i => 128 + i)).flatMap aQw, w ∈ aTb := aTb_of [977, 978, 80, 374, 375, 80, 460, 461, 80, 482, 483, 80, 469, 470, 80, 404, 3, 405, 80, 1019, 1020, 86, 1129, 1130, 86, 1250, 1251, 86, 1524, 1525, 86, 1253, 1254, 86, 1143, 33, 1144, 86, 1184, 39, 1185, 86, 1176, 1177, 86, 1169, 38, 1170, 86, 1224, 1225, 86, 1151, 35, 1152, 86, 1221, 48, 1222, 86, 1213, 46, 1214, 86, 1147, 34, 1148, 86, 1161, 37, 1162, 86, 1157, 36, 1158, 86, 1135, 32, 1136, 86, 1125, 1126, 1127, 86, 1138, 1139, 1140, 86, 1164, 1165, 1166, 86, 1172, 1173, 1174, 86, 1196, 42, 1197, 86, 1192, 41, 1193, 86, 1209, 45, 1210, 86, 1217, 47, 1218, 86, 1232, 50, 1233, 86] (by decide +kernel) (by decide +kernel)
theorem aQ_w5 : ∀ w ∈ ((List.range 32).map (fun i => 160 + i)).flatMap aQw, w ∈ aTb := aTb_of [1228, 49, 1229, 86, 1236, 51, 1237, 86, 1205, 44, 1206, 86, 1201, 43, 1202, 86, 1188, 40, 1189, 86, 1179, 1180, 1181, 86, 1256, 1257, 1258, 86, 1264, 1265, 86, 1260, 1261, 1262, 86, 1268, 1269, 1270, 86, 1272, 1273, 1274, 86, 1281, 54, 1282, 86, 1276, 1277, 1278, 86, 1285, 1286, 1287, 86, 1294, 55, 1295, 86, 1289, 1290, 1291, 86, 1302, 56, 1303, 86, 1306, 57, 1307, 86, 1311, 58, 1312, 86, 1297, 1298, 1299, 86, 1319, 59, 1320, 86, 1314, 1315, 1316, 86, 1331, 61, 1332, 86, 1327, 60, 1328, 86, 1322, 1323, 1324, 86, 1334, 1335, 1336, 86, 1338, 1339, 1340, 86, 1347, 62, 1348, 86, 1342, 1343, 1344, 86, 1350, 1351, 1352, 86, 1354, 1355, 1356, 86, 1363, 63, 1364, 86] (by decide +kernel) (by decide +kernel)
theorem aQ_w6 : ∀ w ∈ ((List.range 32).map (fun i => 192 + i)).flatMap aQw, w ∈ aTb := aTb_of [1358, 1359, 1360, 86, 1375, 65, 1376, 86, 1371, 64, 1372, 86, 1366, 1367, 1368, 86, 1378, 1379, 1380, 86, 1387, 66, 1388, 86, 1391, 67, 1392, 86, 1382, 1383, 1384, 86, 1403, 68, 1404, 86, 1394, 1395, 1396, 86, 1406, 1407, 1408, 86, 1410, 1411, 1412, 86, 1414, 1415, 1416, 86, 1427, 70, 1428, 86, 1431, 71, 1432, 86, 1423, 69, 1424, 86, 1435, 72, 1436, 86, 1447, 75, 1448, 86, 1454, 1455, 86, 1451, 76, 1452, 86, 1462, 78, 1463, 86, 1443, 74, 1444, 86, 1439, 73, 1440, 86, 1458, 77, 1459, 86, 1418, 1419, 1420, 86, 1465, 1466, 1467, 86, 1240, 52, 1241, 86, 1469, 1470, 1471, 86, 1247, 1248, 86, 1244, 53, 1245, 86, 1398, 1399, 86, 1501, 1502, 86] (by decide +kernel) (by decide +kernel)
theorem aQ_w7 : ∀ w ∈ ((List.range 27).map (fun i => 224 + i)).flatMap aQw, w ∈ aTb := aTb_of [1473, 1474, 1475, 86, 1478, 1479, 1480, 86, 1485, 1486, 1487, 86, 1489, 1490, 1491, 86, 1493, 1494, 1495, 86, 1497, 1498, 1499, 86, 1504, 1505, 1506, 86, 1508, 1509, 1510, 86, 1512, 1513, 1514, 86, 1516, 1517, 1518, 86, 1520, 1521, 1522, 86, 1527, 1528, 1529, 86, 1531, 1532, 1533, 86, 1535, 1536, 1537, 86, 740, 741, 742, 91, 750, 751, 752, 91, 833, 834, 835, 91, 837, 838, 839, 91, 744, 745, 746, 91, 754, 755, 756, 91, 761, 762, 91, 758, 759, 92, 845, 846, 92, 842, 843, 92, 850, 851, 92, 766, 767, 93, 432, 433, 87] (by decide +kernel) (by decide +kernel)
theorem aQ_w (m : Nat) (hm : m < 251) : ∀ w ∈ aQw m, w ∈ aTb := by
  intro w hw
  by_cases h0 : m < 32
  · exact aQ_w0 w (List.mem_flatMap.mpr ⟨m, List.mem_map.mpr ⟨m - 0, List.mem_range.mpr (by omega), by omega⟩, hw⟩)
  by_cases h1 : m < 64
  · exact aQ_w1 w (List.mem_flatMap.mpr ⟨m, List.mem_map.mpr ⟨m - 32, List.mem_range.mpr (by omega), by omega⟩, hw⟩)
  by_cases h2 : m < 96
  · exact aQ_w2 w (List.mem_flatMap.mpr ⟨m, List.mem_map.mpr ⟨m - 64, List.mem_range.mpr (by omega), by omega⟩, hw⟩)
  by_cases h3 : m < 128
  · exact aQ_w3 w (List.mem_flatMap.mpr ⟨m, List.mem_map.mpr ⟨m - 96, List.mem_range.mpr (by omega), by omega⟩, hw⟩)
  by_cases h4 : m < 160
  · exact aQ_w4 w (List.mem_flatMap.mpr ⟨m, List.mem_map.mpr ⟨m - 128, List.mem_range.mpr (by omega), by omega⟩, hw⟩)
  by_cases h5 : m < 192
  · exact aQ_w5 w (List.mem_flatMap.mpr ⟨m, List.mem_map.mpr ⟨m - 160, List.mem_range.mpr (by omega), by omega⟩, hw⟩)
  by_cases h6 : m < 224
  · exact aQ_w6 w (List.mem_flatMap.mpr ⟨m, List.mem_map.mpr ⟨m - 192, List.mem_range.mpr (by omega), by omega⟩, hw⟩)
  by_cases h7 : m < 251
  · exact aQ_w7 w (List.mem_flatMap.mpr ⟨m, List.mem_map.mpr ⟨m - 224, List.mem_range.mpr (by omega), by omega⟩, hw⟩)
  omega
theorem aK_w : ∀ w ∈ aKl.map (fun e => Cond.constant (aCs e.1.1) e.1.2 e.2), w ∈ aTb := aTb_of [692, 344, 503, 600, 191, 339, 486, 538, 406, 679, 705, 944, 950, 951, 952, 1198, 1131, 1132, 1266, 1283, 1308, 1400, 1476, 1481, 1482, 1483, 434, 435, 436] (by decide +kernel) (by decide +kernel)
theorem aN_w : ∀ w ∈ aNl.flatMap (fun e => [Cond.classLink (aCs e.1.1) e.1.2 (aCs e.2), Cond.instantiable (aCs e.2) (aNf e.2), Cond.initialized (aCs e.2)]), w ∈ aTb := aTb_of [278, 253, 84, 903, 904, 88, 104, 105, 81, 185, 186, 82, 208, 209, 83, 204, 253, 84, 206, 273, 85, 96, 97, 80, 1016, 1017, 86] (by decide +kernel) (by decide +kernel)
theorem aN_ok : ∀ e ∈ aNl, e.2 < 8 := by decide +kernel
def aEl (k : Nat) : String := aCs (aOfK k)
theorem aA_w : ∀ w ∈ aAl.map (fun e => Cond.classLink (aCs e.1.1) e.1.2 (aEl e.2)), w ∈ aTb := aTb_of [110, 204, 206] (by decide +kernel) (by decide +kernel)
theorem aA_ok : ∀ e ∈ aAl, 11 ≤ e.2 ∧ e.2 ≤ 13 := by decide +kernel
theorem aR_w : ∀ w ∈ [Cond.arrayClass .char, Cond.arrayClass .int, Cond.arrayClass .boolean], w ∈ aTb := aTb_of [1122, 184, 1123] (by decide +kernel) (by decide +kernel)
/-- statics: (class, name, descriptor) of each entry of aGl, in that order -/
def aGn : List (String × String × String) := [("HangedWord", "KIND_ABOVE", "[I"), ("HangedWordModel", "PARTS6", "[I"), ("java/lang/String", "COMPACT_STRINGS", "Z"), ("jdk/internal/util/Preconditions", "SIOOBE_FORMATTER", "Ljava/util/function/BiFunction;")]
theorem aG_w : ∀ w ∈ (aGl.zip aGn).map (fun e => Cond.fieldLink (aCs e.1.1.1) e.1.1.2 e.2.1 e.2.2.1 e.2.2.2), w ∈ aTb := aTb_of [484, 1153, 747, 763] (by decide +kernel) (by decide +kernel)
