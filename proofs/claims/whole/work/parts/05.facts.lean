/-! what the tables say of the pools: by program -/
def aTb : List Cond := lw_tbl.filter goodWord
theorem aTb_of {ws : List Cond} (ps : List Nat) (hp : ws = ps.filterMap (fun i => lw_tbl[i]?)) (h : ws.all goodWord = true) : ∀ w ∈ ws, w ∈ aTb := by
  intro w hw
  refine List.mem_filter.mpr ⟨?_, List.all_eq_true.mp h w hw⟩
  rw [hp] at hw
  obtain ⟨i, -, hi⟩ := List.mem_filterMap.mp hw
  exact List.mem_of_getElem? hi
theorem aTb_good : ∀ w ∈ aTb, (w.onTables && w.keeps) = true ∨ ∃ ty, w = .arrayClass ty := fun w hw => good_of_word (List.mem_filter.mp hw).2
theorem aTb_tbl : ∀ w ∈ aTb, w ∈ lw_tbl := fun w hw => (List.mem_filter.mp hw).1
/-- the name of a class, by its number; of the kind of an object -/
def aCs (k : Nat) : String := aGet "" aCn k
def aKs (k : Nat) : String := if k = 14 then "java/lang/String" else aGet "" aCn k
def aTT (k : Nat) : u_T := match k with
  | 0 => aT0
  | 1 => aT1
  | 2 => aT2
  | 3 => aT3
  | 4 => aT4
  | 5 => aT5
  | 6 => aT6
  | _ => aT7
def aYY (k : Nat) : Nat → FieldType := match k with
  | 0 => aY0
  | 1 => aY1
  | 2 => aY2
  | 3 => aY3
  | 4 => aY4
  | 5 => aY5
  | 6 => aY6
  | _ => aY7
def aNf (k : Nat) : Nat := (aGet [] aFk k).length
theorem aCl_at : ∀ k, k < 8 → aCl[k]? = some (aCs k, aTT k, aNf k) := by
  intro k hk
  rcases (show k = 0 ∨ k = 1 ∨ k = 2 ∨ k = 3 ∨ k = 4 ∨ k = 5 ∨ k = 6 ∨ k = 7 by omega) with rfl | rfl | rfl | rfl | rfl | rfl | rfl | rfl <;> rfl
theorem aYY_ok : ∀ k, k < 8 → ∀ j, j < aNf k → parseFieldDescriptor (aTT k j).2.2.1 = some (aYY k j) := by decide +kernel
theorem aTT_nm : ∀ k, k < 8 → ∀ a, a < aNf k → ∀ b, b < aNf k → a ≠ b → (aTT k a).2.1 ≠ (aTT k b).2.1 := by decide +kernel
/-- a field's kind and its type -/
def aYk (ty : FieldType) : Nat := match ty with
  | .int => 0
  | .boolean => 2
  | _ => 1
theorem aYY_k : ∀ k, k < 8 → ∀ j, j < aNf k → aGet 9 (aGet [] aFk k) j = aYk (aYY k j) ∧ (aYk (aYY k j) = 1 → refKind (aYY k j) = true) := by decide +kernel
def aFw (e : (Nat × Nat) × Nat × Nat × Nat × Bool) : Cond := if e.2.1 = 14 then .fieldLink (aCs e.1.1) e.1.2 "java/lang/String" (if e.2.2.1 = 0 then "value" else "coder") (if e.2.2.1 = 0 then "[B" else "B") else .fieldLink (aCs e.1.1) e.1.2 (aCs e.2.1) (aTT e.2.1 e.2.2.1).2.1 (aTT e.2.1 e.2.2.1).2.2.1
def aFok (e : (Nat × Nat) × Nat × Nat × Nat × Bool) : Bool := if e.2.1 = 14 then true else decide (e.2.1 < 8) && decide (e.2.2.1 < aNf e.2.1) && decide (aGet 9 (aGet [] aFk e.2.1) e.2.2.1 = e.2.2.2.1) && decide ((aTT e.2.1 e.2.2.1).1 = aCs e.2.1) && decide ((aTT e.2.1 e.2.2.1).2.2.2 = e.2.2.2.2)
theorem aF_ok : aFl.all aFok = true := by decide +kernel
theorem aF_w : ∀ w ∈ aFl.map aFw, w ∈ aTb := aTb_of [258, 261, 263, 280, 282, 284, 286, 288, 112, 114, 116, 117, 120, 122, 124, 126, 129, 132, 134, 136, 138, 140, 142, 144, 145, 146, 911, 265, 260, 214, 215, 217, 219, 220, 221, 222, 223, 224, 225, 226, 227, 910, 913, 915, 192, 193, 195, 127, 130, 118, 301, 302, 303, 304, 305, 306, 307, 308, 309, 310, 113, 115, 121, 123, 131, 119, 137, 128, 133, 135, 194, 196, 125, 216, 218, 141, 139, 912, 914, 143, 262, 259, 264, 281, 283, 285, 289, 287, 1022, 1023, 1024, 1026, 1027, 1035, 1036, 1037, 1040, 1042, 1043, 1044, 1045, 1046, 1047, 1048, 1049, 1050, 1051, 1052, 1053, 1028, 1029, 1030, 1033, 1031, 1032, 1034, 1041, 1038, 1039, 1054, 1025, 1538, 1539] (by decide +kernel) (by decide +kernel)
theorem aC_w0 : ∀ w ∈ u_ws (aCs 0) (aTT 0) (aNf 0), w ∈ aTb := aTb_of [266, 268, 270] (by decide +kernel) (by decide +kernel)
theorem aC_w1 : ∀ w ∈ u_ws (aCs 1) (aTT 1) (aNf 1), w ∈ aTb := aTb_of [290, 292, 294, 296, 298] (by decide +kernel) (by decide +kernel)
theorem aC_w2 : ∀ w ∈ u_ws (aCs 2) (aTT 2) (aNf 2), w ∈ aTb := aTb_of [147, 149, 151, 153, 155, 157, 159, 161, 163, 165, 167, 169, 171, 173, 175, 177, 179, 181] (by decide +kernel) (by decide +kernel)
theorem aC_w3 : ∀ w ∈ u_ws (aCs 3) (aTT 3) (aNf 3), w ∈ aTb := aTb_of [228, 230, 232, 234, 236, 238, 240, 242, 244, 246, 248, 250] (by decide +kernel) (by decide +kernel)
theorem aC_w4 : ∀ w ∈ u_ws (aCs 4) (aTT 4) (aNf 4), w ∈ aTb := aTb_of [916, 918, 920] (by decide +kernel) (by decide +kernel)
theorem aC_w5 : ∀ w ∈ u_ws (aCs 5) (aTT 5) (aNf 5), w ∈ aTb := aTb_of [197, 199, 201] (by decide +kernel) (by decide +kernel)
theorem aC_w6 : ∀ w ∈ u_ws (aCs 6) (aTT 6) (aNf 6), w ∈ aTb := aTb_of [311, 313, 315, 317, 319, 321, 323, 325, 327, 329] (by decide +kernel) (by decide +kernel)
theorem aC_w7 : ∀ w ∈ u_ws (aCs 7) (aTT 7) (aNf 7), w ∈ aTb := aTb_of [1055, 1057, 1059, 1061, 1063, 1065, 1067, 1069, 1071, 1073, 1075, 1077, 1079, 1081, 1083, 1085, 1087, 1089, 1091, 1093, 1095, 1097, 1099, 1101, 1103, 1105, 1107, 1109, 1111, 1113, 1115, 1117, 1119] (by decide +kernel) (by decide +kernel)
theorem aC_w : ∀ k, k < 8 → ∀ w ∈ u_ws (aCs k) (aTT k) (aNf k), w ∈ aTb := by
  intro k hk
  rcases (show k = 0 ∨ k = 1 ∨ k = 2 ∨ k = 3 ∨ k = 4 ∨ k = 5 ∨ k = 6 ∨ k = 7 by omega) with rfl | rfl | rfl | rfl | rfl | rfl | rfl | rfl
  · exact aC_w0
  · exact aC_w1
  · exact aC_w2
  · exact aC_w3
  · exact aC_w4
  · exact aC_w5
  · exact aC_w6
  · exact aC_w7
def aNe : List (Nat × Nat) := [(1, 26), (2, 85), (2, 133), (5, 46), (6, 9), (6, 24), (6, 43), (6, 60), (6, 61)]
/-- how a method is called: 0 virtual, 1 static, 2 constructor -/
def aTk : List Nat := [2, 0, 0, 0, 0, 0, 0, 2, 2, 0, 0, 0, 0, 0, 0, 0, 0, 0, 0, 0, 0, 0, 0, 0, 0, 0, 0, 0, 0, 0, 0, 0, 0, 0, 0, 0, 0, 0, 0, 0, 0, 0, 0, 0, 0, 2, 0, 0, 0, 0, 0, 0, 0, 0, 0, 0, 0, 0, 0, 0, 0, 0, 0, 0, 0, 0, 2, 0, 1, 1, 2, 0, 0, 0, 0, 0, 2, 0, 0, 0, 0, 0, 0, 0, 0, 0, 0, 0, 0, 0, 0, 0, 0, 0, 0, 0, 0, 0, 0, 0, 0, 0, 0, 0, 0, 0, 0, 0, 0, 0, 0, 0, 0, 0, 0, 0, 0, 0, 0, 0, 0, 0, 0, 0, 1, 1, 1, 1, 1, 1, 1, 1, 1, 0, 2, 1, 1, 1, 1, 0, 0, 1, 0, 1, 0, 0, 0, 0, 0, 0, 0, 0, 0, 0, 0, 0, 0, 0, 0, 0, 0, 0, 0, 0, 0, 0, 0, 1, 0, 0, 0, 0, 0, 0, 0, 0, 0, 0, 0, 0, 0, 0, 0, 0, 0, 0, 0, 0, 0, 0, 0, 0, 0, 0, 0, 0, 0, 0, 0, 0, 0, 0, 0, 0, 0, 0, 0, 0, 0, 0, 1, 0, 0, 0, 0, 0, 0, 0, 0, 0, 1, 0, 1, 1, 0, 0, 0, 0, 0, 0, 0, 0, 0, 0, 0, 0, 0, 0, 0, 0, 0, 0, 0, 0, 1, 1, 1, 1, 1, 1, 1, 1]
/-- the link of a pool's entry; a nest mate's is told apart -/
def aMw (e : (Nat × Nat) × Nat × Nat × Nat × Nat) : List Cond :=
  if e.2.2.1 = 1000 then [.methodLink (aCs e.1.1) e.1.2 objectInit]
  else if e.2.2.1 = 1001 then [.methodLink (aCs e.1.1) e.1.2 arraycopyName]
  else if e.2.2.1 = 1002 then [.methodLink (aCs e.1.1) e.1.2 Lib.Math.max.name]
  else if e.2.2.1 = 1003 then [.methodLink (aCs e.1.1) e.1.2 Lib.Math.min.name]
  else if aNe.contains e.1 then [] else [.methodLink (aCs e.1.1) e.1.2 (aNm e.2.2.1)]
/-- what the tables say of a method -/
def aQw (m : Nat) : List Cond := (if aGet 9 aTk m = 1 then [.static (aNm m)] else if aGet 9 aTk m = 0 then [.instanceMethod (aNm m), .selects (aNm m).cls (aNm m) (aNm m)] else [.instanceMethod (aNm m)]) ++ [.initialized (aNm m).cls]
def aQc (m : Nat) : Cond := .code (aNm m) (aBy m) (aNL m) (aRt m)
abbrev aE : Type := (Nat × Nat) × Nat × Nat × Nat × Nat
def aMk1 (e : aE) : Bool := if e.2.2.1 = 1000 then decide (e.2.1 = 2) && decide (e.2.2.2.1 = 1) && decide (e.2.2.2.2 = 99) else if e.2.2.1 = 1001 then decide (e.2.1 = 1) && decide (e.2.2.2.1 = 5) && decide (e.2.2.2.2 = 99) else if e.2.2.1 = 1002 ∨ e.2.2.1 = 1003 then decide (e.2.1 = 1) && decide (e.2.2.2.1 = 2) && decide (e.2.2.2.2 = 99) else decide (e.2.2.1 < 251) && decide (e.2.1 = aGet 9 aTk e.2.2.1) && decide (e.2.1 ≤ 2)
def aMk2 (e : aE) : Bool := if 1000 ≤ e.2.2.1 then true else decide ((parseMethodDescriptor (aNm e.2.2.1).desc).map (fun d => d.parameters.length + (if e.2.1 = 1 then 0 else 1)) = some e.2.2.2.1)
def aMk3 (e : aE) : Bool := if 1000 ≤ e.2.2.1 then true else if e.2.1 = 1 then decide (e.2.2.2.2 = 99) else decide ((e.2.2.2.2 < 8 ∨ e.2.2.2.2 = 14) ∧ (aNm e.2.2.1).cls = aKs e.2.2.2.2)
def aMk4 (e : aE) : Bool := if 1000 ≤ e.2.2.1 then true else if e.2.1 = 2 then decide ((aNm e.2.2.1).name = "<init>" ∧ aRt e.2.2.1 = none) else true
theorem aM_1 : ∀ e ∈ aMl, aMk1 e = true := by decide +kernel
theorem aM_2 : ∀ e ∈ aMl, aMk2 e = true := by decide +kernel
theorem aM_3 : ∀ e ∈ aMl, aMk3 e = true := by decide +kernel
theorem aM_4 : ∀ e ∈ aMl, aMk4 e = true := by decide +kernel
def aQk1 (m : Nat) : Bool := decide ((aNm m).cls ≠ "java/lang/invoke/MethodHandle") && decide ((aNm m).cls ≠ "java/lang/invoke/VarHandle")
def aQk2 (m : Nat) : Bool := plainName (aNm m).cls
def aQk3 (m : Nat) : Bool := decide ((aNm m).cls = aCs (aOw m))
def aQk4 (m : Nat) : Bool := decide (aNL m ≤ 16)
theorem aQ_1 : ∀ m, m < 252 → aQk1 m = true := by decide +kernel
theorem aQ_2 : ∀ m, m < 252 → aQk2 m = true := by decide +kernel
theorem aQ_3 : ∀ m, m < 252 → aQk3 m = true := by decide +kernel
theorem aQ_4 : ∀ m, m < 252 → aQk4 m = true := by decide +kernel
theorem aX_w : ∀ w ∈ [Cond.instanceMethod objectInit, .code objectInit ⟨#[0xb1]⟩ 1 none, .native arraycopyName, .static arraycopyName, .initialized "java/lang/System", .static Lib.Math.max.name, .initialized "java/lang/Math", .code Lib.Math.max.name Lib.Math.max.code 2 (some .int), .static Lib.Math.min.name, .code Lib.Math.min.name Lib.Math.min.code 2 (some .int)], w ∈ aTb := aTb_of [102, 103, 667, 666, 90, 466, 89, 467, 463, 464] (by decide +kernel) (by decide +kernel)
theorem aM_w0 : ∀ w ∈ ((aMl).take 75).flatMap aMw, w ∈ aTb := aTb_of [257, 688, 983, 277, 109, 665, 357, 369, 365, 529, 547, 415, 423, 431, 427, 437, 441, 445, 449, 419, 411, 525, 530, 548, 549, 550, 559, 563, 564, 568, 599, 609, 613, 684, 213, 722, 730, 789, 905, 735, 726, 739, 749, 793, 887, 817, 797, 801, 805, 809, 813, 821, 891, 895, 825, 832, 908, 909, 453, 456, 190, 625, 626, 644, 631, 635, 636, 637, 643, 641, 642] (by decide +kernel) (by decide +kernel)
theorem aM_w1 : ∀ w ∈ (((aMl.drop 75)).take 75).flatMap aMw, w ∈ aTb := aTb_of [648, 101, 336, 340, 349, 353, 361, 384, 387, 390, 398, 402, 468, 475, 476, 481, 462, 499, 512, 516, 521, 534, 543, 555, 577, 578, 583, 595, 605, 621, 653, 661, 672, 675, 680, 697, 706, 718, 899, 924, 940, 949, 957, 958, 967, 971, 976, 979, 465, 407, 1021, 1128, 1149, 1159, 1133, 1141, 1145, 1155, 1167, 1175, 1211, 1219, 1230, 1215, 1238, 1207, 1223, 1190, 1242, 1249] (by decide +kernel) (by decide +kernel)
theorem aM_w2 : ∀ w ∈ ((((aMl.drop 75).drop 75)).take 75).flatMap aMw, w ∈ aTb := aTb_of [1194, 1226, 1234, 1203, 1182, 1186, 1199, 1252, 1263, 1279, 1292, 1300, 1304, 1309, 1317, 1329, 1325, 1345, 1361, 1369, 1373, 1385, 1389, 1397, 1401, 1425, 1429, 1421, 1453, 1445, 1449, 1441, 1456, 1460, 1433, 1437, 1246, 1500, 1523, 743, 753, 757, 836, 840, 841, 765, 760, 844, 847, 848, 849, 98, 1018, 332, 1124, 345, 1137, 376, 1163, 380, 1171, 394, 1178, 471, 1255, 477, 1259, 487, 1267, 491, 1271, 495, 1275, 504, 1284] (by decide +kernel) (by decide +kernel)
theorem aM_w3 : ∀ w ∈ (((((aMl.drop 75).drop 75).drop 75)).take 75).flatMap aMw, w ∈ aTb := aTb_of [508, 1288, 517, 1296, 539, 1313, 551, 1321, 569, 1333, 573, 1337, 579, 1341, 587, 1349, 591, 1353, 601, 1357, 617, 1365, 649, 1377, 657, 1381, 668, 1393, 693, 1405, 701, 1409, 710, 1413, 714, 1417, 928, 1464, 932, 1468, 936, 1472, 945, 1477, 953, 1484, 959, 1488, 963, 1492, 972, 1496, 984, 1503, 988, 1507, 992, 1511, 996, 1515, 1000, 1519, 1004, 1526, 1008, 1530, 1012, 1534] (by decide +kernel) (by decide +kernel)
theorem aM_w : ∀ e ∈ aMl, ∀ w ∈ aMw e, w ∈ aTb := by
  intro e he w hw
  rw [← List.take_append_drop 75 aMl] at he
  rcases List.mem_append.mp he with h | he
  · exact aM_w0 w (List.mem_flatMap.mpr ⟨e, h, hw⟩)
  rw [← List.take_append_drop 75 ((aMl.drop 75))] at he
  rcases List.mem_append.mp he with h | he
  · exact aM_w1 w (List.mem_flatMap.mpr ⟨e, h, hw⟩)
  rw [← List.take_append_drop 75 (((aMl.drop 75).drop 75))] at he
  rcases List.mem_append.mp he with h | he
  · exact aM_w2 w (List.mem_flatMap.mpr ⟨e, h, hw⟩)
  rw [← List.take_append_drop 75 ((((aMl.drop 75).drop 75).drop 75))] at he
  rcases List.mem_append.mp he with h | he
  · exact aM_w3 w (List.mem_flatMap.mpr ⟨e, h, hw⟩)
  rw [show ((((aMl.drop 75).drop 75).drop 75).drop 75) = [] from by decide +kernel] at he
  exact absurd he List.not_mem_nil
theorem aQ_w0 : ∀ w ∈ ((List.range 32).map (fun i => 0 + i)).flatMap aQw, w ∈ aTb := aTb_of [255, 84, 676, 677, 84, 689, 690, 84, 968, 969, 84, 685, 686, 84, 941, 942, 84, 980, 981, 84, 275, 85, 107, 81, 662, 663, 81, 341, 342, 81, 391, 392, 81, 925, 926, 81, 500, 501, 81, 358, 359, 81, 354, 355, 81, 420, 421, 81, 428, 429, 81, 424, 425, 81, 366, 367, 81, 371, 1, 81, 362, 363, 81, 610, 611, 81, 654, 655, 81, 412, 413, 81, 443, 6, 81, 417, 4, 81, 439, 5, 81, 408, 409, 81, 513, 514, 81, 526, 527, 81, 531, 532, 81] (by decide +kernel) (by decide +kernel)
theorem aQ_w1 : ∀ w ∈ ((List.range 32).map (fun i => 32 + i)).flatMap aQw, w ∈ aTb := aTb_of [522, 523, 81, 535, 536, 81, 544, 545, 81, 556, 557, 81, 561, 8, 81, 566, 9, 81, 698, 699, 81, 447, 7, 81, 584, 585, 81, 596, 597, 81, 606, 607, 81, 615, 10, 81, 681, 682, 81, 211, 83, 707, 708, 83, 719, 720, 83, 900, 901, 83, 732, 17, 83, 827, 28, 83, 724, 15, 83, 728, 16, 83, 889, 29, 83, 737, 18, 83, 819, 26, 83, 791, 19, 83, 795, 20, 83, 799, 21, 83, 803, 22, 83, 807, 23, 83, 811, 24, 83, 815, 25, 83, 823, 27, 83] (by decide +kernel) (by decide +kernel)
theorem aQ_w2 : ∀ w ∈ ((List.range 32).map (fun i => 64 + i)).flatMap aQw, w ∈ aTb := aTb_of [893, 30, 83, 897, 31, 83, 906, 88, 450, 451, 88, 454, 88, 457, 88, 188, 82, 622, 623, 82, 628, 11, 82, 633, 12, 82, 639, 13, 82, 646, 14, 82, 99, 80, 333, 334, 80, 346, 347, 80, 377, 378, 80, 381, 382, 80, 395, 396, 80, 472, 473, 80, 478, 479, 80, 488, 489, 80, 492, 493, 80, 496, 497, 80, 505, 506, 80, 509, 510, 80, 518, 519, 80, 540, 541, 80, 552, 553, 80, 570, 571, 80, 574, 575, 80, 580, 581, 80, 588, 589, 80] (by decide +kernel) (by decide +kernel)
theorem aQ_w3 : ∀ w ∈ ((List.range 32).map (fun i => 96 + i)).flatMap aQw, w ∈ aTb := aTb_of [592, 593, 80, 602, 603, 80, 618, 619, 80, 650, 651, 80, 658, 659, 80, 669, 670, 80, 694, 695, 80, 702, 703, 80, 711, 712, 80, 715, 716, 80, 929, 930, 80, 933, 934, 80, 937, 938, 80, 946, 947, 80, 954, 955, 80, 960, 961, 80, 964, 965, 80, 973, 974, 80, 985, 986, 80, 989, 990, 80, 993, 994, 80, 997, 998, 80, 1001, 1002, 80, 1005, 1006, 80, 1009, 1010, 80, 1013, 1014, 80, 351, 0, 80, 400, 2, 80, 388, 80, 337, 80, 385, 80, 673, 80] (by decide +kernel) (by decide +kernel)
theorem aQ_w4 : ∀ w ∈ ((List.range 32).map (fun i => 128 + i)).flatMap aQw, w ∈ aTb := aTb_of [977, 80, 374, 80, 460, 80, 482, 80, 469, 80, 404, 3, 80, 1019, 86, 1129, 86, 1250, 86, 1524, 86, 1253, 86, 1143, 33, 86, 1184, 39, 86, 1176, 86, 1169, 38, 86, 1224, 86, 1151, 35, 86, 1221, 48, 86, 1213, 46, 86, 1147, 34, 86, 1161, 37, 86, 1157, 36, 86, 1135, 32, 86, 1125, 1126, 86, 1138, 1139, 86, 1164, 1165, 86, 1172, 1173, 86, 1196, 42, 86, 1192, 41, 86, 1209, 45, 86, 1217, 47, 86, 1232, 50, 86] (by decide +kernel) (by decide +kernel)
theorem aQ_w5 : ∀ w ∈ ((List.range 32).map (fun i => 160 + i)).flatMap aQw, w ∈ aTb := aTb_of [1228, 49, 86, 1236, 51, 86, 1205, 44, 86, 1201, 43, 86, 1188, 40, 86, 1179, 1180, 86, 1256, 1257, 86, 1264, 86, 1260, 1261, 86, 1268, 1269, 86, 1272, 1273, 86, 1281, 54, 86, 1276, 1277, 86, 1285, 1286, 86, 1294, 55, 86, 1289, 1290, 86, 1302, 56, 86, 1306, 57, 86, 1311, 58, 86, 1297, 1298, 86, 1319, 59, 86, 1314, 1315, 86, 1331, 61, 86, 1327, 60, 86, 1322, 1323, 86, 1334, 1335, 86, 1338, 1339, 86, 1347, 62, 86, 1342, 1343, 86, 1350, 1351, 86, 1354, 1355, 86, 1363, 63, 86] (by decide +kernel) (by decide +kernel)
theorem aQ_w6 : ∀ w ∈ ((List.range 32).map (fun i => 192 + i)).flatMap aQw, w ∈ aTb := aTb_of [1358, 1359, 86, 1375, 65, 86, 1371, 64, 86, 1366, 1367, 86, 1378, 1379, 86, 1387, 66, 86, 1391, 67, 86, 1382, 1383, 86, 1403, 68, 86, 1394, 1395, 86, 1406, 1407, 86, 1410, 1411, 86, 1414, 1415, 86, 1427, 70, 86, 1431, 71, 86, 1423, 69, 86, 1435, 72, 86, 1447, 75, 86, 1454, 86, 1451, 76, 86, 1462, 78, 86, 1443, 74, 86, 1439, 73, 86, 1458, 77, 86, 1418, 1419, 86, 1465, 1466, 86, 1240, 52, 86, 1469, 1470, 86, 1247, 86, 1244, 53, 86, 1398, 86, 1501, 86] (by decide +kernel) (by decide +kernel)
theorem aQ_w7 : ∀ w ∈ ((List.range 27).map (fun i => 224 + i)).flatMap aQw, w ∈ aTb := aTb_of [1473, 1474, 86, 1478, 1479, 86, 1485, 1486, 86, 1489, 1490, 86, 1493, 1494, 86, 1497, 1498, 86, 1504, 1505, 86, 1508, 1509, 86, 1512, 1513, 86, 1516, 1517, 86, 1520, 1521, 86, 1527, 1528, 86, 1531, 1532, 86, 1535, 1536, 86, 740, 741, 91, 750, 751, 91, 833, 834, 91, 837, 838, 91, 744, 745, 91, 754, 755, 91, 761, 91, 758, 92, 845, 92, 842, 92, 850, 92, 766, 93, 432, 87] (by decide +kernel) (by decide +kernel)
theorem aQ_w (m : Nat) (hm : m < 251) : ∀ w ∈ aQw m, w ∈ aTb := by
  intro w hw
  by_cases h0 : m < 32
  · exact aQ_w0 w (List.mem_flatMap.mpr ⟨m, List.mem_map.mpr ⟨m - 0, List.mem_range.mpr (by omega), by omega⟩, hw⟩)
  by_cases h1 : m < 64
  · exact aQ_w1 w (List.mem_flatMap.mpr ⟨m, List.mem_map.mpr ⟨m - 32, List.mem_range.mpr (by omega), by omega⟩, hw⟩)
  by_cases h2 : m < 96
  · exact aQ_w2 w (List.mem_flatMap.mpr ⟨m, List.mem_map.mpr ⟨m - 64, List.mem_range.mpr (by omega), by omega⟩, hw⟩)
  by_cases h3 : m < 128
  · exact aQ_w3 w (List.mem_flatMap.mpr ⟨m, List.mem_map.mpr ⟨m - 96, List.mem_range.mpr (by omega), by omega⟩, hw⟩)
  by_cases h4 : m < 160
  · exact aQ_w4 w (List.mem_flatMap.mpr ⟨m, List.mem_map.mpr ⟨m - 128, List.mem_range.mpr (by omega), by omega⟩, hw⟩)
  by_cases h5 : m < 192
  · exact aQ_w5 w (List.mem_flatMap.mpr ⟨m, List.mem_map.mpr ⟨m - 160, List.mem_range.mpr (by omega), by omega⟩, hw⟩)
  by_cases h6 : m < 224
  · exact aQ_w6 w (List.mem_flatMap.mpr ⟨m, List.mem_map.mpr ⟨m - 192, List.mem_range.mpr (by omega), by omega⟩, hw⟩)
  by_cases h7 : m < 251
  · exact aQ_w7 w (List.mem_flatMap.mpr ⟨m, List.mem_map.mpr ⟨m - 224, List.mem_range.mpr (by omega), by omega⟩, hw⟩)
  omega
theorem aTb_1 {w : Cond} (i : Nat) (h : lw_tbl[i]? = some w) (g : goodWord w = true) : w ∈ aTb := List.mem_filter.mpr ⟨List.mem_of_getElem? h, g⟩
set_option maxRecDepth 20000 in
theorem aQc_0 : aQc 0 ∈ aTb := aTb_1 256 rfl rfl
set_option maxRecDepth 20000 in
theorem aQc_1 : aQc 1 ∈ aTb := aTb_1 678 rfl rfl
set_option maxRecDepth 20000 in
theorem aQc_2 : aQc 2 ∈ aTb := aTb_1 691 rfl rfl
set_option maxRecDepth 20000 in
theorem aQc_3 : aQc 3 ∈ aTb := aTb_1 970 rfl rfl
set_option maxRecDepth 20000 in
theorem aQc_4 : aQc 4 ∈ aTb := aTb_1 687 rfl rfl
set_option maxRecDepth 20000 in
theorem aQc_5 : aQc 5 ∈ aTb := aTb_1 943 rfl rfl
set_option maxRecDepth 20000 in
theorem aQc_6 : aQc 6 ∈ aTb := aTb_1 982 rfl rfl
set_option maxRecDepth 20000 in
theorem aQc_7 : aQc 7 ∈ aTb := aTb_1 276 rfl rfl
set_option maxRecDepth 20000 in
theorem aQc_8 : aQc 8 ∈ aTb := aTb_1 108 rfl rfl
set_option maxRecDepth 20000 in
theorem aQc_9 : aQc 9 ∈ aTb := aTb_1 664 rfl rfl
set_option maxRecDepth 20000 in
theorem aQc_10 : aQc 10 ∈ aTb := aTb_1 343 rfl rfl
set_option maxRecDepth 20000 in
theorem aQc_11 : aQc 11 ∈ aTb := aTb_1 393 rfl rfl
set_option maxRecDepth 20000 in
theorem aQc_12 : aQc 12 ∈ aTb := aTb_1 927 rfl rfl
set_option maxRecDepth 20000 in
theorem aQc_13 : aQc 13 ∈ aTb := aTb_1 502 rfl rfl
set_option maxRecDepth 20000 in
theorem aQc_14 : aQc 14 ∈ aTb := aTb_1 360 rfl rfl
set_option maxRecDepth 20000 in
theorem aQc_15 : aQc 15 ∈ aTb := aTb_1 356 rfl rfl
set_option maxRecDepth 20000 in
theorem aQc_16 : aQc 16 ∈ aTb := aTb_1 422 rfl rfl
set_option maxRecDepth 20000 in
theorem aQc_17 : aQc 17 ∈ aTb := aTb_1 430 rfl rfl
set_option maxRecDepth 20000 in
theorem aQc_18 : aQc 18 ∈ aTb := aTb_1 426 rfl rfl
set_option maxRecDepth 20000 in
theorem aQc_19 : aQc 19 ∈ aTb := aTb_1 368 rfl rfl
set_option maxRecDepth 20000 in
theorem aQc_20 : aQc 20 ∈ aTb := aTb_1 372 rfl rfl
set_option maxRecDepth 20000 in
theorem aQc_21 : aQc 21 ∈ aTb := aTb_1 364 rfl rfl
set_option maxRecDepth 20000 in
theorem aQc_22 : aQc 22 ∈ aTb := aTb_1 612 rfl rfl
set_option maxRecDepth 20000 in
theorem aQc_23 : aQc 23 ∈ aTb := aTb_1 656 rfl rfl
set_option maxRecDepth 20000 in
theorem aQc_24 : aQc 24 ∈ aTb := aTb_1 414 rfl rfl
set_option maxRecDepth 20000 in
theorem aQc_25 : aQc 25 ∈ aTb := aTb_1 444 rfl rfl
set_option maxRecDepth 20000 in
theorem aQc_26 : aQc 26 ∈ aTb := aTb_1 418 rfl rfl
set_option maxRecDepth 20000 in
theorem aQc_27 : aQc 27 ∈ aTb := aTb_1 440 rfl rfl
set_option maxRecDepth 20000 in
theorem aQc_28 : aQc 28 ∈ aTb := aTb_1 410 rfl rfl
set_option maxRecDepth 20000 in
theorem aQc_29 : aQc 29 ∈ aTb := aTb_1 515 rfl rfl
set_option maxRecDepth 20000 in
theorem aQc_30 : aQc 30 ∈ aTb := aTb_1 528 rfl rfl
set_option maxRecDepth 20000 in
theorem aQc_31 : aQc 31 ∈ aTb := aTb_1 533 rfl rfl
set_option maxRecDepth 20000 in
theorem aQc_32 : aQc 32 ∈ aTb := aTb_1 524 rfl rfl
set_option maxRecDepth 20000 in
theorem aQc_33 : aQc 33 ∈ aTb := aTb_1 537 rfl rfl
set_option maxRecDepth 20000 in
theorem aQc_34 : aQc 34 ∈ aTb := aTb_1 546 rfl rfl
set_option maxRecDepth 20000 in
theorem aQc_35 : aQc 35 ∈ aTb := aTb_1 558 rfl rfl
set_option maxRecDepth 20000 in
theorem aQc_36 : aQc 36 ∈ aTb := aTb_1 562 rfl rfl
set_option maxRecDepth 20000 in
theorem aQc_37 : aQc 37 ∈ aTb := aTb_1 567 rfl rfl
set_option maxRecDepth 20000 in
theorem aQc_38 : aQc 38 ∈ aTb := aTb_1 700 rfl rfl
set_option maxRecDepth 20000 in
theorem aQc_39 : aQc 39 ∈ aTb := aTb_1 448 rfl rfl
set_option maxRecDepth 20000 in
theorem aQc_40 : aQc 40 ∈ aTb := aTb_1 586 rfl rfl
set_option maxRecDepth 20000 in
theorem aQc_41 : aQc 41 ∈ aTb := aTb_1 598 rfl rfl
set_option maxRecDepth 20000 in
theorem aQc_42 : aQc 42 ∈ aTb := aTb_1 608 rfl rfl
set_option maxRecDepth 20000 in
theorem aQc_43 : aQc 43 ∈ aTb := aTb_1 616 rfl rfl
set_option maxRecDepth 20000 in
theorem aQc_44 : aQc 44 ∈ aTb := aTb_1 683 rfl rfl
set_option maxRecDepth 20000 in
theorem aQc_45 : aQc 45 ∈ aTb := aTb_1 212 rfl rfl
set_option maxRecDepth 20000 in
theorem aQc_46 : aQc 46 ∈ aTb := aTb_1 709 rfl rfl
set_option maxRecDepth 20000 in
theorem aQc_47 : aQc 47 ∈ aTb := aTb_1 721 rfl rfl
set_option maxRecDepth 20000 in
theorem aQc_48 : aQc 48 ∈ aTb := aTb_1 902 rfl rfl
set_option maxRecDepth 20000 in
theorem aQc_49 : aQc 49 ∈ aTb := aTb_1 733 rfl rfl
set_option maxRecDepth 20000 in
theorem aQc_50 : aQc 50 ∈ aTb := aTb_1 828 rfl rfl
set_option maxRecDepth 20000 in
theorem aQc_51 : aQc 51 ∈ aTb := aTb_1 725 rfl rfl
set_option maxRecDepth 20000 in
theorem aQc_52 : aQc 52 ∈ aTb := aTb_1 729 rfl rfl
set_option maxRecDepth 20000 in
theorem aQc_53 : aQc 53 ∈ aTb := aTb_1 890 rfl rfl
set_option maxRecDepth 20000 in
theorem aQc_54 : aQc 54 ∈ aTb := aTb_1 738 rfl rfl
set_option maxRecDepth 20000 in
theorem aQc_55 : aQc 55 ∈ aTb := aTb_1 820 rfl rfl
set_option maxRecDepth 20000 in
theorem aQc_56 : aQc 56 ∈ aTb := aTb_1 792 rfl rfl
set_option maxRecDepth 20000 in
theorem aQc_57 : aQc 57 ∈ aTb := aTb_1 796 rfl rfl
set_option maxRecDepth 20000 in
theorem aQc_58 : aQc 58 ∈ aTb := aTb_1 800 rfl rfl
set_option maxRecDepth 20000 in
theorem aQc_59 : aQc 59 ∈ aTb := aTb_1 804 rfl rfl
set_option maxRecDepth 20000 in
theorem aQc_60 : aQc 60 ∈ aTb := aTb_1 808 rfl rfl
set_option maxRecDepth 20000 in
theorem aQc_61 : aQc 61 ∈ aTb := aTb_1 812 rfl rfl
set_option maxRecDepth 20000 in
theorem aQc_62 : aQc 62 ∈ aTb := aTb_1 816 rfl rfl
set_option maxRecDepth 20000 in
theorem aQc_63 : aQc 63 ∈ aTb := aTb_1 824 rfl rfl
set_option maxRecDepth 20000 in
theorem aQc_64 : aQc 64 ∈ aTb := aTb_1 894 rfl rfl
set_option maxRecDepth 20000 in
theorem aQc_65 : aQc 65 ∈ aTb := aTb_1 898 rfl rfl
set_option maxRecDepth 20000 in
theorem aQc_66 : aQc 66 ∈ aTb := aTb_1 907 rfl rfl
set_option maxRecDepth 20000 in
theorem aQc_67 : aQc 67 ∈ aTb := aTb_1 452 rfl rfl
set_option maxRecDepth 20000 in
theorem aQc_68 : aQc 68 ∈ aTb := aTb_1 455 rfl rfl
set_option maxRecDepth 20000 in
theorem aQc_69 : aQc 69 ∈ aTb := aTb_1 458 rfl rfl
set_option maxRecDepth 20000 in
theorem aQc_70 : aQc 70 ∈ aTb := aTb_1 189 rfl rfl
set_option maxRecDepth 20000 in
theorem aQc_71 : aQc 71 ∈ aTb := aTb_1 624 rfl rfl
set_option maxRecDepth 20000 in
theorem aQc_72 : aQc 72 ∈ aTb := aTb_1 629 rfl rfl
set_option maxRecDepth 20000 in
theorem aQc_73 : aQc 73 ∈ aTb := aTb_1 634 rfl rfl
set_option maxRecDepth 20000 in
theorem aQc_74 : aQc 74 ∈ aTb := aTb_1 640 rfl rfl
set_option maxRecDepth 20000 in
theorem aQc_75 : aQc 75 ∈ aTb := aTb_1 647 rfl rfl
set_option maxRecDepth 20000 in
theorem aQc_76 : aQc 76 ∈ aTb := aTb_1 100 rfl rfl
set_option maxRecDepth 20000 in
theorem aQc_77 : aQc 77 ∈ aTb := aTb_1 335 rfl rfl
set_option maxRecDepth 20000 in
theorem aQc_78 : aQc 78 ∈ aTb := aTb_1 348 rfl rfl
set_option maxRecDepth 20000 in
theorem aQc_79 : aQc 79 ∈ aTb := aTb_1 379 rfl rfl
set_option maxRecDepth 20000 in
theorem aQc_80 : aQc 80 ∈ aTb := aTb_1 383 rfl rfl
set_option maxRecDepth 20000 in
theorem aQc_81 : aQc 81 ∈ aTb := aTb_1 397 rfl rfl
set_option maxRecDepth 20000 in
theorem aQc_82 : aQc 82 ∈ aTb := aTb_1 474 rfl rfl
set_option maxRecDepth 20000 in
theorem aQc_83 : aQc 83 ∈ aTb := aTb_1 480 rfl rfl
set_option maxRecDepth 20000 in
theorem aQc_84 : aQc 84 ∈ aTb := aTb_1 490 rfl rfl
set_option maxRecDepth 20000 in
theorem aQc_85 : aQc 85 ∈ aTb := aTb_1 494 rfl rfl
set_option maxRecDepth 20000 in
theorem aQc_86 : aQc 86 ∈ aTb := aTb_1 498 rfl rfl
set_option maxRecDepth 20000 in
theorem aQc_87 : aQc 87 ∈ aTb := aTb_1 507 rfl rfl
set_option maxRecDepth 20000 in
theorem aQc_88 : aQc 88 ∈ aTb := aTb_1 511 rfl rfl
set_option maxRecDepth 20000 in
theorem aQc_89 : aQc 89 ∈ aTb := aTb_1 520 rfl rfl
set_option maxRecDepth 20000 in
theorem aQc_90 : aQc 90 ∈ aTb := aTb_1 542 rfl rfl
set_option maxRecDepth 20000 in
theorem aQc_91 : aQc 91 ∈ aTb := aTb_1 554 rfl rfl
set_option maxRecDepth 20000 in
theorem aQc_92 : aQc 92 ∈ aTb := aTb_1 572 rfl rfl
set_option maxRecDepth 20000 in
theorem aQc_93 : aQc 93 ∈ aTb := aTb_1 576 rfl rfl
set_option maxRecDepth 20000 in
theorem aQc_94 : aQc 94 ∈ aTb := aTb_1 582 rfl rfl
set_option maxRecDepth 20000 in
theorem aQc_95 : aQc 95 ∈ aTb := aTb_1 590 rfl rfl
set_option maxRecDepth 20000 in
theorem aQc_96 : aQc 96 ∈ aTb := aTb_1 594 rfl rfl
set_option maxRecDepth 20000 in
theorem aQc_97 : aQc 97 ∈ aTb := aTb_1 604 rfl rfl
set_option maxRecDepth 20000 in
theorem aQc_98 : aQc 98 ∈ aTb := aTb_1 620 rfl rfl
set_option maxRecDepth 20000 in
theorem aQc_99 : aQc 99 ∈ aTb := aTb_1 652 rfl rfl
set_option maxRecDepth 20000 in
theorem aQc_100 : aQc 100 ∈ aTb := aTb_1 660 rfl rfl
set_option maxRecDepth 20000 in
theorem aQc_101 : aQc 101 ∈ aTb := aTb_1 671 rfl rfl
set_option maxRecDepth 20000 in
theorem aQc_102 : aQc 102 ∈ aTb := aTb_1 696 rfl rfl
set_option maxRecDepth 20000 in
theorem aQc_103 : aQc 103 ∈ aTb := aTb_1 704 rfl rfl
set_option maxRecDepth 20000 in
theorem aQc_104 : aQc 104 ∈ aTb := aTb_1 713 rfl rfl
set_option maxRecDepth 20000 in
theorem aQc_105 : aQc 105 ∈ aTb := aTb_1 717 rfl rfl
set_option maxRecDepth 20000 in
theorem aQc_106 : aQc 106 ∈ aTb := aTb_1 931 rfl rfl
set_option maxRecDepth 20000 in
theorem aQc_107 : aQc 107 ∈ aTb := aTb_1 935 rfl rfl
set_option maxRecDepth 20000 in
theorem aQc_108 : aQc 108 ∈ aTb := aTb_1 939 rfl rfl
set_option maxRecDepth 20000 in
theorem aQc_109 : aQc 109 ∈ aTb := aTb_1 948 rfl rfl
set_option maxRecDepth 20000 in
theorem aQc_110 : aQc 110 ∈ aTb := aTb_1 956 rfl rfl
set_option maxRecDepth 20000 in
theorem aQc_111 : aQc 111 ∈ aTb := aTb_1 962 rfl rfl
set_option maxRecDepth 20000 in
theorem aQc_112 : aQc 112 ∈ aTb := aTb_1 966 rfl rfl
set_option maxRecDepth 20000 in
theorem aQc_113 : aQc 113 ∈ aTb := aTb_1 975 rfl rfl
set_option maxRecDepth 20000 in
theorem aQc_114 : aQc 114 ∈ aTb := aTb_1 987 rfl rfl
set_option maxRecDepth 20000 in
theorem aQc_115 : aQc 115 ∈ aTb := aTb_1 991 rfl rfl
set_option maxRecDepth 20000 in
theorem aQc_116 : aQc 116 ∈ aTb := aTb_1 995 rfl rfl
set_option maxRecDepth 20000 in
theorem aQc_117 : aQc 117 ∈ aTb := aTb_1 999 rfl rfl
set_option maxRecDepth 20000 in
theorem aQc_118 : aQc 118 ∈ aTb := aTb_1 1003 rfl rfl
set_option maxRecDepth 20000 in
theorem aQc_119 : aQc 119 ∈ aTb := aTb_1 1007 rfl rfl
set_option maxRecDepth 20000 in
theorem aQc_120 : aQc 120 ∈ aTb := aTb_1 1011 rfl rfl
set_option maxRecDepth 20000 in
theorem aQc_121 : aQc 121 ∈ aTb := aTb_1 1015 rfl rfl
set_option maxRecDepth 20000 in
theorem aQc_122 : aQc 122 ∈ aTb := aTb_1 352 rfl rfl
set_option maxRecDepth 20000 in
theorem aQc_123 : aQc 123 ∈ aTb := aTb_1 401 rfl rfl
set_option maxRecDepth 20000 in
theorem aQc_124 : aQc 124 ∈ aTb := aTb_1 389 rfl rfl
set_option maxRecDepth 20000 in
theorem aQc_125 : aQc 125 ∈ aTb := aTb_1 338 rfl rfl
set_option maxRecDepth 20000 in
theorem aQc_126 : aQc 126 ∈ aTb := aTb_1 386 rfl rfl
set_option maxRecDepth 20000 in
theorem aQc_127 : aQc 127 ∈ aTb := aTb_1 674 rfl rfl
set_option maxRecDepth 20000 in
theorem aQc_128 : aQc 128 ∈ aTb := aTb_1 978 rfl rfl
set_option maxRecDepth 20000 in
theorem aQc_129 : aQc 129 ∈ aTb := aTb_1 375 rfl rfl
set_option maxRecDepth 20000 in
theorem aQc_130 : aQc 130 ∈ aTb := aTb_1 461 rfl rfl
set_option maxRecDepth 20000 in
theorem aQc_131 : aQc 131 ∈ aTb := aTb_1 483 rfl rfl
set_option maxRecDepth 20000 in
theorem aQc_132 : aQc 132 ∈ aTb := aTb_1 470 rfl rfl
set_option maxRecDepth 20000 in
theorem aQc_133 : aQc 133 ∈ aTb := aTb_1 405 rfl rfl
set_option maxRecDepth 20000 in
theorem aQc_134 : aQc 134 ∈ aTb := aTb_1 1020 rfl rfl
set_option maxRecDepth 20000 in
theorem aQc_135 : aQc 135 ∈ aTb := aTb_1 1130 rfl rfl
set_option maxRecDepth 20000 in
theorem aQc_136 : aQc 136 ∈ aTb := aTb_1 1251 rfl rfl
set_option maxRecDepth 20000 in
theorem aQc_137 : aQc 137 ∈ aTb := aTb_1 1525 rfl rfl
set_option maxRecDepth 20000 in
theorem aQc_138 : aQc 138 ∈ aTb := aTb_1 1254 rfl rfl
set_option maxRecDepth 20000 in
theorem aQc_139 : aQc 139 ∈ aTb := aTb_1 1144 rfl rfl
set_option maxRecDepth 20000 in
theorem aQc_140 : aQc 140 ∈ aTb := aTb_1 1185 rfl rfl
set_option maxRecDepth 20000 in
theorem aQc_141 : aQc 141 ∈ aTb := aTb_1 1177 rfl rfl
set_option maxRecDepth 20000 in
theorem aQc_142 : aQc 142 ∈ aTb := aTb_1 1170 rfl rfl
set_option maxRecDepth 20000 in
theorem aQc_143 : aQc 143 ∈ aTb := aTb_1 1225 rfl rfl
set_option maxRecDepth 20000 in
theorem aQc_144 : aQc 144 ∈ aTb := aTb_1 1152 rfl rfl
set_option maxRecDepth 20000 in
theorem aQc_145 : aQc 145 ∈ aTb := aTb_1 1222 rfl rfl
set_option maxRecDepth 20000 in
theorem aQc_146 : aQc 146 ∈ aTb := aTb_1 1214 rfl rfl
set_option maxRecDepth 20000 in
theorem aQc_147 : aQc 147 ∈ aTb := aTb_1 1148 rfl rfl
set_option maxRecDepth 20000 in
theorem aQc_148 : aQc 148 ∈ aTb := aTb_1 1162 rfl rfl
set_option maxRecDepth 20000 in
theorem aQc_149 : aQc 149 ∈ aTb := aTb_1 1158 rfl rfl
set_option maxRecDepth 20000 in
theorem aQc_150 : aQc 150 ∈ aTb := aTb_1 1136 rfl rfl
set_option maxRecDepth 20000 in
theorem aQc_151 : aQc 151 ∈ aTb := aTb_1 1127 rfl rfl
set_option maxRecDepth 20000 in
theorem aQc_152 : aQc 152 ∈ aTb := aTb_1 1140 rfl rfl
set_option maxRecDepth 20000 in
theorem aQc_153 : aQc 153 ∈ aTb := aTb_1 1166 rfl rfl
set_option maxRecDepth 20000 in
theorem aQc_154 : aQc 154 ∈ aTb := aTb_1 1174 rfl rfl
set_option maxRecDepth 20000 in
theorem aQc_155 : aQc 155 ∈ aTb := aTb_1 1197 rfl rfl
set_option maxRecDepth 20000 in
theorem aQc_156 : aQc 156 ∈ aTb := aTb_1 1193 rfl rfl
set_option maxRecDepth 20000 in
theorem aQc_157 : aQc 157 ∈ aTb := aTb_1 1210 rfl rfl
set_option maxRecDepth 20000 in
theorem aQc_158 : aQc 158 ∈ aTb := aTb_1 1218 rfl rfl
set_option maxRecDepth 20000 in
theorem aQc_159 : aQc 159 ∈ aTb := aTb_1 1233 rfl rfl
set_option maxRecDepth 20000 in
theorem aQc_160 : aQc 160 ∈ aTb := aTb_1 1229 rfl rfl
set_option maxRecDepth 20000 in
theorem aQc_161 : aQc 161 ∈ aTb := aTb_1 1237 rfl rfl
set_option maxRecDepth 20000 in
theorem aQc_162 : aQc 162 ∈ aTb := aTb_1 1206 rfl rfl
set_option maxRecDepth 20000 in
theorem aQc_163 : aQc 163 ∈ aTb := aTb_1 1202 rfl rfl
set_option maxRecDepth 20000 in
theorem aQc_164 : aQc 164 ∈ aTb := aTb_1 1189 rfl rfl
set_option maxRecDepth 20000 in
theorem aQc_165 : aQc 165 ∈ aTb := aTb_1 1181 rfl rfl
set_option maxRecDepth 20000 in
theorem aQc_166 : aQc 166 ∈ aTb := aTb_1 1258 rfl rfl
set_option maxRecDepth 20000 in
theorem aQc_167 : aQc 167 ∈ aTb := aTb_1 1265 rfl rfl
set_option maxRecDepth 20000 in
theorem aQc_168 : aQc 168 ∈ aTb := aTb_1 1262 rfl rfl
set_option maxRecDepth 20000 in
theorem aQc_169 : aQc 169 ∈ aTb := aTb_1 1270 rfl rfl
set_option maxRecDepth 20000 in
theorem aQc_170 : aQc 170 ∈ aTb := aTb_1 1274 rfl rfl
set_option maxRecDepth 20000 in
theorem aQc_171 : aQc 171 ∈ aTb := aTb_1 1282 rfl rfl
set_option maxRecDepth 20000 in
theorem aQc_172 : aQc 172 ∈ aTb := aTb_1 1278 rfl rfl
set_option maxRecDepth 20000 in
theorem aQc_173 : aQc 173 ∈ aTb := aTb_1 1287 rfl rfl
set_option maxRecDepth 20000 in
theorem aQc_174 : aQc 174 ∈ aTb := aTb_1 1295 rfl rfl
set_option maxRecDepth 20000 in
theorem aQc_175 : aQc 175 ∈ aTb := aTb_1 1291 rfl rfl
set_option maxRecDepth 20000 in
theorem aQc_176 : aQc 176 ∈ aTb := aTb_1 1303 rfl rfl
set_option maxRecDepth 20000 in
theorem aQc_177 : aQc 177 ∈ aTb := aTb_1 1307 rfl rfl
set_option maxRecDepth 20000 in
theorem aQc_178 : aQc 178 ∈ aTb := aTb_1 1312 rfl rfl
set_option maxRecDepth 20000 in
theorem aQc_179 : aQc 179 ∈ aTb := aTb_1 1299 rfl rfl
set_option maxRecDepth 20000 in
theorem aQc_180 : aQc 180 ∈ aTb := aTb_1 1320 rfl rfl
set_option maxRecDepth 20000 in
theorem aQc_181 : aQc 181 ∈ aTb := aTb_1 1316 rfl rfl
set_option maxRecDepth 20000 in
theorem aQc_182 : aQc 182 ∈ aTb := aTb_1 1332 rfl rfl
set_option maxRecDepth 20000 in
theorem aQc_183 : aQc 183 ∈ aTb := aTb_1 1328 rfl rfl
set_option maxRecDepth 20000 in
theorem aQc_184 : aQc 184 ∈ aTb := aTb_1 1324 rfl rfl
set_option maxRecDepth 20000 in
theorem aQc_185 : aQc 185 ∈ aTb := aTb_1 1336 rfl rfl
set_option maxRecDepth 20000 in
theorem aQc_186 : aQc 186 ∈ aTb := aTb_1 1340 rfl rfl
set_option maxRecDepth 20000 in
theorem aQc_187 : aQc 187 ∈ aTb := aTb_1 1348 rfl rfl
set_option maxRecDepth 20000 in
theorem aQc_188 : aQc 188 ∈ aTb := aTb_1 1344 rfl rfl
set_option maxRecDepth 20000 in
theorem aQc_189 : aQc 189 ∈ aTb := aTb_1 1352 rfl rfl
set_option maxRecDepth 20000 in
theorem aQc_190 : aQc 190 ∈ aTb := aTb_1 1356 rfl rfl
set_option maxRecDepth 20000 in
theorem aQc_191 : aQc 191 ∈ aTb := aTb_1 1364 rfl rfl
set_option maxRecDepth 20000 in
theorem aQc_192 : aQc 192 ∈ aTb := aTb_1 1360 rfl rfl
set_option maxRecDepth 20000 in
theorem aQc_193 : aQc 193 ∈ aTb := aTb_1 1376 rfl rfl
set_option maxRecDepth 20000 in
theorem aQc_194 : aQc 194 ∈ aTb := aTb_1 1372 rfl rfl
set_option maxRecDepth 20000 in
theorem aQc_195 : aQc 195 ∈ aTb := aTb_1 1368 rfl rfl
set_option maxRecDepth 20000 in
theorem aQc_196 : aQc 196 ∈ aTb := aTb_1 1380 rfl rfl
set_option maxRecDepth 20000 in
theorem aQc_197 : aQc 197 ∈ aTb := aTb_1 1388 rfl rfl
set_option maxRecDepth 20000 in
theorem aQc_198 : aQc 198 ∈ aTb := aTb_1 1392 rfl rfl
set_option maxRecDepth 20000 in
theorem aQc_199 : aQc 199 ∈ aTb := aTb_1 1384 rfl rfl
set_option maxRecDepth 20000 in
theorem aQc_200 : aQc 200 ∈ aTb := aTb_1 1404 rfl rfl
set_option maxRecDepth 20000 in
theorem aQc_201 : aQc 201 ∈ aTb := aTb_1 1396 rfl rfl
set_option maxRecDepth 20000 in
theorem aQc_202 : aQc 202 ∈ aTb := aTb_1 1408 rfl rfl
set_option maxRecDepth 20000 in
theorem aQc_203 : aQc 203 ∈ aTb := aTb_1 1412 rfl rfl
set_option maxRecDepth 20000 in
theorem aQc_204 : aQc 204 ∈ aTb := aTb_1 1416 rfl rfl
set_option maxRecDepth 20000 in
theorem aQc_205 : aQc 205 ∈ aTb := aTb_1 1428 rfl rfl
set_option maxRecDepth 20000 in
theorem aQc_206 : aQc 206 ∈ aTb := aTb_1 1432 rfl rfl
set_option maxRecDepth 20000 in
theorem aQc_207 : aQc 207 ∈ aTb := aTb_1 1424 rfl rfl
set_option maxRecDepth 20000 in
theorem aQc_208 : aQc 208 ∈ aTb := aTb_1 1436 rfl rfl
set_option maxRecDepth 20000 in
theorem aQc_209 : aQc 209 ∈ aTb := aTb_1 1448 rfl rfl
set_option maxRecDepth 20000 in
theorem aQc_210 : aQc 210 ∈ aTb := aTb_1 1455 rfl rfl
set_option maxRecDepth 20000 in
theorem aQc_211 : aQc 211 ∈ aTb := aTb_1 1452 rfl rfl
set_option maxRecDepth 20000 in
theorem aQc_212 : aQc 212 ∈ aTb := aTb_1 1463 rfl rfl
set_option maxRecDepth 20000 in
theorem aQc_213 : aQc 213 ∈ aTb := aTb_1 1444 rfl rfl
set_option maxRecDepth 20000 in
theorem aQc_214 : aQc 214 ∈ aTb := aTb_1 1440 rfl rfl
set_option maxRecDepth 20000 in
theorem aQc_215 : aQc 215 ∈ aTb := aTb_1 1459 rfl rfl
set_option maxRecDepth 20000 in
theorem aQc_216 : aQc 216 ∈ aTb := aTb_1 1420 rfl rfl
set_option maxRecDepth 20000 in
theorem aQc_217 : aQc 217 ∈ aTb := aTb_1 1467 rfl rfl
set_option maxRecDepth 20000 in
theorem aQc_218 : aQc 218 ∈ aTb := aTb_1 1241 rfl rfl
set_option maxRecDepth 20000 in
theorem aQc_219 : aQc 219 ∈ aTb := aTb_1 1471 rfl rfl
set_option maxRecDepth 20000 in
theorem aQc_220 : aQc 220 ∈ aTb := aTb_1 1248 rfl rfl
set_option maxRecDepth 20000 in
theorem aQc_221 : aQc 221 ∈ aTb := aTb_1 1245 rfl rfl
set_option maxRecDepth 20000 in
theorem aQc_222 : aQc 222 ∈ aTb := aTb_1 1399 rfl rfl
set_option maxRecDepth 20000 in
theorem aQc_223 : aQc 223 ∈ aTb := aTb_1 1502 rfl rfl
set_option maxRecDepth 20000 in
theorem aQc_224 : aQc 224 ∈ aTb := aTb_1 1475 rfl rfl
set_option maxRecDepth 20000 in
theorem aQc_225 : aQc 225 ∈ aTb := aTb_1 1480 rfl rfl
set_option maxRecDepth 20000 in
theorem aQc_226 : aQc 226 ∈ aTb := aTb_1 1487 rfl rfl
set_option maxRecDepth 20000 in
theorem aQc_227 : aQc 227 ∈ aTb := aTb_1 1491 rfl rfl
set_option maxRecDepth 20000 in
theorem aQc_228 : aQc 228 ∈ aTb := aTb_1 1495 rfl rfl
set_option maxRecDepth 20000 in
theorem aQc_229 : aQc 229 ∈ aTb := aTb_1 1499 rfl rfl
set_option maxRecDepth 20000 in
theorem aQc_230 : aQc 230 ∈ aTb := aTb_1 1506 rfl rfl
set_option maxRecDepth 20000 in
theorem aQc_231 : aQc 231 ∈ aTb := aTb_1 1510 rfl rfl
set_option maxRecDepth 20000 in
theorem aQc_232 : aQc 232 ∈ aTb := aTb_1 1514 rfl rfl
set_option maxRecDepth 20000 in
theorem aQc_233 : aQc 233 ∈ aTb := aTb_1 1518 rfl rfl
set_option maxRecDepth 20000 in
theorem aQc_234 : aQc 234 ∈ aTb := aTb_1 1522 rfl rfl
set_option maxRecDepth 20000 in
theorem aQc_235 : aQc 235 ∈ aTb := aTb_1 1529 rfl rfl
set_option maxRecDepth 20000 in
theorem aQc_236 : aQc 236 ∈ aTb := aTb_1 1533 rfl rfl
set_option maxRecDepth 20000 in
theorem aQc_237 : aQc 237 ∈ aTb := aTb_1 1537 rfl rfl
set_option maxRecDepth 20000 in
theorem aQc_238 : aQc 238 ∈ aTb := aTb_1 742 rfl rfl
set_option maxRecDepth 20000 in
theorem aQc_239 : aQc 239 ∈ aTb := aTb_1 752 rfl rfl
set_option maxRecDepth 20000 in
theorem aQc_240 : aQc 240 ∈ aTb := aTb_1 835 rfl rfl
set_option maxRecDepth 20000 in
theorem aQc_241 : aQc 241 ∈ aTb := aTb_1 839 rfl rfl
set_option maxRecDepth 20000 in
theorem aQc_242 : aQc 242 ∈ aTb := aTb_1 746 rfl rfl
set_option maxRecDepth 20000 in
theorem aQc_243 : aQc 243 ∈ aTb := aTb_1 756 rfl rfl
set_option maxRecDepth 20000 in
theorem aQc_244 : aQc 244 ∈ aTb := aTb_1 762 rfl rfl
set_option maxRecDepth 20000 in
theorem aQc_245 : aQc 245 ∈ aTb := aTb_1 759 rfl rfl
set_option maxRecDepth 20000 in
theorem aQc_246 : aQc 246 ∈ aTb := aTb_1 846 rfl rfl
set_option maxRecDepth 20000 in
theorem aQc_247 : aQc 247 ∈ aTb := aTb_1 843 rfl rfl
set_option maxRecDepth 20000 in
theorem aQc_248 : aQc 248 ∈ aTb := aTb_1 851 rfl rfl
set_option maxRecDepth 20000 in
theorem aQc_249 : aQc 249 ∈ aTb := aTb_1 767 rfl rfl
set_option maxRecDepth 20000 in
theorem aQc_250 : aQc 250 ∈ aTb := aTb_1 433 rfl rfl
theorem aQc_w (m : Nat) (hm : m < 251) : aQc m ∈ aTb := by
  by_cases h0 : m < 32
  · rcases (show m = 0 ∨ m = 1 ∨ m = 2 ∨ m = 3 ∨ m = 4 ∨ m = 5 ∨ m = 6 ∨ m = 7 ∨ m = 8 ∨ m = 9 ∨ m = 10 ∨ m = 11 ∨ m = 12 ∨ m = 13 ∨ m = 14 ∨ m = 15 ∨ m = 16 ∨ m = 17 ∨ m = 18 ∨ m = 19 ∨ m = 20 ∨ m = 21 ∨ m = 22 ∨ m = 23 ∨ m = 24 ∨ m = 25 ∨ m = 26 ∨ m = 27 ∨ m = 28 ∨ m = 29 ∨ m = 30 ∨ m = 31 by omega) with rfl | rfl | rfl | rfl | rfl | rfl | rfl | rfl | rfl | rfl | rfl | rfl | rfl | rfl | rfl | rfl | rfl | rfl | rfl | rfl | rfl | rfl | rfl | rfl | rfl | rfl | rfl | rfl | rfl | rfl | rfl | rfl
    · exact aQc_0
    · exact aQc_1
    · exact aQc_2
    · exact aQc_3
    · exact aQc_4
    · exact aQc_5
    · exact aQc_6
    · exact aQc_7
    · exact aQc_8
    · exact aQc_9
    · exact aQc_10
    · exact aQc_11
    · exact aQc_12
    · exact aQc_13
    · exact aQc_14
    · exact aQc_15
    · exact aQc_16
    · exact aQc_17
    · exact aQc_18
    · exact aQc_19
    · exact aQc_20
    · exact aQc_21
    · exact aQc_22
    · exact aQc_23
    · exact aQc_24
    · exact aQc_25
    · exact aQc_26
    · exact aQc_27
    · exact aQc_28
    · exact aQc_29
    · exact aQc_30
    · exact aQc_31
  by_cases h32 : m < 64
  · rcases (show m = 32 ∨ m = 33 ∨ m = 34 ∨ m = 35 ∨ m = 36 ∨ m = 37 ∨ m = 38 ∨ m = 39 ∨ m = 40 ∨ m = 41 ∨ m = 42 ∨ m = 43 ∨ m = 44 ∨ m = 45 ∨ m = 46 ∨ m = 47 ∨ m = 48 ∨ m = 49 ∨ m = 50 ∨ m = 51 ∨ m = 52 ∨ m = 53 ∨ m = 54 ∨ m = 55 ∨ m = 56 ∨ m = 57 ∨ m = 58 ∨ m = 59 ∨ m = 60 ∨ m = 61 ∨ m = 62 ∨ m = 63 by omega) with rfl | rfl | rfl | rfl | rfl | rfl | rfl | rfl | rfl | rfl | rfl | rfl | rfl | rfl | rfl | rfl | rfl | rfl | rfl | rfl | rfl | rfl | rfl | rfl | rfl | rfl | rfl | rfl | rfl | rfl | rfl | rfl
    · exact aQc_32
    · exact aQc_33
    · exact aQc_34
    · exact aQc_35
    · exact aQc_36
    · exact aQc_37
    · exact aQc_38
    · exact aQc_39
    · exact aQc_40
    · exact aQc_41
    · exact aQc_42
    · exact aQc_43
    · exact aQc_44
    · exact aQc_45
    · exact aQc_46
    · exact aQc_47
    · exact aQc_48
    · exact aQc_49
    · exact aQc_50
    · exact aQc_51
    · exact aQc_52
    · exact aQc_53
    · exact aQc_54
    · exact aQc_55
    · exact aQc_56
    · exact aQc_57
    · exact aQc_58
    · exact aQc_59
    · exact aQc_60
    · exact aQc_61
    · exact aQc_62
    · exact aQc_63
  by_cases h64 : m < 96
  · rcases (show m = 64 ∨ m = 65 ∨ m = 66 ∨ m = 67 ∨ m = 68 ∨ m = 69 ∨ m = 70 ∨ m = 71 ∨ m = 72 ∨ m = 73 ∨ m = 74 ∨ m = 75 ∨ m = 76 ∨ m = 77 ∨ m = 78 ∨ m = 79 ∨ m = 80 ∨ m = 81 ∨ m = 82 ∨ m = 83 ∨ m = 84 ∨ m = 85 ∨ m = 86 ∨ m = 87 ∨ m = 88 ∨ m = 89 ∨ m = 90 ∨ m = 91 ∨ m = 92 ∨ m = 93 ∨ m = 94 ∨ m = 95 by omega) with rfl | rfl | rfl | rfl | rfl | rfl | rfl | rfl | rfl | rfl | rfl | rfl | rfl | rfl | rfl | rfl | rfl | rfl | rfl | rfl | rfl | rfl | rfl | rfl | rfl | rfl | rfl | rfl | rfl | rfl | rfl | rfl
    · exact aQc_64
    · exact aQc_65
    · exact aQc_66
    · exact aQc_67
    · exact aQc_68
    · exact aQc_69
    · exact aQc_70
    · exact aQc_71
    · exact aQc_72
    · exact aQc_73
    · exact aQc_74
    · exact aQc_75
    · exact aQc_76
    · exact aQc_77
    · exact aQc_78
    · exact aQc_79
    · exact aQc_80
    · exact aQc_81
    · exact aQc_82
    · exact aQc_83
    · exact aQc_84
    · exact aQc_85
    · exact aQc_86
    · exact aQc_87
    · exact aQc_88
    · exact aQc_89
    · exact aQc_90
    · exact aQc_91
    · exact aQc_92
    · exact aQc_93
    · exact aQc_94
    · exact aQc_95
  by_cases h96 : m < 128
  · rcases (show m = 96 ∨ m = 97 ∨ m = 98 ∨ m = 99 ∨ m = 100 ∨ m = 101 ∨ m = 102 ∨ m = 103 ∨ m = 104 ∨ m = 105 ∨ m = 106 ∨ m = 107 ∨ m = 108 ∨ m = 109 ∨ m = 110 ∨ m = 111 ∨ m = 112 ∨ m = 113 ∨ m = 114 ∨ m = 115 ∨ m = 116 ∨ m = 117 ∨ m = 118 ∨ m = 119 ∨ m = 120 ∨ m = 121 ∨ m = 122 ∨ m = 123 ∨ m = 124 ∨ m = 125 ∨ m = 126 ∨ m = 127 by omega) with rfl | rfl | rfl | rfl | rfl | rfl | rfl | rfl | rfl | rfl | rfl | rfl | rfl | rfl | rfl | rfl | rfl | rfl | rfl | rfl | rfl | rfl | rfl | rfl | rfl | rfl | rfl | rfl | rfl | rfl | rfl | rfl
    · exact aQc_96
    · exact aQc_97
    · exact aQc_98
    · exact aQc_99
    · exact aQc_100
    · exact aQc_101
    · exact aQc_102
    · exact aQc_103
    · exact aQc_104
    · exact aQc_105
    · exact aQc_106
    · exact aQc_107
    · exact aQc_108
    · exact aQc_109
    · exact aQc_110
    · exact aQc_111
    · exact aQc_112
    · exact aQc_113
    · exact aQc_114
    · exact aQc_115
    · exact aQc_116
    · exact aQc_117
    · exact aQc_118
    · exact aQc_119
    · exact aQc_120
    · exact aQc_121
    · exact aQc_122
    · exact aQc_123
    · exact aQc_124
    · exact aQc_125
    · exact aQc_126
    · exact aQc_127
  by_cases h128 : m < 160
  · rcases (show m = 128 ∨ m = 129 ∨ m = 130 ∨ m = 131 ∨ m = 132 ∨ m = 133 ∨ m = 134 ∨ m = 135 ∨ m = 136 ∨ m = 137 ∨ m = 138 ∨ m = 139 ∨ m = 140 ∨ m = 141 ∨ m = 142 ∨ m = 143 ∨ m = 144 ∨ m = 145 ∨ m = 146 ∨ m = 147 ∨ m = 148 ∨ m = 149 ∨ m = 150 ∨ m = 151 ∨ m = 152 ∨ m = 153 ∨ m = 154 ∨ m = 155 ∨ m = 156 ∨ m = 157 ∨ m = 158 ∨ m = 159 by omega) with rfl | rfl | rfl | rfl | rfl | rfl | rfl | rfl | rfl | rfl | rfl | rfl | rfl | rfl | rfl | rfl | rfl | rfl | rfl | rfl | rfl | rfl | rfl | rfl | rfl | rfl | rfl | rfl | rfl | rfl | rfl | rfl
    · exact aQc_128
    · exact aQc_129
    · exact aQc_130
    · exact aQc_131
    · exact aQc_132
    · exact aQc_133
    · exact aQc_134
    · exact aQc_135
    · exact aQc_136
    · exact aQc_137
    · exact aQc_138
    · exact aQc_139
    · exact aQc_140
    · exact aQc_141
    · exact aQc_142
    · exact aQc_143
    · exact aQc_144
    · exact aQc_145
    · exact aQc_146
    · exact aQc_147
    · exact aQc_148
    · exact aQc_149
    · exact aQc_150
    · exact aQc_151
    · exact aQc_152
    · exact aQc_153
    · exact aQc_154
    · exact aQc_155
    · exact aQc_156
    · exact aQc_157
    · exact aQc_158
    · exact aQc_159
  by_cases h160 : m < 192
  · rcases (show m = 160 ∨ m = 161 ∨ m = 162 ∨ m = 163 ∨ m = 164 ∨ m = 165 ∨ m = 166 ∨ m = 167 ∨ m = 168 ∨ m = 169 ∨ m = 170 ∨ m = 171 ∨ m = 172 ∨ m = 173 ∨ m = 174 ∨ m = 175 ∨ m = 176 ∨ m = 177 ∨ m = 178 ∨ m = 179 ∨ m = 180 ∨ m = 181 ∨ m = 182 ∨ m = 183 ∨ m = 184 ∨ m = 185 ∨ m = 186 ∨ m = 187 ∨ m = 188 ∨ m = 189 ∨ m = 190 ∨ m = 191 by omega) with rfl | rfl | rfl | rfl | rfl | rfl | rfl | rfl | rfl | rfl | rfl | rfl | rfl | rfl | rfl | rfl | rfl | rfl | rfl | rfl | rfl | rfl | rfl | rfl | rfl | rfl | rfl | rfl | rfl | rfl | rfl | rfl
    · exact aQc_160
    · exact aQc_161
    · exact aQc_162
    · exact aQc_163
    · exact aQc_164
    · exact aQc_165
    · exact aQc_166
    · exact aQc_167
    · exact aQc_168
    · exact aQc_169
    · exact aQc_170
    · exact aQc_171
    · exact aQc_172
    · exact aQc_173
    · exact aQc_174
    · exact aQc_175
    · exact aQc_176
    · exact aQc_177
    · exact aQc_178
    · exact aQc_179
    · exact aQc_180
    · exact aQc_181
    · exact aQc_182
    · exact aQc_183
    · exact aQc_184
    · exact aQc_185
    · exact aQc_186
    · exact aQc_187
    · exact aQc_188
    · exact aQc_189
    · exact aQc_190
    · exact aQc_191
  by_cases h192 : m < 224
  · rcases (show m = 192 ∨ m = 193 ∨ m = 194 ∨ m = 195 ∨ m = 196 ∨ m = 197 ∨ m = 198 ∨ m = 199 ∨ m = 200 ∨ m = 201 ∨ m = 202 ∨ m = 203 ∨ m = 204 ∨ m = 205 ∨ m = 206 ∨ m = 207 ∨ m = 208 ∨ m = 209 ∨ m = 210 ∨ m = 211 ∨ m = 212 ∨ m = 213 ∨ m = 214 ∨ m = 215 ∨ m = 216 ∨ m = 217 ∨ m = 218 ∨ m = 219 ∨ m = 220 ∨ m = 221 ∨ m = 222 ∨ m = 223 by omega) with rfl | rfl | rfl | rfl | rfl | rfl | rfl | rfl | rfl | rfl | rfl | rfl | rfl | rfl | rfl | rfl | rfl | rfl | rfl | rfl | rfl | rfl | rfl | rfl | rfl | rfl | rfl | rfl | rfl | rfl | rfl | rfl
    · exact aQc_192
    · exact aQc_193
    · exact aQc_194
    · exact aQc_195
    · exact aQc_196
    · exact aQc_197
    · exact aQc_198
    · exact aQc_199
    · exact aQc_200
    · exact aQc_201
    · exact aQc_202
    · exact aQc_203
    · exact aQc_204
    · exact aQc_205
    · exact aQc_206
    · exact aQc_207
    · exact aQc_208
    · exact aQc_209
    · exact aQc_210
    · exact aQc_211
    · exact aQc_212
    · exact aQc_213
    · exact aQc_214
    · exact aQc_215
    · exact aQc_216
    · exact aQc_217
    · exact aQc_218
    · exact aQc_219
    · exact aQc_220
    · exact aQc_221
    · exact aQc_222
    · exact aQc_223
  by_cases h224 : m < 251
  · rcases (show m = 224 ∨ m = 225 ∨ m = 226 ∨ m = 227 ∨ m = 228 ∨ m = 229 ∨ m = 230 ∨ m = 231 ∨ m = 232 ∨ m = 233 ∨ m = 234 ∨ m = 235 ∨ m = 236 ∨ m = 237 ∨ m = 238 ∨ m = 239 ∨ m = 240 ∨ m = 241 ∨ m = 242 ∨ m = 243 ∨ m = 244 ∨ m = 245 ∨ m = 246 ∨ m = 247 ∨ m = 248 ∨ m = 249 ∨ m = 250 by omega) with rfl | rfl | rfl | rfl | rfl | rfl | rfl | rfl | rfl | rfl | rfl | rfl | rfl | rfl | rfl | rfl | rfl | rfl | rfl | rfl | rfl | rfl | rfl | rfl | rfl | rfl | rfl
    · exact aQc_224
    · exact aQc_225
    · exact aQc_226
    · exact aQc_227
    · exact aQc_228
    · exact aQc_229
    · exact aQc_230
    · exact aQc_231
    · exact aQc_232
    · exact aQc_233
    · exact aQc_234
    · exact aQc_235
    · exact aQc_236
    · exact aQc_237
    · exact aQc_238
    · exact aQc_239
    · exact aQc_240
    · exact aQc_241
    · exact aQc_242
    · exact aQc_243
    · exact aQc_244
    · exact aQc_245
    · exact aQc_246
    · exact aQc_247
    · exact aQc_248
    · exact aQc_249
    · exact aQc_250
  omega
theorem aK_w : ∀ w ∈ aKl.map (fun e => Cond.constant (aCs e.1.1) e.1.2 e.2), w ∈ aTb := aTb_of [692, 344, 503, 600, 191, 339, 486, 538, 406, 679, 705, 944, 950, 951, 952, 1198, 1131, 1132, 1266, 1283, 1308, 1400, 1476, 1481, 1482, 1483, 434, 435, 436] (by decide +kernel) (by decide +kernel)
theorem aN_w : ∀ w ∈ aNl.flatMap (fun e => [Cond.classLink (aCs e.1.1) e.1.2 (aCs e.2), Cond.instantiable (aCs e.2) (aNf e.2), Cond.initialized (aCs e.2)]), w ∈ aTb := aTb_of [278, 253, 84, 903, 904, 88, 104, 105, 81, 185, 186, 82, 208, 209, 83, 204, 253, 84, 206, 273, 85, 96, 97, 80, 1016, 1017, 86] (by decide +kernel) (by decide +kernel)
theorem aN_ok : ∀ e ∈ aNl, e.2 < 8 := by decide +kernel
def aEl (k : Nat) : String := aCs (aOfK k)
theorem aA_w : ∀ w ∈ aAl.map (fun e => Cond.classLink (aCs e.1.1) e.1.2 (aEl e.2)), w ∈ aTb := aTb_of [110, 204, 206] (by decide +kernel) (by decide +kernel)
theorem aA_ok : ∀ e ∈ aAl, 11 ≤ e.2 ∧ e.2 ≤ 13 := by decide +kernel
theorem aR_w : ∀ w ∈ [Cond.arrayClass .char, Cond.arrayClass .int, Cond.arrayClass .boolean], w ∈ aTb := aTb_of [1122, 184, 1123] (by decide +kernel) (by decide +kernel)
/-- statics: (class, name, descriptor) of each entry of aGl, in that order -/
def aGn : List (String × String × String) := [("HangedWord", "KIND_ABOVE", "[I"), ("HangedWordModel", "PARTS6", "[I"), ("java/lang/String", "COMPACT_STRINGS", "Z"), ("jdk/internal/util/Preconditions", "SIOOBE_FORMATTER", "Ljava/util/function/BiFunction;")]
theorem aG_w : ∀ w ∈ (aGl.zip aGn).map (fun e => Cond.fieldLink (aCs e.1.1.1) e.1.1.2 e.2.1 e.2.2.1 e.2.2.2), w ∈ aTb := aTb_of [484, 1153, 747, 763] (by decide +kernel) (by decide +kernel)
