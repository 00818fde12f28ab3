section
variable {d : Nat} {st : List Value} {S : Nat → Nat × Nat} {I : Nat → Nat → Int32} {R : Nat → Nat → Option Nat} {z : Nat × Nat} {σ : HS} {Q : Option Value → HS → Prop} {x y i : Int32} {a b : Nat} {v w : Value} {l0 l1 l2 l3 l4 l5 l6 l7 l8 l9 l10 l11 l12 l13 l14 l15 : Value} {x0 x1 x2 x3 x4 x5 : Int32} {v0 v1 v2 v3 v4 s0 s1 s2 s3 s4 s5 : Value}
/-! 220: HangedWordModel.two -/
theorem w220_0 : RB d 220 0 [.int x, l1, l2] st (S, I, R, z) Q = RB d 220 1 [.int x, l1, l2] (.int x :: st) (S, I, R, z) Q := RB_iloadn rfl rfl
theorem w220_1 : RB d 220 1 [l0, l1, l2] (.int x :: st) (S, I, R, z) Q = aTsR d 220 1 x 121 [l0, l1, l2] st (S, I, R, z) Q [((-8), 117), ((-7), 113), ((-6), 109), ((-5), 98), ((-4), 87), ((-3), 76), ((-2), 62), ((-1), 48)] := RB_ts rfl (by decide) (by decide) (by decide) (by decide +kernel) rfl
theorem w220_48 : RB d 220 48 [l0, .int x, l2] st (S, I, R, z) Q = RB d 220 49 [l0, .int x, l2] (.int x :: st) (S, I, R, z) Q := RB_iloadn rfl rfl
theorem w220_49 : RB d 220 49 [l0, l1, l2] (.int x :: st) (S, I, R, z) Q = ((x = 0 → RB d 220 52 [l0, l1, l2] st (S, I, R, z) Q) ∧ (¬ x = 0 → RB d 220 56 [l0, l1, l2] st (S, I, R, z) Q)) := RB_ne0 rfl (by decide) rfl
theorem w220_52 : RB d 220 52 [l0, l1, .int x] st (S, I, R, z) Q = RB d 220 53 [l0, l1, .int x] (.int x :: st) (S, I, R, z) Q := RB_iloadn rfl rfl
theorem w220_53 : RB d 220 53 [l0, l1, l2] (.int x :: st) (S, I, R, z) Q = ((x = 0 → RB d 220 60 [l0, l1, l2] st (S, I, R, z) Q) ∧ (¬ x = 0 → RB d 220 56 [l0, l1, l2] st (S, I, R, z) Q)) := RB_eq0 rfl (by decide) rfl
theorem w220_56 : RB d 220 56 [l0, l1, l2] st (S, I, R, z) Q = RB d 220 57 [l0, l1, l2] (.int 1 :: st) (S, I, R, z) Q := RB_iconst rfl ki1
theorem w220_57 : RB d 220 57 [l0, l1, l2] st (S, I, R, z) Q = RB d 220 61 [l0, l1, l2] st (S, I, R, z) Q := RB_goto rfl (by decide) rfl
theorem w220_60 : RB d 220 60 [l0, l1, l2] st (S, I, R, z) Q = RB d 220 61 [l0, l1, l2] (.int 0 :: st) (S, I, R, z) Q := RB_iconst rfl ki0
theorem w220_61 : RB d 220 61 [l0, l1, l2] [.int x] (S, I, R, z) Q = Q (some (.int x)) (S, I, R, z) := RB_iret rfl rfl rfl
theorem w220_62 : RB d 220 62 [l0, .int x, l2] st (S, I, R, z) Q = RB d 220 63 [l0, .int x, l2] (.int x :: st) (S, I, R, z) Q := RB_iloadn rfl rfl
theorem w220_63 : RB d 220 63 [l0, l1, l2] (.int x :: st) (S, I, R, z) Q = ((x = 0 → RB d 220 74 [l0, l1, l2] st (S, I, R, z) Q) ∧ (¬ x = 0 → RB d 220 66 [l0, l1, l2] st (S, I, R, z) Q)) := RB_eq0 rfl (by decide) rfl
theorem w220_66 : RB d 220 66 [l0, l1, .int x] st (S, I, R, z) Q = RB d 220 67 [l0, l1, .int x] (.int x :: st) (S, I, R, z) Q := RB_iloadn rfl rfl
theorem w220_67 : RB d 220 67 [l0, l1, l2] (.int x :: st) (S, I, R, z) Q = ((x = 0 → RB d 220 74 [l0, l1, l2] st (S, I, R, z) Q) ∧ (¬ x = 0 → RB d 220 70 [l0, l1, l2] st (S, I, R, z) Q)) := RB_eq0 rfl (by decide) rfl
theorem w220_70 : RB d 220 70 [l0, l1, l2] st (S, I, R, z) Q = RB d 220 71 [l0, l1, l2] (.int 1 :: st) (S, I, R, z) Q := RB_iconst rfl ki1
theorem w220_71 : RB d 220 71 [l0, l1, l2] st (S, I, R, z) Q = RB d 220 75 [l0, l1, l2] st (S, I, R, z) Q := RB_goto rfl (by decide) rfl
theorem w220_74 : RB d 220 74 [l0, l1, l2] st (S, I, R, z) Q = RB d 220 75 [l0, l1, l2] (.int 0 :: st) (S, I, R, z) Q := RB_iconst rfl ki0
theorem w220_75 : RB d 220 75 [l0, l1, l2] [.int x] (S, I, R, z) Q = Q (some (.int x)) (S, I, R, z) := RB_iret rfl rfl rfl
theorem w220_76 : RB d 220 76 [l0, .int x, l2] st (S, I, R, z) Q = RB d 220 77 [l0, .int x, l2] (.int x :: st) (S, I, R, z) Q := RB_iloadn rfl rfl
theorem w220_77 : RB d 220 77 [l0, l1, .int x] st (S, I, R, z) Q = RB d 220 78 [l0, l1, .int x] (.int x :: st) (S, I, R, z) Q := RB_iloadn rfl rfl
theorem w220_78 : RB d 220 78 [l0, l1, l2] (.int y :: .int x :: st) (S, I, R, z) Q = ((y ≤ x → RB d 220 85 [l0, l1, l2] st (S, I, R, z) Q) ∧ (¬ y ≤ x → RB d 220 81 [l0, l1, l2] st (S, I, R, z) Q)) := RB_ige rfl (by decide) rfl
theorem w220_81 : RB d 220 81 [l0, l1, l2] st (S, I, R, z) Q = RB d 220 82 [l0, l1, l2] (.int 1 :: st) (S, I, R, z) Q := RB_iconst rfl ki1
theorem w220_82 : RB d 220 82 [l0, l1, l2] st (S, I, R, z) Q = RB d 220 86 [l0, l1, l2] st (S, I, R, z) Q := RB_goto rfl (by decide) rfl
theorem w220_85 : RB d 220 85 [l0, l1, l2] st (S, I, R, z) Q = RB d 220 86 [l0, l1, l2] (.int 0 :: st) (S, I, R, z) Q := RB_iconst rfl ki0
theorem w220_86 : RB d 220 86 [l0, l1, l2] [.int x] (S, I, R, z) Q = Q (some (.int x)) (S, I, R, z) := RB_iret rfl rfl rfl
theorem w220_87 : RB d 220 87 [l0, .int x, l2] st (S, I, R, z) Q = RB d 220 88 [l0, .int x, l2] (.int x :: st) (S, I, R, z) Q := RB_iloadn rfl rfl
theorem w220_88 : RB d 220 88 [l0, l1, .int x] st (S, I, R, z) Q = RB d 220 89 [l0, l1, .int x] (.int x :: st) (S, I, R, z) Q := RB_iloadn rfl rfl
theorem w220_89 : RB d 220 89 [l0, l1, l2] (.int y :: .int x :: st) (S, I, R, z) Q = ((x = y → RB d 220 92 [l0, l1, l2] st (S, I, R, z) Q) ∧ (¬ x = y → RB d 220 96 [l0, l1, l2] st (S, I, R, z) Q)) := RB_ine rfl (by decide) rfl
theorem w220_92 : RB d 220 92 [l0, l1, l2] st (S, I, R, z) Q = RB d 220 93 [l0, l1, l2] (.int 1 :: st) (S, I, R, z) Q := RB_iconst rfl ki1
theorem w220_93 : RB d 220 93 [l0, l1, l2] st (S, I, R, z) Q = RB d 220 97 [l0, l1, l2] st (S, I, R, z) Q := RB_goto rfl (by decide) rfl
theorem w220_96 : RB d 220 96 [l0, l1, l2] st (S, I, R, z) Q = RB d 220 97 [l0, l1, l2] (.int 0 :: st) (S, I, R, z) Q := RB_iconst rfl ki0
theorem w220_97 : RB d 220 97 [l0, l1, l2] [.int x] (S, I, R, z) Q = Q (some (.int x)) (S, I, R, z) := RB_iret rfl rfl rfl
theorem w220_98 : RB d 220 98 [l0, .int x, l2] st (S, I, R, z) Q = RB d 220 99 [l0, .int x, l2] (.int x :: st) (S, I, R, z) Q := RB_iloadn rfl rfl
theorem w220_99 : RB d 220 99 [l0, l1, .int x] st (S, I, R, z) Q = RB d 220 100 [l0, l1, .int x] (.int x :: st) (S, I, R, z) Q := RB_iloadn rfl rfl
theorem w220_100 : RB d 220 100 [l0, l1, l2] (.int y :: .int x :: st) (S, I, R, z) Q = ((x ≤ y → RB d 220 107 [l0, l1, l2] st (S, I, R, z) Q) ∧ (¬ x ≤ y → RB d 220 103 [l0, l1, l2] st (S, I, R, z) Q)) := RB_ile rfl (by decide) rfl
theorem w220_103 : RB d 220 103 [l0, l1, l2] st (S, I, R, z) Q = RB d 220 104 [l0, l1, l2] (.int 1 :: st) (S, I, R, z) Q := RB_iconst rfl ki1
theorem w220_104 : RB d 220 104 [l0, l1, l2] st (S, I, R, z) Q = RB d 220 108 [l0, l1, l2] st (S, I, R, z) Q := RB_goto rfl (by decide) rfl
theorem w220_107 : RB d 220 107 [l0, l1, l2] st (S, I, R, z) Q = RB d 220 108 [l0, l1, l2] (.int 0 :: st) (S, I, R, z) Q := RB_iconst rfl ki0
theorem w220_108 : RB d 220 108 [l0, l1, l2] [.int x] (S, I, R, z) Q = Q (some (.int x)) (S, I, R, z) := RB_iret rfl rfl rfl
theorem w220_109 : RB d 220 109 [l0, .int x, l2] st (S, I, R, z) Q = RB d 220 110 [l0, .int x, l2] (.int x :: st) (S, I, R, z) Q := RB_iloadn rfl rfl
theorem w220_110 : RB d 220 110 [l0, l1, .int x] st (S, I, R, z) Q = RB d 220 111 [l0, l1, .int x] (.int x :: st) (S, I, R, z) Q := RB_iloadn rfl rfl
theorem w220_111 : RB d 220 111 [l0, l1, l2] (.int y :: .int x :: st) (S, I, R, z) Q = RB d 220 112 [l0, l1, l2] (.int (x + y) :: st) (S, I, R, z) Q := RB_iadd rfl
theorem w220_112 : RB d 220 112 [l0, l1, l2] [.int x] (S, I, R, z) Q = Q (some (.int x)) (S, I, R, z) := RB_iret rfl rfl rfl
theorem w220_113 : RB d 220 113 [l0, .int x, l2] st (S, I, R, z) Q = RB d 220 114 [l0, .int x, l2] (.int x :: st) (S, I, R, z) Q := RB_iloadn rfl rfl
theorem w220_114 : RB d 220 114 [l0, l1, .int x] st (S, I, R, z) Q = RB d 220 115 [l0, l1, .int x] (.int x :: st) (S, I, R, z) Q := RB_iloadn rfl rfl
theorem w220_115 : RB d 220 115 [l0, l1, l2] (.int y :: .int x :: st) (S, I, R, z) Q = RB d 220 116 [l0, l1, l2] (.int (x - y) :: st) (S, I, R, z) Q := RB_isub rfl
theorem w220_116 : RB d 220 116 [l0, l1, l2] [.int x] (S, I, R, z) Q = Q (some (.int x)) (S, I, R, z) := RB_iret rfl rfl rfl
theorem w220_117 : RB d 220 117 [l0, .int x, l2] st (S, I, R, z) Q = RB d 220 118 [l0, .int x, l2] (.int x :: st) (S, I, R, z) Q := RB_iloadn rfl rfl
theorem w220_118 : RB d 220 118 [l0, l1, .int x] st (S, I, R, z) Q = RB d 220 119 [l0, l1, .int x] (.int x :: st) (S, I, R, z) Q := RB_iloadn rfl rfl
theorem w220_119 : RB d 220 119 [l0, l1, l2] (.int y :: .int x :: st) (S, I, R, z) Q = RB d 220 120 [l0, l1, l2] (.int (x * y) :: st) (S, I, R, z) Q := RB_imul rfl
theorem w220_120 : RB d 220 120 [l0, l1, l2] [.int x] (S, I, R, z) Q = Q (some (.int x)) (S, I, R, z) := RB_iret rfl rfl rfl
theorem w220_121 : RB d 220 121 [l0, l1, .int x] st (S, I, R, z) Q = RB d 220 122 [l0, l1, .int x] (.int x :: st) (S, I, R, z) Q := RB_iloadn rfl rfl
theorem w220_122 : RB d 220 122 [l0, l1, l2] (.int x :: st) (S, I, R, z) Q = ((x = 0 → RB d 220 125 [l0, l1, l2] st (S, I, R, z) Q) ∧ (¬ x = 0 → RB d 220 129 [l0, l1, l2] st (S, I, R, z) Q)) := RB_ne0 rfl (by decide) rfl
theorem w220_125 : RB d 220 125 [l0, l1, l2] st (S, I, R, z) Q = RB d 220 126 [l0, l1, l2] (.int 0 :: st) (S, I, R, z) Q := RB_iconst rfl ki0
theorem w220_126 : RB d 220 126 [l0, l1, l2] st (S, I, R, z) Q = RB d 220 132 [l0, l1, l2] st (S, I, R, z) Q := RB_goto rfl (by decide) rfl
theorem w220_129 : RB d 220 129 [l0, .int x, l2] st (S, I, R, z) Q = RB d 220 130 [l0, .int x, l2] (.int x :: st) (S, I, R, z) Q := RB_iloadn rfl rfl
theorem w220_130 : RB d 220 130 [l0, l1, .int x] st (S, I, R, z) Q = RB d 220 131 [l0, l1, .int x] (.int x :: st) (S, I, R, z) Q := RB_iloadn rfl rfl
theorem w220_131 : RB d 220 131 [l0, l1, l2] (.int y :: .int x :: st) (S, I, R, z) Q = (¬ y = 0 ∧ RB d 220 132 [l0, l1, l2] (.int (x / y) :: st) (S, I, R, z) Q) := RB_idiv rfl
theorem w220_132 : RB d 220 132 [l0, l1, l2] [.int x] (S, I, R, z) Q = Q (some (.int x)) (S, I, R, z) := RB_iret rfl rfl rfl
/-! 221: HangedWordModel.worksOut -/
theorem w221_0 : RB d 221 0 [l0, l1, l2, l3, l4, l5] st (S, I, R, z) Q = RB d 221 1 [l0, l1, l2, l3, l4, l5] (.int 0 :: st) (S, I, R, z) Q := RB_iconst rfl ki0
theorem w221_1 : RB d 221 1 [l0, l1, l2, l3, l4, l5] (.int x :: st) (S, I, R, z) Q = RB d 221 2 [l0, l1, .int x, l3, l4, l5] st (S, I, R, z) Q := RB_istoren rfl (Nat.le_of_ble_eq_true rfl) rfl
theorem w221_2 : RB d 221 2 [.ref a, l1, l2, l3, l4, l5] st (S, I, R, z) Q = RB d 221 3 [.ref a, l1, l2, l3, l4, l5] (.ref a :: st) (S, I, R, z) Q := RB_aloadn rfl rfl
theorem w221_3 : RB d 221 3 [l0, l1, l2, l3, l4, l5] (.ref a :: st) (S, I, R, z) Q = ((S a).1 = 7 ∧ RB d 221 6 [l0, l1, l2, l3, l4, l5] (va_rf (R a 0) :: st) (S, I, R, z) Q) := RB_getR rfl rfl
theorem w221_6 : RB d 221 6 [l0, l1, l2, l3, l4, l5] st (S, I, R, z) Q = RB d 221 8 [l0, l1, l2, l3, l4, l5] (.int 48 :: st) (S, I, R, z) Q := RB_bipush rfl kb48
theorem w221_8 : RB d 221 8 [l0, l1, l2, l3, l4, l5] st (S, I, R, z) Q = RB d 221 9 [l0, l1, l2, l3, l4, l5] (.int 2 :: st) (S, I, R, z) Q := RB_iconst rfl ki2
theorem w221_9 : RB d 221 9 [l0, .int x, l2, l3, l4, l5] st (S, I, R, z) Q = RB d 221 10 [l0, .int x, l2, l3, l4, l5] (.int x :: st) (S, I, R, z) Q := RB_iloadn rfl rfl
theorem w221_10 : RB d 221 10 [l0, l1, l2, l3, l4, l5] (.int y :: .int x :: st) (S, I, R, z) Q = RB d 221 11 [l0, l1, l2, l3, l4, l5] (.int (x * y) :: st) (S, I, R, z) Q := RB_imul rfl
theorem w221_11 : RB d 221 11 [l0, l1, l2, l3, l4, l5] (.int y :: .int x :: st) (S, I, R, z) Q = RB d 221 12 [l0, l1, l2, l3, l4, l5] (.int (x + y) :: st) (S, I, R, z) Q := RB_iadd rfl
theorem w221_12 : RB d 221 12 [l0, l1, l2, l3, l4, l5] (.int i :: .ref a :: st) (S, I, R, z) Q = (((S a).1 = 9 ∧ aIx i (S a).2) ∧ RB d 221 13 [l0, l1, l2, l3, l4, l5] (.int (I a i.toNatClampNeg) :: st) (S, I, R, z) Q) := RB_iald rfl
theorem w221_13 : RB d 221 13 [l0, l1, l2, l3, l4, l5] st (S, I, R, z) Q = RB d 221 16 [l0, l1, l2, l3, l4, l5] (.int 1000 :: st) (S, I, R, z) Q := RB_sipush rfl ks1000
theorem w221_16 : RB d 221 16 [l0, l1, l2, l3, l4, l5] (.int y :: .int x :: st) (S, I, R, z) Q = (¬ y = 0 ∧ RB d 221 17 [l0, l1, l2, l3, l4, l5] (.int (x % y) :: st) (S, I, R, z) Q) := RB_irem rfl
theorem w221_17 : RB d 221 17 [l0, l1, l2, l3, l4, l5] (.int x :: st) (S, I, R, z) Q = RB d 221 18 [l0, l1, l2, .int x, l4, l5] st (S, I, R, z) Q := RB_istoren rfl (Nat.le_of_ble_eq_true rfl) rfl
theorem w221_18 : RB d 221 18 [l0, l1, l2, l3, l4, l5] st (S, I, R, z) Q = RB d 221 19 [l0, l1, l2, l3, l4, l5] (.int 0 :: st) (S, I, R, z) Q := RB_iconst rfl ki0
theorem w221_19 : RB d 221 19 [l0, l1, l2, l3, l4, l5] (.int x :: st) (S, I, R, z) Q = RB d 221 21 [l0, l1, l2, l3, .int x, l5] st (S, I, R, z) Q := RB_istore rfl (Nat.le_of_ble_eq_true rfl) rfl
theorem w221_21 : RB d 221 21 [l0, l1, l2, l3, .int x, l5] st (S, I, R, z) Q = RB d 221 23 [l0, l1, l2, l3, .int x, l5] (.int x :: st) (S, I, R, z) Q := RB_iload rfl rfl
theorem w221_23 : RB d 221 23 [l0, l1, l2, .int x, l4, l5] st (S, I, R, z) Q = RB d 221 24 [l0, l1, l2, .int x, l4, l5] (.int x :: st) (S, I, R, z) Q := RB_iloadn rfl rfl
theorem w221_24 : RB d 221 24 [l0, l1, l2, l3, l4, l5] (.int y :: .int x :: st) (S, I, R, z) Q = ((y ≤ x → RB d 221 155 [l0, l1, l2, l3, l4, l5] st (S, I, R, z) Q) ∧ (¬ y ≤ x → RB d 221 27 [l0, l1, l2, l3, l4, l5] st (S, I, R, z) Q)) := RB_ige rfl (by decide) rfl
theorem w221_27 : RB d 221 27 [.ref a, l1, l2, l3, l4, l5] st (S, I, R, z) Q = RB d 221 28 [.ref a, l1, l2, l3, l4, l5] (.ref a :: st) (S, I, R, z) Q := RB_aloadn rfl rfl
theorem w221_28 : RB d 221 28 [l0, l1, l2, l3, l4, l5] (.ref a :: st) (S, I, R, z) Q = ((S a).1 = 7 ∧ RB d 221 31 [l0, l1, l2, l3, l4, l5] (va_rf (R a 0) :: st) (S, I, R, z) Q) := RB_getR rfl rfl
theorem w221_31 : RB d 221 31 [l0, l1, l2, l3, l4, l5] st (S, I, R, z) Q = RB d 221 33 [l0, l1, l2, l3, l4, l5] (.int 76 :: st) (S, I, R, z) Q := RB_bipush rfl kb76
theorem w221_33 : RB d 221 33 [l0, l1, l2, l3, l4, l5] st (S, I, R, z) Q = RB d 221 35 [l0, l1, l2, l3, l4, l5] (.int 96 :: st) (S, I, R, z) Q := RB_bipush rfl kb96
theorem w221_35 : RB d 221 35 [l0, .int x, l2, l3, l4, l5] st (S, I, R, z) Q = RB d 221 36 [l0, .int x, l2, l3, l4, l5] (.int x :: st) (S, I, R, z) Q := RB_iloadn rfl rfl
theorem w221_36 : RB d 221 36 [l0, l1, l2, l3, l4, l5] (.int y :: .int x :: st) (S, I, R, z) Q = RB d 221 37 [l0, l1, l2, l3, l4, l5] (.int (x * y) :: st) (S, I, R, z) Q := RB_imul rfl
theorem w221_37 : RB d 221 37 [l0, l1, l2, l3, l4, l5] (.int y :: .int x :: st) (S, I, R, z) Q = RB d 221 38 [l0, l1, l2, l3, l4, l5] (.int (x + y) :: st) (S, I, R, z) Q := RB_iadd rfl
theorem w221_38 : RB d 221 38 [l0, l1, l2, l3, .int x, l5] st (S, I, R, z) Q = RB d 221 40 [l0, l1, l2, l3, .int x, l5] (.int x :: st) (S, I, R, z) Q := RB_iload rfl rfl
theorem w221_40 : RB d 221 40 [l0, l1, l2, l3, l4, l5] (.int y :: .int x :: st) (S, I, R, z) Q = RB d 221 41 [l0, l1, l2, l3, l4, l5] (.int (x + y) :: st) (S, I, R, z) Q := RB_iadd rfl
theorem w221_41 : RB d 221 41 [l0, l1, l2, l3, l4, l5] (.int i :: .ref a :: st) (S, I, R, z) Q = (((S a).1 = 9 ∧ aIx i (S a).2) ∧ RB d 221 42 [l0, l1, l2, l3, l4, l5] (.int (I a i.toNatClampNeg) :: st) (S, I, R, z) Q) := RB_iald rfl
theorem w221_42 : RB d 221 42 [l0, l1, l2, l3, l4, l5] (.int x :: st) (S, I, R, z) Q = RB d 221 44 [l0, l1, l2, l3, l4, .int x] st (S, I, R, z) Q := RB_istore rfl (Nat.le_of_ble_eq_true rfl) rfl
theorem w221_44 : RB d 221 44 [l0, l1, l2, l3, l4, .int x] st (S, I, R, z) Q = RB d 221 46 [l0, l1, l2, l3, l4, .int x] (.int x :: st) (S, I, R, z) Q := RB_iload rfl rfl
theorem w221_46 : RB d 221 46 [l0, l1, l2, l3, l4, l5] (.int x :: st) (S, I, R, z) Q = ((x < 0 → RB d 221 85 [l0, l1, l2, l3, l4, l5] st (S, I, R, z) Q) ∧ (¬ x < 0 → RB d 221 49 [l0, l1, l2, l3, l4, l5] st (S, I, R, z) Q)) := RB_lt0 rfl (by decide) rfl
theorem w221_49 : RB d 221 49 [.ref a, l1, l2, l3, l4, l5] st (S, I, R, z) Q = RB d 221 50 [.ref a, l1, l2, l3, l4, l5] (.ref a :: st) (S, I, R, z) Q := RB_aloadn rfl rfl
theorem w221_50 : RB d 221 50 [l0, l1, l2, l3, l4, l5] (.ref a :: st) (S, I, R, z) Q = ((S a).1 = 7 ∧ RB d 221 53 [l0, l1, l2, l3, l4, l5] (va_rf (R a 21) :: st) (S, I, R, z) Q) := RB_getR rfl rfl
theorem w221_53 : RB d 221 53 [l0, l1, .int x, l3, l4, l5] st (S, I, R, z) Q = RB d 221 54 [l0, l1, .int x, l3, l4, l5] (.int x :: st) (S, I, R, z) Q := RB_iloadn rfl rfl
theorem w221_54 : RB d 221 54 [l0, l1, l2, l3, l4, .int x] st (S, I, R, z) Q = RB d 221 56 [l0, l1, l2, l3, l4, .int x] (.int x :: st) (S, I, R, z) Q := RB_iload rfl rfl
theorem w221_56 : RB d 221 56 [l0, l1, l2, l3, l4, l5] st (S, I, R, z) Q = RB d 221 59 [l0, l1, l2, l3, l4, l5] (.int 10000 :: st) (S, I, R, z) Q := RB_sipush rfl ks10000
theorem w221_59 : RB d 221 59 [l0, l1, l2, l3, l4, l5] (.int y :: .int x :: st) (S, I, R, z) Q = ((y ≤ x → RB d 221 67 [l0, l1, l2, l3, l4, l5] st (S, I, R, z) Q) ∧ (¬ y ≤ x → RB d 221 62 [l0, l1, l2, l3, l4, l5] st (S, I, R, z) Q)) := RB_ige rfl (by decide) rfl
theorem w221_62 : RB d 221 62 [l0, l1, l2, l3, l4, .int x] st (S, I, R, z) Q = RB d 221 64 [l0, l1, l2, l3, l4, .int x] (.int x :: st) (S, I, R, z) Q := RB_iload rfl rfl
theorem w221_64 : RB d 221 64 [l0, l1, l2, l3, l4, l5] st (S, I, R, z) Q = RB d 221 78 [l0, l1, l2, l3, l4, l5] st (S, I, R, z) Q := RB_goto rfl (by decide) rfl
theorem w221_67 : RB d 221 67 [.ref a, l1, l2, l3, l4, l5] st (S, I, R, z) Q = RB d 221 68 [.ref a, l1, l2, l3, l4, l5] (.ref a :: st) (S, I, R, z) Q := RB_aloadn rfl rfl
theorem w221_68 : RB d 221 68 [l0, l1, l2, l3, l4, l5] (.ref a :: st) (S, I, R, z) Q = ((S a).1 = 7 ∧ RB d 221 71 [l0, l1, l2, l3, l4, l5] (va_rf (R a 22) :: st) (S, I, R, z) Q) := RB_getR rfl rfl
theorem w221_71 : RB d 221 71 [l0, l1, l2, l3, l4, .int x] st (S, I, R, z) Q = RB d 221 73 [l0, l1, l2, l3, l4, .int x] (.int x :: st) (S, I, R, z) Q := RB_iload rfl rfl
theorem w221_73 : RB d 221 73 [l0, l1, l2, l3, l4, l5] st (S, I, R, z) Q = RB d 221 76 [l0, l1, l2, l3, l4, l5] (.int 10000 :: st) (S, I, R, z) Q := RB_sipush rfl ks10000
theorem w221_76 : RB d 221 76 [l0, l1, l2, l3, l4, l5] (.int y :: .int x :: st) (S, I, R, z) Q = RB d 221 77 [l0, l1, l2, l3, l4, l5] (.int (x - y) :: st) (S, I, R, z) Q := RB_isub rfl
theorem w221_77 : RB d 221 77 [l0, l1, l2, l3, l4, l5] (.int i :: .ref a :: st) (S, I, R, z) Q = (((S a).1 = 9 ∧ aIx i (S a).2) ∧ RB d 221 78 [l0, l1, l2, l3, l4, l5] (.int (I a i.toNatClampNeg) :: st) (S, I, R, z) Q) := RB_iald rfl
theorem w221_78 : RB d 221 78 [l0, l1, l2, l3, l4, l5] (.int x :: .int i :: .ref a :: st) (S, I, R, z) Q = (((S a).1 = 9 ∧ aIx i (S a).2 ∧ 16 ≤ a) ∧ RB d 221 79 [l0, l1, l2, l3, l4, l5] st (S, aW I a i.toNatClampNeg x, R, z) Q) := RB_iast rfl
theorem w221_79 : RB d 221 79 [l0, l1, .int x, l3, l4, l5] st (S, I, R, z) Q = RB d 221 82 [l0, l1, .int (x + 1), l3, l4, l5] st (S, I, R, z) Q := RB_iinc rfl rfl (Nat.le_of_ble_eq_true rfl) ki1 rfl
theorem w221_82 : RB d 221 82 [l0, l1, l2, l3, l4, l5] st (S, I, R, z) Q = RB d 221 149 [l0, l1, l2, l3, l4, l5] st (S, I, R, z) Q := RB_goto rfl (by decide) rfl
theorem w221_85 : RB d 221 85 [l0, l1, l2, l3, l4, .int x] st (S, I, R, z) Q = RB d 221 87 [l0, l1, l2, l3, l4, .int x] (.int x :: st) (S, I, R, z) Q := RB_iload rfl rfl
theorem w221_87 : RB d 221 87 [l0, l1, l2, l3, l4, l5] st (S, I, R, z) Q = RB d 221 89 [l0, l1, l2, l3, l4, l5] (.int (-10) :: st) (S, I, R, z) Q := RB_bipush rfl kbm10
theorem w221_89 : RB d 221 89 [l0, l1, l2, l3, l4, l5] (.int y :: .int x :: st) (S, I, R, z) Q = ((x = y → RB d 221 92 [l0, l1, l2, l3, l4, l5] st (S, I, R, z) Q) ∧ (¬ x = y → RB d 221 119 [l0, l1, l2, l3, l4, l5] st (S, I, R, z) Q)) := RB_ine rfl (by decide) rfl
theorem w221_92 : RB d 221 92 [.ref a, l1, l2, l3, l4, l5] st (S, I, R, z) Q = RB d 221 93 [.ref a, l1, l2, l3, l4, l5] (.ref a :: st) (S, I, R, z) Q := RB_aloadn rfl rfl
theorem w221_93 : RB d 221 93 [l0, l1, l2, l3, l4, l5] (.ref a :: st) (S, I, R, z) Q = ((S a).1 = 7 ∧ RB d 221 96 [l0, l1, l2, l3, l4, l5] (va_rf (R a 21) :: st) (S, I, R, z) Q) := RB_getR rfl rfl
theorem w221_96 : RB d 221 96 [l0, l1, .int x, l3, l4, l5] st (S, I, R, z) Q = RB d 221 97 [l0, l1, .int x, l3, l4, l5] (.int x :: st) (S, I, R, z) Q := RB_iloadn rfl rfl
theorem w221_97 : RB d 221 97 [l0, l1, l2, l3, l4, l5] st (S, I, R, z) Q = RB d 221 98 [l0, l1, l2, l3, l4, l5] (.int 1 :: st) (S, I, R, z) Q := RB_iconst rfl ki1
theorem w221_98 : RB d 221 98 [l0, l1, l2, l3, l4, l5] (.int y :: .int x :: st) (S, I, R, z) Q = RB d 221 99 [l0, l1, l2, l3, l4, l5] (.int (x - y) :: st) (S, I, R, z) Q := RB_isub rfl
theorem w221_99 : RB d 221 99 [.ref a, l1, l2, l3, l4, l5] st (S, I, R, z) Q = RB d 221 100 [.ref a, l1, l2, l3, l4, l5] (.ref a :: st) (S, I, R, z) Q := RB_aloadn rfl rfl
theorem w221_100 : RB d 221 100 [l0, l1, l2, l3, l4, l5] (.ref a :: st) (S, I, R, z) Q = ((S a).1 = 7 ∧ RB d 221 103 [l0, l1, l2, l3, l4, l5] (va_rf (R a 21) :: st) (S, I, R, z) Q) := RB_getR rfl rfl
theorem w221_103 : RB d 221 103 [l0, l1, .int x, l3, l4, l5] st (S, I, R, z) Q = RB d 221 104 [l0, l1, .int x, l3, l4, l5] (.int x :: st) (S, I, R, z) Q := RB_iloadn rfl rfl
theorem w221_104 : RB d 221 104 [l0, l1, l2, l3, l4, l5] st (S, I, R, z) Q = RB d 221 105 [l0, l1, l2, l3, l4, l5] (.int 1 :: st) (S, I, R, z) Q := RB_iconst rfl ki1
theorem w221_105 : RB d 221 105 [l0, l1, l2, l3, l4, l5] (.int y :: .int x :: st) (S, I, R, z) Q = RB d 221 106 [l0, l1, l2, l3, l4, l5] (.int (x - y) :: st) (S, I, R, z) Q := RB_isub rfl
theorem w221_106 : RB d 221 106 [l0, l1, l2, l3, l4, l5] (.int i :: .ref a :: st) (S, I, R, z) Q = (((S a).1 = 9 ∧ aIx i (S a).2) ∧ RB d 221 107 [l0, l1, l2, l3, l4, l5] (.int (I a i.toNatClampNeg) :: st) (S, I, R, z) Q) := RB_iald rfl
theorem w221_107 : RB d 221 107 [l0, l1, l2, l3, l4, l5] (.int x :: st) (S, I, R, z) Q = ((x = 0 → RB d 221 110 [l0, l1, l2, l3, l4, l5] st (S, I, R, z) Q) ∧ (¬ x = 0 → RB d 221 114 [l0, l1, l2, l3, l4, l5] st (S, I, R, z) Q)) := RB_ne0 rfl (by decide) rfl
theorem w221_110 : RB d 221 110 [l0, l1, l2, l3, l4, l5] st (S, I, R, z) Q = RB d 221 111 [l0, l1, l2, l3, l4, l5] (.int 1 :: st) (S, I, R, z) Q := RB_iconst rfl ki1
theorem w221_111 : RB d 221 111 [l0, l1, l2, l3, l4, l5] st (S, I, R, z) Q = RB d 221 115 [l0, l1, l2, l3, l4, l5] st (S, I, R, z) Q := RB_goto rfl (by decide) rfl
theorem w221_114 : RB d 221 114 [l0, l1, l2, l3, l4, l5] st (S, I, R, z) Q = RB d 221 115 [l0, l1, l2, l3, l4, l5] (.int 0 :: st) (S, I, R, z) Q := RB_iconst rfl ki0
theorem w221_115 : RB d 221 115 [l0, l1, l2, l3, l4, l5] (.int x :: .int i :: .ref a :: st) (S, I, R, z) Q = (((S a).1 = 9 ∧ aIx i (S a).2 ∧ 16 ≤ a) ∧ RB d 221 116 [l0, l1, l2, l3, l4, l5] st (S, aW I a i.toNatClampNeg x, R, z) Q) := RB_iast rfl
theorem w221_116 : RB d 221 116 [l0, l1, l2, l3, l4, l5] st (S, I, R, z) Q = RB d 221 149 [l0, l1, l2, l3, l4, l5] st (S, I, R, z) Q := RB_goto rfl (by decide) rfl
theorem w221_119 : RB d 221 119 [l0, l1, .int x, l3, l4, l5] st (S, I, R, z) Q = RB d 221 122 [l0, l1, .int (x + (-1)), l3, l4, l5] st (S, I, R, z) Q := RB_iinc rfl rfl (Nat.le_of_ble_eq_true rfl) kim1 rfl
theorem w221_122 : RB d 221 122 [.ref a, l1, l2, l3, l4, l5] st (S, I, R, z) Q = RB d 221 123 [.ref a, l1, l2, l3, l4, l5] (.ref a :: st) (S, I, R, z) Q := RB_aloadn rfl rfl
theorem w221_123 : RB d 221 123 [l0, l1, l2, l3, l4, l5] (.ref a :: st) (S, I, R, z) Q = ((S a).1 = 7 ∧ RB d 221 126 [l0, l1, l2, l3, l4, l5] (va_rf (R a 21) :: st) (S, I, R, z) Q) := RB_getR rfl rfl
theorem w221_126 : RB d 221 126 [l0, l1, .int x, l3, l4, l5] st (S, I, R, z) Q = RB d 221 127 [l0, l1, .int x, l3, l4, l5] (.int x :: st) (S, I, R, z) Q := RB_iloadn rfl rfl
theorem w221_127 : RB d 221 127 [l0, l1, l2, l3, l4, l5] st (S, I, R, z) Q = RB d 221 128 [l0, l1, l2, l3, l4, l5] (.int 1 :: st) (S, I, R, z) Q := RB_iconst rfl ki1
theorem w221_128 : RB d 221 128 [l0, l1, l2, l3, l4, l5] (.int y :: .int x :: st) (S, I, R, z) Q = RB d 221 129 [l0, l1, l2, l3, l4, l5] (.int (x - y) :: st) (S, I, R, z) Q := RB_isub rfl
theorem w221_129 : RB d 221 129 [l0, l1, l2, l3, l4, .int x] st (S, I, R, z) Q = RB d 221 131 [l0, l1, l2, l3, l4, .int x] (.int x :: st) (S, I, R, z) Q := RB_iload rfl rfl
theorem w221_131 : RB d 221 131 [.ref a, l1, l2, l3, l4, l5] st (S, I, R, z) Q = RB d 221 132 [.ref a, l1, l2, l3, l4, l5] (.ref a :: st) (S, I, R, z) Q := RB_aloadn rfl rfl
theorem w221_132 : RB d 221 132 [l0, l1, l2, l3, l4, l5] (.ref a :: st) (S, I, R, z) Q = ((S a).1 = 7 ∧ RB d 221 135 [l0, l1, l2, l3, l4, l5] (va_rf (R a 21) :: st) (S, I, R, z) Q) := RB_getR rfl rfl
theorem w221_135 : RB d 221 135 [l0, l1, .int x, l3, l4, l5] st (S, I, R, z) Q = RB d 221 136 [l0, l1, .int x, l3, l4, l5] (.int x :: st) (S, I, R, z) Q := RB_iloadn rfl rfl
theorem w221_136 : RB d 221 136 [l0, l1, l2, l3, l4, l5] st (S, I, R, z) Q = RB d 221 137 [l0, l1, l2, l3, l4, l5] (.int 1 :: st) (S, I, R, z) Q := RB_iconst rfl ki1
theorem w221_137 : RB d 221 137 [l0, l1, l2, l3, l4, l5] (.int y :: .int x :: st) (S, I, R, z) Q = RB d 221 138 [l0, l1, l2, l3, l4, l5] (.int (x - y) :: st) (S, I, R, z) Q := RB_isub rfl
theorem w221_138 : RB d 221 138 [l0, l1, l2, l3, l4, l5] (.int i :: .ref a :: st) (S, I, R, z) Q = (((S a).1 = 9 ∧ aIx i (S a).2) ∧ RB d 221 139 [l0, l1, l2, l3, l4, l5] (.int (I a i.toNatClampNeg) :: st) (S, I, R, z) Q) := RB_iald rfl
theorem w221_139 : RB d 221 139 [.ref a, l1, l2, l3, l4, l5] st (S, I, R, z) Q = RB d 221 140 [.ref a, l1, l2, l3, l4, l5] (.ref a :: st) (S, I, R, z) Q := RB_aloadn rfl rfl
theorem w221_140 : RB d 221 140 [l0, l1, l2, l3, l4, l5] (.ref a :: st) (S, I, R, z) Q = ((S a).1 = 7 ∧ RB d 221 143 [l0, l1, l2, l3, l4, l5] (va_rf (R a 21) :: st) (S, I, R, z) Q) := RB_getR rfl rfl
theorem w221_143 : RB d 221 143 [l0, l1, .int x, l3, l4, l5] st (S, I, R, z) Q = RB d 221 144 [l0, l1, .int x, l3, l4, l5] (.int x :: st) (S, I, R, z) Q := RB_iloadn rfl rfl
theorem w221_144 : RB d 221 144 [l0, l1, l2, l3, l4, l5] (.int i :: .ref a :: st) (S, I, R, z) Q = (((S a).1 = 9 ∧ aIx i (S a).2) ∧ RB d 221 145 [l0, l1, l2, l3, l4, l5] (.int (I a i.toNatClampNeg) :: st) (S, I, R, z) Q) := RB_iald rfl
set_option maxRecDepth 20000 in
theorem w221_145 : RB d 221 145 [l0, l1, l2, l3, l4, l5] [.int x2, .int x1, .int x0, s0, s1] (S, I, R, z) Q = RM d 220 [.int x0, .int x1, .int x2] (S, I, R, z) (fun v τ => RB d 221 148 [l0, l1, l2, l3, l4, l5] (aPush v [s0, s1]) τ Q) := RB_callS (n := 3) (t := 1) (k := 290) (ins := .invokestatic 290) rfl rfl rfl (Nat.le_of_ble_eq_true rfl) (Nat.le_of_ble_eq_true rfl) rfl rfl
theorem w221_148 : RB d 221 148 [l0, l1, l2, l3, l4, l5] (.int x :: .int i :: .ref a :: st) (S, I, R, z) Q = (((S a).1 = 9 ∧ aIx i (S a).2 ∧ 16 ≤ a) ∧ RB d 221 149 [l0, l1, l2, l3, l4, l5] st (S, aW I a i.toNatClampNeg x, R, z) Q) := RB_iast rfl
theorem w221_149 : RB d 221 149 [l0, l1, l2, l3, .int x, l5] st (S, I, R, z) Q = RB d 221 152 [l0, l1, l2, l3, .int (x + 1), l5] st (S, I, R, z) Q := RB_iinc rfl rfl (Nat.le_of_ble_eq_true rfl) ki1 rfl
theorem w221_152 : RB d 221 152 [l0, l1, l2, l3, l4, l5] st (S, I, R, z) Q = RB d 221 21 [l0, l1, l2, l3, l4, l5] st (S, I, R, z) Q := RB_goto rfl (by decide) rfl
theorem w221_155 : RB d 221 155 [.ref a, l1, l2, l3, l4, l5] st (S, I, R, z) Q = RB d 221 156 [.ref a, l1, l2, l3, l4, l5] (.ref a :: st) (S, I, R, z) Q := RB_aloadn rfl rfl
theorem w221_156 : RB d 221 156 [l0, l1, l2, l3, l4, l5] (.ref a :: st) (S, I, R, z) Q = ((S a).1 = 7 ∧ RB d 221 159 [l0, l1, l2, l3, l4, l5] (va_rf (R a 21) :: st) (S, I, R, z) Q) := RB_getR rfl rfl
theorem w221_159 : RB d 221 159 [l0, l1, l2, l3, l4, l5] st (S, I, R, z) Q = RB d 221 160 [l0, l1, l2, l3, l4, l5] (.int 0 :: st) (S, I, R, z) Q := RB_iconst rfl ki0
theorem w221_160 : RB d 221 160 [l0, l1, l2, l3, l4, l5] (.int i :: .ref a :: st) (S, I, R, z) Q = (((S a).1 = 9 ∧ aIx i (S a).2) ∧ RB d 221 161 [l0, l1, l2, l3, l4, l5] (.int (I a i.toNatClampNeg) :: st) (S, I, R, z) Q) := RB_iald rfl
theorem w221_161 : RB d 221 161 [l0, l1, l2, l3, l4, l5] [.int x] (S, I, R, z) Q = Q (some (.int x)) (S, I, R, z) := RB_iret rfl rfl rfl
/-! 222: HangedWordModel.isSheet -/
theorem w222_0 : RB d 222 0 [.int x] st (S, I, R, z) Q = RB d 222 1 [.int x] (.int x :: st) (S, I, R, z) Q := RB_iloadn rfl rfl
theorem w222_1 : RB d 222 1 [l0] st (S, I, R, z) Q = RB d 222 2 [l0] (.int 0 :: st) (S, I, R, z) Q := RB_iconst rfl ki0
theorem w222_2 : RB d 222 2 [l0] st (S, I, R, z) Q = RB d 222 3 [l0] (.int 3 :: st) (S, I, R, z) Q := RB_iconst rfl ki3
set_option maxRecDepth 20000 in
theorem w222_3 : RB d 222 3 [l0] [.int x2, .int x1, .int x0] (S, I, R, z) Q = RM d 135 [.int x0, .int x1, .int x2] (S, I, R, z) (fun v τ => RB d 222 6 [l0] (aPush v []) τ Q) := RB_callS (n := 3) (t := 1) (k := 76) (ins := .invokestatic 76) rfl rfl rfl (Nat.le_of_ble_eq_true rfl) (Nat.le_of_ble_eq_true rfl) rfl rfl
theorem w222_6 : RB d 222 6 [l0] [.int x] (S, I, R, z) Q = (narrow .boolean (.int x) = .int x ∧ Q (some (.int x)) (S, I, R, z)) := RB_zret rfl rfl (Or.inl rfl)
/-! 223: HangedWordModel.isSlot -/
theorem w223_0 : RB d 223 0 [.int x] st (S, I, R, z) Q = RB d 223 1 [.int x] (.int x :: st) (S, I, R, z) Q := RB_iloadn rfl rfl
theorem w223_1 : RB d 223 1 [l0] st (S, I, R, z) Q = RB d 223 2 [l0] (.int 0 :: st) (S, I, R, z) Q := RB_iconst rfl ki0
theorem w223_2 : RB d 223 2 [l0] st (S, I, R, z) Q = RB d 223 3 [l0] (.int 4 :: st) (S, I, R, z) Q := RB_iconst rfl ki4
set_option maxRecDepth 20000 in
theorem w223_3 : RB d 223 3 [l0] [.int x2, .int x1, .int x0] (S, I, R, z) Q = RM d 135 [.int x0, .int x1, .int x2] (S, I, R, z) (fun v τ => RB d 223 6 [l0] (aPush v []) τ Q) := RB_callS (n := 3) (t := 1) (k := 76) (ins := .invokestatic 76) rfl rfl rfl (Nat.le_of_ble_eq_true rfl) (Nat.le_of_ble_eq_true rfl) rfl rfl
theorem w223_6 : RB d 223 6 [l0] [.int x] (S, I, R, z) Q = (narrow .boolean (.int x) = .int x ∧ Q (some (.int x)) (S, I, R, z)) := RB_zret rfl rfl (Or.inl rfl)
/-! 224: HangedWordModel.sheet -/
theorem w224_0 : RB d 224 0 [l0, .int x, l2, l3, l4] st (S, I, R, z) Q = RB d 224 1 [l0, .int x, l2, l3, l4] (.int x :: st) (S, I, R, z) Q := RB_iloadn rfl rfl
set_option maxRecDepth 20000 in
theorem w224_1 : RB d 224 1 [l0, l1, l2, l3, l4] [.int x0] (S, I, R, z) Q = RM d 222 [.int x0] (S, I, R, z) (fun v τ => RB d 224 4 [l0, l1, l2, l3, l4] (aPush v []) τ Q) := RB_callS (n := 1) (t := 1) (k := 219) (ins := .invokestatic 219) rfl rfl rfl (Nat.le_of_ble_eq_true rfl) (Nat.le_of_ble_eq_true rfl) rfl rfl
theorem w224_4 : RB d 224 4 [l0, l1, l2, l3, l4] (.int x :: st) (S, I, R, z) Q = ((x = 0 → RB d 224 26 [l0, l1, l2, l3, l4] st (S, I, R, z) Q) ∧ (¬ x = 0 → RB d 224 7 [l0, l1, l2, l3, l4] st (S, I, R, z) Q)) := RB_eq0 rfl (by decide) rfl
theorem w224_7 : RB d 224 7 [l0, l1, .int x, l3, l4] st (S, I, R, z) Q = RB d 224 8 [l0, l1, .int x, l3, l4] (.int x :: st) (S, I, R, z) Q := RB_iloadn rfl rfl
theorem w224_8 : RB d 224 8 [l0, l1, l2, l3, l4] st (S, I, R, z) Q = RB d 224 9 [l0, l1, l2, l3, l4] (.int (-1) :: st) (S, I, R, z) Q := RB_iconst rfl kim1
theorem w224_9 : RB d 224 9 [l0, l1, l2, l3, l4] st (S, I, R, z) Q = RB d 224 10 [l0, l1, l2, l3, l4] (.int 1 :: st) (S, I, R, z) Q := RB_iconst rfl ki1
set_option maxRecDepth 20000 in
theorem w224_10 : RB d 224 10 [l0, l1, l2, l3, l4] [.int x2, .int x1, .int x0] (S, I, R, z) Q = RM d 135 [.int x0, .int x1, .int x2] (S, I, R, z) (fun v τ => RB d 224 13 [l0, l1, l2, l3, l4] (aPush v []) τ Q) := RB_callS (n := 3) (t := 1) (k := 76) (ins := .invokestatic 76) rfl rfl rfl (Nat.le_of_ble_eq_true rfl) (Nat.le_of_ble_eq_true rfl) rfl rfl
theorem w224_13 : RB d 224 13 [l0, l1, l2, l3, l4] (.int x :: st) (S, I, R, z) Q = ((x = 0 → RB d 224 26 [l0, l1, l2, l3, l4] st (S, I, R, z) Q) ∧ (¬ x = 0 → RB d 224 16 [l0, l1, l2, l3, l4] st (S, I, R, z) Q)) := RB_eq0 rfl (by decide) rfl
theorem w224_16 : RB d 224 16 [l0, l1, .int x, l3, l4] st (S, I, R, z) Q = RB d 224 17 [l0, l1, .int x, l3, l4] (.int x :: st) (S, I, R, z) Q := RB_iloadn rfl rfl
theorem w224_17 : RB d 224 17 [l0, l1, l2, l3, l4] (.int x :: st) (S, I, R, z) Q = ((x < 0 → RB d 224 29 [l0, l1, l2, l3, l4] st (S, I, R, z) Q) ∧ (¬ x < 0 → RB d 224 20 [l0, l1, l2, l3, l4] st (S, I, R, z) Q)) := RB_lt0 rfl (by decide) rfl
theorem w224_20 : RB d 224 20 [l0, l1, l2, .int x, l4] st (S, I, R, z) Q = RB d 224 21 [l0, l1, l2, .int x, l4] (.int x :: st) (S, I, R, z) Q := RB_iloadn rfl rfl
theorem w224_21 : RB d 224 21 [l0, l1, l2, l3, l4] st (S, I, R, z) Q = RB d 224 23 [l0, l1, l2, l3, l4] (.int 24 :: st) (S, I, R, z) Q := RB_bipush rfl kb24
theorem w224_23 : RB d 224 23 [l0, l1, l2, l3, l4] (.int y :: .int x :: st) (S, I, R, z) Q = ((x ≤ y → RB d 224 29 [l0, l1, l2, l3, l4] st (S, I, R, z) Q) ∧ (¬ x ≤ y → RB d 224 26 [l0, l1, l2, l3, l4] st (S, I, R, z) Q)) := RB_ile rfl (by decide) rfl
theorem w224_26 : RB d 224 26 [l0, l1, l2, l3, l4] st (S, I, R, z) Q = RB d 224 28 [l0, l1, l2, l3, l4] (.int (-1000000001) :: st) (S, I, R, z) Q := RB_ldc rfl rfl
theorem w224_28 : RB d 224 28 [l0, l1, l2, l3, l4] [.int x] (S, I, R, z) Q = Q (some (.int x)) (S, I, R, z) := RB_iret rfl rfl rfl
theorem w224_29 : RB d 224 29 [l0, l1, .int x, l3, l4] st (S, I, R, z) Q = RB d 224 30 [l0, l1, .int x, l3, l4] (.int x :: st) (S, I, R, z) Q := RB_iloadn rfl rfl
theorem w224_30 : RB d 224 30 [l0, l1, l2, l3, l4] (.int x :: st) (S, I, R, z) Q = ((x < 0 → RB d 224 41 [l0, l1, l2, l3, l4] st (S, I, R, z) Q) ∧ (¬ x < 0 → RB d 224 33 [l0, l1, l2, l3, l4] st (S, I, R, z) Q)) := RB_lt0 rfl (by decide) rfl
theorem w224_33 : RB d 224 33 [l0, l1, l2, .int x, l4] st (S, I, R, z) Q = RB d 224 34 [l0, l1, l2, .int x, l4] (.int x :: st) (S, I, R, z) Q := RB_iloadn rfl rfl
theorem w224_34 : RB d 224 34 [l0, l1, l2, l3, l4] (.int x :: st) (S, I, R, z) Q = ((0 ≤ x → RB d 224 41 [l0, l1, l2, l3, l4] st (S, I, R, z) Q) ∧ (¬ 0 ≤ x → RB d 224 37 [l0, l1, l2, l3, l4] st (S, I, R, z) Q)) := RB_ge0 rfl (by decide) rfl
theorem w224_37 : RB d 224 37 [l0, l1, l2, l3, l4] st (S, I, R, z) Q = RB d 224 40 [l0, l1, l2, l3, l4] (.int (-1000000014) :: st) (S, I, R, z) Q := RB_ldcw rfl rfl
theorem w224_40 : RB d 224 40 [l0, l1, l2, l3, l4] [.int x] (S, I, R, z) Q = Q (some (.int x)) (S, I, R, z) := RB_iret rfl rfl rfl
theorem w224_41 : RB d 224 41 [.ref a, l1, l2, l3, l4] st (S, I, R, z) Q = RB d 224 42 [.ref a, l1, l2, l3, l4] (.ref a :: st) (S, I, R, z) Q := RB_aloadn rfl rfl
theorem w224_42 : RB d 224 42 [l0, l1, l2, l3, l4] (.ref a :: st) (S, I, R, z) Q = ((S a).1 = 7 ∧ RB d 224 45 [l0, l1, l2, l3, l4] (va_rf (R a 23) :: st) (S, I, R, z) Q) := RB_getR rfl rfl
theorem w224_45 : RB d 224 45 [l0, .int x, l2, l3, l4] st (S, I, R, z) Q = RB d 224 46 [l0, .int x, l2, l3, l4] (.int x :: st) (S, I, R, z) Q := RB_iloadn rfl rfl
theorem w224_46 : RB d 224 46 [l0, l1, .int x, l3, l4] st (S, I, R, z) Q = RB d 224 47 [l0, l1, .int x, l3, l4] (.int x :: st) (S, I, R, z) Q := RB_iloadn rfl rfl
theorem w224_47 : RB d 224 47 [l0, l1, l2, l3, l4] (.int x :: .int i :: .ref a :: st) (S, I, R, z) Q = (((S a).1 = 9 ∧ aIx i (S a).2 ∧ 16 ≤ a) ∧ RB d 224 48 [l0, l1, l2, l3, l4] st (S, aW I a i.toNatClampNeg x, R, z) Q) := RB_iast rfl
theorem w224_48 : RB d 224 48 [.ref a, l1, l2, l3, l4] st (S, I, R, z) Q = RB d 224 49 [.ref a, l1, l2, l3, l4] (.ref a :: st) (S, I, R, z) Q := RB_aloadn rfl rfl
theorem w224_49 : RB d 224 49 [l0, l1, l2, l3, l4] (.ref a :: st) (S, I, R, z) Q = ((S a).1 = 7 ∧ RB d 224 52 [l0, l1, l2, l3, l4] (va_rf (R a 24) :: st) (S, I, R, z) Q) := RB_getR rfl rfl
theorem w224_52 : RB d 224 52 [l0, .int x, l2, l3, l4] st (S, I, R, z) Q = RB d 224 53 [l0, .int x, l2, l3, l4] (.int x :: st) (S, I, R, z) Q := RB_iloadn rfl rfl
theorem w224_53 : RB d 224 53 [l0, l1, .int x, l3, l4] st (S, I, R, z) Q = RB d 224 54 [l0, l1, .int x, l3, l4] (.int x :: st) (S, I, R, z) Q := RB_iloadn rfl rfl
theorem w224_54 : RB d 224 54 [l0, l1, l2, l3, l4] (.int x :: st) (S, I, R, z) Q = ((0 ≤ x → RB d 224 61 [l0, l1, l2, l3, l4] st (S, I, R, z) Q) ∧ (¬ 0 ≤ x → RB d 224 57 [l0, l1, l2, l3, l4] st (S, I, R, z) Q)) := RB_ge0 rfl (by decide) rfl
theorem w224_57 : RB d 224 57 [l0, l1, l2, l3, l4] st (S, I, R, z) Q = RB d 224 58 [l0, l1, l2, l3, l4] (.int 0 :: st) (S, I, R, z) Q := RB_iconst rfl ki0
theorem w224_58 : RB d 224 58 [l0, l1, l2, l3, l4] st (S, I, R, z) Q = RB d 224 62 [l0, l1, l2, l3, l4] st (S, I, R, z) Q := RB_goto rfl (by decide) rfl
theorem w224_61 : RB d 224 61 [l0, l1, l2, .int x, l4] st (S, I, R, z) Q = RB d 224 62 [l0, l1, l2, .int x, l4] (.int x :: st) (S, I, R, z) Q := RB_iloadn rfl rfl
theorem w224_62 : RB d 224 62 [l0, l1, l2, l3, l4] (.int x :: .int i :: .ref a :: st) (S, I, R, z) Q = (((S a).1 = 9 ∧ aIx i (S a).2 ∧ 16 ≤ a) ∧ RB d 224 63 [l0, l1, l2, l3, l4] st (S, aW I a i.toNatClampNeg x, R, z) Q) := RB_iast rfl
theorem w224_63 : RB d 224 63 [l0, l1, l2, l3, l4] st (S, I, R, z) Q = RB d 224 64 [l0, l1, l2, l3, l4] (.int 0 :: st) (S, I, R, z) Q := RB_iconst rfl ki0
theorem w224_64 : RB d 224 64 [l0, l1, l2, l3, l4] (.int x :: st) (S, I, R, z) Q = RB d 224 66 [l0, l1, l2, l3, .int x] st (S, I, R, z) Q := RB_istore rfl (Nat.le_of_ble_eq_true rfl) rfl
theorem w224_66 : RB d 224 66 [l0, l1, l2, l3, .int x] st (S, I, R, z) Q = RB d 224 68 [l0, l1, l2, l3, .int x] (.int x :: st) (S, I, R, z) Q := RB_iload rfl rfl
theorem w224_68 : RB d 224 68 [l0, l1, l2, l3, l4] st (S, I, R, z) Q = RB d 224 70 [l0, l1, l2, l3, l4] (.int 24 :: st) (S, I, R, z) Q := RB_bipush rfl kb24
theorem w224_70 : RB d 224 70 [l0, l1, l2, l3, l4] (.int y :: .int x :: st) (S, I, R, z) Q = ((y ≤ x → RB d 224 92 [l0, l1, l2, l3, l4] st (S, I, R, z) Q) ∧ (¬ y ≤ x → RB d 224 73 [l0, l1, l2, l3, l4] st (S, I, R, z) Q)) := RB_ige rfl (by decide) rfl
theorem w224_73 : RB d 224 73 [.ref a, l1, l2, l3, l4] st (S, I, R, z) Q = RB d 224 74 [.ref a, l1, l2, l3, l4] (.ref a :: st) (S, I, R, z) Q := RB_aloadn rfl rfl
theorem w224_74 : RB d 224 74 [l0, l1, l2, l3, l4] (.ref a :: st) (S, I, R, z) Q = ((S a).1 = 7 ∧ RB d 224 77 [l0, l1, l2, l3, l4] (va_rf (R a 25) :: st) (S, I, R, z) Q) := RB_getR rfl rfl
theorem w224_77 : RB d 224 77 [l0, l1, l2, l3, l4] st (S, I, R, z) Q = RB d 224 79 [l0, l1, l2, l3, l4] (.int 24 :: st) (S, I, R, z) Q := RB_bipush rfl kb24
theorem w224_79 : RB d 224 79 [l0, .int x, l2, l3, l4] st (S, I, R, z) Q = RB d 224 80 [l0, .int x, l2, l3, l4] (.int x :: st) (S, I, R, z) Q := RB_iloadn rfl rfl
theorem w224_80 : RB d 224 80 [l0, l1, l2, l3, l4] (.int y :: .int x :: st) (S, I, R, z) Q = RB d 224 81 [l0, l1, l2, l3, l4] (.int (x * y) :: st) (S, I, R, z) Q := RB_imul rfl
theorem w224_81 : RB d 224 81 [l0, l1, l2, l3, .int x] st (S, I, R, z) Q = RB d 224 83 [l0, l1, l2, l3, .int x] (.int x :: st) (S, I, R, z) Q := RB_iload rfl rfl
theorem w224_83 : RB d 224 83 [l0, l1, l2, l3, l4] (.int y :: .int x :: st) (S, I, R, z) Q = RB d 224 84 [l0, l1, l2, l3, l4] (.int (x + y) :: st) (S, I, R, z) Q := RB_iadd rfl
theorem w224_84 : RB d 224 84 [l0, l1, l2, l3, l4] st (S, I, R, z) Q = RB d 224 85 [l0, l1, l2, l3, l4] (.int 0 :: st) (S, I, R, z) Q := RB_iconst rfl ki0
theorem w224_85 : RB d 224 85 [l0, l1, l2, l3, l4] (.int x :: .int i :: .ref a :: st) (S, I, R, z) Q = (((S a).1 = 9 ∧ aIx i (S a).2 ∧ 16 ≤ a) ∧ RB d 224 86 [l0, l1, l2, l3, l4] st (S, aW I a i.toNatClampNeg x, R, z) Q) := RB_iast rfl
theorem w224_86 : RB d 224 86 [l0, l1, l2, l3, .int x] st (S, I, R, z) Q = RB d 224 89 [l0, l1, l2, l3, .int (x + 1)] st (S, I, R, z) Q := RB_iinc rfl rfl (Nat.le_of_ble_eq_true rfl) ki1 rfl
theorem w224_89 : RB d 224 89 [l0, l1, l2, l3, l4] st (S, I, R, z) Q = RB d 224 66 [l0, l1, l2, l3, l4] st (S, I, R, z) Q := RB_goto rfl (by decide) rfl
theorem w224_92 : RB d 224 92 [.ref a, l1, l2, l3, l4] st (S, I, R, z) Q = RB d 224 93 [.ref a, l1, l2, l3, l4] (.ref a :: st) (S, I, R, z) Q := RB_aloadn rfl rfl
theorem w224_93 : RB d 224 93 [l0, l1, l2, l3, l4] (.ref a :: st) (S, I, R, z) Q = ((S a).1 = 7 ∧ RB d 224 96 [l0, l1, l2, l3, l4] (va_rf (R a 24) :: st) (S, I, R, z) Q) := RB_getR rfl rfl
theorem w224_96 : RB d 224 96 [l0, .int x, l2, l3, l4] st (S, I, R, z) Q = RB d 224 97 [l0, .int x, l2, l3, l4] (.int x :: st) (S, I, R, z) Q := RB_iloadn rfl rfl
theorem w224_97 : RB d 224 97 [l0, l1, l2, l3, l4] (.int i :: .ref a :: st) (S, I, R, z) Q = (((S a).1 = 9 ∧ aIx i (S a).2) ∧ RB d 224 98 [l0, l1, l2, l3, l4] (.int (I a i.toNatClampNeg) :: st) (S, I, R, z) Q) := RB_iald rfl
theorem w224_98 : RB d 224 98 [l0, l1, l2, l3, l4] [.int x] (S, I, R, z) Q = Q (some (.int x)) (S, I, R, z) := RB_iret rfl rfl rfl
/-! 225: HangedWordModel.mark -/
theorem w225_0 : RB d 225 0 [l0, .int x, l2, l3] st (S, I, R, z) Q = RB d 225 1 [l0, .int x, l2, l3] (.int x :: st) (S, I, R, z) Q := RB_iloadn rfl rfl
set_option maxRecDepth 20000 in
theorem w225_1 : RB d 225 1 [l0, l1, l2, l3] [.int x0] (S, I, R, z) Q = RM d 222 [.int x0] (S, I, R, z) (fun v τ => RB d 225 4 [l0, l1, l2, l3] (aPush v []) τ Q) := RB_callS (n := 1) (t := 1) (k := 219) (ins := .invokestatic 219) rfl rfl rfl (Nat.le_of_ble_eq_true rfl) (Nat.le_of_ble_eq_true rfl) rfl rfl
theorem w225_4 : RB d 225 4 [l0, l1, l2, l3] (.int x :: st) (S, I, R, z) Q = ((x = 0 → RB d 225 7 [l0, l1, l2, l3] st (S, I, R, z) Q) ∧ (¬ x = 0 → RB d 225 10 [l0, l1, l2, l3] st (S, I, R, z) Q)) := RB_ne0 rfl (by decide) rfl
theorem w225_7 : RB d 225 7 [l0, l1, l2, l3] st (S, I, R, z) Q = RB d 225 9 [l0, l1, l2, l3] (.int (-1000000001) :: st) (S, I, R, z) Q := RB_ldc rfl rfl
theorem w225_9 : RB d 225 9 [l0, l1, l2, l3] [.int x] (S, I, R, z) Q = Q (some (.int x)) (S, I, R, z) := RB_iret rfl rfl rfl
theorem w225_10 : RB d 225 10 [.ref a, l1, l2, l3] st (S, I, R, z) Q = RB d 225 11 [.ref a, l1, l2, l3] (.ref a :: st) (S, I, R, z) Q := RB_aloadn rfl rfl
theorem w225_11 : RB d 225 11 [l0, l1, l2, l3] (.ref a :: st) (S, I, R, z) Q = ((S a).1 = 7 ∧ RB d 225 14 [l0, l1, l2, l3] (va_rf (R a 23) :: st) (S, I, R, z) Q) := RB_getR rfl rfl
theorem w225_14 : RB d 225 14 [l0, .int x, l2, l3] st (S, I, R, z) Q = RB d 225 15 [l0, .int x, l2, l3] (.int x :: st) (S, I, R, z) Q := RB_iloadn rfl rfl
theorem w225_15 : RB d 225 15 [l0, l1, l2, l3] (.int i :: .ref a :: st) (S, I, R, z) Q = (((S a).1 = 9 ∧ aIx i (S a).2) ∧ RB d 225 16 [l0, l1, l2, l3] (.int (I a i.toNatClampNeg) :: st) (S, I, R, z) Q) := RB_iald rfl
theorem w225_16 : RB d 225 16 [l0, l1, l2, l3] (.int x :: st) (S, I, R, z) Q = ((0 ≤ x → RB d 225 22 [l0, l1, l2, l3] st (S, I, R, z) Q) ∧ (¬ 0 ≤ x → RB d 225 19 [l0, l1, l2, l3] st (S, I, R, z) Q)) := RB_ge0 rfl (by decide) rfl
theorem w225_19 : RB d 225 19 [l0, l1, l2, l3] st (S, I, R, z) Q = RB d 225 21 [l0, l1, l2, l3] (.int (-1000000011) :: st) (S, I, R, z) Q := RB_ldc rfl rfl
theorem w225_21 : RB d 225 21 [l0, l1, l2, l3] [.int x] (S, I, R, z) Q = Q (some (.int x)) (S, I, R, z) := RB_iret rfl rfl rfl
theorem w225_22 : RB d 225 22 [l0, l1, .int x, l3] st (S, I, R, z) Q = RB d 225 23 [l0, l1, .int x, l3] (.int x :: st) (S, I, R, z) Q := RB_iloadn rfl rfl
theorem w225_23 : RB d 225 23 [l0, l1, l2, l3] st (S, I, R, z) Q = RB d 225 24 [l0, l1, l2, l3] (.int 0 :: st) (S, I, R, z) Q := RB_iconst rfl ki0
theorem w225_24 : RB d 225 24 [.ref a, l1, l2, l3] st (S, I, R, z) Q = RB d 225 25 [.ref a, l1, l2, l3] (.ref a :: st) (S, I, R, z) Q := RB_aloadn rfl rfl
theorem w225_25 : RB d 225 25 [l0, l1, l2, l3] (.ref a :: st) (S, I, R, z) Q = ((S a).1 = 7 ∧ RB d 225 28 [l0, l1, l2, l3] (va_rf (R a 24) :: st) (S, I, R, z) Q) := RB_getR rfl rfl
theorem w225_28 : RB d 225 28 [l0, .int x, l2, l3] st (S, I, R, z) Q = RB d 225 29 [l0, .int x, l2, l3] (.int x :: st) (S, I, R, z) Q := RB_iloadn rfl rfl
theorem w225_29 : RB d 225 29 [l0, l1, l2, l3] (.int i :: .ref a :: st) (S, I, R, z) Q = (((S a).1 = 9 ∧ aIx i (S a).2) ∧ RB d 225 30 [l0, l1, l2, l3] (.int (I a i.toNatClampNeg) :: st) (S, I, R, z) Q) := RB_iald rfl
theorem w225_30 : RB d 225 30 [l0, l1, l2, l3] st (S, I, R, z) Q = RB d 225 31 [l0, l1, l2, l3] (.int 1 :: st) (S, I, R, z) Q := RB_iconst rfl ki1
theorem w225_31 : RB d 225 31 [l0, l1, l2, l3] (.int y :: .int x :: st) (S, I, R, z) Q = RB d 225 32 [l0, l1, l2, l3] (.int (x - y) :: st) (S, I, R, z) Q := RB_isub rfl
set_option maxRecDepth 20000 in
theorem w225_32 : RB d 225 32 [l0, l1, l2, l3] [.int x2, .int x1, .int x0] (S, I, R, z) Q = RM d 135 [.int x0, .int x1, .int x2] (S, I, R, z) (fun v τ => RB d 225 35 [l0, l1, l2, l3] (aPush v []) τ Q) := RB_callS (n := 3) (t := 1) (k := 76) (ins := .invokestatic 76) rfl rfl rfl (Nat.le_of_ble_eq_true rfl) (Nat.le_of_ble_eq_true rfl) rfl rfl
theorem w225_35 : RB d 225 35 [l0, l1, l2, l3] (.int x :: st) (S, I, R, z) Q = ((x = 0 → RB d 225 38 [l0, l1, l2, l3] st (S, I, R, z) Q) ∧ (¬ x = 0 → RB d 225 42 [l0, l1, l2, l3] st (S, I, R, z) Q)) := RB_ne0 rfl (by decide) rfl
theorem w225_38 : RB d 225 38 [l0, l1, l2, l3] st (S, I, R, z) Q = RB d 225 41 [l0, l1, l2, l3] (.int (-1000000013) :: st) (S, I, R, z) Q := RB_ldcw rfl rfl
theorem w225_41 : RB d 225 41 [l0, l1, l2, l3] [.int x] (S, I, R, z) Q = Q (some (.int x)) (S, I, R, z) := RB_iret rfl rfl rfl
theorem w225_42 : RB d 225 42 [.ref a, l1, l2, l3] st (S, I, R, z) Q = RB d 225 43 [.ref a, l1, l2, l3] (.ref a :: st) (S, I, R, z) Q := RB_aloadn rfl rfl
theorem w225_43 : RB d 225 43 [l0, l1, l2, l3] (.ref a :: st) (S, I, R, z) Q = ((S a).1 = 7 ∧ RB d 225 46 [l0, l1, l2, l3] (va_rf (R a 23) :: st) (S, I, R, z) Q) := RB_getR rfl rfl
theorem w225_46 : RB d 225 46 [l0, .int x, l2, l3] st (S, I, R, z) Q = RB d 225 47 [l0, .int x, l2, l3] (.int x :: st) (S, I, R, z) Q := RB_iloadn rfl rfl
theorem w225_47 : RB d 225 47 [l0, l1, l2, l3] (.int i :: .ref a :: st) (S, I, R, z) Q = (((S a).1 = 9 ∧ aIx i (S a).2) ∧ RB d 225 48 [l0, l1, l2, l3] (.int (I a i.toNatClampNeg) :: st) (S, I, R, z) Q) := RB_iald rfl
theorem w225_48 : RB d 225 48 [l0, l1, l2, l3] (.int x :: st) (S, I, R, z) Q = ((x = 0 → RB d 225 51 [l0, l1, l2, l3] st (S, I, R, z) Q) ∧ (¬ x = 0 → RB d 225 60 [l0, l1, l2, l3] st (S, I, R, z) Q)) := RB_ne0 rfl (by decide) rfl
theorem w225_51 : RB d 225 51 [l0, l1, l2, .int x] st (S, I, R, z) Q = RB d 225 52 [l0, l1, l2, .int x] (.int x :: st) (S, I, R, z) Q := RB_iloadn rfl rfl
theorem w225_52 : RB d 225 52 [l0, l1, l2, l3] st (S, I, R, z) Q = RB d 225 54 [l0, l1, l2, l3] (.int (-1000000005) :: st) (S, I, R, z) Q := RB_ldc rfl rfl
theorem w225_54 : RB d 225 54 [l0, l1, l2, l3] (.int y :: .int x :: st) (S, I, R, z) Q = ((x = y → RB d 225 57 [l0, l1, l2, l3] st (S, I, R, z) Q) ∧ (¬ x = y → RB d 225 60 [l0, l1, l2, l3] st (S, I, R, z) Q)) := RB_ine rfl (by decide) rfl
theorem w225_57 : RB d 225 57 [l0, l1, l2, l3] st (S, I, R, z) Q = RB d 225 59 [l0, l1, l2, l3] (.int (-1000000012) :: st) (S, I, R, z) Q := RB_ldc rfl rfl
theorem w225_59 : RB d 225 59 [l0, l1, l2, l3] [.int x] (S, I, R, z) Q = Q (some (.int x)) (S, I, R, z) := RB_iret rfl rfl rfl
theorem w225_60 : RB d 225 60 [.ref a, l1, l2, l3] st (S, I, R, z) Q = RB d 225 61 [.ref a, l1, l2, l3] (.ref a :: st) (S, I, R, z) Q := RB_aloadn rfl rfl
theorem w225_61 : RB d 225 61 [l0, l1, l2, l3] (.ref a :: st) (S, I, R, z) Q = ((S a).1 = 7 ∧ RB d 225 64 [l0, l1, l2, l3] (va_rf (R a 23) :: st) (S, I, R, z) Q) := RB_getR rfl rfl
theorem w225_64 : RB d 225 64 [l0, .int x, l2, l3] st (S, I, R, z) Q = RB d 225 65 [l0, .int x, l2, l3] (.int x :: st) (S, I, R, z) Q := RB_iloadn rfl rfl
theorem w225_65 : RB d 225 65 [l0, l1, l2, l3] (.int i :: .ref a :: st) (S, I, R, z) Q = (((S a).1 = 9 ∧ aIx i (S a).2) ∧ RB d 225 66 [l0, l1, l2, l3] (.int (I a i.toNatClampNeg) :: st) (S, I, R, z) Q) := RB_iald rfl
theorem w225_66 : RB d 225 66 [l0, l1, l2, l3] st (S, I, R, z) Q = RB d 225 67 [l0, l1, l2, l3] (.int 1 :: st) (S, I, R, z) Q := RB_iconst rfl ki1
theorem w225_67 : RB d 225 67 [l0, l1, l2, l3] (.int y :: .int x :: st) (S, I, R, z) Q = ((x = y → RB d 225 70 [l0, l1, l2, l3] st (S, I, R, z) Q) ∧ (¬ x = y → RB d 225 92 [l0, l1, l2, l3] st (S, I, R, z) Q)) := RB_ine rfl (by decide) rfl
theorem w225_70 : RB d 225 70 [l0, l1, l2, .int x] st (S, I, R, z) Q = RB d 225 71 [l0, l1, l2, .int x] (.int x :: st) (S, I, R, z) Q := RB_iloadn rfl rfl
theorem w225_71 : RB d 225 71 [l0, l1, l2, l3] st (S, I, R, z) Q = RB d 225 73 [l0, l1, l2, l3] (.int (-1000000005) :: st) (S, I, R, z) Q := RB_ldc rfl rfl
theorem w225_73 : RB d 225 73 [l0, l1, l2, l3] (.int y :: .int x :: st) (S, I, R, z) Q = ((x = y → RB d 225 92 [l0, l1, l2, l3] st (S, I, R, z) Q) ∧ (¬ x = y → RB d 225 76 [l0, l1, l2, l3] st (S, I, R, z) Q)) := RB_ieq rfl (by decide) rfl
theorem w225_76 : RB d 225 76 [l0, l1, l2, .int x] st (S, I, R, z) Q = RB d 225 77 [l0, l1, l2, .int x] (.int x :: st) (S, I, R, z) Q := RB_iloadn rfl rfl
theorem w225_77 : RB d 225 77 [l0, l1, l2, l3] st (S, I, R, z) Q = RB d 225 80 [l0, l1, l2, l3] (.int (-99999) :: st) (S, I, R, z) Q := RB_ldcw rfl rfl
theorem w225_80 : RB d 225 80 [l0, l1, l2, l3] st (S, I, R, z) Q = RB d 225 83 [l0, l1, l2, l3] (.int 99999 :: st) (S, I, R, z) Q := RB_ldcw rfl rfl
set_option maxRecDepth 20000 in
theorem w225_83 : RB d 225 83 [l0, l1, l2, l3] [.int x2, .int x1, .int x0] (S, I, R, z) Q = RM d 135 [.int x0, .int x1, .int x2] (S, I, R, z) (fun v τ => RB d 225 86 [l0, l1, l2, l3] (aPush v []) τ Q) := RB_callS (n := 3) (t := 1) (k := 76) (ins := .invokestatic 76) rfl rfl rfl (Nat.le_of_ble_eq_true rfl) (Nat.le_of_ble_eq_true rfl) rfl rfl
theorem w225_86 : RB d 225 86 [l0, l1, l2, l3] (.int x :: st) (S, I, R, z) Q = ((x = 0 → RB d 225 89 [l0, l1, l2, l3] st (S, I, R, z) Q) ∧ (¬ x = 0 → RB d 225 92 [l0, l1, l2, l3] st (S, I, R, z) Q)) := RB_ne0 rfl (by decide) rfl
theorem w225_89 : RB d 225 89 [l0, l1, l2, l3] st (S, I, R, z) Q = RB d 225 91 [l0, l1, l2, l3] (.int (-1000000001) :: st) (S, I, R, z) Q := RB_ldc rfl rfl
theorem w225_91 : RB d 225 91 [l0, l1, l2, l3] [.int x] (S, I, R, z) Q = Q (some (.int x)) (S, I, R, z) := RB_iret rfl rfl rfl
theorem w225_92 : RB d 225 92 [.ref a, l1, l2, l3] st (S, I, R, z) Q = RB d 225 93 [.ref a, l1, l2, l3] (.ref a :: st) (S, I, R, z) Q := RB_aloadn rfl rfl
theorem w225_93 : RB d 225 93 [l0, l1, l2, l3] (.ref a :: st) (S, I, R, z) Q = ((S a).1 = 7 ∧ RB d 225 96 [l0, l1, l2, l3] (va_rf (R a 25) :: st) (S, I, R, z) Q) := RB_getR rfl rfl
theorem w225_96 : RB d 225 96 [l0, l1, l2, l3] st (S, I, R, z) Q = RB d 225 98 [l0, l1, l2, l3] (.int 24 :: st) (S, I, R, z) Q := RB_bipush rfl kb24
theorem w225_98 : RB d 225 98 [l0, .int x, l2, l3] st (S, I, R, z) Q = RB d 225 99 [l0, .int x, l2, l3] (.int x :: st) (S, I, R, z) Q := RB_iloadn rfl rfl
theorem w225_99 : RB d 225 99 [l0, l1, l2, l3] (.int y :: .int x :: st) (S, I, R, z) Q = RB d 225 100 [l0, l1, l2, l3] (.int (x * y) :: st) (S, I, R, z) Q := RB_imul rfl
theorem w225_100 : RB d 225 100 [l0, l1, .int x, l3] st (S, I, R, z) Q = RB d 225 101 [l0, l1, .int x, l3] (.int x :: st) (S, I, R, z) Q := RB_iloadn rfl rfl
theorem w225_101 : RB d 225 101 [l0, l1, l2, l3] (.int y :: .int x :: st) (S, I, R, z) Q = RB d 225 102 [l0, l1, l2, l3] (.int (x + y) :: st) (S, I, R, z) Q := RB_iadd rfl
theorem w225_102 : RB d 225 102 [.ref a, l1, l2, l3] st (S, I, R, z) Q = RB d 225 103 [.ref a, l1, l2, l3] (.ref a :: st) (S, I, R, z) Q := RB_aloadn rfl rfl
theorem w225_103 : RB d 225 103 [l0, l1, l2, l3] (.ref a :: st) (S, I, R, z) Q = ((S a).1 = 7 ∧ RB d 225 106 [l0, l1, l2, l3] (va_rf (R a 23) :: st) (S, I, R, z) Q) := RB_getR rfl rfl
theorem w225_106 : RB d 225 106 [l0, .int x, l2, l3] st (S, I, R, z) Q = RB d 225 107 [l0, .int x, l2, l3] (.int x :: st) (S, I, R, z) Q := RB_iloadn rfl rfl
theorem w225_107 : RB d 225 107 [l0, l1, l2, l3] (.int i :: .ref a :: st) (S, I, R, z) Q = (((S a).1 = 9 ∧ aIx i (S a).2) ∧ RB d 225 108 [l0, l1, l2, l3] (.int (I a i.toNatClampNeg) :: st) (S, I, R, z) Q) := RB_iald rfl
theorem w225_108 : RB d 225 108 [l0, l1, l2, l3] (.int x :: st) (S, I, R, z) Q = ((x = 0 → RB d 225 111 [l0, l1, l2, l3] st (S, I, R, z) Q) ∧ (¬ x = 0 → RB d 225 116 [l0, l1, l2, l3] st (S, I, R, z) Q)) := RB_ne0 rfl (by decide) rfl
theorem w225_111 : RB d 225 111 [l0, l1, l2, .int x] st (S, I, R, z) Q = RB d 225 112 [l0, l1, l2, .int x] (.int x :: st) (S, I, R, z) Q := RB_iloadn rfl rfl
theorem w225_112 : RB d 225 112 [l0, l1, l2, l3] (.int x :: st) (S, I, R, z) Q = RB d 225 113 [l0, l1, l2, l3] (.int (x.toInt16.toInt32) :: st) (S, I, R, z) Q := RB_i2s rfl
theorem w225_113 : RB d 225 113 [l0, l1, l2, l3] st (S, I, R, z) Q = RB d 225 117 [l0, l1, l2, l3] st (S, I, R, z) Q := RB_goto rfl (by decide) rfl
theorem w225_116 : RB d 225 116 [l0, l1, l2, .int x] st (S, I, R, z) Q = RB d 225 117 [l0, l1, l2, .int x] (.int x :: st) (S, I, R, z) Q := RB_iloadn rfl rfl
theorem w225_117 : RB d 225 117 [l0, l1, l2, l3] (.int x :: .int i :: .ref a :: st) (S, I, R, z) Q = (((S a).1 = 9 ∧ aIx i (S a).2 ∧ 16 ≤ a) ∧ RB d 225 118 [l0, l1, l2, l3] st (S, aW I a i.toNatClampNeg x, R, z) Q) := RB_iast rfl
theorem w225_118 : RB d 225 118 [l0, l1, l2, l3] st (S, I, R, z) Q = RB d 225 119 [l0, l1, l2, l3] (.int 1 :: st) (S, I, R, z) Q := RB_iconst rfl ki1
theorem w225_119 : RB d 225 119 [l0, l1, l2, l3] [.int x] (S, I, R, z) Q = Q (some (.int x)) (S, I, R, z) := RB_iret rfl rfl rfl
/-! 226: HangedWordModel.pour -/
theorem w226_0 : RB d 226 0 [l0, .int x, l2, l3, l4, l5] st (S, I, R, z) Q = RB d 226 1 [l0, .int x, l2, l3, l4, l5] (.int x :: st) (S, I, R, z) Q := RB_iloadn rfl rfl
set_option maxRecDepth 20000 in
theorem w226_1 : RB d 226 1 [l0, l1, l2, l3, l4, l5] [.int x0] (S, I, R, z) Q = RM d 222 [.int x0] (S, I, R, z) (fun v τ => RB d 226 4 [l0, l1, l2, l3, l4, l5] (aPush v []) τ Q) := RB_callS (n := 1) (t := 1) (k := 219) (ins := .invokestatic 219) rfl rfl rfl (Nat.le_of_ble_eq_true rfl) (Nat.le_of_ble_eq_true rfl) rfl rfl
theorem w226_4 : RB d 226 4 [l0, l1, l2, l3, l4, l5] (.int x :: st) (S, I, R, z) Q = ((x = 0 → RB d 226 7 [l0, l1, l2, l3, l4, l5] st (S, I, R, z) Q) ∧ (¬ x = 0 → RB d 226 10 [l0, l1, l2, l3, l4, l5] st (S, I, R, z) Q)) := RB_ne0 rfl (by decide) rfl
theorem w226_7 : RB d 226 7 [l0, l1, l2, l3, l4, l5] st (S, I, R, z) Q = RB d 226 9 [l0, l1, l2, l3, l4, l5] (.int (-1000000001) :: st) (S, I, R, z) Q := RB_ldc rfl rfl
theorem w226_9 : RB d 226 9 [l0, l1, l2, l3, l4, l5] [.int x] (S, I, R, z) Q = Q (some (.int x)) (S, I, R, z) := RB_iret rfl rfl rfl
theorem w226_10 : RB d 226 10 [.ref a, l1, l2, l3, l4, l5] st (S, I, R, z) Q = RB d 226 11 [.ref a, l1, l2, l3, l4, l5] (.ref a :: st) (S, I, R, z) Q := RB_aloadn rfl rfl
theorem w226_11 : RB d 226 11 [l0, l1, l2, l3, l4, l5] (.ref a :: st) (S, I, R, z) Q = ((S a).1 = 7 ∧ RB d 226 14 [l0, l1, l2, l3, l4, l5] (va_rf (R a 23) :: st) (S, I, R, z) Q) := RB_getR rfl rfl
theorem w226_14 : RB d 226 14 [l0, .int x, l2, l3, l4, l5] st (S, I, R, z) Q = RB d 226 15 [l0, .int x, l2, l3, l4, l5] (.int x :: st) (S, I, R, z) Q := RB_iloadn rfl rfl
theorem w226_15 : RB d 226 15 [l0, l1, l2, l3, l4, l5] (.int i :: .ref a :: st) (S, I, R, z) Q = (((S a).1 = 9 ∧ aIx i (S a).2) ∧ RB d 226 16 [l0, l1, l2, l3, l4, l5] (.int (I a i.toNatClampNeg) :: st) (S, I, R, z) Q) := RB_iald rfl
theorem w226_16 : RB d 226 16 [l0, l1, l2, l3, l4, l5] (.int x :: st) (S, I, R, z) Q = ((0 ≤ x → RB d 226 22 [l0, l1, l2, l3, l4, l5] st (S, I, R, z) Q) ∧ (¬ 0 ≤ x → RB d 226 19 [l0, l1, l2, l3, l4, l5] st (S, I, R, z) Q)) := RB_ge0 rfl (by decide) rfl
theorem w226_19 : RB d 226 19 [l0, l1, l2, l3, l4, l5] st (S, I, R, z) Q = RB d 226 21 [l0, l1, l2, l3, l4, l5] (.int (-1000000011) :: st) (S, I, R, z) Q := RB_ldc rfl rfl
theorem w226_21 : RB d 226 21 [l0, l1, l2, l3, l4, l5] [.int x] (S, I, R, z) Q = Q (some (.int x)) (S, I, R, z) := RB_iret rfl rfl rfl
theorem w226_22 : RB d 226 22 [l0, l1, l2, l3, l4, l5] st (S, I, R, z) Q = RB d 226 23 [l0, l1, l2, l3, l4, l5] (.int 0 :: st) (S, I, R, z) Q := RB_iconst rfl ki0
theorem w226_23 : RB d 226 23 [l0, l1, l2, l3, l4, l5] (.int x :: st) (S, I, R, z) Q = RB d 226 24 [l0, l1, .int x, l3, l4, l5] st (S, I, R, z) Q := RB_istoren rfl (Nat.le_of_ble_eq_true rfl) rfl
theorem w226_24 : RB d 226 24 [l0, l1, l2, l3, l4, l5] st (S, I, R, z) Q = RB d 226 25 [l0, l1, l2, l3, l4, l5] (.int 0 :: st) (S, I, R, z) Q := RB_iconst rfl ki0
theorem w226_25 : RB d 226 25 [l0, l1, l2, l3, l4, l5] (.int x :: st) (S, I, R, z) Q = RB d 226 26 [l0, l1, l2, .int x, l4, l5] st (S, I, R, z) Q := RB_istoren rfl (Nat.le_of_ble_eq_true rfl) rfl
theorem w226_26 : RB d 226 26 [l0, l1, l2, .int x, l4, l5] st (S, I, R, z) Q = RB d 226 27 [l0, l1, l2, .int x, l4, l5] (.int x :: st) (S, I, R, z) Q := RB_iloadn rfl rfl
theorem w226_27 : RB d 226 27 [.ref a, l1, l2, l3, l4, l5] st (S, I, R, z) Q = RB d 226 28 [.ref a, l1, l2, l3, l4, l5] (.ref a :: st) (S, I, R, z) Q := RB_aloadn rfl rfl
theorem w226_28 : RB d 226 28 [l0, l1, l2, l3, l4, l5] (.ref a :: st) (S, I, R, z) Q = ((S a).1 = 7 ∧ RB d 226 31 [l0, l1, l2, l3, l4, l5] (va_rf (R a 24) :: st) (S, I, R, z) Q) := RB_getR rfl rfl
theorem w226_31 : RB d 226 31 [l0, .int x, l2, l3, l4, l5] st (S, I, R, z) Q = RB d 226 32 [l0, .int x, l2, l3, l4, l5] (.int x :: st) (S, I, R, z) Q := RB_iloadn rfl rfl
theorem w226_32 : RB d 226 32 [l0, l1, l2, l3, l4, l5] (.int i :: .ref a :: st) (S, I, R, z) Q = (((S a).1 = 9 ∧ aIx i (S a).2) ∧ RB d 226 33 [l0, l1, l2, l3, l4, l5] (.int (I a i.toNatClampNeg) :: st) (S, I, R, z) Q) := RB_iald rfl
theorem w226_33 : RB d 226 33 [l0, l1, l2, l3, l4, l5] (.int y :: .int x :: st) (S, I, R, z) Q = ((y ≤ x → RB d 226 117 [l0, l1, l2, l3, l4, l5] st (S, I, R, z) Q) ∧ (¬ y ≤ x → RB d 226 36 [l0, l1, l2, l3, l4, l5] st (S, I, R, z) Q)) := RB_ige rfl (by decide) rfl
theorem w226_36 : RB d 226 36 [l0, l1, l2, .int x, l4, l5] st (S, I, R, z) Q = RB d 226 37 [l0, l1, l2, .int x, l4, l5] (.int x :: st) (S, I, R, z) Q := RB_iloadn rfl rfl
theorem w226_37 : RB d 226 37 [.ref a, l1, l2, l3, l4, l5] st (S, I, R, z) Q = RB d 226 38 [.ref a, l1, l2, l3, l4, l5] (.ref a :: st) (S, I, R, z) Q := RB_aloadn rfl rfl
theorem w226_38 : RB d 226 38 [l0, l1, l2, l3, l4, l5] (.ref a :: st) (S, I, R, z) Q = ((S a).1 = 7 ∧ RB d 226 41 [l0, l1, l2, l3, l4, l5] (va_rf (R a 0) :: st) (S, I, R, z) Q) := RB_getR rfl rfl
theorem w226_41 : RB d 226 41 [l0, l1, l2, l3, l4, l5] st (S, I, R, z) Q = RB d 226 42 [l0, l1, l2, l3, l4, l5] (.int 1 :: st) (S, I, R, z) Q := RB_iconst rfl ki1
theorem w226_42 : RB d 226 42 [l0, l1, l2, l3, l4, l5] (.int i :: .ref a :: st) (S, I, R, z) Q = (((S a).1 = 9 ∧ aIx i (S a).2) ∧ RB d 226 43 [l0, l1, l2, l3, l4, l5] (.int (I a i.toNatClampNeg) :: st) (S, I, R, z) Q) := RB_iald rfl
theorem w226_43 : RB d 226 43 [l0, l1, l2, l3, l4, l5] (.int y :: .int x :: st) (S, I, R, z) Q = ((y ≤ x → RB d 226 117 [l0, l1, l2, l3, l4, l5] st (S, I, R, z) Q) ∧ (¬ y ≤ x → RB d 226 46 [l0, l1, l2, l3, l4, l5] st (S, I, R, z) Q)) := RB_ige rfl (by decide) rfl
theorem w226_46 : RB d 226 46 [.ref a, l1, l2, l3, l4, l5] st (S, I, R, z) Q = RB d 226 47 [.ref a, l1, l2, l3, l4, l5] (.ref a :: st) (S, I, R, z) Q := RB_aloadn rfl rfl
theorem w226_47 : RB d 226 47 [l0, l1, l2, l3, l4, l5] (.ref a :: st) (S, I, R, z) Q = ((S a).1 = 7 ∧ RB d 226 50 [l0, l1, l2, l3, l4, l5] (va_rf (R a 25) :: st) (S, I, R, z) Q) := RB_getR rfl rfl
theorem w226_50 : RB d 226 50 [l0, l1, l2, l3, l4, l5] st (S, I, R, z) Q = RB d 226 52 [l0, l1, l2, l3, l4, l5] (.int 24 :: st) (S, I, R, z) Q := RB_bipush rfl kb24
theorem w226_52 : RB d 226 52 [l0, .int x, l2, l3, l4, l5] st (S, I, R, z) Q = RB d 226 53 [l0, .int x, l2, l3, l4, l5] (.int x :: st) (S, I, R, z) Q := RB_iloadn rfl rfl
theorem w226_53 : RB d 226 53 [l0, l1, l2, l3, l4, l5] (.int y :: .int x :: st) (S, I, R, z) Q = RB d 226 54 [l0, l1, l2, l3, l4, l5] (.int (x * y) :: st) (S, I, R, z) Q := RB_imul rfl
theorem w226_54 : RB d 226 54 [l0, l1, l2, .int x, l4, l5] st (S, I, R, z) Q = RB d 226 55 [l0, l1, l2, .int x, l4, l5] (.int x :: st) (S, I, R, z) Q := RB_iloadn rfl rfl
theorem w226_55 : RB d 226 55 [l0, l1, l2, l3, l4, l5] (.int y :: .int x :: st) (S, I, R, z) Q = RB d 226 56 [l0, l1, l2, l3, l4, l5] (.int (x + y) :: st) (S, I, R, z) Q := RB_iadd rfl
theorem w226_56 : RB d 226 56 [l0, l1, l2, l3, l4, l5] (.int i :: .ref a :: st) (S, I, R, z) Q = (((S a).1 = 9 ∧ aIx i (S a).2) ∧ RB d 226 57 [l0, l1, l2, l3, l4, l5] (.int (I a i.toNatClampNeg) :: st) (S, I, R, z) Q) := RB_iald rfl
theorem w226_57 : RB d 226 57 [l0, l1, l2, l3, l4, l5] (.int x :: st) (S, I, R, z) Q = RB d 226 59 [l0, l1, l2, l3, .int x, l5] st (S, I, R, z) Q := RB_istore rfl (Nat.le_of_ble_eq_true rfl) rfl
theorem w226_59 : RB d 226 59 [l0, l1, l2, l3, .int x, l5] st (S, I, R, z) Q = RB d 226 61 [l0, l1, l2, l3, .int x, l5] (.int x :: st) (S, I, R, z) Q := RB_iload rfl rfl
theorem w226_61 : RB d 226 61 [l0, l1, l2, l3, l4, l5] st (S, I, R, z) Q = RB d 226 63 [l0, l1, l2, l3, l4, l5] (.int (-1000000005) :: st) (S, I, R, z) Q := RB_ldc rfl rfl
theorem w226_63 : RB d 226 63 [l0, l1, l2, l3, l4, l5] (.int y :: .int x :: st) (S, I, R, z) Q = ((x = y → RB d 226 66 [l0, l1, l2, l3, l4, l5] st (S, I, R, z) Q) ∧ (¬ x = y → RB d 226 74 [l0, l1, l2, l3, l4, l5] st (S, I, R, z) Q)) := RB_ine rfl (by decide) rfl
theorem w226_66 : RB d 226 66 [.ref a, l1, l2, l3, l4, l5] st (S, I, R, z) Q = RB d 226 67 [.ref a, l1, l2, l3, l4, l5] (.ref a :: st) (S, I, R, z) Q := RB_aloadn rfl rfl
theorem w226_67 : RB d 226 67 [l0, l1, l2, .int x, l4, l5] st (S, I, R, z) Q = RB d 226 68 [l0, l1, l2, .int x, l4, l5] (.int x :: st) (S, I, R, z) Q := RB_iloadn rfl rfl
set_option maxRecDepth 20000 in
theorem w226_68 : RB d 226 68 [l0, l1, l2, l3, l4, l5] [.int x0, .ref a] (S, I, R, z) Q = ((S a).1 = 7 ∧ RM d 145 [.ref a, .int x0] (S, I, R, z) (fun v τ => RB d 226 71 [l0, l1, l2, l3, l4, l5] (aPush v []) τ Q)) := RB_callV (n := 2) (t := 0) (k := 116) (ins := .invokevirtual 116) rfl rfl rfl (by decide) (Nat.le_of_ble_eq_true rfl) (Nat.le_of_ble_eq_true rfl) rfl rfl
theorem w226_71 : RB d 226 71 [l0, l1, l2, l3, l4, l5] st (S, I, R, z) Q = RB d 226 82 [l0, l1, l2, l3, l4, l5] st (S, I, R, z) Q := RB_goto rfl (by decide) rfl
theorem w226_74 : RB d 226 74 [l0, l1, l2, l3, .int x, l5] st (S, I, R, z) Q = RB d 226 76 [l0, l1, l2, l3, .int x, l5] (.int x :: st) (S, I, R, z) Q := RB_iload rfl rfl
theorem w226_76 : RB d 226 76 [l0, l1, l2, l3, l4, l5] st (S, I, R, z) Q = RB d 226 77 [l0, l1, l2, l3, l4, l5] (.int 1 :: st) (S, I, R, z) Q := RB_iconst rfl ki1
theorem w226_77 : RB d 226 77 [l0, l1, l2, l3, l4, l5] st (S, I, R, z) Q = RB d 226 79 [l0, l1, l2, l3, l4, l5] (.int 99 :: st) (S, I, R, z) Q := RB_bipush rfl kb99
set_option maxRecDepth 20000 in
theorem w226_79 : RB d 226 79 [l0, l1, l2, l3, l4, l5] [.int x2, .int x1, .int x0] (S, I, R, z) Q = RM d 136 [.int x0, .int x1, .int x2] (S, I, R, z) (fun v τ => RB d 226 82 [l0, l1, l2, l3, l4, l5] (aPush v []) τ Q) := RB_callS (n := 3) (t := 1) (k := 141) (ins := .invokestatic 141) rfl rfl rfl (Nat.le_of_ble_eq_true rfl) (Nat.le_of_ble_eq_true rfl) rfl rfl
theorem w226_82 : RB d 226 82 [l0, l1, l2, l3, l4, l5] (.int x :: st) (S, I, R, z) Q = RB d 226 84 [l0, l1, l2, l3, l4, .int x] st (S, I, R, z) Q := RB_istore rfl (Nat.le_of_ble_eq_true rfl) rfl
theorem w226_84 : RB d 226 84 [l0, l1, .int x, l3, l4, l5] st (S, I, R, z) Q = RB d 226 85 [l0, l1, .int x, l3, l4, l5] (.int x :: st) (S, I, R, z) Q := RB_iloadn rfl rfl
theorem w226_85 : RB d 226 85 [.ref a, l1, l2, l3, l4, l5] st (S, I, R, z) Q = RB d 226 86 [.ref a, l1, l2, l3, l4, l5] (.ref a :: st) (S, I, R, z) Q := RB_aloadn rfl rfl
theorem w226_86 : RB d 226 86 [l0, l1, l2, l3, l4, l5] st (S, I, R, z) Q = RB d 226 88 [l0, l1, l2, l3, l4, l5] (.int 8 :: st) (S, I, R, z) Q := RB_bipush rfl kb8
theorem w226_88 : RB d 226 88 [l0, l1, l2, l3, l4, l5] st (S, I, R, z) Q = RB d 226 89 [l0, l1, l2, l3, l4, l5] (.int 2 :: st) (S, I, R, z) Q := RB_iconst rfl ki2
theorem w226_89 : RB d 226 89 [l0, l1, l2, .int x, l4, l5] st (S, I, R, z) Q = RB d 226 90 [l0, l1, l2, .int x, l4, l5] (.int x :: st) (S, I, R, z) Q := RB_iloadn rfl rfl
theorem w226_90 : RB d 226 90 [l0, l1, l2, l3, l4, l5] (.int y :: .int x :: st) (S, I, R, z) Q = RB d 226 91 [l0, l1, l2, l3, l4, l5] (.int (x * y) :: st) (S, I, R, z) Q := RB_imul rfl
theorem w226_91 : RB d 226 91 [l0, l1, l2, l3, l4, l5] (.int y :: .int x :: st) (S, I, R, z) Q = RB d 226 92 [l0, l1, l2, l3, l4, l5] (.int (x + y) :: st) (S, I, R, z) Q := RB_iadd rfl
theorem w226_92 : RB d 226 92 [l0, l1, l2, l3, l4, l5] st (S, I, R, z) Q = RB d 226 93 [l0, l1, l2, l3, l4, l5] (.int 1 :: st) (S, I, R, z) Q := RB_iconst rfl ki1
theorem w226_93 : RB d 226 93 [l0, l1, l2, l3, l4, l5] (.int y :: .int x :: st) (S, I, R, z) Q = RB d 226 94 [l0, l1, l2, l3, l4, l5] (.int (x + y) :: st) (S, I, R, z) Q := RB_iadd rfl
theorem w226_94 : RB d 226 94 [l0, l1, l2, l3, l4, .int x] st (S, I, R, z) Q = RB d 226 96 [l0, l1, l2, l3, l4, .int x] (.int x :: st) (S, I, R, z) Q := RB_iload rfl rfl
set_option maxRecDepth 20000 in
theorem w226_96 : RB d 226 96 [l0, l1, l2, l3, l4, l5] [.int x1, .int x0, .ref a, s0] (S, I, R, z) Q = ((S a).1 = 7 ∧ RM d 142 [.ref a, .int x0, .int x1] (S, I, R, z) (fun v τ => RB d 226 99 [l0, l1, l2, l3, l4, l5] (aPush v [s0]) τ Q)) := RB_callV (n := 3) (t := 0) (k := 107) (ins := .invokevirtual 107) rfl rfl rfl (by decide) (Nat.le_of_ble_eq_true rfl) (Nat.le_of_ble_eq_true rfl) rfl rfl
theorem w226_99 : RB d 226 99 [l0, l1, l2, l3, l4, .int x] st (S, I, R, z) Q = RB d 226 101 [l0, l1, l2, l3, l4, .int x] (.int x :: st) (S, I, R, z) Q := RB_iload rfl rfl
theorem w226_101 : RB d 226 101 [l0, l1, l2, l3, l4, l5] (.int y :: .int x :: st) (S, I, R, z) Q = ((x = y → RB d 226 104 [l0, l1, l2, l3, l4, l5] st (S, I, R, z) Q) ∧ (¬ x = y → RB d 226 108 [l0, l1, l2, l3, l4, l5] st (S, I, R, z) Q)) := RB_ine rfl (by decide) rfl
theorem w226_104 : RB d 226 104 [l0, l1, l2, l3, l4, l5] st (S, I, R, z) Q = RB d 226 105 [l0, l1, l2, l3, l4, l5] (.int 0 :: st) (S, I, R, z) Q := RB_iconst rfl ki0
theorem w226_105 : RB d 226 105 [l0, l1, l2, l3, l4, l5] st (S, I, R, z) Q = RB d 226 109 [l0, l1, l2, l3, l4, l5] st (S, I, R, z) Q := RB_goto rfl (by decide) rfl
theorem w226_108 : RB d 226 108 [l0, l1, l2, l3, l4, l5] st (S, I, R, z) Q = RB d 226 109 [l0, l1, l2, l3, l4, l5] (.int 1 :: st) (S, I, R, z) Q := RB_iconst rfl ki1
theorem w226_109 : RB d 226 109 [l0, l1, l2, l3, l4, l5] (.int y :: .int x :: st) (S, I, R, z) Q = RB d 226 110 [l0, l1, l2, l3, l4, l5] (.int (x + y) :: st) (S, I, R, z) Q := RB_iadd rfl
theorem w226_110 : RB d 226 110 [l0, l1, l2, l3, l4, l5] (.int x :: st) (S, I, R, z) Q = RB d 226 111 [l0, l1, .int x, l3, l4, l5] st (S, I, R, z) Q := RB_istoren rfl (Nat.le_of_ble_eq_true rfl) rfl
theorem w226_111 : RB d 226 111 [l0, l1, l2, .int x, l4, l5] st (S, I, R, z) Q = RB d 226 114 [l0, l1, l2, .int (x + 1), l4, l5] st (S, I, R, z) Q := RB_iinc rfl rfl (Nat.le_of_ble_eq_true rfl) ki1 rfl
theorem w226_114 : RB d 226 114 [l0, l1, l2, l3, l4, l5] st (S, I, R, z) Q = RB d 226 26 [l0, l1, l2, l3, l4, l5] st (S, I, R, z) Q := RB_goto rfl (by decide) rfl
theorem w226_117 : RB d 226 117 [l0, l1, .int x, l3, l4, l5] st (S, I, R, z) Q = RB d 226 118 [l0, l1, .int x, l3, l4, l5] (.int x :: st) (S, I, R, z) Q := RB_iloadn rfl rfl
theorem w226_118 : RB d 226 118 [l0, l1, l2, l3, l4, l5] [.int x] (S, I, R, z) Q = Q (some (.int x)) (S, I, R, z) := RB_iret rfl rfl rfl
/-! 227: HangedWordModel.reads -/
theorem w227_0 : RB d 227 0 [l0, .int x, l2, l3, l4] st (S, I, R, z) Q = RB d 227 1 [l0, .int x, l2, l3, l4] (.int x :: st) (S, I, R, z) Q := RB_iloadn rfl rfl
set_option maxRecDepth 20000 in
theorem w227_1 : RB d 227 1 [l0, l1, l2, l3, l4] [.int x0] (S, I, R, z) Q = RM d 222 [.int x0] (S, I, R, z) (fun v τ => RB d 227 4 [l0, l1, l2, l3, l4] (aPush v []) τ Q) := RB_callS (n := 1) (t := 1) (k := 219) (ins := .invokestatic 219) rfl rfl rfl (Nat.le_of_ble_eq_true rfl) (Nat.le_of_ble_eq_true rfl) rfl rfl
theorem w227_4 : RB d 227 4 [l0, l1, l2, l3, l4] (.int x :: st) (S, I, R, z) Q = ((x = 0 → RB d 227 15 [l0, l1, l2, l3, l4] st (S, I, R, z) Q) ∧ (¬ x = 0 → RB d 227 7 [l0, l1, l2, l3, l4] st (S, I, R, z) Q)) := RB_eq0 rfl (by decide) rfl
theorem w227_7 : RB d 227 7 [.ref a, l1, l2, l3, l4] st (S, I, R, z) Q = RB d 227 8 [.ref a, l1, l2, l3, l4] (.ref a :: st) (S, I, R, z) Q := RB_aloadn rfl rfl
theorem w227_8 : RB d 227 8 [l0, l1, .int x, l3, l4] st (S, I, R, z) Q = RB d 227 9 [l0, l1, .int x, l3, l4] (.int x :: st) (S, I, R, z) Q := RB_iloadn rfl rfl
set_option maxRecDepth 20000 in
theorem w227_9 : RB d 227 9 [l0, l1, l2, l3, l4] [.int x0, .ref a] (S, I, R, z) Q = ((S a).1 = 7 ∧ RM d 140 [.ref a, .int x0] (S, I, R, z) (fun v τ => RB d 227 12 [l0, l1, l2, l3, l4] (aPush v []) τ Q)) := RB_callV (n := 2) (t := 0) (k := 156) (ins := .invokevirtual 156) rfl rfl rfl (by decide) (Nat.le_of_ble_eq_true rfl) (Nat.le_of_ble_eq_true rfl) rfl rfl
theorem w227_12 : RB d 227 12 [l0, l1, l2, l3, l4] (.int x :: st) (S, I, R, z) Q = ((x = 0 → RB d 227 15 [l0, l1, l2, l3, l4] st (S, I, R, z) Q) ∧ (¬ x = 0 → RB d 227 18 [l0, l1, l2, l3, l4] st (S, I, R, z) Q)) := RB_ne0 rfl (by decide) rfl
theorem w227_15 : RB d 227 15 [l0, l1, l2, l3, l4] st (S, I, R, z) Q = RB d 227 17 [l0, l1, l2, l3, l4] (.int (-1000000001) :: st) (S, I, R, z) Q := RB_ldc rfl rfl
theorem w227_17 : RB d 227 17 [l0, l1, l2, l3, l4] [.int x] (S, I, R, z) Q = Q (some (.int x)) (S, I, R, z) := RB_iret rfl rfl rfl
theorem w227_18 : RB d 227 18 [.ref a, l1, l2, l3, l4] st (S, I, R, z) Q = RB d 227 19 [.ref a, l1, l2, l3, l4] (.ref a :: st) (S, I, R, z) Q := RB_aloadn rfl rfl
theorem w227_19 : RB d 227 19 [l0, l1, l2, l3, l4] (.ref a :: st) (S, I, R, z) Q = ((S a).1 = 7 ∧ RB d 227 22 [l0, l1, l2, l3, l4] (va_rf (R a 23) :: st) (S, I, R, z) Q) := RB_getR rfl rfl
theorem w227_22 : RB d 227 22 [l0, .int x, l2, l3, l4] st (S, I, R, z) Q = RB d 227 23 [l0, .int x, l2, l3, l4] (.int x :: st) (S, I, R, z) Q := RB_iloadn rfl rfl
theorem w227_23 : RB d 227 23 [l0, l1, l2, l3, l4] (.int i :: .ref a :: st) (S, I, R, z) Q = (((S a).1 = 9 ∧ aIx i (S a).2) ∧ RB d 227 24 [l0, l1, l2, l3, l4] (.int (I a i.toNatClampNeg) :: st) (S, I, R, z) Q) := RB_iald rfl
theorem w227_24 : RB d 227 24 [l0, l1, l2, l3, l4] (.int x :: st) (S, I, R, z) Q = ((0 ≤ x → RB d 227 30 [l0, l1, l2, l3, l4] st (S, I, R, z) Q) ∧ (¬ 0 ≤ x → RB d 227 27 [l0, l1, l2, l3, l4] st (S, I, R, z) Q)) := RB_ge0 rfl (by decide) rfl
theorem w227_27 : RB d 227 27 [l0, l1, l2, l3, l4] st (S, I, R, z) Q = RB d 227 29 [l0, l1, l2, l3, l4] (.int (-1000000011) :: st) (S, I, R, z) Q := RB_ldc rfl rfl
theorem w227_29 : RB d 227 29 [l0, l1, l2, l3, l4] [.int x] (S, I, R, z) Q = Q (some (.int x)) (S, I, R, z) := RB_iret rfl rfl rfl
theorem w227_30 : RB d 227 30 [l0, l1, l2, l3, l4] st (S, I, R, z) Q = RB d 227 31 [l0, l1, l2, l3, l4] (.int 0 :: st) (S, I, R, z) Q := RB_iconst rfl ki0
theorem w227_31 : RB d 227 31 [l0, l1, l2, l3, l4] (.int x :: st) (S, I, R, z) Q = RB d 227 32 [l0, l1, l2, .int x, l4] st (S, I, R, z) Q := RB_istoren rfl (Nat.le_of_ble_eq_true rfl) rfl
theorem w227_32 : RB d 227 32 [l0, l1, l2, .int x, l4] st (S, I, R, z) Q = RB d 227 33 [l0, l1, l2, .int x, l4] (.int x :: st) (S, I, R, z) Q := RB_iloadn rfl rfl
theorem w227_33 : RB d 227 33 [.ref a, l1, l2, l3, l4] st (S, I, R, z) Q = RB d 227 34 [.ref a, l1, l2, l3, l4] (.ref a :: st) (S, I, R, z) Q := RB_aloadn rfl rfl
theorem w227_34 : RB d 227 34 [l0, l1, l2, l3, l4] (.ref a :: st) (S, I, R, z) Q = ((S a).1 = 7 ∧ RB d 227 37 [l0, l1, l2, l3, l4] (va_rf (R a 24) :: st) (S, I, R, z) Q) := RB_getR rfl rfl
theorem w227_37 : RB d 227 37 [l0, .int x, l2, l3, l4] st (S, I, R, z) Q = RB d 227 38 [l0, .int x, l2, l3, l4] (.int x :: st) (S, I, R, z) Q := RB_iloadn rfl rfl
theorem w227_38 : RB d 227 38 [l0, l1, l2, l3, l4] (.int i :: .ref a :: st) (S, I, R, z) Q = (((S a).1 = 9 ∧ aIx i (S a).2) ∧ RB d 227 39 [l0, l1, l2, l3, l4] (.int (I a i.toNatClampNeg) :: st) (S, I, R, z) Q) := RB_iald rfl
theorem w227_39 : RB d 227 39 [l0, l1, l2, l3, l4] (.int y :: .int x :: st) (S, I, R, z) Q = ((y ≤ x → RB d 227 89 [l0, l1, l2, l3, l4] st (S, I, R, z) Q) ∧ (¬ y ≤ x → RB d 227 42 [l0, l1, l2, l3, l4] st (S, I, R, z) Q)) := RB_ige rfl (by decide) rfl
theorem w227_42 : RB d 227 42 [.ref a, l1, l2, l3, l4] st (S, I, R, z) Q = RB d 227 43 [.ref a, l1, l2, l3, l4] (.ref a :: st) (S, I, R, z) Q := RB_aloadn rfl rfl
theorem w227_43 : RB d 227 43 [l0, l1, l2, l3, l4] (.ref a :: st) (S, I, R, z) Q = ((S a).1 = 7 ∧ RB d 227 46 [l0, l1, l2, l3, l4] (va_rf (R a 25) :: st) (S, I, R, z) Q) := RB_getR rfl rfl
theorem w227_46 : RB d 227 46 [l0, l1, l2, l3, l4] st (S, I, R, z) Q = RB d 227 48 [l0, l1, l2, l3, l4] (.int 24 :: st) (S, I, R, z) Q := RB_bipush rfl kb24
theorem w227_48 : RB d 227 48 [l0, .int x, l2, l3, l4] st (S, I, R, z) Q = RB d 227 49 [l0, .int x, l2, l3, l4] (.int x :: st) (S, I, R, z) Q := RB_iloadn rfl rfl
theorem w227_49 : RB d 227 49 [l0, l1, l2, l3, l4] (.int y :: .int x :: st) (S, I, R, z) Q = RB d 227 50 [l0, l1, l2, l3, l4] (.int (x * y) :: st) (S, I, R, z) Q := RB_imul rfl
theorem w227_50 : RB d 227 50 [l0, l1, l2, .int x, l4] st (S, I, R, z) Q = RB d 227 51 [l0, l1, l2, .int x, l4] (.int x :: st) (S, I, R, z) Q := RB_iloadn rfl rfl
theorem w227_51 : RB d 227 51 [l0, l1, l2, l3, l4] (.int y :: .int x :: st) (S, I, R, z) Q = RB d 227 52 [l0, l1, l2, l3, l4] (.int (x + y) :: st) (S, I, R, z) Q := RB_iadd rfl
theorem w227_52 : RB d 227 52 [l0, l1, l2, l3, l4] (.int i :: .ref a :: st) (S, I, R, z) Q = (((S a).1 = 9 ∧ aIx i (S a).2) ∧ RB d 227 53 [l0, l1, l2, l3, l4] (.int (I a i.toNatClampNeg) :: st) (S, I, R, z) Q) := RB_iald rfl
theorem w227_53 : RB d 227 53 [l0, l1, l2, l3, l4] (.int x :: st) (S, I, R, z) Q = RB d 227 55 [l0, l1, l2, l3, .int x] st (S, I, R, z) Q := RB_istore rfl (Nat.le_of_ble_eq_true rfl) rfl
theorem w227_55 : RB d 227 55 [l0, l1, l2, l3, .int x] st (S, I, R, z) Q = RB d 227 57 [l0, l1, l2, l3, .int x] (.int x :: st) (S, I, R, z) Q := RB_iload rfl rfl
theorem w227_57 : RB d 227 57 [l0, l1, l2, l3, l4] st (S, I, R, z) Q = RB d 227 59 [l0, l1, l2, l3, l4] (.int (-1000000005) :: st) (S, I, R, z) Q := RB_ldc rfl rfl
theorem w227_59 : RB d 227 59 [l0, l1, l2, l3, l4] (.int y :: .int x :: st) (S, I, R, z) Q = ((x = y → RB d 227 83 [l0, l1, l2, l3, l4] st (S, I, R, z) Q) ∧ (¬ x = y → RB d 227 62 [l0, l1, l2, l3, l4] st (S, I, R, z) Q)) := RB_ieq rfl (by decide) rfl
theorem w227_62 : RB d 227 62 [.ref a, l1, l2, l3, l4] st (S, I, R, z) Q = RB d 227 63 [.ref a, l1, l2, l3, l4] (.ref a :: st) (S, I, R, z) Q := RB_aloadn rfl rfl
theorem w227_63 : RB d 227 63 [l0, l1, l2, .int x, l4] st (S, I, R, z) Q = RB d 227 64 [l0, l1, l2, .int x, l4] (.int x :: st) (S, I, R, z) Q := RB_iloadn rfl rfl
set_option maxRecDepth 20000 in
theorem w227_64 : RB d 227 64 [l0, l1, l2, l3, l4] [.int x0, .ref a] (S, I, R, z) Q = ((S a).1 = 7 ∧ RM d 139 [.ref a, .int x0] (S, I, R, z) (fun v τ => RB d 227 67 [l0, l1, l2, l3, l4] (aPush v []) τ Q)) := RB_callV (n := 2) (t := 0) (k := 95) (ins := .invokevirtual 95) rfl rfl rfl (by decide) (Nat.le_of_ble_eq_true rfl) (Nat.le_of_ble_eq_true rfl) rfl rfl
theorem w227_67 : RB d 227 67 [l0, l1, l2, l3, l4] (.int x :: st) (S, I, R, z) Q = ((x = 0 → RB d 227 81 [l0, l1, l2, l3, l4] st (S, I, R, z) Q) ∧ (¬ x = 0 → RB d 227 70 [l0, l1, l2, l3, l4] st (S, I, R, z) Q)) := RB_eq0 rfl (by decide) rfl
theorem w227_70 : RB d 227 70 [l0, l1, l2, l3, .int x] st (S, I, R, z) Q = RB d 227 72 [l0, l1, l2, l3, .int x] (.int x :: st) (S, I, R, z) Q := RB_iload rfl rfl
theorem w227_72 : RB d 227 72 [.ref a, l1, l2, l3, l4] st (S, I, R, z) Q = RB d 227 73 [.ref a, l1, l2, l3, l4] (.ref a :: st) (S, I, R, z) Q := RB_aloadn rfl rfl
theorem w227_73 : RB d 227 73 [l0, l1, l2, .int x, l4] st (S, I, R, z) Q = RB d 227 74 [l0, l1, l2, .int x, l4] (.int x :: st) (S, I, R, z) Q := RB_iloadn rfl rfl
theorem w227_74 : RB d 227 74 [l0, l1, .int x, l3, l4] st (S, I, R, z) Q = RB d 227 75 [l0, l1, .int x, l3, l4] (.int x :: st) (S, I, R, z) Q := RB_iloadn rfl rfl
set_option maxRecDepth 20000 in
theorem w227_75 : RB d 227 75 [l0, l1, l2, l3, l4] [.int x1, .int x0, .ref a, s0] (S, I, R, z) Q = ((S a).1 = 7 ∧ RM d 187 [.ref a, .int x0, .int x1] (S, I, R, z) (fun v τ => RB d 227 78 [l0, l1, l2, l3, l4] (aPush v [s0]) τ Q)) := RB_callV (n := 3) (t := 0) (k := 201) (ins := .invokevirtual 201) rfl rfl rfl (by decide) (Nat.le_of_ble_eq_true rfl) (Nat.le_of_ble_eq_true rfl) rfl rfl
theorem w227_78 : RB d 227 78 [l0, l1, l2, l3, l4] (.int y :: .int x :: st) (S, I, R, z) Q = ((x = y → RB d 227 83 [l0, l1, l2, l3, l4] st (S, I, R, z) Q) ∧ (¬ x = y → RB d 227 81 [l0, l1, l2, l3, l4] st (S, I, R, z) Q)) := RB_ieq rfl (by decide) rfl
theorem w227_81 : RB d 227 81 [l0, l1, l2, .int x, l4] st (S, I, R, z) Q = RB d 227 82 [l0, l1, l2, .int x, l4] (.int x :: st) (S, I, R, z) Q := RB_iloadn rfl rfl
theorem w227_82 : RB d 227 82 [l0, l1, l2, l3, l4] [.int x] (S, I, R, z) Q = Q (some (.int x)) (S, I, R, z) := RB_iret rfl rfl rfl
theorem w227_83 : RB d 227 83 [l0, l1, l2, .int x, l4] st (S, I, R, z) Q = RB d 227 86 [l0, l1, l2, .int (x + 1), l4] st (S, I, R, z) Q := RB_iinc rfl rfl (Nat.le_of_ble_eq_true rfl) ki1 rfl
theorem w227_86 : RB d 227 86 [l0, l1, l2, l3, l4] st (S, I, R, z) Q = RB d 227 32 [l0, l1, l2, l3, l4] st (S, I, R, z) Q := RB_goto rfl (by decide) rfl
theorem w227_89 : RB d 227 89 [l0, l1, l2, l3, l4] st (S, I, R, z) Q = RB d 227 91 [l0, l1, l2, l3, l4] (.int (-1000000005) :: st) (S, I, R, z) Q := RB_ldc rfl rfl
theorem w227_91 : RB d 227 91 [l0, l1, l2, l3, l4] [.int x] (S, I, R, z) Q = Q (some (.int x)) (S, I, R, z) := RB_iret rfl rfl rfl
/-! 228: HangedWordModel.copy -/
theorem w228_0 : RB d 228 0 [l0, .int x, l2, l3, l4, l5, l6] st (S, I, R, z) Q = RB d 228 1 [l0, .int x, l2, l3, l4, l5, l6] (.int x :: st) (S, I, R, z) Q := RB_iloadn rfl rfl
set_option maxRecDepth 20000 in
theorem w228_1 : RB d 228 1 [l0, l1, l2, l3, l4, l5, l6] [.int x0] (S, I, R, z) Q = RM d 222 [.int x0] (S, I, R, z) (fun v τ => RB d 228 4 [l0, l1, l2, l3, l4, l5, l6] (aPush v []) τ Q) := RB_callS (n := 1) (t := 1) (k := 219) (ins := .invokestatic 219) rfl rfl rfl (Nat.le_of_ble_eq_true rfl) (Nat.le_of_ble_eq_true rfl) rfl rfl
theorem w228_4 : RB d 228 4 [l0, l1, l2, l3, l4, l5, l6] (.int x :: st) (S, I, R, z) Q = ((x = 0 → RB d 228 14 [l0, l1, l2, l3, l4, l5, l6] st (S, I, R, z) Q) ∧ (¬ x = 0 → RB d 228 7 [l0, l1, l2, l3, l4, l5, l6] st (S, I, R, z) Q)) := RB_eq0 rfl (by decide) rfl
theorem w228_7 : RB d 228 7 [l0, l1, l2, .int x, l4, l5, l6] st (S, I, R, z) Q = RB d 228 8 [l0, l1, l2, .int x, l4, l5, l6] (.int x :: st) (S, I, R, z) Q := RB_iloadn rfl rfl
set_option maxRecDepth 20000 in
theorem w228_8 : RB d 228 8 [l0, l1, l2, l3, l4, l5, l6] [.int x0] (S, I, R, z) Q = RM d 222 [.int x0] (S, I, R, z) (fun v τ => RB d 228 11 [l0, l1, l2, l3, l4, l5, l6] (aPush v []) τ Q) := RB_callS (n := 1) (t := 1) (k := 219) (ins := .invokestatic 219) rfl rfl rfl (Nat.le_of_ble_eq_true rfl) (Nat.le_of_ble_eq_true rfl) rfl rfl
theorem w228_11 : RB d 228 11 [l0, l1, l2, l3, l4, l5, l6] (.int x :: st) (S, I, R, z) Q = ((x = 0 → RB d 228 14 [l0, l1, l2, l3, l4, l5, l6] st (S, I, R, z) Q) ∧ (¬ x = 0 → RB d 228 17 [l0, l1, l2, l3, l4, l5, l6] st (S, I, R, z) Q)) := RB_ne0 rfl (by decide) rfl
theorem w228_14 : RB d 228 14 [l0, l1, l2, l3, l4, l5, l6] st (S, I, R, z) Q = RB d 228 16 [l0, l1, l2, l3, l4, l5, l6] (.int (-1000000001) :: st) (S, I, R, z) Q := RB_ldc rfl rfl
theorem w228_16 : RB d 228 16 [l0, l1, l2, l3, l4, l5, l6] [.int x] (S, I, R, z) Q = Q (some (.int x)) (S, I, R, z) := RB_iret rfl rfl rfl
theorem w228_17 : RB d 228 17 [.ref a, l1, l2, l3, l4, l5, l6] st (S, I, R, z) Q = RB d 228 18 [.ref a, l1, l2, l3, l4, l5, l6] (.ref a :: st) (S, I, R, z) Q := RB_aloadn rfl rfl
theorem w228_18 : RB d 228 18 [l0, l1, l2, l3, l4, l5, l6] (.ref a :: st) (S, I, R, z) Q = ((S a).1 = 7 ∧ RB d 228 21 [l0, l1, l2, l3, l4, l5, l6] (va_rf (R a 23) :: st) (S, I, R, z) Q) := RB_getR rfl rfl
theorem w228_21 : RB d 228 21 [l0, .int x, l2, l3, l4, l5, l6] st (S, I, R, z) Q = RB d 228 22 [l0, .int x, l2, l3, l4, l5, l6] (.int x :: st) (S, I, R, z) Q := RB_iloadn rfl rfl
theorem w228_22 : RB d 228 22 [l0, l1, l2, l3, l4, l5, l6] (.int i :: .ref a :: st) (S, I, R, z) Q = (((S a).1 = 9 ∧ aIx i (S a).2) ∧ RB d 228 23 [l0, l1, l2, l3, l4, l5, l6] (.int (I a i.toNatClampNeg) :: st) (S, I, R, z) Q) := RB_iald rfl
theorem w228_23 : RB d 228 23 [l0, l1, l2, l3, l4, l5, l6] (.int x :: st) (S, I, R, z) Q = ((x < 0 → RB d 228 35 [l0, l1, l2, l3, l4, l5, l6] st (S, I, R, z) Q) ∧ (¬ x < 0 → RB d 228 26 [l0, l1, l2, l3, l4, l5, l6] st (S, I, R, z) Q)) := RB_lt0 rfl (by decide) rfl
theorem w228_26 : RB d 228 26 [.ref a, l1, l2, l3, l4, l5, l6] st (S, I, R, z) Q = RB d 228 27 [.ref a, l1, l2, l3, l4, l5, l6] (.ref a :: st) (S, I, R, z) Q := RB_aloadn rfl rfl
theorem w228_27 : RB d 228 27 [l0, l1, l2, l3, l4, l5, l6] (.ref a :: st) (S, I, R, z) Q = ((S a).1 = 7 ∧ RB d 228 30 [l0, l1, l2, l3, l4, l5, l6] (va_rf (R a 23) :: st) (S, I, R, z) Q) := RB_getR rfl rfl
theorem w228_30 : RB d 228 30 [l0, l1, l2, .int x, l4, l5, l6] st (S, I, R, z) Q = RB d 228 31 [l0, l1, l2, .int x, l4, l5, l6] (.int x :: st) (S, I, R, z) Q := RB_iloadn rfl rfl
theorem w228_31 : RB d 228 31 [l0, l1, l2, l3, l4, l5, l6] (.int i :: .ref a :: st) (S, I, R, z) Q = (((S a).1 = 9 ∧ aIx i (S a).2) ∧ RB d 228 32 [l0, l1, l2, l3, l4, l5, l6] (.int (I a i.toNatClampNeg) :: st) (S, I, R, z) Q) := RB_iald rfl
theorem w228_32 : RB d 228 32 [l0, l1, l2, l3, l4, l5, l6] (.int x :: st) (S, I, R, z) Q = ((0 ≤ x → RB d 228 38 [l0, l1, l2, l3, l4, l5, l6] st (S, I, R, z) Q) ∧ (¬ 0 ≤ x → RB d 228 35 [l0, l1, l2, l3, l4, l5, l6] st (S, I, R, z) Q)) := RB_ge0 rfl (by decide) rfl
theorem w228_35 : RB d 228 35 [l0, l1, l2, l3, l4, l5, l6] st (S, I, R, z) Q = RB d 228 37 [l0, l1, l2, l3, l4, l5, l6] (.int (-1000000011) :: st) (S, I, R, z) Q := RB_ldc rfl rfl
theorem w228_37 : RB d 228 37 [l0, l1, l2, l3, l4, l5, l6] [.int x] (S, I, R, z) Q = Q (some (.int x)) (S, I, R, z) := RB_iret rfl rfl rfl
theorem w228_38 : RB d 228 38 [.ref a, l1, l2, l3, l4, l5, l6] st (S, I, R, z) Q = RB d 228 39 [.ref a, l1, l2, l3, l4, l5, l6] (.ref a :: st) (S, I, R, z) Q := RB_aloadn rfl rfl
theorem w228_39 : RB d 228 39 [l0, l1, l2, l3, l4, l5, l6] (.ref a :: st) (S, I, R, z) Q = ((S a).1 = 7 ∧ RB d 228 42 [l0, l1, l2, l3, l4, l5, l6] (va_rf (R a 23) :: st) (S, I, R, z) Q) := RB_getR rfl rfl
theorem w228_42 : RB d 228 42 [l0, .int x, l2, l3, l4, l5, l6] st (S, I, R, z) Q = RB d 228 43 [l0, .int x, l2, l3, l4, l5, l6] (.int x :: st) (S, I, R, z) Q := RB_iloadn rfl rfl
theorem w228_43 : RB d 228 43 [l0, l1, l2, l3, l4, l5, l6] (.int i :: .ref a :: st) (S, I, R, z) Q = (((S a).1 = 9 ∧ aIx i (S a).2) ∧ RB d 228 44 [l0, l1, l2, l3, l4, l5, l6] (.int (I a i.toNatClampNeg) :: st) (S, I, R, z) Q) := RB_iald rfl
theorem w228_44 : RB d 228 44 [.ref a, l1, l2, l3, l4, l5, l6] st (S, I, R, z) Q = RB d 228 45 [.ref a, l1, l2, l3, l4, l5, l6] (.ref a :: st) (S, I, R, z) Q := RB_aloadn rfl rfl
theorem w228_45 : RB d 228 45 [l0, l1, l2, l3, l4, l5, l6] (.ref a :: st) (S, I, R, z) Q = ((S a).1 = 7 ∧ RB d 228 48 [l0, l1, l2, l3, l4, l5, l6] (va_rf (R a 23) :: st) (S, I, R, z) Q) := RB_getR rfl rfl
theorem w228_48 : RB d 228 48 [l0, l1, l2, .int x, l4, l5, l6] st (S, I, R, z) Q = RB d 228 49 [l0, l1, l2, .int x, l4, l5, l6] (.int x :: st) (S, I, R, z) Q := RB_iloadn rfl rfl
theorem w228_49 : RB d 228 49 [l0, l1, l2, l3, l4, l5, l6] (.int i :: .ref a :: st) (S, I, R, z) Q = (((S a).1 = 9 ∧ aIx i (S a).2) ∧ RB d 228 50 [l0, l1, l2, l3, l4, l5, l6] (.int (I a i.toNatClampNeg) :: st) (S, I, R, z) Q) := RB_iald rfl
theorem w228_50 : RB d 228 50 [l0, l1, l2, l3, l4, l5, l6] (.int y :: .int x :: st) (S, I, R, z) Q = ((x = y → RB d 228 56 [l0, l1, l2, l3, l4, l5, l6] st (S, I, R, z) Q) ∧ (¬ x = y → RB d 228 53 [l0, l1, l2, l3, l4, l5, l6] st (S, I, R, z) Q)) := RB_ieq rfl (by decide) rfl
theorem w228_53 : RB d 228 53 [l0, l1, l2, l3, l4, l5, l6] st (S, I, R, z) Q = RB d 228 55 [l0, l1, l2, l3, l4, l5, l6] (.int (-1000000012) :: st) (S, I, R, z) Q := RB_ldc rfl rfl
theorem w228_55 : RB d 228 55 [l0, l1, l2, l3, l4, l5, l6] [.int x] (S, I, R, z) Q = Q (some (.int x)) (S, I, R, z) := RB_iret rfl rfl rfl
theorem w228_56 : RB d 228 56 [l0, l1, .int x, l3, l4, l5, l6] st (S, I, R, z) Q = RB d 228 57 [l0, l1, .int x, l3, l4, l5, l6] (.int x :: st) (S, I, R, z) Q := RB_iloadn rfl rfl
theorem w228_57 : RB d 228 57 [l0, l1, l2, l3, l4, l5, l6] (.int x :: st) (S, I, R, z) Q = ((x < 0 → RB d 228 97 [l0, l1, l2, l3, l4, l5, l6] st (S, I, R, z) Q) ∧ (¬ x < 0 → RB d 228 60 [l0, l1, l2, l3, l4, l5, l6] st (S, I, R, z) Q)) := RB_lt0 rfl (by decide) rfl
theorem w228_60 : RB d 228 60 [l0, l1, l2, l3, .int x, l5, l6] st (S, I, R, z) Q = RB d 228 62 [l0, l1, l2, l3, .int x, l5, l6] (.int x :: st) (S, I, R, z) Q := RB_iload rfl rfl
theorem w228_62 : RB d 228 62 [l0, l1, l2, l3, l4, l5, l6] (.int x :: st) (S, I, R, z) Q = ((x < 0 → RB d 228 97 [l0, l1, l2, l3, l4, l5, l6] st (S, I, R, z) Q) ∧ (¬ x < 0 → RB d 228 65 [l0, l1, l2, l3, l4, l5, l6] st (S, I, R, z) Q)) := RB_lt0 rfl (by decide) rfl
theorem w228_65 : RB d 228 65 [l0, l1, l2, l3, l4, .int x, l6] st (S, I, R, z) Q = RB d 228 67 [l0, l1, l2, l3, l4, .int x, l6] (.int x :: st) (S, I, R, z) Q := RB_iload rfl rfl
theorem w228_67 : RB d 228 67 [l0, l1, l2, l3, l4, l5, l6] (.int x :: st) (S, I, R, z) Q = ((x < 0 → RB d 228 97 [l0, l1, l2, l3, l4, l5, l6] st (S, I, R, z) Q) ∧ (¬ x < 0 → RB d 228 70 [l0, l1, l2, l3, l4, l5, l6] st (S, I, R, z) Q)) := RB_lt0 rfl (by decide) rfl
theorem w228_70 : RB d 228 70 [l0, l1, .int x, l3, l4, l5, l6] st (S, I, R, z) Q = RB d 228 71 [l0, l1, .int x, l3, l4, l5, l6] (.int x :: st) (S, I, R, z) Q := RB_iloadn rfl rfl
theorem w228_71 : RB d 228 71 [.ref a, l1, l2, l3, l4, l5, l6] st (S, I, R, z) Q = RB d 228 72 [.ref a, l1, l2, l3, l4, l5, l6] (.ref a :: st) (S, I, R, z) Q := RB_aloadn rfl rfl
theorem w228_72 : RB d 228 72 [l0, l1, l2, l3, l4, l5, l6] (.ref a :: st) (S, I, R, z) Q = ((S a).1 = 7 ∧ RB d 228 75 [l0, l1, l2, l3, l4, l5, l6] (va_rf (R a 24) :: st) (S, I, R, z) Q) := RB_getR rfl rfl
theorem w228_75 : RB d 228 75 [l0, .int x, l2, l3, l4, l5, l6] st (S, I, R, z) Q = RB d 228 76 [l0, .int x, l2, l3, l4, l5, l6] (.int x :: st) (S, I, R, z) Q := RB_iloadn rfl rfl
theorem w228_76 : RB d 228 76 [l0, l1, l2, l3, l4, l5, l6] (.int i :: .ref a :: st) (S, I, R, z) Q = (((S a).1 = 9 ∧ aIx i (S a).2) ∧ RB d 228 77 [l0, l1, l2, l3, l4, l5, l6] (.int (I a i.toNatClampNeg) :: st) (S, I, R, z) Q) := RB_iald rfl
theorem w228_77 : RB d 228 77 [l0, l1, l2, l3, l4, .int x, l6] st (S, I, R, z) Q = RB d 228 79 [l0, l1, l2, l3, l4, .int x, l6] (.int x :: st) (S, I, R, z) Q := RB_iload rfl rfl
theorem w228_79 : RB d 228 79 [l0, l1, l2, l3, l4, l5, l6] (.int y :: .int x :: st) (S, I, R, z) Q = RB d 228 80 [l0, l1, l2, l3, l4, l5, l6] (.int (x - y) :: st) (S, I, R, z) Q := RB_isub rfl
theorem w228_80 : RB d 228 80 [l0, l1, l2, l3, l4, l5, l6] (.int y :: .int x :: st) (S, I, R, z) Q = ((y < x → RB d 228 97 [l0, l1, l2, l3, l4, l5, l6] st (S, I, R, z) Q) ∧ (¬ y < x → RB d 228 83 [l0, l1, l2, l3, l4, l5, l6] st (S, I, R, z) Q)) := RB_igt rfl (by decide) rfl
theorem w228_83 : RB d 228 83 [l0, l1, l2, l3, .int x, l5, l6] st (S, I, R, z) Q = RB d 228 85 [l0, l1, l2, l3, .int x, l5, l6] (.int x :: st) (S, I, R, z) Q := RB_iload rfl rfl
theorem w228_85 : RB d 228 85 [.ref a, l1, l2, l3, l4, l5, l6] st (S, I, R, z) Q = RB d 228 86 [.ref a, l1, l2, l3, l4, l5, l6] (.ref a :: st) (S, I, R, z) Q := RB_aloadn rfl rfl
theorem w228_86 : RB d 228 86 [l0, l1, l2, l3, l4, l5, l6] (.ref a :: st) (S, I, R, z) Q = ((S a).1 = 7 ∧ RB d 228 89 [l0, l1, l2, l3, l4, l5, l6] (va_rf (R a 24) :: st) (S, I, R, z) Q) := RB_getR rfl rfl
theorem w228_89 : RB d 228 89 [l0, l1, l2, .int x, l4, l5, l6] st (S, I, R, z) Q = RB d 228 90 [l0, l1, l2, .int x, l4, l5, l6] (.int x :: st) (S, I, R, z) Q := RB_iloadn rfl rfl
theorem w228_90 : RB d 228 90 [l0, l1, l2, l3, l4, l5, l6] (.int i :: .ref a :: st) (S, I, R, z) Q = (((S a).1 = 9 ∧ aIx i (S a).2) ∧ RB d 228 91 [l0, l1, l2, l3, l4, l5, l6] (.int (I a i.toNatClampNeg) :: st) (S, I, R, z) Q) := RB_iald rfl
theorem w228_91 : RB d 228 91 [l0, l1, l2, l3, l4, .int x, l6] st (S, I, R, z) Q = RB d 228 93 [l0, l1, l2, l3, l4, .int x, l6] (.int x :: st) (S, I, R, z) Q := RB_iload rfl rfl
theorem w228_93 : RB d 228 93 [l0, l1, l2, l3, l4, l5, l6] (.int y :: .int x :: st) (S, I, R, z) Q = RB d 228 94 [l0, l1, l2, l3, l4, l5, l6] (.int (x - y) :: st) (S, I, R, z) Q := RB_isub rfl
theorem w228_94 : RB d 228 94 [l0, l1, l2, l3, l4, l5, l6] (.int y :: .int x :: st) (S, I, R, z) Q = ((x ≤ y → RB d 228 101 [l0, l1, l2, l3, l4, l5, l6] st (S, I, R, z) Q) ∧ (¬ x ≤ y → RB d 228 97 [l0, l1, l2, l3, l4, l5, l6] st (S, I, R, z) Q)) := RB_ile rfl (by decide) rfl
theorem w228_97 : RB d 228 97 [l0, l1, l2, l3, l4, l5, l6] st (S, I, R, z) Q = RB d 228 100 [l0, l1, l2, l3, l4, l5, l6] (.int (-1000000013) :: st) (S, I, R, z) Q := RB_ldcw rfl rfl
theorem w228_100 : RB d 228 100 [l0, l1, l2, l3, l4, l5, l6] [.int x] (S, I, R, z) Q = Q (some (.int x)) (S, I, R, z) := RB_iret rfl rfl rfl
theorem w228_101 : RB d 228 101 [l0, l1, l2, l3, l4, l5, l6] st (S, I, R, z) Q = RB d 228 102 [l0, l1, l2, l3, l4, l5, l6] (.int 0 :: st) (S, I, R, z) Q := RB_iconst rfl ki0
theorem w228_102 : RB d 228 102 [l0, l1, l2, l3, l4, l5, l6] (.int x :: st) (S, I, R, z) Q = RB d 228 104 [l0, l1, l2, l3, l4, l5, .int x] st (S, I, R, z) Q := RB_istore rfl (Nat.le_of_ble_eq_true rfl) rfl
theorem w228_104 : RB d 228 104 [l0, l1, l2, l3, l4, l5, .int x] st (S, I, R, z) Q = RB d 228 106 [l0, l1, l2, l3, l4, l5, .int x] (.int x :: st) (S, I, R, z) Q := RB_iload rfl rfl
theorem w228_106 : RB d 228 106 [l0, l1, l2, l3, l4, .int x, l6] st (S, I, R, z) Q = RB d 228 108 [l0, l1, l2, l3, l4, .int x, l6] (.int x :: st) (S, I, R, z) Q := RB_iload rfl rfl
theorem w228_108 : RB d 228 108 [l0, l1, l2, l3, l4, l5, l6] (.int y :: .int x :: st) (S, I, R, z) Q = ((y ≤ x → RB d 228 138 [l0, l1, l2, l3, l4, l5, l6] st (S, I, R, z) Q) ∧ (¬ y ≤ x → RB d 228 111 [l0, l1, l2, l3, l4, l5, l6] st (S, I, R, z) Q)) := RB_ige rfl (by decide) rfl
theorem w228_111 : RB d 228 111 [.ref a, l1, l2, l3, l4, l5, l6] st (S, I, R, z) Q = RB d 228 112 [.ref a, l1, l2, l3, l4, l5, l6] (.ref a :: st) (S, I, R, z) Q := RB_aloadn rfl rfl
theorem w228_112 : RB d 228 112 [l0, l1, l2, l3, l4, l5, l6] (.ref a :: st) (S, I, R, z) Q = ((S a).1 = 7 ∧ RB d 228 115 [l0, l1, l2, l3, l4, l5, l6] (va_rf (R a 30) :: st) (S, I, R, z) Q) := RB_getR rfl rfl
theorem w228_115 : RB d 228 115 [l0, l1, l2, l3, l4, l5, .int x] st (S, I, R, z) Q = RB d 228 117 [l0, l1, l2, l3, l4, l5, .int x] (.int x :: st) (S, I, R, z) Q := RB_iload rfl rfl
theorem w228_117 : RB d 228 117 [.ref a, l1, l2, l3, l4, l5, l6] st (S, I, R, z) Q = RB d 228 118 [.ref a, l1, l2, l3, l4, l5, l6] (.ref a :: st) (S, I, R, z) Q := RB_aloadn rfl rfl
theorem w228_118 : RB d 228 118 [l0, l1, l2, l3, l4, l5, l6] (.ref a :: st) (S, I, R, z) Q = ((S a).1 = 7 ∧ RB d 228 121 [l0, l1, l2, l3, l4, l5, l6] (va_rf (R a 25) :: st) (S, I, R, z) Q) := RB_getR rfl rfl
theorem w228_121 : RB d 228 121 [l0, l1, l2, l3, l4, l5, l6] st (S, I, R, z) Q = RB d 228 123 [l0, l1, l2, l3, l4, l5, l6] (.int 24 :: st) (S, I, R, z) Q := RB_bipush rfl kb24
theorem w228_123 : RB d 228 123 [l0, .int x, l2, l3, l4, l5, l6] st (S, I, R, z) Q = RB d 228 124 [l0, .int x, l2, l3, l4, l5, l6] (.int x :: st) (S, I, R, z) Q := RB_iloadn rfl rfl
theorem w228_124 : RB d 228 124 [l0, l1, l2, l3, l4, l5, l6] (.int y :: .int x :: st) (S, I, R, z) Q = RB d 228 125 [l0, l1, l2, l3, l4, l5, l6] (.int (x * y) :: st) (S, I, R, z) Q := RB_imul rfl
theorem w228_125 : RB d 228 125 [l0, l1, .int x, l3, l4, l5, l6] st (S, I, R, z) Q = RB d 228 126 [l0, l1, .int x, l3, l4, l5, l6] (.int x :: st) (S, I, R, z) Q := RB_iloadn rfl rfl
theorem w228_126 : RB d 228 126 [l0, l1, l2, l3, l4, l5, l6] (.int y :: .int x :: st) (S, I, R, z) Q = RB d 228 127 [l0, l1, l2, l3, l4, l5, l6] (.int (x + y) :: st) (S, I, R, z) Q := RB_iadd rfl
theorem w228_127 : RB d 228 127 [l0, l1, l2, l3, l4, l5, .int x] st (S, I, R, z) Q = RB d 228 129 [l0, l1, l2, l3, l4, l5, .int x] (.int x :: st) (S, I, R, z) Q := RB_iload rfl rfl
theorem w228_129 : RB d 228 129 [l0, l1, l2, l3, l4, l5, l6] (.int y :: .int x :: st) (S, I, R, z) Q = RB d 228 130 [l0, l1, l2, l3, l4, l5, l6] (.int (x + y) :: st) (S, I, R, z) Q := RB_iadd rfl
theorem w228_130 : RB d 228 130 [l0, l1, l2, l3, l4, l5, l6] (.int i :: .ref a :: st) (S, I, R, z) Q = (((S a).1 = 9 ∧ aIx i (S a).2) ∧ RB d 228 131 [l0, l1, l2, l3, l4, l5, l6] (.int (I a i.toNatClampNeg) :: st) (S, I, R, z) Q) := RB_iald rfl
theorem w228_131 : RB d 228 131 [l0, l1, l2, l3, l4, l5, l6] (.int x :: .int i :: .ref a :: st) (S, I, R, z) Q = (((S a).1 = 9 ∧ aIx i (S a).2 ∧ 16 ≤ a) ∧ RB d 228 132 [l0, l1, l2, l3, l4, l5, l6] st (S, aW I a i.toNatClampNeg x, R, z) Q) := RB_iast rfl
theorem w228_132 : RB d 228 132 [l0, l1, l2, l3, l4, l5, .int x] st (S, I, R, z) Q = RB d 228 135 [l0, l1, l2, l3, l4, l5, .int (x + 1)] st (S, I, R, z) Q := RB_iinc rfl rfl (Nat.le_of_ble_eq_true rfl) ki1 rfl
theorem w228_135 : RB d 228 135 [l0, l1, l2, l3, l4, l5, l6] st (S, I, R, z) Q = RB d 228 104 [l0, l1, l2, l3, l4, l5, l6] st (S, I, R, z) Q := RB_goto rfl (by decide) rfl
theorem w228_138 : RB d 228 138 [l0, l1, l2, l3, l4, l5, l6] st (S, I, R, z) Q = RB d 228 139 [l0, l1, l2, l3, l4, l5, l6] (.int 0 :: st) (S, I, R, z) Q := RB_iconst rfl ki0
theorem w228_139 : RB d 228 139 [l0, l1, l2, l3, l4, l5, l6] (.int x :: st) (S, I, R, z) Q = RB d 228 141 [l0, l1, l2, l3, l4, l5, .int x] st (S, I, R, z) Q := RB_istore rfl (Nat.le_of_ble_eq_true rfl) rfl
theorem w228_141 : RB d 228 141 [l0, l1, l2, l3, l4, l5, .int x] st (S, I, R, z) Q = RB d 228 143 [l0, l1, l2, l3, l4, l5, .int x] (.int x :: st) (S, I, R, z) Q := RB_iload rfl rfl
theorem w228_143 : RB d 228 143 [l0, l1, l2, l3, l4, .int x, l6] st (S, I, R, z) Q = RB d 228 145 [l0, l1, l2, l3, l4, .int x, l6] (.int x :: st) (S, I, R, z) Q := RB_iload rfl rfl
theorem w228_145 : RB d 228 145 [l0, l1, l2, l3, l4, l5, l6] (.int y :: .int x :: st) (S, I, R, z) Q = ((y ≤ x → RB d 228 176 [l0, l1, l2, l3, l4, l5, l6] st (S, I, R, z) Q) ∧ (¬ y ≤ x → RB d 228 148 [l0, l1, l2, l3, l4, l5, l6] st (S, I, R, z) Q)) := RB_ige rfl (by decide) rfl
theorem w228_148 : RB d 228 148 [.ref a, l1, l2, l3, l4, l5, l6] st (S, I, R, z) Q = RB d 228 149 [.ref a, l1, l2, l3, l4, l5, l6] (.ref a :: st) (S, I, R, z) Q := RB_aloadn rfl rfl
theorem w228_149 : RB d 228 149 [l0, l1, l2, l3, l4, l5, l6] (.ref a :: st) (S, I, R, z) Q = ((S a).1 = 7 ∧ RB d 228 152 [l0, l1, l2, l3, l4, l5, l6] (va_rf (R a 25) :: st) (S, I, R, z) Q) := RB_getR rfl rfl
theorem w228_152 : RB d 228 152 [l0, l1, l2, l3, l4, l5, l6] st (S, I, R, z) Q = RB d 228 154 [l0, l1, l2, l3, l4, l5, l6] (.int 24 :: st) (S, I, R, z) Q := RB_bipush rfl kb24
theorem w228_154 : RB d 228 154 [l0, l1, l2, .int x, l4, l5, l6] st (S, I, R, z) Q = RB d 228 155 [l0, l1, l2, .int x, l4, l5, l6] (.int x :: st) (S, I, R, z) Q := RB_iloadn rfl rfl
theorem w228_155 : RB d 228 155 [l0, l1, l2, l3, l4, l5, l6] (.int y :: .int x :: st) (S, I, R, z) Q = RB d 228 156 [l0, l1, l2, l3, l4, l5, l6] (.int (x * y) :: st) (S, I, R, z) Q := RB_imul rfl
theorem w228_156 : RB d 228 156 [l0, l1, l2, l3, .int x, l5, l6] st (S, I, R, z) Q = RB d 228 158 [l0, l1, l2, l3, .int x, l5, l6] (.int x :: st) (S, I, R, z) Q := RB_iload rfl rfl
theorem w228_158 : RB d 228 158 [l0, l1, l2, l3, l4, l5, l6] (.int y :: .int x :: st) (S, I, R, z) Q = RB d 228 159 [l0, l1, l2, l3, l4, l5, l6] (.int (x + y) :: st) (S, I, R, z) Q := RB_iadd rfl
theorem w228_159 : RB d 228 159 [l0, l1, l2, l3, l4, l5, .int x] st (S, I, R, z) Q = RB d 228 161 [l0, l1, l2, l3, l4, l5, .int x] (.int x :: st) (S, I, R, z) Q := RB_iload rfl rfl
theorem w228_161 : RB d 228 161 [l0, l1, l2, l3, l4, l5, l6] (.int y :: .int x :: st) (S, I, R, z) Q = RB d 228 162 [l0, l1, l2, l3, l4, l5, l6] (.int (x + y) :: st) (S, I, R, z) Q := RB_iadd rfl
theorem w228_162 : RB d 228 162 [.ref a, l1, l2, l3, l4, l5, l6] st (S, I, R, z) Q = RB d 228 163 [.ref a, l1, l2, l3, l4, l5, l6] (.ref a :: st) (S, I, R, z) Q := RB_aloadn rfl rfl
theorem w228_163 : RB d 228 163 [l0, l1, l2, l3, l4, l5, l6] (.ref a :: st) (S, I, R, z) Q = ((S a).1 = 7 ∧ RB d 228 166 [l0, l1, l2, l3, l4, l5, l6] (va_rf (R a 30) :: st) (S, I, R, z) Q) := RB_getR rfl rfl
theorem w228_166 : RB d 228 166 [l0, l1, l2, l3, l4, l5, .int x] st (S, I, R, z) Q = RB d 228 168 [l0, l1, l2, l3, l4, l5, .int x] (.int x :: st) (S, I, R, z) Q := RB_iload rfl rfl
theorem w228_168 : RB d 228 168 [l0, l1, l2, l3, l4, l5, l6] (.int i :: .ref a :: st) (S, I, R, z) Q = (((S a).1 = 9 ∧ aIx i (S a).2) ∧ RB d 228 169 [l0, l1, l2, l3, l4, l5, l6] (.int (I a i.toNatClampNeg) :: st) (S, I, R, z) Q) := RB_iald rfl
theorem w228_169 : RB d 228 169 [l0, l1, l2, l3, l4, l5, l6] (.int x :: .int i :: .ref a :: st) (S, I, R, z) Q = (((S a).1 = 9 ∧ aIx i (S a).2 ∧ 16 ≤ a) ∧ RB d 228 170 [l0, l1, l2, l3, l4, l5, l6] st (S, aW I a i.toNatClampNeg x, R, z) Q) := RB_iast rfl
theorem w228_170 : RB d 228 170 [l0, l1, l2, l3, l4, l5, .int x] st (S, I, R, z) Q = RB d 228 173 [l0, l1, l2, l3, l4, l5, .int (x + 1)] st (S, I, R, z) Q := RB_iinc rfl rfl (Nat.le_of_ble_eq_true rfl) ki1 rfl
theorem w228_173 : RB d 228 173 [l0, l1, l2, l3, l4, l5, l6] st (S, I, R, z) Q = RB d 228 141 [l0, l1, l2, l3, l4, l5, l6] st (S, I, R, z) Q := RB_goto rfl (by decide) rfl
theorem w228_176 : RB d 228 176 [l0, l1, l2, l3, l4, .int x, l6] st (S, I, R, z) Q = RB d 228 178 [l0, l1, l2, l3, l4, .int x, l6] (.int x :: st) (S, I, R, z) Q := RB_iload rfl rfl
theorem w228_178 : RB d 228 178 [l0, l1, l2, l3, l4, l5, l6] [.int x] (S, I, R, z) Q = Q (some (.int x)) (S, I, R, z) := RB_iret rfl rfl rfl
/-! 229: HangedWordModel.lay -/
theorem w229_0 : RB d 229 0 [l0, .int x, l2, l3, l4, l5] st (S, I, R, z) Q = RB d 229 1 [l0, .int x, l2, l3, l4, l5] (.int x :: st) (S, I, R, z) Q := RB_iloadn rfl rfl
set_option maxRecDepth 20000 in
theorem w229_1 : RB d 229 1 [l0, l1, l2, l3, l4, l5] [.int x0] (S, I, R, z) Q = RM d 223 [.int x0] (S, I, R, z) (fun v τ => RB d 229 4 [l0, l1, l2, l3, l4, l5] (aPush v []) τ Q) := RB_callS (n := 1) (t := 1) (k := 297) (ins := .invokestatic 297) rfl rfl rfl (Nat.le_of_ble_eq_true rfl) (Nat.le_of_ble_eq_true rfl) rfl rfl
theorem w229_4 : RB d 229 4 [l0, l1, l2, l3, l4, l5] (.int x :: st) (S, I, R, z) Q = ((x = 0 → RB d 229 41 [l0, l1, l2, l3, l4, l5] st (S, I, R, z) Q) ∧ (¬ x = 0 → RB d 229 7 [l0, l1, l2, l3, l4, l5] st (S, I, R, z) Q)) := RB_eq0 rfl (by decide) rfl
theorem w229_7 : RB d 229 7 [l0, l1, .int x, l3, l4, l5] st (S, I, R, z) Q = RB d 229 8 [l0, l1, .int x, l3, l4, l5] (.int x :: st) (S, I, R, z) Q := RB_iloadn rfl rfl
theorem w229_8 : RB d 229 8 [l0, l1, l2, l3, l4, l5] st (S, I, R, z) Q = RB d 229 9 [l0, l1, l2, l3, l4, l5] (.int 0 :: st) (S, I, R, z) Q := RB_iconst rfl ki0
theorem w229_9 : RB d 229 9 [l0, l1, l2, l3, l4, l5] st (S, I, R, z) Q = RB d 229 10 [l0, l1, l2, l3, l4, l5] (.int 3 :: st) (S, I, R, z) Q := RB_iconst rfl ki3
set_option maxRecDepth 20000 in
theorem w229_10 : RB d 229 10 [l0, l1, l2, l3, l4, l5] [.int x2, .int x1, .int x0] (S, I, R, z) Q = RM d 135 [.int x0, .int x1, .int x2] (S, I, R, z) (fun v τ => RB d 229 13 [l0, l1, l2, l3, l4, l5] (aPush v []) τ Q) := RB_callS (n := 3) (t := 1) (k := 76) (ins := .invokestatic 76) rfl rfl rfl (Nat.le_of_ble_eq_true rfl) (Nat.le_of_ble_eq_true rfl) rfl rfl
theorem w229_13 : RB d 229 13 [l0, l1, l2, l3, l4, l5] (.int x :: st) (S, I, R, z) Q = ((x = 0 → RB d 229 41 [l0, l1, l2, l3, l4, l5] st (S, I, R, z) Q) ∧ (¬ x = 0 → RB d 229 16 [l0, l1, l2, l3, l4, l5] st (S, I, R, z) Q)) := RB_eq0 rfl (by decide) rfl
theorem w229_16 : RB d 229 16 [l0, l1, .int x, l3, l4, l5] st (S, I, R, z) Q = RB d 229 17 [l0, l1, .int x, l3, l4, l5] (.int x :: st) (S, I, R, z) Q := RB_iloadn rfl rfl
theorem w229_17 : RB d 229 17 [l0, l1, l2, l3, l4, l5] st (S, I, R, z) Q = RB d 229 18 [l0, l1, l2, l3, l4, l5] (.int 1 :: st) (S, I, R, z) Q := RB_iconst rfl ki1
theorem w229_18 : RB d 229 18 [l0, l1, l2, l3, l4, l5] (.int y :: .int x :: st) (S, I, R, z) Q = ((x = y → RB d 229 21 [l0, l1, l2, l3, l4, l5] st (S, I, R, z) Q) ∧ (¬ x = y → RB d 229 29 [l0, l1, l2, l3, l4, l5] st (S, I, R, z) Q)) := RB_ine rfl (by decide) rfl
theorem w229_21 : RB d 229 21 [.ref a, l1, l2, l3, l4, l5] st (S, I, R, z) Q = RB d 229 22 [.ref a, l1, l2, l3, l4, l5] (.ref a :: st) (S, I, R, z) Q := RB_aloadn rfl rfl
theorem w229_22 : RB d 229 22 [l0, l1, l2, .int x, l4, l5] st (S, I, R, z) Q = RB d 229 23 [l0, l1, l2, .int x, l4, l5] (.int x :: st) (S, I, R, z) Q := RB_iloadn rfl rfl
set_option maxRecDepth 20000 in
theorem w229_23 : RB d 229 23 [l0, l1, l2, l3, l4, l5] [.int x0, .ref a] (S, I, R, z) Q = ((S a).1 = 7 ∧ RM d 140 [.ref a, .int x0] (S, I, R, z) (fun v τ => RB d 229 26 [l0, l1, l2, l3, l4, l5] (aPush v []) τ Q)) := RB_callV (n := 2) (t := 0) (k := 156) (ins := .invokevirtual 156) rfl rfl rfl (by decide) (Nat.le_of_ble_eq_true rfl) (Nat.le_of_ble_eq_true rfl) rfl rfl
theorem w229_26 : RB d 229 26 [l0, l1, l2, l3, l4, l5] (.int x :: st) (S, I, R, z) Q = ((x = 0 → RB d 229 41 [l0, l1, l2, l3, l4, l5] st (S, I, R, z) Q) ∧ (¬ x = 0 → RB d 229 29 [l0, l1, l2, l3, l4, l5] st (S, I, R, z) Q)) := RB_eq0 rfl (by decide) rfl
theorem w229_29 : RB d 229 29 [l0, l1, .int x, l3, l4, l5] st (S, I, R, z) Q = RB d 229 30 [l0, l1, .int x, l3, l4, l5] (.int x :: st) (S, I, R, z) Q := RB_iloadn rfl rfl
theorem w229_30 : RB d 229 30 [l0, l1, l2, l3, l4, l5] st (S, I, R, z) Q = RB d 229 31 [l0, l1, l2, l3, l4, l5] (.int 2 :: st) (S, I, R, z) Q := RB_iconst rfl ki2
theorem w229_31 : RB d 229 31 [l0, l1, l2, l3, l4, l5] (.int y :: .int x :: st) (S, I, R, z) Q = ((x = y → RB d 229 34 [l0, l1, l2, l3, l4, l5] st (S, I, R, z) Q) ∧ (¬ x = y → RB d 229 44 [l0, l1, l2, l3, l4, l5] st (S, I, R, z) Q)) := RB_ine rfl (by decide) rfl
theorem w229_34 : RB d 229 34 [l0, l1, l2, .int x, l4, l5] st (S, I, R, z) Q = RB d 229 35 [l0, l1, l2, .int x, l4, l5] (.int x :: st) (S, I, R, z) Q := RB_iloadn rfl rfl
set_option maxRecDepth 20000 in
theorem w229_35 : RB d 229 35 [l0, l1, l2, l3, l4, l5] [.int x0] (S, I, R, z) Q = RM d 222 [.int x0] (S, I, R, z) (fun v τ => RB d 229 38 [l0, l1, l2, l3, l4, l5] (aPush v []) τ Q) := RB_callS (n := 1) (t := 1) (k := 219) (ins := .invokestatic 219) rfl rfl rfl (Nat.le_of_ble_eq_true rfl) (Nat.le_of_ble_eq_true rfl) rfl rfl
theorem w229_38 : RB d 229 38 [l0, l1, l2, l3, l4, l5] (.int x :: st) (S, I, R, z) Q = ((x = 0 → RB d 229 41 [l0, l1, l2, l3, l4, l5] st (S, I, R, z) Q) ∧ (¬ x = 0 → RB d 229 44 [l0, l1, l2, l3, l4, l5] st (S, I, R, z) Q)) := RB_ne0 rfl (by decide) rfl
theorem w229_41 : RB d 229 41 [l0, l1, l2, l3, l4, l5] st (S, I, R, z) Q = RB d 229 43 [l0, l1, l2, l3, l4, l5] (.int (-1000000001) :: st) (S, I, R, z) Q := RB_ldc rfl rfl
theorem w229_43 : RB d 229 43 [l0, l1, l2, l3, l4, l5] [.int x] (S, I, R, z) Q = Q (some (.int x)) (S, I, R, z) := RB_iret rfl rfl rfl
theorem w229_44 : RB d 229 44 [l0, l1, .int x, l3, l4, l5] st (S, I, R, z) Q = RB d 229 45 [l0, l1, .int x, l3, l4, l5] (.int x :: st) (S, I, R, z) Q := RB_iloadn rfl rfl
theorem w229_45 : RB d 229 45 [l0, l1, l2, l3, l4, l5] st (S, I, R, z) Q = RB d 229 46 [l0, l1, l2, l3, l4, l5] (.int 2 :: st) (S, I, R, z) Q := RB_iconst rfl ki2
theorem w229_46 : RB d 229 46 [l0, l1, l2, l3, l4, l5] (.int y :: .int x :: st) (S, I, R, z) Q = ((x = y → RB d 229 49 [l0, l1, l2, l3, l4, l5] st (S, I, R, z) Q) ∧ (¬ x = y → RB d 229 61 [l0, l1, l2, l3, l4, l5] st (S, I, R, z) Q)) := RB_ine rfl (by decide) rfl
theorem w229_49 : RB d 229 49 [.ref a, l1, l2, l3, l4, l5] st (S, I, R, z) Q = RB d 229 50 [.ref a, l1, l2, l3, l4, l5] (.ref a :: st) (S, I, R, z) Q := RB_aloadn rfl rfl
theorem w229_50 : RB d 229 50 [l0, l1, l2, l3, l4, l5] (.ref a :: st) (S, I, R, z) Q = ((S a).1 = 7 ∧ RB d 229 53 [l0, l1, l2, l3, l4, l5] (va_rf (R a 23) :: st) (S, I, R, z) Q) := RB_getR rfl rfl
theorem w229_53 : RB d 229 53 [l0, l1, l2, .int x, l4, l5] st (S, I, R, z) Q = RB d 229 54 [l0, l1, l2, .int x, l4, l5] (.int x :: st) (S, I, R, z) Q := RB_iloadn rfl rfl
theorem w229_54 : RB d 229 54 [l0, l1, l2, l3, l4, l5] (.int i :: .ref a :: st) (S, I, R, z) Q = (((S a).1 = 9 ∧ aIx i (S a).2) ∧ RB d 229 55 [l0, l1, l2, l3, l4, l5] (.int (I a i.toNatClampNeg) :: st) (S, I, R, z) Q) := RB_iald rfl
theorem w229_55 : RB d 229 55 [l0, l1, l2, l3, l4, l5] (.int x :: st) (S, I, R, z) Q = ((0 ≤ x → RB d 229 61 [l0, l1, l2, l3, l4, l5] st (S, I, R, z) Q) ∧ (¬ 0 ≤ x → RB d 229 58 [l0, l1, l2, l3, l4, l5] st (S, I, R, z) Q)) := RB_ge0 rfl (by decide) rfl
theorem w229_58 : RB d 229 58 [l0, l1, l2, l3, l4, l5] st (S, I, R, z) Q = RB d 229 60 [l0, l1, l2, l3, l4, l5] (.int (-1000000011) :: st) (S, I, R, z) Q := RB_ldc rfl rfl
theorem w229_60 : RB d 229 60 [l0, l1, l2, l3, l4, l5] [.int x] (S, I, R, z) Q = Q (some (.int x)) (S, I, R, z) := RB_iret rfl rfl rfl
theorem w229_61 : RB d 229 61 [.ref a, l1, l2, l3, l4, l5] st (S, I, R, z) Q = RB d 229 62 [.ref a, l1, l2, l3, l4, l5] (.ref a :: st) (S, I, R, z) Q := RB_aloadn rfl rfl
theorem w229_62 : RB d 229 62 [l0, l1, l2, l3, l4, l5] (.ref a :: st) (S, I, R, z) Q = ((S a).1 = 7 ∧ RB d 229 65 [l0, l1, l2, l3, l4, l5] (va_rf (R a 26) :: st) (S, I, R, z) Q) := RB_getR rfl rfl
theorem w229_65 : RB d 229 65 [l0, .int x, l2, l3, l4, l5] st (S, I, R, z) Q = RB d 229 66 [l0, .int x, l2, l3, l4, l5] (.int x :: st) (S, I, R, z) Q := RB_iloadn rfl rfl
theorem w229_66 : RB d 229 66 [l0, l1, l2, l3, l4, l5] (.int i :: .ref a :: st) (S, I, R, z) Q = (((S a).1 = 9 ∧ aIx i (S a).2) ∧ RB d 229 67 [l0, l1, l2, l3, l4, l5] (.int (I a i.toNatClampNeg) :: st) (S, I, R, z) Q) := RB_iald rfl
theorem w229_67 : RB d 229 67 [l0, l1, l2, l3, l4, l5] (.int x :: st) (S, I, R, z) Q = RB d 229 69 [l0, l1, l2, l3, .int x, l5] st (S, I, R, z) Q := RB_istore rfl (Nat.le_of_ble_eq_true rfl) rfl
theorem w229_69 : RB d 229 69 [.ref a, l1, l2, l3, l4, l5] st (S, I, R, z) Q = RB d 229 70 [.ref a, l1, l2, l3, l4, l5] (.ref a :: st) (S, I, R, z) Q := RB_aloadn rfl rfl
theorem w229_70 : RB d 229 70 [l0, l1, l2, l3, l4, l5] (.ref a :: st) (S, I, R, z) Q = ((S a).1 = 7 ∧ RB d 229 73 [l0, l1, l2, l3, l4, l5] (va_rf (R a 26) :: st) (S, I, R, z) Q) := RB_getR rfl rfl
theorem w229_73 : RB d 229 73 [l0, .int x, l2, l3, l4, l5] st (S, I, R, z) Q = RB d 229 74 [l0, .int x, l2, l3, l4, l5] (.int x :: st) (S, I, R, z) Q := RB_iloadn rfl rfl
theorem w229_74 : RB d 229 74 [l0, l1, .int x, l3, l4, l5] st (S, I, R, z) Q = RB d 229 75 [l0, l1, .int x, l3, l4, l5] (.int x :: st) (S, I, R, z) Q := RB_iloadn rfl rfl
theorem w229_75 : RB d 229 75 [l0, l1, l2, l3, l4, l5] (.int x :: .int i :: .ref a :: st) (S, I, R, z) Q = (((S a).1 = 9 ∧ aIx i (S a).2 ∧ 16 ≤ a) ∧ RB d 229 76 [l0, l1, l2, l3, l4, l5] st (S, aW I a i.toNatClampNeg x, R, z) Q) := RB_iast rfl
theorem w229_76 : RB d 229 76 [.ref a, l1, l2, l3, l4, l5] st (S, I, R, z) Q = RB d 229 77 [.ref a, l1, l2, l3, l4, l5] (.ref a :: st) (S, I, R, z) Q := RB_aloadn rfl rfl
theorem w229_77 : RB d 229 77 [l0, l1, l2, l3, l4, l5] (.ref a :: st) (S, I, R, z) Q = ((S a).1 = 7 ∧ RB d 229 80 [l0, l1, l2, l3, l4, l5] (va_rf (R a 27) :: st) (S, I, R, z) Q) := RB_getR rfl rfl
theorem w229_80 : RB d 229 80 [l0, .int x, l2, l3, l4, l5] st (S, I, R, z) Q = RB d 229 81 [l0, .int x, l2, l3, l4, l5] (.int x :: st) (S, I, R, z) Q := RB_iloadn rfl rfl
theorem w229_81 : RB d 229 81 [l0, l1, .int x, l3, l4, l5] st (S, I, R, z) Q = RB d 229 82 [l0, l1, .int x, l3, l4, l5] (.int x :: st) (S, I, R, z) Q := RB_iloadn rfl rfl
theorem w229_82 : RB d 229 82 [l0, l1, l2, l3, l4, l5] st (S, I, R, z) Q = RB d 229 83 [l0, l1, l2, l3, l4, l5] (.int 1 :: st) (S, I, R, z) Q := RB_iconst rfl ki1
theorem w229_83 : RB d 229 83 [l0, l1, l2, l3, l4, l5] (.int y :: .int x :: st) (S, I, R, z) Q = ((x = y → RB d 229 86 [l0, l1, l2, l3, l4, l5] st (S, I, R, z) Q) ∧ (¬ x = y → RB d 229 94 [l0, l1, l2, l3, l4, l5] st (S, I, R, z) Q)) := RB_ine rfl (by decide) rfl
theorem w229_86 : RB d 229 86 [.ref a, l1, l2, l3, l4, l5] st (S, I, R, z) Q = RB d 229 87 [.ref a, l1, l2, l3, l4, l5] (.ref a :: st) (S, I, R, z) Q := RB_aloadn rfl rfl
theorem w229_87 : RB d 229 87 [l0, l1, l2, .int x, l4, l5] st (S, I, R, z) Q = RB d 229 88 [l0, l1, l2, .int x, l4, l5] (.int x :: st) (S, I, R, z) Q := RB_iloadn rfl rfl
set_option maxRecDepth 20000 in
theorem w229_88 : RB d 229 88 [l0, l1, l2, l3, l4, l5] [.int x0, .ref a, s0, s1] (S, I, R, z) Q = ((S a).1 = 7 ∧ RM d 155 [.ref a, .int x0] (S, I, R, z) (fun v τ => RB d 229 91 [l0, l1, l2, l3, l4, l5] (aPush v [s0, s1]) τ Q)) := RB_callV (n := 2) (t := 0) (k := 144) (ins := .invokevirtual 144) rfl rfl rfl (by decide) (Nat.le_of_ble_eq_true rfl) (Nat.le_of_ble_eq_true rfl) rfl rfl
theorem w229_91 : RB d 229 91 [l0, l1, l2, l3, l4, l5] st (S, I, R, z) Q = RB d 229 109 [l0, l1, l2, l3, l4, l5] st (S, I, R, z) Q := RB_goto rfl (by decide) rfl
theorem w229_94 : RB d 229 94 [l0, l1, .int x, l3, l4, l5] st (S, I, R, z) Q = RB d 229 95 [l0, l1, .int x, l3, l4, l5] (.int x :: st) (S, I, R, z) Q := RB_iloadn rfl rfl
theorem w229_95 : RB d 229 95 [l0, l1, l2, l3, l4, l5] st (S, I, R, z) Q = RB d 229 96 [l0, l1, l2, l3, l4, l5] (.int 2 :: st) (S, I, R, z) Q := RB_iconst rfl ki2
theorem w229_96 : RB d 229 96 [l0, l1, l2, l3, l4, l5] (.int y :: .int x :: st) (S, I, R, z) Q = ((x = y → RB d 229 99 [l0, l1, l2, l3, l4, l5] st (S, I, R, z) Q) ∧ (¬ x = y → RB d 229 108 [l0, l1, l2, l3, l4, l5] st (S, I, R, z) Q)) := RB_ine rfl (by decide) rfl
theorem w229_99 : RB d 229 99 [.ref a, l1, l2, l3, l4, l5] st (S, I, R, z) Q = RB d 229 100 [.ref a, l1, l2, l3, l4, l5] (.ref a :: st) (S, I, R, z) Q := RB_aloadn rfl rfl
theorem w229_100 : RB d 229 100 [l0, l1, l2, l3, l4, l5] (.ref a :: st) (S, I, R, z) Q = ((S a).1 = 7 ∧ RB d 229 103 [l0, l1, l2, l3, l4, l5] (va_rf (R a 24) :: st) (S, I, R, z) Q) := RB_getR rfl rfl
theorem w229_103 : RB d 229 103 [l0, l1, l2, .int x, l4, l5] st (S, I, R, z) Q = RB d 229 104 [l0, l1, l2, .int x, l4, l5] (.int x :: st) (S, I, R, z) Q := RB_iloadn rfl rfl
theorem w229_104 : RB d 229 104 [l0, l1, l2, l3, l4, l5] (.int i :: .ref a :: st) (S, I, R, z) Q = (((S a).1 = 9 ∧ aIx i (S a).2) ∧ RB d 229 105 [l0, l1, l2, l3, l4, l5] (.int (I a i.toNatClampNeg) :: st) (S, I, R, z) Q) := RB_iald rfl
theorem w229_105 : RB d 229 105 [l0, l1, l2, l3, l4, l5] st (S, I, R, z) Q = RB d 229 109 [l0, l1, l2, l3, l4, l5] st (S, I, R, z) Q := RB_goto rfl (by decide) rfl
theorem w229_108 : RB d 229 108 [l0, l1, l2, .int x, l4, l5] st (S, I, R, z) Q = RB d 229 109 [l0, l1, l2, .int x, l4, l5] (.int x :: st) (S, I, R, z) Q := RB_iloadn rfl rfl
theorem w229_109 : RB d 229 109 [l0, l1, l2, l3, l4, l5] (.int x :: .int i :: .ref a :: st) (S, I, R, z) Q = (((S a).1 = 9 ∧ aIx i (S a).2 ∧ 16 ≤ a) ∧ RB d 229 110 [l0, l1, l2, l3, l4, l5] st (S, aW I a i.toNatClampNeg x, R, z) Q) := RB_iast rfl
theorem w229_110 : RB d 229 110 [.ref a, l1, l2, l3, l4, l5] st (S, I, R, z) Q = RB d 229 111 [.ref a, l1, l2, l3, l4, l5] (.ref a :: st) (S, I, R, z) Q := RB_aloadn rfl rfl
theorem w229_111 : RB d 229 111 [l0, l1, l2, l3, l4, l5] (.ref a :: st) (S, I, R, z) Q = ((S a).1 = 7 ∧ RB d 229 114 [l0, l1, l2, l3, l4, l5] (va_rf (R a 28) :: st) (S, I, R, z) Q) := RB_getR rfl rfl
theorem w229_114 : RB d 229 114 [l0, .int x, l2, l3, l4, l5] st (S, I, R, z) Q = RB d 229 115 [l0, .int x, l2, l3, l4, l5] (.int x :: st) (S, I, R, z) Q := RB_iloadn rfl rfl
theorem w229_115 : RB d 229 115 [l0, l1, .int x, l3, l4, l5] st (S, I, R, z) Q = RB d 229 116 [l0, l1, .int x, l3, l4, l5] (.int x :: st) (S, I, R, z) Q := RB_iloadn rfl rfl
theorem w229_116 : RB d 229 116 [l0, l1, l2, l3, l4, l5] st (S, I, R, z) Q = RB d 229 117 [l0, l1, l2, l3, l4, l5] (.int 1 :: st) (S, I, R, z) Q := RB_iconst rfl ki1
theorem w229_117 : RB d 229 117 [l0, l1, l2, l3, l4, l5] (.int y :: .int x :: st) (S, I, R, z) Q = ((x = y → RB d 229 120 [l0, l1, l2, l3, l4, l5] st (S, I, R, z) Q) ∧ (¬ x = y → RB d 229 128 [l0, l1, l2, l3, l4, l5] st (S, I, R, z) Q)) := RB_ine rfl (by decide) rfl
theorem w229_120 : RB d 229 120 [.ref a, l1, l2, l3, l4, l5] st (S, I, R, z) Q = RB d 229 121 [.ref a, l1, l2, l3, l4, l5] (.ref a :: st) (S, I, R, z) Q := RB_aloadn rfl rfl
theorem w229_121 : RB d 229 121 [l0, l1, l2, .int x, l4, l5] st (S, I, R, z) Q = RB d 229 122 [l0, l1, l2, .int x, l4, l5] (.int x :: st) (S, I, R, z) Q := RB_iloadn rfl rfl
set_option maxRecDepth 20000 in
theorem w229_122 : RB d 229 122 [l0, l1, l2, l3, l4, l5] [.int x0, .ref a, s0, s1] (S, I, R, z) Q = ((S a).1 = 7 ∧ RM d 164 [.ref a, .int x0] (S, I, R, z) (fun v τ => RB d 229 125 [l0, l1, l2, l3, l4, l5] (aPush v [s0, s1]) τ Q)) := RB_callV (n := 2) (t := 0) (k := 159) (ins := .invokevirtual 159) rfl rfl rfl (by decide) (Nat.le_of_ble_eq_true rfl) (Nat.le_of_ble_eq_true rfl) rfl rfl
theorem w229_125 : RB d 229 125 [l0, l1, l2, l3, l4, l5] st (S, I, R, z) Q = RB d 229 129 [l0, l1, l2, l3, l4, l5] st (S, I, R, z) Q := RB_goto rfl (by decide) rfl
theorem w229_128 : RB d 229 128 [l0, l1, l2, l3, l4, l5] st (S, I, R, z) Q = RB d 229 129 [l0, l1, l2, l3, l4, l5] (.int 0 :: st) (S, I, R, z) Q := RB_iconst rfl ki0
theorem w229_129 : RB d 229 129 [l0, l1, l2, l3, l4, l5] (.int x :: .int i :: .ref a :: st) (S, I, R, z) Q = (((S a).1 = 9 ∧ aIx i (S a).2 ∧ 16 ≤ a) ∧ RB d 229 130 [l0, l1, l2, l3, l4, l5] st (S, aW I a i.toNatClampNeg x, R, z) Q) := RB_iast rfl
theorem w229_130 : RB d 229 130 [l0, l1, l2, l3, l4, l5] st (S, I, R, z) Q = RB d 229 131 [l0, l1, l2, l3, l4, l5] (.int 0 :: st) (S, I, R, z) Q := RB_iconst rfl ki0
theorem w229_131 : RB d 229 131 [l0, l1, l2, l3, l4, l5] (.int x :: st) (S, I, R, z) Q = RB d 229 133 [l0, l1, l2, l3, l4, .int x] st (S, I, R, z) Q := RB_istore rfl (Nat.le_of_ble_eq_true rfl) rfl
theorem w229_133 : RB d 229 133 [l0, l1, l2, l3, l4, .int x] st (S, I, R, z) Q = RB d 229 135 [l0, l1, l2, l3, l4, .int x] (.int x :: st) (S, I, R, z) Q := RB_iload rfl rfl
theorem w229_135 : RB d 229 135 [l0, l1, l2, l3, l4, l5] st (S, I, R, z) Q = RB d 229 137 [l0, l1, l2, l3, l4, l5] (.int 24 :: st) (S, I, R, z) Q := RB_bipush rfl kb24
theorem w229_137 : RB d 229 137 [l0, l1, l2, l3, l4, l5] (.int y :: .int x :: st) (S, I, R, z) Q = ((y ≤ x → RB d 229 175 [l0, l1, l2, l3, l4, l5] st (S, I, R, z) Q) ∧ (¬ y ≤ x → RB d 229 140 [l0, l1, l2, l3, l4, l5] st (S, I, R, z) Q)) := RB_ige rfl (by decide) rfl
theorem w229_140 : RB d 229 140 [l0, l1, .int x, l3, l4, l5] st (S, I, R, z) Q = RB d 229 141 [l0, l1, .int x, l3, l4, l5] (.int x :: st) (S, I, R, z) Q := RB_iloadn rfl rfl
theorem w229_141 : RB d 229 141 [l0, l1, l2, l3, l4, l5] st (S, I, R, z) Q = RB d 229 142 [l0, l1, l2, l3, l4, l5] (.int 2 :: st) (S, I, R, z) Q := RB_iconst rfl ki2
theorem w229_142 : RB d 229 142 [l0, l1, l2, l3, l4, l5] (.int y :: .int x :: st) (S, I, R, z) Q = ((x = y → RB d 229 145 [l0, l1, l2, l3, l4, l5] st (S, I, R, z) Q) ∧ (¬ x = y → RB d 229 175 [l0, l1, l2, l3, l4, l5] st (S, I, R, z) Q)) := RB_ine rfl (by decide) rfl
theorem w229_145 : RB d 229 145 [.ref a, l1, l2, l3, l4, l5] st (S, I, R, z) Q = RB d 229 146 [.ref a, l1, l2, l3, l4, l5] (.ref a :: st) (S, I, R, z) Q := RB_aloadn rfl rfl
theorem w229_146 : RB d 229 146 [l0, l1, l2, l3, l4, l5] (.ref a :: st) (S, I, R, z) Q = ((S a).1 = 7 ∧ RB d 229 149 [l0, l1, l2, l3, l4, l5] (va_rf (R a 29) :: st) (S, I, R, z) Q) := RB_getR rfl rfl
theorem w229_149 : RB d 229 149 [l0, l1, l2, l3, l4, l5] st (S, I, R, z) Q = RB d 229 151 [l0, l1, l2, l3, l4, l5] (.int 24 :: st) (S, I, R, z) Q := RB_bipush rfl kb24
theorem w229_151 : RB d 229 151 [l0, .int x, l2, l3, l4, l5] st (S, I, R, z) Q = RB d 229 152 [l0, .int x, l2, l3, l4, l5] (.int x :: st) (S, I, R, z) Q := RB_iloadn rfl rfl
theorem w229_152 : RB d 229 152 [l0, l1, l2, l3, l4, l5] (.int y :: .int x :: st) (S, I, R, z) Q = RB d 229 153 [l0, l1, l2, l3, l4, l5] (.int (x * y) :: st) (S, I, R, z) Q := RB_imul rfl
theorem w229_153 : RB d 229 153 [l0, l1, l2, l3, l4, .int x] st (S, I, R, z) Q = RB d 229 155 [l0, l1, l2, l3, l4, .int x] (.int x :: st) (S, I, R, z) Q := RB_iload rfl rfl
theorem w229_155 : RB d 229 155 [l0, l1, l2, l3, l4, l5] (.int y :: .int x :: st) (S, I, R, z) Q = RB d 229 156 [l0, l1, l2, l3, l4, l5] (.int (x + y) :: st) (S, I, R, z) Q := RB_iadd rfl
theorem w229_156 : RB d 229 156 [.ref a, l1, l2, l3, l4, l5] st (S, I, R, z) Q = RB d 229 157 [.ref a, l1, l2, l3, l4, l5] (.ref a :: st) (S, I, R, z) Q := RB_aloadn rfl rfl
theorem w229_157 : RB d 229 157 [l0, l1, l2, l3, l4, l5] (.ref a :: st) (S, I, R, z) Q = ((S a).1 = 7 ∧ RB d 229 160 [l0, l1, l2, l3, l4, l5] (va_rf (R a 25) :: st) (S, I, R, z) Q) := RB_getR rfl rfl
theorem w229_160 : RB d 229 160 [l0, l1, l2, l3, l4, l5] st (S, I, R, z) Q = RB d 229 162 [l0, l1, l2, l3, l4, l5] (.int 24 :: st) (S, I, R, z) Q := RB_bipush rfl kb24
theorem w229_162 : RB d 229 162 [l0, l1, l2, .int x, l4, l5] st (S, I, R, z) Q = RB d 229 163 [l0, l1, l2, .int x, l4, l5] (.int x :: st) (S, I, R, z) Q := RB_iloadn rfl rfl
theorem w229_163 : RB d 229 163 [l0, l1, l2, l3, l4, l5] (.int y :: .int x :: st) (S, I, R, z) Q = RB d 229 164 [l0, l1, l2, l3, l4, l5] (.int (x * y) :: st) (S, I, R, z) Q := RB_imul rfl
theorem w229_164 : RB d 229 164 [l0, l1, l2, l3, l4, .int x] st (S, I, R, z) Q = RB d 229 166 [l0, l1, l2, l3, l4, .int x] (.int x :: st) (S, I, R, z) Q := RB_iload rfl rfl
theorem w229_166 : RB d 229 166 [l0, l1, l2, l3, l4, l5] (.int y :: .int x :: st) (S, I, R, z) Q = RB d 229 167 [l0, l1, l2, l3, l4, l5] (.int (x + y) :: st) (S, I, R, z) Q := RB_iadd rfl
theorem w229_167 : RB d 229 167 [l0, l1, l2, l3, l4, l5] (.int i :: .ref a :: st) (S, I, R, z) Q = (((S a).1 = 9 ∧ aIx i (S a).2) ∧ RB d 229 168 [l0, l1, l2, l3, l4, l5] (.int (I a i.toNatClampNeg) :: st) (S, I, R, z) Q) := RB_iald rfl
theorem w229_168 : RB d 229 168 [l0, l1, l2, l3, l4, l5] (.int x :: .int i :: .ref a :: st) (S, I, R, z) Q = (((S a).1 = 9 ∧ aIx i (S a).2 ∧ 16 ≤ a) ∧ RB d 229 169 [l0, l1, l2, l3, l4, l5] st (S, aW I a i.toNatClampNeg x, R, z) Q) := RB_iast rfl
theorem w229_169 : RB d 229 169 [l0, l1, l2, l3, l4, .int x] st (S, I, R, z) Q = RB d 229 172 [l0, l1, l2, l3, l4, .int (x + 1)] st (S, I, R, z) Q := RB_iinc rfl rfl (Nat.le_of_ble_eq_true rfl) ki1 rfl
theorem w229_172 : RB d 229 172 [l0, l1, l2, l3, l4, l5] st (S, I, R, z) Q = RB d 229 133 [l0, l1, l2, l3, l4, l5] st (S, I, R, z) Q := RB_goto rfl (by decide) rfl
theorem w229_175 : RB d 229 175 [l0, l1, l2, l3, .int x, l5] st (S, I, R, z) Q = RB d 229 177 [l0, l1, l2, l3, .int x, l5] (.int x :: st) (S, I, R, z) Q := RB_iload rfl rfl
theorem w229_177 : RB d 229 177 [l0, l1, l2, l3, l4, l5] [.int x] (S, I, R, z) Q = Q (some (.int x)) (S, I, R, z) := RB_iret rfl rfl rfl
/-! 230: HangedWordModel.ask -/
theorem w230_0 : RB d 230 0 [l0, .int x, l2] st (S, I, R, z) Q = RB d 230 1 [l0, .int x, l2] (.int x :: st) (S, I, R, z) Q := RB_iloadn rfl rfl
set_option maxRecDepth 20000 in
theorem w230_1 : RB d 230 1 [l0, l1, l2] [.int x0] (S, I, R, z) Q = RM d 223 [.int x0] (S, I, R, z) (fun v τ => RB d 230 4 [l0, l1, l2] (aPush v []) τ Q) := RB_callS (n := 1) (t := 1) (k := 297) (ins := .invokestatic 297) rfl rfl rfl (Nat.le_of_ble_eq_true rfl) (Nat.le_of_ble_eq_true rfl) rfl rfl
theorem w230_4 : RB d 230 4 [l0, l1, l2] (.int x :: st) (S, I, R, z) Q = ((x = 0 → RB d 230 16 [l0, l1, l2] st (S, I, R, z) Q) ∧ (¬ x = 0 → RB d 230 7 [l0, l1, l2] st (S, I, R, z) Q)) := RB_eq0 rfl (by decide) rfl
theorem w230_7 : RB d 230 7 [l0, l1, .int x] st (S, I, R, z) Q = RB d 230 8 [l0, l1, .int x] (.int x :: st) (S, I, R, z) Q := RB_iloadn rfl rfl
theorem w230_8 : RB d 230 8 [l0, l1, l2] st (S, I, R, z) Q = RB d 230 9 [l0, l1, l2] (.int 0 :: st) (S, I, R, z) Q := RB_iconst rfl ki0
theorem w230_9 : RB d 230 9 [l0, l1, l2] st (S, I, R, z) Q = RB d 230 10 [l0, l1, l2] (.int 5 :: st) (S, I, R, z) Q := RB_iconst rfl ki5
set_option maxRecDepth 20000 in
theorem w230_10 : RB d 230 10 [l0, l1, l2] [.int x2, .int x1, .int x0] (S, I, R, z) Q = RM d 135 [.int x0, .int x1, .int x2] (S, I, R, z) (fun v τ => RB d 230 13 [l0, l1, l2] (aPush v []) τ Q) := RB_callS (n := 3) (t := 1) (k := 76) (ins := .invokestatic 76) rfl rfl rfl (Nat.le_of_ble_eq_true rfl) (Nat.le_of_ble_eq_true rfl) rfl rfl
theorem w230_13 : RB d 230 13 [l0, l1, l2] (.int x :: st) (S, I, R, z) Q = ((x = 0 → RB d 230 16 [l0, l1, l2] st (S, I, R, z) Q) ∧ (¬ x = 0 → RB d 230 19 [l0, l1, l2] st (S, I, R, z) Q)) := RB_ne0 rfl (by decide) rfl
theorem w230_16 : RB d 230 16 [l0, l1, l2] st (S, I, R, z) Q = RB d 230 18 [l0, l1, l2] (.int (-1000000001) :: st) (S, I, R, z) Q := RB_ldc rfl rfl
theorem w230_18 : RB d 230 18 [l0, l1, l2] [.int x] (S, I, R, z) Q = Q (some (.int x)) (S, I, R, z) := RB_iret rfl rfl rfl
theorem w230_19 : RB d 230 19 [.ref a, l1, l2] st (S, I, R, z) Q = RB d 230 20 [.ref a, l1, l2] (.ref a :: st) (S, I, R, z) Q := RB_aloadn rfl rfl
theorem w230_20 : RB d 230 20 [l0, l1, l2] (.ref a :: st) (S, I, R, z) Q = ((S a).1 = 7 ∧ RB d 230 23 [l0, l1, l2] (va_rf (R a 26) :: st) (S, I, R, z) Q) := RB_getR rfl rfl
theorem w230_23 : RB d 230 23 [l0, .int x, l2] st (S, I, R, z) Q = RB d 230 24 [l0, .int x, l2] (.int x :: st) (S, I, R, z) Q := RB_iloadn rfl rfl
theorem w230_24 : RB d 230 24 [l0, l1, l2] (.int i :: .ref a :: st) (S, I, R, z) Q = (((S a).1 = 9 ∧ aIx i (S a).2) ∧ RB d 230 25 [l0, l1, l2] (.int (I a i.toNatClampNeg) :: st) (S, I, R, z) Q) := RB_iald rfl
theorem w230_25 : RB d 230 25 [l0, l1, l2] (.int x :: st) (S, I, R, z) Q = ((x = 0 → RB d 230 28 [l0, l1, l2] st (S, I, R, z) Q) ∧ (¬ x = 0 → RB d 230 31 [l0, l1, l2] st (S, I, R, z) Q)) := RB_ne0 rfl (by decide) rfl
theorem w230_28 : RB d 230 28 [l0, l1, l2] st (S, I, R, z) Q = RB d 230 30 [l0, l1, l2] (.int (-1000000011) :: st) (S, I, R, z) Q := RB_ldc rfl rfl
theorem w230_30 : RB d 230 30 [l0, l1, l2] [.int x] (S, I, R, z) Q = Q (some (.int x)) (S, I, R, z) := RB_iret rfl rfl rfl
theorem w230_31 : RB d 230 31 [.ref a, l1, l2] st (S, I, R, z) Q = RB d 230 32 [.ref a, l1, l2] (.ref a :: st) (S, I, R, z) Q := RB_aloadn rfl rfl
theorem w230_32 : RB d 230 32 [l0, l1, l2] (.ref a :: st) (S, I, R, z) Q = ((S a).1 = 7 ∧ RB d 230 35 [l0, l1, l2] (va_rf (R a 26) :: st) (S, I, R, z) Q) := RB_getR rfl rfl
theorem w230_35 : RB d 230 35 [l0, .int x, l2] st (S, I, R, z) Q = RB d 230 36 [l0, .int x, l2] (.int x :: st) (S, I, R, z) Q := RB_iloadn rfl rfl
theorem w230_36 : RB d 230 36 [l0, l1, l2] (.int i :: .ref a :: st) (S, I, R, z) Q = (((S a).1 = 9 ∧ aIx i (S a).2) ∧ RB d 230 37 [l0, l1, l2] (.int (I a i.toNatClampNeg) :: st) (S, I, R, z) Q) := RB_iald rfl
theorem w230_37 : RB d 230 37 [l0, l1, l2] st (S, I, R, z) Q = RB d 230 38 [l0, l1, l2] (.int 1 :: st) (S, I, R, z) Q := RB_iconst rfl ki1
theorem w230_38 : RB d 230 38 [l0, l1, l2] (.int y :: .int x :: st) (S, I, R, z) Q = ((x = y → RB d 230 41 [l0, l1, l2] st (S, I, R, z) Q) ∧ (¬ x = y → RB d 230 63 [l0, l1, l2] st (S, I, R, z) Q)) := RB_ine rfl (by decide) rfl
theorem w230_41 : RB d 230 41 [.ref a, l1, l2] st (S, I, R, z) Q = RB d 230 42 [.ref a, l1, l2] (.ref a :: st) (S, I, R, z) Q := RB_aloadn rfl rfl
theorem w230_42 : RB d 230 42 [l0, l1, l2] (.ref a :: st) (S, I, R, z) Q = ((S a).1 = 7 ∧ RB d 230 45 [l0, l1, l2] (va_rf (R a 27) :: st) (S, I, R, z) Q) := RB_getR rfl rfl
theorem w230_45 : RB d 230 45 [l0, .int x, l2] st (S, I, R, z) Q = RB d 230 46 [l0, .int x, l2] (.int x :: st) (S, I, R, z) Q := RB_iloadn rfl rfl
theorem w230_46 : RB d 230 46 [l0, l1, l2] (.int i :: .ref a :: st) (S, I, R, z) Q = (((S a).1 = 9 ∧ aIx i (S a).2) ∧ RB d 230 47 [l0, l1, l2] (.int (I a i.toNatClampNeg) :: st) (S, I, R, z) Q) := RB_iald rfl
theorem w230_47 : RB d 230 47 [l0, l1, .int x] st (S, I, R, z) Q = RB d 230 48 [l0, l1, .int x] (.int x :: st) (S, I, R, z) Q := RB_iloadn rfl rfl
set_option maxRecDepth 20000 in
theorem w230_48 : RB d 230 48 [l0, l1, l2] [.int x1, .int x0] (S, I, R, z) Q = RM d 167 [.int x0, .int x1] (S, I, R, z) (fun v τ => RB d 230 51 [l0, l1, l2] (aPush v []) τ Q) := RB_callS (n := 2) (t := 1) (k := 168) (ins := .invokestatic 168) rfl rfl rfl (Nat.le_of_ble_eq_true rfl) (Nat.le_of_ble_eq_true rfl) rfl rfl
theorem w230_51 : RB d 230 51 [l0, l1, l2] (.int x :: st) (S, I, R, z) Q = ((x = 0 → RB d 230 63 [l0, l1, l2] st (S, I, R, z) Q) ∧ (¬ x = 0 → RB d 230 54 [l0, l1, l2] st (S, I, R, z) Q)) := RB_eq0 rfl (by decide) rfl
theorem w230_54 : RB d 230 54 [.ref a, l1, l2] st (S, I, R, z) Q = RB d 230 55 [.ref a, l1, l2] (.ref a :: st) (S, I, R, z) Q := RB_aloadn rfl rfl
theorem w230_55 : RB d 230 55 [l0, l1, l2] (.ref a :: st) (S, I, R, z) Q = ((S a).1 = 7 ∧ RB d 230 58 [l0, l1, l2] (va_rf (R a 28) :: st) (S, I, R, z) Q) := RB_getR rfl rfl
theorem w230_58 : RB d 230 58 [l0, .int x, l2] st (S, I, R, z) Q = RB d 230 59 [l0, .int x, l2] (.int x :: st) (S, I, R, z) Q := RB_iloadn rfl rfl
theorem w230_59 : RB d 230 59 [l0, l1, l2] (.int i :: .ref a :: st) (S, I, R, z) Q = (((S a).1 = 9 ∧ aIx i (S a).2) ∧ RB d 230 60 [l0, l1, l2] (.int (I a i.toNatClampNeg) :: st) (S, I, R, z) Q) := RB_iald rfl
theorem w230_60 : RB d 230 60 [l0, l1, l2] st (S, I, R, z) Q = RB d 230 65 [l0, l1, l2] st (S, I, R, z) Q := RB_goto rfl (by decide) rfl
theorem w230_63 : RB d 230 63 [l0, l1, l2] st (S, I, R, z) Q = RB d 230 65 [l0, l1, l2] (.int (-1000000012) :: st) (S, I, R, z) Q := RB_ldc rfl rfl
theorem w230_65 : RB d 230 65 [l0, l1, l2] [.int x] (S, I, R, z) Q = Q (some (.int x)) (S, I, R, z) := RB_iret rfl rfl rfl
/-! 231: HangedWordModel.item -/
theorem w231_0 : RB d 231 0 [l0, .int x, l2, l3] st (S, I, R, z) Q = RB d 231 1 [l0, .int x, l2, l3] (.int x :: st) (S, I, R, z) Q := RB_iloadn rfl rfl
set_option maxRecDepth 20000 in
theorem w231_1 : RB d 231 1 [l0, l1, l2, l3] [.int x0] (S, I, R, z) Q = RM d 223 [.int x0] (S, I, R, z) (fun v τ => RB d 231 4 [l0, l1, l2, l3] (aPush v []) τ Q) := RB_callS (n := 1) (t := 1) (k := 297) (ins := .invokestatic 297) rfl rfl rfl (Nat.le_of_ble_eq_true rfl) (Nat.le_of_ble_eq_true rfl) rfl rfl
theorem w231_4 : RB d 231 4 [l0, l1, l2, l3] (.int x :: st) (S, I, R, z) Q = ((x = 0 → RB d 231 7 [l0, l1, l2, l3] st (S, I, R, z) Q) ∧ (¬ x = 0 → RB d 231 10 [l0, l1, l2, l3] st (S, I, R, z) Q)) := RB_ne0 rfl (by decide) rfl
theorem w231_7 : RB d 231 7 [l0, l1, l2, l3] st (S, I, R, z) Q = RB d 231 9 [l0, l1, l2, l3] (.int (-1000000001) :: st) (S, I, R, z) Q := RB_ldc rfl rfl
theorem w231_9 : RB d 231 9 [l0, l1, l2, l3] [.int x] (S, I, R, z) Q = Q (some (.int x)) (S, I, R, z) := RB_iret rfl rfl rfl
theorem w231_10 : RB d 231 10 [.ref a, l1, l2, l3] st (S, I, R, z) Q = RB d 231 11 [.ref a, l1, l2, l3] (.ref a :: st) (S, I, R, z) Q := RB_aloadn rfl rfl
theorem w231_11 : RB d 231 11 [l0, l1, l2, l3] (.ref a :: st) (S, I, R, z) Q = ((S a).1 = 7 ∧ RB d 231 14 [l0, l1, l2, l3] (va_rf (R a 26) :: st) (S, I, R, z) Q) := RB_getR rfl rfl
theorem w231_14 : RB d 231 14 [l0, .int x, l2, l3] st (S, I, R, z) Q = RB d 231 15 [l0, .int x, l2, l3] (.int x :: st) (S, I, R, z) Q := RB_iloadn rfl rfl
theorem w231_15 : RB d 231 15 [l0, l1, l2, l3] (.int i :: .ref a :: st) (S, I, R, z) Q = (((S a).1 = 9 ∧ aIx i (S a).2) ∧ RB d 231 16 [l0, l1, l2, l3] (.int (I a i.toNatClampNeg) :: st) (S, I, R, z) Q) := RB_iald rfl
theorem w231_16 : RB d 231 16 [l0, l1, l2, l3] (.int x :: st) (S, I, R, z) Q = ((x = 0 → RB d 231 19 [l0, l1, l2, l3] st (S, I, R, z) Q) ∧ (¬ x = 0 → RB d 231 22 [l0, l1, l2, l3] st (S, I, R, z) Q)) := RB_ne0 rfl (by decide) rfl
theorem w231_19 : RB d 231 19 [l0, l1, l2, l3] st (S, I, R, z) Q = RB d 231 21 [l0, l1, l2, l3] (.int (-1000000011) :: st) (S, I, R, z) Q := RB_ldc rfl rfl
theorem w231_21 : RB d 231 21 [l0, l1, l2, l3] [.int x] (S, I, R, z) Q = Q (some (.int x)) (S, I, R, z) := RB_iret rfl rfl rfl
theorem w231_22 : RB d 231 22 [.ref a, l1, l2, l3] st (S, I, R, z) Q = RB d 231 23 [.ref a, l1, l2, l3] (.ref a :: st) (S, I, R, z) Q := RB_aloadn rfl rfl
theorem w231_23 : RB d 231 23 [l0, l1, l2, l3] (.ref a :: st) (S, I, R, z) Q = ((S a).1 = 7 ∧ RB d 231 26 [l0, l1, l2, l3] (va_rf (R a 26) :: st) (S, I, R, z) Q) := RB_getR rfl rfl
theorem w231_26 : RB d 231 26 [l0, .int x, l2, l3] st (S, I, R, z) Q = RB d 231 27 [l0, .int x, l2, l3] (.int x :: st) (S, I, R, z) Q := RB_iloadn rfl rfl
theorem w231_27 : RB d 231 27 [l0, l1, l2, l3] (.int i :: .ref a :: st) (S, I, R, z) Q = (((S a).1 = 9 ∧ aIx i (S a).2) ∧ RB d 231 28 [l0, l1, l2, l3] (.int (I a i.toNatClampNeg) :: st) (S, I, R, z) Q) := RB_iald rfl
theorem w231_28 : RB d 231 28 [l0, l1, l2, l3] st (S, I, R, z) Q = RB d 231 29 [l0, l1, l2, l3] (.int 2 :: st) (S, I, R, z) Q := RB_iconst rfl ki2
theorem w231_29 : RB d 231 29 [l0, l1, l2, l3] (.int y :: .int x :: st) (S, I, R, z) Q = ((x = y → RB d 231 35 [l0, l1, l2, l3] st (S, I, R, z) Q) ∧ (¬ x = y → RB d 231 32 [l0, l1, l2, l3] st (S, I, R, z) Q)) := RB_ieq rfl (by decide) rfl
theorem w231_32 : RB d 231 32 [l0, l1, l2, l3] st (S, I, R, z) Q = RB d 231 34 [l0, l1, l2, l3] (.int (-1000000012) :: st) (S, I, R, z) Q := RB_ldc rfl rfl
theorem w231_34 : RB d 231 34 [l0, l1, l2, l3] [.int x] (S, I, R, z) Q = Q (some (.int x)) (S, I, R, z) := RB_iret rfl rfl rfl
theorem w231_35 : RB d 231 35 [l0, l1, .int x, l3] st (S, I, R, z) Q = RB d 231 36 [l0, l1, .int x, l3] (.int x :: st) (S, I, R, z) Q := RB_iloadn rfl rfl
theorem w231_36 : RB d 231 36 [l0, l1, l2, l3] st (S, I, R, z) Q = RB d 231 37 [l0, l1, l2, l3] (.int 0 :: st) (S, I, R, z) Q := RB_iconst rfl ki0
theorem w231_37 : RB d 231 37 [.ref a, l1, l2, l3] st (S, I, R, z) Q = RB d 231 38 [.ref a, l1, l2, l3] (.ref a :: st) (S, I, R, z) Q := RB_aloadn rfl rfl
theorem w231_38 : RB d 231 38 [l0, l1, l2, l3] (.ref a :: st) (S, I, R, z) Q = ((S a).1 = 7 ∧ RB d 231 41 [l0, l1, l2, l3] (va_rf (R a 27) :: st) (S, I, R, z) Q) := RB_getR rfl rfl
theorem w231_41 : RB d 231 41 [l0, .int x, l2, l3] st (S, I, R, z) Q = RB d 231 42 [l0, .int x, l2, l3] (.int x :: st) (S, I, R, z) Q := RB_iloadn rfl rfl
theorem w231_42 : RB d 231 42 [l0, l1, l2, l3] (.int i :: .ref a :: st) (S, I, R, z) Q = (((S a).1 = 9 ∧ aIx i (S a).2) ∧ RB d 231 43 [l0, l1, l2, l3] (.int (I a i.toNatClampNeg) :: st) (S, I, R, z) Q) := RB_iald rfl
theorem w231_43 : RB d 231 43 [l0, l1, l2, l3] st (S, I, R, z) Q = RB d 231 44 [l0, l1, l2, l3] (.int 1 :: st) (S, I, R, z) Q := RB_iconst rfl ki1
theorem w231_44 : RB d 231 44 [l0, l1, l2, l3] (.int y :: .int x :: st) (S, I, R, z) Q = RB d 231 45 [l0, l1, l2, l3] (.int (x - y) :: st) (S, I, R, z) Q := RB_isub rfl
set_option maxRecDepth 20000 in
theorem w231_45 : RB d 231 45 [l0, l1, l2, l3] [.int x2, .int x1, .int x0] (S, I, R, z) Q = RM d 135 [.int x0, .int x1, .int x2] (S, I, R, z) (fun v τ => RB d 231 48 [l0, l1, l2, l3] (aPush v []) τ Q) := RB_callS (n := 3) (t := 1) (k := 76) (ins := .invokestatic 76) rfl rfl rfl (Nat.le_of_ble_eq_true rfl) (Nat.le_of_ble_eq_true rfl) rfl rfl
theorem w231_48 : RB d 231 48 [l0, l1, l2, l3] (.int x :: st) (S, I, R, z) Q = ((x = 0 → RB d 231 51 [l0, l1, l2, l3] st (S, I, R, z) Q) ∧ (¬ x = 0 → RB d 231 55 [l0, l1, l2, l3] st (S, I, R, z) Q)) := RB_ne0 rfl (by decide) rfl
theorem w231_51 : RB d 231 51 [l0, l1, l2, l3] st (S, I, R, z) Q = RB d 231 54 [l0, l1, l2, l3] (.int (-1000000013) :: st) (S, I, R, z) Q := RB_ldcw rfl rfl
theorem w231_54 : RB d 231 54 [l0, l1, l2, l3] [.int x] (S, I, R, z) Q = Q (some (.int x)) (S, I, R, z) := RB_iret rfl rfl rfl
theorem w231_55 : RB d 231 55 [.ref a, l1, l2, l3] st (S, I, R, z) Q = RB d 231 56 [.ref a, l1, l2, l3] (.ref a :: st) (S, I, R, z) Q := RB_aloadn rfl rfl
theorem w231_56 : RB d 231 56 [l0, l1, l2, l3] (.ref a :: st) (S, I, R, z) Q = ((S a).1 = 7 ∧ RB d 231 59 [l0, l1, l2, l3] (va_rf (R a 29) :: st) (S, I, R, z) Q) := RB_getR rfl rfl
theorem w231_59 : RB d 231 59 [l0, l1, l2, l3] st (S, I, R, z) Q = RB d 231 61 [l0, l1, l2, l3] (.int 24 :: st) (S, I, R, z) Q := RB_bipush rfl kb24
theorem w231_61 : RB d 231 61 [l0, .int x, l2, l3] st (S, I, R, z) Q = RB d 231 62 [l0, .int x, l2, l3] (.int x :: st) (S, I, R, z) Q := RB_iloadn rfl rfl
theorem w231_62 : RB d 231 62 [l0, l1, l2, l3] (.int y :: .int x :: st) (S, I, R, z) Q = RB d 231 63 [l0, l1, l2, l3] (.int (x * y) :: st) (S, I, R, z) Q := RB_imul rfl
theorem w231_63 : RB d 231 63 [l0, l1, .int x, l3] st (S, I, R, z) Q = RB d 231 64 [l0, l1, .int x, l3] (.int x :: st) (S, I, R, z) Q := RB_iloadn rfl rfl
theorem w231_64 : RB d 231 64 [l0, l1, l2, l3] (.int y :: .int x :: st) (S, I, R, z) Q = RB d 231 65 [l0, l1, l2, l3] (.int (x + y) :: st) (S, I, R, z) Q := RB_iadd rfl
theorem w231_65 : RB d 231 65 [l0, l1, l2, l3] (.int i :: .ref a :: st) (S, I, R, z) Q = (((S a).1 = 9 ∧ aIx i (S a).2) ∧ RB d 231 66 [l0, l1, l2, l3] (.int (I a i.toNatClampNeg) :: st) (S, I, R, z) Q) := RB_iald rfl
theorem w231_66 : RB d 231 66 [l0, l1, l2, l3] (.int x :: st) (S, I, R, z) Q = RB d 231 67 [l0, l1, l2, .int x] st (S, I, R, z) Q := RB_istoren rfl (Nat.le_of_ble_eq_true rfl) rfl
theorem w231_67 : RB d 231 67 [l0, l1, l2, .int x] st (S, I, R, z) Q = RB d 231 68 [l0, l1, l2, .int x] (.int x :: st) (S, I, R, z) Q := RB_iloadn rfl rfl
theorem w231_68 : RB d 231 68 [l0, l1, l2, l3] st (S, I, R, z) Q = RB d 231 70 [l0, l1, l2, l3] (.int (-1000000005) :: st) (S, I, R, z) Q := RB_ldc rfl rfl
theorem w231_70 : RB d 231 70 [l0, l1, l2, l3] (.int y :: .int x :: st) (S, I, R, z) Q = ((x = y → RB d 231 73 [l0, l1, l2, l3] st (S, I, R, z) Q) ∧ (¬ x = y → RB d 231 78 [l0, l1, l2, l3] st (S, I, R, z) Q)) := RB_ine rfl (by decide) rfl
theorem w231_73 : RB d 231 73 [l0, l1, l2, l3] st (S, I, R, z) Q = RB d 231 75 [l0, l1, l2, l3] (.int (-1000000012) :: st) (S, I, R, z) Q := RB_ldc rfl rfl
theorem w231_75 : RB d 231 75 [l0, l1, l2, l3] st (S, I, R, z) Q = RB d 231 79 [l0, l1, l2, l3] st (S, I, R, z) Q := RB_goto rfl (by decide) rfl
theorem w231_78 : RB d 231 78 [l0, l1, l2, .int x] st (S, I, R, z) Q = RB d 231 79 [l0, l1, l2, .int x] (.int x :: st) (S, I, R, z) Q := RB_iloadn rfl rfl
theorem w231_79 : RB d 231 79 [l0, l1, l2, l3] [.int x] (S, I, R, z) Q = Q (some (.int x)) (S, I, R, z) := RB_iret rfl rfl rfl
/-! 232: HangedWordModel.rest -/
theorem w232_0 : RB d 232 0 [l0, .int x, l2] st (S, I, R, z) Q = RB d 232 1 [l0, .int x, l2] (.int x :: st) (S, I, R, z) Q := RB_iloadn rfl rfl
set_option maxRecDepth 20000 in
theorem w232_1 : RB d 232 1 [l0, l1, l2] [.int x0] (S, I, R, z) Q = RM d 223 [.int x0] (S, I, R, z) (fun v τ => RB d 232 4 [l0, l1, l2] (aPush v []) τ Q) := RB_callS (n := 1) (t := 1) (k := 297) (ins := .invokestatic 297) rfl rfl rfl (Nat.le_of_ble_eq_true rfl) (Nat.le_of_ble_eq_true rfl) rfl rfl
theorem w232_4 : RB d 232 4 [l0, l1, l2] (.int x :: st) (S, I, R, z) Q = ((x = 0 → RB d 232 7 [l0, l1, l2] st (S, I, R, z) Q) ∧ (¬ x = 0 → RB d 232 10 [l0, l1, l2] st (S, I, R, z) Q)) := RB_ne0 rfl (by decide) rfl
theorem w232_7 : RB d 232 7 [l0, l1, l2] st (S, I, R, z) Q = RB d 232 9 [l0, l1, l2] (.int (-1000000001) :: st) (S, I, R, z) Q := RB_ldc rfl rfl
theorem w232_9 : RB d 232 9 [l0, l1, l2] [.int x] (S, I, R, z) Q = Q (some (.int x)) (S, I, R, z) := RB_iret rfl rfl rfl
theorem w232_10 : RB d 232 10 [.ref a, l1, l2] st (S, I, R, z) Q = RB d 232 11 [.ref a, l1, l2] (.ref a :: st) (S, I, R, z) Q := RB_aloadn rfl rfl
theorem w232_11 : RB d 232 11 [l0, l1, l2] (.ref a :: st) (S, I, R, z) Q = ((S a).1 = 7 ∧ RB d 232 14 [l0, l1, l2] (va_rf (R a 26) :: st) (S, I, R, z) Q) := RB_getR rfl rfl
theorem w232_14 : RB d 232 14 [l0, .int x, l2] st (S, I, R, z) Q = RB d 232 15 [l0, .int x, l2] (.int x :: st) (S, I, R, z) Q := RB_iloadn rfl rfl
theorem w232_15 : RB d 232 15 [l0, l1, l2] (.int i :: .ref a :: st) (S, I, R, z) Q = (((S a).1 = 9 ∧ aIx i (S a).2) ∧ RB d 232 16 [l0, l1, l2] (.int (I a i.toNatClampNeg) :: st) (S, I, R, z) Q) := RB_iald rfl
theorem w232_16 : RB d 232 16 [l0, l1, l2] (.int x :: st) (S, I, R, z) Q = ((x = 0 → RB d 232 19 [l0, l1, l2] st (S, I, R, z) Q) ∧ (¬ x = 0 → RB d 232 22 [l0, l1, l2] st (S, I, R, z) Q)) := RB_ne0 rfl (by decide) rfl
theorem w232_19 : RB d 232 19 [l0, l1, l2] st (S, I, R, z) Q = RB d 232 21 [l0, l1, l2] (.int (-1000000011) :: st) (S, I, R, z) Q := RB_ldc rfl rfl
theorem w232_21 : RB d 232 21 [l0, l1, l2] [.int x] (S, I, R, z) Q = Q (some (.int x)) (S, I, R, z) := RB_iret rfl rfl rfl
theorem w232_22 : RB d 232 22 [.ref a, l1, l2] st (S, I, R, z) Q = RB d 232 23 [.ref a, l1, l2] (.ref a :: st) (S, I, R, z) Q := RB_aloadn rfl rfl
theorem w232_23 : RB d 232 23 [l0, l1, l2] (.ref a :: st) (S, I, R, z) Q = ((S a).1 = 7 ∧ RB d 232 26 [l0, l1, l2] (va_rf (R a 26) :: st) (S, I, R, z) Q) := RB_getR rfl rfl
theorem w232_26 : RB d 232 26 [l0, .int x, l2] st (S, I, R, z) Q = RB d 232 27 [l0, .int x, l2] (.int x :: st) (S, I, R, z) Q := RB_iloadn rfl rfl
theorem w232_27 : RB d 232 27 [l0, l1, l2] (.int i :: .ref a :: st) (S, I, R, z) Q = (((S a).1 = 9 ∧ aIx i (S a).2) ∧ RB d 232 28 [l0, l1, l2] (.int (I a i.toNatClampNeg) :: st) (S, I, R, z) Q) := RB_iald rfl
theorem w232_28 : RB d 232 28 [l0, l1, l2] st (S, I, R, z) Q = RB d 232 29 [l0, l1, l2] (.int 3 :: st) (S, I, R, z) Q := RB_iconst rfl ki3
theorem w232_29 : RB d 232 29 [l0, l1, l2] (.int y :: .int x :: st) (S, I, R, z) Q = ((x = y → RB d 232 35 [l0, l1, l2] st (S, I, R, z) Q) ∧ (¬ x = y → RB d 232 32 [l0, l1, l2] st (S, I, R, z) Q)) := RB_ieq rfl (by decide) rfl
theorem w232_32 : RB d 232 32 [l0, l1, l2] st (S, I, R, z) Q = RB d 232 34 [l0, l1, l2] (.int (-1000000012) :: st) (S, I, R, z) Q := RB_ldc rfl rfl
theorem w232_34 : RB d 232 34 [l0, l1, l2] [.int x] (S, I, R, z) Q = Q (some (.int x)) (S, I, R, z) := RB_iret rfl rfl rfl
theorem w232_35 : RB d 232 35 [l0, l1, .int x] st (S, I, R, z) Q = RB d 232 36 [l0, l1, .int x] (.int x :: st) (S, I, R, z) Q := RB_iloadn rfl rfl
theorem w232_36 : RB d 232 36 [l0, l1, l2] (.int x :: st) (S, I, R, z) Q = ((x = 0 → RB d 232 39 [l0, l1, l2] st (S, I, R, z) Q) ∧ (¬ x = 0 → RB d 232 44 [l0, l1, l2] st (S, I, R, z) Q)) := RB_ne0 rfl (by decide) rfl
theorem w232_39 : RB d 232 39 [l0, l1, l2] st (S, I, R, z) Q = RB d 232 41 [l0, l1, l2] (.int (-1000000002) :: st) (S, I, R, z) Q := RB_ldc rfl rfl
theorem w232_41 : RB d 232 41 [l0, l1, l2] st (S, I, R, z) Q = RB d 232 61 [l0, l1, l2] st (S, I, R, z) Q := RB_goto rfl (by decide) rfl
theorem w232_44 : RB d 232 44 [l0, l1, .int x] st (S, I, R, z) Q = RB d 232 45 [l0, l1, .int x] (.int x :: st) (S, I, R, z) Q := RB_iloadn rfl rfl
theorem w232_45 : RB d 232 45 [l0, l1, l2] st (S, I, R, z) Q = RB d 232 46 [l0, l1, l2] (.int (-1) :: st) (S, I, R, z) Q := RB_iconst rfl kim1
theorem w232_46 : RB d 232 46 [l0, l1, l2] (.int y :: .int x :: st) (S, I, R, z) Q = ((x = y → RB d 232 49 [l0, l1, l2] st (S, I, R, z) Q) ∧ (¬ x = y → RB d 232 53 [l0, l1, l2] st (S, I, R, z) Q)) := RB_ine rfl (by decide) rfl
theorem w232_49 : RB d 232 49 [l0, l1, l2] st (S, I, R, z) Q = RB d 232 50 [l0, l1, l2] (.int 0 :: st) (S, I, R, z) Q := RB_iconst rfl ki0
theorem w232_50 : RB d 232 50 [l0, l1, l2] st (S, I, R, z) Q = RB d 232 61 [l0, l1, l2] st (S, I, R, z) Q := RB_goto rfl (by decide) rfl
theorem w232_53 : RB d 232 53 [.ref a, l1, l2] st (S, I, R, z) Q = RB d 232 54 [.ref a, l1, l2] (.ref a :: st) (S, I, R, z) Q := RB_aloadn rfl rfl
theorem w232_54 : RB d 232 54 [l0, l1, l2] (.ref a :: st) (S, I, R, z) Q = ((S a).1 = 7 ∧ RB d 232 57 [l0, l1, l2] (va_rf (R a 27) :: st) (S, I, R, z) Q) := RB_getR rfl rfl
theorem w232_57 : RB d 232 57 [l0, .int x, l2] st (S, I, R, z) Q = RB d 232 58 [l0, .int x, l2] (.int x :: st) (S, I, R, z) Q := RB_iloadn rfl rfl
theorem w232_58 : RB d 232 58 [l0, l1, l2] (.int i :: .ref a :: st) (S, I, R, z) Q = (((S a).1 = 9 ∧ aIx i (S a).2) ∧ RB d 232 59 [l0, l1, l2] (.int (I a i.toNatClampNeg) :: st) (S, I, R, z) Q) := RB_iald rfl
theorem w232_59 : RB d 232 59 [l0, l1, .int x] st (S, I, R, z) Q = RB d 232 60 [l0, l1, .int x] (.int x :: st) (S, I, R, z) Q := RB_iloadn rfl rfl
theorem w232_60 : RB d 232 60 [l0, l1, l2] (.int y :: .int x :: st) (S, I, R, z) Q = (¬ y = 0 ∧ RB d 232 61 [l0, l1, l2] (.int (x % y) :: st) (S, I, R, z) Q) := RB_irem rfl
theorem w232_61 : RB d 232 61 [l0, l1, l2] [.int x] (S, I, R, z) Q = Q (some (.int x)) (S, I, R, z) := RB_iret rfl rfl rfl
/-! 233: HangedWordModel.tell -/
theorem w233_0 : RB d 233 0 [.ref a, l1] st (S, I, R, z) Q = RB d 233 1 [.ref a, l1] (.ref a :: st) (S, I, R, z) Q := RB_aloadn rfl rfl
theorem w233_1 : RB d 233 1 [l0, l1] (.ref a :: st) (S, I, R, z) Q = ((S a).1 = 7 ∧ RB d 233 4 [l0, l1] (.int (I a 32) :: st) (S, I, R, z) Q) := RB_getI rfl rfl
theorem w233_4 : RB d 233 4 [l0, l1] st (S, I, R, z) Q = RB d 233 6 [l0, l1] (.int 60 :: st) (S, I, R, z) Q := RB_bipush rfl kb60
theorem w233_6 : RB d 233 6 [l0, l1] (.int y :: .int x :: st) (S, I, R, z) Q = ((x = y → RB d 233 9 [l0, l1] st (S, I, R, z) Q) ∧ (¬ x = y → RB d 233 12 [l0, l1] st (S, I, R, z) Q)) := RB_ine rfl (by decide) rfl
theorem w233_9 : RB d 233 9 [l0, l1] st (S, I, R, z) Q = RB d 233 11 [l0, l1] (.int (-1000000003) :: st) (S, I, R, z) Q := RB_ldc rfl rfl
theorem w233_11 : RB d 233 11 [l0, l1] [.int x] (S, I, R, z) Q = Q (some (.int x)) (S, I, R, z) := RB_iret rfl rfl rfl
theorem w233_12 : RB d 233 12 [.ref a, l1] st (S, I, R, z) Q = RB d 233 13 [.ref a, l1] (.ref a :: st) (S, I, R, z) Q := RB_aloadn rfl rfl
theorem w233_13 : RB d 233 13 [l0, l1] (.ref a :: st) (S, I, R, z) Q = ((S a).1 = 7 ∧ RB d 233 16 [l0, l1] (va_rf (R a 31) :: st) (S, I, R, z) Q) := RB_getR rfl rfl
theorem w233_16 : RB d 233 16 [.ref a, l1] st (S, I, R, z) Q = RB d 233 17 [.ref a, l1] (.ref a :: st) (S, I, R, z) Q := RB_aloadn rfl rfl
theorem w233_17 : RB d 233 17 [l0, l1] (.ref a :: st) (S, I, R, z) Q = ((S a).1 = 7 ∧ RB d 233 20 [l0, l1] (.int (I a 32) :: st) (S, I, R, z) Q) := RB_getI rfl rfl
theorem w233_20 : RB d 233 20 [l0, .int x] st (S, I, R, z) Q = RB d 233 21 [l0, .int x] (.int x :: st) (S, I, R, z) Q := RB_iloadn rfl rfl
theorem w233_21 : RB d 233 21 [l0, l1] (.int x :: .int i :: .ref a :: st) (S, I, R, z) Q = (((S a).1 = 9 ∧ aIx i (S a).2 ∧ 16 ≤ a) ∧ RB d 233 22 [l0, l1] st (S, aW I a i.toNatClampNeg x, R, z) Q) := RB_iast rfl
theorem w233_22 : RB d 233 22 [.ref a, l1] st (S, I, R, z) Q = RB d 233 23 [.ref a, l1] (.ref a :: st) (S, I, R, z) Q := RB_aloadn rfl rfl
theorem w233_23 : RB d 233 23 [l0, l1] (v :: st) (S, I, R, z) Q = RB d 233 24 [l0, l1] (v :: v :: st) (S, I, R, z) Q := RB_dup rfl
theorem w233_24 : RB d 233 24 [l0, l1] (.ref a :: st) (S, I, R, z) Q = ((S a).1 = 7 ∧ RB d 233 27 [l0, l1] (.int (I a 32) :: st) (S, I, R, z) Q) := RB_getI rfl rfl
theorem w233_27 : RB d 233 27 [l0, l1] st (S, I, R, z) Q = RB d 233 28 [l0, l1] (.int 1 :: st) (S, I, R, z) Q := RB_iconst rfl ki1
theorem w233_28 : RB d 233 28 [l0, l1] (.int y :: .int x :: st) (S, I, R, z) Q = RB d 233 29 [l0, l1] (.int (x + y) :: st) (S, I, R, z) Q := RB_iadd rfl
theorem w233_29 : RB d 233 29 [l0, l1] (.int x :: .ref a :: st) (S, I, R, z) Q = (((S a).1 = 7 ∧ 7 < 8 ∧ 16 ≤ a) ∧ RB d 233 32 [l0, l1] st (S, aW I a 32 x, R, z) Q) := RB_putI rfl rfl (Or.inl rfl)
theorem w233_32 : RB d 233 32 [.ref a, l1] st (S, I, R, z) Q = RB d 233 33 [.ref a, l1] (.ref a :: st) (S, I, R, z) Q := RB_aloadn rfl rfl
theorem w233_33 : RB d 233 33 [l0, l1] (.ref a :: st) (S, I, R, z) Q = ((S a).1 = 7 ∧ RB d 233 36 [l0, l1] (.int (I a 32) :: st) (S, I, R, z) Q) := RB_getI rfl rfl
theorem w233_36 : RB d 233 36 [l0, l1] [.int x] (S, I, R, z) Q = Q (some (.int x)) (S, I, R, z) := RB_iret rfl rfl rfl
/-! 234: HangedWordModel.check -/
theorem w234_0 : RB d 234 0 [.ref a, l1, l2, l3, l4, l5] st (S, I, R, z) Q = RB d 234 1 [.ref a, l1, l2, l3, l4, l5] (.ref a :: st) (S, I, R, z) Q := RB_aloadn rfl rfl
theorem w234_1 : RB d 234 1 [l0, l1, l2, l3, l4, l5] (.ref a :: st) (S, I, R, z) Q = ((S a).1 = 7 ∧ RB d 234 4 [l0, l1, l2, l3, l4, l5] (.int (I a 32) :: st) (S, I, R, z) Q) := RB_getI rfl rfl
theorem w234_4 : RB d 234 4 [l0, l1, l2, l3, l4, l5] (.int x :: st) (S, I, R, z) Q = RB d 234 5 [l0, l1, l2, .int x, l4, l5] st (S, I, R, z) Q := RB_istoren rfl (Nat.le_of_ble_eq_true rfl) rfl
theorem w234_5 : RB d 234 5 [.ref a, l1, l2, l3, l4, l5] st (S, I, R, z) Q = RB d 234 6 [.ref a, l1, l2, l3, l4, l5] (.ref a :: st) (S, I, R, z) Q := RB_aloadn rfl rfl
theorem w234_6 : RB d 234 6 [l0, l1, l2, l3, l4, l5] st (S, I, R, z) Q = RB d 234 7 [l0, l1, l2, l3, l4, l5] (.int 0 :: st) (S, I, R, z) Q := RB_iconst rfl ki0
theorem w234_7 : RB d 234 7 [l0, l1, l2, l3, l4, l5] (.int x :: .ref a :: st) (S, I, R, z) Q = (((S a).1 = 7 ∧ 7 < 8 ∧ 16 ≤ a) ∧ RB d 234 10 [l0, l1, l2, l3, l4, l5] st (S, aW I a 32 x, R, z) Q) := RB_putI rfl rfl (Or.inl rfl)
theorem w234_10 : RB d 234 10 [l0, .int x, l2, l3, l4, l5] st (S, I, R, z) Q = RB d 234 11 [l0, .int x, l2, l3, l4, l5] (.int x :: st) (S, I, R, z) Q := RB_iloadn rfl rfl
theorem w234_11 : RB d 234 11 [l0, l1, l2, l3, l4, l5] st (S, I, R, z) Q = RB d 234 12 [l0, l1, l2, l3, l4, l5] (.int 0 :: st) (S, I, R, z) Q := RB_iconst rfl ki0
theorem w234_12 : RB d 234 12 [l0, l1, l2, l3, l4, l5] st (S, I, R, z) Q = RB d 234 14 [l0, l1, l2, l3, l4, l5] (.int 7 :: st) (S, I, R, z) Q := RB_bipush rfl kb7
set_option maxRecDepth 20000 in
theorem w234_14 : RB d 234 14 [l0, l1, l2, l3, l4, l5] [.int x2, .int x1, .int x0] (S, I, R, z) Q = RM d 135 [.int x0, .int x1, .int x2] (S, I, R, z) (fun v τ => RB d 234 17 [l0, l1, l2, l3, l4, l5] (aPush v []) τ Q) := RB_callS (n := 3) (t := 1) (k := 76) (ins := .invokestatic 76) rfl rfl rfl (Nat.le_of_ble_eq_true rfl) (Nat.le_of_ble_eq_true rfl) rfl rfl
theorem w234_17 : RB d 234 17 [l0, l1, l2, l3, l4, l5] (.int x :: st) (S, I, R, z) Q = ((x = 0 → RB d 234 30 [l0, l1, l2, l3, l4, l5] st (S, I, R, z) Q) ∧ (¬ x = 0 → RB d 234 20 [l0, l1, l2, l3, l4, l5] st (S, I, R, z) Q)) := RB_eq0 rfl (by decide) rfl
theorem w234_20 : RB d 234 20 [l0, l1, .int x, l3, l4, l5] st (S, I, R, z) Q = RB d 234 21 [l0, l1, .int x, l3, l4, l5] (.int x :: st) (S, I, R, z) Q := RB_iloadn rfl rfl
theorem w234_21 : RB d 234 21 [l0, l1, l2, l3, l4, l5] st (S, I, R, z) Q = RB d 234 22 [l0, l1, l2, l3, l4, l5] (.int 1 :: st) (S, I, R, z) Q := RB_iconst rfl ki1
theorem w234_22 : RB d 234 22 [l0, l1, l2, l3, l4, l5] st (S, I, R, z) Q = RB d 234 24 [l0, l1, l2, l3, l4, l5] (.int 20 :: st) (S, I, R, z) Q := RB_bipush rfl kb20
set_option maxRecDepth 20000 in
theorem w234_24 : RB d 234 24 [l0, l1, l2, l3, l4, l5] [.int x2, .int x1, .int x0] (S, I, R, z) Q = RM d 135 [.int x0, .int x1, .int x2] (S, I, R, z) (fun v τ => RB d 234 27 [l0, l1, l2, l3, l4, l5] (aPush v []) τ Q) := RB_callS (n := 3) (t := 1) (k := 76) (ins := .invokestatic 76) rfl rfl rfl (Nat.le_of_ble_eq_true rfl) (Nat.le_of_ble_eq_true rfl) rfl rfl
theorem w234_27 : RB d 234 27 [l0, l1, l2, l3, l4, l5] (.int x :: st) (S, I, R, z) Q = ((x = 0 → RB d 234 30 [l0, l1, l2, l3, l4, l5] st (S, I, R, z) Q) ∧ (¬ x = 0 → RB d 234 33 [l0, l1, l2, l3, l4, l5] st (S, I, R, z) Q)) := RB_ne0 rfl (by decide) rfl
theorem w234_30 : RB d 234 30 [l0, l1, l2, l3, l4, l5] st (S, I, R, z) Q = RB d 234 32 [l0, l1, l2, l3, l4, l5] (.int (-1000000001) :: st) (S, I, R, z) Q := RB_ldc rfl rfl
theorem w234_32 : RB d 234 32 [l0, l1, l2, l3, l4, l5] [.int x] (S, I, R, z) Q = Q (some (.int x)) (S, I, R, z) := RB_iret rfl rfl rfl
theorem w234_33 : RB d 234 33 [.ref a, l1, l2, l3, l4, l5] st (S, I, R, z) Q = RB d 234 34 [.ref a, l1, l2, l3, l4, l5] (.ref a :: st) (S, I, R, z) Q := RB_aloadn rfl rfl
theorem w234_34 : RB d 234 34 [l0, l1, l2, l3, l4, l5] (.ref a :: st) (S, I, R, z) Q = ((S a).1 = 7 ∧ RB d 234 37 [l0, l1, l2, l3, l4, l5] (.int (I a 3) :: st) (S, I, R, z) Q) := RB_getZ rfl rfl
theorem w234_37 : RB d 234 37 [l0, l1, l2, l3, l4, l5] (.int x :: st) (S, I, R, z) Q = ((x = 0 → RB d 234 50 [l0, l1, l2, l3, l4, l5] st (S, I, R, z) Q) ∧ (¬ x = 0 → RB d 234 40 [l0, l1, l2, l3, l4, l5] st (S, I, R, z) Q)) := RB_eq0 rfl (by decide) rfl
theorem w234_40 : RB d 234 40 [l0, .int x, l2, l3, l4, l5] st (S, I, R, z) Q = RB d 234 41 [l0, .int x, l2, l3, l4, l5] (.int x :: st) (S, I, R, z) Q := RB_iloadn rfl rfl
theorem w234_41 : RB d 234 41 [.ref a, l1, l2, l3, l4, l5] st (S, I, R, z) Q = RB d 234 42 [.ref a, l1, l2, l3, l4, l5] (.ref a :: st) (S, I, R, z) Q := RB_aloadn rfl rfl
theorem w234_42 : RB d 234 42 [l0, l1, l2, l3, l4, l5] (.ref a :: st) (S, I, R, z) Q = ((S a).1 = 7 ∧ RB d 234 45 [l0, l1, l2, l3, l4, l5] (va_rf (R a 1) :: st) (S, I, R, z) Q) := RB_getR rfl rfl
theorem w234_45 : RB d 234 45 [l0, l1, l2, l3, l4, l5] st (S, I, R, z) Q = RB d 234 46 [l0, l1, l2, l3, l4, l5] (.int 2 :: st) (S, I, R, z) Q := RB_iconst rfl ki2
theorem w234_46 : RB d 234 46 [l0, l1, l2, l3, l4, l5] (.int i :: .ref a :: st) (S, I, R, z) Q = (((S a).1 = 9 ∧ aIx i (S a).2) ∧ RB d 234 47 [l0, l1, l2, l3, l4, l5] (.int (I a i.toNatClampNeg) :: st) (S, I, R, z) Q) := RB_iald rfl
theorem w234_47 : RB d 234 47 [l0, l1, l2, l3, l4, l5] (.int y :: .int x :: st) (S, I, R, z) Q = ((x < y → RB d 234 53 [l0, l1, l2, l3, l4, l5] st (S, I, R, z) Q) ∧ (¬ x < y → RB d 234 50 [l0, l1, l2, l3, l4, l5] st (S, I, R, z) Q)) := RB_ilt rfl (by decide) rfl
theorem w234_50 : RB d 234 50 [l0, l1, l2, l3, l4, l5] st (S, I, R, z) Q = RB d 234 52 [l0, l1, l2, l3, l4, l5] (.int (-1000000002) :: st) (S, I, R, z) Q := RB_ldc rfl rfl
theorem w234_52 : RB d 234 52 [l0, l1, l2, l3, l4, l5] [.int x] (S, I, R, z) Q = Q (some (.int x)) (S, I, R, z) := RB_iret rfl rfl rfl
theorem w234_53 : RB d 234 53 [.ref a, l1, l2, l3, l4, l5] st (S, I, R, z) Q = RB d 234 54 [.ref a, l1, l2, l3, l4, l5] (.ref a :: st) (S, I, R, z) Q := RB_aloadn rfl rfl
theorem w234_54 : RB d 234 54 [l0, l1, l2, l3, l4, l5] (.ref a :: st) (S, I, R, z) Q = ((S a).1 = 7 ∧ RB d 234 57 [l0, l1, l2, l3, l4, l5] (va_rf (R a 0) :: st) (S, I, R, z) Q) := RB_getR rfl rfl
theorem w234_57 : RB d 234 57 [.ref a, l1, l2, l3, l4, l5] st (S, I, R, z) Q = RB d 234 58 [.ref a, l1, l2, l3, l4, l5] (.ref a :: st) (S, I, R, z) Q := RB_aloadn rfl rfl
theorem w234_58 : RB d 234 58 [l0, l1, l2, l3, l4, l5] (.ref a :: st) (S, I, R, z) Q = ((S a).1 = 7 ∧ RB d 234 61 [l0, l1, l2, l3, l4, l5] (va_rf (R a 2) :: st) (S, I, R, z) Q) := RB_getR rfl rfl
set_option maxRecDepth 20000 in
theorem w234_61 : RB d 234 61 [l0, l1, l2, l3, l4, l5] [v1, v0] (S, I, R, z) Q = RM d 137 [v0, v1] (S, I, R, z) (fun v τ => RB d 234 64 [l0, l1, l2, l3, l4, l5] (aPush v []) τ Q) := RB_callS (n := 2) (t := 1) (k := 307) (ins := .invokestatic 307) rfl rfl rfl (Nat.le_of_ble_eq_true rfl) (Nat.le_of_ble_eq_true rfl) rfl rfl
theorem w234_64 : RB d 234 64 [.ref a, l1, l2, l3, l4, l5] st (S, I, R, z) Q = RB d 234 65 [.ref a, l1, l2, l3, l4, l5] (.ref a :: st) (S, I, R, z) Q := RB_aloadn rfl rfl
theorem w234_65 : RB d 234 65 [l0, l1, l2, l3, l4, l5] (.ref a :: st) (S, I, R, z) Q = ((S a).1 = 7 ∧ RB d 234 68 [l0, l1, l2, l3, l4, l5] (va_rf (R a 1) :: st) (S, I, R, z) Q) := RB_getR rfl rfl
theorem w234_68 : RB d 234 68 [.ref a, l1, l2, l3, l4, l5] st (S, I, R, z) Q = RB d 234 69 [.ref a, l1, l2, l3, l4, l5] (.ref a :: st) (S, I, R, z) Q := RB_aloadn rfl rfl
theorem w234_69 : RB d 234 69 [l0, l1, l2, l3, l4, l5] (.ref a :: st) (S, I, R, z) Q = ((S a).1 = 7 ∧ RB d 234 72 [l0, l1, l2, l3, l4, l5] (va_rf (R a 0) :: st) (S, I, R, z) Q) := RB_getR rfl rfl
set_option maxRecDepth 20000 in
theorem w234_72 : RB d 234 72 [l0, l1, l2, l3, l4, l5] [v1, v0] (S, I, R, z) Q = RM d 137 [v0, v1] (S, I, R, z) (fun v τ => RB d 234 75 [l0, l1, l2, l3, l4, l5] (aPush v []) τ Q) := RB_callS (n := 2) (t := 1) (k := 307) (ins := .invokestatic 307) rfl rfl rfl (Nat.le_of_ble_eq_true rfl) (Nat.le_of_ble_eq_true rfl) rfl rfl
theorem w234_75 : RB d 234 75 [l0, l1, l2, l3, l4, l5] st (S, I, R, z) Q = RB d 234 76 [l0, l1, l2, l3, l4, l5] (.int 0 :: st) (S, I, R, z) Q := RB_iconst rfl ki0
theorem w234_76 : RB d 234 76 [l0, l1, l2, l3, l4, l5] (.int x :: st) (S, I, R, z) Q = RB d 234 78 [l0, l1, l2, l3, .int x, l5] st (S, I, R, z) Q := RB_istore rfl (Nat.le_of_ble_eq_true rfl) rfl
theorem w234_78 : RB d 234 78 [l0, l1, l2, l3, l4, l5] st (S, I, R, z) Q = RB d 234 79 [l0, l1, l2, l3, l4, l5] (.int 0 :: st) (S, I, R, z) Q := RB_iconst rfl ki0
theorem w234_79 : RB d 234 79 [l0, l1, l2, l3, l4, l5] (.int x :: st) (S, I, R, z) Q = RB d 234 81 [l0, l1, l2, l3, l4, .int x] st (S, I, R, z) Q := RB_istore rfl (Nat.le_of_ble_eq_true rfl) rfl
theorem w234_81 : RB d 234 81 [l0, l1, l2, l3, l4, .int x] st (S, I, R, z) Q = RB d 234 83 [l0, l1, l2, l3, l4, .int x] (.int x :: st) (S, I, R, z) Q := RB_iload rfl rfl
theorem w234_83 : RB d 234 83 [l0, l1, .int x, l3, l4, l5] st (S, I, R, z) Q = RB d 234 84 [l0, l1, .int x, l3, l4, l5] (.int x :: st) (S, I, R, z) Q := RB_iloadn rfl rfl
theorem w234_84 : RB d 234 84 [l0, l1, l2, l3, l4, l5] (.int y :: .int x :: st) (S, I, R, z) Q = ((y ≤ x → RB d 234 186 [l0, l1, l2, l3, l4, l5] st (S, I, R, z) Q) ∧ (¬ y ≤ x → RB d 234 87 [l0, l1, l2, l3, l4, l5] st (S, I, R, z) Q)) := RB_ige rfl (by decide) rfl
theorem w234_87 : RB d 234 87 [l0, l1, l2, l3, .int x, l5] st (S, I, R, z) Q = RB d 234 89 [l0, l1, l2, l3, .int x, l5] (.int x :: st) (S, I, R, z) Q := RB_iload rfl rfl
theorem w234_89 : RB d 234 89 [l0, l1, l2, l3, l4, l5] st (S, I, R, z) Q = RB d 234 90 [l0, l1, l2, l3, l4, l5] (.int 2 :: st) (S, I, R, z) Q := RB_iconst rfl ki2
theorem w234_90 : RB d 234 90 [l0, l1, l2, l3, l4, .int x] st (S, I, R, z) Q = RB d 234 92 [l0, l1, l2, l3, l4, .int x] (.int x :: st) (S, I, R, z) Q := RB_iload rfl rfl
theorem w234_92 : RB d 234 92 [l0, l1, l2, l3, l4, l5] (.int y :: .int x :: st) (S, I, R, z) Q = RB d 234 93 [l0, l1, l2, l3, l4, l5] (.int (x * y) :: st) (S, I, R, z) Q := RB_imul rfl
theorem w234_93 : RB d 234 93 [l0, l1, l2, l3, l4, l5] (.int y :: .int x :: st) (S, I, R, z) Q = ((x = y → RB d 234 96 [l0, l1, l2, l3, l4, l5] st (S, I, R, z) Q) ∧ (¬ x = y → RB d 234 186 [l0, l1, l2, l3, l4, l5] st (S, I, R, z) Q)) := RB_ine rfl (by decide) rfl
theorem w234_96 : RB d 234 96 [.ref a, l1, l2, l3, l4, l5] st (S, I, R, z) Q = RB d 234 97 [.ref a, l1, l2, l3, l4, l5] (.ref a :: st) (S, I, R, z) Q := RB_aloadn rfl rfl
set_option maxRecDepth 20000 in
theorem w234_97 : RB d 234 97 [l0, l1, l2, l3, l4, l5] [.ref a] (S, I, R, z) Q = ((S a).1 = 7 ∧ RM d 183 [.ref a] (S, I, R, z) (fun v τ => RB d 234 100 [l0, l1, l2, l3, l4, l5] (aPush v []) τ Q)) := RB_callV (n := 1) (t := 0) (k := 198) (ins := .invokevirtual 198) rfl rfl rfl (by decide) (Nat.le_of_ble_eq_true rfl) (Nat.le_of_ble_eq_true rfl) rfl rfl
theorem w234_100 : RB d 234 100 [.ref a, l1, l2, l3, l4, l5] st (S, I, R, z) Q = RB d 234 101 [.ref a, l1, l2, l3, l4, l5] (.ref a :: st) (S, I, R, z) Q := RB_aloadn rfl rfl
theorem w234_101 : RB d 234 101 [l0, .int x, l2, l3, l4, l5] st (S, I, R, z) Q = RB d 234 102 [l0, .int x, l2, l3, l4, l5] (.int x :: st) (S, I, R, z) Q := RB_iloadn rfl rfl
set_option maxRecDepth 20000 in
theorem w234_102 : RB d 234 102 [l0, l1, l2, l3, l4, l5] [.int x0, .ref a] (S, I, R, z) Q = ((S a).1 = 7 ∧ RM d 180 [.ref a, .int x0] (S, I, R, z) (fun v τ => RB d 234 105 [l0, l1, l2, l3, l4, l5] (aPush v []) τ Q)) := RB_callV (n := 2) (t := 0) (k := 192) (ins := .invokevirtual 192) rfl rfl rfl (by decide) (Nat.le_of_ble_eq_true rfl) (Nat.le_of_ble_eq_true rfl) rfl rfl
theorem w234_105 : RB d 234 105 [l0, l1, l2, l3, .int x, l5] st (S, I, R, z) Q = RB d 234 107 [l0, l1, l2, l3, .int x, l5] (.int x :: st) (S, I, R, z) Q := RB_iload rfl rfl
theorem w234_107 : RB d 234 107 [l0, l1, l2, l3, .int x, l5] st (S, I, R, z) Q = RB d 234 109 [l0, l1, l2, l3, .int x, l5] (.int x :: st) (S, I, R, z) Q := RB_iload rfl rfl
theorem w234_109 : RB d 234 109 [l0, l1, l2, .int x, l4, l5] st (S, I, R, z) Q = RB d 234 110 [l0, l1, l2, .int x, l4, l5] (.int x :: st) (S, I, R, z) Q := RB_iloadn rfl rfl
theorem w234_110 : RB d 234 110 [l0, l1, l2, l3, l4, l5] (.int y :: .int x :: st) (S, I, R, z) Q = ((y ≤ x → RB d 234 133 [l0, l1, l2, l3, l4, l5] st (S, I, R, z) Q) ∧ (¬ y ≤ x → RB d 234 113 [l0, l1, l2, l3, l4, l5] st (S, I, R, z) Q)) := RB_ige rfl (by decide) rfl
theorem w234_113 : RB d 234 113 [.ref a, l1, l2, l3, l4, l5] st (S, I, R, z) Q = RB d 234 114 [.ref a, l1, l2, l3, l4, l5] (.ref a :: st) (S, I, R, z) Q := RB_aloadn rfl rfl
theorem w234_114 : RB d 234 114 [l0, l1, l2, l3, l4, l5] (.ref a :: st) (S, I, R, z) Q = ((S a).1 = 7 ∧ RB d 234 117 [l0, l1, l2, l3, l4, l5] (va_rf (R a 31) :: st) (S, I, R, z) Q) := RB_getR rfl rfl
theorem w234_117 : RB d 234 117 [l0, l1, l2, l3, .int x, l5] st (S, I, R, z) Q = RB d 234 119 [l0, l1, l2, l3, .int x, l5] (.int x :: st) (S, I, R, z) Q := RB_iload rfl rfl
theorem w234_119 : RB d 234 119 [l0, l1, l2, l3, l4, l5] (.int i :: .ref a :: st) (S, I, R, z) Q = (((S a).1 = 9 ∧ aIx i (S a).2) ∧ RB d 234 120 [l0, l1, l2, l3, l4, l5] (.int (I a i.toNatClampNeg) :: st) (S, I, R, z) Q) := RB_iald rfl
theorem w234_120 : RB d 234 120 [.ref a, l1, l2, l3, l4, l5] st (S, I, R, z) Q = RB d 234 121 [.ref a, l1, l2, l3, l4, l5] (.ref a :: st) (S, I, R, z) Q := RB_aloadn rfl rfl
theorem w234_121 : RB d 234 121 [l0, l1, l2, l3, l4, l5] (.ref a :: st) (S, I, R, z) Q = ((S a).1 = 7 ∧ RB d 234 124 [l0, l1, l2, l3, l4, l5] (va_rf (R a 0) :: st) (S, I, R, z) Q) := RB_getR rfl rfl
theorem w234_124 : RB d 234 124 [l0, l1, l2, l3, l4, l5] st (S, I, R, z) Q = RB d 234 125 [l0, l1, l2, l3, l4, l5] (.int 3 :: st) (S, I, R, z) Q := RB_iconst rfl ki3
theorem w234_125 : RB d 234 125 [l0, l1, l2, l3, l4, l5] (.int i :: .ref a :: st) (S, I, R, z) Q = (((S a).1 = 9 ∧ aIx i (S a).2) ∧ RB d 234 126 [l0, l1, l2, l3, l4, l5] (.int (I a i.toNatClampNeg) :: st) (S, I, R, z) Q) := RB_iald rfl
theorem w234_126 : RB d 234 126 [l0, l1, l2, l3, l4, l5] (.int y :: .int x :: st) (S, I, R, z) Q = ((x = y → RB d 234 129 [l0, l1, l2, l3, l4, l5] st (S, I, R, z) Q) ∧ (¬ x = y → RB d 234 133 [l0, l1, l2, l3, l4, l5] st (S, I, R, z) Q)) := RB_ine rfl (by decide) rfl
theorem w234_129 : RB d 234 129 [l0, l1, l2, l3, l4, l5] st (S, I, R, z) Q = RB d 234 130 [l0, l1, l2, l3, l4, l5] (.int 1 :: st) (S, I, R, z) Q := RB_iconst rfl ki1
theorem w234_130 : RB d 234 130 [l0, l1, l2, l3, l4, l5] st (S, I, R, z) Q = RB d 234 134 [l0, l1, l2, l3, l4, l5] st (S, I, R, z) Q := RB_goto rfl (by decide) rfl
theorem w234_133 : RB d 234 133 [l0, l1, l2, l3, l4, l5] st (S, I, R, z) Q = RB d 234 134 [l0, l1, l2, l3, l4, l5] (.int 0 :: st) (S, I, R, z) Q := RB_iconst rfl ki0
theorem w234_134 : RB d 234 134 [l0, l1, l2, l3, l4, l5] (.int y :: .int x :: st) (S, I, R, z) Q = RB d 234 135 [l0, l1, l2, l3, l4, l5] (.int (x + y) :: st) (S, I, R, z) Q := RB_iadd rfl
theorem w234_135 : RB d 234 135 [l0, l1, l2, l3, l4, l5] (.int x :: st) (S, I, R, z) Q = RB d 234 137 [l0, l1, l2, l3, .int x, l5] st (S, I, R, z) Q := RB_istore rfl (Nat.le_of_ble_eq_true rfl) rfl
theorem w234_137 : RB d 234 137 [l0, l1, l2, l3, .int x, l5] st (S, I, R, z) Q = RB d 234 139 [l0, l1, l2, l3, .int x, l5] (.int x :: st) (S, I, R, z) Q := RB_iload rfl rfl
theorem w234_139 : RB d 234 139 [l0, l1, l2, l3, .int x, l5] st (S, I, R, z) Q = RB d 234 141 [l0, l1, l2, l3, .int x, l5] (.int x :: st) (S, I, R, z) Q := RB_iload rfl rfl
theorem w234_141 : RB d 234 141 [l0, l1, l2, l3, l4, l5] st (S, I, R, z) Q = RB d 234 142 [l0, l1, l2, l3, l4, l5] (.int 2 :: st) (S, I, R, z) Q := RB_iconst rfl ki2
theorem w234_142 : RB d 234 142 [l0, l1, l2, l3, l4, .int x] st (S, I, R, z) Q = RB d 234 144 [l0, l1, l2, l3, l4, .int x] (.int x :: st) (S, I, R, z) Q := RB_iload rfl rfl
theorem w234_144 : RB d 234 144 [l0, l1, l2, l3, l4, l5] (.int y :: .int x :: st) (S, I, R, z) Q = RB d 234 145 [l0, l1, l2, l3, l4, l5] (.int (x * y) :: st) (S, I, R, z) Q := RB_imul rfl
theorem w234_145 : RB d 234 145 [l0, l1, l2, l3, l4, l5] st (S, I, R, z) Q = RB d 234 146 [l0, l1, l2, l3, l4, l5] (.int 1 :: st) (S, I, R, z) Q := RB_iconst rfl ki1
theorem w234_146 : RB d 234 146 [l0, l1, l2, l3, l4, l5] (.int y :: .int x :: st) (S, I, R, z) Q = RB d 234 147 [l0, l1, l2, l3, l4, l5] (.int (x + y) :: st) (S, I, R, z) Q := RB_iadd rfl
theorem w234_147 : RB d 234 147 [l0, l1, l2, l3, l4, l5] (.int y :: .int x :: st) (S, I, R, z) Q = ((x = y → RB d 234 150 [l0, l1, l2, l3, l4, l5] st (S, I, R, z) Q) ∧ (¬ x = y → RB d 234 176 [l0, l1, l2, l3, l4, l5] st (S, I, R, z) Q)) := RB_ine rfl (by decide) rfl
theorem w234_150 : RB d 234 150 [l0, l1, l2, l3, .int x, l5] st (S, I, R, z) Q = RB d 234 152 [l0, l1, l2, l3, .int x, l5] (.int x :: st) (S, I, R, z) Q := RB_iload rfl rfl
theorem w234_152 : RB d 234 152 [l0, l1, l2, .int x, l4, l5] st (S, I, R, z) Q = RB d 234 153 [l0, l1, l2, .int x, l4, l5] (.int x :: st) (S, I, R, z) Q := RB_iloadn rfl rfl
theorem w234_153 : RB d 234 153 [l0, l1, l2, l3, l4, l5] (.int y :: .int x :: st) (S, I, R, z) Q = ((y ≤ x → RB d 234 176 [l0, l1, l2, l3, l4, l5] st (S, I, R, z) Q) ∧ (¬ y ≤ x → RB d 234 156 [l0, l1, l2, l3, l4, l5] st (S, I, R, z) Q)) := RB_ige rfl (by decide) rfl
theorem w234_156 : RB d 234 156 [.ref a, l1, l2, l3, l4, l5] st (S, I, R, z) Q = RB d 234 157 [.ref a, l1, l2, l3, l4, l5] (.ref a :: st) (S, I, R, z) Q := RB_aloadn rfl rfl
theorem w234_157 : RB d 234 157 [l0, l1, l2, l3, l4, l5] (.ref a :: st) (S, I, R, z) Q = ((S a).1 = 7 ∧ RB d 234 160 [l0, l1, l2, l3, l4, l5] (va_rf (R a 31) :: st) (S, I, R, z) Q) := RB_getR rfl rfl
theorem w234_160 : RB d 234 160 [l0, l1, l2, l3, .int x, l5] st (S, I, R, z) Q = RB d 234 162 [l0, l1, l2, l3, .int x, l5] (.int x :: st) (S, I, R, z) Q := RB_iload rfl rfl
theorem w234_162 : RB d 234 162 [l0, l1, l2, l3, l4, l5] (.int i :: .ref a :: st) (S, I, R, z) Q = (((S a).1 = 9 ∧ aIx i (S a).2) ∧ RB d 234 163 [l0, l1, l2, l3, l4, l5] (.int (I a i.toNatClampNeg) :: st) (S, I, R, z) Q) := RB_iald rfl
theorem w234_163 : RB d 234 163 [.ref a, l1, l2, l3, l4, l5] st (S, I, R, z) Q = RB d 234 164 [.ref a, l1, l2, l3, l4, l5] (.ref a :: st) (S, I, R, z) Q := RB_aloadn rfl rfl
theorem w234_164 : RB d 234 164 [l0, l1, l2, l3, l4, l5] (.ref a :: st) (S, I, R, z) Q = ((S a).1 = 7 ∧ RB d 234 167 [l0, l1, l2, l3, l4, l5] (va_rf (R a 0) :: st) (S, I, R, z) Q) := RB_getR rfl rfl
theorem w234_167 : RB d 234 167 [l0, l1, l2, l3, l4, l5] st (S, I, R, z) Q = RB d 234 168 [l0, l1, l2, l3, l4, l5] (.int 5 :: st) (S, I, R, z) Q := RB_iconst rfl ki5
theorem w234_168 : RB d 234 168 [l0, l1, l2, l3, l4, l5] (.int i :: .ref a :: st) (S, I, R, z) Q = (((S a).1 = 9 ∧ aIx i (S a).2) ∧ RB d 234 169 [l0, l1, l2, l3, l4, l5] (.int (I a i.toNatClampNeg) :: st) (S, I, R, z) Q) := RB_iald rfl
theorem w234_169 : RB d 234 169 [l0, l1, l2, l3, l4, l5] (.int y :: .int x :: st) (S, I, R, z) Q = ((x = y → RB d 234 172 [l0, l1, l2, l3, l4, l5] st (S, I, R, z) Q) ∧ (¬ x = y → RB d 234 176 [l0, l1, l2, l3, l4, l5] st (S, I, R, z) Q)) := RB_ine rfl (by decide) rfl
theorem w234_172 : RB d 234 172 [l0, l1, l2, l3, l4, l5] st (S, I, R, z) Q = RB d 234 173 [l0, l1, l2, l3, l4, l5] (.int 1 :: st) (S, I, R, z) Q := RB_iconst rfl ki1
theorem w234_173 : RB d 234 173 [l0, l1, l2, l3, l4, l5] st (S, I, R, z) Q = RB d 234 177 [l0, l1, l2, l3, l4, l5] st (S, I, R, z) Q := RB_goto rfl (by decide) rfl
theorem w234_176 : RB d 234 176 [l0, l1, l2, l3, l4, l5] st (S, I, R, z) Q = RB d 234 177 [l0, l1, l2, l3, l4, l5] (.int 0 :: st) (S, I, R, z) Q := RB_iconst rfl ki0
theorem w234_177 : RB d 234 177 [l0, l1, l2, l3, l4, l5] (.int y :: .int x :: st) (S, I, R, z) Q = RB d 234 178 [l0, l1, l2, l3, l4, l5] (.int (x + y) :: st) (S, I, R, z) Q := RB_iadd rfl
theorem w234_178 : RB d 234 178 [l0, l1, l2, l3, l4, l5] (.int x :: st) (S, I, R, z) Q = RB d 234 180 [l0, l1, l2, l3, .int x, l5] st (S, I, R, z) Q := RB_istore rfl (Nat.le_of_ble_eq_true rfl) rfl
theorem w234_180 : RB d 234 180 [l0, l1, l2, l3, l4, .int x] st (S, I, R, z) Q = RB d 234 183 [l0, l1, l2, l3, l4, .int (x + 1)] st (S, I, R, z) Q := RB_iinc rfl rfl (Nat.le_of_ble_eq_true rfl) ki1 rfl
theorem w234_183 : RB d 234 183 [l0, l1, l2, l3, l4, l5] st (S, I, R, z) Q = RB d 234 81 [l0, l1, l2, l3, l4, l5] st (S, I, R, z) Q := RB_goto rfl (by decide) rfl
theorem w234_186 : RB d 234 186 [.ref a, l1, l2, l3, l4, l5] st (S, I, R, z) Q = RB d 234 187 [.ref a, l1, l2, l3, l4, l5] (.ref a :: st) (S, I, R, z) Q := RB_aloadn rfl rfl
theorem w234_187 : RB d 234 187 [l0, l1, l2, l3, l4, l5] (.ref a :: st) (S, I, R, z) Q = ((S a).1 = 7 ∧ RB d 234 190 [l0, l1, l2, l3, l4, l5] (va_rf (R a 2) :: st) (S, I, R, z) Q) := RB_getR rfl rfl
theorem w234_190 : RB d 234 190 [.ref a, l1, l2, l3, l4, l5] st (S, I, R, z) Q = RB d 234 191 [.ref a, l1, l2, l3, l4, l5] (.ref a :: st) (S, I, R, z) Q := RB_aloadn rfl rfl
theorem w234_191 : RB d 234 191 [l0, l1, l2, l3, l4, l5] (.ref a :: st) (S, I, R, z) Q = ((S a).1 = 7 ∧ RB d 234 194 [l0, l1, l2, l3, l4, l5] (va_rf (R a 0) :: st) (S, I, R, z) Q) := RB_getR rfl rfl
set_option maxRecDepth 20000 in
theorem w234_194 : RB d 234 194 [l0, l1, l2, l3, l4, l5] [v1, v0] (S, I, R, z) Q = RM d 137 [v0, v1] (S, I, R, z) (fun v τ => RB d 234 197 [l0, l1, l2, l3, l4, l5] (aPush v []) τ Q) := RB_callS (n := 2) (t := 1) (k := 307) (ins := .invokestatic 307) rfl rfl rfl (Nat.le_of_ble_eq_true rfl) (Nat.le_of_ble_eq_true rfl) rfl rfl
theorem w234_197 : RB d 234 197 [l0, l1, l2, l3, .int x, l5] st (S, I, R, z) Q = RB d 234 199 [l0, l1, l2, l3, .int x, l5] (.int x :: st) (S, I, R, z) Q := RB_iload rfl rfl
theorem w234_199 : RB d 234 199 [l0, l1, l2, .int x, l4, l5] st (S, I, R, z) Q = RB d 234 200 [l0, l1, l2, .int x, l4, l5] (.int x :: st) (S, I, R, z) Q := RB_iloadn rfl rfl
theorem w234_200 : RB d 234 200 [l0, l1, l2, l3, l4, l5] (.int y :: .int x :: st) (S, I, R, z) Q = ((x = y → RB d 234 203 [l0, l1, l2, l3, l4, l5] st (S, I, R, z) Q) ∧ (¬ x = y → RB d 234 215 [l0, l1, l2, l3, l4, l5] st (S, I, R, z) Q)) := RB_ine rfl (by decide) rfl
theorem w234_203 : RB d 234 203 [l0, l1, l2, l3, .int x, l5] st (S, I, R, z) Q = RB d 234 205 [l0, l1, l2, l3, .int x, l5] (.int x :: st) (S, I, R, z) Q := RB_iload rfl rfl
theorem w234_205 : RB d 234 205 [l0, l1, l2, l3, l4, l5] st (S, I, R, z) Q = RB d 234 206 [l0, l1, l2, l3, l4, l5] (.int 2 :: st) (S, I, R, z) Q := RB_iconst rfl ki2
theorem w234_206 : RB d 234 206 [l0, l1, .int x, l3, l4, l5] st (S, I, R, z) Q = RB d 234 207 [l0, l1, .int x, l3, l4, l5] (.int x :: st) (S, I, R, z) Q := RB_iloadn rfl rfl
theorem w234_207 : RB d 234 207 [l0, l1, l2, l3, l4, l5] (.int y :: .int x :: st) (S, I, R, z) Q = RB d 234 208 [l0, l1, l2, l3, l4, l5] (.int (x * y) :: st) (S, I, R, z) Q := RB_imul rfl
theorem w234_208 : RB d 234 208 [l0, l1, l2, l3, l4, l5] (.int y :: .int x :: st) (S, I, R, z) Q = ((x = y → RB d 234 211 [l0, l1, l2, l3, l4, l5] st (S, I, R, z) Q) ∧ (¬ x = y → RB d 234 215 [l0, l1, l2, l3, l4, l5] st (S, I, R, z) Q)) := RB_ine rfl (by decide) rfl
theorem w234_211 : RB d 234 211 [l0, l1, l2, l3, l4, l5] st (S, I, R, z) Q = RB d 234 212 [l0, l1, l2, l3, l4, l5] (.int 0 :: st) (S, I, R, z) Q := RB_iconst rfl ki0
theorem w234_212 : RB d 234 212 [l0, l1, l2, l3, l4, l5] st (S, I, R, z) Q = RB d 234 219 [l0, l1, l2, l3, l4, l5] st (S, I, R, z) Q := RB_goto rfl (by decide) rfl
theorem w234_215 : RB d 234 215 [l0, l1, l2, l3, l4, l5] st (S, I, R, z) Q = RB d 234 216 [l0, l1, l2, l3, l4, l5] (.int 1 :: st) (S, I, R, z) Q := RB_iconst rfl ki1
theorem w234_216 : RB d 234 216 [l0, l1, l2, l3, .int x, l5] st (S, I, R, z) Q = RB d 234 218 [l0, l1, l2, l3, .int x, l5] (.int x :: st) (S, I, R, z) Q := RB_iload rfl rfl
theorem w234_218 : RB d 234 218 [l0, l1, l2, l3, l4, l5] (.int y :: .int x :: st) (S, I, R, z) Q = RB d 234 219 [l0, l1, l2, l3, l4, l5] (.int (x + y) :: st) (S, I, R, z) Q := RB_iadd rfl
theorem w234_219 : RB d 234 219 [l0, l1, l2, l3, l4, l5] [.int x] (S, I, R, z) Q = Q (some (.int x)) (S, I, R, z) := RB_iret rfl rfl rfl
/-! 235: HangedWordModel.keep -/
theorem w235_0 : RB d 235 0 [.ref a] st (S, I, R, z) Q = RB d 235 1 [.ref a] (.ref a :: st) (S, I, R, z) Q := RB_aloadn rfl rfl
theorem w235_1 : RB d 235 1 [l0] (.ref a :: st) (S, I, R, z) Q = ((S a).1 = 7 ∧ RB d 235 4 [l0] (va_rf (R a 0) :: st) (S, I, R, z) Q) := RB_getR rfl rfl
theorem w235_4 : RB d 235 4 [.ref a] st (S, I, R, z) Q = RB d 235 5 [.ref a] (.ref a :: st) (S, I, R, z) Q := RB_aloadn rfl rfl
theorem w235_5 : RB d 235 5 [l0] (.ref a :: st) (S, I, R, z) Q = ((S a).1 = 7 ∧ RB d 235 8 [l0] (va_rf (R a 1) :: st) (S, I, R, z) Q) := RB_getR rfl rfl
set_option maxRecDepth 20000 in
theorem w235_8 : RB d 235 8 [l0] [v1, v0] (S, I, R, z) Q = RM d 137 [v0, v1] (S, I, R, z) (fun v τ => RB d 235 11 [l0] (aPush v []) τ Q) := RB_callS (n := 2) (t := 1) (k := 307) (ins := .invokestatic 307) rfl rfl rfl (Nat.le_of_ble_eq_true rfl) (Nat.le_of_ble_eq_true rfl) rfl rfl
theorem w235_11 : RB d 235 11 [.ref a] st (S, I, R, z) Q = RB d 235 12 [.ref a] (.ref a :: st) (S, I, R, z) Q := RB_aloadn rfl rfl
theorem w235_12 : RB d 235 12 [l0] st (S, I, R, z) Q = RB d 235 13 [l0] (.int 1 :: st) (S, I, R, z) Q := RB_iconst rfl ki1
theorem w235_13 : RB d 235 13 [l0] (.int x :: .ref a :: st) (S, I, R, z) Q = (((S a).1 = 7 ∧ 7 < 8 ∧ 16 ≤ a) ∧ (x = 0 ∨ x = 1) ∧ RB d 235 16 [l0] st (S, aW I a 3 x, R, z) Q) := RB_putZ rfl rfl (Or.inl rfl)
theorem w235_16 : RB d 235 16 [.ref a] st (S, I, R, z) Q = RB d 235 17 [.ref a] (.ref a :: st) (S, I, R, z) Q := RB_aloadn rfl rfl
theorem w235_17 : RB d 235 17 [l0] (.ref a :: st) (S, I, R, z) Q = ((S a).1 = 7 ∧ RB d 235 20 [l0] (va_rf (R a 0) :: st) (S, I, R, z) Q) := RB_getR rfl rfl
theorem w235_20 : RB d 235 20 [l0] st (S, I, R, z) Q = RB d 235 21 [l0] (.int 1 :: st) (S, I, R, z) Q := RB_iconst rfl ki1
theorem w235_21 : RB d 235 21 [l0] (.int i :: .ref a :: st) (S, I, R, z) Q = (((S a).1 = 9 ∧ aIx i (S a).2) ∧ RB d 235 22 [l0] (.int (I a i.toNatClampNeg) :: st) (S, I, R, z) Q) := RB_iald rfl
theorem w235_22 : RB d 235 22 [l0] [.int x] (S, I, R, z) Q = Q (some (.int x)) (S, I, R, z) := RB_iret rfl rfl rfl
/-! 236: HangedWordModel.back -/
theorem w236_0 : RB d 236 0 [.ref a] st (S, I, R, z) Q = RB d 236 1 [.ref a] (.ref a :: st) (S, I, R, z) Q := RB_aloadn rfl rfl
theorem w236_1 : RB d 236 1 [l0] (.ref a :: st) (S, I, R, z) Q = ((S a).1 = 7 ∧ RB d 236 4 [l0] (.int (I a 3) :: st) (S, I, R, z) Q) := RB_getZ rfl rfl
theorem w236_4 : RB d 236 4 [l0] (.int x :: st) (S, I, R, z) Q = ((x = 0 → RB d 236 7 [l0] st (S, I, R, z) Q) ∧ (¬ x = 0 → RB d 236 10 [l0] st (S, I, R, z) Q)) := RB_ne0 rfl (by decide) rfl
theorem w236_7 : RB d 236 7 [l0] st (S, I, R, z) Q = RB d 236 9 [l0] (.int (-1000000002) :: st) (S, I, R, z) Q := RB_ldc rfl rfl
theorem w236_9 : RB d 236 9 [l0] [.int x] (S, I, R, z) Q = Q (some (.int x)) (S, I, R, z) := RB_iret rfl rfl rfl
theorem w236_10 : RB d 236 10 [.ref a] st (S, I, R, z) Q = RB d 236 11 [.ref a] (.ref a :: st) (S, I, R, z) Q := RB_aloadn rfl rfl
theorem w236_11 : RB d 236 11 [l0] (.ref a :: st) (S, I, R, z) Q = ((S a).1 = 7 ∧ RB d 236 14 [l0] (va_rf (R a 1) :: st) (S, I, R, z) Q) := RB_getR rfl rfl
theorem w236_14 : RB d 236 14 [.ref a] st (S, I, R, z) Q = RB d 236 15 [.ref a] (.ref a :: st) (S, I, R, z) Q := RB_aloadn rfl rfl
theorem w236_15 : RB d 236 15 [l0] (.ref a :: st) (S, I, R, z) Q = ((S a).1 = 7 ∧ RB d 236 18 [l0] (va_rf (R a 0) :: st) (S, I, R, z) Q) := RB_getR rfl rfl
set_option maxRecDepth 20000 in
theorem w236_18 : RB d 236 18 [l0] [v1, v0] (S, I, R, z) Q = RM d 137 [v0, v1] (S, I, R, z) (fun v τ => RB d 236 21 [l0] (aPush v []) τ Q) := RB_callS (n := 2) (t := 1) (k := 307) (ins := .invokestatic 307) rfl rfl rfl (Nat.le_of_ble_eq_true rfl) (Nat.le_of_ble_eq_true rfl) rfl rfl
theorem w236_21 : RB d 236 21 [.ref a] st (S, I, R, z) Q = RB d 236 22 [.ref a] (.ref a :: st) (S, I, R, z) Q := RB_aloadn rfl rfl
theorem w236_22 : RB d 236 22 [l0] (.ref a :: st) (S, I, R, z) Q = ((S a).1 = 7 ∧ RB d 236 25 [l0] (va_rf (R a 0) :: st) (S, I, R, z) Q) := RB_getR rfl rfl
theorem w236_25 : RB d 236 25 [l0] st (S, I, R, z) Q = RB d 236 26 [l0] (.int 1 :: st) (S, I, R, z) Q := RB_iconst rfl ki1
theorem w236_26 : RB d 236 26 [l0] (.int i :: .ref a :: st) (S, I, R, z) Q = (((S a).1 = 9 ∧ aIx i (S a).2) ∧ RB d 236 27 [l0] (.int (I a i.toNatClampNeg) :: st) (S, I, R, z) Q) := RB_iald rfl
theorem w236_27 : RB d 236 27 [l0] [.int x] (S, I, R, z) Q = Q (some (.int x)) (S, I, R, z) := RB_iret rfl rfl rfl
/-! 237: HangedWordModel.count -/
theorem w237_0 : RB d 237 0 [l0, .int x] st (S, I, R, z) Q = RB d 237 1 [l0, .int x] (.int x :: st) (S, I, R, z) Q := RB_iloadn rfl rfl
theorem w237_1 : RB d 237 1 [l0, l1] (.int x :: st) (S, I, R, z) Q = aTsR d 237 1 x 116 [l0, l1] st (S, I, R, z) Q [(0, 52), (1, 59), (2, 66), (3, 76), (4, 83), (5, 91), (6, 99), (7, 104), (8, 109)] := RB_ts rfl (by decide) (by decide) (by decide) (by decide +kernel) rfl
theorem w237_52 : RB d 237 52 [.ref a, l1] st (S, I, R, z) Q = RB d 237 53 [.ref a, l1] (.ref a :: st) (S, I, R, z) Q := RB_aloadn rfl rfl
theorem w237_53 : RB d 237 53 [l0, l1] (.ref a :: st) (S, I, R, z) Q = ((S a).1 = 7 ∧ RB d 237 56 [l0, l1] (va_rf (R a 0) :: st) (S, I, R, z) Q) := RB_getR rfl rfl
theorem w237_56 : RB d 237 56 [l0, l1] st (S, I, R, z) Q = RB d 237 57 [l0, l1] (.int 1 :: st) (S, I, R, z) Q := RB_iconst rfl ki1
theorem w237_57 : RB d 237 57 [l0, l1] (.int i :: .ref a :: st) (S, I, R, z) Q = (((S a).1 = 9 ∧ aIx i (S a).2) ∧ RB d 237 58 [l0, l1] (.int (I a i.toNatClampNeg) :: st) (S, I, R, z) Q) := RB_iald rfl
theorem w237_58 : RB d 237 58 [l0, l1] [.int x] (S, I, R, z) Q = Q (some (.int x)) (S, I, R, z) := RB_iret rfl rfl rfl
theorem w237_59 : RB d 237 59 [.ref a, l1] st (S, I, R, z) Q = RB d 237 60 [.ref a, l1] (.ref a :: st) (S, I, R, z) Q := RB_aloadn rfl rfl
theorem w237_60 : RB d 237 60 [l0, l1] (.ref a :: st) (S, I, R, z) Q = ((S a).1 = 7 ∧ RB d 237 63 [l0, l1] (va_rf (R a 0) :: st) (S, I, R, z) Q) := RB_getR rfl rfl
theorem w237_63 : RB d 237 63 [l0, l1] st (S, I, R, z) Q = RB d 237 64 [l0, l1] (.int 2 :: st) (S, I, R, z) Q := RB_iconst rfl ki2
theorem w237_64 : RB d 237 64 [l0, l1] (.int i :: .ref a :: st) (S, I, R, z) Q = (((S a).1 = 9 ∧ aIx i (S a).2) ∧ RB d 237 65 [l0, l1] (.int (I a i.toNatClampNeg) :: st) (S, I, R, z) Q) := RB_iald rfl
theorem w237_65 : RB d 237 65 [l0, l1] [.int x] (S, I, R, z) Q = Q (some (.int x)) (S, I, R, z) := RB_iret rfl rfl rfl
theorem w237_66 : RB d 237 66 [.ref a, l1] st (S, I, R, z) Q = RB d 237 67 [.ref a, l1] (.ref a :: st) (S, I, R, z) Q := RB_aloadn rfl rfl
theorem w237_67 : RB d 237 67 [l0, l1] (.ref a :: st) (S, I, R, z) Q = ((S a).1 = 7 ∧ RB d 237 70 [l0, l1] (va_rf (R a 0) :: st) (S, I, R, z) Q) := RB_getR rfl rfl
theorem w237_70 : RB d 237 70 [l0, l1] st (S, I, R, z) Q = RB d 237 71 [l0, l1] (.int 4 :: st) (S, I, R, z) Q := RB_iconst rfl ki4
theorem w237_71 : RB d 237 71 [l0, l1] (.int i :: .ref a :: st) (S, I, R, z) Q = (((S a).1 = 9 ∧ aIx i (S a).2) ∧ RB d 237 72 [l0, l1] (.int (I a i.toNatClampNeg) :: st) (S, I, R, z) Q) := RB_iald rfl
set_option maxRecDepth 20000 in
theorem w237_72 : RB d 237 72 [l0, l1] [.int x0] (S, I, R, z) Q = RM d 143 [.int x0] (S, I, R, z) (fun v τ => RB d 237 75 [l0, l1] (aPush v []) τ Q) := RB_callS (n := 1) (t := 1) (k := 132) (ins := .invokestatic 132) rfl rfl rfl (Nat.le_of_ble_eq_true rfl) (Nat.le_of_ble_eq_true rfl) rfl rfl
theorem w237_75 : RB d 237 75 [l0, l1] [.int x] (S, I, R, z) Q = Q (some (.int x)) (S, I, R, z) := RB_iret rfl rfl rfl
theorem w237_76 : RB d 237 76 [.ref a, l1] st (S, I, R, z) Q = RB d 237 77 [.ref a, l1] (.ref a :: st) (S, I, R, z) Q := RB_aloadn rfl rfl
theorem w237_77 : RB d 237 77 [l0, l1] (.ref a :: st) (S, I, R, z) Q = ((S a).1 = 7 ∧ RB d 237 80 [l0, l1] (va_rf (R a 0) :: st) (S, I, R, z) Q) := RB_getR rfl rfl
theorem w237_80 : RB d 237 80 [l0, l1] st (S, I, R, z) Q = RB d 237 81 [l0, l1] (.int 5 :: st) (S, I, R, z) Q := RB_iconst rfl ki5
theorem w237_81 : RB d 237 81 [l0, l1] (.int i :: .ref a :: st) (S, I, R, z) Q = (((S a).1 = 9 ∧ aIx i (S a).2) ∧ RB d 237 82 [l0, l1] (.int (I a i.toNatClampNeg) :: st) (S, I, R, z) Q) := RB_iald rfl
theorem w237_82 : RB d 237 82 [l0, l1] [.int x] (S, I, R, z) Q = Q (some (.int x)) (S, I, R, z) := RB_iret rfl rfl rfl
theorem w237_83 : RB d 237 83 [.ref a, l1] st (S, I, R, z) Q = RB d 237 84 [.ref a, l1] (.ref a :: st) (S, I, R, z) Q := RB_aloadn rfl rfl
theorem w237_84 : RB d 237 84 [l0, l1] (.ref a :: st) (S, I, R, z) Q = ((S a).1 = 7 ∧ RB d 237 87 [l0, l1] (va_rf (R a 0) :: st) (S, I, R, z) Q) := RB_getR rfl rfl
theorem w237_87 : RB d 237 87 [l0, l1] st (S, I, R, z) Q = RB d 237 89 [l0, l1] (.int 6 :: st) (S, I, R, z) Q := RB_bipush rfl kb6
theorem w237_89 : RB d 237 89 [l0, l1] (.int i :: .ref a :: st) (S, I, R, z) Q = (((S a).1 = 9 ∧ aIx i (S a).2) ∧ RB d 237 90 [l0, l1] (.int (I a i.toNatClampNeg) :: st) (S, I, R, z) Q) := RB_iald rfl
theorem w237_90 : RB d 237 90 [l0, l1] [.int x] (S, I, R, z) Q = Q (some (.int x)) (S, I, R, z) := RB_iret rfl rfl rfl
theorem w237_91 : RB d 237 91 [.ref a, l1] st (S, I, R, z) Q = RB d 237 92 [.ref a, l1] (.ref a :: st) (S, I, R, z) Q := RB_aloadn rfl rfl
theorem w237_92 : RB d 237 92 [l0, l1] (.ref a :: st) (S, I, R, z) Q = ((S a).1 = 7 ∧ RB d 237 95 [l0, l1] (va_rf (R a 0) :: st) (S, I, R, z) Q) := RB_getR rfl rfl
theorem w237_95 : RB d 237 95 [l0, l1] st (S, I, R, z) Q = RB d 237 97 [l0, l1] (.int 7 :: st) (S, I, R, z) Q := RB_bipush rfl kb7
theorem w237_97 : RB d 237 97 [l0, l1] (.int i :: .ref a :: st) (S, I, R, z) Q = (((S a).1 = 9 ∧ aIx i (S a).2) ∧ RB d 237 98 [l0, l1] (.int (I a i.toNatClampNeg) :: st) (S, I, R, z) Q) := RB_iald rfl
theorem w237_98 : RB d 237 98 [l0, l1] [.int x] (S, I, R, z) Q = Q (some (.int x)) (S, I, R, z) := RB_iret rfl rfl rfl
theorem w237_99 : RB d 237 99 [.ref a, l1] st (S, I, R, z) Q = RB d 237 100 [.ref a, l1] (.ref a :: st) (S, I, R, z) Q := RB_aloadn rfl rfl
theorem w237_100 : RB d 237 100 [l0, l1] (.ref a :: st) (S, I, R, z) Q = ((S a).1 = 7 ∧ RB d 237 103 [l0, l1] (.int (I a 32) :: st) (S, I, R, z) Q) := RB_getI rfl rfl
theorem w237_103 : RB d 237 103 [l0, l1] [.int x] (S, I, R, z) Q = Q (some (.int x)) (S, I, R, z) := RB_iret rfl rfl rfl
theorem w237_104 : RB d 237 104 [.ref a, l1] st (S, I, R, z) Q = RB d 237 105 [.ref a, l1] (.ref a :: st) (S, I, R, z) Q := RB_aloadn rfl rfl
theorem w237_105 : RB d 237 105 [l0, l1] (.ref a :: st) (S, I, R, z) Q = ((S a).1 = 7 ∧ RB d 237 108 [l0, l1] (.int (I a 6) :: st) (S, I, R, z) Q) := RB_getI rfl rfl
theorem w237_108 : RB d 237 108 [l0, l1] [.int x] (S, I, R, z) Q = Q (some (.int x)) (S, I, R, z) := RB_iret rfl rfl rfl
theorem w237_109 : RB d 237 109 [.ref a, l1] st (S, I, R, z) Q = RB d 237 110 [.ref a, l1] (.ref a :: st) (S, I, R, z) Q := RB_aloadn rfl rfl
theorem w237_110 : RB d 237 110 [l0, l1] (.ref a :: st) (S, I, R, z) Q = ((S a).1 = 7 ∧ RB d 237 113 [l0, l1] (va_rf (R a 0) :: st) (S, I, R, z) Q) := RB_getR rfl rfl
theorem w237_113 : RB d 237 113 [l0, l1] st (S, I, R, z) Q = RB d 237 114 [l0, l1] (.int 0 :: st) (S, I, R, z) Q := RB_iconst rfl ki0
theorem w237_114 : RB d 237 114 [l0, l1] (.int i :: .ref a :: st) (S, I, R, z) Q = (((S a).1 = 9 ∧ aIx i (S a).2) ∧ RB d 237 115 [l0, l1] (.int (I a i.toNatClampNeg) :: st) (S, I, R, z) Q) := RB_iald rfl
theorem w237_115 : RB d 237 115 [l0, l1] [.int x] (S, I, R, z) Q = Q (some (.int x)) (S, I, R, z) := RB_iret rfl rfl rfl
theorem w237_116 : RB d 237 116 [l0, l1] st (S, I, R, z) Q = RB d 237 118 [l0, l1] (.int (-1000000001) :: st) (S, I, R, z) Q := RB_ldc rfl rfl
theorem w237_118 : RB d 237 118 [l0, l1] [.int x] (S, I, R, z) Q = Q (some (.int x)) (S, I, R, z) := RB_iret rfl rfl rfl
/-! 238: java/lang/String.length -/
theorem w238_0 : RB d 238 0 [.ref a] st (S, I, R, z) Q = RB d 238 1 [.ref a] (.ref a :: st) (S, I, R, z) Q := RB_aloadn rfl rfl
theorem w238_1 : RB d 238 1 [l0] (.ref a :: st) (S, I, R, z) Q = ((S a).1 = 14 ∧ RB d 238 4 [l0] (va_rf (R a 0) :: st) (S, I, R, z) Q) := RB_getR rfl rfl
theorem w238_4 : RB d 238 4 [l0] (.ref a :: st) (S, I, R, z) Q = (((8 ≤ (S a).1 ∧ (S a).1 ≤ 13) ∨ (S a).1 = 15) ∧ RB d 238 5 [l0] (.int (Int32.ofNat (S a).2) :: st) (S, I, R, z) Q) := RB_alen rfl
theorem w238_5 : RB d 238 5 [.ref a] st (S, I, R, z) Q = RB d 238 6 [.ref a] (.ref a :: st) (S, I, R, z) Q := RB_aloadn rfl rfl
set_option maxRecDepth 20000 in
theorem w238_6 : RB d 238 6 [l0] [.ref a, s0] (S, I, R, z) Q = ((S a).1 = 14 ∧ RM d 242 [.ref a] (S, I, R, z) (fun v τ => RB d 238 9 [l0] (aPush v [s0]) τ Q)) := RB_callV (n := 1) (t := 0) (k := 335) (ins := .invokevirtual 335) rfl rfl rfl (by decide) (Nat.le_of_ble_eq_true rfl) (Nat.le_of_ble_eq_true rfl) rfl rfl
theorem w238_9 : RB d 238 9 [l0] (.int y :: .int x :: st) (S, I, R, z) Q = RB d 238 10 [l0] (.int (x >>> (y &&& 31)) :: st) (S, I, R, z) Q := RB_ishr rfl
theorem w238_10 : RB d 238 10 [l0] [.int x] (S, I, R, z) Q = Q (some (.int x)) (S, I, R, z) := RB_iret rfl rfl rfl
/-! 239: java/lang/String.charAt -/
theorem w239_0 : RB d 239 0 [.ref a, l1] st (S, I, R, z) Q = RB d 239 1 [.ref a, l1] (.ref a :: st) (S, I, R, z) Q := RB_aloadn rfl rfl
set_option maxRecDepth 20000 in
theorem w239_1 : RB d 239 1 [l0, l1] [.ref a] (S, I, R, z) Q = ((S a).1 = 14 ∧ RM d 243 [.ref a] (S, I, R, z) (fun v τ => RB d 239 4 [l0, l1] (aPush v []) τ Q)) := RB_callV (n := 1) (t := 0) (k := 492) (ins := .invokevirtual 492) rfl rfl rfl (by decide) (Nat.le_of_ble_eq_true rfl) (Nat.le_of_ble_eq_true rfl) rfl rfl
theorem w239_4 : RB d 239 4 [l0, l1] (.int x :: st) (S, I, R, z) Q = ((x = 0 → RB d 239 16 [l0, l1] st (S, I, R, z) Q) ∧ (¬ x = 0 → RB d 239 7 [l0, l1] st (S, I, R, z) Q)) := RB_eq0 rfl (by decide) rfl
theorem w239_7 : RB d 239 7 [.ref a, l1] st (S, I, R, z) Q = RB d 239 8 [.ref a, l1] (.ref a :: st) (S, I, R, z) Q := RB_aloadn rfl rfl
theorem w239_8 : RB d 239 8 [l0, l1] (.ref a :: st) (S, I, R, z) Q = ((S a).1 = 14 ∧ RB d 239 11 [l0, l1] (va_rf (R a 0) :: st) (S, I, R, z) Q) := RB_getR rfl rfl
theorem w239_11 : RB d 239 11 [l0, .int x] st (S, I, R, z) Q = RB d 239 12 [l0, .int x] (.int x :: st) (S, I, R, z) Q := RB_iloadn rfl rfl
set_option maxRecDepth 20000 in
theorem w239_12 : RB d 239 12 [l0, l1] [.int x1, v0] (S, I, R, z) Q = RM d 245 [v0, .int x1] (S, I, R, z) (fun v τ => RB d 239 15 [l0, l1] (aPush v []) τ Q) := RB_callS (n := 2) (t := 1) (k := 495) (ins := .invokestatic 495) rfl rfl rfl (Nat.le_of_ble_eq_true rfl) (Nat.le_of_ble_eq_true rfl) rfl rfl
theorem w239_15 : RB d 239 15 [l0, l1] [.int x] (S, I, R, z) Q = (narrow .char (.int x) = .int x ∧ Q (some (.int x)) (S, I, R, z)) := RB_zret rfl rfl (Or.inr (Or.inl rfl))
theorem w239_16 : RB d 239 16 [.ref a, l1] st (S, I, R, z) Q = RB d 239 17 [.ref a, l1] (.ref a :: st) (S, I, R, z) Q := RB_aloadn rfl rfl
theorem w239_17 : RB d 239 17 [l0, l1] (.ref a :: st) (S, I, R, z) Q = ((S a).1 = 14 ∧ RB d 239 20 [l0, l1] (va_rf (R a 0) :: st) (S, I, R, z) Q) := RB_getR rfl rfl
theorem w239_20 : RB d 239 20 [l0, .int x] st (S, I, R, z) Q = RB d 239 21 [l0, .int x] (.int x :: st) (S, I, R, z) Q := RB_iloadn rfl rfl
theorem w239_24 : RB d 239 24 [l0, l1] [.int x] (S, I, R, z) Q = (narrow .char (.int x) = .int x ∧ Q (some (.int x)) (S, I, R, z)) := RB_zret rfl rfl (Or.inr (Or.inl rfl))
/-! 240: java/lang/String.indexOf -/
theorem w240_0 : RB d 240 0 [.ref a, l1] st (S, I, R, z) Q = RB d 240 1 [.ref a, l1] (.ref a :: st) (S, I, R, z) Q := RB_aloadn rfl rfl
theorem w240_1 : RB d 240 1 [l0, .int x] st (S, I, R, z) Q = RB d 240 2 [l0, .int x] (.int x :: st) (S, I, R, z) Q := RB_iloadn rfl rfl
theorem w240_2 : RB d 240 2 [l0, l1] st (S, I, R, z) Q = RB d 240 3 [l0, l1] (.int 0 :: st) (S, I, R, z) Q := RB_iconst rfl ki0
set_option maxRecDepth 20000 in
theorem w240_3 : RB d 240 3 [l0, l1] [.int x1, .int x0, .ref a] (S, I, R, z) Q = ((S a).1 = 14 ∧ RM d 241 [.ref a, .int x0, .int x1] (S, I, R, z) (fun v τ => RB d 240 6 [l0, l1] (aPush v []) τ Q)) := RB_callV (n := 3) (t := 0) (k := 633) (ins := .invokevirtual 633) rfl rfl rfl (by decide) (Nat.le_of_ble_eq_true rfl) (Nat.le_of_ble_eq_true rfl) rfl rfl
theorem w240_6 : RB d 240 6 [l0, l1] [.int x] (S, I, R, z) Q = Q (some (.int x)) (S, I, R, z) := RB_iret rfl rfl rfl
/-! 241: java/lang/String.indexOf -/
theorem w241_0 : RB d 241 0 [.ref a, l1, l2] st (S, I, R, z) Q = RB d 241 1 [.ref a, l1, l2] (.ref a :: st) (S, I, R, z) Q := RB_aloadn rfl rfl
set_option maxRecDepth 20000 in
theorem w241_1 : RB d 241 1 [l0, l1, l2] [.ref a] (S, I, R, z) Q = ((S a).1 = 14 ∧ RM d 243 [.ref a] (S, I, R, z) (fun v τ => RB d 241 4 [l0, l1, l2] (aPush v []) τ Q)) := RB_callV (n := 1) (t := 0) (k := 492) (ins := .invokevirtual 492) rfl rfl rfl (by decide) (Nat.le_of_ble_eq_true rfl) (Nat.le_of_ble_eq_true rfl) rfl rfl
theorem w241_4 : RB d 241 4 [l0, l1, l2] (.int x :: st) (S, I, R, z) Q = ((x = 0 → RB d 241 23 [l0, l1, l2] st (S, I, R, z) Q) ∧ (¬ x = 0 → RB d 241 7 [l0, l1, l2] st (S, I, R, z) Q)) := RB_eq0 rfl (by decide) rfl
theorem w241_7 : RB d 241 7 [.ref a, l1, l2] st (S, I, R, z) Q = RB d 241 8 [.ref a, l1, l2] (.ref a :: st) (S, I, R, z) Q := RB_aloadn rfl rfl
theorem w241_8 : RB d 241 8 [l0, l1, l2] (.ref a :: st) (S, I, R, z) Q = ((S a).1 = 14 ∧ RB d 241 11 [l0, l1, l2] (va_rf (R a 0) :: st) (S, I, R, z) Q) := RB_getR rfl rfl
theorem w241_11 : RB d 241 11 [l0, .int x, l2] st (S, I, R, z) Q = RB d 241 12 [l0, .int x, l2] (.int x :: st) (S, I, R, z) Q := RB_iloadn rfl rfl
theorem w241_12 : RB d 241 12 [l0, l1, .int x] st (S, I, R, z) Q = RB d 241 13 [l0, l1, .int x] (.int x :: st) (S, I, R, z) Q := RB_iloadn rfl rfl
theorem w241_13 : RB d 241 13 [.ref a, l1, l2] st (S, I, R, z) Q = RB d 241 14 [.ref a, l1, l2] (.ref a :: st) (S, I, R, z) Q := RB_aloadn rfl rfl
set_option maxRecDepth 20000 in
theorem w241_14 : RB d 241 14 [l0, l1, l2] [.ref a, s0, s1, s2] (S, I, R, z) Q = ((S a).1 = 14 ∧ RM d 238 [.ref a] (S, I, R, z) (fun v τ => RB d 241 17 [l0, l1, l2] (aPush v [s0, s1, s2]) τ Q)) := RB_callV (n := 1) (t := 0) (k := 505) (ins := .invokevirtual 505) rfl rfl rfl (by decide) (Nat.le_of_ble_eq_true rfl) (Nat.le_of_ble_eq_true rfl) rfl rfl
set_option maxRecDepth 20000 in
theorem w241_17 : RB d 241 17 [l0, l1, l2] [.int x3, .int x2, .int x1, v0] (S, I, R, z) Q = RM d 247 [v0, .int x1, .int x2, .int x3] (S, I, R, z) (fun v τ => RB d 241 20 [l0, l1, l2] (aPush v []) τ Q) := RB_callS (n := 4) (t := 1) (k := 637) (ins := .invokestatic 637) rfl rfl rfl (Nat.le_of_ble_eq_true rfl) (Nat.le_of_ble_eq_true rfl) rfl rfl
theorem w241_20 : RB d 241 20 [l0, l1, l2] st (S, I, R, z) Q = RB d 241 36 [l0, l1, l2] st (S, I, R, z) Q := RB_goto rfl (by decide) rfl
theorem w241_23 : RB d 241 23 [.ref a, l1, l2] st (S, I, R, z) Q = RB d 241 24 [.ref a, l1, l2] (.ref a :: st) (S, I, R, z) Q := RB_aloadn rfl rfl
theorem w241_24 : RB d 241 24 [l0, l1, l2] (.ref a :: st) (S, I, R, z) Q = ((S a).1 = 14 ∧ RB d 241 27 [l0, l1, l2] (va_rf (R a 0) :: st) (S, I, R, z) Q) := RB_getR rfl rfl
theorem w241_27 : RB d 241 27 [l0, .int x, l2] st (S, I, R, z) Q = RB d 241 28 [l0, .int x, l2] (.int x :: st) (S, I, R, z) Q := RB_iloadn rfl rfl
theorem w241_28 : RB d 241 28 [l0, l1, .int x] st (S, I, R, z) Q = RB d 241 29 [l0, l1, .int x] (.int x :: st) (S, I, R, z) Q := RB_iloadn rfl rfl
theorem w241_29 : RB d 241 29 [.ref a, l1, l2] st (S, I, R, z) Q = RB d 241 30 [.ref a, l1, l2] (.ref a :: st) (S, I, R, z) Q := RB_aloadn rfl rfl
set_option maxRecDepth 20000 in
theorem w241_30 : RB d 241 30 [l0, l1, l2] [.ref a, s0, s1, s2] (S, I, R, z) Q = ((S a).1 = 14 ∧ RM d 238 [.ref a] (S, I, R, z) (fun v τ => RB d 241 33 [l0, l1, l2] (aPush v [s0, s1, s2]) τ Q)) := RB_callV (n := 1) (t := 0) (k := 505) (ins := .invokevirtual 505) rfl rfl rfl (by decide) (Nat.le_of_ble_eq_true rfl) (Nat.le_of_ble_eq_true rfl) rfl rfl
theorem w241_36 : RB d 241 36 [l0, l1, l2] [.int x] (S, I, R, z) Q = Q (some (.int x)) (S, I, R, z) := RB_iret rfl rfl rfl
/-! 242: java/lang/String.coder -/
theorem w242_0 : RB d 242 0 [l0] st (S, I, R, z) Q = RB d 242 3 [l0] (.int 1 :: st) (S, I, R, z) Q := RB_gets rfl rfl
theorem w242_3 : RB d 242 3 [l0] (.int x :: st) (S, I, R, z) Q = ((x = 0 → RB d 242 13 [l0] st (S, I, R, z) Q) ∧ (¬ x = 0 → RB d 242 6 [l0] st (S, I, R, z) Q)) := RB_eq0 rfl (by decide) rfl
theorem w242_6 : RB d 242 6 [.ref a] st (S, I, R, z) Q = RB d 242 7 [.ref a] (.ref a :: st) (S, I, R, z) Q := RB_aloadn rfl rfl
theorem w242_7 : RB d 242 7 [l0] (.ref a :: st) (S, I, R, z) Q = ((S a).1 = 14 ∧ RB d 242 10 [l0] (.int (I a 1) :: st) (S, I, R, z) Q) := RB_getI rfl rfl
theorem w242_10 : RB d 242 10 [l0] st (S, I, R, z) Q = RB d 242 14 [l0] st (S, I, R, z) Q := RB_goto rfl (by decide) rfl
theorem w242_13 : RB d 242 13 [l0] st (S, I, R, z) Q = RB d 242 14 [l0] (.int 1 :: st) (S, I, R, z) Q := RB_iconst rfl ki1
theorem w242_14 : RB d 242 14 [l0] [.int x] (S, I, R, z) Q = (narrow .byte (.int x) = .int x ∧ Q (some (.int x)) (S, I, R, z)) := RB_zret rfl rfl (Or.inr (Or.inr rfl))
/-! 243: java/lang/String.isLatin1 -/
theorem w243_0 : RB d 243 0 [l0] st (S, I, R, z) Q = RB d 243 3 [l0] (.int 1 :: st) (S, I, R, z) Q := RB_gets rfl rfl
theorem w243_3 : RB d 243 3 [l0] (.int x :: st) (S, I, R, z) Q = ((x = 0 → RB d 243 17 [l0] st (S, I, R, z) Q) ∧ (¬ x = 0 → RB d 243 6 [l0] st (S, I, R, z) Q)) := RB_eq0 rfl (by decide) rfl
theorem w243_6 : RB d 243 6 [.ref a] st (S, I, R, z) Q = RB d 243 7 [.ref a] (.ref a :: st) (S, I, R, z) Q := RB_aloadn rfl rfl
theorem w243_7 : RB d 243 7 [l0] (.ref a :: st) (S, I, R, z) Q = ((S a).1 = 14 ∧ RB d 243 10 [l0] (.int (I a 1) :: st) (S, I, R, z) Q) := RB_getI rfl rfl
theorem w243_10 : RB d 243 10 [l0] (.int x :: st) (S, I, R, z) Q = ((x = 0 → RB d 243 13 [l0] st (S, I, R, z) Q) ∧ (¬ x = 0 → RB d 243 17 [l0] st (S, I, R, z) Q)) := RB_ne0 rfl (by decide) rfl
theorem w243_13 : RB d 243 13 [l0] st (S, I, R, z) Q = RB d 243 14 [l0] (.int 1 :: st) (S, I, R, z) Q := RB_iconst rfl ki1
theorem w243_14 : RB d 243 14 [l0] st (S, I, R, z) Q = RB d 243 18 [l0] st (S, I, R, z) Q := RB_goto rfl (by decide) rfl
theorem w243_17 : RB d 243 17 [l0] st (S, I, R, z) Q = RB d 243 18 [l0] (.int 0 :: st) (S, I, R, z) Q := RB_iconst rfl ki0
theorem w243_18 : RB d 243 18 [l0] [.int x] (S, I, R, z) Q = (narrow .boolean (.int x) = .int x ∧ Q (some (.int x)) (S, I, R, z)) := RB_zret rfl rfl (Or.inl rfl)
/-! 244: java/lang/String.checkIndex -/
theorem w244_0 : RB d 244 0 [.int x, l1] st (S, I, R, z) Q = RB d 244 1 [.int x, l1] (.int x :: st) (S, I, R, z) Q := RB_iloadn rfl rfl
theorem w244_1 : RB d 244 1 [l0, .int x] st (S, I, R, z) Q = RB d 244 2 [l0, .int x] (.int x :: st) (S, I, R, z) Q := RB_iloadn rfl rfl
theorem w244_2 : RB d 244 2 [l0, l1] st (S, I, R, z) Q = RB d 244 5 [l0, l1] (.ref 14 :: st) (S, I, R, z) Q := RB_gets rfl rfl
set_option maxRecDepth 20000 in
theorem w244_5 : RB d 244 5 [l0, l1] [v2, .int x1, .int x0] (S, I, R, z) Q = RM d 249 [.int x0, .int x1, v2] (S, I, R, z) (fun v τ => RB d 244 8 [l0, l1] (aPush v []) τ Q) := RB_callS (n := 3) (t := 1) (k := 1059) (ins := .invokestatic 1059) rfl rfl rfl (Nat.le_of_ble_eq_true rfl) (Nat.le_of_ble_eq_true rfl) rfl rfl
theorem w244_8 : RB d 244 8 [l0, l1] (v :: st) (S, I, R, z) Q = RB d 244 9 [l0, l1] st (S, I, R, z) Q := RB_pop rfl
theorem w244_9 : RB d 244 9 [l0, l1] [] (S, I, R, z) Q = Q none (S, I, R, z) := RB_ret rfl rfl
/-! 245: java/lang/StringLatin1.charAt -/
theorem w245_0 : RB d 245 0 [l0, .int x] st (S, I, R, z) Q = RB d 245 1 [l0, .int x] (.int x :: st) (S, I, R, z) Q := RB_iloadn rfl rfl
theorem w245_1 : RB d 245 1 [.ref a, l1] st (S, I, R, z) Q = RB d 245 2 [.ref a, l1] (.ref a :: st) (S, I, R, z) Q := RB_aloadn rfl rfl
theorem w245_1N : RB d 245 1 [.null, l1] st (S, I, R, z) Q = RB d 245 2 [.null, l1] (.null :: st) (S, I, R, z) Q := RB_aloadnN rfl rfl
theorem w245_2 : RB d 245 2 [l0, l1] (.ref a :: st) (S, I, R, z) Q = (((8 ≤ (S a).1 ∧ (S a).1 ≤ 13) ∨ (S a).1 = 15) ∧ RB d 245 3 [l0, l1] (.int (Int32.ofNat (S a).2) :: st) (S, I, R, z) Q) := RB_alen rfl
set_option maxRecDepth 20000 in
theorem w245_3 : RB d 245 3 [l0, l1] [.int x1, .int x0] (S, I, R, z) Q = RM d 244 [.int x0, .int x1] (S, I, R, z) (fun v τ => RB d 245 6 [l0, l1] (aPush v []) τ Q) := RB_callS (n := 2) (t := 1) (k := 9) (ins := .invokestatic 9) rfl rfl rfl (Nat.le_of_ble_eq_true rfl) (Nat.le_of_ble_eq_true rfl) rfl rfl
theorem w245_6 : RB d 245 6 [.ref a, l1] st (S, I, R, z) Q = RB d 245 7 [.ref a, l1] (.ref a :: st) (S, I, R, z) Q := RB_aloadn rfl rfl
theorem w245_6N : RB d 245 6 [.null, l1] st (S, I, R, z) Q = RB d 245 7 [.null, l1] (.null :: st) (S, I, R, z) Q := RB_aloadnN rfl rfl
theorem w245_7 : RB d 245 7 [l0, .int x] st (S, I, R, z) Q = RB d 245 8 [l0, .int x] (.int x :: st) (S, I, R, z) Q := RB_iloadn rfl rfl
theorem w245_8 : RB d 245 8 [l0, l1] (.int i :: .ref a :: st) (S, I, R, z) Q = ((((S a).1 = 10 ∨ (S a).1 = 15) ∧ aIx i (S a).2) ∧ RB d 245 9 [l0, l1] (.int (I a i.toNatClampNeg) :: st) (S, I, R, z) Q) := RB_bald rfl
theorem w245_9 : RB d 245 9 [l0, l1] st (S, I, R, z) Q = RB d 245 12 [l0, l1] (.int 255 :: st) (S, I, R, z) Q := RB_sipush rfl ks255
theorem w245_12 : RB d 245 12 [l0, l1] (.int y :: .int x :: st) (S, I, R, z) Q = RB d 245 13 [l0, l1] (.int (x &&& y) :: st) (S, I, R, z) Q := RB_iand rfl
theorem w245_13 : RB d 245 13 [l0, l1] (.int x :: st) (S, I, R, z) Q = RB d 245 14 [l0, l1] (.int ((x.toUInt32 % 65536).toInt32) :: st) (S, I, R, z) Q := RB_i2c rfl
theorem w245_14 : RB d 245 14 [l0, l1] [.int x] (S, I, R, z) Q = (narrow .char (.int x) = .int x ∧ Q (some (.int x)) (S, I, R, z)) := RB_zret rfl rfl (Or.inr (Or.inl rfl))
/-! 246: java/lang/StringLatin1.canEncode -/
theorem w246_0 : RB d 246 0 [.int x] st (S, I, R, z) Q = RB d 246 1 [.int x] (.int x :: st) (S, I, R, z) Q := RB_iloadn rfl rfl
theorem w246_1 : RB d 246 1 [l0] (.int x :: st) (S, I, R, z) Q = ((x < 0 → RB d 246 15 [l0] st (S, I, R, z) Q) ∧ (¬ x < 0 → RB d 246 4 [l0] st (S, I, R, z) Q)) := RB_lt0 rfl (by decide) rfl
theorem w246_4 : RB d 246 4 [.int x] st (S, I, R, z) Q = RB d 246 5 [.int x] (.int x :: st) (S, I, R, z) Q := RB_iloadn rfl rfl
theorem w246_5 : RB d 246 5 [l0] st (S, I, R, z) Q = RB d 246 8 [l0] (.int 255 :: st) (S, I, R, z) Q := RB_sipush rfl ks255
theorem w246_8 : RB d 246 8 [l0] (.int y :: .int x :: st) (S, I, R, z) Q = ((y < x → RB d 246 15 [l0] st (S, I, R, z) Q) ∧ (¬ y < x → RB d 246 11 [l0] st (S, I, R, z) Q)) := RB_igt rfl (by decide) rfl
theorem w246_11 : RB d 246 11 [l0] st (S, I, R, z) Q = RB d 246 12 [l0] (.int 1 :: st) (S, I, R, z) Q := RB_iconst rfl ki1
theorem w246_12 : RB d 246 12 [l0] st (S, I, R, z) Q = RB d 246 16 [l0] st (S, I, R, z) Q := RB_goto rfl (by decide) rfl
theorem w246_15 : RB d 246 15 [l0] st (S, I, R, z) Q = RB d 246 16 [l0] (.int 0 :: st) (S, I, R, z) Q := RB_iconst rfl ki0
theorem w246_16 : RB d 246 16 [l0] [.int x] (S, I, R, z) Q = (narrow .boolean (.int x) = .int x ∧ Q (some (.int x)) (S, I, R, z)) := RB_zret rfl rfl (Or.inl rfl)
/-! 247: java/lang/StringLatin1.indexOf -/
theorem w247_0 : RB d 247 0 [l0, .int x, l2, l3] st (S, I, R, z) Q = RB d 247 1 [l0, .int x, l2, l3] (.int x :: st) (S, I, R, z) Q := RB_iloadn rfl rfl
set_option maxRecDepth 20000 in
theorem w247_1 : RB d 247 1 [l0, l1, l2, l3] [.int x0] (S, I, R, z) Q = RM d 246 [.int x0] (S, I, R, z) (fun v τ => RB d 247 4 [l0, l1, l2, l3] (aPush v []) τ Q) := RB_callS (n := 1) (t := 1) (k := 88) (ins := .invokestatic 88) rfl rfl rfl (Nat.le_of_ble_eq_true rfl) (Nat.le_of_ble_eq_true rfl) rfl rfl
theorem w247_4 : RB d 247 4 [l0, l1, l2, l3] (.int x :: st) (S, I, R, z) Q = ((x = 0 → RB d 247 7 [l0, l1, l2, l3] st (S, I, R, z) Q) ∧ (¬ x = 0 → RB d 247 9 [l0, l1, l2, l3] st (S, I, R, z) Q)) := RB_ne0 rfl (by decide) rfl
theorem w247_7 : RB d 247 7 [l0, l1, l2, l3] st (S, I, R, z) Q = RB d 247 8 [l0, l1, l2, l3] (.int (-1) :: st) (S, I, R, z) Q := RB_iconst rfl kim1
theorem w247_8 : RB d 247 8 [l0, l1, l2, l3] [.int x] (S, I, R, z) Q = Q (some (.int x)) (S, I, R, z) := RB_iret rfl rfl rfl
theorem w247_9 : RB d 247 9 [l0, l1, .int x, l3] st (S, I, R, z) Q = RB d 247 10 [l0, l1, .int x, l3] (.int x :: st) (S, I, R, z) Q := RB_iloadn rfl rfl
theorem w247_10 : RB d 247 10 [l0, l1, l2, l3] st (S, I, R, z) Q = RB d 247 11 [l0, l1, l2, l3] (.int 0 :: st) (S, I, R, z) Q := RB_iconst rfl ki0
set_option maxRecDepth 20000 in
theorem w247_11 : RB d 247 11 [l0, l1, l2, l3] [.int x1, .int x0] (S, I, R, z) Q = RM d 1002 [.int x0, .int x1] (S, I, R, z) (fun v τ => RB d 247 14 [l0, l1, l2, l3] (aPush v []) τ Q) := RB_callS (n := 2) (t := 1) (k := 92) (ins := .invokestatic 92) rfl rfl rfl (Nat.le_of_ble_eq_true rfl) (Nat.le_of_ble_eq_true rfl) rfl rfl
theorem w247_14 : RB d 247 14 [l0, l1, l2, l3] (.int x :: st) (S, I, R, z) Q = RB d 247 15 [l0, l1, .int x, l3] st (S, I, R, z) Q := RB_istoren rfl (Nat.le_of_ble_eq_true rfl) rfl
theorem w247_15 : RB d 247 15 [l0, l1, l2, .int x] st (S, I, R, z) Q = RB d 247 16 [l0, l1, l2, .int x] (.int x :: st) (S, I, R, z) Q := RB_iloadn rfl rfl
theorem w247_16 : RB d 247 16 [.ref a, l1, l2, l3] st (S, I, R, z) Q = RB d 247 17 [.ref a, l1, l2, l3] (.ref a :: st) (S, I, R, z) Q := RB_aloadn rfl rfl
theorem w247_16N : RB d 247 16 [.null, l1, l2, l3] st (S, I, R, z) Q = RB d 247 17 [.null, l1, l2, l3] (.null :: st) (S, I, R, z) Q := RB_aloadnN rfl rfl
theorem w247_17 : RB d 247 17 [l0, l1, l2, l3] (.ref a :: st) (S, I, R, z) Q = (((8 ≤ (S a).1 ∧ (S a).1 ≤ 13) ∨ (S a).1 = 15) ∧ RB d 247 18 [l0, l1, l2, l3] (.int (Int32.ofNat (S a).2) :: st) (S, I, R, z) Q) := RB_alen rfl
set_option maxRecDepth 20000 in
theorem w247_18 : RB d 247 18 [l0, l1, l2, l3] [.int x1, .int x0] (S, I, R, z) Q = RM d 1003 [.int x0, .int x1] (S, I, R, z) (fun v τ => RB d 247 21 [l0, l1, l2, l3] (aPush v []) τ Q) := RB_callS (n := 2) (t := 1) (k := 38) (ins := .invokestatic 38) rfl rfl rfl (Nat.le_of_ble_eq_true rfl) (Nat.le_of_ble_eq_true rfl) rfl rfl
theorem w247_21 : RB d 247 21 [l0, l1, l2, l3] (.int x :: st) (S, I, R, z) Q = RB d 247 22 [l0, l1, l2, .int x] st (S, I, R, z) Q := RB_istoren rfl (Nat.le_of_ble_eq_true rfl) rfl
theorem w247_22 : RB d 247 22 [l0, l1, .int x, l3] st (S, I, R, z) Q = RB d 247 23 [l0, l1, .int x, l3] (.int x :: st) (S, I, R, z) Q := RB_iloadn rfl rfl
theorem w247_23 : RB d 247 23 [l0, l1, l2, .int x] st (S, I, R, z) Q = RB d 247 24 [l0, l1, l2, .int x] (.int x :: st) (S, I, R, z) Q := RB_iloadn rfl rfl
theorem w247_24 : RB d 247 24 [l0, l1, l2, l3] (.int y :: .int x :: st) (S, I, R, z) Q = ((x < y → RB d 247 29 [l0, l1, l2, l3] st (S, I, R, z) Q) ∧ (¬ x < y → RB d 247 27 [l0, l1, l2, l3] st (S, I, R, z) Q)) := RB_ilt rfl (by decide) rfl
theorem w247_27 : RB d 247 27 [l0, l1, l2, l3] st (S, I, R, z) Q = RB d 247 28 [l0, l1, l2, l3] (.int (-1) :: st) (S, I, R, z) Q := RB_iconst rfl kim1
theorem w247_28 : RB d 247 28 [l0, l1, l2, l3] [.int x] (S, I, R, z) Q = Q (some (.int x)) (S, I, R, z) := RB_iret rfl rfl rfl
theorem w247_29 : RB d 247 29 [.ref a, l1, l2, l3] st (S, I, R, z) Q = RB d 247 30 [.ref a, l1, l2, l3] (.ref a :: st) (S, I, R, z) Q := RB_aloadn rfl rfl
theorem w247_29N : RB d 247 29 [.null, l1, l2, l3] st (S, I, R, z) Q = RB d 247 30 [.null, l1, l2, l3] (.null :: st) (S, I, R, z) Q := RB_aloadnN rfl rfl
theorem w247_30 : RB d 247 30 [l0, .int x, l2, l3] st (S, I, R, z) Q = RB d 247 31 [l0, .int x, l2, l3] (.int x :: st) (S, I, R, z) Q := RB_iloadn rfl rfl
theorem w247_31 : RB d 247 31 [l0, l1, .int x, l3] st (S, I, R, z) Q = RB d 247 32 [l0, l1, .int x, l3] (.int x :: st) (S, I, R, z) Q := RB_iloadn rfl rfl
theorem w247_32 : RB d 247 32 [l0, l1, l2, .int x] st (S, I, R, z) Q = RB d 247 33 [l0, l1, l2, .int x] (.int x :: st) (S, I, R, z) Q := RB_iloadn rfl rfl
set_option maxRecDepth 20000 in
theorem w247_33 : RB d 247 33 [l0, l1, l2, l3] [.int x3, .int x2, .int x1, v0] (S, I, R, z) Q = RM d 248 [v0, .int x1, .int x2, .int x3] (S, I, R, z) (fun v τ => RB d 247 36 [l0, l1, l2, l3] (aPush v []) τ Q) := RB_callS (n := 4) (t := 1) (k := 95) (ins := .invokestatic 95) rfl rfl rfl (Nat.le_of_ble_eq_true rfl) (Nat.le_of_ble_eq_true rfl) rfl rfl
theorem w247_36 : RB d 247 36 [l0, l1, l2, l3] [.int x] (S, I, R, z) Q = Q (some (.int x)) (S, I, R, z) := RB_iret rfl rfl rfl
/-! 248: java/lang/StringLatin1.indexOfChar -/
theorem w248_0 : RB d 248 0 [l0, .int x, l2, l3, l4, l5] st (S, I, R, z) Q = RB d 248 1 [l0, .int x, l2, l3, l4, l5] (.int x :: st) (S, I, R, z) Q := RB_iloadn rfl rfl
theorem w248_1 : RB d 248 1 [l0, l1, l2, l3, l4, l5] (.int x :: st) (S, I, R, z) Q = RB d 248 2 [l0, l1, l2, l3, l4, l5] (.int (x.toInt8.toInt32) :: st) (S, I, R, z) Q := RB_i2b rfl
theorem w248_2 : RB d 248 2 [l0, l1, l2, l3, l4, l5] (.int x :: st) (S, I, R, z) Q = RB d 248 4 [l0, l1, l2, l3, .int x, l5] st (S, I, R, z) Q := RB_istore rfl (Nat.le_of_ble_eq_true rfl) rfl
theorem w248_4 : RB d 248 4 [l0, l1, .int x, l3, l4, l5] st (S, I, R, z) Q = RB d 248 5 [l0, l1, .int x, l3, l4, l5] (.int x :: st) (S, I, R, z) Q := RB_iloadn rfl rfl
theorem w248_5 : RB d 248 5 [l0, l1, l2, l3, l4, l5] (.int x :: st) (S, I, R, z) Q = RB d 248 7 [l0, l1, l2, l3, l4, .int x] st (S, I, R, z) Q := RB_istore rfl (Nat.le_of_ble_eq_true rfl) rfl
theorem w248_7 : RB d 248 7 [l0, l1, l2, l3, l4, .int x] st (S, I, R, z) Q = RB d 248 9 [l0, l1, l2, l3, l4, .int x] (.int x :: st) (S, I, R, z) Q := RB_iload rfl rfl
theorem w248_9 : RB d 248 9 [l0, l1, l2, .int x, l4, l5] st (S, I, R, z) Q = RB d 248 10 [l0, l1, l2, .int x, l4, l5] (.int x :: st) (S, I, R, z) Q := RB_iloadn rfl rfl
theorem w248_10 : RB d 248 10 [l0, l1, l2, l3, l4, l5] (.int y :: .int x :: st) (S, I, R, z) Q = ((y ≤ x → RB d 248 31 [l0, l1, l2, l3, l4, l5] st (S, I, R, z) Q) ∧ (¬ y ≤ x → RB d 248 13 [l0, l1, l2, l3, l4, l5] st (S, I, R, z) Q)) := RB_ige rfl (by decide) rfl
theorem w248_13 : RB d 248 13 [.ref a, l1, l2, l3, l4, l5] st (S, I, R, z) Q = RB d 248 14 [.ref a, l1, l2, l3, l4, l5] (.ref a :: st) (S, I, R, z) Q := RB_aloadn rfl rfl
theorem w248_13N : RB d 248 13 [.null, l1, l2, l3, l4, l5] st (S, I, R, z) Q = RB d 248 14 [.null, l1, l2, l3, l4, l5] (.null :: st) (S, I, R, z) Q := RB_aloadnN rfl rfl
theorem w248_14 : RB d 248 14 [l0, l1, l2, l3, l4, .int x] st (S, I, R, z) Q = RB d 248 16 [l0, l1, l2, l3, l4, .int x] (.int x :: st) (S, I, R, z) Q := RB_iload rfl rfl
theorem w248_16 : RB d 248 16 [l0, l1, l2, l3, l4, l5] (.int i :: .ref a :: st) (S, I, R, z) Q = ((((S a).1 = 10 ∨ (S a).1 = 15) ∧ aIx i (S a).2) ∧ RB d 248 17 [l0, l1, l2, l3, l4, l5] (.int (I a i.toNatClampNeg) :: st) (S, I, R, z) Q) := RB_bald rfl
theorem w248_17 : RB d 248 17 [l0, l1, l2, l3, .int x, l5] st (S, I, R, z) Q = RB d 248 19 [l0, l1, l2, l3, .int x, l5] (.int x :: st) (S, I, R, z) Q := RB_iload rfl rfl
theorem w248_19 : RB d 248 19 [l0, l1, l2, l3, l4, l5] (.int y :: .int x :: st) (S, I, R, z) Q = ((x = y → RB d 248 22 [l0, l1, l2, l3, l4, l5] st (S, I, R, z) Q) ∧ (¬ x = y → RB d 248 25 [l0, l1, l2, l3, l4, l5] st (S, I, R, z) Q)) := RB_ine rfl (by decide) rfl
theorem w248_22 : RB d 248 22 [l0, l1, l2, l3, l4, .int x] st (S, I, R, z) Q = RB d 248 24 [l0, l1, l2, l3, l4, .int x] (.int x :: st) (S, I, R, z) Q := RB_iload rfl rfl
theorem w248_24 : RB d 248 24 [l0, l1, l2, l3, l4, l5] [.int x] (S, I, R, z) Q = Q (some (.int x)) (S, I, R, z) := RB_iret rfl rfl rfl
theorem w248_25 : RB d 248 25 [l0, l1, l2, l3, l4, .int x] st (S, I, R, z) Q = RB d 248 28 [l0, l1, l2, l3, l4, .int (x + 1)] st (S, I, R, z) Q := RB_iinc rfl rfl (Nat.le_of_ble_eq_true rfl) ki1 rfl
theorem w248_28 : RB d 248 28 [l0, l1, l2, l3, l4, l5] st (S, I, R, z) Q = RB d 248 7 [l0, l1, l2, l3, l4, l5] st (S, I, R, z) Q := RB_goto rfl (by decide) rfl
theorem w248_31 : RB d 248 31 [l0, l1, l2, l3, l4, l5] st (S, I, R, z) Q = RB d 248 32 [l0, l1, l2, l3, l4, l5] (.int (-1) :: st) (S, I, R, z) Q := RB_iconst rfl kim1
theorem w248_32 : RB d 248 32 [l0, l1, l2, l3, l4, l5] [.int x] (S, I, R, z) Q = Q (some (.int x)) (S, I, R, z) := RB_iret rfl rfl rfl
/-! 249: jdk/internal/util/Preconditions.checkIndex -/
theorem w249_0 : RB d 249 0 [.int x, l1, l2] st (S, I, R, z) Q = RB d 249 1 [.int x, l1, l2] (.int x :: st) (S, I, R, z) Q := RB_iloadn rfl rfl
theorem w249_1 : RB d 249 1 [l0, l1, l2] (.int x :: st) (S, I, R, z) Q = ((x < 0 → RB d 249 9 [l0, l1, l2] st (S, I, R, z) Q) ∧ (¬ x < 0 → RB d 249 4 [l0, l1, l2] st (S, I, R, z) Q)) := RB_lt0 rfl (by decide) rfl
theorem w249_4 : RB d 249 4 [.int x, l1, l2] st (S, I, R, z) Q = RB d 249 5 [.int x, l1, l2] (.int x :: st) (S, I, R, z) Q := RB_iloadn rfl rfl
theorem w249_5 : RB d 249 5 [l0, .int x, l2] st (S, I, R, z) Q = RB d 249 6 [l0, .int x, l2] (.int x :: st) (S, I, R, z) Q := RB_iloadn rfl rfl
theorem w249_6 : RB d 249 6 [l0, l1, l2] (.int y :: .int x :: st) (S, I, R, z) Q = ((x < y → RB d 249 16 [l0, l1, l2] st (S, I, R, z) Q) ∧ (¬ x < y → RB d 249 9 [l0, l1, l2] st (S, I, R, z) Q)) := RB_ilt rfl (by decide) rfl
theorem w249_9 : RB d 249 9 [l0, l1, .ref a] st (S, I, R, z) Q = RB d 249 10 [l0, l1, .ref a] (.ref a :: st) (S, I, R, z) Q := RB_aloadn rfl rfl
theorem w249_9N : RB d 249 9 [l0, l1, .null] st (S, I, R, z) Q = RB d 249 10 [l0, l1, .null] (.null :: st) (S, I, R, z) Q := RB_aloadnN rfl rfl
theorem w249_10 : RB d 249 10 [.int x, l1, l2] st (S, I, R, z) Q = RB d 249 11 [.int x, l1, l2] (.int x :: st) (S, I, R, z) Q := RB_iloadn rfl rfl
theorem w249_11 : RB d 249 11 [l0, .int x, l2] st (S, I, R, z) Q = RB d 249 12 [l0, .int x, l2] (.int x :: st) (S, I, R, z) Q := RB_iloadn rfl rfl
theorem w249_16 : RB d 249 16 [.int x, l1, l2] st (S, I, R, z) Q = RB d 249 17 [.int x, l1, l2] (.int x :: st) (S, I, R, z) Q := RB_iloadn rfl rfl
theorem w249_17 : RB d 249 17 [l0, l1, l2] [.int x] (S, I, R, z) Q = Q (some (.int x)) (S, I, R, z) := RB_iret rfl rfl rfl
/-! 250: java/lang/Integer.bitCount -/
theorem w250_0 : RB d 250 0 [.int x] st (S, I, R, z) Q = RB d 250 1 [.int x] (.int x :: st) (S, I, R, z) Q := RB_iloadn rfl rfl
theorem w250_1 : RB d 250 1 [.int x] st (S, I, R, z) Q = RB d 250 2 [.int x] (.int x :: st) (S, I, R, z) Q := RB_iloadn rfl rfl
theorem w250_2 : RB d 250 2 [l0] st (S, I, R, z) Q = RB d 250 3 [l0] (.int 1 :: st) (S, I, R, z) Q := RB_iconst rfl ki1
theorem w250_3 : RB d 250 3 [l0] (.int y :: .int x :: st) (S, I, R, z) Q = RB d 250 4 [l0] (.int ((x.toUInt32 >>> (y.toUInt32 &&& Int32.toUInt32 31)).toInt32) :: st) (S, I, R, z) Q := RB_iushr rfl
theorem w250_4 : RB d 250 4 [l0] st (S, I, R, z) Q = RB d 250 7 [l0] (.int 1431655765 :: st) (S, I, R, z) Q := RB_ldcw rfl rfl
theorem w250_7 : RB d 250 7 [l0] (.int y :: .int x :: st) (S, I, R, z) Q = RB d 250 8 [l0] (.int (x &&& y) :: st) (S, I, R, z) Q := RB_iand rfl
theorem w250_8 : RB d 250 8 [l0] (.int y :: .int x :: st) (S, I, R, z) Q = RB d 250 9 [l0] (.int (x - y) :: st) (S, I, R, z) Q := RB_isub rfl
theorem w250_9 : RB d 250 9 [l0] (.int x :: st) (S, I, R, z) Q = RB d 250 10 [.int x] st (S, I, R, z) Q := RB_istoren rfl (Nat.le_of_ble_eq_true rfl) rfl
theorem w250_10 : RB d 250 10 [.int x] st (S, I, R, z) Q = RB d 250 11 [.int x] (.int x :: st) (S, I, R, z) Q := RB_iloadn rfl rfl
theorem w250_11 : RB d 250 11 [l0] st (S, I, R, z) Q = RB d 250 14 [l0] (.int 858993459 :: st) (S, I, R, z) Q := RB_ldcw rfl rfl
theorem w250_14 : RB d 250 14 [l0] (.int y :: .int x :: st) (S, I, R, z) Q = RB d 250 15 [l0] (.int (x &&& y) :: st) (S, I, R, z) Q := RB_iand rfl
theorem w250_15 : RB d 250 15 [.int x] st (S, I, R, z) Q = RB d 250 16 [.int x] (.int x :: st) (S, I, R, z) Q := RB_iloadn rfl rfl
theorem w250_16 : RB d 250 16 [l0] st (S, I, R, z) Q = RB d 250 17 [l0] (.int 2 :: st) (S, I, R, z) Q := RB_iconst rfl ki2
theorem w250_17 : RB d 250 17 [l0] (.int y :: .int x :: st) (S, I, R, z) Q = RB d 250 18 [l0] (.int ((x.toUInt32 >>> (y.toUInt32 &&& Int32.toUInt32 31)).toInt32) :: st) (S, I, R, z) Q := RB_iushr rfl
theorem w250_18 : RB d 250 18 [l0] st (S, I, R, z) Q = RB d 250 21 [l0] (.int 858993459 :: st) (S, I, R, z) Q := RB_ldcw rfl rfl
theorem w250_21 : RB d 250 21 [l0] (.int y :: .int x :: st) (S, I, R, z) Q = RB d 250 22 [l0] (.int (x &&& y) :: st) (S, I, R, z) Q := RB_iand rfl
theorem w250_22 : RB d 250 22 [l0] (.int y :: .int x :: st) (S, I, R, z) Q = RB d 250 23 [l0] (.int (x + y) :: st) (S, I, R, z) Q := RB_iadd rfl
theorem w250_23 : RB d 250 23 [l0] (.int x :: st) (S, I, R, z) Q = RB d 250 24 [.int x] st (S, I, R, z) Q := RB_istoren rfl (Nat.le_of_ble_eq_true rfl) rfl
theorem w250_24 : RB d 250 24 [.int x] st (S, I, R, z) Q = RB d 250 25 [.int x] (.int x :: st) (S, I, R, z) Q := RB_iloadn rfl rfl
theorem w250_25 : RB d 250 25 [.int x] st (S, I, R, z) Q = RB d 250 26 [.int x] (.int x :: st) (S, I, R, z) Q := RB_iloadn rfl rfl
theorem w250_26 : RB d 250 26 [l0] st (S, I, R, z) Q = RB d 250 27 [l0] (.int 4 :: st) (S, I, R, z) Q := RB_iconst rfl ki4
theorem w250_27 : RB d 250 27 [l0] (.int y :: .int x :: st) (S, I, R, z) Q = RB d 250 28 [l0] (.int ((x.toUInt32 >>> (y.toUInt32 &&& Int32.toUInt32 31)).toInt32) :: st) (S, I, R, z) Q := RB_iushr rfl
theorem w250_28 : RB d 250 28 [l0] (.int y :: .int x :: st) (S, I, R, z) Q = RB d 250 29 [l0] (.int (x + y) :: st) (S, I, R, z) Q := RB_iadd rfl
theorem w250_29 : RB d 250 29 [l0] st (S, I, R, z) Q = RB d 250 32 [l0] (.int 252645135 :: st) (S, I, R, z) Q := RB_ldcw rfl rfl
theorem w250_32 : RB d 250 32 [l0] (.int y :: .int x :: st) (S, I, R, z) Q = RB d 250 33 [l0] (.int (x &&& y) :: st) (S, I, R, z) Q := RB_iand rfl
theorem w250_33 : RB d 250 33 [l0] (.int x :: st) (S, I, R, z) Q = RB d 250 34 [.int x] st (S, I, R, z) Q := RB_istoren rfl (Nat.le_of_ble_eq_true rfl) rfl
theorem w250_34 : RB d 250 34 [.int x] st (S, I, R, z) Q = RB d 250 35 [.int x] (.int x :: st) (S, I, R, z) Q := RB_iloadn rfl rfl
theorem w250_35 : RB d 250 35 [.int x] st (S, I, R, z) Q = RB d 250 36 [.int x] (.int x :: st) (S, I, R, z) Q := RB_iloadn rfl rfl
theorem w250_36 : RB d 250 36 [l0] st (S, I, R, z) Q = RB d 250 38 [l0] (.int 8 :: st) (S, I, R, z) Q := RB_bipush rfl kb8
theorem w250_38 : RB d 250 38 [l0] (.int y :: .int x :: st) (S, I, R, z) Q = RB d 250 39 [l0] (.int ((x.toUInt32 >>> (y.toUInt32 &&& Int32.toUInt32 31)).toInt32) :: st) (S, I, R, z) Q := RB_iushr rfl
theorem w250_39 : RB d 250 39 [l0] (.int y :: .int x :: st) (S, I, R, z) Q = RB d 250 40 [l0] (.int (x + y) :: st) (S, I, R, z) Q := RB_iadd rfl
theorem w250_40 : RB d 250 40 [l0] (.int x :: st) (S, I, R, z) Q = RB d 250 41 [.int x] st (S, I, R, z) Q := RB_istoren rfl (Nat.le_of_ble_eq_true rfl) rfl
theorem w250_41 : RB d 250 41 [.int x] st (S, I, R, z) Q = RB d 250 42 [.int x] (.int x :: st) (S, I, R, z) Q := RB_iloadn rfl rfl
theorem w250_42 : RB d 250 42 [.int x] st (S, I, R, z) Q = RB d 250 43 [.int x] (.int x :: st) (S, I, R, z) Q := RB_iloadn rfl rfl
theorem w250_43 : RB d 250 43 [l0] st (S, I, R, z) Q = RB d 250 45 [l0] (.int 16 :: st) (S, I, R, z) Q := RB_bipush rfl kb16
theorem w250_45 : RB d 250 45 [l0] (.int y :: .int x :: st) (S, I, R, z) Q = RB d 250 46 [l0] (.int ((x.toUInt32 >>> (y.toUInt32 &&& Int32.toUInt32 31)).toInt32) :: st) (S, I, R, z) Q := RB_iushr rfl
theorem w250_46 : RB d 250 46 [l0] (.int y :: .int x :: st) (S, I, R, z) Q = RB d 250 47 [l0] (.int (x + y) :: st) (S, I, R, z) Q := RB_iadd rfl
theorem w250_47 : RB d 250 47 [l0] (.int x :: st) (S, I, R, z) Q = RB d 250 48 [.int x] st (S, I, R, z) Q := RB_istoren rfl (Nat.le_of_ble_eq_true rfl) rfl
theorem w250_48 : RB d 250 48 [.int x] st (S, I, R, z) Q = RB d 250 49 [.int x] (.int x :: st) (S, I, R, z) Q := RB_iloadn rfl rfl
theorem w250_49 : RB d 250 49 [l0] st (S, I, R, z) Q = RB d 250 51 [l0] (.int 63 :: st) (S, I, R, z) Q := RB_bipush rfl kb63
theorem w250_51 : RB d 250 51 [l0] (.int y :: .int x :: st) (S, I, R, z) Q = RB d 250 52 [l0] (.int (x &&& y) :: st) (S, I, R, z) Q := RB_iand rfl
theorem w250_52 : RB d 250 52 [l0] [.int x] (S, I, R, z) Q = Q (some (.int x)) (S, I, R, z) := RB_iret rfl rfl rfl
end
