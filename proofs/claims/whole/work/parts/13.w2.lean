section
variable {d : Nat} {st : List Value} {S : Nat → Nat × Nat} {I : Nat → Nat → Int32} {R : Nat → Nat → Option Nat} {z : Nat × Nat} {σ : HS} {Q : Option Value → HS → Prop} {x y i : Int32} {a b : Nat} {v w : Value} {l0 l1 l2 l3 l4 l5 l6 l7 l8 l9 l10 l11 l12 l13 l14 l15 : Value} {x0 x1 x2 x3 x4 x5 : Int32} {v0 v1 v2 v3 v4 s0 s1 s2 s3 s4 s5 : Value}
/-! 92: HangedWord.gallows -/
theorem w92_0 : RB d 92 0 [l0, .int x, l2] st (S, I, R, z) Q = RB d 92 1 [l0, .int x, l2] (.int x :: st) (S, I, R, z) Q := RB_iloadn rfl rfl
theorem w92_1 : RB d 92 1 [l0, l1, l2] st (S, I, R, z) Q = RB d 92 2 [l0, l1, l2] (.int 1 :: st) (S, I, R, z) Q := RB_iconst rfl ki1
theorem w92_2 : RB d 92 2 [l0, l1, l2] (.int y :: .int x :: st) (S, I, R, z) Q = ((x < y → RB d 92 11 [l0, l1, l2] st (S, I, R, z) Q) ∧ (¬ x < y → RB d 92 5 [l0, l1, l2] st (S, I, R, z) Q)) := RB_ilt rfl (by decide) rfl
theorem w92_5 : RB d 92 5 [l0, .int x, l2] st (S, I, R, z) Q = RB d 92 6 [l0, .int x, l2] (.int x :: st) (S, I, R, z) Q := RB_iloadn rfl rfl
theorem w92_6 : RB d 92 6 [l0, l1, l2] st (S, I, R, z) Q = RB d 92 8 [l0, l1, l2] (.int 9 :: st) (S, I, R, z) Q := RB_bipush rfl kb9
theorem w92_8 : RB d 92 8 [l0, l1, l2] (.int y :: .int x :: st) (S, I, R, z) Q = ((x ≤ y → RB d 92 14 [l0, l1, l2] st (S, I, R, z) Q) ∧ (¬ x ≤ y → RB d 92 11 [l0, l1, l2] st (S, I, R, z) Q)) := RB_ile rfl (by decide) rfl
theorem w92_11 : RB d 92 11 [l0, l1, l2] st (S, I, R, z) Q = RB d 92 13 [l0, l1, l2] (.int (-1000000001) :: st) (S, I, R, z) Q := RB_ldc rfl rfl
theorem w92_13 : RB d 92 13 [l0, l1, l2] [.int x] (S, I, R, z) Q = Q (some (.int x)) (S, I, R, z) := RB_iret rfl rfl rfl
theorem w92_14 : RB d 92 14 [.ref a, l1, l2] st (S, I, R, z) Q = RB d 92 15 [.ref a, l1, l2] (.ref a :: st) (S, I, R, z) Q := RB_aloadn rfl rfl
theorem w92_15 : RB d 92 15 [l0, l1, l2] (.ref a :: st) (S, I, R, z) Q = ((S a).1 = 6 ∧ RB d 92 18 [l0, l1, l2] (va_rf (R a 0) :: st) (S, I, R, z) Q) := RB_getR rfl rfl
theorem w92_18 : RB d 92 18 [l0, l1, l2] (.ref a :: st) (S, I, R, z) Q = ((S a).1 = 2 ∧ RB d 92 21 [l0, l1, l2] (.int (I a 10) :: st) (S, I, R, z) Q) := RB_getI rfl rfl
theorem w92_21 : RB d 92 21 [l0, l1, l2] (.int x :: st) (S, I, R, z) Q = RB d 92 22 [l0, l1, .int x] st (S, I, R, z) Q := RB_istoren rfl (Nat.le_of_ble_eq_true rfl) rfl
theorem w92_22 : RB d 92 22 [.ref a, l1, l2] st (S, I, R, z) Q = RB d 92 23 [.ref a, l1, l2] (.ref a :: st) (S, I, R, z) Q := RB_aloadn rfl rfl
theorem w92_23 : RB d 92 23 [l0, l1, l2] (.ref a :: st) (S, I, R, z) Q = ((S a).1 = 6 ∧ RB d 92 26 [l0, l1, l2] (va_rf (R a 0) :: st) (S, I, R, z) Q) := RB_getR rfl rfl
theorem w92_26 : RB d 92 26 [l0, .int x, l2] st (S, I, R, z) Q = RB d 92 27 [l0, .int x, l2] (.int x :: st) (S, I, R, z) Q := RB_iloadn rfl rfl
theorem w92_27 : RB d 92 27 [l0, l1, l2] (.int x :: .ref a :: st) (S, I, R, z) Q = (((S a).1 = 2 ∧ 2 < 8 ∧ 16 ≤ a) ∧ RB d 92 30 [l0, l1, l2] st (S, aW I a 10 x, R, z) Q) := RB_putI rfl rfl (Or.inl rfl)
theorem w92_30 : RB d 92 30 [l0, l1, .int x] st (S, I, R, z) Q = RB d 92 31 [l0, l1, .int x] (.int x :: st) (S, I, R, z) Q := RB_iloadn rfl rfl
theorem w92_31 : RB d 92 31 [l0, l1, l2] [.int x] (S, I, R, z) Q = Q (some (.int x)) (S, I, R, z) := RB_iret rfl rfl rfl
/-! 93: HangedWord.game -/
theorem w93_0 : RB d 93 0 [l0, .int x] st (S, I, R, z) Q = RB d 93 1 [l0, .int x] (.int x :: st) (S, I, R, z) Q := RB_iloadn rfl rfl
theorem w93_1 : RB d 93 1 [l0, l1] (.int x :: st) (S, I, R, z) Q = aTsR d 93 1 x 134 [l0, l1] st (S, I, R, z) Q [(0, 44), (1, 67), (2, 75), (3, 83), (4, 94), (5, 110), (6, 126)] := RB_ts rfl (by decide) (by decide) (by decide) (by decide +kernel) rfl
theorem w93_44 : RB d 93 44 [.ref a, l1] st (S, I, R, z) Q = RB d 93 45 [.ref a, l1] (.ref a :: st) (S, I, R, z) Q := RB_aloadn rfl rfl
theorem w93_45 : RB d 93 45 [l0, l1] (.ref a :: st) (S, I, R, z) Q = ((S a).1 = 6 ∧ RB d 93 48 [l0, l1] (va_rf (R a 0) :: st) (S, I, R, z) Q) := RB_getR rfl rfl
theorem w93_48 : RB d 93 48 [l0, l1] (.ref a :: st) (S, I, R, z) Q = ((S a).1 = 2 ∧ RB d 93 51 [l0, l1] (.int (I a 7) :: st) (S, I, R, z) Q) := RB_getI rfl rfl
theorem w93_51 : RB d 93 51 [l0, l1] (.int x :: st) (S, I, R, z) Q = ((0 ≤ x → RB d 93 59 [l0, l1] st (S, I, R, z) Q) ∧ (¬ 0 ≤ x → RB d 93 54 [l0, l1] st (S, I, R, z) Q)) := RB_ge0 rfl (by decide) rfl
theorem w93_54 : RB d 93 54 [l0, l1] st (S, I, R, z) Q = RB d 93 56 [l0, l1] (.int (-1000000005) :: st) (S, I, R, z) Q := RB_ldc rfl rfl
theorem w93_56 : RB d 93 56 [l0, l1] st (S, I, R, z) Q = RB d 93 66 [l0, l1] st (S, I, R, z) Q := RB_goto rfl (by decide) rfl
theorem w93_59 : RB d 93 59 [.ref a, l1] st (S, I, R, z) Q = RB d 93 60 [.ref a, l1] (.ref a :: st) (S, I, R, z) Q := RB_aloadn rfl rfl
theorem w93_60 : RB d 93 60 [l0, l1] (.ref a :: st) (S, I, R, z) Q = ((S a).1 = 6 ∧ RB d 93 63 [l0, l1] (va_rf (R a 0) :: st) (S, I, R, z) Q) := RB_getR rfl rfl
theorem w93_63 : RB d 93 63 [l0, l1] (.ref a :: st) (S, I, R, z) Q = ((S a).1 = 2 ∧ RB d 93 66 [l0, l1] (.int (I a 7) :: st) (S, I, R, z) Q) := RB_getI rfl rfl
theorem w93_66 : RB d 93 66 [l0, l1] [.int x] (S, I, R, z) Q = Q (some (.int x)) (S, I, R, z) := RB_iret rfl rfl rfl
theorem w93_67 : RB d 93 67 [.ref a, l1] st (S, I, R, z) Q = RB d 93 68 [.ref a, l1] (.ref a :: st) (S, I, R, z) Q := RB_aloadn rfl rfl
theorem w93_68 : RB d 93 68 [l0, l1] (.ref a :: st) (S, I, R, z) Q = ((S a).1 = 6 ∧ RB d 93 71 [l0, l1] (va_rf (R a 0) :: st) (S, I, R, z) Q) := RB_getR rfl rfl
theorem w93_71 : RB d 93 71 [l0, l1] (.ref a :: st) (S, I, R, z) Q = ((S a).1 = 2 ∧ RB d 93 74 [l0, l1] (.int (I a 8) :: st) (S, I, R, z) Q) := RB_getI rfl rfl
theorem w93_74 : RB d 93 74 [l0, l1] [.int x] (S, I, R, z) Q = Q (some (.int x)) (S, I, R, z) := RB_iret rfl rfl rfl
theorem w93_75 : RB d 93 75 [.ref a, l1] st (S, I, R, z) Q = RB d 93 76 [.ref a, l1] (.ref a :: st) (S, I, R, z) Q := RB_aloadn rfl rfl
theorem w93_76 : RB d 93 76 [l0, l1] (.ref a :: st) (S, I, R, z) Q = ((S a).1 = 6 ∧ RB d 93 79 [l0, l1] (va_rf (R a 0) :: st) (S, I, R, z) Q) := RB_getR rfl rfl
theorem w93_79 : RB d 93 79 [l0, l1] (.ref a :: st) (S, I, R, z) Q = ((S a).1 = 2 ∧ RB d 93 82 [l0, l1] (.int (I a 9) :: st) (S, I, R, z) Q) := RB_getI rfl rfl
theorem w93_82 : RB d 93 82 [l0, l1] [.int x] (S, I, R, z) Q = Q (some (.int x)) (S, I, R, z) := RB_iret rfl rfl rfl
theorem w93_83 : RB d 93 83 [.ref a, l1] st (S, I, R, z) Q = RB d 93 84 [.ref a, l1] (.ref a :: st) (S, I, R, z) Q := RB_aloadn rfl rfl
theorem w93_84 : RB d 93 84 [l0, l1] (.ref a :: st) (S, I, R, z) Q = ((S a).1 = 6 ∧ RB d 93 87 [l0, l1] (va_rf (R a 0) :: st) (S, I, R, z) Q) := RB_getR rfl rfl
theorem w93_87 : RB d 93 87 [l0, l1] [.ref a] (S, I, R, z) Q = ((S a).1 = 2 ∧ RM d 21 [.ref a] (S, I, R, z) (fun v τ => RB d 93 90 [l0, l1] (aPush v []) τ Q)) := RB_callV (n := 1) (t := 0) (k := 84) (ins := .invokevirtual 84) rfl rfl rfl (by decide) (Nat.le_of_ble_eq_true rfl) (Nat.le_of_ble_eq_true rfl) rfl rfl
theorem w93_90 : RB d 93 90 [l0, l1] [.int x0] (S, I, R, z) Q = RM d 250 [.int x0] (S, I, R, z) (fun v τ => RB d 93 93 [l0, l1] (aPush v []) τ Q) := RB_callS (n := 1) (t := 1) (k := 145) (ins := .invokestatic 145) rfl rfl rfl (Nat.le_of_ble_eq_true rfl) (Nat.le_of_ble_eq_true rfl) rfl rfl
theorem w93_93 : RB d 93 93 [l0, l1] [.int x] (S, I, R, z) Q = Q (some (.int x)) (S, I, R, z) := RB_iret rfl rfl rfl
theorem w93_94 : RB d 93 94 [.ref a, l1] st (S, I, R, z) Q = RB d 93 95 [.ref a, l1] (.ref a :: st) (S, I, R, z) Q := RB_aloadn rfl rfl
theorem w93_95 : RB d 93 95 [l0, l1] (.ref a :: st) (S, I, R, z) Q = ((S a).1 = 6 ∧ RB d 93 98 [l0, l1] (va_rf (R a 0) :: st) (S, I, R, z) Q) := RB_getR rfl rfl
theorem w93_98 : RB d 93 98 [l0, l1] [.ref a] (S, I, R, z) Q = ((S a).1 = 2 ∧ RM d 30 [.ref a] (S, I, R, z) (fun v τ => RB d 93 101 [l0, l1] (aPush v []) τ Q)) := RB_callV (n := 1) (t := 0) (k := 173) (ins := .invokevirtual 173) rfl rfl rfl (by decide) (Nat.le_of_ble_eq_true rfl) (Nat.le_of_ble_eq_true rfl) rfl rfl
theorem w93_101 : RB d 93 101 [l0, l1] (.int x :: st) (S, I, R, z) Q = ((x = 0 → RB d 93 108 [l0, l1] st (S, I, R, z) Q) ∧ (¬ x = 0 → RB d 93 104 [l0, l1] st (S, I, R, z) Q)) := RB_eq0 rfl (by decide) rfl
theorem w93_104 : RB d 93 104 [l0, l1] st (S, I, R, z) Q = RB d 93 105 [l0, l1] (.int 1 :: st) (S, I, R, z) Q := RB_iconst rfl ki1
theorem w93_105 : RB d 93 105 [l0, l1] st (S, I, R, z) Q = RB d 93 109 [l0, l1] st (S, I, R, z) Q := RB_goto rfl (by decide) rfl
theorem w93_108 : RB d 93 108 [l0, l1] st (S, I, R, z) Q = RB d 93 109 [l0, l1] (.int 0 :: st) (S, I, R, z) Q := RB_iconst rfl ki0
theorem w93_109 : RB d 93 109 [l0, l1] [.int x] (S, I, R, z) Q = Q (some (.int x)) (S, I, R, z) := RB_iret rfl rfl rfl
theorem w93_110 : RB d 93 110 [.ref a, l1] st (S, I, R, z) Q = RB d 93 111 [.ref a, l1] (.ref a :: st) (S, I, R, z) Q := RB_aloadn rfl rfl
theorem w93_111 : RB d 93 111 [l0, l1] (.ref a :: st) (S, I, R, z) Q = ((S a).1 = 6 ∧ RB d 93 114 [l0, l1] (va_rf (R a 0) :: st) (S, I, R, z) Q) := RB_getR rfl rfl
theorem w93_114 : RB d 93 114 [l0, l1] [.ref a] (S, I, R, z) Q = ((S a).1 = 2 ∧ RM d 31 [.ref a] (S, I, R, z) (fun v τ => RB d 93 117 [l0, l1] (aPush v []) τ Q)) := RB_callV (n := 1) (t := 0) (k := 177) (ins := .invokevirtual 177) rfl rfl rfl (by decide) (Nat.le_of_ble_eq_true rfl) (Nat.le_of_ble_eq_true rfl) rfl rfl
theorem w93_117 : RB d 93 117 [l0, l1] (.int x :: st) (S, I, R, z) Q = ((x = 0 → RB d 93 124 [l0, l1] st (S, I, R, z) Q) ∧ (¬ x = 0 → RB d 93 120 [l0, l1] st (S, I, R, z) Q)) := RB_eq0 rfl (by decide) rfl
theorem w93_120 : RB d 93 120 [l0, l1] st (S, I, R, z) Q = RB d 93 121 [l0, l1] (.int 1 :: st) (S, I, R, z) Q := RB_iconst rfl ki1
theorem w93_121 : RB d 93 121 [l0, l1] st (S, I, R, z) Q = RB d 93 125 [l0, l1] st (S, I, R, z) Q := RB_goto rfl (by decide) rfl
theorem w93_124 : RB d 93 124 [l0, l1] st (S, I, R, z) Q = RB d 93 125 [l0, l1] (.int 0 :: st) (S, I, R, z) Q := RB_iconst rfl ki0
theorem w93_125 : RB d 93 125 [l0, l1] [.int x] (S, I, R, z) Q = Q (some (.int x)) (S, I, R, z) := RB_iret rfl rfl rfl
theorem w93_126 : RB d 93 126 [.ref a, l1] st (S, I, R, z) Q = RB d 93 127 [.ref a, l1] (.ref a :: st) (S, I, R, z) Q := RB_aloadn rfl rfl
theorem w93_127 : RB d 93 127 [l0, l1] (.ref a :: st) (S, I, R, z) Q = ((S a).1 = 6 ∧ RB d 93 130 [l0, l1] (va_rf (R a 0) :: st) (S, I, R, z) Q) := RB_getR rfl rfl
theorem w93_130 : RB d 93 130 [l0, l1] [.ref a] (S, I, R, z) Q = ((S a).1 = 2 ∧ RM d 21 [.ref a] (S, I, R, z) (fun v τ => RB d 93 133 [l0, l1] (aPush v []) τ Q)) := RB_callV (n := 1) (t := 0) (k := 84) (ins := .invokevirtual 84) rfl rfl rfl (by decide) (Nat.le_of_ble_eq_true rfl) (Nat.le_of_ble_eq_true rfl) rfl rfl
theorem w93_133 : RB d 93 133 [l0, l1] [.int x] (S, I, R, z) Q = Q (some (.int x)) (S, I, R, z) := RB_iret rfl rfl rfl
theorem w93_134 : RB d 93 134 [l0, l1] st (S, I, R, z) Q = RB d 93 136 [l0, l1] (.int (-1000000001) :: st) (S, I, R, z) Q := RB_ldc rfl rfl
theorem w93_136 : RB d 93 136 [l0, l1] [.int x] (S, I, R, z) Q = Q (some (.int x)) (S, I, R, z) := RB_iret rfl rfl rfl
/-! 94: HangedWord.lines -/
theorem w94_0 : RB d 94 0 [.ref a, l1, l2] st (S, I, R, z) Q = RB d 94 1 [.ref a, l1, l2] (.ref a :: st) (S, I, R, z) Q := RB_aloadn rfl rfl
theorem w94_1 : RB d 94 1 [l0, .int x, l2] st (S, I, R, z) Q = RB d 94 2 [l0, .int x, l2] (.int x :: st) (S, I, R, z) Q := RB_iloadn rfl rfl
theorem w94_2 : RB d 94 2 [l0, l1, l2] [.int x0, .ref a] (S, I, R, z) Q = ((S a).1 = 6 ∧ RM d 122 [.ref a, .int x0] (S, I, R, z) (fun v τ => RB d 94 5 [l0, l1, l2] (aPush v []) τ Q)) := RB_callV (n := 2) (t := 0) (k := 71) (ins := .invokevirtual 71) rfl rfl rfl (by decide) (Nat.le_of_ble_eq_true rfl) (Nat.le_of_ble_eq_true rfl) rfl rfl
theorem w94_5 : RB d 94 5 [l0, l1, l2] (.int x :: st) (S, I, R, z) Q = ((x = 0 → RB d 94 28 [l0, l1, l2] st (S, I, R, z) Q) ∧ (¬ x = 0 → RB d 94 8 [l0, l1, l2] st (S, I, R, z) Q)) := RB_eq0 rfl (by decide) rfl
theorem w94_8 : RB d 94 8 [.ref a, l1, l2] st (S, I, R, z) Q = RB d 94 9 [.ref a, l1, l2] (.ref a :: st) (S, I, R, z) Q := RB_aloadn rfl rfl
theorem w94_9 : RB d 94 9 [l0, l1, .int x] st (S, I, R, z) Q = RB d 94 10 [l0, l1, .int x] (.int x :: st) (S, I, R, z) Q := RB_iloadn rfl rfl
theorem w94_10 : RB d 94 10 [l0, l1, l2] [.int x0, .ref a] (S, I, R, z) Q = ((S a).1 = 6 ∧ RM d 123 [.ref a, .int x0] (S, I, R, z) (fun v τ => RB d 94 13 [l0, l1, l2] (aPush v []) τ Q)) := RB_callV (n := 2) (t := 0) (k := 97) (ins := .invokevirtual 97) rfl rfl rfl (by decide) (Nat.le_of_ble_eq_true rfl) (Nat.le_of_ble_eq_true rfl) rfl rfl
theorem w94_13 : RB d 94 13 [l0, l1, l2] (.int x :: st) (S, I, R, z) Q = ((x = 0 → RB d 94 28 [l0, l1, l2] st (S, I, R, z) Q) ∧ (¬ x = 0 → RB d 94 16 [l0, l1, l2] st (S, I, R, z) Q)) := RB_eq0 rfl (by decide) rfl
theorem w94_16 : RB d 94 16 [.ref a, l1, l2] st (S, I, R, z) Q = RB d 94 17 [.ref a, l1, l2] (.ref a :: st) (S, I, R, z) Q := RB_aloadn rfl rfl
theorem w94_17 : RB d 94 17 [l0, l1, l2] (.ref a :: st) (S, I, R, z) Q = ((S a).1 = 6 ∧ RB d 94 20 [l0, l1, l2] (va_rf (R a 0) :: st) (S, I, R, z) Q) := RB_getR rfl rfl
theorem w94_20 : RB d 94 20 [l0, .int x, l2] st (S, I, R, z) Q = RB d 94 21 [l0, .int x, l2] (.int x :: st) (S, I, R, z) Q := RB_iloadn rfl rfl
theorem w94_21 : RB d 94 21 [l0, l1, .int x] st (S, I, R, z) Q = RB d 94 22 [l0, l1, .int x] (.int x :: st) (S, I, R, z) Q := RB_iloadn rfl rfl
theorem w94_22 : RB d 94 22 [l0, l1, l2] [.int x1, .int x0, .ref a] (S, I, R, z) Q = ((S a).1 = 2 ∧ RM d 40 [.ref a, .int x0, .int x1] (S, I, R, z) (fun v τ => RB d 94 25 [l0, l1, l2] (aPush v []) τ Q)) := RB_callV (n := 3) (t := 0) (k := 180) (ins := .invokevirtual 180) rfl rfl rfl (by decide) (Nat.le_of_ble_eq_true rfl) (Nat.le_of_ble_eq_true rfl) rfl rfl
theorem w94_25 : RB d 94 25 [l0, l1, l2] st (S, I, R, z) Q = RB d 94 30 [l0, l1, l2] st (S, I, R, z) Q := RB_goto rfl (by decide) rfl
theorem w94_28 : RB d 94 28 [l0, l1, l2] st (S, I, R, z) Q = RB d 94 30 [l0, l1, l2] (.int (-1000000001) :: st) (S, I, R, z) Q := RB_ldc rfl rfl
theorem w94_30 : RB d 94 30 [l0, l1, l2] [.int x] (S, I, R, z) Q = Q (some (.int x)) (S, I, R, z) := RB_iret rfl rfl rfl
/-! 95: HangedWord.worst -/
theorem w95_0 : RB d 95 0 [.ref a, l1, l2, l3, l4, l5, l6] st (S, I, R, z) Q = RB d 95 1 [.ref a, l1, l2, l3, l4, l5, l6] (.ref a :: st) (S, I, R, z) Q := RB_aloadn rfl rfl
theorem w95_1 : RB d 95 1 [l0, .int x, l2, l3, l4, l5, l6] st (S, I, R, z) Q = RB d 95 2 [l0, .int x, l2, l3, l4, l5, l6] (.int x :: st) (S, I, R, z) Q := RB_iloadn rfl rfl
theorem w95_2 : RB d 95 2 [l0, l1, l2, l3, l4, l5, l6] [.int x0, .ref a] (S, I, R, z) Q = ((S a).1 = 6 ∧ RM d 123 [.ref a, .int x0] (S, I, R, z) (fun v τ => RB d 95 5 [l0, l1, l2, l3, l4, l5, l6] (aPush v []) τ Q)) := RB_callV (n := 2) (t := 0) (k := 97) (ins := .invokevirtual 97) rfl rfl rfl (by decide) (Nat.le_of_ble_eq_true rfl) (Nat.le_of_ble_eq_true rfl) rfl rfl
theorem w95_5 : RB d 95 5 [l0, l1, l2, l3, l4, l5, l6] (.int x :: st) (S, I, R, z) Q = ((x = 0 → RB d 95 17 [l0, l1, l2, l3, l4, l5, l6] st (S, I, R, z) Q) ∧ (¬ x = 0 → RB d 95 8 [l0, l1, l2, l3, l4, l5, l6] st (S, I, R, z) Q)) := RB_eq0 rfl (by decide) rfl
theorem w95_8 : RB d 95 8 [l0, l1, .int x, l3, l4, l5, l6] st (S, I, R, z) Q = RB d 95 9 [l0, l1, .int x, l3, l4, l5, l6] (.int x :: st) (S, I, R, z) Q := RB_iloadn rfl rfl
theorem w95_9 : RB d 95 9 [l0, l1, l2, l3, l4, l5, l6] (.int x :: st) (S, I, R, z) Q = ((x < 0 → RB d 95 17 [l0, l1, l2, l3, l4, l5, l6] st (S, I, R, z) Q) ∧ (¬ x < 0 → RB d 95 12 [l0, l1, l2, l3, l4, l5, l6] st (S, I, R, z) Q)) := RB_lt0 rfl (by decide) rfl
theorem w95_12 : RB d 95 12 [l0, l1, .int x, l3, l4, l5, l6] st (S, I, R, z) Q = RB d 95 13 [l0, l1, .int x, l3, l4, l5, l6] (.int x :: st) (S, I, R, z) Q := RB_iloadn rfl rfl
theorem w95_13 : RB d 95 13 [l0, l1, l2, l3, l4, l5, l6] st (S, I, R, z) Q = RB d 95 14 [l0, l1, l2, l3, l4, l5, l6] (.int 1 :: st) (S, I, R, z) Q := RB_iconst rfl ki1
theorem w95_14 : RB d 95 14 [l0, l1, l2, l3, l4, l5, l6] (.int y :: .int x :: st) (S, I, R, z) Q = ((x ≤ y → RB d 95 20 [l0, l1, l2, l3, l4, l5, l6] st (S, I, R, z) Q) ∧ (¬ x ≤ y → RB d 95 17 [l0, l1, l2, l3, l4, l5, l6] st (S, I, R, z) Q)) := RB_ile rfl (by decide) rfl
theorem w95_17 : RB d 95 17 [l0, l1, l2, l3, l4, l5, l6] st (S, I, R, z) Q = RB d 95 19 [l0, l1, l2, l3, l4, l5, l6] (.int (-1000000001) :: st) (S, I, R, z) Q := RB_ldc rfl rfl
theorem w95_19 : RB d 95 19 [l0, l1, l2, l3, l4, l5, l6] [.int x] (S, I, R, z) Q = Q (some (.int x)) (S, I, R, z) := RB_iret rfl rfl rfl
theorem w95_20 : RB d 95 20 [l0, l1, l2, l3, l4, l5, l6] st (S, I, R, z) Q = RB d 95 22 [l0, l1, l2, l3, l4, l5, l6] (.int (-1000000005) :: st) (S, I, R, z) Q := RB_ldc rfl rfl
theorem w95_22 : RB d 95 22 [l0, l1, l2, l3, l4, l5, l6] (.int x :: st) (S, I, R, z) Q = RB d 95 23 [l0, l1, l2, .int x, l4, l5, l6] st (S, I, R, z) Q := RB_istoren rfl (Nat.le_of_ble_eq_true rfl) rfl
theorem w95_23 : RB d 95 23 [l0, l1, l2, l3, l4, l5, l6] st (S, I, R, z) Q = RB d 95 24 [l0, l1, l2, l3, l4, l5, l6] (.int (-1) :: st) (S, I, R, z) Q := RB_iconst rfl kim1
theorem w95_24 : RB d 95 24 [l0, l1, l2, l3, l4, l5, l6] (.int x :: st) (S, I, R, z) Q = RB d 95 26 [l0, l1, l2, l3, .int x, l5, l6] st (S, I, R, z) Q := RB_istore rfl (Nat.le_of_ble_eq_true rfl) rfl
theorem w95_26 : RB d 95 26 [l0, l1, l2, l3, l4, l5, l6] st (S, I, R, z) Q = RB d 95 27 [l0, l1, l2, l3, l4, l5, l6] (.int 0 :: st) (S, I, R, z) Q := RB_iconst rfl ki0
theorem w95_27 : RB d 95 27 [l0, l1, l2, l3, l4, l5, l6] (.int x :: st) (S, I, R, z) Q = RB d 95 29 [l0, l1, l2, l3, l4, .int x, l6] st (S, I, R, z) Q := RB_istore rfl (Nat.le_of_ble_eq_true rfl) rfl
theorem w95_29 : RB d 95 29 [l0, l1, l2, l3, l4, .int x, l6] st (S, I, R, z) Q = RB d 95 31 [l0, l1, l2, l3, l4, .int x, l6] (.int x :: st) (S, I, R, z) Q := RB_iload rfl rfl
theorem w95_31 : RB d 95 31 [.ref a, l1, l2, l3, l4, l5, l6] st (S, I, R, z) Q = RB d 95 32 [.ref a, l1, l2, l3, l4, l5, l6] (.ref a :: st) (S, I, R, z) Q := RB_aloadn rfl rfl
theorem w95_32 : RB d 95 32 [l0, l1, l2, l3, l4, l5, l6] (.ref a :: st) (S, I, R, z) Q = ((S a).1 = 6 ∧ RB d 95 35 [l0, l1, l2, l3, l4, l5, l6] (va_rf (R a 0) :: st) (S, I, R, z) Q) := RB_getR rfl rfl
theorem w95_35 : RB d 95 35 [l0, l1, l2, l3, l4, l5, l6] (.ref a :: st) (S, I, R, z) Q = ((S a).1 = 2 ∧ RB d 95 38 [l0, l1, l2, l3, l4, l5, l6] (.int (I a 3) :: st) (S, I, R, z) Q) := RB_getI rfl rfl
theorem w95_38 : RB d 95 38 [l0, l1, l2, l3, l4, l5, l6] (.int y :: .int x :: st) (S, I, R, z) Q = ((y ≤ x → RB d 95 73 [l0, l1, l2, l3, l4, l5, l6] st (S, I, R, z) Q) ∧ (¬ y ≤ x → RB d 95 41 [l0, l1, l2, l3, l4, l5, l6] st (S, I, R, z) Q)) := RB_ige rfl (by decide) rfl
theorem w95_41 : RB d 95 41 [.ref a, l1, l2, l3, l4, l5, l6] st (S, I, R, z) Q = RB d 95 42 [.ref a, l1, l2, l3, l4, l5, l6] (.ref a :: st) (S, I, R, z) Q := RB_aloadn rfl rfl
theorem w95_42 : RB d 95 42 [l0, l1, l2, l3, l4, l5, l6] (.ref a :: st) (S, I, R, z) Q = ((S a).1 = 6 ∧ RB d 95 45 [l0, l1, l2, l3, l4, l5, l6] (va_rf (R a 0) :: st) (S, I, R, z) Q) := RB_getR rfl rfl
theorem w95_45 : RB d 95 45 [l0, l1, l2, l3, l4, .int x, l6] st (S, I, R, z) Q = RB d 95 47 [l0, l1, l2, l3, l4, .int x, l6] (.int x :: st) (S, I, R, z) Q := RB_iload rfl rfl
theorem w95_47 : RB d 95 47 [l0, .int x, l2, l3, l4, l5, l6] st (S, I, R, z) Q = RB d 95 48 [l0, .int x, l2, l3, l4, l5, l6] (.int x :: st) (S, I, R, z) Q := RB_iloadn rfl rfl
theorem w95_48 : RB d 95 48 [l0, l1, l2, l3, l4, l5, l6] [.int x1, .int x0, .ref a] (S, I, R, z) Q = ((S a).1 = 2 ∧ RM d 40 [.ref a, .int x0, .int x1] (S, I, R, z) (fun v τ => RB d 95 51 [l0, l1, l2, l3, l4, l5, l6] (aPush v []) τ Q)) := RB_callV (n := 3) (t := 0) (k := 180) (ins := .invokevirtual 180) rfl rfl rfl (by decide) (Nat.le_of_ble_eq_true rfl) (Nat.le_of_ble_eq_true rfl) rfl rfl
theorem w95_51 : RB d 95 51 [l0, l1, l2, l3, l4, l5, l6] (.int x :: st) (S, I, R, z) Q = RB d 95 53 [l0, l1, l2, l3, l4, l5, .int x] st (S, I, R, z) Q := RB_istore rfl (Nat.le_of_ble_eq_true rfl) rfl
theorem w95_53 : RB d 95 53 [l0, l1, l2, l3, l4, l5, .int x] st (S, I, R, z) Q = RB d 95 55 [l0, l1, l2, l3, l4, l5, .int x] (.int x :: st) (S, I, R, z) Q := RB_iload rfl rfl
theorem w95_55 : RB d 95 55 [l0, l1, l2, l3, .int x, l5, l6] st (S, I, R, z) Q = RB d 95 57 [l0, l1, l2, l3, .int x, l5, l6] (.int x :: st) (S, I, R, z) Q := RB_iload rfl rfl
theorem w95_57 : RB d 95 57 [l0, l1, l2, l3, l4, l5, l6] (.int y :: .int x :: st) (S, I, R, z) Q = ((x ≤ y → RB d 95 67 [l0, l1, l2, l3, l4, l5, l6] st (S, I, R, z) Q) ∧ (¬ x ≤ y → RB d 95 60 [l0, l1, l2, l3, l4, l5, l6] st (S, I, R, z) Q)) := RB_ile rfl (by decide) rfl
theorem w95_60 : RB d 95 60 [l0, l1, l2, l3, l4, l5, .int x] st (S, I, R, z) Q = RB d 95 62 [l0, l1, l2, l3, l4, l5, .int x] (.int x :: st) (S, I, R, z) Q := RB_iload rfl rfl
theorem w95_62 : RB d 95 62 [l0, l1, l2, l3, l4, l5, l6] (.int x :: st) (S, I, R, z) Q = RB d 95 64 [l0, l1, l2, l3, .int x, l5, l6] st (S, I, R, z) Q := RB_istore rfl (Nat.le_of_ble_eq_true rfl) rfl
theorem w95_64 : RB d 95 64 [l0, l1, l2, l3, l4, .int x, l6] st (S, I, R, z) Q = RB d 95 66 [l0, l1, l2, l3, l4, .int x, l6] (.int x :: st) (S, I, R, z) Q := RB_iload rfl rfl
theorem w95_66 : RB d 95 66 [l0, l1, l2, l3, l4, l5, l6] (.int x :: st) (S, I, R, z) Q = RB d 95 67 [l0, l1, l2, .int x, l4, l5, l6] st (S, I, R, z) Q := RB_istoren rfl (Nat.le_of_ble_eq_true rfl) rfl
theorem w95_67 : RB d 95 67 [l0, l1, l2, l3, l4, .int x, l6] st (S, I, R, z) Q = RB d 95 70 [l0, l1, l2, l3, l4, .int (x + 1), l6] st (S, I, R, z) Q := RB_iinc rfl rfl (Nat.le_of_ble_eq_true rfl) ki1 rfl
theorem w95_70 : RB d 95 70 [l0, l1, l2, l3, l4, l5, l6] st (S, I, R, z) Q = RB d 95 29 [l0, l1, l2, l3, l4, l5, l6] st (S, I, R, z) Q := RB_goto rfl (by decide) rfl
theorem w95_73 : RB d 95 73 [l0, l1, l2, .int x, l4, l5, l6] st (S, I, R, z) Q = RB d 95 74 [l0, l1, l2, .int x, l4, l5, l6] (.int x :: st) (S, I, R, z) Q := RB_iloadn rfl rfl
theorem w95_74 : RB d 95 74 [l0, l1, l2, l3, l4, l5, l6] st (S, I, R, z) Q = RB d 95 76 [l0, l1, l2, l3, l4, l5, l6] (.int (-1000000005) :: st) (S, I, R, z) Q := RB_ldc rfl rfl
theorem w95_76 : RB d 95 76 [l0, l1, l2, l3, l4, l5, l6] (.int y :: .int x :: st) (S, I, R, z) Q = ((x = y → RB d 95 83 [l0, l1, l2, l3, l4, l5, l6] st (S, I, R, z) Q) ∧ (¬ x = y → RB d 95 79 [l0, l1, l2, l3, l4, l5, l6] st (S, I, R, z) Q)) := RB_ieq rfl (by decide) rfl
theorem w95_79 : RB d 95 79 [l0, l1, .int x, l3, l4, l5, l6] st (S, I, R, z) Q = RB d 95 80 [l0, l1, .int x, l3, l4, l5, l6] (.int x :: st) (S, I, R, z) Q := RB_iloadn rfl rfl
theorem w95_80 : RB d 95 80 [l0, l1, l2, l3, l4, l5, l6] (.int x :: st) (S, I, R, z) Q = ((x = 0 → RB d 95 83 [l0, l1, l2, l3, l4, l5, l6] st (S, I, R, z) Q) ∧ (¬ x = 0 → RB d 95 87 [l0, l1, l2, l3, l4, l5, l6] st (S, I, R, z) Q)) := RB_ne0 rfl (by decide) rfl
theorem w95_83 : RB d 95 83 [l0, l1, l2, .int x, l4, l5, l6] st (S, I, R, z) Q = RB d 95 84 [l0, l1, l2, .int x, l4, l5, l6] (.int x :: st) (S, I, R, z) Q := RB_iloadn rfl rfl
theorem w95_84 : RB d 95 84 [l0, l1, l2, l3, l4, l5, l6] st (S, I, R, z) Q = RB d 95 89 [l0, l1, l2, l3, l4, l5, l6] st (S, I, R, z) Q := RB_goto rfl (by decide) rfl
theorem w95_87 : RB d 95 87 [l0, l1, l2, l3, .int x, l5, l6] st (S, I, R, z) Q = RB d 95 89 [l0, l1, l2, l3, .int x, l5, l6] (.int x :: st) (S, I, R, z) Q := RB_iload rfl rfl
theorem w95_89 : RB d 95 89 [l0, l1, l2, l3, l4, l5, l6] [.int x] (S, I, R, z) Q = Q (some (.int x)) (S, I, R, z) := RB_iret rfl rfl rfl
/-! 96: HangedWord.even -/
theorem w96_0 : RB d 96 0 [.ref a, l1] st (S, I, R, z) Q = RB d 96 1 [.ref a, l1] (.ref a :: st) (S, I, R, z) Q := RB_aloadn rfl rfl
theorem w96_1 : RB d 96 1 [l0, .int x] st (S, I, R, z) Q = RB d 96 2 [l0, .int x] (.int x :: st) (S, I, R, z) Q := RB_iloadn rfl rfl
theorem w96_2 : RB d 96 2 [l0, l1] [.int x0, .ref a] (S, I, R, z) Q = ((S a).1 = 6 ∧ RM d 123 [.ref a, .int x0] (S, I, R, z) (fun v τ => RB d 96 5 [l0, l1] (aPush v []) τ Q)) := RB_callV (n := 2) (t := 0) (k := 97) (ins := .invokevirtual 97) rfl rfl rfl (by decide) (Nat.le_of_ble_eq_true rfl) (Nat.le_of_ble_eq_true rfl) rfl rfl
theorem w96_5 : RB d 96 5 [l0, l1] (.int x :: st) (S, I, R, z) Q = ((x = 0 → RB d 96 8 [l0, l1] st (S, I, R, z) Q) ∧ (¬ x = 0 → RB d 96 11 [l0, l1] st (S, I, R, z) Q)) := RB_ne0 rfl (by decide) rfl
theorem w96_8 : RB d 96 8 [l0, l1] st (S, I, R, z) Q = RB d 96 10 [l0, l1] (.int (-1000000001) :: st) (S, I, R, z) Q := RB_ldc rfl rfl
theorem w96_10 : RB d 96 10 [l0, l1] [.int x] (S, I, R, z) Q = Q (some (.int x)) (S, I, R, z) := RB_iret rfl rfl rfl
theorem w96_11 : RB d 96 11 [.ref a, l1] st (S, I, R, z) Q = RB d 96 12 [.ref a, l1] (.ref a :: st) (S, I, R, z) Q := RB_aloadn rfl rfl
theorem w96_12 : RB d 96 12 [l0, l1] (.ref a :: st) (S, I, R, z) Q = ((S a).1 = 6 ∧ RB d 96 15 [l0, l1] (va_rf (R a 0) :: st) (S, I, R, z) Q) := RB_getR rfl rfl
theorem w96_15 : RB d 96 15 [l0, .int x] st (S, I, R, z) Q = RB d 96 16 [l0, .int x] (.int x :: st) (S, I, R, z) Q := RB_iloadn rfl rfl
theorem w96_16 : RB d 96 16 [l0, l1] [.int x0, .ref a] (S, I, R, z) Q = ((S a).1 = 2 ∧ RM d 41 [.ref a, .int x0] (S, I, R, z) (fun v τ => RB d 96 19 [l0, l1] (aPush v []) τ Q)) := RB_callV (n := 2) (t := 0) (k := 183) (ins := .invokevirtual 183) rfl rfl rfl (by decide) (Nat.le_of_ble_eq_true rfl) (Nat.le_of_ble_eq_true rfl) rfl rfl
theorem w96_19 : RB d 96 19 [l0, l1] [.int x] (S, I, R, z) Q = Q (some (.int x)) (S, I, R, z) := RB_iret rfl rfl rfl
/-! 97: HangedWord.open -/
theorem w97_0 : RB d 97 0 [.ref a, l1] st (S, I, R, z) Q = RB d 97 1 [.ref a, l1] (.ref a :: st) (S, I, R, z) Q := RB_aloadn rfl rfl
theorem w97_1 : RB d 97 1 [l0, .int x] st (S, I, R, z) Q = RB d 97 2 [l0, .int x] (.int x :: st) (S, I, R, z) Q := RB_iloadn rfl rfl
theorem w97_2 : RB d 97 2 [l0, l1] [.int x0, .ref a] (S, I, R, z) Q = ((S a).1 = 6 ∧ RM d 123 [.ref a, .int x0] (S, I, R, z) (fun v τ => RB d 97 5 [l0, l1] (aPush v []) τ Q)) := RB_callV (n := 2) (t := 0) (k := 97) (ins := .invokevirtual 97) rfl rfl rfl (by decide) (Nat.le_of_ble_eq_true rfl) (Nat.le_of_ble_eq_true rfl) rfl rfl
theorem w97_5 : RB d 97 5 [l0, l1] (.int x :: st) (S, I, R, z) Q = ((x = 0 → RB d 97 19 [l0, l1] st (S, I, R, z) Q) ∧ (¬ x = 0 → RB d 97 8 [l0, l1] st (S, I, R, z) Q)) := RB_eq0 rfl (by decide) rfl
theorem w97_8 : RB d 97 8 [.ref a, l1] st (S, I, R, z) Q = RB d 97 9 [.ref a, l1] (.ref a :: st) (S, I, R, z) Q := RB_aloadn rfl rfl
theorem w97_9 : RB d 97 9 [l0, l1] (.ref a :: st) (S, I, R, z) Q = ((S a).1 = 6 ∧ RB d 97 12 [l0, l1] (va_rf (R a 0) :: st) (S, I, R, z) Q) := RB_getR rfl rfl
theorem w97_12 : RB d 97 12 [l0, .int x] st (S, I, R, z) Q = RB d 97 13 [l0, .int x] (.int x :: st) (S, I, R, z) Q := RB_iloadn rfl rfl
theorem w97_13 : RB d 97 13 [l0, l1] [.int x0, .ref a] (S, I, R, z) Q = ((S a).1 = 2 ∧ RM d 42 [.ref a, .int x0] (S, I, R, z) (fun v τ => RB d 97 16 [l0, l1] (aPush v []) τ Q)) := RB_callV (n := 2) (t := 0) (k := 186) (ins := .invokevirtual 186) rfl rfl rfl (by decide) (Nat.le_of_ble_eq_true rfl) (Nat.le_of_ble_eq_true rfl) rfl rfl
theorem w97_16 : RB d 97 16 [l0, l1] st (S, I, R, z) Q = RB d 97 21 [l0, l1] st (S, I, R, z) Q := RB_goto rfl (by decide) rfl
theorem w97_19 : RB d 97 19 [l0, l1] st (S, I, R, z) Q = RB d 97 21 [l0, l1] (.int (-1000000001) :: st) (S, I, R, z) Q := RB_ldc rfl rfl
theorem w97_21 : RB d 97 21 [l0, l1] [.int x] (S, I, R, z) Q = Q (some (.int x)) (S, I, R, z) := RB_iret rfl rfl rfl
/-! 98: HangedWord.best -/
theorem w98_0 : RB d 98 0 [l0, .int x] st (S, I, R, z) Q = RB d 98 1 [l0, .int x] (.int x :: st) (S, I, R, z) Q := RB_iloadn rfl rfl
theorem w98_1 : RB d 98 1 [l0, l1] (.int x :: st) (S, I, R, z) Q = ((x < 0 → RB d 98 9 [l0, l1] st (S, I, R, z) Q) ∧ (¬ x < 0 → RB d 98 4 [l0, l1] st (S, I, R, z) Q)) := RB_lt0 rfl (by decide) rfl
theorem w98_4 : RB d 98 4 [l0, .int x] st (S, I, R, z) Q = RB d 98 5 [l0, .int x] (.int x :: st) (S, I, R, z) Q := RB_iloadn rfl rfl
theorem w98_5 : RB d 98 5 [l0, l1] st (S, I, R, z) Q = RB d 98 6 [l0, l1] (.int 1 :: st) (S, I, R, z) Q := RB_iconst rfl ki1
theorem w98_6 : RB d 98 6 [l0, l1] (.int y :: .int x :: st) (S, I, R, z) Q = ((x ≤ y → RB d 98 12 [l0, l1] st (S, I, R, z) Q) ∧ (¬ x ≤ y → RB d 98 9 [l0, l1] st (S, I, R, z) Q)) := RB_ile rfl (by decide) rfl
theorem w98_9 : RB d 98 9 [l0, l1] st (S, I, R, z) Q = RB d 98 11 [l0, l1] (.int (-1000000001) :: st) (S, I, R, z) Q := RB_ldc rfl rfl
theorem w98_11 : RB d 98 11 [l0, l1] [.int x] (S, I, R, z) Q = Q (some (.int x)) (S, I, R, z) := RB_iret rfl rfl rfl
theorem w98_12 : RB d 98 12 [.ref a, l1] st (S, I, R, z) Q = RB d 98 13 [.ref a, l1] (.ref a :: st) (S, I, R, z) Q := RB_aloadn rfl rfl
theorem w98_13 : RB d 98 13 [l0, l1] (.ref a :: st) (S, I, R, z) Q = ((S a).1 = 6 ∧ RB d 98 16 [l0, l1] (va_rf (R a 3) :: st) (S, I, R, z) Q) := RB_getR rfl rfl
theorem w98_16 : RB d 98 16 [.ref a, l1] st (S, I, R, z) Q = RB d 98 17 [.ref a, l1] (.ref a :: st) (S, I, R, z) Q := RB_aloadn rfl rfl
theorem w98_17 : RB d 98 17 [l0, l1] (.ref a :: st) (S, I, R, z) Q = ((S a).1 = 6 ∧ RB d 98 20 [l0, l1] (va_rf (R a 0) :: st) (S, I, R, z) Q) := RB_getR rfl rfl
theorem w98_20 : RB d 98 20 [l0, l1] [v0, .ref a] (S, I, R, z) Q = ((S a).1 = 5 ∧ RM d 71 [.ref a, v0] (S, I, R, z) (fun v τ => RB d 98 23 [l0, l1] (aPush v []) τ Q)) := RB_callV (n := 2) (t := 0) (k := 189) (ins := .invokevirtual 189) rfl rfl rfl (by decide) (Nat.le_of_ble_eq_true rfl) (Nat.le_of_ble_eq_true rfl) rfl rfl
theorem w98_23 : RB d 98 23 [l0, .int x] st (S, I, R, z) Q = RB d 98 24 [l0, .int x] (.int x :: st) (S, I, R, z) Q := RB_iloadn rfl rfl
theorem w98_24 : RB d 98 24 [l0, l1] (.int x :: st) (S, I, R, z) Q = ((x = 0 → RB d 98 27 [l0, l1] st (S, I, R, z) Q) ∧ (¬ x = 0 → RB d 98 37 [l0, l1] st (S, I, R, z) Q)) := RB_ne0 rfl (by decide) rfl
theorem w98_27 : RB d 98 27 [.ref a, l1] st (S, I, R, z) Q = RB d 98 28 [.ref a, l1] (.ref a :: st) (S, I, R, z) Q := RB_aloadn rfl rfl
theorem w98_28 : RB d 98 28 [l0, l1] (.ref a :: st) (S, I, R, z) Q = ((S a).1 = 6 ∧ RB d 98 31 [l0, l1] (va_rf (R a 3) :: st) (S, I, R, z) Q) := RB_getR rfl rfl
theorem w98_31 : RB d 98 31 [l0, l1] (.ref a :: st) (S, I, R, z) Q = ((S a).1 = 5 ∧ RB d 98 34 [l0, l1] (.int (I a 1) :: st) (S, I, R, z) Q) := RB_getI rfl rfl
theorem w98_34 : RB d 98 34 [l0, l1] st (S, I, R, z) Q = RB d 98 44 [l0, l1] st (S, I, R, z) Q := RB_goto rfl (by decide) rfl
theorem w98_37 : RB d 98 37 [.ref a, l1] st (S, I, R, z) Q = RB d 98 38 [.ref a, l1] (.ref a :: st) (S, I, R, z) Q := RB_aloadn rfl rfl
theorem w98_38 : RB d 98 38 [l0, l1] (.ref a :: st) (S, I, R, z) Q = ((S a).1 = 6 ∧ RB d 98 41 [l0, l1] (va_rf (R a 3) :: st) (S, I, R, z) Q) := RB_getR rfl rfl
theorem w98_41 : RB d 98 41 [l0, l1] (.ref a :: st) (S, I, R, z) Q = ((S a).1 = 5 ∧ RB d 98 44 [l0, l1] (.int (I a 2) :: st) (S, I, R, z) Q) := RB_getI rfl rfl
theorem w98_44 : RB d 98 44 [l0, l1] [.int x] (S, I, R, z) Q = Q (some (.int x)) (S, I, R, z) := RB_iret rfl rfl rfl
/-! 99: HangedWord.sure -/
theorem w99_0 : RB d 99 0 [.ref a] st (S, I, R, z) Q = RB d 99 1 [.ref a] (.ref a :: st) (S, I, R, z) Q := RB_aloadn rfl rfl
theorem w99_1 : RB d 99 1 [l0] (.ref a :: st) (S, I, R, z) Q = ((S a).1 = 6 ∧ RB d 99 4 [l0] (va_rf (R a 0) :: st) (S, I, R, z) Q) := RB_getR rfl rfl
theorem w99_4 : RB d 99 4 [l0] [.ref a] (S, I, R, z) Q = ((S a).1 = 2 ∧ RM d 23 [.ref a] (S, I, R, z) (fun v τ => RB d 99 7 [l0] (aPush v []) τ Q)) := RB_callV (n := 1) (t := 0) (k := 197) (ins := .invokevirtual 197) rfl rfl rfl (by decide) (Nat.le_of_ble_eq_true rfl) (Nat.le_of_ble_eq_true rfl) rfl rfl
theorem w99_7 : RB d 99 7 [l0] [.int x] (S, I, R, z) Q = Q (some (.int x)) (S, I, R, z) := RB_iret rfl rfl rfl
/-! 100: HangedWord.behind -/
theorem w100_0 : RB d 100 0 [.ref a, l1, l2, l3, l4, l5, l6] st (S, I, R, z) Q = RB d 100 1 [.ref a, l1, l2, l3, l4, l5, l6] (.ref a :: st) (S, I, R, z) Q := RB_aloadn rfl rfl
theorem w100_1 : RB d 100 1 [l0, .int x, l2, l3, l4, l5, l6] st (S, I, R, z) Q = RB d 100 2 [l0, .int x, l2, l3, l4, l5, l6] (.int x :: st) (S, I, R, z) Q := RB_iloadn rfl rfl
theorem w100_2 : RB d 100 2 [l0, l1, l2, l3, l4, l5, l6] [.int x0, .ref a] (S, I, R, z) Q = ((S a).1 = 6 ∧ RM d 123 [.ref a, .int x0] (S, I, R, z) (fun v τ => RB d 100 5 [l0, l1, l2, l3, l4, l5, l6] (aPush v []) τ Q)) := RB_callV (n := 2) (t := 0) (k := 97) (ins := .invokevirtual 97) rfl rfl rfl (by decide) (Nat.le_of_ble_eq_true rfl) (Nat.le_of_ble_eq_true rfl) rfl rfl
theorem w100_5 : RB d 100 5 [l0, l1, l2, l3, l4, l5, l6] (.int x :: st) (S, I, R, z) Q = ((x = 0 → RB d 100 28 [l0, l1, l2, l3, l4, l5, l6] st (S, I, R, z) Q) ∧ (¬ x = 0 → RB d 100 8 [l0, l1, l2, l3, l4, l5, l6] st (S, I, R, z) Q)) := RB_eq0 rfl (by decide) rfl
theorem w100_8 : RB d 100 8 [l0, l1, .int x, l3, l4, l5, l6] st (S, I, R, z) Q = RB d 100 9 [l0, l1, .int x, l3, l4, l5, l6] (.int x :: st) (S, I, R, z) Q := RB_iloadn rfl rfl
theorem w100_9 : RB d 100 9 [l0, l1, l2, l3, l4, l5, l6] st (S, I, R, z) Q = RB d 100 10 [l0, l1, l2, l3, l4, l5, l6] (.int 1 :: st) (S, I, R, z) Q := RB_iconst rfl ki1
theorem w100_10 : RB d 100 10 [l0, l1, l2, l3, l4, l5, l6] (.int y :: .int x :: st) (S, I, R, z) Q = ((x < y → RB d 100 28 [l0, l1, l2, l3, l4, l5, l6] st (S, I, R, z) Q) ∧ (¬ x < y → RB d 100 13 [l0, l1, l2, l3, l4, l5, l6] st (S, I, R, z) Q)) := RB_ilt rfl (by decide) rfl
theorem w100_13 : RB d 100 13 [l0, l1, .int x, l3, l4, l5, l6] st (S, I, R, z) Q = RB d 100 14 [l0, l1, .int x, l3, l4, l5, l6] (.int x :: st) (S, I, R, z) Q := RB_iloadn rfl rfl
theorem w100_14 : RB d 100 14 [l0, l1, l2, l3, l4, l5, l6] st (S, I, R, z) Q = RB d 100 16 [l0, l1, l2, l3, l4, l5, l6] (.int 30 :: st) (S, I, R, z) Q := RB_bipush rfl kb30
theorem w100_16 : RB d 100 16 [l0, l1, l2, l3, l4, l5, l6] (.int y :: .int x :: st) (S, I, R, z) Q = ((y < x → RB d 100 28 [l0, l1, l2, l3, l4, l5, l6] st (S, I, R, z) Q) ∧ (¬ y < x → RB d 100 19 [l0, l1, l2, l3, l4, l5, l6] st (S, I, R, z) Q)) := RB_igt rfl (by decide) rfl
theorem w100_19 : RB d 100 19 [l0, l1, l2, .int x, l4, l5, l6] st (S, I, R, z) Q = RB d 100 20 [l0, l1, l2, .int x, l4, l5, l6] (.int x :: st) (S, I, R, z) Q := RB_iloadn rfl rfl
theorem w100_20 : RB d 100 20 [l0, l1, l2, l3, l4, l5, l6] (.int x :: st) (S, I, R, z) Q = ((x < 0 → RB d 100 28 [l0, l1, l2, l3, l4, l5, l6] st (S, I, R, z) Q) ∧ (¬ x < 0 → RB d 100 23 [l0, l1, l2, l3, l4, l5, l6] st (S, I, R, z) Q)) := RB_lt0 rfl (by decide) rfl
theorem w100_23 : RB d 100 23 [l0, l1, l2, .int x, l4, l5, l6] st (S, I, R, z) Q = RB d 100 24 [l0, l1, l2, .int x, l4, l5, l6] (.int x :: st) (S, I, R, z) Q := RB_iloadn rfl rfl
theorem w100_24 : RB d 100 24 [l0, l1, l2, l3, l4, l5, l6] st (S, I, R, z) Q = RB d 100 25 [l0, l1, l2, l3, l4, l5, l6] (.int 1 :: st) (S, I, R, z) Q := RB_iconst rfl ki1
theorem w100_25 : RB d 100 25 [l0, l1, l2, l3, l4, l5, l6] (.int y :: .int x :: st) (S, I, R, z) Q = ((x ≤ y → RB d 100 31 [l0, l1, l2, l3, l4, l5, l6] st (S, I, R, z) Q) ∧ (¬ x ≤ y → RB d 100 28 [l0, l1, l2, l3, l4, l5, l6] st (S, I, R, z) Q)) := RB_ile rfl (by decide) rfl
theorem w100_28 : RB d 100 28 [l0, l1, l2, l3, l4, l5, l6] st (S, I, R, z) Q = RB d 100 30 [l0, l1, l2, l3, l4, l5, l6] (.int (-1000000001) :: st) (S, I, R, z) Q := RB_ldc rfl rfl
theorem w100_30 : RB d 100 30 [l0, l1, l2, l3, l4, l5, l6] [.int x] (S, I, R, z) Q = Q (some (.int x)) (S, I, R, z) := RB_iret rfl rfl rfl
theorem w100_31 : RB d 100 31 [.ref a, l1, l2, l3, l4, l5, l6] st (S, I, R, z) Q = RB d 100 32 [.ref a, l1, l2, l3, l4, l5, l6] (.ref a :: st) (S, I, R, z) Q := RB_aloadn rfl rfl
theorem w100_32 : RB d 100 32 [l0, l1, l2, l3, l4, l5, l6] (.ref a :: st) (S, I, R, z) Q = ((S a).1 = 6 ∧ RB d 100 35 [l0, l1, l2, l3, l4, l5, l6] (va_rf (R a 2) :: st) (S, I, R, z) Q) := RB_getR rfl rfl
theorem w100_35 : RB d 100 35 [.ref a, l1, l2, l3, l4, l5, l6] st (S, I, R, z) Q = RB d 100 36 [.ref a, l1, l2, l3, l4, l5, l6] (.ref a :: st) (S, I, R, z) Q := RB_aloadn rfl rfl
theorem w100_36 : RB d 100 36 [l0, l1, l2, l3, l4, l5, l6] (.ref a :: st) (S, I, R, z) Q = ((S a).1 = 6 ∧ RB d 100 39 [l0, l1, l2, l3, l4, l5, l6] (va_rf (R a 0) :: st) (S, I, R, z) Q) := RB_getR rfl rfl
theorem w100_39 : RB d 100 39 [l0, l1, l2, l3, l4, l5, l6] [v0, .ref a] (S, I, R, z) Q = ((S a).1 = 2 ∧ RM d 9 [.ref a, v0] (S, I, R, z) (fun v τ => RB d 100 42 [l0, l1, l2, l3, l4, l5, l6] (aPush v []) τ Q)) := RB_callV (n := 2) (t := 0) (k := 200) (ins := .invokevirtual 200) rfl rfl rfl (by decide) (Nat.le_of_ble_eq_true rfl) (Nat.le_of_ble_eq_true rfl) rfl rfl
theorem w100_42 : RB d 100 42 [l0, l1, l2, l3, l4, l5, l6] st (S, I, R, z) Q = RB d 100 43 [l0, l1, l2, l3, l4, l5, l6] (.int 0 :: st) (S, I, R, z) Q := RB_iconst rfl ki0
theorem w100_43 : RB d 100 43 [l0, l1, l2, l3, l4, l5, l6] (.int x :: st) (S, I, R, z) Q = RB d 100 45 [l0, l1, l2, l3, .int x, l5, l6] st (S, I, R, z) Q := RB_istore rfl (Nat.le_of_ble_eq_true rfl) rfl
theorem w100_45 : RB d 100 45 [l0, l1, l2, l3, l4, l5, l6] st (S, I, R, z) Q = RB d 100 46 [l0, l1, l2, l3, l4, l5, l6] (.int 0 :: st) (S, I, R, z) Q := RB_iconst rfl ki0
theorem w100_46 : RB d 100 46 [l0, l1, l2, l3, l4, l5, l6] (.int x :: st) (S, I, R, z) Q = RB d 100 48 [l0, l1, l2, l3, l4, .int x, l6] st (S, I, R, z) Q := RB_istore rfl (Nat.le_of_ble_eq_true rfl) rfl
theorem w100_48 : RB d 100 48 [l0, l1, l2, l3, l4, l5, l6] st (S, I, R, z) Q = RB d 100 49 [l0, l1, l2, l3, l4, l5, l6] (.int 0 :: st) (S, I, R, z) Q := RB_iconst rfl ki0
theorem w100_49 : RB d 100 49 [l0, l1, l2, l3, l4, l5, l6] (.int x :: st) (S, I, R, z) Q = RB d 100 51 [l0, l1, l2, l3, l4, l5, .int x] st (S, I, R, z) Q := RB_istore rfl (Nat.le_of_ble_eq_true rfl) rfl
theorem w100_51 : RB d 100 51 [l0, l1, l2, l3, l4, l5, .int x] st (S, I, R, z) Q = RB d 100 53 [l0, l1, l2, l3, l4, l5, .int x] (.int x :: st) (S, I, R, z) Q := RB_iload rfl rfl
theorem w100_53 : RB d 100 53 [l0, l1, .int x, l3, l4, l5, l6] st (S, I, R, z) Q = RB d 100 54 [l0, l1, .int x, l3, l4, l5, l6] (.int x :: st) (S, I, R, z) Q := RB_iloadn rfl rfl
theorem w100_54 : RB d 100 54 [l0, l1, l2, l3, l4, l5, l6] (.int y :: .int x :: st) (S, I, R, z) Q = ((y ≤ x → RB d 100 110 [l0, l1, l2, l3, l4, l5, l6] st (S, I, R, z) Q) ∧ (¬ y ≤ x → RB d 100 57 [l0, l1, l2, l3, l4, l5, l6] st (S, I, R, z) Q)) := RB_ige rfl (by decide) rfl
theorem w100_57 : RB d 100 57 [.ref a, l1, l2, l3, l4, l5, l6] st (S, I, R, z) Q = RB d 100 58 [.ref a, l1, l2, l3, l4, l5, l6] (.ref a :: st) (S, I, R, z) Q := RB_aloadn rfl rfl
theorem w100_58 : RB d 100 58 [l0, l1, l2, l3, l4, l5, l6] (.ref a :: st) (S, I, R, z) Q = ((S a).1 = 6 ∧ RB d 100 61 [l0, l1, l2, l3, l4, l5, l6] (va_rf (R a 2) :: st) (S, I, R, z) Q) := RB_getR rfl rfl
theorem w100_61 : RB d 100 61 [l0, l1, l2, l3, l4, l5, l6] [.ref a] (S, I, R, z) Q = ((S a).1 = 2 ∧ RM d 35 [.ref a] (S, I, R, z) (fun v τ => RB d 100 64 [l0, l1, l2, l3, l4, l5, l6] (aPush v []) τ Q)) := RB_callV (n := 1) (t := 0) (k := 166) (ins := .invokevirtual 166) rfl rfl rfl (by decide) (Nat.le_of_ble_eq_true rfl) (Nat.le_of_ble_eq_true rfl) rfl rfl
theorem w100_64 : RB d 100 64 [.ref a, l1, l2, l3, l4, l5, l6] st (S, I, R, z) Q = RB d 100 65 [.ref a, l1, l2, l3, l4, l5, l6] (.ref a :: st) (S, I, R, z) Q := RB_aloadn rfl rfl
theorem w100_65 : RB d 100 65 [l0, l1, l2, l3, l4, l5, l6] (.ref a :: st) (S, I, R, z) Q = ((S a).1 = 6 ∧ RB d 100 68 [l0, l1, l2, l3, l4, l5, l6] (va_rf (R a 2) :: st) (S, I, R, z) Q) := RB_getR rfl rfl
theorem w100_68 : RB d 100 68 [l0, .int x, l2, l3, l4, l5, l6] st (S, I, R, z) Q = RB d 100 69 [l0, .int x, l2, l3, l4, l5, l6] (.int x :: st) (S, I, R, z) Q := RB_iloadn rfl rfl
theorem w100_69 : RB d 100 69 [l0, l1, l2, l3, l4, l5, l6] [.int x0, .ref a] (S, I, R, z) Q = ((S a).1 = 2 ∧ RM d 34 [.ref a, .int x0] (S, I, R, z) (fun v τ => RB d 100 72 [l0, l1, l2, l3, l4, l5, l6] (aPush v []) τ Q)) := RB_callV (n := 2) (t := 0) (k := 160) (ins := .invokevirtual 160) rfl rfl rfl (by decide) (Nat.le_of_ble_eq_true rfl) (Nat.le_of_ble_eq_true rfl) rfl rfl
theorem w100_72 : RB d 100 72 [l0, l1, l2, l3, .int x, l5, l6] st (S, I, R, z) Q = RB d 100 74 [l0, l1, l2, l3, .int x, l5, l6] (.int x :: st) (S, I, R, z) Q := RB_iload rfl rfl
theorem w100_74 : RB d 100 74 [.ref a, l1, l2, l3, l4, l5, l6] st (S, I, R, z) Q = RB d 100 75 [.ref a, l1, l2, l3, l4, l5, l6] (.ref a :: st) (S, I, R, z) Q := RB_aloadn rfl rfl
theorem w100_75 : RB d 100 75 [l0, l1, l2, l3, l4, l5, l6] (.ref a :: st) (S, I, R, z) Q = ((S a).1 = 6 ∧ RB d 100 78 [l0, l1, l2, l3, l4, l5, l6] (va_rf (R a 2) :: st) (S, I, R, z) Q) := RB_getR rfl rfl
theorem w100_78 : RB d 100 78 [l0, l1, l2, l3, l4, l5, l6] [.ref a, s0] (S, I, R, z) Q = ((S a).1 = 2 ∧ RM d 31 [.ref a] (S, I, R, z) (fun v τ => RB d 100 81 [l0, l1, l2, l3, l4, l5, l6] (aPush v [s0]) τ Q)) := RB_callV (n := 1) (t := 0) (k := 177) (ins := .invokevirtual 177) rfl rfl rfl (by decide) (Nat.le_of_ble_eq_true rfl) (Nat.le_of_ble_eq_true rfl) rfl rfl
theorem w100_81 : RB d 100 81 [l0, l1, l2, l3, l4, l5, l6] (.int x :: st) (S, I, R, z) Q = ((x = 0 → RB d 100 88 [l0, l1, l2, l3, l4, l5, l6] st (S, I, R, z) Q) ∧ (¬ x = 0 → RB d 100 84 [l0, l1, l2, l3, l4, l5, l6] st (S, I, R, z) Q)) := RB_eq0 rfl (by decide) rfl
theorem w100_84 : RB d 100 84 [l0, l1, l2, l3, l4, l5, l6] st (S, I, R, z) Q = RB d 100 85 [l0, l1, l2, l3, l4, l5, l6] (.int 1 :: st) (S, I, R, z) Q := RB_iconst rfl ki1
theorem w100_85 : RB d 100 85 [l0, l1, l2, l3, l4, l5, l6] st (S, I, R, z) Q = RB d 100 89 [l0, l1, l2, l3, l4, l5, l6] st (S, I, R, z) Q := RB_goto rfl (by decide) rfl
theorem w100_88 : RB d 100 88 [l0, l1, l2, l3, l4, l5, l6] st (S, I, R, z) Q = RB d 100 89 [l0, l1, l2, l3, l4, l5, l6] (.int 0 :: st) (S, I, R, z) Q := RB_iconst rfl ki0
theorem w100_89 : RB d 100 89 [l0, l1, l2, l3, l4, l5, l6] (.int y :: .int x :: st) (S, I, R, z) Q = RB d 100 90 [l0, l1, l2, l3, l4, l5, l6] (.int (x + y) :: st) (S, I, R, z) Q := RB_iadd rfl
theorem w100_90 : RB d 100 90 [l0, l1, l2, l3, l4, l5, l6] (.int x :: st) (S, I, R, z) Q = RB d 100 92 [l0, l1, l2, l3, .int x, l5, l6] st (S, I, R, z) Q := RB_istore rfl (Nat.le_of_ble_eq_true rfl) rfl
theorem w100_92 : RB d 100 92 [l0, l1, l2, l3, l4, .int x, l6] st (S, I, R, z) Q = RB d 100 94 [l0, l1, l2, l3, l4, .int x, l6] (.int x :: st) (S, I, R, z) Q := RB_iload rfl rfl
theorem w100_94 : RB d 100 94 [.ref a, l1, l2, l3, l4, l5, l6] st (S, I, R, z) Q = RB d 100 95 [.ref a, l1, l2, l3, l4, l5, l6] (.ref a :: st) (S, I, R, z) Q := RB_aloadn rfl rfl
theorem w100_95 : RB d 100 95 [l0, l1, l2, l3, l4, l5, l6] (.ref a :: st) (S, I, R, z) Q = ((S a).1 = 6 ∧ RB d 100 98 [l0, l1, l2, l3, l4, l5, l6] (va_rf (R a 2) :: st) (S, I, R, z) Q) := RB_getR rfl rfl
theorem w100_98 : RB d 100 98 [l0, l1, l2, l3, l4, l5, l6] (.ref a :: st) (S, I, R, z) Q = ((S a).1 = 2 ∧ RB d 100 101 [l0, l1, l2, l3, l4, l5, l6] (.int (I a 9) :: st) (S, I, R, z) Q) := RB_getI rfl rfl
theorem w100_101 : RB d 100 101 [l0, l1, l2, l3, l4, l5, l6] (.int y :: .int x :: st) (S, I, R, z) Q = RB d 100 102 [l0, l1, l2, l3, l4, l5, l6] (.int (x + y) :: st) (S, I, R, z) Q := RB_iadd rfl
theorem w100_102 : RB d 100 102 [l0, l1, l2, l3, l4, l5, l6] (.int x :: st) (S, I, R, z) Q = RB d 100 104 [l0, l1, l2, l3, l4, .int x, l6] st (S, I, R, z) Q := RB_istore rfl (Nat.le_of_ble_eq_true rfl) rfl
theorem w100_104 : RB d 100 104 [l0, l1, l2, l3, l4, l5, .int x] st (S, I, R, z) Q = RB d 100 107 [l0, l1, l2, l3, l4, l5, .int (x + 1)] st (S, I, R, z) Q := RB_iinc rfl rfl (Nat.le_of_ble_eq_true rfl) ki1 rfl
theorem w100_107 : RB d 100 107 [l0, l1, l2, l3, l4, l5, l6] st (S, I, R, z) Q = RB d 100 51 [l0, l1, l2, l3, l4, l5, l6] st (S, I, R, z) Q := RB_goto rfl (by decide) rfl
theorem w100_110 : RB d 100 110 [l0, l1, l2, .int x, l4, l5, l6] st (S, I, R, z) Q = RB d 100 111 [l0, l1, l2, .int x, l4, l5, l6] (.int x :: st) (S, I, R, z) Q := RB_iloadn rfl rfl
theorem w100_111 : RB d 100 111 [l0, l1, l2, l3, l4, l5, l6] (.int x :: st) (S, I, R, z) Q = ((x = 0 → RB d 100 114 [l0, l1, l2, l3, l4, l5, l6] st (S, I, R, z) Q) ∧ (¬ x = 0 → RB d 100 119 [l0, l1, l2, l3, l4, l5, l6] st (S, I, R, z) Q)) := RB_ne0 rfl (by decide) rfl
theorem w100_114 : RB d 100 114 [l0, l1, l2, l3, .int x, l5, l6] st (S, I, R, z) Q = RB d 100 116 [l0, l1, l2, l3, .int x, l5, l6] (.int x :: st) (S, I, R, z) Q := RB_iload rfl rfl
theorem w100_116 : RB d 100 116 [l0, l1, l2, l3, l4, l5, l6] st (S, I, R, z) Q = RB d 100 121 [l0, l1, l2, l3, l4, l5, l6] st (S, I, R, z) Q := RB_goto rfl (by decide) rfl
theorem w100_119 : RB d 100 119 [l0, l1, l2, l3, l4, .int x, l6] st (S, I, R, z) Q = RB d 100 121 [l0, l1, l2, l3, l4, .int x, l6] (.int x :: st) (S, I, R, z) Q := RB_iload rfl rfl
theorem w100_121 : RB d 100 121 [l0, l1, l2, l3, l4, l5, l6] [.int x] (S, I, R, z) Q = Q (some (.int x)) (S, I, R, z) := RB_iret rfl rfl rfl
/-! 101: HangedWord.askedBy -/
theorem w101_0 : RB d 101 0 [l0, .int x, l2, l3, l4, l5, l6, l7] st (S, I, R, z) Q = RB d 101 1 [l0, .int x, l2, l3, l4, l5, l6, l7] (.int x :: st) (S, I, R, z) Q := RB_iloadn rfl rfl
theorem w101_1 : RB d 101 1 [l0, l1, l2, l3, l4, l5, l6, l7] [.int x0] (S, I, R, z) Q = RM d 127 [.int x0] (S, I, R, z) (fun v τ => RB d 101 4 [l0, l1, l2, l3, l4, l5, l6, l7] (aPush v []) τ Q) := RB_callS (n := 1) (t := 1) (k := 203) (ins := .invokestatic 203) rfl rfl rfl (Nat.le_of_ble_eq_true rfl) (Nat.le_of_ble_eq_true rfl) rfl rfl
theorem w101_4 : RB d 101 4 [l0, l1, l2, l3, l4, l5, l6, l7] (.int x :: st) (S, I, R, z) Q = ((x = 0 → RB d 101 16 [l0, l1, l2, l3, l4, l5, l6, l7] st (S, I, R, z) Q) ∧ (¬ x = 0 → RB d 101 7 [l0, l1, l2, l3, l4, l5, l6, l7] st (S, I, R, z) Q)) := RB_eq0 rfl (by decide) rfl
theorem w101_7 : RB d 101 7 [l0, l1, .int x, l3, l4, l5, l6, l7] st (S, I, R, z) Q = RB d 101 8 [l0, l1, .int x, l3, l4, l5, l6, l7] (.int x :: st) (S, I, R, z) Q := RB_iloadn rfl rfl
theorem w101_8 : RB d 101 8 [l0, l1, l2, l3, l4, l5, l6, l7] (.int x :: st) (S, I, R, z) Q = ((x < 0 → RB d 101 16 [l0, l1, l2, l3, l4, l5, l6, l7] st (S, I, R, z) Q) ∧ (¬ x < 0 → RB d 101 11 [l0, l1, l2, l3, l4, l5, l6, l7] st (S, I, R, z) Q)) := RB_lt0 rfl (by decide) rfl
theorem w101_11 : RB d 101 11 [l0, l1, .int x, l3, l4, l5, l6, l7] st (S, I, R, z) Q = RB d 101 12 [l0, l1, .int x, l3, l4, l5, l6, l7] (.int x :: st) (S, I, R, z) Q := RB_iloadn rfl rfl
theorem w101_12 : RB d 101 12 [l0, l1, l2, l3, l4, l5, l6, l7] st (S, I, R, z) Q = RB d 101 13 [l0, l1, l2, l3, l4, l5, l6, l7] (.int 1 :: st) (S, I, R, z) Q := RB_iconst rfl ki1
theorem w101_13 : RB d 101 13 [l0, l1, l2, l3, l4, l5, l6, l7] (.int y :: .int x :: st) (S, I, R, z) Q = ((x ≤ y → RB d 101 19 [l0, l1, l2, l3, l4, l5, l6, l7] st (S, I, R, z) Q) ∧ (¬ x ≤ y → RB d 101 16 [l0, l1, l2, l3, l4, l5, l6, l7] st (S, I, R, z) Q)) := RB_ile rfl (by decide) rfl
theorem w101_16 : RB d 101 16 [l0, l1, l2, l3, l4, l5, l6, l7] st (S, I, R, z) Q = RB d 101 18 [l0, l1, l2, l3, l4, l5, l6, l7] (.int (-1000000001) :: st) (S, I, R, z) Q := RB_ldc rfl rfl
theorem w101_18 : RB d 101 18 [l0, l1, l2, l3, l4, l5, l6, l7] [.int x] (S, I, R, z) Q = Q (some (.int x)) (S, I, R, z) := RB_iret rfl rfl rfl
theorem w101_19 : RB d 101 19 [.ref a, l1, l2, l3, l4, l5, l6, l7] st (S, I, R, z) Q = RB d 101 20 [.ref a, l1, l2, l3, l4, l5, l6, l7] (.ref a :: st) (S, I, R, z) Q := RB_aloadn rfl rfl
theorem w101_20 : RB d 101 20 [l0, l1, l2, l3, l4, l5, l6, l7] (.ref a :: st) (S, I, R, z) Q = ((S a).1 = 6 ∧ RB d 101 23 [l0, l1, l2, l3, l4, l5, l6, l7] (va_rf (R a 4) :: st) (S, I, R, z) Q) := RB_getR rfl rfl
theorem w101_23 : RB d 101 23 [l0, .int x, l2, l3, l4, l5, l6, l7] st (S, I, R, z) Q = RB d 101 24 [l0, .int x, l2, l3, l4, l5, l6, l7] (.int x :: st) (S, I, R, z) Q := RB_iloadn rfl rfl
theorem w101_24 : RB d 101 24 [l0, l1, l2, l3, l4, l5, l6, l7] (.int i :: .ref a :: st) (S, I, R, z) Q = (((11 ≤ (S a).1 ∧ (S a).1 ≤ 13) ∧ aIx i (S a).2) ∧ RB d 101 25 [l0, l1, l2, l3, l4, l5, l6, l7] (va_rf (R a i.toNatClampNeg) :: st) (S, I, R, z) Q) := RB_aald rfl
theorem w101_25 : RB d 101 25 [l0, l1, l2, l3, l4, l5, l6, l7] (.ref a :: st) (S, I, R, z) Q = RB d 101 26 [l0, l1, l2, .ref a, l4, l5, l6, l7] st (S, I, R, z) Q := RB_astoren rfl (Nat.le_of_ble_eq_true rfl) rfl
theorem w101_25N : RB d 101 25 [l0, l1, l2, l3, l4, l5, l6, l7] (.null :: st) (S, I, R, z) Q = RB d 101 26 [l0, l1, l2, .null, l4, l5, l6, l7] st (S, I, R, z) Q := RB_astorenN rfl (Nat.le_of_ble_eq_true rfl) rfl
theorem w101_26 : RB d 101 26 [l0, l1, l2, .ref a, l4, l5, l6, l7] st (S, I, R, z) Q = RB d 101 27 [l0, l1, l2, .ref a, l4, l5, l6, l7] (.ref a :: st) (S, I, R, z) Q := RB_aloadn rfl rfl
theorem w101_26N : RB d 101 26 [l0, l1, l2, .null, l4, l5, l6, l7] st (S, I, R, z) Q = RB d 101 27 [l0, l1, l2, .null, l4, l5, l6, l7] (.null :: st) (S, I, R, z) Q := RB_aloadnN rfl rfl
theorem w101_27 : RB d 101 27 [l0, l1, l2, l3, l4, l5, l6, l7] [.ref a] (S, I, R, z) Q = ((S a).1 = 0 ∧ RM d 1 [.ref a] (S, I, R, z) (fun v τ => RB d 101 30 [l0, l1, l2, l3, l4, l5, l6, l7] (aPush v []) τ Q)) := RB_callV (n := 1) (t := 0) (k := 206) (ins := .invokevirtual 206) rfl rfl rfl (by decide) (Nat.le_of_ble_eq_true rfl) (Nat.le_of_ble_eq_true rfl) rfl rfl
theorem w101_30 : RB d 101 30 [l0, l1, l2, l3, l4, l5, l6, l7] (.int x :: st) (S, I, R, z) Q = ((x = 0 → RB d 101 36 [l0, l1, l2, l3, l4, l5, l6, l7] st (S, I, R, z) Q) ∧ (¬ x = 0 → RB d 101 33 [l0, l1, l2, l3, l4, l5, l6, l7] st (S, I, R, z) Q)) := RB_eq0 rfl (by decide) rfl
theorem w101_33 : RB d 101 33 [l0, l1, l2, l3, l4, l5, l6, l7] st (S, I, R, z) Q = RB d 101 35 [l0, l1, l2, l3, l4, l5, l6, l7] (.int (-1000000011) :: st) (S, I, R, z) Q := RB_ldc rfl rfl
theorem w101_35 : RB d 101 35 [l0, l1, l2, l3, l4, l5, l6, l7] [.int x] (S, I, R, z) Q = Q (some (.int x)) (S, I, R, z) := RB_iret rfl rfl rfl
theorem w101_36 : RB d 101 36 [.ref a, l1, l2, l3, l4, l5, l6, l7] st (S, I, R, z) Q = RB d 101 37 [.ref a, l1, l2, l3, l4, l5, l6, l7] (.ref a :: st) (S, I, R, z) Q := RB_aloadn rfl rfl
theorem w101_37 : RB d 101 37 [l0, l1, l2, l3, l4, l5, l6, l7] (.ref a :: st) (S, I, R, z) Q = ((S a).1 = 6 ∧ RB d 101 40 [l0, l1, l2, l3, l4, l5, l6, l7] (va_rf (R a 0) :: st) (S, I, R, z) Q) := RB_getR rfl rfl
theorem w101_40 : RB d 101 40 [l0, l1, l2, l3, l4, l5, l6, l7] (.ref a :: st) (S, I, R, z) Q = ((S a).1 = 2 ∧ RB d 101 43 [l0, l1, l2, l3, l4, l5, l6, l7] (.int (I a 7) :: st) (S, I, R, z) Q) := RB_getI rfl rfl
theorem w101_43 : RB d 101 43 [l0, l1, l2, l3, l4, l5, l6, l7] (.int x :: st) (S, I, R, z) Q = ((0 ≤ x → RB d 101 49 [l0, l1, l2, l3, l4, l5, l6, l7] st (S, I, R, z) Q) ∧ (¬ 0 ≤ x → RB d 101 46 [l0, l1, l2, l3, l4, l5, l6, l7] st (S, I, R, z) Q)) := RB_ge0 rfl (by decide) rfl
theorem w101_46 : RB d 101 46 [l0, l1, l2, l3, l4, l5, l6, l7] st (S, I, R, z) Q = RB d 101 48 [l0, l1, l2, l3, l4, l5, l6, l7] (.int (-1000000002) :: st) (S, I, R, z) Q := RB_ldc rfl rfl
theorem w101_48 : RB d 101 48 [l0, l1, l2, l3, l4, l5, l6, l7] [.int x] (S, I, R, z) Q = Q (some (.int x)) (S, I, R, z) := RB_iret rfl rfl rfl
theorem w101_49 : RB d 101 49 [l0, l1, l2, l3, l4, l5, l6, l7] st (S, I, R, z) Q = RB d 101 51 [l0, l1, l2, l3, l4, l5, l6, l7] (.int (-1000000005) :: st) (S, I, R, z) Q := RB_ldc rfl rfl
theorem w101_51 : RB d 101 51 [l0, l1, l2, l3, l4, l5, l6, l7] (.int x :: st) (S, I, R, z) Q = RB d 101 53 [l0, l1, l2, l3, .int x, l5, l6, l7] st (S, I, R, z) Q := RB_istore rfl (Nat.le_of_ble_eq_true rfl) rfl
theorem w101_53 : RB d 101 53 [l0, l1, l2, l3, l4, l5, l6, l7] st (S, I, R, z) Q = RB d 101 55 [l0, l1, l2, l3, l4, l5, l6, l7] (.int (-1000000005) :: st) (S, I, R, z) Q := RB_ldc rfl rfl
theorem w101_55 : RB d 101 55 [l0, l1, l2, l3, l4, l5, l6, l7] (.int x :: st) (S, I, R, z) Q = RB d 101 57 [l0, l1, l2, l3, l4, .int x, l6, l7] st (S, I, R, z) Q := RB_istore rfl (Nat.le_of_ble_eq_true rfl) rfl
theorem w101_57 : RB d 101 57 [l0, l1, l2, l3, l4, l5, l6, l7] st (S, I, R, z) Q = RB d 101 58 [l0, l1, l2, l3, l4, l5, l6, l7] (.int 0 :: st) (S, I, R, z) Q := RB_iconst rfl ki0
theorem w101_58 : RB d 101 58 [l0, l1, l2, l3, l4, l5, l6, l7] (.int x :: st) (S, I, R, z) Q = RB d 101 60 [l0, l1, l2, l3, l4, l5, .int x, l7] st (S, I, R, z) Q := RB_istore rfl (Nat.le_of_ble_eq_true rfl) rfl
theorem w101_60 : RB d 101 60 [l0, l1, l2, l3, l4, l5, .int x, l7] st (S, I, R, z) Q = RB d 101 62 [l0, l1, l2, l3, l4, l5, .int x, l7] (.int x :: st) (S, I, R, z) Q := RB_iload rfl rfl
theorem w101_62 : RB d 101 62 [.ref a, l1, l2, l3, l4, l5, l6, l7] st (S, I, R, z) Q = RB d 101 63 [.ref a, l1, l2, l3, l4, l5, l6, l7] (.ref a :: st) (S, I, R, z) Q := RB_aloadn rfl rfl
theorem w101_63 : RB d 101 63 [l0, l1, l2, l3, l4, l5, l6, l7] (.ref a :: st) (S, I, R, z) Q = ((S a).1 = 6 ∧ RB d 101 66 [l0, l1, l2, l3, l4, l5, l6, l7] (va_rf (R a 0) :: st) (S, I, R, z) Q) := RB_getR rfl rfl
theorem w101_66 : RB d 101 66 [l0, l1, l2, l3, l4, l5, l6, l7] (.ref a :: st) (S, I, R, z) Q = ((S a).1 = 2 ∧ RB d 101 69 [l0, l1, l2, l3, l4, l5, l6, l7] (.int (I a 6) :: st) (S, I, R, z) Q) := RB_getI rfl rfl
theorem w101_69 : RB d 101 69 [l0, l1, l2, l3, l4, l5, l6, l7] (.int y :: .int x :: st) (S, I, R, z) Q = ((y ≤ x → RB d 101 112 [l0, l1, l2, l3, l4, l5, l6, l7] st (S, I, R, z) Q) ∧ (¬ y ≤ x → RB d 101 72 [l0, l1, l2, l3, l4, l5, l6, l7] st (S, I, R, z) Q)) := RB_ige rfl (by decide) rfl
theorem w101_72 : RB d 101 72 [.ref a, l1, l2, l3, l4, l5, l6, l7] st (S, I, R, z) Q = RB d 101 73 [.ref a, l1, l2, l3, l4, l5, l6, l7] (.ref a :: st) (S, I, R, z) Q := RB_aloadn rfl rfl
theorem w101_73 : RB d 101 73 [l0, l1, l2, l3, l4, l5, l6, l7] (.ref a :: st) (S, I, R, z) Q = ((S a).1 = 6 ∧ RB d 101 76 [l0, l1, l2, l3, l4, l5, l6, l7] (va_rf (R a 0) :: st) (S, I, R, z) Q) := RB_getR rfl rfl
theorem w101_76 : RB d 101 76 [l0, l1, l2, .ref a, l4, l5, l6, l7] st (S, I, R, z) Q = RB d 101 77 [l0, l1, l2, .ref a, l4, l5, l6, l7] (.ref a :: st) (S, I, R, z) Q := RB_aloadn rfl rfl
theorem w101_76N : RB d 101 76 [l0, l1, l2, .null, l4, l5, l6, l7] st (S, I, R, z) Q = RB d 101 77 [l0, l1, l2, .null, l4, l5, l6, l7] (.null :: st) (S, I, R, z) Q := RB_aloadnN rfl rfl
theorem w101_77 : RB d 101 77 [l0, l1, l2, l3, l4, l5, .int x, l7] st (S, I, R, z) Q = RB d 101 79 [l0, l1, l2, l3, l4, l5, .int x, l7] (.int x :: st) (S, I, R, z) Q := RB_iload rfl rfl
theorem w101_79 : RB d 101 79 [l0, l1, l2, l3, l4, l5, l6, l7] [.int x1, v0, .ref a] (S, I, R, z) Q = ((S a).1 = 2 ∧ RM d 44 [.ref a, v0, .int x1] (S, I, R, z) (fun v τ => RB d 101 82 [l0, l1, l2, l3, l4, l5, l6, l7] (aPush v []) τ Q)) := RB_callV (n := 3) (t := 0) (k := 213) (ins := .invokevirtual 213) rfl rfl rfl (by decide) (Nat.le_of_ble_eq_true rfl) (Nat.le_of_ble_eq_true rfl) rfl rfl
theorem w101_82 : RB d 101 82 [l0, l1, l2, l3, l4, l5, l6, l7] (.int x :: st) (S, I, R, z) Q = RB d 101 84 [l0, l1, l2, l3, l4, l5, l6, .int x] st (S, I, R, z) Q := RB_istore rfl (Nat.le_of_ble_eq_true rfl) rfl
theorem w101_84 : RB d 101 84 [l0, l1, l2, l3, .int x, l5, l6, l7] st (S, I, R, z) Q = RB d 101 86 [l0, l1, l2, l3, .int x, l5, l6, l7] (.int x :: st) (S, I, R, z) Q := RB_iload rfl rfl
theorem w101_86 : RB d 101 86 [l0, l1, l2, l3, l4, l5, l6, l7] st (S, I, R, z) Q = RB d 101 88 [l0, l1, l2, l3, l4, l5, l6, l7] (.int (-1000000005) :: st) (S, I, R, z) Q := RB_ldc rfl rfl
theorem w101_88 : RB d 101 88 [l0, l1, l2, l3, l4, l5, l6, l7] (.int y :: .int x :: st) (S, I, R, z) Q = ((x = y → RB d 101 98 [l0, l1, l2, l3, l4, l5, l6, l7] st (S, I, R, z) Q) ∧ (¬ x = y → RB d 101 91 [l0, l1, l2, l3, l4, l5, l6, l7] st (S, I, R, z) Q)) := RB_ieq rfl (by decide) rfl
theorem w101_91 : RB d 101 91 [l0, l1, l2, l3, l4, l5, l6, .int x] st (S, I, R, z) Q = RB d 101 93 [l0, l1, l2, l3, l4, l5, l6, .int x] (.int x :: st) (S, I, R, z) Q := RB_iload rfl rfl
theorem w101_93 : RB d 101 93 [l0, l1, l2, l3, l4, .int x, l6, l7] st (S, I, R, z) Q = RB d 101 95 [l0, l1, l2, l3, l4, .int x, l6, l7] (.int x :: st) (S, I, R, z) Q := RB_iload rfl rfl
theorem w101_95 : RB d 101 95 [l0, l1, l2, l3, l4, l5, l6, l7] (.int y :: .int x :: st) (S, I, R, z) Q = ((y ≤ x → RB d 101 106 [l0, l1, l2, l3, l4, l5, l6, l7] st (S, I, R, z) Q) ∧ (¬ y ≤ x → RB d 101 98 [l0, l1, l2, l3, l4, l5, l6, l7] st (S, I, R, z) Q)) := RB_ige rfl (by decide) rfl
theorem w101_98 : RB d 101 98 [l0, l1, l2, l3, l4, l5, .int x, l7] st (S, I, R, z) Q = RB d 101 100 [l0, l1, l2, l3, l4, l5, .int x, l7] (.int x :: st) (S, I, R, z) Q := RB_iload rfl rfl
theorem w101_100 : RB d 101 100 [l0, l1, l2, l3, l4, l5, l6, l7] (.int x :: st) (S, I, R, z) Q = RB d 101 102 [l0, l1, l2, l3, .int x, l5, l6, l7] st (S, I, R, z) Q := RB_istore rfl (Nat.le_of_ble_eq_true rfl) rfl
theorem w101_102 : RB d 101 102 [l0, l1, l2, l3, l4, l5, l6, .int x] st (S, I, R, z) Q = RB d 101 104 [l0, l1, l2, l3, l4, l5, l6, .int x] (.int x :: st) (S, I, R, z) Q := RB_iload rfl rfl
theorem w101_104 : RB d 101 104 [l0, l1, l2, l3, l4, l5, l6, l7] (.int x :: st) (S, I, R, z) Q = RB d 101 106 [l0, l1, l2, l3, l4, .int x, l6, l7] st (S, I, R, z) Q := RB_istore rfl (Nat.le_of_ble_eq_true rfl) rfl
theorem w101_106 : RB d 101 106 [l0, l1, l2, l3, l4, l5, .int x, l7] st (S, I, R, z) Q = RB d 101 109 [l0, l1, l2, l3, l4, l5, .int (x + 1), l7] st (S, I, R, z) Q := RB_iinc rfl rfl (Nat.le_of_ble_eq_true rfl) ki1 rfl
theorem w101_109 : RB d 101 109 [l0, l1, l2, l3, l4, l5, l6, l7] st (S, I, R, z) Q = RB d 101 60 [l0, l1, l2, l3, l4, l5, l6, l7] st (S, I, R, z) Q := RB_goto rfl (by decide) rfl
theorem w101_112 : RB d 101 112 [l0, l1, .int x, l3, l4, l5, l6, l7] st (S, I, R, z) Q = RB d 101 113 [l0, l1, .int x, l3, l4, l5, l6, l7] (.int x :: st) (S, I, R, z) Q := RB_iloadn rfl rfl
theorem w101_113 : RB d 101 113 [l0, l1, l2, l3, l4, l5, l6, l7] (.int x :: st) (S, I, R, z) Q = ((x = 0 → RB d 101 116 [l0, l1, l2, l3, l4, l5, l6, l7] st (S, I, R, z) Q) ∧ (¬ x = 0 → RB d 101 121 [l0, l1, l2, l3, l4, l5, l6, l7] st (S, I, R, z) Q)) := RB_ne0 rfl (by decide) rfl
theorem w101_116 : RB d 101 116 [l0, l1, l2, l3, .int x, l5, l6, l7] st (S, I, R, z) Q = RB d 101 118 [l0, l1, l2, l3, .int x, l5, l6, l7] (.int x :: st) (S, I, R, z) Q := RB_iload rfl rfl
theorem w101_118 : RB d 101 118 [l0, l1, l2, l3, l4, l5, l6, l7] st (S, I, R, z) Q = RB d 101 123 [l0, l1, l2, l3, l4, l5, l6, l7] st (S, I, R, z) Q := RB_goto rfl (by decide) rfl
theorem w101_121 : RB d 101 121 [l0, l1, l2, l3, l4, .int x, l6, l7] st (S, I, R, z) Q = RB d 101 123 [l0, l1, l2, l3, l4, .int x, l6, l7] (.int x :: st) (S, I, R, z) Q := RB_iload rfl rfl
theorem w101_123 : RB d 101 123 [l0, l1, l2, l3, l4, l5, l6, l7] [.int x] (S, I, R, z) Q = Q (some (.int x)) (S, I, R, z) := RB_iret rfl rfl rfl
/-! 102: HangedWord.fine -/
theorem w102_0 : RB d 102 0 [.ref a] st (S, I, R, z) Q = RB d 102 1 [.ref a] (.ref a :: st) (S, I, R, z) Q := RB_aloadn rfl rfl
theorem w102_1 : RB d 102 1 [l0] (.ref a :: st) (S, I, R, z) Q = ((S a).1 = 6 ∧ RB d 102 4 [l0] (va_rf (R a 0) :: st) (S, I, R, z) Q) := RB_getR rfl rfl
theorem w102_4 : RB d 102 4 [l0] [.ref a] (S, I, R, z) Q = ((S a).1 = 2 ∧ RM d 38 [.ref a] (S, I, R, z) (fun v τ => RB d 102 7 [l0] (aPush v []) τ Q)) := RB_callV (n := 1) (t := 0) (k := 217) (ins := .invokevirtual 217) rfl rfl rfl (by decide) (Nat.le_of_ble_eq_true rfl) (Nat.le_of_ble_eq_true rfl) rfl rfl
theorem w102_7 : RB d 102 7 [l0] [.int x] (S, I, R, z) Q = Q (some (.int x)) (S, I, R, z) := RB_iret rfl rfl rfl
/-! 103: HangedWord.feed -/
theorem w103_0 : RB d 103 0 [.ref a, l1, l2, l3] st (S, I, R, z) Q = RB d 103 1 [.ref a, l1, l2, l3] (.ref a :: st) (S, I, R, z) Q := RB_aloadn rfl rfl
theorem w103_1 : RB d 103 1 [l0, l1, l2, l3] (.ref a :: st) (S, I, R, z) Q = ((S a).1 = 6 ∧ RB d 103 4 [l0, l1, l2, l3] (va_rf (R a 6) :: st) (S, I, R, z) Q) := RB_getR rfl rfl
theorem w103_4 : RB d 103 4 [l0, l1, l2, l3] (.ref a :: st) (S, I, R, z) Q = ((S a).1 = 3 ∧ RB d 103 7 [l0, l1, l2, l3] (.int (I a 1) :: st) (S, I, R, z) Q) := RB_getI rfl rfl
theorem w103_7 : RB d 103 7 [l0, l1, l2, l3] st (S, I, R, z) Q = RB d 103 9 [l0, l1, l2, l3] (.int 12 :: st) (S, I, R, z) Q := RB_bipush rfl kb12
theorem w103_9 : RB d 103 9 [l0, l1, l2, l3] (.int y :: .int x :: st) (S, I, R, z) Q = RB d 103 10 [l0, l1, l2, l3] (.int (x + y) :: st) (S, I, R, z) Q := RB_iadd rfl
theorem w103_10 : RB d 103 10 [l0, l1, l2, l3] st (S, I, R, z) Q = RB d 103 12 [l0, l1, l2, l3] (.int 96 :: st) (S, I, R, z) Q := RB_bipush rfl kb96
theorem w103_12 : RB d 103 12 [l0, l1, l2, l3] (.int y :: .int x :: st) (S, I, R, z) Q = ((x ≤ y → RB d 103 18 [l0, l1, l2, l3] st (S, I, R, z) Q) ∧ (¬ x ≤ y → RB d 103 15 [l0, l1, l2, l3] st (S, I, R, z) Q)) := RB_ile rfl (by decide) rfl
theorem w103_15 : RB d 103 15 [l0, l1, l2, l3] st (S, I, R, z) Q = RB d 103 17 [l0, l1, l2, l3] (.int (-1000000003) :: st) (S, I, R, z) Q := RB_ldc rfl rfl
theorem w103_17 : RB d 103 17 [l0, l1, l2, l3] [.int x] (S, I, R, z) Q = Q (some (.int x)) (S, I, R, z) := RB_iret rfl rfl rfl
theorem w103_18 : RB d 103 18 [.ref a, l1, l2, l3] st (S, I, R, z) Q = RB d 103 19 [.ref a, l1, l2, l3] (.ref a :: st) (S, I, R, z) Q := RB_aloadn rfl rfl
theorem w103_19 : RB d 103 19 [l0, l1, l2, l3] (.ref a :: st) (S, I, R, z) Q = ((S a).1 = 6 ∧ RB d 103 22 [l0, l1, l2, l3] (va_rf (R a 6) :: st) (S, I, R, z) Q) := RB_getR rfl rfl
theorem w103_22 : RB d 103 22 [l0, .int x, l2, l3] st (S, I, R, z) Q = RB d 103 23 [l0, .int x, l2, l3] (.int x :: st) (S, I, R, z) Q := RB_iloadn rfl rfl
theorem w103_23 : RB d 103 23 [l0, l1, l2, l3] [.int x0, .ref a] (S, I, R, z) Q = ((S a).1 = 3 ∧ RM d 46 [.ref a, .int x0] (S, I, R, z) (fun v τ => RB d 103 26 [l0, l1, l2, l3] (aPush v []) τ Q)) := RB_callV (n := 2) (t := 0) (k := 224) (ins := .invokevirtual 224) rfl rfl rfl (by decide) (Nat.le_of_ble_eq_true rfl) (Nat.le_of_ble_eq_true rfl) rfl rfl
theorem w103_26 : RB d 103 26 [.ref a, l1, l2, l3] st (S, I, R, z) Q = RB d 103 27 [.ref a, l1, l2, l3] (.ref a :: st) (S, I, R, z) Q := RB_aloadn rfl rfl
theorem w103_27 : RB d 103 27 [l0, l1, l2, l3] (.ref a :: st) (S, I, R, z) Q = ((S a).1 = 6 ∧ RB d 103 30 [l0, l1, l2, l3] (va_rf (R a 6) :: st) (S, I, R, z) Q) := RB_getR rfl rfl
theorem w103_30 : RB d 103 30 [l0, l1, .int x, l3] st (S, I, R, z) Q = RB d 103 31 [l0, l1, .int x, l3] (.int x :: st) (S, I, R, z) Q := RB_iloadn rfl rfl
theorem w103_31 : RB d 103 31 [l0, l1, l2, l3] [.int x0, .ref a] (S, I, R, z) Q = ((S a).1 = 3 ∧ RM d 46 [.ref a, .int x0] (S, I, R, z) (fun v τ => RB d 103 34 [l0, l1, l2, l3] (aPush v []) τ Q)) := RB_callV (n := 2) (t := 0) (k := 224) (ins := .invokevirtual 224) rfl rfl rfl (by decide) (Nat.le_of_ble_eq_true rfl) (Nat.le_of_ble_eq_true rfl) rfl rfl
theorem w103_34 : RB d 103 34 [.ref a, l1, l2, l3] st (S, I, R, z) Q = RB d 103 35 [.ref a, l1, l2, l3] (.ref a :: st) (S, I, R, z) Q := RB_aloadn rfl rfl
theorem w103_35 : RB d 103 35 [l0, l1, l2, l3] (.ref a :: st) (S, I, R, z) Q = ((S a).1 = 6 ∧ RB d 103 38 [l0, l1, l2, l3] (va_rf (R a 6) :: st) (S, I, R, z) Q) := RB_getR rfl rfl
theorem w103_38 : RB d 103 38 [l0, l1, l2, .int x] st (S, I, R, z) Q = RB d 103 39 [l0, l1, l2, .int x] (.int x :: st) (S, I, R, z) Q := RB_iloadn rfl rfl
theorem w103_39 : RB d 103 39 [l0, l1, l2, l3] [.int x0, .ref a] (S, I, R, z) Q = ((S a).1 = 3 ∧ RM d 46 [.ref a, .int x0] (S, I, R, z) (fun v τ => RB d 103 42 [l0, l1, l2, l3] (aPush v []) τ Q)) := RB_callV (n := 2) (t := 0) (k := 224) (ins := .invokevirtual 224) rfl rfl rfl (by decide) (Nat.le_of_ble_eq_true rfl) (Nat.le_of_ble_eq_true rfl) rfl rfl
theorem w103_42 : RB d 103 42 [.ref a, l1, l2, l3] st (S, I, R, z) Q = RB d 103 43 [.ref a, l1, l2, l3] (.ref a :: st) (S, I, R, z) Q := RB_aloadn rfl rfl
theorem w103_43 : RB d 103 43 [l0, l1, l2, l3] (.ref a :: st) (S, I, R, z) Q = ((S a).1 = 6 ∧ RB d 103 46 [l0, l1, l2, l3] (va_rf (R a 6) :: st) (S, I, R, z) Q) := RB_getR rfl rfl
theorem w103_46 : RB d 103 46 [l0, l1, l2, l3] (.ref a :: st) (S, I, R, z) Q = ((S a).1 = 3 ∧ RB d 103 49 [l0, l1, l2, l3] (.int (I a 1) :: st) (S, I, R, z) Q) := RB_getI rfl rfl
theorem w103_49 : RB d 103 49 [l0, l1, l2, l3] [.int x] (S, I, R, z) Q = Q (some (.int x)) (S, I, R, z) := RB_iret rfl rfl rfl
/-! 104: HangedWord.trim -/
theorem w104_0 : RB d 104 0 [l0, .int x] st (S, I, R, z) Q = RB d 104 1 [l0, .int x] (.int x :: st) (S, I, R, z) Q := RB_iloadn rfl rfl
theorem w104_1 : RB d 104 1 [l0, l1] (.int x :: st) (S, I, R, z) Q = ((x < 0 → RB d 104 15 [l0, l1] st (S, I, R, z) Q) ∧ (¬ x < 0 → RB d 104 4 [l0, l1] st (S, I, R, z) Q)) := RB_lt0 rfl (by decide) rfl
theorem w104_4 : RB d 104 4 [l0, .int x] st (S, I, R, z) Q = RB d 104 5 [l0, .int x] (.int x :: st) (S, I, R, z) Q := RB_iloadn rfl rfl
theorem w104_5 : RB d 104 5 [.ref a, l1] st (S, I, R, z) Q = RB d 104 6 [.ref a, l1] (.ref a :: st) (S, I, R, z) Q := RB_aloadn rfl rfl
theorem w104_6 : RB d 104 6 [l0, l1] (.ref a :: st) (S, I, R, z) Q = ((S a).1 = 6 ∧ RB d 104 9 [l0, l1] (va_rf (R a 6) :: st) (S, I, R, z) Q) := RB_getR rfl rfl
theorem w104_9 : RB d 104 9 [l0, l1] (.ref a :: st) (S, I, R, z) Q = ((S a).1 = 3 ∧ RB d 104 12 [l0, l1] (.int (I a 1) :: st) (S, I, R, z) Q) := RB_getI rfl rfl
theorem w104_12 : RB d 104 12 [l0, l1] (.int y :: .int x :: st) (S, I, R, z) Q = ((x ≤ y → RB d 104 18 [l0, l1] st (S, I, R, z) Q) ∧ (¬ x ≤ y → RB d 104 15 [l0, l1] st (S, I, R, z) Q)) := RB_ile rfl (by decide) rfl
theorem w104_15 : RB d 104 15 [l0, l1] st (S, I, R, z) Q = RB d 104 17 [l0, l1] (.int (-1000000001) :: st) (S, I, R, z) Q := RB_ldc rfl rfl
theorem w104_17 : RB d 104 17 [l0, l1] [.int x] (S, I, R, z) Q = Q (some (.int x)) (S, I, R, z) := RB_iret rfl rfl rfl
theorem w104_18 : RB d 104 18 [.ref a, l1] st (S, I, R, z) Q = RB d 104 19 [.ref a, l1] (.ref a :: st) (S, I, R, z) Q := RB_aloadn rfl rfl
theorem w104_19 : RB d 104 19 [l0, l1] (.ref a :: st) (S, I, R, z) Q = ((S a).1 = 6 ∧ RB d 104 22 [l0, l1] (va_rf (R a 6) :: st) (S, I, R, z) Q) := RB_getR rfl rfl
theorem w104_22 : RB d 104 22 [l0, .int x] st (S, I, R, z) Q = RB d 104 23 [l0, .int x] (.int x :: st) (S, I, R, z) Q := RB_iloadn rfl rfl
theorem w104_23 : RB d 104 23 [l0, l1] (.int x :: .ref a :: st) (S, I, R, z) Q = (((S a).1 = 3 ∧ 3 < 8 ∧ 16 ≤ a) ∧ RB d 104 26 [l0, l1] st (S, aW I a 1 x, R, z) Q) := RB_putI rfl rfl (Or.inl rfl)
theorem w104_26 : RB d 104 26 [l0, .int x] st (S, I, R, z) Q = RB d 104 27 [l0, .int x] (.int x :: st) (S, I, R, z) Q := RB_iloadn rfl rfl
theorem w104_27 : RB d 104 27 [l0, l1] [.int x] (S, I, R, z) Q = Q (some (.int x)) (S, I, R, z) := RB_iret rfl rfl rfl
/-! 105: HangedWord.text -/
theorem w105_0 : RB d 105 0 [.ref a, l1] st (S, I, R, z) Q = RB d 105 1 [.ref a, l1] (.ref a :: st) (S, I, R, z) Q := RB_aloadn rfl rfl
theorem w105_1 : RB d 105 1 [l0, l1] (.ref a :: st) (S, I, R, z) Q = ((S a).1 = 6 ∧ RB d 105 4 [l0, l1] (va_rf (R a 6) :: st) (S, I, R, z) Q) := RB_getR rfl rfl
theorem w105_4 : RB d 105 4 [l0, l1] [.ref a] (S, I, R, z) Q = ((S a).1 = 3 ∧ RM d 47 [.ref a] (S, I, R, z) (fun v τ => RB d 105 7 [l0, l1] (aPush v []) τ Q)) := RB_callV (n := 1) (t := 0) (k := 227) (ins := .invokevirtual 227) rfl rfl rfl (by decide) (Nat.le_of_ble_eq_true rfl) (Nat.le_of_ble_eq_true rfl) rfl rfl
theorem w105_7 : RB d 105 7 [l0, l1] (.int x :: st) (S, I, R, z) Q = ((x = 0 → RB d 105 27 [l0, l1] st (S, I, R, z) Q) ∧ (¬ x = 0 → RB d 105 10 [l0, l1] st (S, I, R, z) Q)) := RB_eq0 rfl (by decide) rfl
theorem w105_10 : RB d 105 10 [.ref a, l1] st (S, I, R, z) Q = RB d 105 11 [.ref a, l1] (.ref a :: st) (S, I, R, z) Q := RB_aloadn rfl rfl
theorem w105_11 : RB d 105 11 [l0, l1] (.ref a :: st) (S, I, R, z) Q = ((S a).1 = 6 ∧ RB d 105 14 [l0, l1] (va_rf (R a 0) :: st) (S, I, R, z) Q) := RB_getR rfl rfl
theorem w105_14 : RB d 105 14 [.ref a, l1] st (S, I, R, z) Q = RB d 105 15 [.ref a, l1] (.ref a :: st) (S, I, R, z) Q := RB_aloadn rfl rfl
theorem w105_15 : RB d 105 15 [l0, l1] (.ref a :: st) (S, I, R, z) Q = ((S a).1 = 6 ∧ RB d 105 18 [l0, l1] (va_rf (R a 6) :: st) (S, I, R, z) Q) := RB_getR rfl rfl
theorem w105_18 : RB d 105 18 [l0, l1] [.ref a, s0] (S, I, R, z) Q = ((S a).1 = 3 ∧ RM d 48 [.ref a] (S, I, R, z) (fun v τ => RB d 105 21 [l0, l1] (aPush v [s0]) τ Q)) := RB_callV (n := 1) (t := 0) (k := 230) (ins := .invokevirtual 230) rfl rfl rfl (by decide) (Nat.le_of_ble_eq_true rfl) (Nat.le_of_ble_eq_true rfl) rfl rfl
theorem w105_21 : RB d 105 21 [l0, l1] [v0, .ref a] (S, I, R, z) Q = ((S a).1 = 2 ∧ RM d 12 [.ref a, v0] (S, I, R, z) (fun v τ => RB d 105 24 [l0, l1] (aPush v []) τ Q)) := RB_callV (n := 2) (t := 0) (k := 234) (ins := .invokevirtual 234) rfl rfl rfl (by decide) (Nat.le_of_ble_eq_true rfl) (Nat.le_of_ble_eq_true rfl) rfl rfl
theorem w105_24 : RB d 105 24 [l0, l1] st (S, I, R, z) Q = RB d 105 37 [l0, l1] st (S, I, R, z) Q := RB_goto rfl (by decide) rfl
theorem w105_27 : RB d 105 27 [l0, l1] st (S, I, R, z) Q = RB d 105 29 [l0, l1] (.int (-100) :: st) (S, I, R, z) Q := RB_bipush rfl kbm100
theorem w105_29 : RB d 105 29 [.ref a, l1] st (S, I, R, z) Q = RB d 105 30 [.ref a, l1] (.ref a :: st) (S, I, R, z) Q := RB_aloadn rfl rfl
theorem w105_30 : RB d 105 30 [l0, l1] (.ref a :: st) (S, I, R, z) Q = ((S a).1 = 6 ∧ RB d 105 33 [l0, l1] (va_rf (R a 6) :: st) (S, I, R, z) Q) := RB_getR rfl rfl
theorem w105_33 : RB d 105 33 [l0, l1] (.ref a :: st) (S, I, R, z) Q = ((S a).1 = 3 ∧ RB d 105 36 [l0, l1] (.int (I a 2) :: st) (S, I, R, z) Q) := RB_getI rfl rfl
theorem w105_36 : RB d 105 36 [l0, l1] (.int y :: .int x :: st) (S, I, R, z) Q = RB d 105 37 [l0, l1] (.int (x - y) :: st) (S, I, R, z) Q := RB_isub rfl
theorem w105_37 : RB d 105 37 [l0, l1] (.int x :: st) (S, I, R, z) Q = RB d 105 38 [l0, .int x] st (S, I, R, z) Q := RB_istoren rfl (Nat.le_of_ble_eq_true rfl) rfl
theorem w105_38 : RB d 105 38 [.ref a, l1] st (S, I, R, z) Q = RB d 105 39 [.ref a, l1] (.ref a :: st) (S, I, R, z) Q := RB_aloadn rfl rfl
theorem w105_39 : RB d 105 39 [l0, l1] (.ref a :: st) (S, I, R, z) Q = ((S a).1 = 6 ∧ RB d 105 42 [l0, l1] (va_rf (R a 6) :: st) (S, I, R, z) Q) := RB_getR rfl rfl
theorem w105_42 : RB d 105 42 [l0, l1] st (S, I, R, z) Q = RB d 105 43 [l0, l1] (.int 0 :: st) (S, I, R, z) Q := RB_iconst rfl ki0
theorem w105_43 : RB d 105 43 [l0, l1] (.int x :: .ref a :: st) (S, I, R, z) Q = (((S a).1 = 3 ∧ 3 < 8 ∧ 16 ≤ a) ∧ RB d 105 46 [l0, l1] st (S, aW I a 1 x, R, z) Q) := RB_putI rfl rfl (Or.inl rfl)
theorem w105_46 : RB d 105 46 [l0, .int x] st (S, I, R, z) Q = RB d 105 47 [l0, .int x] (.int x :: st) (S, I, R, z) Q := RB_iloadn rfl rfl
theorem w105_47 : RB d 105 47 [l0, l1] [.int x] (S, I, R, z) Q = Q (some (.int x)) (S, I, R, z) := RB_iret rfl rfl rfl
/-! 106: HangedWord.textTold -/
theorem w106_0 : RB d 106 0 [l0, .int x, l2] st (S, I, R, z) Q = RB d 106 1 [l0, .int x, l2] (.int x :: st) (S, I, R, z) Q := RB_iloadn rfl rfl
theorem w106_1 : RB d 106 1 [l0, l1, l2] (.int x :: st) (S, I, R, z) Q = ((x < 0 → RB d 106 15 [l0, l1, l2] st (S, I, R, z) Q) ∧ (¬ x < 0 → RB d 106 4 [l0, l1, l2] st (S, I, R, z) Q)) := RB_lt0 rfl (by decide) rfl
theorem w106_4 : RB d 106 4 [l0, .int x, l2] st (S, I, R, z) Q = RB d 106 5 [l0, .int x, l2] (.int x :: st) (S, I, R, z) Q := RB_iloadn rfl rfl
theorem w106_5 : RB d 106 5 [.ref a, l1, l2] st (S, I, R, z) Q = RB d 106 6 [.ref a, l1, l2] (.ref a :: st) (S, I, R, z) Q := RB_aloadn rfl rfl
theorem w106_6 : RB d 106 6 [l0, l1, l2] (.ref a :: st) (S, I, R, z) Q = ((S a).1 = 6 ∧ RB d 106 9 [l0, l1, l2] (va_rf (R a 0) :: st) (S, I, R, z) Q) := RB_getR rfl rfl
theorem w106_9 : RB d 106 9 [l0, l1, l2] (.ref a :: st) (S, I, R, z) Q = ((S a).1 = 2 ∧ RB d 106 12 [l0, l1, l2] (.int (I a 13) :: st) (S, I, R, z) Q) := RB_getI rfl rfl
theorem w106_12 : RB d 106 12 [l0, l1, l2] (.int y :: .int x :: st) (S, I, R, z) Q = ((x < y → RB d 106 18 [l0, l1, l2] st (S, I, R, z) Q) ∧ (¬ x < y → RB d 106 15 [l0, l1, l2] st (S, I, R, z) Q)) := RB_ilt rfl (by decide) rfl
theorem w106_15 : RB d 106 15 [l0, l1, l2] st (S, I, R, z) Q = RB d 106 17 [l0, l1, l2] (.int (-1000000001) :: st) (S, I, R, z) Q := RB_ldc rfl rfl
theorem w106_17 : RB d 106 17 [l0, l1, l2] [.int x] (S, I, R, z) Q = Q (some (.int x)) (S, I, R, z) := RB_iret rfl rfl rfl
theorem w106_18 : RB d 106 18 [l0, l1, .int x] st (S, I, R, z) Q = RB d 106 19 [l0, l1, .int x] (.int x :: st) (S, I, R, z) Q := RB_iloadn rfl rfl
theorem w106_19 : RB d 106 19 [l0, l1, l2] (.int x :: st) (S, I, R, z) Q = aTsR d 106 19 x 70 [l0, l1, l2] st (S, I, R, z) Q [(0, 44), (1, 57)] := RB_tl rfl (by decide) (by decide) (by decide) (by decide +kernel) rfl
theorem w106_44 : RB d 106 44 [.ref a, l1, l2] st (S, I, R, z) Q = RB d 106 45 [.ref a, l1, l2] (.ref a :: st) (S, I, R, z) Q := RB_aloadn rfl rfl
theorem w106_45 : RB d 106 45 [l0, l1, l2] (.ref a :: st) (S, I, R, z) Q = ((S a).1 = 6 ∧ RB d 106 48 [l0, l1, l2] (va_rf (R a 0) :: st) (S, I, R, z) Q) := RB_getR rfl rfl
theorem w106_48 : RB d 106 48 [l0, l1, l2] (.ref a :: st) (S, I, R, z) Q = ((S a).1 = 2 ∧ RB d 106 51 [l0, l1, l2] (va_rf (R a 12) :: st) (S, I, R, z) Q) := RB_getR rfl rfl
theorem w106_51 : RB d 106 51 [l0, .int x, l2] st (S, I, R, z) Q = RB d 106 52 [l0, .int x, l2] (.int x :: st) (S, I, R, z) Q := RB_iloadn rfl rfl
theorem w106_52 : RB d 106 52 [l0, l1, l2] (.int i :: .ref a :: st) (S, I, R, z) Q = (((11 ≤ (S a).1 ∧ (S a).1 ≤ 13) ∧ aIx i (S a).2) ∧ RB d 106 53 [l0, l1, l2] (va_rf (R a i.toNatClampNeg) :: st) (S, I, R, z) Q) := RB_aald rfl
theorem w106_53 : RB d 106 53 [l0, l1, l2] (.ref a :: st) (S, I, R, z) Q = ((S a).1 = 4 ∧ RB d 106 56 [l0, l1, l2] (.int (I a 0) :: st) (S, I, R, z) Q) := RB_getI rfl rfl
theorem w106_56 : RB d 106 56 [l0, l1, l2] [.int x] (S, I, R, z) Q = Q (some (.int x)) (S, I, R, z) := RB_iret rfl rfl rfl
theorem w106_57 : RB d 106 57 [.ref a, l1, l2] st (S, I, R, z) Q = RB d 106 58 [.ref a, l1, l2] (.ref a :: st) (S, I, R, z) Q := RB_aloadn rfl rfl
theorem w106_58 : RB d 106 58 [l0, l1, l2] (.ref a :: st) (S, I, R, z) Q = ((S a).1 = 6 ∧ RB d 106 61 [l0, l1, l2] (va_rf (R a 0) :: st) (S, I, R, z) Q) := RB_getR rfl rfl
theorem w106_61 : RB d 106 61 [l0, l1, l2] (.ref a :: st) (S, I, R, z) Q = ((S a).1 = 2 ∧ RB d 106 64 [l0, l1, l2] (va_rf (R a 12) :: st) (S, I, R, z) Q) := RB_getR rfl rfl
theorem w106_64 : RB d 106 64 [l0, .int x, l2] st (S, I, R, z) Q = RB d 106 65 [l0, .int x, l2] (.int x :: st) (S, I, R, z) Q := RB_iloadn rfl rfl
theorem w106_65 : RB d 106 65 [l0, l1, l2] (.int i :: .ref a :: st) (S, I, R, z) Q = (((11 ≤ (S a).1 ∧ (S a).1 ≤ 13) ∧ aIx i (S a).2) ∧ RB d 106 66 [l0, l1, l2] (va_rf (R a i.toNatClampNeg) :: st) (S, I, R, z) Q) := RB_aald rfl
theorem w106_66 : RB d 106 66 [l0, l1, l2] (.ref a :: st) (S, I, R, z) Q = ((S a).1 = 4 ∧ RB d 106 69 [l0, l1, l2] (.int (I a 1) :: st) (S, I, R, z) Q) := RB_getI rfl rfl
theorem w106_69 : RB d 106 69 [l0, l1, l2] [.int x] (S, I, R, z) Q = Q (some (.int x)) (S, I, R, z) := RB_iret rfl rfl rfl
theorem w106_70 : RB d 106 70 [l0, l1, l2] st (S, I, R, z) Q = RB d 106 72 [l0, l1, l2] (.int (-1000000001) :: st) (S, I, R, z) Q := RB_ldc rfl rfl
theorem w106_72 : RB d 106 72 [l0, l1, l2] [.int x] (S, I, R, z) Q = Q (some (.int x)) (S, I, R, z) := RB_iret rfl rfl rfl
/-! 107: HangedWord.why -/
theorem w107_0 : RB d 107 0 [l0, .int x] st (S, I, R, z) Q = RB d 107 1 [l0, .int x] (.int x :: st) (S, I, R, z) Q := RB_iloadn rfl rfl
theorem w107_1 : RB d 107 1 [l0, l1] (.int x :: st) (S, I, R, z) Q = ((x < 0 → RB d 107 9 [l0, l1] st (S, I, R, z) Q) ∧ (¬ x < 0 → RB d 107 4 [l0, l1] st (S, I, R, z) Q)) := RB_lt0 rfl (by decide) rfl
theorem w107_4 : RB d 107 4 [l0, .int x] st (S, I, R, z) Q = RB d 107 5 [l0, .int x] (.int x :: st) (S, I, R, z) Q := RB_iloadn rfl rfl
theorem w107_5 : RB d 107 5 [l0, l1] st (S, I, R, z) Q = RB d 107 6 [l0, l1] (.int 3 :: st) (S, I, R, z) Q := RB_iconst rfl ki3
theorem w107_6 : RB d 107 6 [l0, l1] (.int y :: .int x :: st) (S, I, R, z) Q = ((x < y → RB d 107 12 [l0, l1] st (S, I, R, z) Q) ∧ (¬ x < y → RB d 107 9 [l0, l1] st (S, I, R, z) Q)) := RB_ilt rfl (by decide) rfl
theorem w107_9 : RB d 107 9 [l0, l1] st (S, I, R, z) Q = RB d 107 11 [l0, l1] (.int (-1000000001) :: st) (S, I, R, z) Q := RB_ldc rfl rfl
theorem w107_11 : RB d 107 11 [l0, l1] [.int x] (S, I, R, z) Q = Q (some (.int x)) (S, I, R, z) := RB_iret rfl rfl rfl
theorem w107_12 : RB d 107 12 [.ref a, l1] st (S, I, R, z) Q = RB d 107 13 [.ref a, l1] (.ref a :: st) (S, I, R, z) Q := RB_aloadn rfl rfl
theorem w107_13 : RB d 107 13 [l0, l1] (.ref a :: st) (S, I, R, z) Q = ((S a).1 = 6 ∧ RB d 107 16 [l0, l1] (va_rf (R a 0) :: st) (S, I, R, z) Q) := RB_getR rfl rfl
theorem w107_16 : RB d 107 16 [l0, l1] (.ref a :: st) (S, I, R, z) Q = ((S a).1 = 2 ∧ RB d 107 19 [l0, l1] (va_rf (R a 14) :: st) (S, I, R, z) Q) := RB_getR rfl rfl
theorem w107_19 : RB d 107 19 [l0, .int x] st (S, I, R, z) Q = RB d 107 20 [l0, .int x] (.int x :: st) (S, I, R, z) Q := RB_iloadn rfl rfl
theorem w107_20 : RB d 107 20 [l0, l1] (.int i :: .ref a :: st) (S, I, R, z) Q = (((S a).1 = 9 ∧ aIx i (S a).2) ∧ RB d 107 21 [l0, l1] (.int (I a i.toNatClampNeg) :: st) (S, I, R, z) Q) := RB_iald rfl
theorem w107_21 : RB d 107 21 [l0, l1] (.int x :: st) (S, I, R, z) Q = ((0 ≤ x → RB d 107 29 [l0, l1] st (S, I, R, z) Q) ∧ (¬ 0 ≤ x → RB d 107 24 [l0, l1] st (S, I, R, z) Q)) := RB_ge0 rfl (by decide) rfl
theorem w107_24 : RB d 107 24 [l0, l1] st (S, I, R, z) Q = RB d 107 26 [l0, l1] (.int (-1000000005) :: st) (S, I, R, z) Q := RB_ldc rfl rfl
theorem w107_26 : RB d 107 26 [l0, l1] st (S, I, R, z) Q = RB d 107 38 [l0, l1] st (S, I, R, z) Q := RB_goto rfl (by decide) rfl
theorem w107_29 : RB d 107 29 [.ref a, l1] st (S, I, R, z) Q = RB d 107 30 [.ref a, l1] (.ref a :: st) (S, I, R, z) Q := RB_aloadn rfl rfl
theorem w107_30 : RB d 107 30 [l0, l1] (.ref a :: st) (S, I, R, z) Q = ((S a).1 = 6 ∧ RB d 107 33 [l0, l1] (va_rf (R a 0) :: st) (S, I, R, z) Q) := RB_getR rfl rfl
theorem w107_33 : RB d 107 33 [l0, l1] (.ref a :: st) (S, I, R, z) Q = ((S a).1 = 2 ∧ RB d 107 36 [l0, l1] (va_rf (R a 14) :: st) (S, I, R, z) Q) := RB_getR rfl rfl
theorem w107_36 : RB d 107 36 [l0, .int x] st (S, I, R, z) Q = RB d 107 37 [l0, .int x] (.int x :: st) (S, I, R, z) Q := RB_iloadn rfl rfl
theorem w107_37 : RB d 107 37 [l0, l1] (.int i :: .ref a :: st) (S, I, R, z) Q = (((S a).1 = 9 ∧ aIx i (S a).2) ∧ RB d 107 38 [l0, l1] (.int (I a i.toNatClampNeg) :: st) (S, I, R, z) Q) := RB_iald rfl
theorem w107_38 : RB d 107 38 [l0, l1] [.int x] (S, I, R, z) Q = Q (some (.int x)) (S, I, R, z) := RB_iret rfl rfl rfl
/-! 108: HangedWord.sheet -/
theorem w108_0 : RB d 108 0 [l0, .int x, l2, l3] st (S, I, R, z) Q = RB d 108 1 [l0, .int x, l2, l3] (.int x :: st) (S, I, R, z) Q := RB_iloadn rfl rfl
theorem w108_1 : RB d 108 1 [l0, l1, l2, l3] [.int x0] (S, I, R, z) Q = RM d 127 [.int x0] (S, I, R, z) (fun v τ => RB d 108 4 [l0, l1, l2, l3] (aPush v []) τ Q) := RB_callS (n := 1) (t := 1) (k := 203) (ins := .invokestatic 203) rfl rfl rfl (Nat.le_of_ble_eq_true rfl) (Nat.le_of_ble_eq_true rfl) rfl rfl
theorem w108_4 : RB d 108 4 [l0, l1, l2, l3] (.int x :: st) (S, I, R, z) Q = ((x = 0 → RB d 108 17 [l0, l1, l2, l3] st (S, I, R, z) Q) ∧ (¬ x = 0 → RB d 108 7 [l0, l1, l2, l3] st (S, I, R, z) Q)) := RB_eq0 rfl (by decide) rfl
theorem w108_7 : RB d 108 7 [l0, l1, .int x, l3] st (S, I, R, z) Q = RB d 108 8 [l0, l1, .int x, l3] (.int x :: st) (S, I, R, z) Q := RB_iloadn rfl rfl
theorem w108_8 : RB d 108 8 [l0, l1, l2, l3] st (S, I, R, z) Q = RB d 108 9 [l0, l1, l2, l3] (.int (-1) :: st) (S, I, R, z) Q := RB_iconst rfl kim1
theorem w108_9 : RB d 108 9 [l0, l1, l2, l3] (.int y :: .int x :: st) (S, I, R, z) Q = ((x < y → RB d 108 17 [l0, l1, l2, l3] st (S, I, R, z) Q) ∧ (¬ x < y → RB d 108 12 [l0, l1, l2, l3] st (S, I, R, z) Q)) := RB_ilt rfl (by decide) rfl
theorem w108_12 : RB d 108 12 [l0, l1, .int x, l3] st (S, I, R, z) Q = RB d 108 13 [l0, l1, .int x, l3] (.int x :: st) (S, I, R, z) Q := RB_iloadn rfl rfl
theorem w108_13 : RB d 108 13 [l0, l1, l2, l3] st (S, I, R, z) Q = RB d 108 14 [l0, l1, l2, l3] (.int 1 :: st) (S, I, R, z) Q := RB_iconst rfl ki1
theorem w108_14 : RB d 108 14 [l0, l1, l2, l3] (.int y :: .int x :: st) (S, I, R, z) Q = ((x ≤ y → RB d 108 20 [l0, l1, l2, l3] st (S, I, R, z) Q) ∧ (¬ x ≤ y → RB d 108 17 [l0, l1, l2, l3] st (S, I, R, z) Q)) := RB_ile rfl (by decide) rfl
theorem w108_17 : RB d 108 17 [l0, l1, l2, l3] st (S, I, R, z) Q = RB d 108 19 [l0, l1, l2, l3] (.int (-1000000001) :: st) (S, I, R, z) Q := RB_ldc rfl rfl
theorem w108_19 : RB d 108 19 [l0, l1, l2, l3] [.int x] (S, I, R, z) Q = Q (some (.int x)) (S, I, R, z) := RB_iret rfl rfl rfl
theorem w108_20 : RB d 108 20 [l0, l1, .int x, l3] st (S, I, R, z) Q = RB d 108 21 [l0, l1, .int x, l3] (.int x :: st) (S, I, R, z) Q := RB_iloadn rfl rfl
theorem w108_21 : RB d 108 21 [l0, l1, l2, l3] st (S, I, R, z) Q = RB d 108 22 [l0, l1, l2, l3] (.int (-1) :: st) (S, I, R, z) Q := RB_iconst rfl kim1
theorem w108_22 : RB d 108 22 [l0, l1, l2, l3] (.int y :: .int x :: st) (S, I, R, z) Q = ((x = y → RB d 108 25 [l0, l1, l2, l3] st (S, I, R, z) Q) ∧ (¬ x = y → RB d 108 38 [l0, l1, l2, l3] st (S, I, R, z) Q)) := RB_ine rfl (by decide) rfl
theorem w108_25 : RB d 108 25 [.ref a, l1, l2, l3] st (S, I, R, z) Q = RB d 108 26 [.ref a, l1, l2, l3] (.ref a :: st) (S, I, R, z) Q := RB_aloadn rfl rfl
theorem w108_26 : RB d 108 26 [l0, l1, l2, l3] (.ref a :: st) (S, I, R, z) Q = ((S a).1 = 6 ∧ RB d 108 29 [l0, l1, l2, l3] (va_rf (R a 4) :: st) (S, I, R, z) Q) := RB_getR rfl rfl
theorem w108_29 : RB d 108 29 [l0, .int x, l2, l3] st (S, I, R, z) Q = RB d 108 30 [l0, .int x, l2, l3] (.int x :: st) (S, I, R, z) Q := RB_iloadn rfl rfl
theorem w108_30 : RB d 108 30 [l0, l1, l2, l3] (.int i :: .ref a :: st) (S, I, R, z) Q = (((11 ≤ (S a).1 ∧ (S a).1 ≤ 13) ∧ aIx i (S a).2) ∧ RB d 108 31 [l0, l1, l2, l3] (va_rf (R a i.toNatClampNeg) :: st) (S, I, R, z) Q) := RB_aald rfl
theorem w108_31 : RB d 108 31 [l0, l1, l2, l3] st (S, I, R, z) Q = RB d 108 32 [l0, l1, l2, l3] (.int (-1) :: st) (S, I, R, z) Q := RB_iconst rfl kim1
theorem w108_32 : RB d 108 32 [l0, l1, l2, l3] st (S, I, R, z) Q = RB d 108 33 [l0, l1, l2, l3] (.int 0 :: st) (S, I, R, z) Q := RB_iconst rfl ki0
theorem w108_33 : RB d 108 33 [l0, l1, l2, l3] [.int x1, .int x0, .ref a] (S, I, R, z) Q = ((S a).1 = 0 ∧ RM d 5 [.ref a, .int x0, .int x1] (S, I, R, z) (fun v τ => RB d 108 36 [l0, l1, l2, l3] (aPush v []) τ Q)) := RB_callV (n := 3) (t := 0) (k := 259) (ins := .invokevirtual 259) rfl rfl rfl (by decide) (Nat.le_of_ble_eq_true rfl) (Nat.le_of_ble_eq_true rfl) rfl rfl
theorem w108_36 : RB d 108 36 [l0, l1, l2, l3] st (S, I, R, z) Q = RB d 108 37 [l0, l1, l2, l3] (.int 0 :: st) (S, I, R, z) Q := RB_iconst rfl ki0
theorem w108_37 : RB d 108 37 [l0, l1, l2, l3] [.int x] (S, I, R, z) Q = Q (some (.int x)) (S, I, R, z) := RB_iret rfl rfl rfl
theorem w108_38 : RB d 108 38 [l0, l1, l2, .int x] st (S, I, R, z) Q = RB d 108 39 [l0, l1, l2, .int x] (.int x :: st) (S, I, R, z) Q := RB_iloadn rfl rfl
theorem w108_39 : RB d 108 39 [l0, l1, l2, l3] st (S, I, R, z) Q = RB d 108 41 [l0, l1, l2, l3] (.int 24 :: st) (S, I, R, z) Q := RB_bipush rfl kb24
theorem w108_41 : RB d 108 41 [l0, l1, l2, l3] (.int y :: .int x :: st) (S, I, R, z) Q = ((x ≤ y → RB d 108 47 [l0, l1, l2, l3] st (S, I, R, z) Q) ∧ (¬ x ≤ y → RB d 108 44 [l0, l1, l2, l3] st (S, I, R, z) Q)) := RB_ile rfl (by decide) rfl
theorem w108_44 : RB d 108 44 [l0, l1, l2, l3] st (S, I, R, z) Q = RB d 108 46 [l0, l1, l2, l3] (.int (-1000000001) :: st) (S, I, R, z) Q := RB_ldc rfl rfl
theorem w108_46 : RB d 108 46 [l0, l1, l2, l3] [.int x] (S, I, R, z) Q = Q (some (.int x)) (S, I, R, z) := RB_iret rfl rfl rfl
theorem w108_47 : RB d 108 47 [l0, l1, l2, .int x] st (S, I, R, z) Q = RB d 108 48 [l0, l1, l2, .int x] (.int x :: st) (S, I, R, z) Q := RB_iloadn rfl rfl
theorem w108_48 : RB d 108 48 [l0, l1, l2, l3] (.int x :: st) (S, I, R, z) Q = ((0 ≤ x → RB d 108 55 [l0, l1, l2, l3] st (S, I, R, z) Q) ∧ (¬ 0 ≤ x → RB d 108 51 [l0, l1, l2, l3] st (S, I, R, z) Q)) := RB_ge0 rfl (by decide) rfl
theorem w108_51 : RB d 108 51 [l0, l1, l2, l3] st (S, I, R, z) Q = RB d 108 54 [l0, l1, l2, l3] (.int (-1000000014) :: st) (S, I, R, z) Q := RB_ldcw rfl rfl
theorem w108_54 : RB d 108 54 [l0, l1, l2, l3] [.int x] (S, I, R, z) Q = Q (some (.int x)) (S, I, R, z) := RB_iret rfl rfl rfl
theorem w108_55 : RB d 108 55 [.ref a, l1, l2, l3] st (S, I, R, z) Q = RB d 108 56 [.ref a, l1, l2, l3] (.ref a :: st) (S, I, R, z) Q := RB_aloadn rfl rfl
theorem w108_56 : RB d 108 56 [l0, l1, l2, l3] (.ref a :: st) (S, I, R, z) Q = ((S a).1 = 6 ∧ RB d 108 59 [l0, l1, l2, l3] (va_rf (R a 4) :: st) (S, I, R, z) Q) := RB_getR rfl rfl
theorem w108_59 : RB d 108 59 [l0, .int x, l2, l3] st (S, I, R, z) Q = RB d 108 60 [l0, .int x, l2, l3] (.int x :: st) (S, I, R, z) Q := RB_iloadn rfl rfl
theorem w108_60 : RB d 108 60 [l0, l1, l2, l3] (.int i :: .ref a :: st) (S, I, R, z) Q = (((11 ≤ (S a).1 ∧ (S a).1 ≤ 13) ∧ aIx i (S a).2) ∧ RB d 108 61 [l0, l1, l2, l3] (va_rf (R a i.toNatClampNeg) :: st) (S, I, R, z) Q) := RB_aald rfl
theorem w108_61 : RB d 108 61 [l0, l1, .int x, l3] st (S, I, R, z) Q = RB d 108 62 [l0, l1, .int x, l3] (.int x :: st) (S, I, R, z) Q := RB_iloadn rfl rfl
theorem w108_62 : RB d 108 62 [l0, l1, l2, .int x] st (S, I, R, z) Q = RB d 108 63 [l0, l1, l2, .int x] (.int x :: st) (S, I, R, z) Q := RB_iloadn rfl rfl
theorem w108_63 : RB d 108 63 [l0, l1, l2, l3] [.int x1, .int x0, .ref a] (S, I, R, z) Q = ((S a).1 = 0 ∧ RM d 5 [.ref a, .int x0, .int x1] (S, I, R, z) (fun v τ => RB d 108 66 [l0, l1, l2, l3] (aPush v []) τ Q)) := RB_callV (n := 3) (t := 0) (k := 259) (ins := .invokevirtual 259) rfl rfl rfl (by decide) (Nat.le_of_ble_eq_true rfl) (Nat.le_of_ble_eq_true rfl) rfl rfl
theorem w108_66 : RB d 108 66 [l0, l1, l2, .int x] st (S, I, R, z) Q = RB d 108 67 [l0, l1, l2, .int x] (.int x :: st) (S, I, R, z) Q := RB_iloadn rfl rfl
theorem w108_67 : RB d 108 67 [l0, l1, l2, l3] [.int x] (S, I, R, z) Q = Q (some (.int x)) (S, I, R, z) := RB_iret rfl rfl rfl
/-! 109: HangedWord.mark -/
theorem w109_0 : RB d 109 0 [l0, .int x, l2, l3, l4] st (S, I, R, z) Q = RB d 109 1 [l0, .int x, l2, l3, l4] (.int x :: st) (S, I, R, z) Q := RB_iloadn rfl rfl
theorem w109_1 : RB d 109 1 [l0, l1, l2, l3, l4] [.int x0] (S, I, R, z) Q = RM d 127 [.int x0] (S, I, R, z) (fun v τ => RB d 109 4 [l0, l1, l2, l3, l4] (aPush v []) τ Q) := RB_callS (n := 1) (t := 1) (k := 203) (ins := .invokestatic 203) rfl rfl rfl (Nat.le_of_ble_eq_true rfl) (Nat.le_of_ble_eq_true rfl) rfl rfl
theorem w109_4 : RB d 109 4 [l0, l1, l2, l3, l4] (.int x :: st) (S, I, R, z) Q = ((x = 0 → RB d 109 7 [l0, l1, l2, l3, l4] st (S, I, R, z) Q) ∧ (¬ x = 0 → RB d 109 10 [l0, l1, l2, l3, l4] st (S, I, R, z) Q)) := RB_ne0 rfl (by decide) rfl
theorem w109_7 : RB d 109 7 [l0, l1, l2, l3, l4] st (S, I, R, z) Q = RB d 109 9 [l0, l1, l2, l3, l4] (.int (-1000000001) :: st) (S, I, R, z) Q := RB_ldc rfl rfl
theorem w109_9 : RB d 109 9 [l0, l1, l2, l3, l4] [.int x] (S, I, R, z) Q = Q (some (.int x)) (S, I, R, z) := RB_iret rfl rfl rfl
theorem w109_10 : RB d 109 10 [.ref a, l1, l2, l3, l4] st (S, I, R, z) Q = RB d 109 11 [.ref a, l1, l2, l3, l4] (.ref a :: st) (S, I, R, z) Q := RB_aloadn rfl rfl
theorem w109_11 : RB d 109 11 [l0, l1, l2, l3, l4] (.ref a :: st) (S, I, R, z) Q = ((S a).1 = 6 ∧ RB d 109 14 [l0, l1, l2, l3, l4] (va_rf (R a 4) :: st) (S, I, R, z) Q) := RB_getR rfl rfl
theorem w109_14 : RB d 109 14 [l0, .int x, l2, l3, l4] st (S, I, R, z) Q = RB d 109 15 [l0, .int x, l2, l3, l4] (.int x :: st) (S, I, R, z) Q := RB_iloadn rfl rfl
theorem w109_15 : RB d 109 15 [l0, l1, l2, l3, l4] (.int i :: .ref a :: st) (S, I, R, z) Q = (((11 ≤ (S a).1 ∧ (S a).1 ≤ 13) ∧ aIx i (S a).2) ∧ RB d 109 16 [l0, l1, l2, l3, l4] (va_rf (R a i.toNatClampNeg) :: st) (S, I, R, z) Q) := RB_aald rfl
theorem w109_16 : RB d 109 16 [l0, l1, l2, l3, l4] (.ref a :: st) (S, I, R, z) Q = RB d 109 18 [l0, l1, l2, l3, .ref a] st (S, I, R, z) Q := RB_astore rfl (Nat.le_of_ble_eq_true rfl) rfl
theorem w109_16N : RB d 109 16 [l0, l1, l2, l3, l4] (.null :: st) (S, I, R, z) Q = RB d 109 18 [l0, l1, l2, l3, .null] st (S, I, R, z) Q := RB_astoreN rfl (Nat.le_of_ble_eq_true rfl) rfl
theorem w109_18 : RB d 109 18 [l0, l1, l2, l3, .ref a] st (S, I, R, z) Q = RB d 109 20 [l0, l1, l2, l3, .ref a] (.ref a :: st) (S, I, R, z) Q := RB_aload rfl rfl
theorem w109_18N : RB d 109 18 [l0, l1, l2, l3, .null] st (S, I, R, z) Q = RB d 109 20 [l0, l1, l2, l3, .null] (.null :: st) (S, I, R, z) Q := RB_aloadN rfl rfl
theorem w109_20 : RB d 109 20 [l0, l1, l2, l3, l4] [.ref a] (S, I, R, z) Q = ((S a).1 = 0 ∧ RM d 1 [.ref a] (S, I, R, z) (fun v τ => RB d 109 23 [l0, l1, l2, l3, l4] (aPush v []) τ Q)) := RB_callV (n := 1) (t := 0) (k := 206) (ins := .invokevirtual 206) rfl rfl rfl (by decide) (Nat.le_of_ble_eq_true rfl) (Nat.le_of_ble_eq_true rfl) rfl rfl
theorem w109_23 : RB d 109 23 [l0, l1, l2, l3, l4] (.int x :: st) (S, I, R, z) Q = ((x = 0 → RB d 109 29 [l0, l1, l2, l3, l4] st (S, I, R, z) Q) ∧ (¬ x = 0 → RB d 109 26 [l0, l1, l2, l3, l4] st (S, I, R, z) Q)) := RB_eq0 rfl (by decide) rfl
theorem w109_26 : RB d 109 26 [l0, l1, l2, l3, l4] st (S, I, R, z) Q = RB d 109 28 [l0, l1, l2, l3, l4] (.int (-1000000011) :: st) (S, I, R, z) Q := RB_ldc rfl rfl
theorem w109_28 : RB d 109 28 [l0, l1, l2, l3, l4] [.int x] (S, I, R, z) Q = Q (some (.int x)) (S, I, R, z) := RB_iret rfl rfl rfl
theorem w109_29 : RB d 109 29 [l0, l1, l2, l3, .ref a] st (S, I, R, z) Q = RB d 109 31 [l0, l1, l2, l3, .ref a] (.ref a :: st) (S, I, R, z) Q := RB_aload rfl rfl
theorem w109_29N : RB d 109 29 [l0, l1, l2, l3, .null] st (S, I, R, z) Q = RB d 109 31 [l0, l1, l2, l3, .null] (.null :: st) (S, I, R, z) Q := RB_aloadN rfl rfl
theorem w109_31 : RB d 109 31 [l0, l1, .int x, l3, l4] st (S, I, R, z) Q = RB d 109 32 [l0, l1, .int x, l3, l4] (.int x :: st) (S, I, R, z) Q := RB_iloadn rfl rfl
theorem w109_32 : RB d 109 32 [l0, l1, l2, l3, l4] [.int x0, .ref a] (S, I, R, z) Q = ((S a).1 = 0 ∧ RM d 2 [.ref a, .int x0] (S, I, R, z) (fun v τ => RB d 109 35 [l0, l1, l2, l3, l4] (aPush v []) τ Q)) := RB_callV (n := 2) (t := 0) (k := 264) (ins := .invokevirtual 264) rfl rfl rfl (by decide) (Nat.le_of_ble_eq_true rfl) (Nat.le_of_ble_eq_true rfl) rfl rfl
theorem w109_35 : RB d 109 35 [l0, l1, l2, l3, l4] (.int x :: st) (S, I, R, z) Q = ((x = 0 → RB d 109 38 [l0, l1, l2, l3, l4] st (S, I, R, z) Q) ∧ (¬ x = 0 → RB d 109 42 [l0, l1, l2, l3, l4] st (S, I, R, z) Q)) := RB_ne0 rfl (by decide) rfl
theorem w109_38 : RB d 109 38 [l0, l1, l2, l3, l4] st (S, I, R, z) Q = RB d 109 41 [l0, l1, l2, l3, l4] (.int (-1000000013) :: st) (S, I, R, z) Q := RB_ldcw rfl rfl
theorem w109_41 : RB d 109 41 [l0, l1, l2, l3, l4] [.int x] (S, I, R, z) Q = Q (some (.int x)) (S, I, R, z) := RB_iret rfl rfl rfl
theorem w109_42 : RB d 109 42 [l0, l1, l2, l3, .ref a] st (S, I, R, z) Q = RB d 109 44 [l0, l1, l2, l3, .ref a] (.ref a :: st) (S, I, R, z) Q := RB_aload rfl rfl
theorem w109_42N : RB d 109 42 [l0, l1, l2, l3, .null] st (S, I, R, z) Q = RB d 109 44 [l0, l1, l2, l3, .null] (.null :: st) (S, I, R, z) Q := RB_aloadN rfl rfl
theorem w109_44 : RB d 109 44 [l0, l1, l2, l3, l4] (.ref a :: st) (S, I, R, z) Q = ((S a).1 = 0 ∧ RB d 109 47 [l0, l1, l2, l3, l4] (.int (I a 1) :: st) (S, I, R, z) Q) := RB_getI rfl rfl
theorem w109_47 : RB d 109 47 [l0, l1, l2, l3, l4] (.int x :: st) (S, I, R, z) Q = ((x = 0 → RB d 109 50 [l0, l1, l2, l3, l4] st (S, I, R, z) Q) ∧ (¬ x = 0 → RB d 109 70 [l0, l1, l2, l3, l4] st (S, I, R, z) Q)) := RB_ne0 rfl (by decide) rfl
theorem w109_50 : RB d 109 50 [l0, l1, l2, .int x, l4] st (S, I, R, z) Q = RB d 109 51 [l0, l1, l2, .int x, l4] (.int x :: st) (S, I, R, z) Q := RB_iloadn rfl rfl
theorem w109_51 : RB d 109 51 [l0, l1, l2, l3, l4] st (S, I, R, z) Q = RB d 109 53 [l0, l1, l2, l3, l4] (.int (-1000000005) :: st) (S, I, R, z) Q := RB_ldc rfl rfl
theorem w109_53 : RB d 109 53 [l0, l1, l2, l3, l4] (.int y :: .int x :: st) (S, I, R, z) Q = ((x = y → RB d 109 56 [l0, l1, l2, l3, l4] st (S, I, R, z) Q) ∧ (¬ x = y → RB d 109 59 [l0, l1, l2, l3, l4] st (S, I, R, z) Q)) := RB_ine rfl (by decide) rfl
theorem w109_56 : RB d 109 56 [l0, l1, l2, l3, l4] st (S, I, R, z) Q = RB d 109 58 [l0, l1, l2, l3, l4] (.int (-1000000012) :: st) (S, I, R, z) Q := RB_ldc rfl rfl
theorem w109_58 : RB d 109 58 [l0, l1, l2, l3, l4] [.int x] (S, I, R, z) Q = Q (some (.int x)) (S, I, R, z) := RB_iret rfl rfl rfl
theorem w109_59 : RB d 109 59 [l0, l1, l2, l3, .ref a] st (S, I, R, z) Q = RB d 109 61 [l0, l1, l2, l3, .ref a] (.ref a :: st) (S, I, R, z) Q := RB_aload rfl rfl
theorem w109_59N : RB d 109 59 [l0, l1, l2, l3, .null] st (S, I, R, z) Q = RB d 109 61 [l0, l1, l2, l3, .null] (.null :: st) (S, I, R, z) Q := RB_aloadN rfl rfl
theorem w109_61 : RB d 109 61 [l0, l1, l2, l3, l4] (.ref a :: st) (S, I, R, z) Q = ((S a).1 = 0 ∧ RB d 109 64 [l0, l1, l2, l3, l4] (va_rf (R a 0) :: st) (S, I, R, z) Q) := RB_getR rfl rfl
theorem w109_64 : RB d 109 64 [l0, l1, .int x, l3, l4] st (S, I, R, z) Q = RB d 109 65 [l0, l1, .int x, l3, l4] (.int x :: st) (S, I, R, z) Q := RB_iloadn rfl rfl
theorem w109_65 : RB d 109 65 [l0, l1, l2, .int x, l4] st (S, I, R, z) Q = RB d 109 66 [l0, l1, l2, .int x, l4] (.int x :: st) (S, I, R, z) Q := RB_iloadn rfl rfl
theorem w109_66 : RB d 109 66 [l0, l1, l2, l3, l4] (.int x :: st) (S, I, R, z) Q = RB d 109 67 [l0, l1, l2, l3, l4] (.int (x.toInt16.toInt32) :: st) (S, I, R, z) Q := RB_i2s rfl
theorem w109_67 : RB d 109 67 [l0, l1, l2, l3, l4] (.int x :: .int i :: .ref a :: st) (S, I, R, z) Q = (((S a).1 = 9 ∧ aIx i (S a).2 ∧ 16 ≤ a) ∧ RB d 109 68 [l0, l1, l2, l3, l4] st (S, aW I a i.toNatClampNeg x, R, z) Q) := RB_iast rfl
theorem w109_68 : RB d 109 68 [l0, l1, l2, l3, l4] st (S, I, R, z) Q = RB d 109 69 [l0, l1, l2, l3, l4] (.int 1 :: st) (S, I, R, z) Q := RB_iconst rfl ki1
theorem w109_69 : RB d 109 69 [l0, l1, l2, l3, l4] [.int x] (S, I, R, z) Q = Q (some (.int x)) (S, I, R, z) := RB_iret rfl rfl rfl
theorem w109_70 : RB d 109 70 [l0, l1, l2, .int x, l4] st (S, I, R, z) Q = RB d 109 71 [l0, l1, l2, .int x, l4] (.int x :: st) (S, I, R, z) Q := RB_iloadn rfl rfl
theorem w109_71 : RB d 109 71 [l0, l1, l2, l3, l4] st (S, I, R, z) Q = RB d 109 73 [l0, l1, l2, l3, l4] (.int (-1000000005) :: st) (S, I, R, z) Q := RB_ldc rfl rfl
theorem w109_73 : RB d 109 73 [l0, l1, l2, l3, l4] (.int y :: .int x :: st) (S, I, R, z) Q = ((x = y → RB d 109 93 [l0, l1, l2, l3, l4] st (S, I, R, z) Q) ∧ (¬ x = y → RB d 109 76 [l0, l1, l2, l3, l4] st (S, I, R, z) Q)) := RB_ieq rfl (by decide) rfl
theorem w109_76 : RB d 109 76 [l0, l1, l2, .int x, l4] st (S, I, R, z) Q = RB d 109 77 [l0, l1, l2, .int x, l4] (.int x :: st) (S, I, R, z) Q := RB_iloadn rfl rfl
theorem w109_77 : RB d 109 77 [l0, l1, l2, l3, l4] st (S, I, R, z) Q = RB d 109 80 [l0, l1, l2, l3, l4] (.int (-99999) :: st) (S, I, R, z) Q := RB_ldcw rfl rfl
theorem w109_80 : RB d 109 80 [l0, l1, l2, l3, l4] (.int y :: .int x :: st) (S, I, R, z) Q = ((x < y → RB d 109 90 [l0, l1, l2, l3, l4] st (S, I, R, z) Q) ∧ (¬ x < y → RB d 109 83 [l0, l1, l2, l3, l4] st (S, I, R, z) Q)) := RB_ilt rfl (by decide) rfl
theorem w109_83 : RB d 109 83 [l0, l1, l2, .int x, l4] st (S, I, R, z) Q = RB d 109 84 [l0, l1, l2, .int x, l4] (.int x :: st) (S, I, R, z) Q := RB_iloadn rfl rfl
theorem w109_84 : RB d 109 84 [l0, l1, l2, l3, l4] st (S, I, R, z) Q = RB d 109 87 [l0, l1, l2, l3, l4] (.int 99999 :: st) (S, I, R, z) Q := RB_ldcw rfl rfl
theorem w109_87 : RB d 109 87 [l0, l1, l2, l3, l4] (.int y :: .int x :: st) (S, I, R, z) Q = ((x ≤ y → RB d 109 93 [l0, l1, l2, l3, l4] st (S, I, R, z) Q) ∧ (¬ x ≤ y → RB d 109 90 [l0, l1, l2, l3, l4] st (S, I, R, z) Q)) := RB_ile rfl (by decide) rfl
theorem w109_90 : RB d 109 90 [l0, l1, l2, l3, l4] st (S, I, R, z) Q = RB d 109 92 [l0, l1, l2, l3, l4] (.int (-1000000001) :: st) (S, I, R, z) Q := RB_ldc rfl rfl
theorem w109_92 : RB d 109 92 [l0, l1, l2, l3, l4] [.int x] (S, I, R, z) Q = Q (some (.int x)) (S, I, R, z) := RB_iret rfl rfl rfl
theorem w109_93 : RB d 109 93 [l0, l1, l2, l3, .ref a] st (S, I, R, z) Q = RB d 109 95 [l0, l1, l2, l3, .ref a] (.ref a :: st) (S, I, R, z) Q := RB_aload rfl rfl
theorem w109_93N : RB d 109 93 [l0, l1, l2, l3, .null] st (S, I, R, z) Q = RB d 109 95 [l0, l1, l2, l3, .null] (.null :: st) (S, I, R, z) Q := RB_aloadN rfl rfl
theorem w109_95 : RB d 109 95 [l0, l1, l2, l3, l4] (.ref a :: st) (S, I, R, z) Q = ((S a).1 = 0 ∧ RB d 109 98 [l0, l1, l2, l3, l4] (va_rf (R a 0) :: st) (S, I, R, z) Q) := RB_getR rfl rfl
theorem w109_98 : RB d 109 98 [l0, l1, .int x, l3, l4] st (S, I, R, z) Q = RB d 109 99 [l0, l1, .int x, l3, l4] (.int x :: st) (S, I, R, z) Q := RB_iloadn rfl rfl
theorem w109_99 : RB d 109 99 [l0, l1, l2, .int x, l4] st (S, I, R, z) Q = RB d 109 100 [l0, l1, l2, .int x, l4] (.int x :: st) (S, I, R, z) Q := RB_iloadn rfl rfl
theorem w109_100 : RB d 109 100 [l0, l1, l2, l3, l4] (.int x :: .int i :: .ref a :: st) (S, I, R, z) Q = (((S a).1 = 9 ∧ aIx i (S a).2 ∧ 16 ≤ a) ∧ RB d 109 101 [l0, l1, l2, l3, l4] st (S, aW I a i.toNatClampNeg x, R, z) Q) := RB_iast rfl
theorem w109_101 : RB d 109 101 [l0, l1, l2, l3, l4] st (S, I, R, z) Q = RB d 109 102 [l0, l1, l2, l3, l4] (.int 1 :: st) (S, I, R, z) Q := RB_iconst rfl ki1
theorem w109_102 : RB d 109 102 [l0, l1, l2, l3, l4] [.int x] (S, I, R, z) Q = Q (some (.int x)) (S, I, R, z) := RB_iret rfl rfl rfl
/-! 110: HangedWord.pour -/
theorem w110_0 : RB d 110 0 [l0, .int x, l2, l3, l4, l5] st (S, I, R, z) Q = RB d 110 1 [l0, .int x, l2, l3, l4, l5] (.int x :: st) (S, I, R, z) Q := RB_iloadn rfl rfl
theorem w110_1 : RB d 110 1 [l0, l1, l2, l3, l4, l5] [.int x0] (S, I, R, z) Q = RM d 127 [.int x0] (S, I, R, z) (fun v τ => RB d 110 4 [l0, l1, l2, l3, l4, l5] (aPush v []) τ Q) := RB_callS (n := 1) (t := 1) (k := 203) (ins := .invokestatic 203) rfl rfl rfl (Nat.le_of_ble_eq_true rfl) (Nat.le_of_ble_eq_true rfl) rfl rfl
theorem w110_4 : RB d 110 4 [l0, l1, l2, l3, l4, l5] (.int x :: st) (S, I, R, z) Q = ((x = 0 → RB d 110 7 [l0, l1, l2, l3, l4, l5] st (S, I, R, z) Q) ∧ (¬ x = 0 → RB d 110 10 [l0, l1, l2, l3, l4, l5] st (S, I, R, z) Q)) := RB_ne0 rfl (by decide) rfl
theorem w110_7 : RB d 110 7 [l0, l1, l2, l3, l4, l5] st (S, I, R, z) Q = RB d 110 9 [l0, l1, l2, l3, l4, l5] (.int (-1000000001) :: st) (S, I, R, z) Q := RB_ldc rfl rfl
theorem w110_9 : RB d 110 9 [l0, l1, l2, l3, l4, l5] [.int x] (S, I, R, z) Q = Q (some (.int x)) (S, I, R, z) := RB_iret rfl rfl rfl
theorem w110_10 : RB d 110 10 [.ref a, l1, l2, l3, l4, l5] st (S, I, R, z) Q = RB d 110 11 [.ref a, l1, l2, l3, l4, l5] (.ref a :: st) (S, I, R, z) Q := RB_aloadn rfl rfl
theorem w110_11 : RB d 110 11 [l0, l1, l2, l3, l4, l5] (.ref a :: st) (S, I, R, z) Q = ((S a).1 = 6 ∧ RB d 110 14 [l0, l1, l2, l3, l4, l5] (va_rf (R a 4) :: st) (S, I, R, z) Q) := RB_getR rfl rfl
theorem w110_14 : RB d 110 14 [l0, .int x, l2, l3, l4, l5] st (S, I, R, z) Q = RB d 110 15 [l0, .int x, l2, l3, l4, l5] (.int x :: st) (S, I, R, z) Q := RB_iloadn rfl rfl
theorem w110_15 : RB d 110 15 [l0, l1, l2, l3, l4, l5] (.int i :: .ref a :: st) (S, I, R, z) Q = (((11 ≤ (S a).1 ∧ (S a).1 ≤ 13) ∧ aIx i (S a).2) ∧ RB d 110 16 [l0, l1, l2, l3, l4, l5] (va_rf (R a i.toNatClampNeg) :: st) (S, I, R, z) Q) := RB_aald rfl
theorem w110_16 : RB d 110 16 [l0, l1, l2, l3, l4, l5] (.ref a :: st) (S, I, R, z) Q = RB d 110 17 [l0, l1, .ref a, l3, l4, l5] st (S, I, R, z) Q := RB_astoren rfl (Nat.le_of_ble_eq_true rfl) rfl
theorem w110_16N : RB d 110 16 [l0, l1, l2, l3, l4, l5] (.null :: st) (S, I, R, z) Q = RB d 110 17 [l0, l1, .null, l3, l4, l5] st (S, I, R, z) Q := RB_astorenN rfl (Nat.le_of_ble_eq_true rfl) rfl
theorem w110_17 : RB d 110 17 [l0, l1, .ref a, l3, l4, l5] st (S, I, R, z) Q = RB d 110 18 [l0, l1, .ref a, l3, l4, l5] (.ref a :: st) (S, I, R, z) Q := RB_aloadn rfl rfl
theorem w110_17N : RB d 110 17 [l0, l1, .null, l3, l4, l5] st (S, I, R, z) Q = RB d 110 18 [l0, l1, .null, l3, l4, l5] (.null :: st) (S, I, R, z) Q := RB_aloadnN rfl rfl
theorem w110_18 : RB d 110 18 [l0, l1, l2, l3, l4, l5] [.ref a] (S, I, R, z) Q = ((S a).1 = 0 ∧ RM d 1 [.ref a] (S, I, R, z) (fun v τ => RB d 110 21 [l0, l1, l2, l3, l4, l5] (aPush v []) τ Q)) := RB_callV (n := 1) (t := 0) (k := 206) (ins := .invokevirtual 206) rfl rfl rfl (by decide) (Nat.le_of_ble_eq_true rfl) (Nat.le_of_ble_eq_true rfl) rfl rfl
theorem w110_21 : RB d 110 21 [l0, l1, l2, l3, l4, l5] (.int x :: st) (S, I, R, z) Q = ((x = 0 → RB d 110 27 [l0, l1, l2, l3, l4, l5] st (S, I, R, z) Q) ∧ (¬ x = 0 → RB d 110 24 [l0, l1, l2, l3, l4, l5] st (S, I, R, z) Q)) := RB_eq0 rfl (by decide) rfl
theorem w110_24 : RB d 110 24 [l0, l1, l2, l3, l4, l5] st (S, I, R, z) Q = RB d 110 26 [l0, l1, l2, l3, l4, l5] (.int (-1000000011) :: st) (S, I, R, z) Q := RB_ldc rfl rfl
theorem w110_26 : RB d 110 26 [l0, l1, l2, l3, l4, l5] [.int x] (S, I, R, z) Q = Q (some (.int x)) (S, I, R, z) := RB_iret rfl rfl rfl
theorem w110_27 : RB d 110 27 [l0, l1, l2, l3, l4, l5] st (S, I, R, z) Q = RB d 110 28 [l0, l1, l2, l3, l4, l5] (.int 0 :: st) (S, I, R, z) Q := RB_iconst rfl ki0
theorem w110_28 : RB d 110 28 [l0, l1, l2, l3, l4, l5] (.int x :: st) (S, I, R, z) Q = RB d 110 29 [l0, l1, l2, .int x, l4, l5] st (S, I, R, z) Q := RB_istoren rfl (Nat.le_of_ble_eq_true rfl) rfl
theorem w110_29 : RB d 110 29 [l0, l1, l2, l3, l4, l5] st (S, I, R, z) Q = RB d 110 30 [l0, l1, l2, l3, l4, l5] (.int 0 :: st) (S, I, R, z) Q := RB_iconst rfl ki0
theorem w110_30 : RB d 110 30 [l0, l1, l2, l3, l4, l5] (.int x :: st) (S, I, R, z) Q = RB d 110 32 [l0, l1, l2, l3, .int x, l5] st (S, I, R, z) Q := RB_istore rfl (Nat.le_of_ble_eq_true rfl) rfl
theorem w110_32 : RB d 110 32 [l0, l1, l2, l3, .int x, l5] st (S, I, R, z) Q = RB d 110 34 [l0, l1, l2, l3, .int x, l5] (.int x :: st) (S, I, R, z) Q := RB_iload rfl rfl
theorem w110_34 : RB d 110 34 [.ref a, l1, l2, l3, l4, l5] st (S, I, R, z) Q = RB d 110 35 [.ref a, l1, l2, l3, l4, l5] (.ref a :: st) (S, I, R, z) Q := RB_aloadn rfl rfl
theorem w110_35 : RB d 110 35 [l0, l1, l2, l3, l4, l5] (.ref a :: st) (S, I, R, z) Q = ((S a).1 = 6 ∧ RB d 110 38 [l0, l1, l2, l3, l4, l5] (va_rf (R a 0) :: st) (S, I, R, z) Q) := RB_getR rfl rfl
theorem w110_38 : RB d 110 38 [l0, l1, l2, l3, l4, l5] (.ref a :: st) (S, I, R, z) Q = ((S a).1 = 2 ∧ RB d 110 41 [l0, l1, l2, l3, l4, l5] (.int (I a 3) :: st) (S, I, R, z) Q) := RB_getI rfl rfl
theorem w110_41 : RB d 110 41 [l0, l1, l2, l3, l4, l5] (.int y :: .int x :: st) (S, I, R, z) Q = ((y ≤ x → RB d 110 109 [l0, l1, l2, l3, l4, l5] st (S, I, R, z) Q) ∧ (¬ y ≤ x → RB d 110 44 [l0, l1, l2, l3, l4, l5] st (S, I, R, z) Q)) := RB_ige rfl (by decide) rfl
theorem w110_44 : RB d 110 44 [l0, l1, .ref a, l3, l4, l5] st (S, I, R, z) Q = RB d 110 45 [l0, l1, .ref a, l3, l4, l5] (.ref a :: st) (S, I, R, z) Q := RB_aloadn rfl rfl
theorem w110_44N : RB d 110 44 [l0, l1, .null, l3, l4, l5] st (S, I, R, z) Q = RB d 110 45 [l0, l1, .null, l3, l4, l5] (.null :: st) (S, I, R, z) Q := RB_aloadnN rfl rfl
theorem w110_45 : RB d 110 45 [l0, l1, l2, l3, .int x, l5] st (S, I, R, z) Q = RB d 110 47 [l0, l1, l2, l3, .int x, l5] (.int x :: st) (S, I, R, z) Q := RB_iload rfl rfl
theorem w110_47 : RB d 110 47 [l0, l1, l2, l3, l4, l5] [.int x0, .ref a] (S, I, R, z) Q = ((S a).1 = 0 ∧ RM d 4 [.ref a, .int x0] (S, I, R, z) (fun v τ => RB d 110 50 [l0, l1, l2, l3, l4, l5] (aPush v []) τ Q)) := RB_callV (n := 2) (t := 0) (k := 276) (ins := .invokevirtual 276) rfl rfl rfl (by decide) (Nat.le_of_ble_eq_true rfl) (Nat.le_of_ble_eq_true rfl) rfl rfl
theorem w110_50 : RB d 110 50 [l0, l1, l2, l3, l4, l5] (.int x :: st) (S, I, R, z) Q = ((x = 0 → RB d 110 103 [l0, l1, l2, l3, l4, l5] st (S, I, R, z) Q) ∧ (¬ x = 0 → RB d 110 53 [l0, l1, l2, l3, l4, l5] st (S, I, R, z) Q)) := RB_eq0 rfl (by decide) rfl
theorem w110_53 : RB d 110 53 [l0, l1, .ref a, l3, l4, l5] st (S, I, R, z) Q = RB d 110 54 [l0, l1, .ref a, l3, l4, l5] (.ref a :: st) (S, I, R, z) Q := RB_aloadn rfl rfl
theorem w110_53N : RB d 110 53 [l0, l1, .null, l3, l4, l5] st (S, I, R, z) Q = RB d 110 54 [l0, l1, .null, l3, l4, l5] (.null :: st) (S, I, R, z) Q := RB_aloadnN rfl rfl
theorem w110_54 : RB d 110 54 [l0, l1, l2, l3, l4, l5] (.ref a :: st) (S, I, R, z) Q = ((S a).1 = 0 ∧ RB d 110 57 [l0, l1, l2, l3, l4, l5] (va_rf (R a 0) :: st) (S, I, R, z) Q) := RB_getR rfl rfl
theorem w110_57 : RB d 110 57 [l0, l1, l2, l3, .int x, l5] st (S, I, R, z) Q = RB d 110 59 [l0, l1, l2, l3, .int x, l5] (.int x :: st) (S, I, R, z) Q := RB_iload rfl rfl
theorem w110_59 : RB d 110 59 [l0, l1, l2, l3, l4, l5] (.int i :: .ref a :: st) (S, I, R, z) Q = (((S a).1 = 9 ∧ aIx i (S a).2) ∧ RB d 110 60 [l0, l1, l2, l3, l4, l5] (.int (I a i.toNatClampNeg) :: st) (S, I, R, z) Q) := RB_iald rfl
theorem w110_60 : RB d 110 60 [l0, l1, l2, l3, l4, l5] st (S, I, R, z) Q = RB d 110 61 [l0, l1, l2, l3, l4, l5] (.int 1 :: st) (S, I, R, z) Q := RB_iconst rfl ki1
theorem w110_61 : RB d 110 61 [l0, l1, l2, l3, l4, l5] st (S, I, R, z) Q = RB d 110 63 [l0, l1, l2, l3, l4, l5] (.int 99 :: st) (S, I, R, z) Q := RB_bipush rfl kb99
theorem w110_63 : RB d 110 63 [l0, l1, l2, l3, l4, l5] [.int x2, .int x1, .int x0] (S, I, R, z) Q = RM d 130 [.int x0, .int x1, .int x2] (S, I, R, z) (fun v τ => RB d 110 66 [l0, l1, l2, l3, l4, l5] (aPush v []) τ Q) := RB_callS (n := 3) (t := 1) (k := 279) (ins := .invokestatic 279) rfl rfl rfl (Nat.le_of_ble_eq_true rfl) (Nat.le_of_ble_eq_true rfl) rfl rfl
theorem w110_66 : RB d 110 66 [l0, l1, l2, l3, l4, l5] (.int x :: st) (S, I, R, z) Q = RB d 110 68 [l0, l1, l2, l3, l4, .int x] st (S, I, R, z) Q := RB_istore rfl (Nat.le_of_ble_eq_true rfl) rfl
theorem w110_68 : RB d 110 68 [l0, l1, l2, .int x, l4, l5] st (S, I, R, z) Q = RB d 110 69 [l0, l1, l2, .int x, l4, l5] (.int x :: st) (S, I, R, z) Q := RB_iloadn rfl rfl
theorem w110_69 : RB d 110 69 [l0, l1, l2, l3, l4, .int x] st (S, I, R, z) Q = RB d 110 71 [l0, l1, l2, l3, l4, .int x] (.int x :: st) (S, I, R, z) Q := RB_iload rfl rfl
theorem w110_71 : RB d 110 71 [.ref a, l1, l2, l3, l4, l5] st (S, I, R, z) Q = RB d 110 72 [.ref a, l1, l2, l3, l4, l5] (.ref a :: st) (S, I, R, z) Q := RB_aloadn rfl rfl
theorem w110_72 : RB d 110 72 [l0, l1, l2, l3, l4, l5] (.ref a :: st) (S, I, R, z) Q = ((S a).1 = 6 ∧ RB d 110 75 [l0, l1, l2, l3, l4, l5] (va_rf (R a 0) :: st) (S, I, R, z) Q) := RB_getR rfl rfl
theorem w110_75 : RB d 110 75 [l0, l1, l2, l3, l4, l5] (.ref a :: st) (S, I, R, z) Q = ((S a).1 = 2 ∧ RB d 110 78 [l0, l1, l2, l3, l4, l5] (va_rf (R a 1) :: st) (S, I, R, z) Q) := RB_getR rfl rfl
theorem w110_78 : RB d 110 78 [l0, l1, l2, l3, .int x, l5] st (S, I, R, z) Q = RB d 110 80 [l0, l1, l2, l3, .int x, l5] (.int x :: st) (S, I, R, z) Q := RB_iload rfl rfl
theorem w110_80 : RB d 110 80 [l0, l1, l2, l3, l4, l5] (.int i :: .ref a :: st) (S, I, R, z) Q = (((S a).1 = 9 ∧ aIx i (S a).2) ∧ RB d 110 81 [l0, l1, l2, l3, l4, l5] (.int (I a i.toNatClampNeg) :: st) (S, I, R, z) Q) := RB_iald rfl
theorem w110_81 : RB d 110 81 [l0, l1, l2, l3, l4, l5] (.int y :: .int x :: st) (S, I, R, z) Q = ((x = y → RB d 110 84 [l0, l1, l2, l3, l4, l5] st (S, I, R, z) Q) ∧ (¬ x = y → RB d 110 88 [l0, l1, l2, l3, l4, l5] st (S, I, R, z) Q)) := RB_ine rfl (by decide) rfl
theorem w110_84 : RB d 110 84 [l0, l1, l2, l3, l4, l5] st (S, I, R, z) Q = RB d 110 85 [l0, l1, l2, l3, l4, l5] (.int 0 :: st) (S, I, R, z) Q := RB_iconst rfl ki0
theorem w110_85 : RB d 110 85 [l0, l1, l2, l3, l4, l5] st (S, I, R, z) Q = RB d 110 89 [l0, l1, l2, l3, l4, l5] st (S, I, R, z) Q := RB_goto rfl (by decide) rfl
theorem w110_88 : RB d 110 88 [l0, l1, l2, l3, l4, l5] st (S, I, R, z) Q = RB d 110 89 [l0, l1, l2, l3, l4, l5] (.int 1 :: st) (S, I, R, z) Q := RB_iconst rfl ki1
theorem w110_89 : RB d 110 89 [l0, l1, l2, l3, l4, l5] (.int y :: .int x :: st) (S, I, R, z) Q = RB d 110 90 [l0, l1, l2, l3, l4, l5] (.int (x + y) :: st) (S, I, R, z) Q := RB_iadd rfl
theorem w110_90 : RB d 110 90 [l0, l1, l2, l3, l4, l5] (.int x :: st) (S, I, R, z) Q = RB d 110 91 [l0, l1, l2, .int x, l4, l5] st (S, I, R, z) Q := RB_istoren rfl (Nat.le_of_ble_eq_true rfl) rfl
theorem w110_91 : RB d 110 91 [.ref a, l1, l2, l3, l4, l5] st (S, I, R, z) Q = RB d 110 92 [.ref a, l1, l2, l3, l4, l5] (.ref a :: st) (S, I, R, z) Q := RB_aloadn rfl rfl
theorem w110_92 : RB d 110 92 [l0, l1, l2, l3, l4, l5] (.ref a :: st) (S, I, R, z) Q = ((S a).1 = 6 ∧ RB d 110 95 [l0, l1, l2, l3, l4, l5] (va_rf (R a 0) :: st) (S, I, R, z) Q) := RB_getR rfl rfl
theorem w110_95 : RB d 110 95 [l0, l1, l2, l3, l4, l5] (.ref a :: st) (S, I, R, z) Q = ((S a).1 = 2 ∧ RB d 110 98 [l0, l1, l2, l3, l4, l5] (va_rf (R a 1) :: st) (S, I, R, z) Q) := RB_getR rfl rfl
theorem w110_98 : RB d 110 98 [l0, l1, l2, l3, .int x, l5] st (S, I, R, z) Q = RB d 110 100 [l0, l1, l2, l3, .int x, l5] (.int x :: st) (S, I, R, z) Q := RB_iload rfl rfl
theorem w110_100 : RB d 110 100 [l0, l1, l2, l3, l4, .int x] st (S, I, R, z) Q = RB d 110 102 [l0, l1, l2, l3, l4, .int x] (.int x :: st) (S, I, R, z) Q := RB_iload rfl rfl
theorem w110_102 : RB d 110 102 [l0, l1, l2, l3, l4, l5] (.int x :: .int i :: .ref a :: st) (S, I, R, z) Q = (((S a).1 = 9 ∧ aIx i (S a).2 ∧ 16 ≤ a) ∧ RB d 110 103 [l0, l1, l2, l3, l4, l5] st (S, aW I a i.toNatClampNeg x, R, z) Q) := RB_iast rfl
theorem w110_103 : RB d 110 103 [l0, l1, l2, l3, .int x, l5] st (S, I, R, z) Q = RB d 110 106 [l0, l1, l2, l3, .int (x + 1), l5] st (S, I, R, z) Q := RB_iinc rfl rfl (Nat.le_of_ble_eq_true rfl) ki1 rfl
theorem w110_106 : RB d 110 106 [l0, l1, l2, l3, l4, l5] st (S, I, R, z) Q = RB d 110 32 [l0, l1, l2, l3, l4, l5] st (S, I, R, z) Q := RB_goto rfl (by decide) rfl
theorem w110_109 : RB d 110 109 [l0, l1, l2, .int x, l4, l5] st (S, I, R, z) Q = RB d 110 110 [l0, l1, l2, .int x, l4, l5] (.int x :: st) (S, I, R, z) Q := RB_iloadn rfl rfl
theorem w110_110 : RB d 110 110 [l0, l1, l2, l3, l4, l5] [.int x] (S, I, R, z) Q = Q (some (.int x)) (S, I, R, z) := RB_iret rfl rfl rfl
/-! 111: HangedWord.reads -/
theorem w111_0 : RB d 111 0 [l0, .int x, l2, l3, l4] st (S, I, R, z) Q = RB d 111 1 [l0, .int x, l2, l3, l4] (.int x :: st) (S, I, R, z) Q := RB_iloadn rfl rfl
theorem w111_1 : RB d 111 1 [l0, l1, l2, l3, l4] [.int x0] (S, I, R, z) Q = RM d 127 [.int x0] (S, I, R, z) (fun v τ => RB d 111 4 [l0, l1, l2, l3, l4] (aPush v []) τ Q) := RB_callS (n := 1) (t := 1) (k := 203) (ins := .invokestatic 203) rfl rfl rfl (Nat.le_of_ble_eq_true rfl) (Nat.le_of_ble_eq_true rfl) rfl rfl
theorem w111_4 : RB d 111 4 [l0, l1, l2, l3, l4] (.int x :: st) (S, I, R, z) Q = ((x = 0 → RB d 111 15 [l0, l1, l2, l3, l4] st (S, I, R, z) Q) ∧ (¬ x = 0 → RB d 111 7 [l0, l1, l2, l3, l4] st (S, I, R, z) Q)) := RB_eq0 rfl (by decide) rfl
theorem w111_7 : RB d 111 7 [.ref a, l1, l2, l3, l4] st (S, I, R, z) Q = RB d 111 8 [.ref a, l1, l2, l3, l4] (.ref a :: st) (S, I, R, z) Q := RB_aloadn rfl rfl
theorem w111_8 : RB d 111 8 [l0, l1, .int x, l3, l4] st (S, I, R, z) Q = RB d 111 9 [l0, l1, .int x, l3, l4] (.int x :: st) (S, I, R, z) Q := RB_iloadn rfl rfl
theorem w111_9 : RB d 111 9 [l0, l1, l2, l3, l4] [.int x0, .ref a] (S, I, R, z) Q = ((S a).1 = 6 ∧ RM d 123 [.ref a, .int x0] (S, I, R, z) (fun v τ => RB d 111 12 [l0, l1, l2, l3, l4] (aPush v []) τ Q)) := RB_callV (n := 2) (t := 0) (k := 97) (ins := .invokevirtual 97) rfl rfl rfl (by decide) (Nat.le_of_ble_eq_true rfl) (Nat.le_of_ble_eq_true rfl) rfl rfl
theorem w111_12 : RB d 111 12 [l0, l1, l2, l3, l4] (.int x :: st) (S, I, R, z) Q = ((x = 0 → RB d 111 15 [l0, l1, l2, l3, l4] st (S, I, R, z) Q) ∧ (¬ x = 0 → RB d 111 18 [l0, l1, l2, l3, l4] st (S, I, R, z) Q)) := RB_ne0 rfl (by decide) rfl
theorem w111_15 : RB d 111 15 [l0, l1, l2, l3, l4] st (S, I, R, z) Q = RB d 111 17 [l0, l1, l2, l3, l4] (.int (-1000000001) :: st) (S, I, R, z) Q := RB_ldc rfl rfl
theorem w111_17 : RB d 111 17 [l0, l1, l2, l3, l4] [.int x] (S, I, R, z) Q = Q (some (.int x)) (S, I, R, z) := RB_iret rfl rfl rfl
theorem w111_18 : RB d 111 18 [.ref a, l1, l2, l3, l4] st (S, I, R, z) Q = RB d 111 19 [.ref a, l1, l2, l3, l4] (.ref a :: st) (S, I, R, z) Q := RB_aloadn rfl rfl
theorem w111_19 : RB d 111 19 [l0, l1, l2, l3, l4] (.ref a :: st) (S, I, R, z) Q = ((S a).1 = 6 ∧ RB d 111 22 [l0, l1, l2, l3, l4] (va_rf (R a 4) :: st) (S, I, R, z) Q) := RB_getR rfl rfl
theorem w111_22 : RB d 111 22 [l0, .int x, l2, l3, l4] st (S, I, R, z) Q = RB d 111 23 [l0, .int x, l2, l3, l4] (.int x :: st) (S, I, R, z) Q := RB_iloadn rfl rfl
theorem w111_23 : RB d 111 23 [l0, l1, l2, l3, l4] (.int i :: .ref a :: st) (S, I, R, z) Q = (((11 ≤ (S a).1 ∧ (S a).1 ≤ 13) ∧ aIx i (S a).2) ∧ RB d 111 24 [l0, l1, l2, l3, l4] (va_rf (R a i.toNatClampNeg) :: st) (S, I, R, z) Q) := RB_aald rfl
theorem w111_24 : RB d 111 24 [l0, l1, l2, l3, l4] (.ref a :: st) (S, I, R, z) Q = RB d 111 25 [l0, l1, l2, .ref a, l4] st (S, I, R, z) Q := RB_astoren rfl (Nat.le_of_ble_eq_true rfl) rfl
theorem w111_24N : RB d 111 24 [l0, l1, l2, l3, l4] (.null :: st) (S, I, R, z) Q = RB d 111 25 [l0, l1, l2, .null, l4] st (S, I, R, z) Q := RB_astorenN rfl (Nat.le_of_ble_eq_true rfl) rfl
theorem w111_25 : RB d 111 25 [l0, l1, l2, .ref a, l4] st (S, I, R, z) Q = RB d 111 26 [l0, l1, l2, .ref a, l4] (.ref a :: st) (S, I, R, z) Q := RB_aloadn rfl rfl
theorem w111_25N : RB d 111 25 [l0, l1, l2, .null, l4] st (S, I, R, z) Q = RB d 111 26 [l0, l1, l2, .null, l4] (.null :: st) (S, I, R, z) Q := RB_aloadnN rfl rfl
theorem w111_26 : RB d 111 26 [l0, l1, l2, l3, l4] [.ref a] (S, I, R, z) Q = ((S a).1 = 0 ∧ RM d 1 [.ref a] (S, I, R, z) (fun v τ => RB d 111 29 [l0, l1, l2, l3, l4] (aPush v []) τ Q)) := RB_callV (n := 1) (t := 0) (k := 206) (ins := .invokevirtual 206) rfl rfl rfl (by decide) (Nat.le_of_ble_eq_true rfl) (Nat.le_of_ble_eq_true rfl) rfl rfl
theorem w111_29 : RB d 111 29 [l0, l1, l2, l3, l4] (.int x :: st) (S, I, R, z) Q = ((x = 0 → RB d 111 35 [l0, l1, l2, l3, l4] st (S, I, R, z) Q) ∧ (¬ x = 0 → RB d 111 32 [l0, l1, l2, l3, l4] st (S, I, R, z) Q)) := RB_eq0 rfl (by decide) rfl
theorem w111_32 : RB d 111 32 [l0, l1, l2, l3, l4] st (S, I, R, z) Q = RB d 111 34 [l0, l1, l2, l3, l4] (.int (-1000000011) :: st) (S, I, R, z) Q := RB_ldc rfl rfl
theorem w111_34 : RB d 111 34 [l0, l1, l2, l3, l4] [.int x] (S, I, R, z) Q = Q (some (.int x)) (S, I, R, z) := RB_iret rfl rfl rfl
theorem w111_35 : RB d 111 35 [l0, l1, l2, l3, l4] st (S, I, R, z) Q = RB d 111 36 [l0, l1, l2, l3, l4] (.int 0 :: st) (S, I, R, z) Q := RB_iconst rfl ki0
theorem w111_36 : RB d 111 36 [l0, l1, l2, l3, l4] (.int x :: st) (S, I, R, z) Q = RB d 111 38 [l0, l1, l2, l3, .int x] st (S, I, R, z) Q := RB_istore rfl (Nat.le_of_ble_eq_true rfl) rfl
theorem w111_38 : RB d 111 38 [l0, l1, l2, l3, .int x] st (S, I, R, z) Q = RB d 111 40 [l0, l1, l2, l3, .int x] (.int x :: st) (S, I, R, z) Q := RB_iload rfl rfl
theorem w111_40 : RB d 111 40 [l0, l1, l2, .ref a, l4] st (S, I, R, z) Q = RB d 111 41 [l0, l1, l2, .ref a, l4] (.ref a :: st) (S, I, R, z) Q := RB_aloadn rfl rfl
theorem w111_40N : RB d 111 40 [l0, l1, l2, .null, l4] st (S, I, R, z) Q = RB d 111 41 [l0, l1, l2, .null, l4] (.null :: st) (S, I, R, z) Q := RB_aloadnN rfl rfl
theorem w111_41 : RB d 111 41 [l0, l1, l2, l3, l4] (.ref a :: st) (S, I, R, z) Q = ((S a).1 = 0 ∧ RB d 111 44 [l0, l1, l2, l3, l4] (.int (I a 2) :: st) (S, I, R, z) Q) := RB_getI rfl rfl
theorem w111_44 : RB d 111 44 [l0, l1, l2, l3, l4] (.int y :: .int x :: st) (S, I, R, z) Q = ((y ≤ x → RB d 111 97 [l0, l1, l2, l3, l4] st (S, I, R, z) Q) ∧ (¬ y ≤ x → RB d 111 47 [l0, l1, l2, l3, l4] st (S, I, R, z) Q)) := RB_ige rfl (by decide) rfl
theorem w111_47 : RB d 111 47 [l0, l1, l2, .ref a, l4] st (S, I, R, z) Q = RB d 111 48 [l0, l1, l2, .ref a, l4] (.ref a :: st) (S, I, R, z) Q := RB_aloadn rfl rfl
theorem w111_47N : RB d 111 47 [l0, l1, l2, .null, l4] st (S, I, R, z) Q = RB d 111 48 [l0, l1, l2, .null, l4] (.null :: st) (S, I, R, z) Q := RB_aloadnN rfl rfl
theorem w111_48 : RB d 111 48 [l0, l1, l2, l3, .int x] st (S, I, R, z) Q = RB d 111 50 [l0, l1, l2, l3, .int x] (.int x :: st) (S, I, R, z) Q := RB_iload rfl rfl
theorem w111_50 : RB d 111 50 [l0, l1, l2, l3, l4] [.int x0, .ref a] (S, I, R, z) Q = ((S a).1 = 0 ∧ RM d 4 [.ref a, .int x0] (S, I, R, z) (fun v τ => RB d 111 53 [l0, l1, l2, l3, l4] (aPush v []) τ Q)) := RB_callV (n := 2) (t := 0) (k := 276) (ins := .invokevirtual 276) rfl rfl rfl (by decide) (Nat.le_of_ble_eq_true rfl) (Nat.le_of_ble_eq_true rfl) rfl rfl
theorem w111_53 : RB d 111 53 [l0, l1, l2, l3, l4] (.int x :: st) (S, I, R, z) Q = ((x = 0 → RB d 111 91 [l0, l1, l2, l3, l4] st (S, I, R, z) Q) ∧ (¬ x = 0 → RB d 111 56 [l0, l1, l2, l3, l4] st (S, I, R, z) Q)) := RB_eq0 rfl (by decide) rfl
theorem w111_56 : RB d 111 56 [l0, l1, l2, l3, .int x] st (S, I, R, z) Q = RB d 111 58 [l0, l1, l2, l3, .int x] (.int x :: st) (S, I, R, z) Q := RB_iload rfl rfl
theorem w111_58 : RB d 111 58 [.ref a, l1, l2, l3, l4] st (S, I, R, z) Q = RB d 111 59 [.ref a, l1, l2, l3, l4] (.ref a :: st) (S, I, R, z) Q := RB_aloadn rfl rfl
theorem w111_59 : RB d 111 59 [l0, l1, l2, l3, l4] (.ref a :: st) (S, I, R, z) Q = ((S a).1 = 6 ∧ RB d 111 62 [l0, l1, l2, l3, l4] (va_rf (R a 0) :: st) (S, I, R, z) Q) := RB_getR rfl rfl
theorem w111_62 : RB d 111 62 [l0, l1, l2, l3, l4] (.ref a :: st) (S, I, R, z) Q = ((S a).1 = 2 ∧ RB d 111 65 [l0, l1, l2, l3, l4] (.int (I a 3) :: st) (S, I, R, z) Q) := RB_getI rfl rfl
theorem w111_65 : RB d 111 65 [l0, l1, l2, l3, l4] (.int y :: .int x :: st) (S, I, R, z) Q = ((y ≤ x → RB d 111 88 [l0, l1, l2, l3, l4] st (S, I, R, z) Q) ∧ (¬ y ≤ x → RB d 111 68 [l0, l1, l2, l3, l4] st (S, I, R, z) Q)) := RB_ige rfl (by decide) rfl
theorem w111_68 : RB d 111 68 [l0, l1, l2, .ref a, l4] st (S, I, R, z) Q = RB d 111 69 [l0, l1, l2, .ref a, l4] (.ref a :: st) (S, I, R, z) Q := RB_aloadn rfl rfl
theorem w111_68N : RB d 111 68 [l0, l1, l2, .null, l4] st (S, I, R, z) Q = RB d 111 69 [l0, l1, l2, .null, l4] (.null :: st) (S, I, R, z) Q := RB_aloadnN rfl rfl
theorem w111_69 : RB d 111 69 [l0, l1, l2, l3, l4] (.ref a :: st) (S, I, R, z) Q = ((S a).1 = 0 ∧ RB d 111 72 [l0, l1, l2, l3, l4] (va_rf (R a 0) :: st) (S, I, R, z) Q) := RB_getR rfl rfl
theorem w111_72 : RB d 111 72 [l0, l1, l2, l3, .int x] st (S, I, R, z) Q = RB d 111 74 [l0, l1, l2, l3, .int x] (.int x :: st) (S, I, R, z) Q := RB_iload rfl rfl
theorem w111_74 : RB d 111 74 [l0, l1, l2, l3, l4] (.int i :: .ref a :: st) (S, I, R, z) Q = (((S a).1 = 9 ∧ aIx i (S a).2) ∧ RB d 111 75 [l0, l1, l2, l3, l4] (.int (I a i.toNatClampNeg) :: st) (S, I, R, z) Q) := RB_iald rfl
theorem w111_75 : RB d 111 75 [.ref a, l1, l2, l3, l4] st (S, I, R, z) Q = RB d 111 76 [.ref a, l1, l2, l3, l4] (.ref a :: st) (S, I, R, z) Q := RB_aloadn rfl rfl
theorem w111_76 : RB d 111 76 [l0, l1, l2, l3, l4] (.ref a :: st) (S, I, R, z) Q = ((S a).1 = 6 ∧ RB d 111 79 [l0, l1, l2, l3, l4] (va_rf (R a 0) :: st) (S, I, R, z) Q) := RB_getR rfl rfl
theorem w111_79 : RB d 111 79 [l0, l1, l2, l3, .int x] st (S, I, R, z) Q = RB d 111 81 [l0, l1, l2, l3, .int x] (.int x :: st) (S, I, R, z) Q := RB_iload rfl rfl
theorem w111_81 : RB d 111 81 [l0, l1, .int x, l3, l4] st (S, I, R, z) Q = RB d 111 82 [l0, l1, .int x, l3, l4] (.int x :: st) (S, I, R, z) Q := RB_iloadn rfl rfl
theorem w111_82 : RB d 111 82 [l0, l1, l2, l3, l4] [.int x1, .int x0, .ref a, s0] (S, I, R, z) Q = ((S a).1 = 2 ∧ RM d 40 [.ref a, .int x0, .int x1] (S, I, R, z) (fun v τ => RB d 111 85 [l0, l1, l2, l3, l4] (aPush v [s0]) τ Q)) := RB_callV (n := 3) (t := 0) (k := 180) (ins := .invokevirtual 180) rfl rfl rfl (by decide) (Nat.le_of_ble_eq_true rfl) (Nat.le_of_ble_eq_true rfl) rfl rfl
theorem w111_85 : RB d 111 85 [l0, l1, l2, l3, l4] (.int y :: .int x :: st) (S, I, R, z) Q = ((x = y → RB d 111 91 [l0, l1, l2, l3, l4] st (S, I, R, z) Q) ∧ (¬ x = y → RB d 111 88 [l0, l1, l2, l3, l4] st (S, I, R, z) Q)) := RB_ieq rfl (by decide) rfl
theorem w111_88 : RB d 111 88 [l0, l1, l2, l3, .int x] st (S, I, R, z) Q = RB d 111 90 [l0, l1, l2, l3, .int x] (.int x :: st) (S, I, R, z) Q := RB_iload rfl rfl
theorem w111_90 : RB d 111 90 [l0, l1, l2, l3, l4] [.int x] (S, I, R, z) Q = Q (some (.int x)) (S, I, R, z) := RB_iret rfl rfl rfl
theorem w111_91 : RB d 111 91 [l0, l1, l2, l3, .int x] st (S, I, R, z) Q = RB d 111 94 [l0, l1, l2, l3, .int (x + 1)] st (S, I, R, z) Q := RB_iinc rfl rfl (Nat.le_of_ble_eq_true rfl) ki1 rfl
theorem w111_94 : RB d 111 94 [l0, l1, l2, l3, l4] st (S, I, R, z) Q = RB d 111 38 [l0, l1, l2, l3, l4] st (S, I, R, z) Q := RB_goto rfl (by decide) rfl
theorem w111_97 : RB d 111 97 [l0, l1, l2, l3, l4] st (S, I, R, z) Q = RB d 111 99 [l0, l1, l2, l3, l4] (.int (-1000000005) :: st) (S, I, R, z) Q := RB_ldc rfl rfl
theorem w111_99 : RB d 111 99 [l0, l1, l2, l3, l4] [.int x] (S, I, R, z) Q = Q (some (.int x)) (S, I, R, z) := RB_iret rfl rfl rfl
/-! 112: HangedWord.copy -/
theorem w112_0 : RB d 112 0 [l0, .int x, l2, l3, l4, l5, l6, l7] st (S, I, R, z) Q = RB d 112 1 [l0, .int x, l2, l3, l4, l5, l6, l7] (.int x :: st) (S, I, R, z) Q := RB_iloadn rfl rfl
theorem w112_1 : RB d 112 1 [l0, l1, l2, l3, l4, l5, l6, l7] [.int x0] (S, I, R, z) Q = RM d 127 [.int x0] (S, I, R, z) (fun v τ => RB d 112 4 [l0, l1, l2, l3, l4, l5, l6, l7] (aPush v []) τ Q) := RB_callS (n := 1) (t := 1) (k := 203) (ins := .invokestatic 203) rfl rfl rfl (Nat.le_of_ble_eq_true rfl) (Nat.le_of_ble_eq_true rfl) rfl rfl
theorem w112_4 : RB d 112 4 [l0, l1, l2, l3, l4, l5, l6, l7] (.int x :: st) (S, I, R, z) Q = ((x = 0 → RB d 112 14 [l0, l1, l2, l3, l4, l5, l6, l7] st (S, I, R, z) Q) ∧ (¬ x = 0 → RB d 112 7 [l0, l1, l2, l3, l4, l5, l6, l7] st (S, I, R, z) Q)) := RB_eq0 rfl (by decide) rfl
theorem w112_7 : RB d 112 7 [l0, l1, l2, .int x, l4, l5, l6, l7] st (S, I, R, z) Q = RB d 112 8 [l0, l1, l2, .int x, l4, l5, l6, l7] (.int x :: st) (S, I, R, z) Q := RB_iloadn rfl rfl
theorem w112_8 : RB d 112 8 [l0, l1, l2, l3, l4, l5, l6, l7] [.int x0] (S, I, R, z) Q = RM d 127 [.int x0] (S, I, R, z) (fun v τ => RB d 112 11 [l0, l1, l2, l3, l4, l5, l6, l7] (aPush v []) τ Q) := RB_callS (n := 1) (t := 1) (k := 203) (ins := .invokestatic 203) rfl rfl rfl (Nat.le_of_ble_eq_true rfl) (Nat.le_of_ble_eq_true rfl) rfl rfl
theorem w112_11 : RB d 112 11 [l0, l1, l2, l3, l4, l5, l6, l7] (.int x :: st) (S, I, R, z) Q = ((x = 0 → RB d 112 14 [l0, l1, l2, l3, l4, l5, l6, l7] st (S, I, R, z) Q) ∧ (¬ x = 0 → RB d 112 17 [l0, l1, l2, l3, l4, l5, l6, l7] st (S, I, R, z) Q)) := RB_ne0 rfl (by decide) rfl
theorem w112_14 : RB d 112 14 [l0, l1, l2, l3, l4, l5, l6, l7] st (S, I, R, z) Q = RB d 112 16 [l0, l1, l2, l3, l4, l5, l6, l7] (.int (-1000000001) :: st) (S, I, R, z) Q := RB_ldc rfl rfl
theorem w112_16 : RB d 112 16 [l0, l1, l2, l3, l4, l5, l6, l7] [.int x] (S, I, R, z) Q = Q (some (.int x)) (S, I, R, z) := RB_iret rfl rfl rfl
theorem w112_17 : RB d 112 17 [.ref a, l1, l2, l3, l4, l5, l6, l7] st (S, I, R, z) Q = RB d 112 18 [.ref a, l1, l2, l3, l4, l5, l6, l7] (.ref a :: st) (S, I, R, z) Q := RB_aloadn rfl rfl
theorem w112_18 : RB d 112 18 [l0, l1, l2, l3, l4, l5, l6, l7] (.ref a :: st) (S, I, R, z) Q = ((S a).1 = 6 ∧ RB d 112 21 [l0, l1, l2, l3, l4, l5, l6, l7] (va_rf (R a 4) :: st) (S, I, R, z) Q) := RB_getR rfl rfl
theorem w112_21 : RB d 112 21 [l0, .int x, l2, l3, l4, l5, l6, l7] st (S, I, R, z) Q = RB d 112 22 [l0, .int x, l2, l3, l4, l5, l6, l7] (.int x :: st) (S, I, R, z) Q := RB_iloadn rfl rfl
theorem w112_22 : RB d 112 22 [l0, l1, l2, l3, l4, l5, l6, l7] (.int i :: .ref a :: st) (S, I, R, z) Q = (((11 ≤ (S a).1 ∧ (S a).1 ≤ 13) ∧ aIx i (S a).2) ∧ RB d 112 23 [l0, l1, l2, l3, l4, l5, l6, l7] (va_rf (R a i.toNatClampNeg) :: st) (S, I, R, z) Q) := RB_aald rfl
theorem w112_23 : RB d 112 23 [l0, l1, l2, l3, l4, l5, l6, l7] (.ref a :: st) (S, I, R, z) Q = RB d 112 25 [l0, l1, l2, l3, l4, l5, .ref a, l7] st (S, I, R, z) Q := RB_astore rfl (Nat.le_of_ble_eq_true rfl) rfl
theorem w112_23N : RB d 112 23 [l0, l1, l2, l3, l4, l5, l6, l7] (.null :: st) (S, I, R, z) Q = RB d 112 25 [l0, l1, l2, l3, l4, l5, .null, l7] st (S, I, R, z) Q := RB_astoreN rfl (Nat.le_of_ble_eq_true rfl) rfl
theorem w112_25 : RB d 112 25 [.ref a, l1, l2, l3, l4, l5, l6, l7] st (S, I, R, z) Q = RB d 112 26 [.ref a, l1, l2, l3, l4, l5, l6, l7] (.ref a :: st) (S, I, R, z) Q := RB_aloadn rfl rfl
theorem w112_26 : RB d 112 26 [l0, l1, l2, l3, l4, l5, l6, l7] (.ref a :: st) (S, I, R, z) Q = ((S a).1 = 6 ∧ RB d 112 29 [l0, l1, l2, l3, l4, l5, l6, l7] (va_rf (R a 4) :: st) (S, I, R, z) Q) := RB_getR rfl rfl
theorem w112_29 : RB d 112 29 [l0, l1, l2, .int x, l4, l5, l6, l7] st (S, I, R, z) Q = RB d 112 30 [l0, l1, l2, .int x, l4, l5, l6, l7] (.int x :: st) (S, I, R, z) Q := RB_iloadn rfl rfl
theorem w112_30 : RB d 112 30 [l0, l1, l2, l3, l4, l5, l6, l7] (.int i :: .ref a :: st) (S, I, R, z) Q = (((11 ≤ (S a).1 ∧ (S a).1 ≤ 13) ∧ aIx i (S a).2) ∧ RB d 112 31 [l0, l1, l2, l3, l4, l5, l6, l7] (va_rf (R a i.toNatClampNeg) :: st) (S, I, R, z) Q) := RB_aald rfl
theorem w112_31 : RB d 112 31 [l0, l1, l2, l3, l4, l5, l6, l7] (.ref a :: st) (S, I, R, z) Q = RB d 112 33 [l0, l1, l2, l3, l4, l5, l6, .ref a] st (S, I, R, z) Q := RB_astore rfl (Nat.le_of_ble_eq_true rfl) rfl
theorem w112_31N : RB d 112 31 [l0, l1, l2, l3, l4, l5, l6, l7] (.null :: st) (S, I, R, z) Q = RB d 112 33 [l0, l1, l2, l3, l4, l5, l6, .null] st (S, I, R, z) Q := RB_astoreN rfl (Nat.le_of_ble_eq_true rfl) rfl
theorem w112_33 : RB d 112 33 [l0, l1, l2, l3, l4, l5, .ref a, l7] st (S, I, R, z) Q = RB d 112 35 [l0, l1, l2, l3, l4, l5, .ref a, l7] (.ref a :: st) (S, I, R, z) Q := RB_aload rfl rfl
theorem w112_33N : RB d 112 33 [l0, l1, l2, l3, l4, l5, .null, l7] st (S, I, R, z) Q = RB d 112 35 [l0, l1, l2, l3, l4, l5, .null, l7] (.null :: st) (S, I, R, z) Q := RB_aloadN rfl rfl
theorem w112_35 : RB d 112 35 [l0, l1, l2, l3, l4, l5, l6, l7] [.ref a] (S, I, R, z) Q = ((S a).1 = 0 ∧ RM d 1 [.ref a] (S, I, R, z) (fun v τ => RB d 112 38 [l0, l1, l2, l3, l4, l5, l6, l7] (aPush v []) τ Q)) := RB_callV (n := 1) (t := 0) (k := 206) (ins := .invokevirtual 206) rfl rfl rfl (by decide) (Nat.le_of_ble_eq_true rfl) (Nat.le_of_ble_eq_true rfl) rfl rfl
theorem w112_38 : RB d 112 38 [l0, l1, l2, l3, l4, l5, l6, l7] (.int x :: st) (S, I, R, z) Q = ((x = 0 → RB d 112 41 [l0, l1, l2, l3, l4, l5, l6, l7] st (S, I, R, z) Q) ∧ (¬ x = 0 → RB d 112 49 [l0, l1, l2, l3, l4, l5, l6, l7] st (S, I, R, z) Q)) := RB_ne0 rfl (by decide) rfl
theorem w112_41 : RB d 112 41 [l0, l1, l2, l3, l4, l5, l6, .ref a] st (S, I, R, z) Q = RB d 112 43 [l0, l1, l2, l3, l4, l5, l6, .ref a] (.ref a :: st) (S, I, R, z) Q := RB_aload rfl rfl
theorem w112_41N : RB d 112 41 [l0, l1, l2, l3, l4, l5, l6, .null] st (S, I, R, z) Q = RB d 112 43 [l0, l1, l2, l3, l4, l5, l6, .null] (.null :: st) (S, I, R, z) Q := RB_aloadN rfl rfl
theorem w112_43 : RB d 112 43 [l0, l1, l2, l3, l4, l5, l6, l7] [.ref a] (S, I, R, z) Q = ((S a).1 = 0 ∧ RM d 1 [.ref a] (S, I, R, z) (fun v τ => RB d 112 46 [l0, l1, l2, l3, l4, l5, l6, l7] (aPush v []) τ Q)) := RB_callV (n := 1) (t := 0) (k := 206) (ins := .invokevirtual 206) rfl rfl rfl (by decide) (Nat.le_of_ble_eq_true rfl) (Nat.le_of_ble_eq_true rfl) rfl rfl
theorem w112_46 : RB d 112 46 [l0, l1, l2, l3, l4, l5, l6, l7] (.int x :: st) (S, I, R, z) Q = ((x = 0 → RB d 112 52 [l0, l1, l2, l3, l4, l5, l6, l7] st (S, I, R, z) Q) ∧ (¬ x = 0 → RB d 112 49 [l0, l1, l2, l3, l4, l5, l6, l7] st (S, I, R, z) Q)) := RB_eq0 rfl (by decide) rfl
theorem w112_49 : RB d 112 49 [l0, l1, l2, l3, l4, l5, l6, l7] st (S, I, R, z) Q = RB d 112 51 [l0, l1, l2, l3, l4, l5, l6, l7] (.int (-1000000011) :: st) (S, I, R, z) Q := RB_ldc rfl rfl
theorem w112_51 : RB d 112 51 [l0, l1, l2, l3, l4, l5, l6, l7] [.int x] (S, I, R, z) Q = Q (some (.int x)) (S, I, R, z) := RB_iret rfl rfl rfl
theorem w112_52 : RB d 112 52 [l0, l1, l2, l3, l4, l5, .ref a, l7] st (S, I, R, z) Q = RB d 112 54 [l0, l1, l2, l3, l4, l5, .ref a, l7] (.ref a :: st) (S, I, R, z) Q := RB_aload rfl rfl
theorem w112_52N : RB d 112 52 [l0, l1, l2, l3, l4, l5, .null, l7] st (S, I, R, z) Q = RB d 112 54 [l0, l1, l2, l3, l4, l5, .null, l7] (.null :: st) (S, I, R, z) Q := RB_aloadN rfl rfl
theorem w112_54 : RB d 112 54 [l0, l1, l2, l3, l4, l5, l6, l7] (.ref a :: st) (S, I, R, z) Q = ((S a).1 = 0 ∧ RB d 112 57 [l0, l1, l2, l3, l4, l5, l6, l7] (.int (I a 1) :: st) (S, I, R, z) Q) := RB_getI rfl rfl
theorem w112_57 : RB d 112 57 [l0, l1, l2, l3, l4, l5, l6, .ref a] st (S, I, R, z) Q = RB d 112 59 [l0, l1, l2, l3, l4, l5, l6, .ref a] (.ref a :: st) (S, I, R, z) Q := RB_aload rfl rfl
theorem w112_57N : RB d 112 57 [l0, l1, l2, l3, l4, l5, l6, .null] st (S, I, R, z) Q = RB d 112 59 [l0, l1, l2, l3, l4, l5, l6, .null] (.null :: st) (S, I, R, z) Q := RB_aloadN rfl rfl
theorem w112_59 : RB d 112 59 [l0, l1, l2, l3, l4, l5, l6, l7] (.ref a :: st) (S, I, R, z) Q = ((S a).1 = 0 ∧ RB d 112 62 [l0, l1, l2, l3, l4, l5, l6, l7] (.int (I a 1) :: st) (S, I, R, z) Q) := RB_getI rfl rfl
theorem w112_62 : RB d 112 62 [l0, l1, l2, l3, l4, l5, l6, l7] (.int y :: .int x :: st) (S, I, R, z) Q = ((x = y → RB d 112 68 [l0, l1, l2, l3, l4, l5, l6, l7] st (S, I, R, z) Q) ∧ (¬ x = y → RB d 112 65 [l0, l1, l2, l3, l4, l5, l6, l7] st (S, I, R, z) Q)) := RB_ieq rfl (by decide) rfl
theorem w112_65 : RB d 112 65 [l0, l1, l2, l3, l4, l5, l6, l7] st (S, I, R, z) Q = RB d 112 67 [l0, l1, l2, l3, l4, l5, l6, l7] (.int (-1000000012) :: st) (S, I, R, z) Q := RB_ldc rfl rfl
theorem w112_67 : RB d 112 67 [l0, l1, l2, l3, l4, l5, l6, l7] [.int x] (S, I, R, z) Q = Q (some (.int x)) (S, I, R, z) := RB_iret rfl rfl rfl
theorem w112_68 : RB d 112 68 [l0, l1, l2, l3, l4, l5, .ref a, l7] st (S, I, R, z) Q = RB d 112 70 [l0, l1, l2, l3, l4, l5, .ref a, l7] (.ref a :: st) (S, I, R, z) Q := RB_aload rfl rfl
theorem w112_68N : RB d 112 68 [l0, l1, l2, l3, l4, l5, .null, l7] st (S, I, R, z) Q = RB d 112 70 [l0, l1, l2, l3, l4, l5, .null, l7] (.null :: st) (S, I, R, z) Q := RB_aloadN rfl rfl
theorem w112_70 : RB d 112 70 [l0, l1, .int x, l3, l4, l5, l6, l7] st (S, I, R, z) Q = RB d 112 71 [l0, l1, .int x, l3, l4, l5, l6, l7] (.int x :: st) (S, I, R, z) Q := RB_iloadn rfl rfl
theorem w112_71 : RB d 112 71 [l0, l1, l2, l3, l4, .int x, l6, l7] st (S, I, R, z) Q = RB d 112 73 [l0, l1, l2, l3, l4, .int x, l6, l7] (.int x :: st) (S, I, R, z) Q := RB_iload rfl rfl
theorem w112_73 : RB d 112 73 [l0, l1, l2, l3, l4, l5, l6, l7] [.int x1, .int x0, .ref a] (S, I, R, z) Q = ((S a).1 = 0 ∧ RM d 3 [.ref a, .int x0, .int x1] (S, I, R, z) (fun v τ => RB d 112 76 [l0, l1, l2, l3, l4, l5, l6, l7] (aPush v []) τ Q)) := RB_callV (n := 3) (t := 0) (k := 283) (ins := .invokevirtual 283) rfl rfl rfl (by decide) (Nat.le_of_ble_eq_true rfl) (Nat.le_of_ble_eq_true rfl) rfl rfl
theorem w112_76 : RB d 112 76 [l0, l1, l2, l3, l4, l5, l6, l7] (.int x :: st) (S, I, R, z) Q = ((x = 0 → RB d 112 91 [l0, l1, l2, l3, l4, l5, l6, l7] st (S, I, R, z) Q) ∧ (¬ x = 0 → RB d 112 79 [l0, l1, l2, l3, l4, l5, l6, l7] st (S, I, R, z) Q)) := RB_eq0 rfl (by decide) rfl
theorem w112_79 : RB d 112 79 [l0, l1, l2, l3, l4, l5, l6, .ref a] st (S, I, R, z) Q = RB d 112 81 [l0, l1, l2, l3, l4, l5, l6, .ref a] (.ref a :: st) (S, I, R, z) Q := RB_aload rfl rfl
theorem w112_79N : RB d 112 79 [l0, l1, l2, l3, l4, l5, l6, .null] st (S, I, R, z) Q = RB d 112 81 [l0, l1, l2, l3, l4, l5, l6, .null] (.null :: st) (S, I, R, z) Q := RB_aloadN rfl rfl
theorem w112_81 : RB d 112 81 [l0, l1, l2, l3, .int x, l5, l6, l7] st (S, I, R, z) Q = RB d 112 83 [l0, l1, l2, l3, .int x, l5, l6, l7] (.int x :: st) (S, I, R, z) Q := RB_iload rfl rfl
theorem w112_83 : RB d 112 83 [l0, l1, l2, l3, l4, .int x, l6, l7] st (S, I, R, z) Q = RB d 112 85 [l0, l1, l2, l3, l4, .int x, l6, l7] (.int x :: st) (S, I, R, z) Q := RB_iload rfl rfl
theorem w112_85 : RB d 112 85 [l0, l1, l2, l3, l4, l5, l6, l7] [.int x1, .int x0, .ref a] (S, I, R, z) Q = ((S a).1 = 0 ∧ RM d 3 [.ref a, .int x0, .int x1] (S, I, R, z) (fun v τ => RB d 112 88 [l0, l1, l2, l3, l4, l5, l6, l7] (aPush v []) τ Q)) := RB_callV (n := 3) (t := 0) (k := 283) (ins := .invokevirtual 283) rfl rfl rfl (by decide) (Nat.le_of_ble_eq_true rfl) (Nat.le_of_ble_eq_true rfl) rfl rfl
theorem w112_88 : RB d 112 88 [l0, l1, l2, l3, l4, l5, l6, l7] (.int x :: st) (S, I, R, z) Q = ((x = 0 → RB d 112 91 [l0, l1, l2, l3, l4, l5, l6, l7] st (S, I, R, z) Q) ∧ (¬ x = 0 → RB d 112 95 [l0, l1, l2, l3, l4, l5, l6, l7] st (S, I, R, z) Q)) := RB_ne0 rfl (by decide) rfl
theorem w112_91 : RB d 112 91 [l0, l1, l2, l3, l4, l5, l6, l7] st (S, I, R, z) Q = RB d 112 94 [l0, l1, l2, l3, l4, l5, l6, l7] (.int (-1000000013) :: st) (S, I, R, z) Q := RB_ldcw rfl rfl
theorem w112_94 : RB d 112 94 [l0, l1, l2, l3, l4, l5, l6, l7] [.int x] (S, I, R, z) Q = Q (some (.int x)) (S, I, R, z) := RB_iret rfl rfl rfl
theorem w112_95 : RB d 112 95 [l0, l1, l2, l3, l4, l5, .ref a, l7] st (S, I, R, z) Q = RB d 112 97 [l0, l1, l2, l3, l4, l5, .ref a, l7] (.ref a :: st) (S, I, R, z) Q := RB_aload rfl rfl
theorem w112_95N : RB d 112 95 [l0, l1, l2, l3, l4, l5, .null, l7] st (S, I, R, z) Q = RB d 112 97 [l0, l1, l2, l3, l4, l5, .null, l7] (.null :: st) (S, I, R, z) Q := RB_aloadN rfl rfl
theorem w112_97 : RB d 112 97 [l0, l1, l2, l3, l4, l5, l6, l7] (.ref a :: st) (S, I, R, z) Q = ((S a).1 = 0 ∧ RB d 112 100 [l0, l1, l2, l3, l4, l5, l6, l7] (va_rf (R a 0) :: st) (S, I, R, z) Q) := RB_getR rfl rfl
theorem w112_100 : RB d 112 100 [l0, l1, .int x, l3, l4, l5, l6, l7] st (S, I, R, z) Q = RB d 112 101 [l0, l1, .int x, l3, l4, l5, l6, l7] (.int x :: st) (S, I, R, z) Q := RB_iloadn rfl rfl
theorem w112_101 : RB d 112 101 [l0, l1, l2, l3, l4, l5, l6, .ref a] st (S, I, R, z) Q = RB d 112 103 [l0, l1, l2, l3, l4, l5, l6, .ref a] (.ref a :: st) (S, I, R, z) Q := RB_aload rfl rfl
theorem w112_101N : RB d 112 101 [l0, l1, l2, l3, l4, l5, l6, .null] st (S, I, R, z) Q = RB d 112 103 [l0, l1, l2, l3, l4, l5, l6, .null] (.null :: st) (S, I, R, z) Q := RB_aloadN rfl rfl
theorem w112_103 : RB d 112 103 [l0, l1, l2, l3, l4, l5, l6, l7] (.ref a :: st) (S, I, R, z) Q = ((S a).1 = 0 ∧ RB d 112 106 [l0, l1, l2, l3, l4, l5, l6, l7] (va_rf (R a 0) :: st) (S, I, R, z) Q) := RB_getR rfl rfl
theorem w112_106 : RB d 112 106 [l0, l1, l2, l3, .int x, l5, l6, l7] st (S, I, R, z) Q = RB d 112 108 [l0, l1, l2, l3, .int x, l5, l6, l7] (.int x :: st) (S, I, R, z) Q := RB_iload rfl rfl
theorem w112_108 : RB d 112 108 [l0, l1, l2, l3, l4, .int x, l6, l7] st (S, I, R, z) Q = RB d 112 110 [l0, l1, l2, l3, l4, .int x, l6, l7] (.int x :: st) (S, I, R, z) Q := RB_iload rfl rfl
theorem w112_110 : RB d 112 110 [l0, l1, l2, l3, l4, l5, l6, l7] [.int x4, .int x3, v2, .int x1, v0] (S, I, R, z) Q = RM d 1001 [v0, .int x1, v2, .int x3, .int x4] (S, I, R, z) (fun v τ => RB d 112 113 [l0, l1, l2, l3, l4, l5, l6, l7] (aPush v []) τ Q) := RB_callS (n := 5) (t := 1) (k := 286) (ins := .invokestatic 286) rfl rfl rfl (Nat.le_of_ble_eq_true rfl) (Nat.le_of_ble_eq_true rfl) rfl rfl
theorem w112_113 : RB d 112 113 [l0, l1, l2, l3, l4, .int x, l6, l7] st (S, I, R, z) Q = RB d 112 115 [l0, l1, l2, l3, l4, .int x, l6, l7] (.int x :: st) (S, I, R, z) Q := RB_iload rfl rfl
theorem w112_115 : RB d 112 115 [l0, l1, l2, l3, l4, l5, l6, l7] [.int x] (S, I, R, z) Q = Q (some (.int x)) (S, I, R, z) := RB_iret rfl rfl rfl
/-! 113: HangedWord.lay -/
theorem w113_0 : RB d 113 0 [l0, .int x, l2, l3, l4, l5] st (S, I, R, z) Q = RB d 113 1 [l0, .int x, l2, l3, l4, l5] (.int x :: st) (S, I, R, z) Q := RB_iloadn rfl rfl
theorem w113_1 : RB d 113 1 [l0, l1, l2, l3, l4, l5] [.int x0] (S, I, R, z) Q = RM d 128 [.int x0] (S, I, R, z) (fun v τ => RB d 113 4 [l0, l1, l2, l3, l4, l5] (aPush v []) τ Q) := RB_callS (n := 1) (t := 1) (k := 292) (ins := .invokestatic 292) rfl rfl rfl (Nat.le_of_ble_eq_true rfl) (Nat.le_of_ble_eq_true rfl) rfl rfl
theorem w113_4 : RB d 113 4 [l0, l1, l2, l3, l4, l5] (.int x :: st) (S, I, R, z) Q = ((x = 0 → RB d 113 16 [l0, l1, l2, l3, l4, l5] st (S, I, R, z) Q) ∧ (¬ x = 0 → RB d 113 7 [l0, l1, l2, l3, l4, l5] st (S, I, R, z) Q)) := RB_eq0 rfl (by decide) rfl
theorem w113_7 : RB d 113 7 [l0, l1, .int x, l3, l4, l5] st (S, I, R, z) Q = RB d 113 8 [l0, l1, .int x, l3, l4, l5] (.int x :: st) (S, I, R, z) Q := RB_iloadn rfl rfl
theorem w113_8 : RB d 113 8 [l0, l1, l2, l3, l4, l5] (.int x :: st) (S, I, R, z) Q = ((x < 0 → RB d 113 16 [l0, l1, l2, l3, l4, l5] st (S, I, R, z) Q) ∧ (¬ x < 0 → RB d 113 11 [l0, l1, l2, l3, l4, l5] st (S, I, R, z) Q)) := RB_lt0 rfl (by decide) rfl
theorem w113_11 : RB d 113 11 [l0, l1, .int x, l3, l4, l5] st (S, I, R, z) Q = RB d 113 12 [l0, l1, .int x, l3, l4, l5] (.int x :: st) (S, I, R, z) Q := RB_iloadn rfl rfl
theorem w113_12 : RB d 113 12 [l0, l1, l2, l3, l4, l5] st (S, I, R, z) Q = RB d 113 13 [l0, l1, l2, l3, l4, l5] (.int 3 :: st) (S, I, R, z) Q := RB_iconst rfl ki3
theorem w113_13 : RB d 113 13 [l0, l1, l2, l3, l4, l5] (.int y :: .int x :: st) (S, I, R, z) Q = ((x ≤ y → RB d 113 19 [l0, l1, l2, l3, l4, l5] st (S, I, R, z) Q) ∧ (¬ x ≤ y → RB d 113 16 [l0, l1, l2, l3, l4, l5] st (S, I, R, z) Q)) := RB_ile rfl (by decide) rfl
theorem w113_16 : RB d 113 16 [l0, l1, l2, l3, l4, l5] st (S, I, R, z) Q = RB d 113 18 [l0, l1, l2, l3, l4, l5] (.int (-1000000001) :: st) (S, I, R, z) Q := RB_ldc rfl rfl
theorem w113_18 : RB d 113 18 [l0, l1, l2, l3, l4, l5] [.int x] (S, I, R, z) Q = Q (some (.int x)) (S, I, R, z) := RB_iret rfl rfl rfl
theorem w113_19 : RB d 113 19 [l0, l1, .int x, l3, l4, l5] st (S, I, R, z) Q = RB d 113 20 [l0, l1, .int x, l3, l4, l5] (.int x :: st) (S, I, R, z) Q := RB_iloadn rfl rfl
theorem w113_20 : RB d 113 20 [l0, l1, l2, l3, l4, l5] st (S, I, R, z) Q = RB d 113 21 [l0, l1, l2, l3, l4, l5] (.int 1 :: st) (S, I, R, z) Q := RB_iconst rfl ki1
theorem w113_21 : RB d 113 21 [l0, l1, l2, l3, l4, l5] (.int y :: .int x :: st) (S, I, R, z) Q = ((x = y → RB d 113 24 [l0, l1, l2, l3, l4, l5] st (S, I, R, z) Q) ∧ (¬ x = y → RB d 113 32 [l0, l1, l2, l3, l4, l5] st (S, I, R, z) Q)) := RB_ine rfl (by decide) rfl
theorem w113_24 : RB d 113 24 [.ref a, l1, l2, l3, l4, l5] st (S, I, R, z) Q = RB d 113 25 [.ref a, l1, l2, l3, l4, l5] (.ref a :: st) (S, I, R, z) Q := RB_aloadn rfl rfl
theorem w113_25 : RB d 113 25 [l0, l1, l2, .int x, l4, l5] st (S, I, R, z) Q = RB d 113 26 [l0, l1, l2, .int x, l4, l5] (.int x :: st) (S, I, R, z) Q := RB_iloadn rfl rfl
theorem w113_26 : RB d 113 26 [l0, l1, l2, l3, l4, l5] [.int x0, .ref a] (S, I, R, z) Q = ((S a).1 = 6 ∧ RM d 123 [.ref a, .int x0] (S, I, R, z) (fun v τ => RB d 113 29 [l0, l1, l2, l3, l4, l5] (aPush v []) τ Q)) := RB_callV (n := 2) (t := 0) (k := 97) (ins := .invokevirtual 97) rfl rfl rfl (by decide) (Nat.le_of_ble_eq_true rfl) (Nat.le_of_ble_eq_true rfl) rfl rfl
theorem w113_29 : RB d 113 29 [l0, l1, l2, l3, l4, l5] (.int x :: st) (S, I, R, z) Q = ((x = 0 → RB d 113 44 [l0, l1, l2, l3, l4, l5] st (S, I, R, z) Q) ∧ (¬ x = 0 → RB d 113 32 [l0, l1, l2, l3, l4, l5] st (S, I, R, z) Q)) := RB_eq0 rfl (by decide) rfl
theorem w113_32 : RB d 113 32 [l0, l1, .int x, l3, l4, l5] st (S, I, R, z) Q = RB d 113 33 [l0, l1, .int x, l3, l4, l5] (.int x :: st) (S, I, R, z) Q := RB_iloadn rfl rfl
theorem w113_33 : RB d 113 33 [l0, l1, l2, l3, l4, l5] st (S, I, R, z) Q = RB d 113 34 [l0, l1, l2, l3, l4, l5] (.int 2 :: st) (S, I, R, z) Q := RB_iconst rfl ki2
theorem w113_34 : RB d 113 34 [l0, l1, l2, l3, l4, l5] (.int y :: .int x :: st) (S, I, R, z) Q = ((x = y → RB d 113 37 [l0, l1, l2, l3, l4, l5] st (S, I, R, z) Q) ∧ (¬ x = y → RB d 113 47 [l0, l1, l2, l3, l4, l5] st (S, I, R, z) Q)) := RB_ine rfl (by decide) rfl
theorem w113_37 : RB d 113 37 [l0, l1, l2, .int x, l4, l5] st (S, I, R, z) Q = RB d 113 38 [l0, l1, l2, .int x, l4, l5] (.int x :: st) (S, I, R, z) Q := RB_iloadn rfl rfl
theorem w113_38 : RB d 113 38 [l0, l1, l2, l3, l4, l5] [.int x0] (S, I, R, z) Q = RM d 127 [.int x0] (S, I, R, z) (fun v τ => RB d 113 41 [l0, l1, l2, l3, l4, l5] (aPush v []) τ Q) := RB_callS (n := 1) (t := 1) (k := 203) (ins := .invokestatic 203) rfl rfl rfl (Nat.le_of_ble_eq_true rfl) (Nat.le_of_ble_eq_true rfl) rfl rfl
theorem w113_41 : RB d 113 41 [l0, l1, l2, l3, l4, l5] (.int x :: st) (S, I, R, z) Q = ((x = 0 → RB d 113 44 [l0, l1, l2, l3, l4, l5] st (S, I, R, z) Q) ∧ (¬ x = 0 → RB d 113 47 [l0, l1, l2, l3, l4, l5] st (S, I, R, z) Q)) := RB_ne0 rfl (by decide) rfl
theorem w113_44 : RB d 113 44 [l0, l1, l2, l3, l4, l5] st (S, I, R, z) Q = RB d 113 46 [l0, l1, l2, l3, l4, l5] (.int (-1000000001) :: st) (S, I, R, z) Q := RB_ldc rfl rfl
theorem w113_46 : RB d 113 46 [l0, l1, l2, l3, l4, l5] [.int x] (S, I, R, z) Q = Q (some (.int x)) (S, I, R, z) := RB_iret rfl rfl rfl
theorem w113_47 : RB d 113 47 [l0, l1, .int x, l3, l4, l5] st (S, I, R, z) Q = RB d 113 48 [l0, l1, .int x, l3, l4, l5] (.int x :: st) (S, I, R, z) Q := RB_iloadn rfl rfl
theorem w113_48 : RB d 113 48 [l0, l1, l2, l3, l4, l5] st (S, I, R, z) Q = RB d 113 49 [l0, l1, l2, l3, l4, l5] (.int 2 :: st) (S, I, R, z) Q := RB_iconst rfl ki2
theorem w113_49 : RB d 113 49 [l0, l1, l2, l3, l4, l5] (.int y :: .int x :: st) (S, I, R, z) Q = ((x = y → RB d 113 52 [l0, l1, l2, l3, l4, l5] st (S, I, R, z) Q) ∧ (¬ x = y → RB d 113 67 [l0, l1, l2, l3, l4, l5] st (S, I, R, z) Q)) := RB_ine rfl (by decide) rfl
theorem w113_52 : RB d 113 52 [.ref a, l1, l2, l3, l4, l5] st (S, I, R, z) Q = RB d 113 53 [.ref a, l1, l2, l3, l4, l5] (.ref a :: st) (S, I, R, z) Q := RB_aloadn rfl rfl
theorem w113_53 : RB d 113 53 [l0, l1, l2, l3, l4, l5] (.ref a :: st) (S, I, R, z) Q = ((S a).1 = 6 ∧ RB d 113 56 [l0, l1, l2, l3, l4, l5] (va_rf (R a 4) :: st) (S, I, R, z) Q) := RB_getR rfl rfl
theorem w113_56 : RB d 113 56 [l0, l1, l2, .int x, l4, l5] st (S, I, R, z) Q = RB d 113 57 [l0, l1, l2, .int x, l4, l5] (.int x :: st) (S, I, R, z) Q := RB_iloadn rfl rfl
theorem w113_57 : RB d 113 57 [l0, l1, l2, l3, l4, l5] (.int i :: .ref a :: st) (S, I, R, z) Q = (((11 ≤ (S a).1 ∧ (S a).1 ≤ 13) ∧ aIx i (S a).2) ∧ RB d 113 58 [l0, l1, l2, l3, l4, l5] (va_rf (R a i.toNatClampNeg) :: st) (S, I, R, z) Q) := RB_aald rfl
theorem w113_58 : RB d 113 58 [l0, l1, l2, l3, l4, l5] [.ref a] (S, I, R, z) Q = ((S a).1 = 0 ∧ RM d 1 [.ref a] (S, I, R, z) (fun v τ => RB d 113 61 [l0, l1, l2, l3, l4, l5] (aPush v []) τ Q)) := RB_callV (n := 1) (t := 0) (k := 206) (ins := .invokevirtual 206) rfl rfl rfl (by decide) (Nat.le_of_ble_eq_true rfl) (Nat.le_of_ble_eq_true rfl) rfl rfl
theorem w113_61 : RB d 113 61 [l0, l1, l2, l3, l4, l5] (.int x :: st) (S, I, R, z) Q = ((x = 0 → RB d 113 67 [l0, l1, l2, l3, l4, l5] st (S, I, R, z) Q) ∧ (¬ x = 0 → RB d 113 64 [l0, l1, l2, l3, l4, l5] st (S, I, R, z) Q)) := RB_eq0 rfl (by decide) rfl
theorem w113_64 : RB d 113 64 [l0, l1, l2, l3, l4, l5] st (S, I, R, z) Q = RB d 113 66 [l0, l1, l2, l3, l4, l5] (.int (-1000000011) :: st) (S, I, R, z) Q := RB_ldc rfl rfl
theorem w113_66 : RB d 113 66 [l0, l1, l2, l3, l4, l5] [.int x] (S, I, R, z) Q = Q (some (.int x)) (S, I, R, z) := RB_iret rfl rfl rfl
theorem w113_67 : RB d 113 67 [.ref a, l1, l2, l3, l4, l5] st (S, I, R, z) Q = RB d 113 68 [.ref a, l1, l2, l3, l4, l5] (.ref a :: st) (S, I, R, z) Q := RB_aloadn rfl rfl
theorem w113_68 : RB d 113 68 [l0, l1, l2, l3, l4, l5] (.ref a :: st) (S, I, R, z) Q = ((S a).1 = 6 ∧ RB d 113 71 [l0, l1, l2, l3, l4, l5] (va_rf (R a 5) :: st) (S, I, R, z) Q) := RB_getR rfl rfl
theorem w113_71 : RB d 113 71 [l0, .int x, l2, l3, l4, l5] st (S, I, R, z) Q = RB d 113 72 [l0, .int x, l2, l3, l4, l5] (.int x :: st) (S, I, R, z) Q := RB_iloadn rfl rfl
theorem w113_72 : RB d 113 72 [l0, l1, l2, l3, l4, l5] (.int i :: .ref a :: st) (S, I, R, z) Q = (((11 ≤ (S a).1 ∧ (S a).1 ≤ 13) ∧ aIx i (S a).2) ∧ RB d 113 73 [l0, l1, l2, l3, l4, l5] (va_rf (R a i.toNatClampNeg) :: st) (S, I, R, z) Q) := RB_aald rfl
theorem w113_73 : RB d 113 73 [l0, l1, l2, l3, l4, l5] (.ref a :: st) (S, I, R, z) Q = RB d 113 75 [l0, l1, l2, l3, .ref a, l5] st (S, I, R, z) Q := RB_astore rfl (Nat.le_of_ble_eq_true rfl) rfl
theorem w113_73N : RB d 113 73 [l0, l1, l2, l3, l4, l5] (.null :: st) (S, I, R, z) Q = RB d 113 75 [l0, l1, l2, l3, .null, l5] st (S, I, R, z) Q := RB_astoreN rfl (Nat.le_of_ble_eq_true rfl) rfl
theorem w113_75 : RB d 113 75 [l0, l1, l2, l3, .ref a, l5] st (S, I, R, z) Q = RB d 113 77 [l0, l1, l2, l3, .ref a, l5] (.ref a :: st) (S, I, R, z) Q := RB_aload rfl rfl
theorem w113_75N : RB d 113 75 [l0, l1, l2, l3, .null, l5] st (S, I, R, z) Q = RB d 113 77 [l0, l1, l2, l3, .null, l5] (.null :: st) (S, I, R, z) Q := RB_aloadN rfl rfl
theorem w113_77 : RB d 113 77 [l0, l1, l2, l3, l4, l5] (.ref a :: st) (S, I, R, z) Q = ((S a).1 = 1 ∧ RB d 113 80 [l0, l1, l2, l3, l4, l5] (.int (I a 0) :: st) (S, I, R, z) Q) := RB_getI rfl rfl
theorem w113_80 : RB d 113 80 [l0, l1, l2, l3, l4, l5] (.int x :: st) (S, I, R, z) Q = RB d 113 82 [l0, l1, l2, l3, l4, .int x] st (S, I, R, z) Q := RB_istore rfl (Nat.le_of_ble_eq_true rfl) rfl
theorem w113_82 : RB d 113 82 [l0, l1, l2, l3, .ref a, l5] st (S, I, R, z) Q = RB d 113 84 [l0, l1, l2, l3, .ref a, l5] (.ref a :: st) (S, I, R, z) Q := RB_aload rfl rfl
theorem w113_82N : RB d 113 82 [l0, l1, l2, l3, .null, l5] st (S, I, R, z) Q = RB d 113 84 [l0, l1, l2, l3, .null, l5] (.null :: st) (S, I, R, z) Q := RB_aloadN rfl rfl
theorem w113_84 : RB d 113 84 [l0, l1, .int x, l3, l4, l5] st (S, I, R, z) Q = RB d 113 85 [l0, l1, .int x, l3, l4, l5] (.int x :: st) (S, I, R, z) Q := RB_iloadn rfl rfl
theorem w113_85 : RB d 113 85 [l0, l1, l2, l3, l4, l5] (.int x :: .ref a :: st) (S, I, R, z) Q = (((S a).1 = 1 ∧ 1 < 8 ∧ 16 ≤ a) ∧ RB d 113 88 [l0, l1, l2, l3, l4, l5] st (S, aW I a 0 x, R, z) Q) := RB_putI rfl rfl (Or.inl rfl)
theorem w113_88 : RB d 113 88 [l0, l1, .int x, l3, l4, l5] st (S, I, R, z) Q = RB d 113 89 [l0, l1, .int x, l3, l4, l5] (.int x :: st) (S, I, R, z) Q := RB_iloadn rfl rfl
theorem w113_89 : RB d 113 89 [l0, l1, l2, l3, l4, l5] st (S, I, R, z) Q = RB d 113 90 [l0, l1, l2, l3, l4, l5] (.int 1 :: st) (S, I, R, z) Q := RB_iconst rfl ki1
theorem w113_90 : RB d 113 90 [l0, l1, l2, l3, l4, l5] (.int y :: .int x :: st) (S, I, R, z) Q = ((x = y → RB d 113 93 [l0, l1, l2, l3, l4, l5] st (S, I, R, z) Q) ∧ (¬ x = y → RB d 113 124 [l0, l1, l2, l3, l4, l5] st (S, I, R, z) Q)) := RB_ine rfl (by decide) rfl
theorem w113_93 : RB d 113 93 [l0, l1, l2, l3, .ref a, l5] st (S, I, R, z) Q = RB d 113 95 [l0, l1, l2, l3, .ref a, l5] (.ref a :: st) (S, I, R, z) Q := RB_aload rfl rfl
theorem w113_93N : RB d 113 93 [l0, l1, l2, l3, .null, l5] st (S, I, R, z) Q = RB d 113 95 [l0, l1, l2, l3, .null, l5] (.null :: st) (S, I, R, z) Q := RB_aloadN rfl rfl
theorem w113_95 : RB d 113 95 [.ref a, l1, l2, l3, l4, l5] st (S, I, R, z) Q = RB d 113 96 [.ref a, l1, l2, l3, l4, l5] (.ref a :: st) (S, I, R, z) Q := RB_aloadn rfl rfl
theorem w113_96 : RB d 113 96 [l0, l1, l2, l3, l4, l5] (.ref a :: st) (S, I, R, z) Q = ((S a).1 = 6 ∧ RB d 113 99 [l0, l1, l2, l3, l4, l5] (va_rf (R a 0) :: st) (S, I, R, z) Q) := RB_getR rfl rfl
theorem w113_99 : RB d 113 99 [l0, l1, l2, l3, l4, l5] (.ref a :: st) (S, I, R, z) Q = ((S a).1 = 2 ∧ RB d 113 102 [l0, l1, l2, l3, l4, l5] (va_rf (R a 4) :: st) (S, I, R, z) Q) := RB_getR rfl rfl
theorem w113_102 : RB d 113 102 [l0, l1, l2, .int x, l4, l5] st (S, I, R, z) Q = RB d 113 103 [l0, l1, l2, .int x, l4, l5] (.int x :: st) (S, I, R, z) Q := RB_iloadn rfl rfl
theorem w113_103 : RB d 113 103 [l0, l1, l2, l3, l4, l5] (.int i :: .ref a :: st) (S, I, R, z) Q = (((S a).1 = 9 ∧ aIx i (S a).2) ∧ RB d 113 104 [l0, l1, l2, l3, l4, l5] (.int (I a i.toNatClampNeg) :: st) (S, I, R, z) Q) := RB_iald rfl
theorem w113_104 : RB d 113 104 [l0, l1, l2, l3, l4, l5] (.int x :: .ref a :: st) (S, I, R, z) Q = (((S a).1 = 1 ∧ 1 < 8 ∧ 16 ≤ a) ∧ RB d 113 107 [l0, l1, l2, l3, l4, l5] st (S, aW I a 1 x, R, z) Q) := RB_putI rfl rfl (Or.inl rfl)
theorem w113_107 : RB d 113 107 [l0, l1, l2, l3, .ref a, l5] st (S, I, R, z) Q = RB d 113 109 [l0, l1, l2, l3, .ref a, l5] (.ref a :: st) (S, I, R, z) Q := RB_aload rfl rfl
theorem w113_107N : RB d 113 107 [l0, l1, l2, l3, .null, l5] st (S, I, R, z) Q = RB d 113 109 [l0, l1, l2, l3, .null, l5] (.null :: st) (S, I, R, z) Q := RB_aloadN rfl rfl
theorem w113_109 : RB d 113 109 [.ref a, l1, l2, l3, l4, l5] st (S, I, R, z) Q = RB d 113 110 [.ref a, l1, l2, l3, l4, l5] (.ref a :: st) (S, I, R, z) Q := RB_aloadn rfl rfl
theorem w113_110 : RB d 113 110 [l0, l1, l2, l3, l4, l5] (.ref a :: st) (S, I, R, z) Q = ((S a).1 = 6 ∧ RB d 113 113 [l0, l1, l2, l3, l4, l5] (va_rf (R a 0) :: st) (S, I, R, z) Q) := RB_getR rfl rfl
theorem w113_113 : RB d 113 113 [l0, l1, l2, l3, l4, l5] (.ref a :: st) (S, I, R, z) Q = ((S a).1 = 2 ∧ RB d 113 116 [l0, l1, l2, l3, l4, l5] (va_rf (R a 5) :: st) (S, I, R, z) Q) := RB_getR rfl rfl
theorem w113_116 : RB d 113 116 [l0, l1, l2, .int x, l4, l5] st (S, I, R, z) Q = RB d 113 117 [l0, l1, l2, .int x, l4, l5] (.int x :: st) (S, I, R, z) Q := RB_iloadn rfl rfl
theorem w113_117 : RB d 113 117 [l0, l1, l2, l3, l4, l5] (.int i :: .ref a :: st) (S, I, R, z) Q = (((S a).1 = 9 ∧ aIx i (S a).2) ∧ RB d 113 118 [l0, l1, l2, l3, l4, l5] (.int (I a i.toNatClampNeg) :: st) (S, I, R, z) Q) := RB_iald rfl
theorem w113_118 : RB d 113 118 [l0, l1, l2, l3, l4, l5] (.int x :: .ref a :: st) (S, I, R, z) Q = (((S a).1 = 1 ∧ 1 < 8 ∧ 16 ≤ a) ∧ RB d 113 121 [l0, l1, l2, l3, l4, l5] st (S, aW I a 2 x, R, z) Q) := RB_putI rfl rfl (Or.inl rfl)
theorem w113_121 : RB d 113 121 [l0, l1, l2, l3, l4, l5] st (S, I, R, z) Q = RB d 113 157 [l0, l1, l2, l3, l4, l5] st (S, I, R, z) Q := RB_goto rfl (by decide) rfl
theorem w113_124 : RB d 113 124 [l0, l1, .int x, l3, l4, l5] st (S, I, R, z) Q = RB d 113 125 [l0, l1, .int x, l3, l4, l5] (.int x :: st) (S, I, R, z) Q := RB_iloadn rfl rfl
theorem w113_125 : RB d 113 125 [l0, l1, l2, l3, l4, l5] st (S, I, R, z) Q = RB d 113 126 [l0, l1, l2, l3, l4, l5] (.int 2 :: st) (S, I, R, z) Q := RB_iconst rfl ki2
theorem w113_126 : RB d 113 126 [l0, l1, l2, l3, l4, l5] (.int y :: .int x :: st) (S, I, R, z) Q = ((x = y → RB d 113 129 [l0, l1, l2, l3, l4, l5] st (S, I, R, z) Q) ∧ (¬ x = y → RB d 113 146 [l0, l1, l2, l3, l4, l5] st (S, I, R, z) Q)) := RB_ine rfl (by decide) rfl
theorem w113_129 : RB d 113 129 [l0, l1, l2, l3, .ref a, l5] st (S, I, R, z) Q = RB d 113 131 [l0, l1, l2, l3, .ref a, l5] (.ref a :: st) (S, I, R, z) Q := RB_aload rfl rfl
theorem w113_129N : RB d 113 129 [l0, l1, l2, l3, .null, l5] st (S, I, R, z) Q = RB d 113 131 [l0, l1, l2, l3, .null, l5] (.null :: st) (S, I, R, z) Q := RB_aloadN rfl rfl
theorem w113_131 : RB d 113 131 [l0, l1, l2, l3, l4, l5] (.ref a :: st) (S, I, R, z) Q = ((S a).1 = 1 ∧ RB d 113 134 [l0, l1, l2, l3, l4, l5] (va_rf (R a 4) :: st) (S, I, R, z) Q) := RB_getR rfl rfl
theorem w113_134 : RB d 113 134 [.ref a, l1, l2, l3, l4, l5] st (S, I, R, z) Q = RB d 113 135 [.ref a, l1, l2, l3, l4, l5] (.ref a :: st) (S, I, R, z) Q := RB_aloadn rfl rfl
theorem w113_135 : RB d 113 135 [l0, l1, l2, l3, l4, l5] (.ref a :: st) (S, I, R, z) Q = ((S a).1 = 6 ∧ RB d 113 138 [l0, l1, l2, l3, l4, l5] (va_rf (R a 4) :: st) (S, I, R, z) Q) := RB_getR rfl rfl
theorem w113_138 : RB d 113 138 [l0, l1, l2, .int x, l4, l5] st (S, I, R, z) Q = RB d 113 139 [l0, l1, l2, .int x, l4, l5] (.int x :: st) (S, I, R, z) Q := RB_iloadn rfl rfl
theorem w113_139 : RB d 113 139 [l0, l1, l2, l3, l4, l5] (.int i :: .ref a :: st) (S, I, R, z) Q = (((11 ≤ (S a).1 ∧ (S a).1 ≤ 13) ∧ aIx i (S a).2) ∧ RB d 113 140 [l0, l1, l2, l3, l4, l5] (va_rf (R a i.toNatClampNeg) :: st) (S, I, R, z) Q) := RB_aald rfl
theorem w113_140 : RB d 113 140 [l0, l1, l2, l3, l4, l5] [v0, .ref a] (S, I, R, z) Q = ((S a).1 = 0 ∧ RM d 6 [.ref a, v0] (S, I, R, z) (fun v τ => RB d 113 143 [l0, l1, l2, l3, l4, l5] (aPush v []) τ Q)) := RB_callV (n := 2) (t := 0) (k := 308) (ins := .invokevirtual 308) rfl rfl rfl (by decide) (Nat.le_of_ble_eq_true rfl) (Nat.le_of_ble_eq_true rfl) rfl rfl
theorem w113_143 : RB d 113 143 [l0, l1, l2, l3, l4, l5] st (S, I, R, z) Q = RB d 113 157 [l0, l1, l2, l3, l4, l5] st (S, I, R, z) Q := RB_goto rfl (by decide) rfl
theorem w113_146 : RB d 113 146 [l0, l1, .int x, l3, l4, l5] st (S, I, R, z) Q = RB d 113 147 [l0, l1, .int x, l3, l4, l5] (.int x :: st) (S, I, R, z) Q := RB_iloadn rfl rfl
theorem w113_147 : RB d 113 147 [l0, l1, l2, l3, l4, l5] st (S, I, R, z) Q = RB d 113 148 [l0, l1, l2, l3, l4, l5] (.int 3 :: st) (S, I, R, z) Q := RB_iconst rfl ki3
theorem w113_148 : RB d 113 148 [l0, l1, l2, l3, l4, l5] (.int y :: .int x :: st) (S, I, R, z) Q = ((x = y → RB d 113 151 [l0, l1, l2, l3, l4, l5] st (S, I, R, z) Q) ∧ (¬ x = y → RB d 113 157 [l0, l1, l2, l3, l4, l5] st (S, I, R, z) Q)) := RB_ine rfl (by decide) rfl
theorem w113_151 : RB d 113 151 [l0, l1, l2, l3, .ref a, l5] st (S, I, R, z) Q = RB d 113 153 [l0, l1, l2, l3, .ref a, l5] (.ref a :: st) (S, I, R, z) Q := RB_aload rfl rfl
theorem w113_151N : RB d 113 151 [l0, l1, l2, l3, .null, l5] st (S, I, R, z) Q = RB d 113 153 [l0, l1, l2, l3, .null, l5] (.null :: st) (S, I, R, z) Q := RB_aloadN rfl rfl
theorem w113_153 : RB d 113 153 [l0, l1, l2, .int x, l4, l5] st (S, I, R, z) Q = RB d 113 154 [l0, l1, l2, .int x, l4, l5] (.int x :: st) (S, I, R, z) Q := RB_iloadn rfl rfl
theorem w113_154 : RB d 113 154 [l0, l1, l2, l3, l4, l5] (.int x :: .ref a :: st) (S, I, R, z) Q = (((S a).1 = 1 ∧ 1 < 8 ∧ 16 ≤ a) ∧ RB d 113 157 [l0, l1, l2, l3, l4, l5] st (S, aW I a 3 x, R, z) Q) := RB_putI rfl rfl (Or.inl rfl)
theorem w113_157 : RB d 113 157 [l0, l1, l2, l3, l4, .int x] st (S, I, R, z) Q = RB d 113 159 [l0, l1, l2, l3, l4, .int x] (.int x :: st) (S, I, R, z) Q := RB_iload rfl rfl
theorem w113_159 : RB d 113 159 [l0, l1, l2, l3, l4, l5] [.int x] (S, I, R, z) Q = Q (some (.int x)) (S, I, R, z) := RB_iret rfl rfl rfl
/-! 114: HangedWord.ask -/
theorem w114_0 : RB d 114 0 [l0, .int x, l2, l3] st (S, I, R, z) Q = RB d 114 1 [l0, .int x, l2, l3] (.int x :: st) (S, I, R, z) Q := RB_iloadn rfl rfl
theorem w114_1 : RB d 114 1 [l0, l1, l2, l3] [.int x0] (S, I, R, z) Q = RM d 128 [.int x0] (S, I, R, z) (fun v τ => RB d 114 4 [l0, l1, l2, l3] (aPush v []) τ Q) := RB_callS (n := 1) (t := 1) (k := 292) (ins := .invokestatic 292) rfl rfl rfl (Nat.le_of_ble_eq_true rfl) (Nat.le_of_ble_eq_true rfl) rfl rfl
theorem w114_4 : RB d 114 4 [l0, l1, l2, l3] (.int x :: st) (S, I, R, z) Q = ((x = 0 → RB d 114 14 [l0, l1, l2, l3] st (S, I, R, z) Q) ∧ (¬ x = 0 → RB d 114 7 [l0, l1, l2, l3] st (S, I, R, z) Q)) := RB_eq0 rfl (by decide) rfl
theorem w114_7 : RB d 114 7 [l0, l1, .int x, l3] st (S, I, R, z) Q = RB d 114 8 [l0, l1, .int x, l3] (.int x :: st) (S, I, R, z) Q := RB_iloadn rfl rfl
theorem w114_8 : RB d 114 8 [l0, l1, l2, l3] [.int x0] (S, I, R, z) Q = RM d 126 [.int x0] (S, I, R, z) (fun v τ => RB d 114 11 [l0, l1, l2, l3] (aPush v []) τ Q) := RB_callS (n := 1) (t := 1) (k := 88) (ins := .invokestatic 88) rfl rfl rfl (Nat.le_of_ble_eq_true rfl) (Nat.le_of_ble_eq_true rfl) rfl rfl
theorem w114_11 : RB d 114 11 [l0, l1, l2, l3] (.int x :: st) (S, I, R, z) Q = ((x = 0 → RB d 114 14 [l0, l1, l2, l3] st (S, I, R, z) Q) ∧ (¬ x = 0 → RB d 114 17 [l0, l1, l2, l3] st (S, I, R, z) Q)) := RB_ne0 rfl (by decide) rfl
theorem w114_14 : RB d 114 14 [l0, l1, l2, l3] st (S, I, R, z) Q = RB d 114 16 [l0, l1, l2, l3] (.int (-1000000001) :: st) (S, I, R, z) Q := RB_ldc rfl rfl
theorem w114_16 : RB d 114 16 [l0, l1, l2, l3] [.int x] (S, I, R, z) Q = Q (some (.int x)) (S, I, R, z) := RB_iret rfl rfl rfl
theorem w114_17 : RB d 114 17 [.ref a, l1, l2, l3] st (S, I, R, z) Q = RB d 114 18 [.ref a, l1, l2, l3] (.ref a :: st) (S, I, R, z) Q := RB_aloadn rfl rfl
theorem w114_18 : RB d 114 18 [l0, l1, l2, l3] (.ref a :: st) (S, I, R, z) Q = ((S a).1 = 6 ∧ RB d 114 21 [l0, l1, l2, l3] (va_rf (R a 5) :: st) (S, I, R, z) Q) := RB_getR rfl rfl
theorem w114_21 : RB d 114 21 [l0, .int x, l2, l3] st (S, I, R, z) Q = RB d 114 22 [l0, .int x, l2, l3] (.int x :: st) (S, I, R, z) Q := RB_iloadn rfl rfl
theorem w114_22 : RB d 114 22 [l0, l1, l2, l3] (.int i :: .ref a :: st) (S, I, R, z) Q = (((11 ≤ (S a).1 ∧ (S a).1 ≤ 13) ∧ aIx i (S a).2) ∧ RB d 114 23 [l0, l1, l2, l3] (va_rf (R a i.toNatClampNeg) :: st) (S, I, R, z) Q) := RB_aald rfl
theorem w114_23 : RB d 114 23 [l0, l1, l2, l3] (.ref a :: st) (S, I, R, z) Q = RB d 114 24 [l0, l1, l2, .ref a] st (S, I, R, z) Q := RB_astoren rfl (Nat.le_of_ble_eq_true rfl) rfl
theorem w114_23N : RB d 114 23 [l0, l1, l2, l3] (.null :: st) (S, I, R, z) Q = RB d 114 24 [l0, l1, l2, .null] st (S, I, R, z) Q := RB_astorenN rfl (Nat.le_of_ble_eq_true rfl) rfl
theorem w114_24 : RB d 114 24 [l0, l1, l2, .ref a] st (S, I, R, z) Q = RB d 114 25 [l0, l1, l2, .ref a] (.ref a :: st) (S, I, R, z) Q := RB_aloadn rfl rfl
theorem w114_24N : RB d 114 24 [l0, l1, l2, .null] st (S, I, R, z) Q = RB d 114 25 [l0, l1, l2, .null] (.null :: st) (S, I, R, z) Q := RB_aloadnN rfl rfl
theorem w114_25 : RB d 114 25 [l0, l1, l2, l3] (.ref a :: st) (S, I, R, z) Q = ((S a).1 = 1 ∧ RB d 114 28 [l0, l1, l2, l3] (.int (I a 0) :: st) (S, I, R, z) Q) := RB_getI rfl rfl
theorem w114_28 : RB d 114 28 [l0, l1, l2, l3] (.int x :: st) (S, I, R, z) Q = ((x = 0 → RB d 114 31 [l0, l1, l2, l3] st (S, I, R, z) Q) ∧ (¬ x = 0 → RB d 114 34 [l0, l1, l2, l3] st (S, I, R, z) Q)) := RB_ne0 rfl (by decide) rfl
theorem w114_31 : RB d 114 31 [l0, l1, l2, l3] st (S, I, R, z) Q = RB d 114 33 [l0, l1, l2, l3] (.int (-1000000011) :: st) (S, I, R, z) Q := RB_ldc rfl rfl
theorem w114_33 : RB d 114 33 [l0, l1, l2, l3] [.int x] (S, I, R, z) Q = Q (some (.int x)) (S, I, R, z) := RB_iret rfl rfl rfl
theorem w114_34 : RB d 114 34 [l0, l1, l2, .ref a] st (S, I, R, z) Q = RB d 114 35 [l0, l1, l2, .ref a] (.ref a :: st) (S, I, R, z) Q := RB_aloadn rfl rfl
theorem w114_34N : RB d 114 34 [l0, l1, l2, .null] st (S, I, R, z) Q = RB d 114 35 [l0, l1, l2, .null] (.null :: st) (S, I, R, z) Q := RB_aloadnN rfl rfl
theorem w114_35 : RB d 114 35 [l0, l1, l2, l3] (.ref a :: st) (S, I, R, z) Q = ((S a).1 = 1 ∧ RB d 114 38 [l0, l1, l2, l3] (.int (I a 0) :: st) (S, I, R, z) Q) := RB_getI rfl rfl
theorem w114_38 : RB d 114 38 [l0, l1, l2, l3] st (S, I, R, z) Q = RB d 114 39 [l0, l1, l2, l3] (.int 1 :: st) (S, I, R, z) Q := RB_iconst rfl ki1
theorem w114_39 : RB d 114 39 [l0, l1, l2, l3] (.int y :: .int x :: st) (S, I, R, z) Q = ((x = y → RB d 114 42 [l0, l1, l2, l3] st (S, I, R, z) Q) ∧ (¬ x = y → RB d 114 53 [l0, l1, l2, l3] st (S, I, R, z) Q)) := RB_ine rfl (by decide) rfl
theorem w114_42 : RB d 114 42 [l0, l1, l2, .ref a] st (S, I, R, z) Q = RB d 114 43 [l0, l1, l2, .ref a] (.ref a :: st) (S, I, R, z) Q := RB_aloadn rfl rfl
theorem w114_42N : RB d 114 42 [l0, l1, l2, .null] st (S, I, R, z) Q = RB d 114 43 [l0, l1, l2, .null] (.null :: st) (S, I, R, z) Q := RB_aloadnN rfl rfl
theorem w114_43 : RB d 114 43 [l0, l1, l2, l3] (.ref a :: st) (S, I, R, z) Q = ((S a).1 = 1 ∧ RB d 114 46 [l0, l1, l2, l3] (.int (I a 1) :: st) (S, I, R, z) Q) := RB_getI rfl rfl
theorem w114_46 : RB d 114 46 [l0, l1, .int x, l3] st (S, I, R, z) Q = RB d 114 47 [l0, l1, .int x, l3] (.int x :: st) (S, I, R, z) Q := RB_iloadn rfl rfl
theorem w114_47 : RB d 114 47 [l0, l1, l2, l3] [.int x1, .int x0] (S, I, R, z) Q = RM d 131 [.int x0, .int x1] (S, I, R, z) (fun v τ => RB d 114 50 [l0, l1, l2, l3] (aPush v []) τ Q) := RB_callS (n := 2) (t := 1) (k := 123) (ins := .invokestatic 123) rfl rfl rfl (Nat.le_of_ble_eq_true rfl) (Nat.le_of_ble_eq_true rfl) rfl rfl
theorem w114_50 : RB d 114 50 [l0, l1, l2, l3] (.int x :: st) (S, I, R, z) Q = ((x = 0 → RB d 114 53 [l0, l1, l2, l3] st (S, I, R, z) Q) ∧ (¬ x = 0 → RB d 114 56 [l0, l1, l2, l3] st (S, I, R, z) Q)) := RB_ne0 rfl (by decide) rfl
theorem w114_53 : RB d 114 53 [l0, l1, l2, l3] st (S, I, R, z) Q = RB d 114 55 [l0, l1, l2, l3] (.int (-1000000012) :: st) (S, I, R, z) Q := RB_ldc rfl rfl
theorem w114_55 : RB d 114 55 [l0, l1, l2, l3] [.int x] (S, I, R, z) Q = Q (some (.int x)) (S, I, R, z) := RB_iret rfl rfl rfl
theorem w114_56 : RB d 114 56 [l0, l1, l2, .ref a] st (S, I, R, z) Q = RB d 114 57 [l0, l1, l2, .ref a] (.ref a :: st) (S, I, R, z) Q := RB_aloadn rfl rfl
theorem w114_56N : RB d 114 56 [l0, l1, l2, .null] st (S, I, R, z) Q = RB d 114 57 [l0, l1, l2, .null] (.null :: st) (S, I, R, z) Q := RB_aloadnN rfl rfl
theorem w114_57 : RB d 114 57 [l0, l1, l2, l3] (.ref a :: st) (S, I, R, z) Q = ((S a).1 = 1 ∧ RB d 114 60 [l0, l1, l2, l3] (.int (I a 1) :: st) (S, I, R, z) Q) := RB_getI rfl rfl
theorem w114_60 : RB d 114 60 [l0, l1, l2, .ref a] st (S, I, R, z) Q = RB d 114 61 [l0, l1, l2, .ref a] (.ref a :: st) (S, I, R, z) Q := RB_aloadn rfl rfl
theorem w114_60N : RB d 114 60 [l0, l1, l2, .null] st (S, I, R, z) Q = RB d 114 61 [l0, l1, l2, .null] (.null :: st) (S, I, R, z) Q := RB_aloadnN rfl rfl
theorem w114_61 : RB d 114 61 [l0, l1, l2, l3] (.ref a :: st) (S, I, R, z) Q = ((S a).1 = 1 ∧ RB d 114 64 [l0, l1, l2, l3] (.int (I a 2) :: st) (S, I, R, z) Q) := RB_getI rfl rfl
theorem w114_64 : RB d 114 64 [l0, l1, l2, l3] [.int x1, .int x0] (S, I, R, z) Q = RM d 132 [.int x0, .int x1] (S, I, R, z) (fun v τ => RB d 114 67 [l0, l1, l2, l3] (aPush v []) τ Q) := RB_callS (n := 2) (t := 1) (k := 109) (ins := .invokestatic 109) rfl rfl rfl (Nat.le_of_ble_eq_true rfl) (Nat.le_of_ble_eq_true rfl) rfl rfl
theorem w114_67 : RB d 114 67 [l0, l1, l2, l3] [.int x] (S, I, R, z) Q = Q (some (.int x)) (S, I, R, z) := RB_iret rfl rfl rfl
/-! 115: HangedWord.item -/
theorem w115_0 : RB d 115 0 [l0, .int x, l2, l3] st (S, I, R, z) Q = RB d 115 1 [l0, .int x, l2, l3] (.int x :: st) (S, I, R, z) Q := RB_iloadn rfl rfl
theorem w115_1 : RB d 115 1 [l0, l1, l2, l3] [.int x0] (S, I, R, z) Q = RM d 128 [.int x0] (S, I, R, z) (fun v τ => RB d 115 4 [l0, l1, l2, l3] (aPush v []) τ Q) := RB_callS (n := 1) (t := 1) (k := 292) (ins := .invokestatic 292) rfl rfl rfl (Nat.le_of_ble_eq_true rfl) (Nat.le_of_ble_eq_true rfl) rfl rfl
theorem w115_4 : RB d 115 4 [l0, l1, l2, l3] (.int x :: st) (S, I, R, z) Q = ((x = 0 → RB d 115 7 [l0, l1, l2, l3] st (S, I, R, z) Q) ∧ (¬ x = 0 → RB d 115 10 [l0, l1, l2, l3] st (S, I, R, z) Q)) := RB_ne0 rfl (by decide) rfl
theorem w115_7 : RB d 115 7 [l0, l1, l2, l3] st (S, I, R, z) Q = RB d 115 9 [l0, l1, l2, l3] (.int (-1000000001) :: st) (S, I, R, z) Q := RB_ldc rfl rfl
theorem w115_9 : RB d 115 9 [l0, l1, l2, l3] [.int x] (S, I, R, z) Q = Q (some (.int x)) (S, I, R, z) := RB_iret rfl rfl rfl
theorem w115_10 : RB d 115 10 [.ref a, l1, l2, l3] st (S, I, R, z) Q = RB d 115 11 [.ref a, l1, l2, l3] (.ref a :: st) (S, I, R, z) Q := RB_aloadn rfl rfl
theorem w115_11 : RB d 115 11 [l0, l1, l2, l3] (.ref a :: st) (S, I, R, z) Q = ((S a).1 = 6 ∧ RB d 115 14 [l0, l1, l2, l3] (va_rf (R a 5) :: st) (S, I, R, z) Q) := RB_getR rfl rfl
theorem w115_14 : RB d 115 14 [l0, .int x, l2, l3] st (S, I, R, z) Q = RB d 115 15 [l0, .int x, l2, l3] (.int x :: st) (S, I, R, z) Q := RB_iloadn rfl rfl
theorem w115_15 : RB d 115 15 [l0, l1, l2, l3] (.int i :: .ref a :: st) (S, I, R, z) Q = (((11 ≤ (S a).1 ∧ (S a).1 ≤ 13) ∧ aIx i (S a).2) ∧ RB d 115 16 [l0, l1, l2, l3] (va_rf (R a i.toNatClampNeg) :: st) (S, I, R, z) Q) := RB_aald rfl
theorem w115_16 : RB d 115 16 [l0, l1, l2, l3] (.ref a :: st) (S, I, R, z) Q = RB d 115 17 [l0, l1, l2, .ref a] st (S, I, R, z) Q := RB_astoren rfl (Nat.le_of_ble_eq_true rfl) rfl
theorem w115_16N : RB d 115 16 [l0, l1, l2, l3] (.null :: st) (S, I, R, z) Q = RB d 115 17 [l0, l1, l2, .null] st (S, I, R, z) Q := RB_astorenN rfl (Nat.le_of_ble_eq_true rfl) rfl
theorem w115_17 : RB d 115 17 [l0, l1, l2, .ref a] st (S, I, R, z) Q = RB d 115 18 [l0, l1, l2, .ref a] (.ref a :: st) (S, I, R, z) Q := RB_aloadn rfl rfl
theorem w115_17N : RB d 115 17 [l0, l1, l2, .null] st (S, I, R, z) Q = RB d 115 18 [l0, l1, l2, .null] (.null :: st) (S, I, R, z) Q := RB_aloadnN rfl rfl
theorem w115_18 : RB d 115 18 [l0, l1, l2, l3] (.ref a :: st) (S, I, R, z) Q = ((S a).1 = 1 ∧ RB d 115 21 [l0, l1, l2, l3] (.int (I a 0) :: st) (S, I, R, z) Q) := RB_getI rfl rfl
theorem w115_21 : RB d 115 21 [l0, l1, l2, l3] (.int x :: st) (S, I, R, z) Q = ((x = 0 → RB d 115 24 [l0, l1, l2, l3] st (S, I, R, z) Q) ∧ (¬ x = 0 → RB d 115 27 [l0, l1, l2, l3] st (S, I, R, z) Q)) := RB_ne0 rfl (by decide) rfl
theorem w115_24 : RB d 115 24 [l0, l1, l2, l3] st (S, I, R, z) Q = RB d 115 26 [l0, l1, l2, l3] (.int (-1000000011) :: st) (S, I, R, z) Q := RB_ldc rfl rfl
theorem w115_26 : RB d 115 26 [l0, l1, l2, l3] [.int x] (S, I, R, z) Q = Q (some (.int x)) (S, I, R, z) := RB_iret rfl rfl rfl
theorem w115_27 : RB d 115 27 [l0, l1, l2, .ref a] st (S, I, R, z) Q = RB d 115 28 [l0, l1, l2, .ref a] (.ref a :: st) (S, I, R, z) Q := RB_aloadn rfl rfl
theorem w115_27N : RB d 115 27 [l0, l1, l2, .null] st (S, I, R, z) Q = RB d 115 28 [l0, l1, l2, .null] (.null :: st) (S, I, R, z) Q := RB_aloadnN rfl rfl
theorem w115_28 : RB d 115 28 [l0, l1, l2, l3] (.ref a :: st) (S, I, R, z) Q = ((S a).1 = 1 ∧ RB d 115 31 [l0, l1, l2, l3] (.int (I a 0) :: st) (S, I, R, z) Q) := RB_getI rfl rfl
theorem w115_31 : RB d 115 31 [l0, l1, l2, l3] st (S, I, R, z) Q = RB d 115 32 [l0, l1, l2, l3] (.int 2 :: st) (S, I, R, z) Q := RB_iconst rfl ki2
theorem w115_32 : RB d 115 32 [l0, l1, l2, l3] (.int y :: .int x :: st) (S, I, R, z) Q = ((x = y → RB d 115 38 [l0, l1, l2, l3] st (S, I, R, z) Q) ∧ (¬ x = y → RB d 115 35 [l0, l1, l2, l3] st (S, I, R, z) Q)) := RB_ieq rfl (by decide) rfl
theorem w115_35 : RB d 115 35 [l0, l1, l2, l3] st (S, I, R, z) Q = RB d 115 37 [l0, l1, l2, l3] (.int (-1000000012) :: st) (S, I, R, z) Q := RB_ldc rfl rfl
theorem w115_37 : RB d 115 37 [l0, l1, l2, l3] [.int x] (S, I, R, z) Q = Q (some (.int x)) (S, I, R, z) := RB_iret rfl rfl rfl
theorem w115_38 : RB d 115 38 [l0, l1, l2, .ref a] st (S, I, R, z) Q = RB d 115 39 [l0, l1, l2, .ref a] (.ref a :: st) (S, I, R, z) Q := RB_aloadn rfl rfl
theorem w115_38N : RB d 115 38 [l0, l1, l2, .null] st (S, I, R, z) Q = RB d 115 39 [l0, l1, l2, .null] (.null :: st) (S, I, R, z) Q := RB_aloadnN rfl rfl
theorem w115_39 : RB d 115 39 [l0, l1, l2, l3] (.ref a :: st) (S, I, R, z) Q = ((S a).1 = 1 ∧ RB d 115 42 [l0, l1, l2, l3] (va_rf (R a 4) :: st) (S, I, R, z) Q) := RB_getR rfl rfl
theorem w115_42 : RB d 115 42 [l0, l1, .int x, l3] st (S, I, R, z) Q = RB d 115 43 [l0, l1, .int x, l3] (.int x :: st) (S, I, R, z) Q := RB_iloadn rfl rfl
theorem w115_43 : RB d 115 43 [l0, l1, l2, l3] [.int x0, .ref a] (S, I, R, z) Q = ((S a).1 = 0 ∧ RM d 2 [.ref a, .int x0] (S, I, R, z) (fun v τ => RB d 115 46 [l0, l1, l2, l3] (aPush v []) τ Q)) := RB_callV (n := 2) (t := 0) (k := 264) (ins := .invokevirtual 264) rfl rfl rfl (by decide) (Nat.le_of_ble_eq_true rfl) (Nat.le_of_ble_eq_true rfl) rfl rfl
theorem w115_46 : RB d 115 46 [l0, l1, l2, l3] (.int x :: st) (S, I, R, z) Q = ((x = 0 → RB d 115 49 [l0, l1, l2, l3] st (S, I, R, z) Q) ∧ (¬ x = 0 → RB d 115 53 [l0, l1, l2, l3] st (S, I, R, z) Q)) := RB_ne0 rfl (by decide) rfl
theorem w115_49 : RB d 115 49 [l0, l1, l2, l3] st (S, I, R, z) Q = RB d 115 52 [l0, l1, l2, l3] (.int (-1000000013) :: st) (S, I, R, z) Q := RB_ldcw rfl rfl
theorem w115_52 : RB d 115 52 [l0, l1, l2, l3] [.int x] (S, I, R, z) Q = Q (some (.int x)) (S, I, R, z) := RB_iret rfl rfl rfl
theorem w115_53 : RB d 115 53 [l0, l1, l2, .ref a] st (S, I, R, z) Q = RB d 115 54 [l0, l1, l2, .ref a] (.ref a :: st) (S, I, R, z) Q := RB_aloadn rfl rfl
theorem w115_53N : RB d 115 53 [l0, l1, l2, .null] st (S, I, R, z) Q = RB d 115 54 [l0, l1, l2, .null] (.null :: st) (S, I, R, z) Q := RB_aloadnN rfl rfl
theorem w115_54 : RB d 115 54 [l0, l1, l2, l3] (.ref a :: st) (S, I, R, z) Q = ((S a).1 = 1 ∧ RB d 115 57 [l0, l1, l2, l3] (va_rf (R a 4) :: st) (S, I, R, z) Q) := RB_getR rfl rfl
theorem w115_57 : RB d 115 57 [l0, l1, .int x, l3] st (S, I, R, z) Q = RB d 115 58 [l0, l1, .int x, l3] (.int x :: st) (S, I, R, z) Q := RB_iloadn rfl rfl
theorem w115_58 : RB d 115 58 [l0, l1, l2, l3] [.int x0, .ref a] (S, I, R, z) Q = ((S a).1 = 0 ∧ RM d 4 [.ref a, .int x0] (S, I, R, z) (fun v τ => RB d 115 61 [l0, l1, l2, l3] (aPush v []) τ Q)) := RB_callV (n := 2) (t := 0) (k := 276) (ins := .invokevirtual 276) rfl rfl rfl (by decide) (Nat.le_of_ble_eq_true rfl) (Nat.le_of_ble_eq_true rfl) rfl rfl
theorem w115_61 : RB d 115 61 [l0, l1, l2, l3] (.int x :: st) (S, I, R, z) Q = ((x = 0 → RB d 115 76 [l0, l1, l2, l3] st (S, I, R, z) Q) ∧ (¬ x = 0 → RB d 115 64 [l0, l1, l2, l3] st (S, I, R, z) Q)) := RB_eq0 rfl (by decide) rfl
theorem w115_64 : RB d 115 64 [l0, l1, l2, .ref a] st (S, I, R, z) Q = RB d 115 65 [l0, l1, l2, .ref a] (.ref a :: st) (S, I, R, z) Q := RB_aloadn rfl rfl
theorem w115_64N : RB d 115 64 [l0, l1, l2, .null] st (S, I, R, z) Q = RB d 115 65 [l0, l1, l2, .null] (.null :: st) (S, I, R, z) Q := RB_aloadnN rfl rfl
theorem w115_65 : RB d 115 65 [l0, l1, l2, l3] (.ref a :: st) (S, I, R, z) Q = ((S a).1 = 1 ∧ RB d 115 68 [l0, l1, l2, l3] (va_rf (R a 4) :: st) (S, I, R, z) Q) := RB_getR rfl rfl
theorem w115_68 : RB d 115 68 [l0, l1, l2, l3] (.ref a :: st) (S, I, R, z) Q = ((S a).1 = 0 ∧ RB d 115 71 [l0, l1, l2, l3] (va_rf (R a 0) :: st) (S, I, R, z) Q) := RB_getR rfl rfl
theorem w115_71 : RB d 115 71 [l0, l1, .int x, l3] st (S, I, R, z) Q = RB d 115 72 [l0, l1, .int x, l3] (.int x :: st) (S, I, R, z) Q := RB_iloadn rfl rfl
theorem w115_72 : RB d 115 72 [l0, l1, l2, l3] (.int i :: .ref a :: st) (S, I, R, z) Q = (((S a).1 = 9 ∧ aIx i (S a).2) ∧ RB d 115 73 [l0, l1, l2, l3] (.int (I a i.toNatClampNeg) :: st) (S, I, R, z) Q) := RB_iald rfl
theorem w115_73 : RB d 115 73 [l0, l1, l2, l3] st (S, I, R, z) Q = RB d 115 78 [l0, l1, l2, l3] st (S, I, R, z) Q := RB_goto rfl (by decide) rfl
theorem w115_76 : RB d 115 76 [l0, l1, l2, l3] st (S, I, R, z) Q = RB d 115 78 [l0, l1, l2, l3] (.int (-1000000012) :: st) (S, I, R, z) Q := RB_ldc rfl rfl
theorem w115_78 : RB d 115 78 [l0, l1, l2, l3] [.int x] (S, I, R, z) Q = Q (some (.int x)) (S, I, R, z) := RB_iret rfl rfl rfl
/-! 116: HangedWord.rest -/
theorem w116_0 : RB d 116 0 [l0, .int x, l2, l3] st (S, I, R, z) Q = RB d 116 1 [l0, .int x, l2, l3] (.int x :: st) (S, I, R, z) Q := RB_iloadn rfl rfl
theorem w116_1 : RB d 116 1 [l0, l1, l2, l3] [.int x0] (S, I, R, z) Q = RM d 128 [.int x0] (S, I, R, z) (fun v τ => RB d 116 4 [l0, l1, l2, l3] (aPush v []) τ Q) := RB_callS (n := 1) (t := 1) (k := 292) (ins := .invokestatic 292) rfl rfl rfl (Nat.le_of_ble_eq_true rfl) (Nat.le_of_ble_eq_true rfl) rfl rfl
theorem w116_4 : RB d 116 4 [l0, l1, l2, l3] (.int x :: st) (S, I, R, z) Q = ((x = 0 → RB d 116 7 [l0, l1, l2, l3] st (S, I, R, z) Q) ∧ (¬ x = 0 → RB d 116 10 [l0, l1, l2, l3] st (S, I, R, z) Q)) := RB_ne0 rfl (by decide) rfl
theorem w116_7 : RB d 116 7 [l0, l1, l2, l3] st (S, I, R, z) Q = RB d 116 9 [l0, l1, l2, l3] (.int (-1000000001) :: st) (S, I, R, z) Q := RB_ldc rfl rfl
theorem w116_9 : RB d 116 9 [l0, l1, l2, l3] [.int x] (S, I, R, z) Q = Q (some (.int x)) (S, I, R, z) := RB_iret rfl rfl rfl
theorem w116_10 : RB d 116 10 [.ref a, l1, l2, l3] st (S, I, R, z) Q = RB d 116 11 [.ref a, l1, l2, l3] (.ref a :: st) (S, I, R, z) Q := RB_aloadn rfl rfl
theorem w116_11 : RB d 116 11 [l0, l1, l2, l3] (.ref a :: st) (S, I, R, z) Q = ((S a).1 = 6 ∧ RB d 116 14 [l0, l1, l2, l3] (va_rf (R a 5) :: st) (S, I, R, z) Q) := RB_getR rfl rfl
theorem w116_14 : RB d 116 14 [l0, .int x, l2, l3] st (S, I, R, z) Q = RB d 116 15 [l0, .int x, l2, l3] (.int x :: st) (S, I, R, z) Q := RB_iloadn rfl rfl
theorem w116_15 : RB d 116 15 [l0, l1, l2, l3] (.int i :: .ref a :: st) (S, I, R, z) Q = (((11 ≤ (S a).1 ∧ (S a).1 ≤ 13) ∧ aIx i (S a).2) ∧ RB d 116 16 [l0, l1, l2, l3] (va_rf (R a i.toNatClampNeg) :: st) (S, I, R, z) Q) := RB_aald rfl
theorem w116_16 : RB d 116 16 [l0, l1, l2, l3] (.ref a :: st) (S, I, R, z) Q = RB d 116 17 [l0, l1, l2, .ref a] st (S, I, R, z) Q := RB_astoren rfl (Nat.le_of_ble_eq_true rfl) rfl
theorem w116_16N : RB d 116 16 [l0, l1, l2, l3] (.null :: st) (S, I, R, z) Q = RB d 116 17 [l0, l1, l2, .null] st (S, I, R, z) Q := RB_astorenN rfl (Nat.le_of_ble_eq_true rfl) rfl
theorem w116_17 : RB d 116 17 [l0, l1, l2, .ref a] st (S, I, R, z) Q = RB d 116 18 [l0, l1, l2, .ref a] (.ref a :: st) (S, I, R, z) Q := RB_aloadn rfl rfl
theorem w116_17N : RB d 116 17 [l0, l1, l2, .null] st (S, I, R, z) Q = RB d 116 18 [l0, l1, l2, .null] (.null :: st) (S, I, R, z) Q := RB_aloadnN rfl rfl
theorem w116_18 : RB d 116 18 [l0, l1, l2, l3] (.ref a :: st) (S, I, R, z) Q = ((S a).1 = 1 ∧ RB d 116 21 [l0, l1, l2, l3] (.int (I a 0) :: st) (S, I, R, z) Q) := RB_getI rfl rfl
theorem w116_21 : RB d 116 21 [l0, l1, l2, l3] (.int x :: st) (S, I, R, z) Q = ((x = 0 → RB d 116 24 [l0, l1, l2, l3] st (S, I, R, z) Q) ∧ (¬ x = 0 → RB d 116 27 [l0, l1, l2, l3] st (S, I, R, z) Q)) := RB_ne0 rfl (by decide) rfl
theorem w116_24 : RB d 116 24 [l0, l1, l2, l3] st (S, I, R, z) Q = RB d 116 26 [l0, l1, l2, l3] (.int (-1000000011) :: st) (S, I, R, z) Q := RB_ldc rfl rfl
theorem w116_26 : RB d 116 26 [l0, l1, l2, l3] [.int x] (S, I, R, z) Q = Q (some (.int x)) (S, I, R, z) := RB_iret rfl rfl rfl
theorem w116_27 : RB d 116 27 [l0, l1, l2, .ref a] st (S, I, R, z) Q = RB d 116 28 [l0, l1, l2, .ref a] (.ref a :: st) (S, I, R, z) Q := RB_aloadn rfl rfl
theorem w116_27N : RB d 116 27 [l0, l1, l2, .null] st (S, I, R, z) Q = RB d 116 28 [l0, l1, l2, .null] (.null :: st) (S, I, R, z) Q := RB_aloadnN rfl rfl
theorem w116_28 : RB d 116 28 [l0, l1, l2, l3] (.ref a :: st) (S, I, R, z) Q = ((S a).1 = 1 ∧ RB d 116 31 [l0, l1, l2, l3] (.int (I a 0) :: st) (S, I, R, z) Q) := RB_getI rfl rfl
theorem w116_31 : RB d 116 31 [l0, l1, l2, l3] st (S, I, R, z) Q = RB d 116 32 [l0, l1, l2, l3] (.int 3 :: st) (S, I, R, z) Q := RB_iconst rfl ki3
theorem w116_32 : RB d 116 32 [l0, l1, l2, l3] (.int y :: .int x :: st) (S, I, R, z) Q = ((x = y → RB d 116 38 [l0, l1, l2, l3] st (S, I, R, z) Q) ∧ (¬ x = y → RB d 116 35 [l0, l1, l2, l3] st (S, I, R, z) Q)) := RB_ieq rfl (by decide) rfl
theorem w116_35 : RB d 116 35 [l0, l1, l2, l3] st (S, I, R, z) Q = RB d 116 37 [l0, l1, l2, l3] (.int (-1000000012) :: st) (S, I, R, z) Q := RB_ldc rfl rfl
theorem w116_37 : RB d 116 37 [l0, l1, l2, l3] [.int x] (S, I, R, z) Q = Q (some (.int x)) (S, I, R, z) := RB_iret rfl rfl rfl
theorem w116_38 : RB d 116 38 [l0, l1, .int x, l3] st (S, I, R, z) Q = RB d 116 39 [l0, l1, .int x, l3] (.int x :: st) (S, I, R, z) Q := RB_iloadn rfl rfl
theorem w116_39 : RB d 116 39 [l0, l1, l2, l3] (.int x :: st) (S, I, R, z) Q = ((x = 0 → RB d 116 42 [l0, l1, l2, l3] st (S, I, R, z) Q) ∧ (¬ x = 0 → RB d 116 47 [l0, l1, l2, l3] st (S, I, R, z) Q)) := RB_ne0 rfl (by decide) rfl
theorem w116_42 : RB d 116 42 [l0, l1, l2, l3] st (S, I, R, z) Q = RB d 116 44 [l0, l1, l2, l3] (.int (-1000000002) :: st) (S, I, R, z) Q := RB_ldc rfl rfl
theorem w116_44 : RB d 116 44 [l0, l1, l2, l3] st (S, I, R, z) Q = RB d 116 53 [l0, l1, l2, l3] st (S, I, R, z) Q := RB_goto rfl (by decide) rfl
theorem w116_47 : RB d 116 47 [l0, l1, l2, .ref a] st (S, I, R, z) Q = RB d 116 48 [l0, l1, l2, .ref a] (.ref a :: st) (S, I, R, z) Q := RB_aloadn rfl rfl
theorem w116_47N : RB d 116 47 [l0, l1, l2, .null] st (S, I, R, z) Q = RB d 116 48 [l0, l1, l2, .null] (.null :: st) (S, I, R, z) Q := RB_aloadnN rfl rfl
theorem w116_48 : RB d 116 48 [l0, l1, l2, l3] (.ref a :: st) (S, I, R, z) Q = ((S a).1 = 1 ∧ RB d 116 51 [l0, l1, l2, l3] (.int (I a 3) :: st) (S, I, R, z) Q) := RB_getI rfl rfl
theorem w116_51 : RB d 116 51 [l0, l1, .int x, l3] st (S, I, R, z) Q = RB d 116 52 [l0, l1, .int x, l3] (.int x :: st) (S, I, R, z) Q := RB_iloadn rfl rfl
theorem w116_52 : RB d 116 52 [l0, l1, l2, l3] (.int y :: .int x :: st) (S, I, R, z) Q = (¬ y = 0 ∧ RB d 116 53 [l0, l1, l2, l3] (.int (x % y) :: st) (S, I, R, z) Q) := RB_irem rfl
theorem w116_53 : RB d 116 53 [l0, l1, l2, l3] [.int x] (S, I, R, z) Q = Q (some (.int x)) (S, I, R, z) := RB_iret rfl rfl rfl
/-! 117: HangedWord.tell -/
theorem w117_0 : RB d 117 0 [.ref a, l1] st (S, I, R, z) Q = RB d 117 1 [.ref a, l1] (.ref a :: st) (S, I, R, z) Q := RB_aloadn rfl rfl
theorem w117_1 : RB d 117 1 [l0, l1] (.ref a :: st) (S, I, R, z) Q = ((S a).1 = 6 ∧ RB d 117 4 [l0, l1] (.int (I a 9) :: st) (S, I, R, z) Q) := RB_getI rfl rfl
theorem w117_4 : RB d 117 4 [l0, l1] st (S, I, R, z) Q = RB d 117 6 [l0, l1] (.int 60 :: st) (S, I, R, z) Q := RB_bipush rfl kb60
theorem w117_6 : RB d 117 6 [l0, l1] (.int y :: .int x :: st) (S, I, R, z) Q = ((x < y → RB d 117 12 [l0, l1] st (S, I, R, z) Q) ∧ (¬ x < y → RB d 117 9 [l0, l1] st (S, I, R, z) Q)) := RB_ilt rfl (by decide) rfl
theorem w117_9 : RB d 117 9 [l0, l1] st (S, I, R, z) Q = RB d 117 11 [l0, l1] (.int (-1000000003) :: st) (S, I, R, z) Q := RB_ldc rfl rfl
theorem w117_11 : RB d 117 11 [l0, l1] [.int x] (S, I, R, z) Q = Q (some (.int x)) (S, I, R, z) := RB_iret rfl rfl rfl
theorem w117_12 : RB d 117 12 [.ref a, l1] st (S, I, R, z) Q = RB d 117 13 [.ref a, l1] (.ref a :: st) (S, I, R, z) Q := RB_aloadn rfl rfl
theorem w117_13 : RB d 117 13 [l0, l1] (.ref a :: st) (S, I, R, z) Q = ((S a).1 = 6 ∧ RB d 117 16 [l0, l1] (va_rf (R a 7) :: st) (S, I, R, z) Q) := RB_getR rfl rfl
theorem w117_16 : RB d 117 16 [.ref a, l1] st (S, I, R, z) Q = RB d 117 17 [.ref a, l1] (.ref a :: st) (S, I, R, z) Q := RB_aloadn rfl rfl
theorem w117_17 : RB d 117 17 [l0, l1] (.ref a :: st) (S, I, R, z) Q = ((S a).1 = 6 ∧ RB d 117 20 [l0, l1] (.int (I a 9) :: st) (S, I, R, z) Q) := RB_getI rfl rfl
theorem w117_20 : RB d 117 20 [l0, .int x] st (S, I, R, z) Q = RB d 117 21 [l0, .int x] (.int x :: st) (S, I, R, z) Q := RB_iloadn rfl rfl
theorem w117_21 : RB d 117 21 [l0, l1] (.int x :: .int i :: .ref a :: st) (S, I, R, z) Q = (((S a).1 = 9 ∧ aIx i (S a).2 ∧ 16 ≤ a) ∧ RB d 117 22 [l0, l1] st (S, aW I a i.toNatClampNeg x, R, z) Q) := RB_iast rfl
theorem w117_22 : RB d 117 22 [.ref a, l1] st (S, I, R, z) Q = RB d 117 23 [.ref a, l1] (.ref a :: st) (S, I, R, z) Q := RB_aloadn rfl rfl
theorem w117_23 : RB d 117 23 [l0, l1] (v :: st) (S, I, R, z) Q = RB d 117 24 [l0, l1] (v :: v :: st) (S, I, R, z) Q := RB_dup rfl
theorem w117_24 : RB d 117 24 [l0, l1] (.ref a :: st) (S, I, R, z) Q = ((S a).1 = 6 ∧ RB d 117 27 [l0, l1] (.int (I a 9) :: st) (S, I, R, z) Q) := RB_getI rfl rfl
theorem w117_27 : RB d 117 27 [l0, l1] st (S, I, R, z) Q = RB d 117 28 [l0, l1] (.int 1 :: st) (S, I, R, z) Q := RB_iconst rfl ki1
theorem w117_28 : RB d 117 28 [l0, l1] (.int y :: .int x :: st) (S, I, R, z) Q = RB d 117 29 [l0, l1] (.int (x + y) :: st) (S, I, R, z) Q := RB_iadd rfl
theorem w117_29 : RB d 117 29 [l0, l1] (.int x :: .ref a :: st) (S, I, R, z) Q = (((S a).1 = 6 ∧ 6 < 8 ∧ 16 ≤ a) ∧ RB d 117 32 [l0, l1] st (S, aW I a 9 x, R, z) Q) := RB_putI rfl rfl (Or.inl rfl)
theorem w117_32 : RB d 117 32 [.ref a, l1] st (S, I, R, z) Q = RB d 117 33 [.ref a, l1] (.ref a :: st) (S, I, R, z) Q := RB_aloadn rfl rfl
theorem w117_33 : RB d 117 33 [l0, l1] (.ref a :: st) (S, I, R, z) Q = ((S a).1 = 6 ∧ RB d 117 36 [l0, l1] (.int (I a 9) :: st) (S, I, R, z) Q) := RB_getI rfl rfl
theorem w117_36 : RB d 117 36 [l0, l1] [.int x] (S, I, R, z) Q = Q (some (.int x)) (S, I, R, z) := RB_iret rfl rfl rfl
/-! 118: HangedWord.check -/
theorem w118_0 : RB d 118 0 [.ref a, l1, l2, l3, l4, l5] st (S, I, R, z) Q = RB d 118 1 [.ref a, l1, l2, l3, l4, l5] (.ref a :: st) (S, I, R, z) Q := RB_aloadn rfl rfl
theorem w118_1 : RB d 118 1 [l0, l1, l2, l3, l4, l5] (.ref a :: st) (S, I, R, z) Q = ((S a).1 = 6 ∧ RB d 118 4 [l0, l1, l2, l3, l4, l5] (.int (I a 9) :: st) (S, I, R, z) Q) := RB_getI rfl rfl
theorem w118_4 : RB d 118 4 [l0, l1, l2, l3, l4, l5] (.int x :: st) (S, I, R, z) Q = RB d 118 5 [l0, l1, l2, .int x, l4, l5] st (S, I, R, z) Q := RB_istoren rfl (Nat.le_of_ble_eq_true rfl) rfl
theorem w118_5 : RB d 118 5 [.ref a, l1, l2, l3, l4, l5] st (S, I, R, z) Q = RB d 118 6 [.ref a, l1, l2, l3, l4, l5] (.ref a :: st) (S, I, R, z) Q := RB_aloadn rfl rfl
theorem w118_6 : RB d 118 6 [l0, l1, l2, l3, l4, l5] st (S, I, R, z) Q = RB d 118 7 [l0, l1, l2, l3, l4, l5] (.int 0 :: st) (S, I, R, z) Q := RB_iconst rfl ki0
theorem w118_7 : RB d 118 7 [l0, l1, l2, l3, l4, l5] (.int x :: .ref a :: st) (S, I, R, z) Q = (((S a).1 = 6 ∧ 6 < 8 ∧ 16 ≤ a) ∧ RB d 118 10 [l0, l1, l2, l3, l4, l5] st (S, aW I a 9 x, R, z) Q) := RB_putI rfl rfl (Or.inl rfl)
theorem w118_10 : RB d 118 10 [l0, l1, .int x, l3, l4, l5] st (S, I, R, z) Q = RB d 118 11 [l0, l1, .int x, l3, l4, l5] (.int x :: st) (S, I, R, z) Q := RB_iloadn rfl rfl
theorem w118_11 : RB d 118 11 [l0, l1, l2, l3, l4, l5] st (S, I, R, z) Q = RB d 118 12 [l0, l1, l2, l3, l4, l5] (.int 1 :: st) (S, I, R, z) Q := RB_iconst rfl ki1
theorem w118_12 : RB d 118 12 [l0, l1, l2, l3, l4, l5] (.int y :: .int x :: st) (S, I, R, z) Q = ((x < y → RB d 118 31 [l0, l1, l2, l3, l4, l5] st (S, I, R, z) Q) ∧ (¬ x < y → RB d 118 15 [l0, l1, l2, l3, l4, l5] st (S, I, R, z) Q)) := RB_ilt rfl (by decide) rfl
theorem w118_15 : RB d 118 15 [l0, l1, .int x, l3, l4, l5] st (S, I, R, z) Q = RB d 118 16 [l0, l1, .int x, l3, l4, l5] (.int x :: st) (S, I, R, z) Q := RB_iloadn rfl rfl
theorem w118_16 : RB d 118 16 [l0, l1, l2, l3, l4, l5] st (S, I, R, z) Q = RB d 118 18 [l0, l1, l2, l3, l4, l5] (.int 20 :: st) (S, I, R, z) Q := RB_bipush rfl kb20
theorem w118_18 : RB d 118 18 [l0, l1, l2, l3, l4, l5] (.int y :: .int x :: st) (S, I, R, z) Q = ((y < x → RB d 118 31 [l0, l1, l2, l3, l4, l5] st (S, I, R, z) Q) ∧ (¬ y < x → RB d 118 21 [l0, l1, l2, l3, l4, l5] st (S, I, R, z) Q)) := RB_igt rfl (by decide) rfl
theorem w118_21 : RB d 118 21 [l0, .int x, l2, l3, l4, l5] st (S, I, R, z) Q = RB d 118 22 [l0, .int x, l2, l3, l4, l5] (.int x :: st) (S, I, R, z) Q := RB_iloadn rfl rfl
theorem w118_22 : RB d 118 22 [l0, l1, l2, l3, l4, l5] (.int x :: st) (S, I, R, z) Q = ((x < 0 → RB d 118 31 [l0, l1, l2, l3, l4, l5] st (S, I, R, z) Q) ∧ (¬ x < 0 → RB d 118 25 [l0, l1, l2, l3, l4, l5] st (S, I, R, z) Q)) := RB_lt0 rfl (by decide) rfl
theorem w118_25 : RB d 118 25 [l0, .int x, l2, l3, l4, l5] st (S, I, R, z) Q = RB d 118 26 [l0, .int x, l2, l3, l4, l5] (.int x :: st) (S, I, R, z) Q := RB_iloadn rfl rfl
theorem w118_26 : RB d 118 26 [l0, l1, l2, l3, l4, l5] st (S, I, R, z) Q = RB d 118 28 [l0, l1, l2, l3, l4, l5] (.int 8 :: st) (S, I, R, z) Q := RB_bipush rfl kb8
theorem w118_28 : RB d 118 28 [l0, l1, l2, l3, l4, l5] (.int y :: .int x :: st) (S, I, R, z) Q = ((x < y → RB d 118 34 [l0, l1, l2, l3, l4, l5] st (S, I, R, z) Q) ∧ (¬ x < y → RB d 118 31 [l0, l1, l2, l3, l4, l5] st (S, I, R, z) Q)) := RB_ilt rfl (by decide) rfl
theorem w118_31 : RB d 118 31 [l0, l1, l2, l3, l4, l5] st (S, I, R, z) Q = RB d 118 33 [l0, l1, l2, l3, l4, l5] (.int (-1000000001) :: st) (S, I, R, z) Q := RB_ldc rfl rfl
theorem w118_33 : RB d 118 33 [l0, l1, l2, l3, l4, l5] [.int x] (S, I, R, z) Q = Q (some (.int x)) (S, I, R, z) := RB_iret rfl rfl rfl
theorem w118_34 : RB d 118 34 [.ref a, l1, l2, l3, l4, l5] st (S, I, R, z) Q = RB d 118 35 [.ref a, l1, l2, l3, l4, l5] (.ref a :: st) (S, I, R, z) Q := RB_aloadn rfl rfl
theorem w118_35 : RB d 118 35 [l0, l1, l2, l3, l4, l5] (.ref a :: st) (S, I, R, z) Q = ((S a).1 = 6 ∧ RB d 118 38 [l0, l1, l2, l3, l4, l5] (.int (I a 8) :: st) (S, I, R, z) Q) := RB_getZ rfl rfl
theorem w118_38 : RB d 118 38 [l0, l1, l2, l3, l4, l5] (.int x :: st) (S, I, R, z) Q = ((x = 0 → RB d 118 52 [l0, l1, l2, l3, l4, l5] st (S, I, R, z) Q) ∧ (¬ x = 0 → RB d 118 41 [l0, l1, l2, l3, l4, l5] st (S, I, R, z) Q)) := RB_eq0 rfl (by decide) rfl
theorem w118_41 : RB d 118 41 [l0, .int x, l2, l3, l4, l5] st (S, I, R, z) Q = RB d 118 42 [l0, .int x, l2, l3, l4, l5] (.int x :: st) (S, I, R, z) Q := RB_iloadn rfl rfl
theorem w118_42 : RB d 118 42 [.ref a, l1, l2, l3, l4, l5] st (S, I, R, z) Q = RB d 118 43 [.ref a, l1, l2, l3, l4, l5] (.ref a :: st) (S, I, R, z) Q := RB_aloadn rfl rfl
theorem w118_43 : RB d 118 43 [l0, l1, l2, l3, l4, l5] (.ref a :: st) (S, I, R, z) Q = ((S a).1 = 6 ∧ RB d 118 46 [l0, l1, l2, l3, l4, l5] (va_rf (R a 1) :: st) (S, I, R, z) Q) := RB_getR rfl rfl
theorem w118_46 : RB d 118 46 [l0, l1, l2, l3, l4, l5] (.ref a :: st) (S, I, R, z) Q = ((S a).1 = 2 ∧ RB d 118 49 [l0, l1, l2, l3, l4, l5] (.int (I a 6) :: st) (S, I, R, z) Q) := RB_getI rfl rfl
theorem w118_49 : RB d 118 49 [l0, l1, l2, l3, l4, l5] (.int y :: .int x :: st) (S, I, R, z) Q = ((x < y → RB d 118 55 [l0, l1, l2, l3, l4, l5] st (S, I, R, z) Q) ∧ (¬ x < y → RB d 118 52 [l0, l1, l2, l3, l4, l5] st (S, I, R, z) Q)) := RB_ilt rfl (by decide) rfl
theorem w118_52 : RB d 118 52 [l0, l1, l2, l3, l4, l5] st (S, I, R, z) Q = RB d 118 54 [l0, l1, l2, l3, l4, l5] (.int (-1000000002) :: st) (S, I, R, z) Q := RB_ldc rfl rfl
theorem w118_54 : RB d 118 54 [l0, l1, l2, l3, l4, l5] [.int x] (S, I, R, z) Q = Q (some (.int x)) (S, I, R, z) := RB_iret rfl rfl rfl
theorem w118_55 : RB d 118 55 [.ref a, l1, l2, l3, l4, l5] st (S, I, R, z) Q = RB d 118 56 [.ref a, l1, l2, l3, l4, l5] (.ref a :: st) (S, I, R, z) Q := RB_aloadn rfl rfl
theorem w118_56 : RB d 118 56 [l0, l1, l2, l3, l4, l5] (.ref a :: st) (S, I, R, z) Q = ((S a).1 = 6 ∧ RB d 118 59 [l0, l1, l2, l3, l4, l5] (va_rf (R a 2) :: st) (S, I, R, z) Q) := RB_getR rfl rfl
theorem w118_59 : RB d 118 59 [.ref a, l1, l2, l3, l4, l5] st (S, I, R, z) Q = RB d 118 60 [.ref a, l1, l2, l3, l4, l5] (.ref a :: st) (S, I, R, z) Q := RB_aloadn rfl rfl
theorem w118_60 : RB d 118 60 [l0, l1, l2, l3, l4, l5] (.ref a :: st) (S, I, R, z) Q = ((S a).1 = 6 ∧ RB d 118 63 [l0, l1, l2, l3, l4, l5] (va_rf (R a 1) :: st) (S, I, R, z) Q) := RB_getR rfl rfl
theorem w118_63 : RB d 118 63 [l0, l1, l2, l3, l4, l5] [v0, .ref a] (S, I, R, z) Q = ((S a).1 = 2 ∧ RM d 9 [.ref a, v0] (S, I, R, z) (fun v τ => RB d 118 66 [l0, l1, l2, l3, l4, l5] (aPush v []) τ Q)) := RB_callV (n := 2) (t := 0) (k := 200) (ins := .invokevirtual 200) rfl rfl rfl (by decide) (Nat.le_of_ble_eq_true rfl) (Nat.le_of_ble_eq_true rfl) rfl rfl
theorem w118_66 : RB d 118 66 [l0, l1, l2, l3, l4, l5] st (S, I, R, z) Q = RB d 118 67 [l0, l1, l2, l3, l4, l5] (.int 0 :: st) (S, I, R, z) Q := RB_iconst rfl ki0
theorem w118_67 : RB d 118 67 [l0, l1, l2, l3, l4, l5] (.int x :: st) (S, I, R, z) Q = RB d 118 69 [l0, l1, l2, l3, .int x, l5] st (S, I, R, z) Q := RB_istore rfl (Nat.le_of_ble_eq_true rfl) rfl
theorem w118_69 : RB d 118 69 [l0, l1, l2, l3, l4, l5] st (S, I, R, z) Q = RB d 118 70 [l0, l1, l2, l3, l4, l5] (.int 0 :: st) (S, I, R, z) Q := RB_iconst rfl ki0
theorem w118_70 : RB d 118 70 [l0, l1, l2, l3, l4, l5] (.int x :: st) (S, I, R, z) Q = RB d 118 72 [l0, l1, l2, l3, l4, .int x] st (S, I, R, z) Q := RB_istore rfl (Nat.le_of_ble_eq_true rfl) rfl
theorem w118_72 : RB d 118 72 [l0, l1, l2, l3, l4, .int x] st (S, I, R, z) Q = RB d 118 74 [l0, l1, l2, l3, l4, .int x] (.int x :: st) (S, I, R, z) Q := RB_iload rfl rfl
theorem w118_74 : RB d 118 74 [l0, l1, .int x, l3, l4, l5] st (S, I, R, z) Q = RB d 118 75 [l0, l1, .int x, l3, l4, l5] (.int x :: st) (S, I, R, z) Q := RB_iloadn rfl rfl
theorem w118_75 : RB d 118 75 [l0, l1, l2, l3, l4, l5] (.int y :: .int x :: st) (S, I, R, z) Q = ((y ≤ x → RB d 118 161 [l0, l1, l2, l3, l4, l5] st (S, I, R, z) Q) ∧ (¬ y ≤ x → RB d 118 78 [l0, l1, l2, l3, l4, l5] st (S, I, R, z) Q)) := RB_ige rfl (by decide) rfl
theorem w118_78 : RB d 118 78 [.ref a, l1, l2, l3, l4, l5] st (S, I, R, z) Q = RB d 118 79 [.ref a, l1, l2, l3, l4, l5] (.ref a :: st) (S, I, R, z) Q := RB_aloadn rfl rfl
theorem w118_79 : RB d 118 79 [l0, l1, l2, l3, l4, l5] (.ref a :: st) (S, I, R, z) Q = ((S a).1 = 6 ∧ RB d 118 82 [l0, l1, l2, l3, l4, l5] (va_rf (R a 2) :: st) (S, I, R, z) Q) := RB_getR rfl rfl
theorem w118_82 : RB d 118 82 [l0, l1, l2, l3, l4, l5] [.ref a] (S, I, R, z) Q = ((S a).1 = 2 ∧ RM d 35 [.ref a] (S, I, R, z) (fun v τ => RB d 118 85 [l0, l1, l2, l3, l4, l5] (aPush v []) τ Q)) := RB_callV (n := 1) (t := 0) (k := 166) (ins := .invokevirtual 166) rfl rfl rfl (by decide) (Nat.le_of_ble_eq_true rfl) (Nat.le_of_ble_eq_true rfl) rfl rfl
theorem w118_85 : RB d 118 85 [.ref a, l1, l2, l3, l4, l5] st (S, I, R, z) Q = RB d 118 86 [.ref a, l1, l2, l3, l4, l5] (.ref a :: st) (S, I, R, z) Q := RB_aloadn rfl rfl
theorem w118_86 : RB d 118 86 [l0, l1, l2, l3, l4, l5] (.ref a :: st) (S, I, R, z) Q = ((S a).1 = 6 ∧ RB d 118 89 [l0, l1, l2, l3, l4, l5] (va_rf (R a 2) :: st) (S, I, R, z) Q) := RB_getR rfl rfl
theorem w118_89 : RB d 118 89 [l0, .int x, l2, l3, l4, l5] st (S, I, R, z) Q = RB d 118 90 [l0, .int x, l2, l3, l4, l5] (.int x :: st) (S, I, R, z) Q := RB_iloadn rfl rfl
theorem w118_90 : RB d 118 90 [l0, l1, l2, l3, l4, l5] [.int x0, .ref a] (S, I, R, z) Q = ((S a).1 = 2 ∧ RM d 34 [.ref a, .int x0] (S, I, R, z) (fun v τ => RB d 118 93 [l0, l1, l2, l3, l4, l5] (aPush v []) τ Q)) := RB_callV (n := 2) (t := 0) (k := 160) (ins := .invokevirtual 160) rfl rfl rfl (by decide) (Nat.le_of_ble_eq_true rfl) (Nat.le_of_ble_eq_true rfl) rfl rfl
theorem w118_93 : RB d 118 93 [l0, l1, l2, l3, .int x, l5] st (S, I, R, z) Q = RB d 118 95 [l0, l1, l2, l3, .int x, l5] (.int x :: st) (S, I, R, z) Q := RB_iload rfl rfl
theorem w118_95 : RB d 118 95 [l0, l1, l2, .int x, l4, l5] st (S, I, R, z) Q = RB d 118 96 [l0, l1, l2, .int x, l4, l5] (.int x :: st) (S, I, R, z) Q := RB_iloadn rfl rfl
theorem w118_96 : RB d 118 96 [l0, l1, l2, l3, l4, l5] (.int y :: .int x :: st) (S, I, R, z) Q = ((y ≤ x → RB d 118 116 [l0, l1, l2, l3, l4, l5] st (S, I, R, z) Q) ∧ (¬ y ≤ x → RB d 118 99 [l0, l1, l2, l3, l4, l5] st (S, I, R, z) Q)) := RB_ige rfl (by decide) rfl
theorem w118_99 : RB d 118 99 [.ref a, l1, l2, l3, l4, l5] st (S, I, R, z) Q = RB d 118 100 [.ref a, l1, l2, l3, l4, l5] (.ref a :: st) (S, I, R, z) Q := RB_aloadn rfl rfl
theorem w118_100 : RB d 118 100 [l0, l1, l2, l3, l4, l5] (.ref a :: st) (S, I, R, z) Q = ((S a).1 = 6 ∧ RB d 118 103 [l0, l1, l2, l3, l4, l5] (va_rf (R a 7) :: st) (S, I, R, z) Q) := RB_getR rfl rfl
theorem w118_103 : RB d 118 103 [l0, l1, l2, l3, .int x, l5] st (S, I, R, z) Q = RB d 118 105 [l0, l1, l2, l3, .int x, l5] (.int x :: st) (S, I, R, z) Q := RB_iload rfl rfl
theorem w118_105 : RB d 118 105 [l0, l1, l2, l3, l4, l5] (.int i :: .ref a :: st) (S, I, R, z) Q = (((S a).1 = 9 ∧ aIx i (S a).2) ∧ RB d 118 106 [l0, l1, l2, l3, l4, l5] (.int (I a i.toNatClampNeg) :: st) (S, I, R, z) Q) := RB_iald rfl
theorem w118_106 : RB d 118 106 [.ref a, l1, l2, l3, l4, l5] st (S, I, R, z) Q = RB d 118 107 [.ref a, l1, l2, l3, l4, l5] (.ref a :: st) (S, I, R, z) Q := RB_aloadn rfl rfl
theorem w118_107 : RB d 118 107 [l0, l1, l2, l3, l4, l5] (.ref a :: st) (S, I, R, z) Q = ((S a).1 = 6 ∧ RB d 118 110 [l0, l1, l2, l3, l4, l5] (va_rf (R a 2) :: st) (S, I, R, z) Q) := RB_getR rfl rfl
theorem w118_110 : RB d 118 110 [l0, l1, l2, l3, l4, l5] (.ref a :: st) (S, I, R, z) Q = ((S a).1 = 2 ∧ RB d 118 113 [l0, l1, l2, l3, l4, l5] (.int (I a 7) :: st) (S, I, R, z) Q) := RB_getI rfl rfl
theorem w118_113 : RB d 118 113 [l0, l1, l2, l3, l4, l5] (.int y :: .int x :: st) (S, I, R, z) Q = ((x = y → RB d 118 121 [l0, l1, l2, l3, l4, l5] st (S, I, R, z) Q) ∧ (¬ x = y → RB d 118 116 [l0, l1, l2, l3, l4, l5] st (S, I, R, z) Q)) := RB_ieq rfl (by decide) rfl
theorem w118_116 : RB d 118 116 [l0, l1, l2, l3, l4, l5] st (S, I, R, z) Q = RB d 118 117 [l0, l1, l2, l3, l4, l5] (.int 1 :: st) (S, I, R, z) Q := RB_iconst rfl ki1
theorem w118_117 : RB d 118 117 [l0, l1, l2, l3, .int x, l5] st (S, I, R, z) Q = RB d 118 119 [l0, l1, l2, l3, .int x, l5] (.int x :: st) (S, I, R, z) Q := RB_iload rfl rfl
theorem w118_119 : RB d 118 119 [l0, l1, l2, l3, l4, l5] (.int y :: .int x :: st) (S, I, R, z) Q = RB d 118 120 [l0, l1, l2, l3, l4, l5] (.int (x + y) :: st) (S, I, R, z) Q := RB_iadd rfl
theorem w118_120 : RB d 118 120 [l0, l1, l2, l3, l4, l5] [.int x] (S, I, R, z) Q = Q (some (.int x)) (S, I, R, z) := RB_iret rfl rfl rfl
theorem w118_121 : RB d 118 121 [l0, l1, l2, l3, .int x, l5] st (S, I, R, z) Q = RB d 118 124 [l0, l1, l2, l3, .int (x + 1), l5] st (S, I, R, z) Q := RB_iinc rfl rfl (Nat.le_of_ble_eq_true rfl) ki1 rfl
theorem w118_124 : RB d 118 124 [l0, l1, l2, l3, .int x, l5] st (S, I, R, z) Q = RB d 118 126 [l0, l1, l2, l3, .int x, l5] (.int x :: st) (S, I, R, z) Q := RB_iload rfl rfl
theorem w118_126 : RB d 118 126 [l0, l1, l2, .int x, l4, l5] st (S, I, R, z) Q = RB d 118 127 [l0, l1, l2, .int x, l4, l5] (.int x :: st) (S, I, R, z) Q := RB_iloadn rfl rfl
theorem w118_127 : RB d 118 127 [l0, l1, l2, l3, l4, l5] (.int y :: .int x :: st) (S, I, R, z) Q = ((y ≤ x → RB d 118 147 [l0, l1, l2, l3, l4, l5] st (S, I, R, z) Q) ∧ (¬ y ≤ x → RB d 118 130 [l0, l1, l2, l3, l4, l5] st (S, I, R, z) Q)) := RB_ige rfl (by decide) rfl
theorem w118_130 : RB d 118 130 [.ref a, l1, l2, l3, l4, l5] st (S, I, R, z) Q = RB d 118 131 [.ref a, l1, l2, l3, l4, l5] (.ref a :: st) (S, I, R, z) Q := RB_aloadn rfl rfl
theorem w118_131 : RB d 118 131 [l0, l1, l2, l3, l4, l5] (.ref a :: st) (S, I, R, z) Q = ((S a).1 = 6 ∧ RB d 118 134 [l0, l1, l2, l3, l4, l5] (va_rf (R a 7) :: st) (S, I, R, z) Q) := RB_getR rfl rfl
theorem w118_134 : RB d 118 134 [l0, l1, l2, l3, .int x, l5] st (S, I, R, z) Q = RB d 118 136 [l0, l1, l2, l3, .int x, l5] (.int x :: st) (S, I, R, z) Q := RB_iload rfl rfl
theorem w118_136 : RB d 118 136 [l0, l1, l2, l3, l4, l5] (.int i :: .ref a :: st) (S, I, R, z) Q = (((S a).1 = 9 ∧ aIx i (S a).2) ∧ RB d 118 137 [l0, l1, l2, l3, l4, l5] (.int (I a i.toNatClampNeg) :: st) (S, I, R, z) Q) := RB_iald rfl
theorem w118_137 : RB d 118 137 [.ref a, l1, l2, l3, l4, l5] st (S, I, R, z) Q = RB d 118 138 [.ref a, l1, l2, l3, l4, l5] (.ref a :: st) (S, I, R, z) Q := RB_aloadn rfl rfl
theorem w118_138 : RB d 118 138 [l0, l1, l2, l3, l4, l5] (.ref a :: st) (S, I, R, z) Q = ((S a).1 = 6 ∧ RB d 118 141 [l0, l1, l2, l3, l4, l5] (va_rf (R a 2) :: st) (S, I, R, z) Q) := RB_getR rfl rfl
theorem w118_141 : RB d 118 141 [l0, l1, l2, l3, l4, l5] (.ref a :: st) (S, I, R, z) Q = ((S a).1 = 2 ∧ RB d 118 144 [l0, l1, l2, l3, l4, l5] (.int (I a 9) :: st) (S, I, R, z) Q) := RB_getI rfl rfl
theorem w118_144 : RB d 118 144 [l0, l1, l2, l3, l4, l5] (.int y :: .int x :: st) (S, I, R, z) Q = ((x = y → RB d 118 152 [l0, l1, l2, l3, l4, l5] st (S, I, R, z) Q) ∧ (¬ x = y → RB d 118 147 [l0, l1, l2, l3, l4, l5] st (S, I, R, z) Q)) := RB_ieq rfl (by decide) rfl
theorem w118_147 : RB d 118 147 [l0, l1, l2, l3, l4, l5] st (S, I, R, z) Q = RB d 118 148 [l0, l1, l2, l3, l4, l5] (.int 1 :: st) (S, I, R, z) Q := RB_iconst rfl ki1
theorem w118_148 : RB d 118 148 [l0, l1, l2, l3, .int x, l5] st (S, I, R, z) Q = RB d 118 150 [l0, l1, l2, l3, .int x, l5] (.int x :: st) (S, I, R, z) Q := RB_iload rfl rfl
theorem w118_150 : RB d 118 150 [l0, l1, l2, l3, l4, l5] (.int y :: .int x :: st) (S, I, R, z) Q = RB d 118 151 [l0, l1, l2, l3, l4, l5] (.int (x + y) :: st) (S, I, R, z) Q := RB_iadd rfl
theorem w118_151 : RB d 118 151 [l0, l1, l2, l3, l4, l5] [.int x] (S, I, R, z) Q = Q (some (.int x)) (S, I, R, z) := RB_iret rfl rfl rfl
theorem w118_152 : RB d 118 152 [l0, l1, l2, l3, .int x, l5] st (S, I, R, z) Q = RB d 118 155 [l0, l1, l2, l3, .int (x + 1), l5] st (S, I, R, z) Q := RB_iinc rfl rfl (Nat.le_of_ble_eq_true rfl) ki1 rfl
theorem w118_155 : RB d 118 155 [l0, l1, l2, l3, l4, .int x] st (S, I, R, z) Q = RB d 118 158 [l0, l1, l2, l3, l4, .int (x + 1)] st (S, I, R, z) Q := RB_iinc rfl rfl (Nat.le_of_ble_eq_true rfl) ki1 rfl
theorem w118_158 : RB d 118 158 [l0, l1, l2, l3, l4, l5] st (S, I, R, z) Q = RB d 118 72 [l0, l1, l2, l3, l4, l5] st (S, I, R, z) Q := RB_goto rfl (by decide) rfl
theorem w118_161 : RB d 118 161 [l0, l1, l2, l3, .int x, l5] st (S, I, R, z) Q = RB d 118 163 [l0, l1, l2, l3, .int x, l5] (.int x :: st) (S, I, R, z) Q := RB_iload rfl rfl
theorem w118_163 : RB d 118 163 [l0, l1, l2, .int x, l4, l5] st (S, I, R, z) Q = RB d 118 164 [l0, l1, l2, .int x, l4, l5] (.int x :: st) (S, I, R, z) Q := RB_iloadn rfl rfl
theorem w118_164 : RB d 118 164 [l0, l1, l2, l3, l4, l5] (.int y :: .int x :: st) (S, I, R, z) Q = ((y ≤ x → RB d 118 174 [l0, l1, l2, l3, l4, l5] st (S, I, R, z) Q) ∧ (¬ y ≤ x → RB d 118 167 [l0, l1, l2, l3, l4, l5] st (S, I, R, z) Q)) := RB_ige rfl (by decide) rfl
theorem w118_167 : RB d 118 167 [l0, l1, l2, l3, l4, l5] st (S, I, R, z) Q = RB d 118 168 [l0, l1, l2, l3, l4, l5] (.int 1 :: st) (S, I, R, z) Q := RB_iconst rfl ki1
theorem w118_168 : RB d 118 168 [l0, l1, l2, l3, .int x, l5] st (S, I, R, z) Q = RB d 118 170 [l0, l1, l2, l3, .int x, l5] (.int x :: st) (S, I, R, z) Q := RB_iload rfl rfl
theorem w118_170 : RB d 118 170 [l0, l1, l2, l3, l4, l5] (.int y :: .int x :: st) (S, I, R, z) Q = RB d 118 171 [l0, l1, l2, l3, l4, l5] (.int (x + y) :: st) (S, I, R, z) Q := RB_iadd rfl
theorem w118_171 : RB d 118 171 [l0, l1, l2, l3, l4, l5] st (S, I, R, z) Q = RB d 118 175 [l0, l1, l2, l3, l4, l5] st (S, I, R, z) Q := RB_goto rfl (by decide) rfl
theorem w118_174 : RB d 118 174 [l0, l1, l2, l3, l4, l5] st (S, I, R, z) Q = RB d 118 175 [l0, l1, l2, l3, l4, l5] (.int 0 :: st) (S, I, R, z) Q := RB_iconst rfl ki0
theorem w118_175 : RB d 118 175 [l0, l1, l2, l3, l4, l5] [.int x] (S, I, R, z) Q = Q (some (.int x)) (S, I, R, z) := RB_iret rfl rfl rfl
/-! 119: HangedWord.keep -/
theorem w119_0 : RB d 119 0 [.ref a] st (S, I, R, z) Q = RB d 119 1 [.ref a] (.ref a :: st) (S, I, R, z) Q := RB_aloadn rfl rfl
theorem w119_1 : RB d 119 1 [l0] (.ref a :: st) (S, I, R, z) Q = ((S a).1 = 6 ∧ RB d 119 4 [l0] (va_rf (R a 1) :: st) (S, I, R, z) Q) := RB_getR rfl rfl
theorem w119_4 : RB d 119 4 [.ref a] st (S, I, R, z) Q = RB d 119 5 [.ref a] (.ref a :: st) (S, I, R, z) Q := RB_aloadn rfl rfl
theorem w119_5 : RB d 119 5 [l0] (.ref a :: st) (S, I, R, z) Q = ((S a).1 = 6 ∧ RB d 119 8 [l0] (va_rf (R a 0) :: st) (S, I, R, z) Q) := RB_getR rfl rfl
theorem w119_8 : RB d 119 8 [l0] [v0, .ref a] (S, I, R, z) Q = ((S a).1 = 2 ∧ RM d 9 [.ref a, v0] (S, I, R, z) (fun v τ => RB d 119 11 [l0] (aPush v []) τ Q)) := RB_callV (n := 2) (t := 0) (k := 200) (ins := .invokevirtual 200) rfl rfl rfl (by decide) (Nat.le_of_ble_eq_true rfl) (Nat.le_of_ble_eq_true rfl) rfl rfl
theorem w119_11 : RB d 119 11 [.ref a] st (S, I, R, z) Q = RB d 119 12 [.ref a] (.ref a :: st) (S, I, R, z) Q := RB_aloadn rfl rfl
theorem w119_12 : RB d 119 12 [l0] st (S, I, R, z) Q = RB d 119 13 [l0] (.int 1 :: st) (S, I, R, z) Q := RB_iconst rfl ki1
theorem w119_13 : RB d 119 13 [l0] (.int x :: .ref a :: st) (S, I, R, z) Q = (((S a).1 = 6 ∧ 6 < 8 ∧ 16 ≤ a) ∧ (x = 0 ∨ x = 1) ∧ RB d 119 16 [l0] st (S, aW I a 8 x, R, z) Q) := RB_putZ rfl rfl (Or.inl rfl)
theorem w119_16 : RB d 119 16 [.ref a] st (S, I, R, z) Q = RB d 119 17 [.ref a] (.ref a :: st) (S, I, R, z) Q := RB_aloadn rfl rfl
theorem w119_17 : RB d 119 17 [l0] (.ref a :: st) (S, I, R, z) Q = ((S a).1 = 6 ∧ RB d 119 20 [l0] (va_rf (R a 0) :: st) (S, I, R, z) Q) := RB_getR rfl rfl
theorem w119_20 : RB d 119 20 [l0] (.ref a :: st) (S, I, R, z) Q = ((S a).1 = 2 ∧ RB d 119 23 [l0] (.int (I a 3) :: st) (S, I, R, z) Q) := RB_getI rfl rfl
theorem w119_23 : RB d 119 23 [l0] [.int x] (S, I, R, z) Q = Q (some (.int x)) (S, I, R, z) := RB_iret rfl rfl rfl
/-! 120: HangedWord.back -/
theorem w120_0 : RB d 120 0 [.ref a] st (S, I, R, z) Q = RB d 120 1 [.ref a] (.ref a :: st) (S, I, R, z) Q := RB_aloadn rfl rfl
theorem w120_1 : RB d 120 1 [l0] (.ref a :: st) (S, I, R, z) Q = ((S a).1 = 6 ∧ RB d 120 4 [l0] (.int (I a 8) :: st) (S, I, R, z) Q) := RB_getZ rfl rfl
theorem w120_4 : RB d 120 4 [l0] (.int x :: st) (S, I, R, z) Q = ((x = 0 → RB d 120 7 [l0] st (S, I, R, z) Q) ∧ (¬ x = 0 → RB d 120 10 [l0] st (S, I, R, z) Q)) := RB_ne0 rfl (by decide) rfl
theorem w120_7 : RB d 120 7 [l0] st (S, I, R, z) Q = RB d 120 9 [l0] (.int (-1000000002) :: st) (S, I, R, z) Q := RB_ldc rfl rfl
theorem w120_9 : RB d 120 9 [l0] [.int x] (S, I, R, z) Q = Q (some (.int x)) (S, I, R, z) := RB_iret rfl rfl rfl
theorem w120_10 : RB d 120 10 [.ref a] st (S, I, R, z) Q = RB d 120 11 [.ref a] (.ref a :: st) (S, I, R, z) Q := RB_aloadn rfl rfl
theorem w120_11 : RB d 120 11 [l0] (.ref a :: st) (S, I, R, z) Q = ((S a).1 = 6 ∧ RB d 120 14 [l0] (va_rf (R a 0) :: st) (S, I, R, z) Q) := RB_getR rfl rfl
theorem w120_14 : RB d 120 14 [.ref a] st (S, I, R, z) Q = RB d 120 15 [.ref a] (.ref a :: st) (S, I, R, z) Q := RB_aloadn rfl rfl
theorem w120_15 : RB d 120 15 [l0] (.ref a :: st) (S, I, R, z) Q = ((S a).1 = 6 ∧ RB d 120 18 [l0] (va_rf (R a 1) :: st) (S, I, R, z) Q) := RB_getR rfl rfl
theorem w120_18 : RB d 120 18 [l0] [v0, .ref a] (S, I, R, z) Q = ((S a).1 = 2 ∧ RM d 9 [.ref a, v0] (S, I, R, z) (fun v τ => RB d 120 21 [l0] (aPush v []) τ Q)) := RB_callV (n := 2) (t := 0) (k := 200) (ins := .invokevirtual 200) rfl rfl rfl (by decide) (Nat.le_of_ble_eq_true rfl) (Nat.le_of_ble_eq_true rfl) rfl rfl
theorem w120_21 : RB d 120 21 [.ref a] st (S, I, R, z) Q = RB d 120 22 [.ref a] (.ref a :: st) (S, I, R, z) Q := RB_aloadn rfl rfl
theorem w120_22 : RB d 120 22 [l0] (.ref a :: st) (S, I, R, z) Q = ((S a).1 = 6 ∧ RB d 120 25 [l0] (va_rf (R a 0) :: st) (S, I, R, z) Q) := RB_getR rfl rfl
theorem w120_25 : RB d 120 25 [l0] (.ref a :: st) (S, I, R, z) Q = ((S a).1 = 2 ∧ RB d 120 28 [l0] (.int (I a 3) :: st) (S, I, R, z) Q) := RB_getI rfl rfl
theorem w120_28 : RB d 120 28 [l0] [.int x] (S, I, R, z) Q = Q (some (.int x)) (S, I, R, z) := RB_iret rfl rfl rfl
/-! 121: HangedWord.count -/
theorem w121_0 : RB d 121 0 [l0, .int x] st (S, I, R, z) Q = RB d 121 1 [l0, .int x] (.int x :: st) (S, I, R, z) Q := RB_iloadn rfl rfl
theorem w121_1 : RB d 121 1 [l0, l1] (.int x :: st) (S, I, R, z) Q = aTsR d 121 1 x 124 [l0, l1] st (S, I, R, z) Q [(0, 52), (1, 60), (2, 68), (3, 79), (4, 87), (5, 95), (6, 103), (7, 108), (8, 116)] := RB_ts rfl (by decide) (by decide) (by decide) (by decide +kernel) rfl
theorem w121_52 : RB d 121 52 [.ref a, l1] st (S, I, R, z) Q = RB d 121 53 [.ref a, l1] (.ref a :: st) (S, I, R, z) Q := RB_aloadn rfl rfl
theorem w121_53 : RB d 121 53 [l0, l1] (.ref a :: st) (S, I, R, z) Q = ((S a).1 = 6 ∧ RB d 121 56 [l0, l1] (va_rf (R a 0) :: st) (S, I, R, z) Q) := RB_getR rfl rfl
theorem w121_56 : RB d 121 56 [l0, l1] (.ref a :: st) (S, I, R, z) Q = ((S a).1 = 2 ∧ RB d 121 59 [l0, l1] (.int (I a 3) :: st) (S, I, R, z) Q) := RB_getI rfl rfl
theorem w121_59 : RB d 121 59 [l0, l1] [.int x] (S, I, R, z) Q = Q (some (.int x)) (S, I, R, z) := RB_iret rfl rfl rfl
theorem w121_60 : RB d 121 60 [.ref a, l1] st (S, I, R, z) Q = RB d 121 61 [.ref a, l1] (.ref a :: st) (S, I, R, z) Q := RB_aloadn rfl rfl
theorem w121_61 : RB d 121 61 [l0, l1] (.ref a :: st) (S, I, R, z) Q = ((S a).1 = 6 ∧ RB d 121 64 [l0, l1] (va_rf (R a 0) :: st) (S, I, R, z) Q) := RB_getR rfl rfl
theorem w121_64 : RB d 121 64 [l0, l1] (.ref a :: st) (S, I, R, z) Q = ((S a).1 = 2 ∧ RB d 121 67 [l0, l1] (.int (I a 6) :: st) (S, I, R, z) Q) := RB_getI rfl rfl
theorem w121_67 : RB d 121 67 [l0, l1] [.int x] (S, I, R, z) Q = Q (some (.int x)) (S, I, R, z) := RB_iret rfl rfl rfl
theorem w121_68 : RB d 121 68 [.ref a, l1] st (S, I, R, z) Q = RB d 121 69 [.ref a, l1] (.ref a :: st) (S, I, R, z) Q := RB_aloadn rfl rfl
theorem w121_69 : RB d 121 69 [l0, l1] (.ref a :: st) (S, I, R, z) Q = ((S a).1 = 6 ∧ RB d 121 72 [l0, l1] (va_rf (R a 0) :: st) (S, I, R, z) Q) := RB_getR rfl rfl
theorem w121_72 : RB d 121 72 [l0, l1] (.ref a :: st) (S, I, R, z) Q = ((S a).1 = 2 ∧ RB d 121 75 [l0, l1] (.int (I a 8) :: st) (S, I, R, z) Q) := RB_getI rfl rfl
theorem w121_75 : RB d 121 75 [l0, l1] [.int x0] (S, I, R, z) Q = RM d 250 [.int x0] (S, I, R, z) (fun v τ => RB d 121 78 [l0, l1] (aPush v []) τ Q) := RB_callS (n := 1) (t := 1) (k := 145) (ins := .invokestatic 145) rfl rfl rfl (Nat.le_of_ble_eq_true rfl) (Nat.le_of_ble_eq_true rfl) rfl rfl
theorem w121_78 : RB d 121 78 [l0, l1] [.int x] (S, I, R, z) Q = Q (some (.int x)) (S, I, R, z) := RB_iret rfl rfl rfl
theorem w121_79 : RB d 121 79 [.ref a, l1] st (S, I, R, z) Q = RB d 121 80 [.ref a, l1] (.ref a :: st) (S, I, R, z) Q := RB_aloadn rfl rfl
theorem w121_80 : RB d 121 80 [l0, l1] (.ref a :: st) (S, I, R, z) Q = ((S a).1 = 6 ∧ RB d 121 83 [l0, l1] (va_rf (R a 0) :: st) (S, I, R, z) Q) := RB_getR rfl rfl
theorem w121_83 : RB d 121 83 [l0, l1] (.ref a :: st) (S, I, R, z) Q = ((S a).1 = 2 ∧ RB d 121 86 [l0, l1] (.int (I a 9) :: st) (S, I, R, z) Q) := RB_getI rfl rfl
theorem w121_86 : RB d 121 86 [l0, l1] [.int x] (S, I, R, z) Q = Q (some (.int x)) (S, I, R, z) := RB_iret rfl rfl rfl
theorem w121_87 : RB d 121 87 [.ref a, l1] st (S, I, R, z) Q = RB d 121 88 [.ref a, l1] (.ref a :: st) (S, I, R, z) Q := RB_aloadn rfl rfl
theorem w121_88 : RB d 121 88 [l0, l1] (.ref a :: st) (S, I, R, z) Q = ((S a).1 = 6 ∧ RB d 121 91 [l0, l1] (va_rf (R a 0) :: st) (S, I, R, z) Q) := RB_getR rfl rfl
theorem w121_91 : RB d 121 91 [l0, l1] (.ref a :: st) (S, I, R, z) Q = ((S a).1 = 2 ∧ RB d 121 94 [l0, l1] (.int (I a 10) :: st) (S, I, R, z) Q) := RB_getI rfl rfl
theorem w121_94 : RB d 121 94 [l0, l1] [.int x] (S, I, R, z) Q = Q (some (.int x)) (S, I, R, z) := RB_iret rfl rfl rfl
theorem w121_95 : RB d 121 95 [.ref a, l1] st (S, I, R, z) Q = RB d 121 96 [.ref a, l1] (.ref a :: st) (S, I, R, z) Q := RB_aloadn rfl rfl
theorem w121_96 : RB d 121 96 [l0, l1] (.ref a :: st) (S, I, R, z) Q = ((S a).1 = 6 ∧ RB d 121 99 [l0, l1] (va_rf (R a 0) :: st) (S, I, R, z) Q) := RB_getR rfl rfl
theorem w121_99 : RB d 121 99 [l0, l1] (.ref a :: st) (S, I, R, z) Q = ((S a).1 = 2 ∧ RB d 121 102 [l0, l1] (.int (I a 13) :: st) (S, I, R, z) Q) := RB_getI rfl rfl
theorem w121_102 : RB d 121 102 [l0, l1] [.int x] (S, I, R, z) Q = Q (some (.int x)) (S, I, R, z) := RB_iret rfl rfl rfl
theorem w121_103 : RB d 121 103 [.ref a, l1] st (S, I, R, z) Q = RB d 121 104 [.ref a, l1] (.ref a :: st) (S, I, R, z) Q := RB_aloadn rfl rfl
theorem w121_104 : RB d 121 104 [l0, l1] (.ref a :: st) (S, I, R, z) Q = ((S a).1 = 6 ∧ RB d 121 107 [l0, l1] (.int (I a 9) :: st) (S, I, R, z) Q) := RB_getI rfl rfl
theorem w121_107 : RB d 121 107 [l0, l1] [.int x] (S, I, R, z) Q = Q (some (.int x)) (S, I, R, z) := RB_iret rfl rfl rfl
theorem w121_108 : RB d 121 108 [.ref a, l1] st (S, I, R, z) Q = RB d 121 109 [.ref a, l1] (.ref a :: st) (S, I, R, z) Q := RB_aloadn rfl rfl
theorem w121_109 : RB d 121 109 [l0, l1] (.ref a :: st) (S, I, R, z) Q = ((S a).1 = 6 ∧ RB d 121 112 [l0, l1] (va_rf (R a 6) :: st) (S, I, R, z) Q) := RB_getR rfl rfl
theorem w121_112 : RB d 121 112 [l0, l1] (.ref a :: st) (S, I, R, z) Q = ((S a).1 = 3 ∧ RB d 121 115 [l0, l1] (.int (I a 1) :: st) (S, I, R, z) Q) := RB_getI rfl rfl
theorem w121_115 : RB d 121 115 [l0, l1] [.int x] (S, I, R, z) Q = Q (some (.int x)) (S, I, R, z) := RB_iret rfl rfl rfl
theorem w121_116 : RB d 121 116 [.ref a, l1] st (S, I, R, z) Q = RB d 121 117 [.ref a, l1] (.ref a :: st) (S, I, R, z) Q := RB_aloadn rfl rfl
theorem w121_117 : RB d 121 117 [l0, l1] (.ref a :: st) (S, I, R, z) Q = ((S a).1 = 6 ∧ RB d 121 120 [l0, l1] (va_rf (R a 0) :: st) (S, I, R, z) Q) := RB_getR rfl rfl
theorem w121_120 : RB d 121 120 [l0, l1] (.ref a :: st) (S, I, R, z) Q = ((S a).1 = 2 ∧ RB d 121 123 [l0, l1] (.int (I a 11) :: st) (S, I, R, z) Q) := RB_getI rfl rfl
theorem w121_123 : RB d 121 123 [l0, l1] [.int x] (S, I, R, z) Q = Q (some (.int x)) (S, I, R, z) := RB_iret rfl rfl rfl
theorem w121_124 : RB d 121 124 [l0, l1] st (S, I, R, z) Q = RB d 121 126 [l0, l1] (.int (-1000000001) :: st) (S, I, R, z) Q := RB_ldc rfl rfl
theorem w121_126 : RB d 121 126 [l0, l1] [.int x] (S, I, R, z) Q = Q (some (.int x)) (S, I, R, z) := RB_iret rfl rfl rfl
/-! 122: HangedWord.isWord -/
theorem w122_0 : RB d 122 0 [l0, .int x] st (S, I, R, z) Q = RB d 122 1 [l0, .int x] (.int x :: st) (S, I, R, z) Q := RB_iloadn rfl rfl
theorem w122_1 : RB d 122 1 [l0, l1] (.int x :: st) (S, I, R, z) Q = ((x < 0 → RB d 122 19 [l0, l1] st (S, I, R, z) Q) ∧ (¬ x < 0 → RB d 122 4 [l0, l1] st (S, I, R, z) Q)) := RB_lt0 rfl (by decide) rfl
theorem w122_4 : RB d 122 4 [l0, .int x] st (S, I, R, z) Q = RB d 122 5 [l0, .int x] (.int x :: st) (S, I, R, z) Q := RB_iloadn rfl rfl
theorem w122_5 : RB d 122 5 [.ref a, l1] st (S, I, R, z) Q = RB d 122 6 [.ref a, l1] (.ref a :: st) (S, I, R, z) Q := RB_aloadn rfl rfl
theorem w122_6 : RB d 122 6 [l0, l1] (.ref a :: st) (S, I, R, z) Q = ((S a).1 = 6 ∧ RB d 122 9 [l0, l1] (va_rf (R a 0) :: st) (S, I, R, z) Q) := RB_getR rfl rfl
theorem w122_9 : RB d 122 9 [l0, l1] (.ref a :: st) (S, I, R, z) Q = ((S a).1 = 2 ∧ RB d 122 12 [l0, l1] (.int (I a 3) :: st) (S, I, R, z) Q) := RB_getI rfl rfl
theorem w122_12 : RB d 122 12 [l0, l1] (.int y :: .int x :: st) (S, I, R, z) Q = ((y ≤ x → RB d 122 19 [l0, l1] st (S, I, R, z) Q) ∧ (¬ y ≤ x → RB d 122 15 [l0, l1] st (S, I, R, z) Q)) := RB_ige rfl (by decide) rfl
theorem w122_15 : RB d 122 15 [l0, l1] st (S, I, R, z) Q = RB d 122 16 [l0, l1] (.int 1 :: st) (S, I, R, z) Q := RB_iconst rfl ki1
theorem w122_16 : RB d 122 16 [l0, l1] st (S, I, R, z) Q = RB d 122 20 [l0, l1] st (S, I, R, z) Q := RB_goto rfl (by decide) rfl
theorem w122_19 : RB d 122 19 [l0, l1] st (S, I, R, z) Q = RB d 122 20 [l0, l1] (.int 0 :: st) (S, I, R, z) Q := RB_iconst rfl ki0
theorem w122_20 : RB d 122 20 [l0, l1] [.int x] (S, I, R, z) Q = (narrow .boolean (.int x) = .int x ∧ Q (some (.int x)) (S, I, R, z)) := RB_zret rfl rfl (Or.inl rfl)
/-! 123: HangedWord.isAsker -/
theorem w123_0 : RB d 123 0 [l0, .int x] st (S, I, R, z) Q = RB d 123 1 [l0, .int x] (.int x :: st) (S, I, R, z) Q := RB_iloadn rfl rfl
theorem w123_1 : RB d 123 1 [l0, l1] (.int x :: st) (S, I, R, z) Q = ((x < 0 → RB d 123 19 [l0, l1] st (S, I, R, z) Q) ∧ (¬ x < 0 → RB d 123 4 [l0, l1] st (S, I, R, z) Q)) := RB_lt0 rfl (by decide) rfl
theorem w123_4 : RB d 123 4 [l0, .int x] st (S, I, R, z) Q = RB d 123 5 [l0, .int x] (.int x :: st) (S, I, R, z) Q := RB_iloadn rfl rfl
theorem w123_5 : RB d 123 5 [.ref a, l1] st (S, I, R, z) Q = RB d 123 6 [.ref a, l1] (.ref a :: st) (S, I, R, z) Q := RB_aloadn rfl rfl
theorem w123_6 : RB d 123 6 [l0, l1] (.ref a :: st) (S, I, R, z) Q = ((S a).1 = 6 ∧ RB d 123 9 [l0, l1] (va_rf (R a 0) :: st) (S, I, R, z) Q) := RB_getR rfl rfl
theorem w123_9 : RB d 123 9 [l0, l1] (.ref a :: st) (S, I, R, z) Q = ((S a).1 = 2 ∧ RB d 123 12 [l0, l1] (.int (I a 6) :: st) (S, I, R, z) Q) := RB_getI rfl rfl
theorem w123_12 : RB d 123 12 [l0, l1] (.int y :: .int x :: st) (S, I, R, z) Q = ((y ≤ x → RB d 123 19 [l0, l1] st (S, I, R, z) Q) ∧ (¬ y ≤ x → RB d 123 15 [l0, l1] st (S, I, R, z) Q)) := RB_ige rfl (by decide) rfl
theorem w123_15 : RB d 123 15 [l0, l1] st (S, I, R, z) Q = RB d 123 16 [l0, l1] (.int 1 :: st) (S, I, R, z) Q := RB_iconst rfl ki1
theorem w123_16 : RB d 123 16 [l0, l1] st (S, I, R, z) Q = RB d 123 20 [l0, l1] st (S, I, R, z) Q := RB_goto rfl (by decide) rfl
theorem w123_19 : RB d 123 19 [l0, l1] st (S, I, R, z) Q = RB d 123 20 [l0, l1] (.int 0 :: st) (S, I, R, z) Q := RB_iconst rfl ki0
theorem w123_20 : RB d 123 20 [l0, l1] [.int x] (S, I, R, z) Q = (narrow .boolean (.int x) = .int x ∧ Q (some (.int x)) (S, I, R, z)) := RB_zret rfl rfl (Or.inl rfl)
/-! 124: HangedWord.isLetter -/
theorem w124_0 : RB d 124 0 [.int x] st (S, I, R, z) Q = RB d 124 1 [.int x] (.int x :: st) (S, I, R, z) Q := RB_iloadn rfl rfl
theorem w124_1 : RB d 124 1 [l0] (.int x :: st) (S, I, R, z) Q = ((x < 0 → RB d 124 14 [l0] st (S, I, R, z) Q) ∧ (¬ x < 0 → RB d 124 4 [l0] st (S, I, R, z) Q)) := RB_lt0 rfl (by decide) rfl
theorem w124_4 : RB d 124 4 [.int x] st (S, I, R, z) Q = RB d 124 5 [.int x] (.int x :: st) (S, I, R, z) Q := RB_iloadn rfl rfl
theorem w124_5 : RB d 124 5 [l0] st (S, I, R, z) Q = RB d 124 7 [l0] (.int 6 :: st) (S, I, R, z) Q := RB_bipush rfl kb6
theorem w124_7 : RB d 124 7 [l0] (.int y :: .int x :: st) (S, I, R, z) Q = ((y ≤ x → RB d 124 14 [l0] st (S, I, R, z) Q) ∧ (¬ y ≤ x → RB d 124 10 [l0] st (S, I, R, z) Q)) := RB_ige rfl (by decide) rfl
theorem w124_10 : RB d 124 10 [l0] st (S, I, R, z) Q = RB d 124 11 [l0] (.int 1 :: st) (S, I, R, z) Q := RB_iconst rfl ki1
theorem w124_11 : RB d 124 11 [l0] st (S, I, R, z) Q = RB d 124 15 [l0] st (S, I, R, z) Q := RB_goto rfl (by decide) rfl
theorem w124_14 : RB d 124 14 [l0] st (S, I, R, z) Q = RB d 124 15 [l0] (.int 0 :: st) (S, I, R, z) Q := RB_iconst rfl ki0
theorem w124_15 : RB d 124 15 [l0] [.int x] (S, I, R, z) Q = (narrow .boolean (.int x) = .int x ∧ Q (some (.int x)) (S, I, R, z)) := RB_zret rfl rfl (Or.inl rfl)
/-! 125: HangedWord.isWeight -/
theorem w125_0 : RB d 125 0 [.int x] st (S, I, R, z) Q = RB d 125 1 [.int x] (.int x :: st) (S, I, R, z) Q := RB_iloadn rfl rfl
theorem w125_1 : RB d 125 1 [l0] st (S, I, R, z) Q = RB d 125 2 [l0] (.int 1 :: st) (S, I, R, z) Q := RB_iconst rfl ki1
theorem w125_2 : RB d 125 2 [l0] (.int y :: .int x :: st) (S, I, R, z) Q = ((x < y → RB d 125 15 [l0] st (S, I, R, z) Q) ∧ (¬ x < y → RB d 125 5 [l0] st (S, I, R, z) Q)) := RB_ilt rfl (by decide) rfl
theorem w125_5 : RB d 125 5 [.int x] st (S, I, R, z) Q = RB d 125 6 [.int x] (.int x :: st) (S, I, R, z) Q := RB_iloadn rfl rfl
theorem w125_6 : RB d 125 6 [l0] st (S, I, R, z) Q = RB d 125 8 [l0] (.int 99 :: st) (S, I, R, z) Q := RB_bipush rfl kb99
theorem w125_8 : RB d 125 8 [l0] (.int y :: .int x :: st) (S, I, R, z) Q = ((y < x → RB d 125 15 [l0] st (S, I, R, z) Q) ∧ (¬ y < x → RB d 125 11 [l0] st (S, I, R, z) Q)) := RB_igt rfl (by decide) rfl
theorem w125_11 : RB d 125 11 [l0] st (S, I, R, z) Q = RB d 125 12 [l0] (.int 1 :: st) (S, I, R, z) Q := RB_iconst rfl ki1
theorem w125_12 : RB d 125 12 [l0] st (S, I, R, z) Q = RB d 125 16 [l0] st (S, I, R, z) Q := RB_goto rfl (by decide) rfl
theorem w125_15 : RB d 125 15 [l0] st (S, I, R, z) Q = RB d 125 16 [l0] (.int 0 :: st) (S, I, R, z) Q := RB_iconst rfl ki0
theorem w125_16 : RB d 125 16 [l0] [.int x] (S, I, R, z) Q = (narrow .boolean (.int x) = .int x ∧ Q (some (.int x)) (S, I, R, z)) := RB_zret rfl rfl (Or.inl rfl)
/-! 126: HangedWord.isKind -/
theorem w126_0 : RB d 126 0 [.int x] st (S, I, R, z) Q = RB d 126 1 [.int x] (.int x :: st) (S, I, R, z) Q := RB_iloadn rfl rfl
theorem w126_1 : RB d 126 1 [l0] (.int x :: st) (S, I, R, z) Q = ((x < 0 → RB d 126 14 [l0] st (S, I, R, z) Q) ∧ (¬ x < 0 → RB d 126 4 [l0] st (S, I, R, z) Q)) := RB_lt0 rfl (by decide) rfl
theorem w126_4 : RB d 126 4 [.int x] st (S, I, R, z) Q = RB d 126 5 [.int x] (.int x :: st) (S, I, R, z) Q := RB_iloadn rfl rfl
theorem w126_5 : RB d 126 5 [l0] st (S, I, R, z) Q = RB d 126 7 [l0] (.int 6 :: st) (S, I, R, z) Q := RB_bipush rfl kb6
theorem w126_7 : RB d 126 7 [l0] (.int y :: .int x :: st) (S, I, R, z) Q = ((y ≤ x → RB d 126 14 [l0] st (S, I, R, z) Q) ∧ (¬ y ≤ x → RB d 126 10 [l0] st (S, I, R, z) Q)) := RB_ige rfl (by decide) rfl
theorem w126_10 : RB d 126 10 [l0] st (S, I, R, z) Q = RB d 126 11 [l0] (.int 1 :: st) (S, I, R, z) Q := RB_iconst rfl ki1
theorem w126_11 : RB d 126 11 [l0] st (S, I, R, z) Q = RB d 126 15 [l0] st (S, I, R, z) Q := RB_goto rfl (by decide) rfl
theorem w126_14 : RB d 126 14 [l0] st (S, I, R, z) Q = RB d 126 15 [l0] (.int 0 :: st) (S, I, R, z) Q := RB_iconst rfl ki0
theorem w126_15 : RB d 126 15 [l0] [.int x] (S, I, R, z) Q = (narrow .boolean (.int x) = .int x ∧ Q (some (.int x)) (S, I, R, z)) := RB_zret rfl rfl (Or.inl rfl)
/-! 127: HangedWord.isSheet -/
theorem w127_0 : RB d 127 0 [.int x] st (S, I, R, z) Q = RB d 127 1 [.int x] (.int x :: st) (S, I, R, z) Q := RB_iloadn rfl rfl
theorem w127_1 : RB d 127 1 [l0] (.int x :: st) (S, I, R, z) Q = ((x < 0 → RB d 127 13 [l0] st (S, I, R, z) Q) ∧ (¬ x < 0 → RB d 127 4 [l0] st (S, I, R, z) Q)) := RB_lt0 rfl (by decide) rfl
theorem w127_4 : RB d 127 4 [.int x] st (S, I, R, z) Q = RB d 127 5 [.int x] (.int x :: st) (S, I, R, z) Q := RB_iloadn rfl rfl
theorem w127_5 : RB d 127 5 [l0] st (S, I, R, z) Q = RB d 127 6 [l0] (.int 4 :: st) (S, I, R, z) Q := RB_iconst rfl ki4
theorem w127_6 : RB d 127 6 [l0] (.int y :: .int x :: st) (S, I, R, z) Q = ((y ≤ x → RB d 127 13 [l0] st (S, I, R, z) Q) ∧ (¬ y ≤ x → RB d 127 9 [l0] st (S, I, R, z) Q)) := RB_ige rfl (by decide) rfl
theorem w127_9 : RB d 127 9 [l0] st (S, I, R, z) Q = RB d 127 10 [l0] (.int 1 :: st) (S, I, R, z) Q := RB_iconst rfl ki1
theorem w127_10 : RB d 127 10 [l0] st (S, I, R, z) Q = RB d 127 14 [l0] st (S, I, R, z) Q := RB_goto rfl (by decide) rfl
theorem w127_13 : RB d 127 13 [l0] st (S, I, R, z) Q = RB d 127 14 [l0] (.int 0 :: st) (S, I, R, z) Q := RB_iconst rfl ki0
theorem w127_14 : RB d 127 14 [l0] [.int x] (S, I, R, z) Q = (narrow .boolean (.int x) = .int x ∧ Q (some (.int x)) (S, I, R, z)) := RB_zret rfl rfl (Or.inl rfl)
/-! 128: HangedWord.isSlot -/
theorem w128_0 : RB d 128 0 [.int x] st (S, I, R, z) Q = RB d 128 1 [.int x] (.int x :: st) (S, I, R, z) Q := RB_iloadn rfl rfl
theorem w128_1 : RB d 128 1 [l0] (.int x :: st) (S, I, R, z) Q = ((x < 0 → RB d 128 13 [l0] st (S, I, R, z) Q) ∧ (¬ x < 0 → RB d 128 4 [l0] st (S, I, R, z) Q)) := RB_lt0 rfl (by decide) rfl
theorem w128_4 : RB d 128 4 [.int x] st (S, I, R, z) Q = RB d 128 5 [.int x] (.int x :: st) (S, I, R, z) Q := RB_iloadn rfl rfl
theorem w128_5 : RB d 128 5 [l0] st (S, I, R, z) Q = RB d 128 6 [l0] (.int 5 :: st) (S, I, R, z) Q := RB_iconst rfl ki5
theorem w128_6 : RB d 128 6 [l0] (.int y :: .int x :: st) (S, I, R, z) Q = ((y ≤ x → RB d 128 13 [l0] st (S, I, R, z) Q) ∧ (¬ y ≤ x → RB d 128 9 [l0] st (S, I, R, z) Q)) := RB_ige rfl (by decide) rfl
theorem w128_9 : RB d 128 9 [l0] st (S, I, R, z) Q = RB d 128 10 [l0] (.int 1 :: st) (S, I, R, z) Q := RB_iconst rfl ki1
theorem w128_10 : RB d 128 10 [l0] st (S, I, R, z) Q = RB d 128 14 [l0] st (S, I, R, z) Q := RB_goto rfl (by decide) rfl
theorem w128_13 : RB d 128 13 [l0] st (S, I, R, z) Q = RB d 128 14 [l0] (.int 0 :: st) (S, I, R, z) Q := RB_iconst rfl ki0
theorem w128_14 : RB d 128 14 [l0] [.int x] (S, I, R, z) Q = (narrow .boolean (.int x) = .int x ∧ Q (some (.int x)) (S, I, R, z)) := RB_zret rfl rfl (Or.inl rfl)
/-! 129: HangedWord.isIn -/
theorem w129_0 : RB d 129 0 [.int x, l1] st (S, I, R, z) Q = RB d 129 1 [.int x, l1] (.int x :: st) (S, I, R, z) Q := RB_iloadn rfl rfl
theorem w129_1 : RB d 129 1 [l0, .int x] st (S, I, R, z) Q = RB d 129 2 [l0, .int x] (.int x :: st) (S, I, R, z) Q := RB_iloadn rfl rfl
theorem w129_2 : RB d 129 2 [l0, l1] (.int y :: .int x :: st) (S, I, R, z) Q = RB d 129 3 [l0, l1] (.int (x >>> (y &&& 31)) :: st) (S, I, R, z) Q := RB_ishr rfl
theorem w129_3 : RB d 129 3 [l0, l1] st (S, I, R, z) Q = RB d 129 4 [l0, l1] (.int 1 :: st) (S, I, R, z) Q := RB_iconst rfl ki1
theorem w129_4 : RB d 129 4 [l0, l1] (.int y :: .int x :: st) (S, I, R, z) Q = RB d 129 5 [l0, l1] (.int (x &&& y) :: st) (S, I, R, z) Q := RB_iand rfl
theorem w129_5 : RB d 129 5 [l0, l1] st (S, I, R, z) Q = RB d 129 6 [l0, l1] (.int 1 :: st) (S, I, R, z) Q := RB_iconst rfl ki1
theorem w129_6 : RB d 129 6 [l0, l1] (.int y :: .int x :: st) (S, I, R, z) Q = ((x = y → RB d 129 9 [l0, l1] st (S, I, R, z) Q) ∧ (¬ x = y → RB d 129 13 [l0, l1] st (S, I, R, z) Q)) := RB_ine rfl (by decide) rfl
theorem w129_9 : RB d 129 9 [l0, l1] st (S, I, R, z) Q = RB d 129 10 [l0, l1] (.int 1 :: st) (S, I, R, z) Q := RB_iconst rfl ki1
theorem w129_10 : RB d 129 10 [l0, l1] st (S, I, R, z) Q = RB d 129 14 [l0, l1] st (S, I, R, z) Q := RB_goto rfl (by decide) rfl
theorem w129_13 : RB d 129 13 [l0, l1] st (S, I, R, z) Q = RB d 129 14 [l0, l1] (.int 0 :: st) (S, I, R, z) Q := RB_iconst rfl ki0
theorem w129_14 : RB d 129 14 [l0, l1] [.int x] (S, I, R, z) Q = (narrow .boolean (.int x) = .int x ∧ Q (some (.int x)) (S, I, R, z)) := RB_zret rfl rfl (Or.inl rfl)
/-! 130: HangedWord.within -/
theorem w130_0 : RB d 130 0 [l0, .int x, l2] st (S, I, R, z) Q = RB d 130 1 [l0, .int x, l2] (.int x :: st) (S, I, R, z) Q := RB_iloadn rfl rfl
theorem w130_1 : RB d 130 1 [l0, l1, .int x] st (S, I, R, z) Q = RB d 130 2 [l0, l1, .int x] (.int x :: st) (S, I, R, z) Q := RB_iloadn rfl rfl
theorem w130_2 : RB d 130 2 [.int x, l1, l2] st (S, I, R, z) Q = RB d 130 3 [.int x, l1, l2] (.int x :: st) (S, I, R, z) Q := RB_iloadn rfl rfl
theorem w130_3 : RB d 130 3 [l0, l1, l2] [.int x1, .int x0, s0] (S, I, R, z) Q = RM d 1003 [.int x0, .int x1] (S, I, R, z) (fun v τ => RB d 130 6 [l0, l1, l2] (aPush v [s0]) τ Q) := RB_callS (n := 2) (t := 1) (k := 130) (ins := .invokestatic 130) rfl rfl rfl (Nat.le_of_ble_eq_true rfl) (Nat.le_of_ble_eq_true rfl) rfl rfl
theorem w130_6 : RB d 130 6 [l0, l1, l2] [.int x1, .int x0] (S, I, R, z) Q = RM d 1002 [.int x0, .int x1] (S, I, R, z) (fun v τ => RB d 130 9 [l0, l1, l2] (aPush v []) τ Q) := RB_callS (n := 2) (t := 1) (k := 314) (ins := .invokestatic 314) rfl rfl rfl (Nat.le_of_ble_eq_true rfl) (Nat.le_of_ble_eq_true rfl) rfl rfl
theorem w130_9 : RB d 130 9 [l0, l1, l2] [.int x] (S, I, R, z) Q = Q (some (.int x)) (S, I, R, z) := RB_iret rfl rfl rfl
/-! 131: HangedWord.isUnder -/
theorem w131_0 : RB d 131 0 [.int x, l1, l2, l3] st (S, I, R, z) Q = RB d 131 1 [.int x, l1, l2, l3] (.int x :: st) (S, I, R, z) Q := RB_iloadn rfl rfl
theorem w131_1 : RB d 131 1 [l0, l1, l2, l3] (.int x :: st) (S, I, R, z) Q = RB d 131 2 [l0, l1, .int x, l3] st (S, I, R, z) Q := RB_istoren rfl (Nat.le_of_ble_eq_true rfl) rfl
theorem w131_2 : RB d 131 2 [l0, l1, l2, l3] st (S, I, R, z) Q = RB d 131 3 [l0, l1, l2, l3] (.int 0 :: st) (S, I, R, z) Q := RB_iconst rfl ki0
theorem w131_3 : RB d 131 3 [l0, l1, l2, l3] (.int x :: st) (S, I, R, z) Q = RB d 131 4 [l0, l1, l2, .int x] st (S, I, R, z) Q := RB_istoren rfl (Nat.le_of_ble_eq_true rfl) rfl
theorem w131_4 : RB d 131 4 [l0, l1, l2, .int x] st (S, I, R, z) Q = RB d 131 5 [l0, l1, l2, .int x] (.int x :: st) (S, I, R, z) Q := RB_iloadn rfl rfl
theorem w131_5 : RB d 131 5 [l0, l1, l2, l3] st (S, I, R, z) Q = RB d 131 7 [l0, l1, l2, l3] (.int 6 :: st) (S, I, R, z) Q := RB_bipush rfl kb6
theorem w131_7 : RB d 131 7 [l0, l1, l2, l3] (.int y :: .int x :: st) (S, I, R, z) Q = ((y ≤ x → RB d 131 36 [l0, l1, l2, l3] st (S, I, R, z) Q) ∧ (¬ y ≤ x → RB d 131 10 [l0, l1, l2, l3] st (S, I, R, z) Q)) := RB_ige rfl (by decide) rfl
theorem w131_10 : RB d 131 10 [l0, l1, .int x, l3] st (S, I, R, z) Q = RB d 131 11 [l0, l1, .int x, l3] (.int x :: st) (S, I, R, z) Q := RB_iloadn rfl rfl
theorem w131_11 : RB d 131 11 [l0, l1, l2, l3] [.int x0] (S, I, R, z) Q = RM d 126 [.int x0] (S, I, R, z) (fun v τ => RB d 131 14 [l0, l1, l2, l3] (aPush v []) τ Q) := RB_callS (n := 1) (t := 1) (k := 88) (ins := .invokestatic 88) rfl rfl rfl (Nat.le_of_ble_eq_true rfl) (Nat.le_of_ble_eq_true rfl) rfl rfl
theorem w131_14 : RB d 131 14 [l0, l1, l2, l3] (.int x :: st) (S, I, R, z) Q = ((x = 0 → RB d 131 36 [l0, l1, l2, l3] st (S, I, R, z) Q) ∧ (¬ x = 0 → RB d 131 17 [l0, l1, l2, l3] st (S, I, R, z) Q)) := RB_eq0 rfl (by decide) rfl
theorem w131_17 : RB d 131 17 [l0, l1, .int x, l3] st (S, I, R, z) Q = RB d 131 18 [l0, l1, .int x, l3] (.int x :: st) (S, I, R, z) Q := RB_iloadn rfl rfl
theorem w131_18 : RB d 131 18 [l0, .int x, l2, l3] st (S, I, R, z) Q = RB d 131 19 [l0, .int x, l2, l3] (.int x :: st) (S, I, R, z) Q := RB_iloadn rfl rfl
theorem w131_19 : RB d 131 19 [l0, l1, l2, l3] (.int y :: .int x :: st) (S, I, R, z) Q = ((x = y → RB d 131 22 [l0, l1, l2, l3] st (S, I, R, z) Q) ∧ (¬ x = y → RB d 131 24 [l0, l1, l2, l3] st (S, I, R, z) Q)) := RB_ine rfl (by decide) rfl
theorem w131_22 : RB d 131 22 [l0, l1, l2, l3] st (S, I, R, z) Q = RB d 131 23 [l0, l1, l2, l3] (.int 1 :: st) (S, I, R, z) Q := RB_iconst rfl ki1
theorem w131_23 : RB d 131 23 [l0, l1, l2, l3] [.int x] (S, I, R, z) Q = (narrow .boolean (.int x) = .int x ∧ Q (some (.int x)) (S, I, R, z)) := RB_zret rfl rfl (Or.inl rfl)
theorem w131_24 : RB d 131 24 [l0, l1, l2, l3] st (S, I, R, z) Q = RB d 131 27 [l0, l1, l2, l3] (.ref 0 :: st) (S, I, R, z) Q := RB_gets rfl rfl
theorem w131_27 : RB d 131 27 [l0, l1, .int x, l3] st (S, I, R, z) Q = RB d 131 28 [l0, l1, .int x, l3] (.int x :: st) (S, I, R, z) Q := RB_iloadn rfl rfl
theorem w131_28 : RB d 131 28 [l0, l1, l2, l3] (.int i :: .ref a :: st) (S, I, R, z) Q = (((S a).1 = 9 ∧ aIx i (S a).2) ∧ RB d 131 29 [l0, l1, l2, l3] (.int (I a i.toNatClampNeg) :: st) (S, I, R, z) Q) := RB_iald rfl
theorem w131_29 : RB d 131 29 [l0, l1, l2, l3] (.int x :: st) (S, I, R, z) Q = RB d 131 30 [l0, l1, .int x, l3] st (S, I, R, z) Q := RB_istoren rfl (Nat.le_of_ble_eq_true rfl) rfl
theorem w131_30 : RB d 131 30 [l0, l1, l2, .int x] st (S, I, R, z) Q = RB d 131 33 [l0, l1, l2, .int (x + 1)] st (S, I, R, z) Q := RB_iinc rfl rfl (Nat.le_of_ble_eq_true rfl) ki1 rfl
theorem w131_33 : RB d 131 33 [l0, l1, l2, l3] st (S, I, R, z) Q = RB d 131 4 [l0, l1, l2, l3] st (S, I, R, z) Q := RB_goto rfl (by decide) rfl
theorem w131_36 : RB d 131 36 [l0, l1, l2, l3] st (S, I, R, z) Q = RB d 131 37 [l0, l1, l2, l3] (.int 0 :: st) (S, I, R, z) Q := RB_iconst rfl ki0
theorem w131_37 : RB d 131 37 [l0, l1, l2, l3] [.int x] (S, I, R, z) Q = (narrow .boolean (.int x) = .int x ∧ Q (some (.int x)) (S, I, R, z)) := RB_zret rfl rfl (Or.inl rfl)
/-! 132: HangedWord.worthOf -/
theorem w132_0 : RB d 132 0 [.int x, l1] st (S, I, R, z) Q = RB d 132 1 [.int x, l1] (.int x :: st) (S, I, R, z) Q := RB_iloadn rfl rfl
theorem w132_1 : RB d 132 1 [l0, l1] (.int x :: st) (S, I, R, z) Q = aTsR d 132 1 x 63 [l0, l1] st (S, I, R, z) Q [(1, 36), (2, 48), (3, 41), (4, 53), (5, 61)] := RB_ts rfl (by decide) (by decide) (by decide) (by decide +kernel) rfl
theorem w132_36 : RB d 132 36 [l0, .int x] st (S, I, R, z) Q = RB d 132 37 [l0, .int x] (.int x :: st) (S, I, R, z) Q := RB_iloadn rfl rfl
theorem w132_37 : RB d 132 37 [l0, l1] st (S, I, R, z) Q = RB d 132 39 [l0, l1] (.int 10 :: st) (S, I, R, z) Q := RB_bipush rfl kb10
theorem w132_39 : RB d 132 39 [l0, l1] (.int y :: .int x :: st) (S, I, R, z) Q = RB d 132 40 [l0, l1] (.int (x + y) :: st) (S, I, R, z) Q := RB_iadd rfl
theorem w132_40 : RB d 132 40 [l0, l1] [.int x] (S, I, R, z) Q = Q (some (.int x)) (S, I, R, z) := RB_iret rfl rfl rfl
theorem w132_41 : RB d 132 41 [l0, l1] st (S, I, R, z) Q = RB d 132 42 [l0, l1] (.int 2 :: st) (S, I, R, z) Q := RB_iconst rfl ki2
theorem w132_42 : RB d 132 42 [l0, .int x] st (S, I, R, z) Q = RB d 132 43 [l0, .int x] (.int x :: st) (S, I, R, z) Q := RB_iloadn rfl rfl
theorem w132_43 : RB d 132 43 [l0, l1] st (S, I, R, z) Q = RB d 132 45 [l0, l1] (.int 10 :: st) (S, I, R, z) Q := RB_bipush rfl kb10
theorem w132_45 : RB d 132 45 [l0, l1] (.int y :: .int x :: st) (S, I, R, z) Q = RB d 132 46 [l0, l1] (.int (x + y) :: st) (S, I, R, z) Q := RB_iadd rfl
theorem w132_46 : RB d 132 46 [l0, l1] (.int y :: .int x :: st) (S, I, R, z) Q = RB d 132 47 [l0, l1] (.int (x * y) :: st) (S, I, R, z) Q := RB_imul rfl
theorem w132_47 : RB d 132 47 [l0, l1] [.int x] (S, I, R, z) Q = Q (some (.int x)) (S, I, R, z) := RB_iret rfl rfl rfl
theorem w132_48 : RB d 132 48 [l0, l1] st (S, I, R, z) Q = RB d 132 50 [l0, l1] (.int 50 :: st) (S, I, R, z) Q := RB_bipush rfl kb50
theorem w132_50 : RB d 132 50 [l0, .int x] st (S, I, R, z) Q = RB d 132 51 [l0, .int x] (.int x :: st) (S, I, R, z) Q := RB_iloadn rfl rfl
theorem w132_51 : RB d 132 51 [l0, l1] (.int y :: .int x :: st) (S, I, R, z) Q = RB d 132 52 [l0, l1] (.int (x - y) :: st) (S, I, R, z) Q := RB_isub rfl
theorem w132_52 : RB d 132 52 [l0, l1] [.int x] (S, I, R, z) Q = Q (some (.int x)) (S, I, R, z) := RB_iret rfl rfl rfl
theorem w132_53 : RB d 132 53 [l0, l1] st (S, I, R, z) Q = RB d 132 55 [l0, l1] (.int 50 :: st) (S, I, R, z) Q := RB_bipush rfl kb50
theorem w132_55 : RB d 132 55 [l0, .int x] st (S, I, R, z) Q = RB d 132 56 [l0, .int x] (.int x :: st) (S, I, R, z) Q := RB_iloadn rfl rfl
theorem w132_56 : RB d 132 56 [l0, l1] (.int y :: .int x :: st) (S, I, R, z) Q = RB d 132 57 [l0, l1] (.int (x - y) :: st) (S, I, R, z) Q := RB_isub rfl
theorem w132_57 : RB d 132 57 [l0, l1] st (S, I, R, z) Q = RB d 132 59 [l0, l1] (.int 6 :: st) (S, I, R, z) Q := RB_bipush rfl kb6
theorem w132_59 : RB d 132 59 [l0, l1] (.int y :: .int x :: st) (S, I, R, z) Q = RB d 132 60 [l0, l1] (.int (x - y) :: st) (S, I, R, z) Q := RB_isub rfl
theorem w132_60 : RB d 132 60 [l0, l1] [.int x] (S, I, R, z) Q = Q (some (.int x)) (S, I, R, z) := RB_iret rfl rfl rfl
theorem w132_61 : RB d 132 61 [l0, l1] st (S, I, R, z) Q = RB d 132 62 [l0, l1] (.int 1 :: st) (S, I, R, z) Q := RB_iconst rfl ki1
theorem w132_62 : RB d 132 62 [l0, l1] [.int x] (S, I, R, z) Q = Q (some (.int x)) (S, I, R, z) := RB_iret rfl rfl rfl
theorem w132_63 : RB d 132 63 [l0, .int x] st (S, I, R, z) Q = RB d 132 64 [l0, .int x] (.int x :: st) (S, I, R, z) Q := RB_iloadn rfl rfl
theorem w132_64 : RB d 132 64 [l0, l1] [.int x] (S, I, R, z) Q = Q (some (.int x)) (S, I, R, z) := RB_iret rfl rfl rfl
/-! 133: HangedWord.nextNow -/
theorem w133_0 : RB d 133 0 [.ref a, l1] st (S, I, R, z) Q = RB d 133 1 [.ref a, l1] (.ref a :: st) (S, I, R, z) Q := RB_aloadn rfl rfl
theorem w133_1 : RB d 133 1 [l0, l1] (.ref a :: st) (S, I, R, z) Q = ((S a).1 = 6 ∧ RB d 133 4 [l0, l1] (va_rf (R a 0) :: st) (S, I, R, z) Q) := RB_getR rfl rfl
theorem w133_4 : RB d 133 4 [l0, l1] (.ref a :: st) (S, I, R, z) Q = ((S a).1 = 2 ∧ RB d 133 7 [l0, l1] (.int (I a 7) :: st) (S, I, R, z) Q) := RB_getI rfl rfl
theorem w133_7 : RB d 133 7 [l0, l1] (.int x :: st) (S, I, R, z) Q = ((x < 0 → RB d 133 22 [l0, l1] st (S, I, R, z) Q) ∧ (¬ x < 0 → RB d 133 10 [l0, l1] st (S, I, R, z) Q)) := RB_lt0 rfl (by decide) rfl
theorem w133_10 : RB d 133 10 [.ref a, l1] st (S, I, R, z) Q = RB d 133 11 [.ref a, l1] (.ref a :: st) (S, I, R, z) Q := RB_aloadn rfl rfl
theorem w133_11 : RB d 133 11 [l0, l1] (.ref a :: st) (S, I, R, z) Q = ((S a).1 = 6 ∧ RB d 133 14 [l0, l1] (va_rf (R a 0) :: st) (S, I, R, z) Q) := RB_getR rfl rfl
theorem w133_14 : RB d 133 14 [l0, l1] (.ref a :: st) (S, I, R, z) Q = ((S a).1 = 2 ∧ RB d 133 17 [l0, l1] (.int (I a 8) :: st) (S, I, R, z) Q) := RB_getI rfl rfl
theorem w133_17 : RB d 133 17 [l0, l1] st (S, I, R, z) Q = RB d 133 19 [l0, l1] (.int 63 :: st) (S, I, R, z) Q := RB_bipush rfl kb63
theorem w133_19 : RB d 133 19 [l0, l1] (.int y :: .int x :: st) (S, I, R, z) Q = ((x = y → RB d 133 22 [l0, l1] st (S, I, R, z) Q) ∧ (¬ x = y → RB d 133 25 [l0, l1] st (S, I, R, z) Q)) := RB_ine rfl (by decide) rfl
theorem w133_22 : RB d 133 22 [l0, l1] st (S, I, R, z) Q = RB d 133 24 [l0, l1] (.int (-1000000005) :: st) (S, I, R, z) Q := RB_ldc rfl rfl
theorem w133_24 : RB d 133 24 [l0, l1] [.int x] (S, I, R, z) Q = Q (some (.int x)) (S, I, R, z) := RB_iret rfl rfl rfl
theorem w133_25 : RB d 133 25 [.ref a, l1] st (S, I, R, z) Q = RB d 133 26 [.ref a, l1] (.ref a :: st) (S, I, R, z) Q := RB_aloadn rfl rfl
theorem w133_26 : RB d 133 26 [l0, l1] (.ref a :: st) (S, I, R, z) Q = ((S a).1 = 6 ∧ RB d 133 29 [l0, l1] (va_rf (R a 0) :: st) (S, I, R, z) Q) := RB_getR rfl rfl
theorem w133_29 : RB d 133 29 [l0, .int x] st (S, I, R, z) Q = RB d 133 30 [l0, .int x] (.int x :: st) (S, I, R, z) Q := RB_iloadn rfl rfl
theorem w133_30 : RB d 133 30 [.ref a, l1] st (S, I, R, z) Q = RB d 133 31 [.ref a, l1] (.ref a :: st) (S, I, R, z) Q := RB_aloadn rfl rfl
theorem w133_31 : RB d 133 31 [l0, l1] (.ref a :: st) (S, I, R, z) Q = ((S a).1 = 6 ∧ RB d 133 34 [l0, l1] (va_rf (R a 0) :: st) (S, I, R, z) Q) := RB_getR rfl rfl
theorem w133_34 : RB d 133 34 [l0, l1] (.ref a :: st) (S, I, R, z) Q = ((S a).1 = 2 ∧ RB d 133 37 [l0, l1] (.int (I a 8) :: st) (S, I, R, z) Q) := RB_getI rfl rfl
theorem w133_37 : RB d 133 37 [.ref a, l1] st (S, I, R, z) Q = RB d 133 38 [.ref a, l1] (.ref a :: st) (S, I, R, z) Q := RB_aloadn rfl rfl
theorem w133_38 : RB d 133 38 [l0, l1] (.ref a :: st) (S, I, R, z) Q = ((S a).1 = 6 ∧ RB d 133 41 [l0, l1] (va_rf (R a 0) :: st) (S, I, R, z) Q) := RB_getR rfl rfl
theorem w133_41 : RB d 133 41 [l0, l1] [.ref a, s0, s1, s2] (S, I, R, z) Q = ((S a).1 = 2 ∧ RM d 21 [.ref a] (S, I, R, z) (fun v τ => RB d 133 44 [l0, l1] (aPush v [s0, s1, s2]) τ Q)) := RB_callV (n := 1) (t := 0) (k := 84) (ins := .invokevirtual 84) rfl rfl rfl (by decide) (Nat.le_of_ble_eq_true rfl) (Nat.le_of_ble_eq_true rfl) rfl rfl
theorem w133_44 : RB d 133 44 [l0, l1] [.int x2, .int x1, .int x0, .ref a] (S, I, R, z) Q = ((S a).1 = 2 ∧ RM d 28 [.ref a, .int x0, .int x1, .int x2] (S, I, R, z) (fun v τ => RB d 133 47 [l0, l1] (aPush v []) τ Q)) := RB_callV (n := 4) (t := 0) (k := 320) (ins := .invokevirtual 320) rfl rfl rfl (by decide) (Nat.le_of_ble_eq_true rfl) (Nat.le_of_ble_eq_true rfl) rfl rfl
theorem w133_47 : RB d 133 47 [l0, l1] [.int x] (S, I, R, z) Q = Q (some (.int x)) (S, I, R, z) := RB_iret rfl rfl rfl
/-! 134: HangedWordModel.<init> -/
theorem w134_0 : RB d 134 0 [.ref a] st (S, I, R, z) Q = RB d 134 1 [.ref a] (.ref a :: st) (S, I, R, z) Q := RB_aloadn rfl rfl
theorem w134_1 : RB d 134 1 [l0] [.ref a] (S, I, R, z) Q = RM d 1000 [.ref a] (S, I, R, z) (fun v τ => RB d 134 4 [l0] (aPush v []) τ Q) := RB_callS (n := 1) (t := 2) (k := 1) (ins := .invokespecial 1) rfl rfl rfl (Nat.le_of_ble_eq_true rfl) (Nat.le_of_ble_eq_true rfl) rfl rfl
theorem w134_4 : RB d 134 4 [.ref a] st (S, I, R, z) Q = RB d 134 5 [.ref a] (.ref a :: st) (S, I, R, z) Q := RB_aloadn rfl rfl
theorem w134_5 : RB d 134 5 [l0] st (S, I, R, z) Q = RB d 134 8 [l0] (.int 1420 :: st) (S, I, R, z) Q := RB_sipush rfl ks1420
theorem w134_8 : RB d 134 8 [l0] (.int i :: st) σ Q = ((¬ i < 0 ∧ i.toNatClampNeg ≤ 5000) ∧ RB d 134 10 [l0] (.ref σ.2.2.2.1 :: st) (aNc 9 i.toNatClampNeg σ) Q) := RB_newI rfl
theorem w134_10 : RB d 134 10 [l0] (.ref b :: .ref a :: st) (S, I, R, z) Q = (((S a).1 = 7 ∧ 7 < 8 ∧ 16 ≤ a) ∧ RB d 134 13 [l0] st (S, I, aR R a 0 (some b), z) Q) := RB_putR rfl rfl (Or.inr (by decide +kernel))
theorem w134_13 : RB d 134 13 [.ref a] st (S, I, R, z) Q = RB d 134 14 [.ref a] (.ref a :: st) (S, I, R, z) Q := RB_aloadn rfl rfl
theorem w134_14 : RB d 134 14 [l0] st (S, I, R, z) Q = RB d 134 17 [l0] (.int 1420 :: st) (S, I, R, z) Q := RB_sipush rfl ks1420
theorem w134_17 : RB d 134 17 [l0] (.int i :: st) σ Q = ((¬ i < 0 ∧ i.toNatClampNeg ≤ 5000) ∧ RB d 134 19 [l0] (.ref σ.2.2.2.1 :: st) (aNc 9 i.toNatClampNeg σ) Q) := RB_newI rfl
theorem w134_19 : RB d 134 19 [l0] (.ref b :: .ref a :: st) (S, I, R, z) Q = (((S a).1 = 7 ∧ 7 < 8 ∧ 16 ≤ a) ∧ RB d 134 22 [l0] st (S, I, aR R a 1 (some b), z) Q) := RB_putR rfl rfl (Or.inr (by decide +kernel))
theorem w134_22 : RB d 134 22 [.ref a] st (S, I, R, z) Q = RB d 134 23 [.ref a] (.ref a :: st) (S, I, R, z) Q := RB_aloadn rfl rfl
theorem w134_23 : RB d 134 23 [l0] st (S, I, R, z) Q = RB d 134 26 [l0] (.int 1420 :: st) (S, I, R, z) Q := RB_sipush rfl ks1420
theorem w134_26 : RB d 134 26 [l0] (.int i :: st) σ Q = ((¬ i < 0 ∧ i.toNatClampNeg ≤ 5000) ∧ RB d 134 28 [l0] (.ref σ.2.2.2.1 :: st) (aNc 9 i.toNatClampNeg σ) Q) := RB_newI rfl
theorem w134_28 : RB d 134 28 [l0] (.ref b :: .ref a :: st) (S, I, R, z) Q = (((S a).1 = 7 ∧ 7 < 8 ∧ 16 ≤ a) ∧ RB d 134 31 [l0] st (S, I, aR R a 2 (some b), z) Q) := RB_putR rfl rfl (Or.inr (by decide +kernel))
theorem w134_31 : RB d 134 31 [.ref a] st (S, I, R, z) Q = RB d 134 32 [.ref a] (.ref a :: st) (S, I, R, z) Q := RB_aloadn rfl rfl
theorem w134_32 : RB d 134 32 [l0] st (S, I, R, z) Q = RB d 134 34 [l0] (.int 48 :: st) (S, I, R, z) Q := RB_bipush rfl kb48
theorem w134_34 : RB d 134 34 [l0] (.int i :: st) σ Q = ((¬ i < 0 ∧ i.toNatClampNeg ≤ 5000) ∧ RB d 134 36 [l0] (.ref σ.2.2.2.1 :: st) (aNc 9 i.toNatClampNeg σ) Q) := RB_newI rfl
theorem w134_36 : RB d 134 36 [l0] (.ref b :: .ref a :: st) (S, I, R, z) Q = (((S a).1 = 7 ∧ 7 < 8 ∧ 16 ≤ a) ∧ RB d 134 39 [l0] st (S, I, aR R a 4 (some b), z) Q) := RB_putR rfl rfl (Or.inr (by decide +kernel))
theorem w134_39 : RB d 134 39 [.ref a] st (S, I, R, z) Q = RB d 134 40 [.ref a] (.ref a :: st) (S, I, R, z) Q := RB_aloadn rfl rfl
theorem w134_40 : RB d 134 40 [l0] st (S, I, R, z) Q = RB d 134 42 [l0] (.int 96 :: st) (S, I, R, z) Q := RB_bipush rfl kb96
theorem w134_42 : RB d 134 42 [l0] (.int i :: st) σ Q = ((¬ i < 0 ∧ i.toNatClampNeg ≤ 5000) ∧ RB d 134 44 [l0] (.ref σ.2.2.2.1 :: st) (aNc 9 i.toNatClampNeg σ) Q) := RB_newI rfl
theorem w134_44 : RB d 134 44 [l0] (.ref b :: .ref a :: st) (S, I, R, z) Q = (((S a).1 = 7 ∧ 7 < 8 ∧ 16 ≤ a) ∧ RB d 134 47 [l0] st (S, I, aR R a 5 (some b), z) Q) := RB_putR rfl rfl (Or.inr (by decide +kernel))
theorem w134_47 : RB d 134 47 [.ref a] st (S, I, R, z) Q = RB d 134 48 [.ref a] (.ref a :: st) (S, I, R, z) Q := RB_aloadn rfl rfl
theorem w134_48 : RB d 134 48 [l0] st (S, I, R, z) Q = RB d 134 50 [l0] (.int 11 :: st) (S, I, R, z) Q := RB_bipush rfl kb11
theorem w134_50 : RB d 134 50 [l0] (.int i :: st) σ Q = ((¬ i < 0 ∧ i.toNatClampNeg ≤ 5000) ∧ RB d 134 52 [l0] (.ref σ.2.2.2.1 :: st) (aNc 8 i.toNatClampNeg σ) Q) := RB_newC rfl
theorem w134_52 : RB d 134 52 [l0] (v :: st) (S, I, R, z) Q = RB d 134 53 [l0] (v :: v :: st) (S, I, R, z) Q := RB_dup rfl
theorem w134_53 : RB d 134 53 [l0] st (S, I, R, z) Q = RB d 134 54 [l0] (.int 0 :: st) (S, I, R, z) Q := RB_iconst rfl ki0
theorem w134_54 : RB d 134 54 [l0] st (S, I, R, z) Q = RB d 134 56 [l0] (.int 97 :: st) (S, I, R, z) Q := RB_bipush rfl kb97
theorem w134_56 : RB d 134 56 [l0] (.int x :: .int i :: .ref a :: st) (S, I, R, z) Q = (((S a).1 = 8 ∧ aIx i (S a).2 ∧ 16 ≤ a) ∧ RB d 134 57 [l0] st (S, aW I a i.toNatClampNeg (vp_nar .char x), R, z) Q) := RB_cast rfl
theorem w134_57 : RB d 134 57 [l0] (v :: st) (S, I, R, z) Q = RB d 134 58 [l0] (v :: v :: st) (S, I, R, z) Q := RB_dup rfl
theorem w134_58 : RB d 134 58 [l0] st (S, I, R, z) Q = RB d 134 59 [l0] (.int 1 :: st) (S, I, R, z) Q := RB_iconst rfl ki1
theorem w134_59 : RB d 134 59 [l0] st (S, I, R, z) Q = RB d 134 61 [l0] (.int 115 :: st) (S, I, R, z) Q := RB_bipush rfl kb115
theorem w134_61 : RB d 134 61 [l0] (.int x :: .int i :: .ref a :: st) (S, I, R, z) Q = (((S a).1 = 8 ∧ aIx i (S a).2 ∧ 16 ≤ a) ∧ RB d 134 62 [l0] st (S, aW I a i.toNatClampNeg (vp_nar .char x), R, z) Q) := RB_cast rfl
theorem w134_62 : RB d 134 62 [l0] (v :: st) (S, I, R, z) Q = RB d 134 63 [l0] (v :: v :: st) (S, I, R, z) Q := RB_dup rfl
theorem w134_63 : RB d 134 63 [l0] st (S, I, R, z) Q = RB d 134 64 [l0] (.int 2 :: st) (S, I, R, z) Q := RB_iconst rfl ki2
theorem w134_64 : RB d 134 64 [l0] st (S, I, R, z) Q = RB d 134 66 [l0] (.int 107 :: st) (S, I, R, z) Q := RB_bipush rfl kb107
theorem w134_66 : RB d 134 66 [l0] (.int x :: .int i :: .ref a :: st) (S, I, R, z) Q = (((S a).1 = 8 ∧ aIx i (S a).2 ∧ 16 ≤ a) ∧ RB d 134 67 [l0] st (S, aW I a i.toNatClampNeg (vp_nar .char x), R, z) Q) := RB_cast rfl
theorem w134_67 : RB d 134 67 [l0] (v :: st) (S, I, R, z) Q = RB d 134 68 [l0] (v :: v :: st) (S, I, R, z) Q := RB_dup rfl
theorem w134_68 : RB d 134 68 [l0] st (S, I, R, z) Q = RB d 134 69 [l0] (.int 3 :: st) (S, I, R, z) Q := RB_iconst rfl ki3
theorem w134_69 : RB d 134 69 [l0] st (S, I, R, z) Q = RB d 134 71 [l0] (.int 100 :: st) (S, I, R, z) Q := RB_bipush rfl kb100
theorem w134_71 : RB d 134 71 [l0] (.int x :: .int i :: .ref a :: st) (S, I, R, z) Q = (((S a).1 = 8 ∧ aIx i (S a).2 ∧ 16 ≤ a) ∧ RB d 134 72 [l0] st (S, aW I a i.toNatClampNeg (vp_nar .char x), R, z) Q) := RB_cast rfl
theorem w134_72 : RB d 134 72 [l0] (v :: st) (S, I, R, z) Q = RB d 134 73 [l0] (v :: v :: st) (S, I, R, z) Q := RB_dup rfl
theorem w134_73 : RB d 134 73 [l0] st (S, I, R, z) Q = RB d 134 74 [l0] (.int 4 :: st) (S, I, R, z) Q := RB_iconst rfl ki4
theorem w134_74 : RB d 134 74 [l0] st (S, I, R, z) Q = RB d 134 76 [l0] (.int 114 :: st) (S, I, R, z) Q := RB_bipush rfl kb114
theorem w134_76 : RB d 134 76 [l0] (.int x :: .int i :: .ref a :: st) (S, I, R, z) Q = (((S a).1 = 8 ∧ aIx i (S a).2 ∧ 16 ≤ a) ∧ RB d 134 77 [l0] st (S, aW I a i.toNatClampNeg (vp_nar .char x), R, z) Q) := RB_cast rfl
theorem w134_77 : RB d 134 77 [l0] (v :: st) (S, I, R, z) Q = RB d 134 78 [l0] (v :: v :: st) (S, I, R, z) Q := RB_dup rfl
theorem w134_78 : RB d 134 78 [l0] st (S, I, R, z) Q = RB d 134 79 [l0] (.int 5 :: st) (S, I, R, z) Q := RB_iconst rfl ki5
theorem w134_79 : RB d 134 79 [l0] st (S, I, R, z) Q = RB d 134 81 [l0] (.int 97 :: st) (S, I, R, z) Q := RB_bipush rfl kb97
theorem w134_81 : RB d 134 81 [l0] (.int x :: .int i :: .ref a :: st) (S, I, R, z) Q = (((S a).1 = 8 ∧ aIx i (S a).2 ∧ 16 ≤ a) ∧ RB d 134 82 [l0] st (S, aW I a i.toNatClampNeg (vp_nar .char x), R, z) Q) := RB_cast rfl
theorem w134_82 : RB d 134 82 [l0] (v :: st) (S, I, R, z) Q = RB d 134 83 [l0] (v :: v :: st) (S, I, R, z) Q := RB_dup rfl
theorem w134_83 : RB d 134 83 [l0] st (S, I, R, z) Q = RB d 134 85 [l0] (.int 6 :: st) (S, I, R, z) Q := RB_bipush rfl kb6
theorem w134_85 : RB d 134 85 [l0] st (S, I, R, z) Q = RB d 134 87 [l0] (.int 119 :: st) (S, I, R, z) Q := RB_bipush rfl kb119
theorem w134_87 : RB d 134 87 [l0] (.int x :: .int i :: .ref a :: st) (S, I, R, z) Q = (((S a).1 = 8 ∧ aIx i (S a).2 ∧ 16 ≤ a) ∧ RB d 134 88 [l0] st (S, aW I a i.toNatClampNeg (vp_nar .char x), R, z) Q) := RB_cast rfl
theorem w134_88 : RB d 134 88 [l0] (v :: st) (S, I, R, z) Q = RB d 134 89 [l0] (v :: v :: st) (S, I, R, z) Q := RB_dup rfl
theorem w134_89 : RB d 134 89 [l0] st (S, I, R, z) Q = RB d 134 91 [l0] (.int 7 :: st) (S, I, R, z) Q := RB_bipush rfl kb7
theorem w134_91 : RB d 134 91 [l0] st (S, I, R, z) Q = RB d 134 93 [l0] (.int 102 :: st) (S, I, R, z) Q := RB_bipush rfl kb102
theorem w134_93 : RB d 134 93 [l0] (.int x :: .int i :: .ref a :: st) (S, I, R, z) Q = (((S a).1 = 8 ∧ aIx i (S a).2 ∧ 16 ≤ a) ∧ RB d 134 94 [l0] st (S, aW I a i.toNatClampNeg (vp_nar .char x), R, z) Q) := RB_cast rfl
theorem w134_94 : RB d 134 94 [l0] (v :: st) (S, I, R, z) Q = RB d 134 95 [l0] (v :: v :: st) (S, I, R, z) Q := RB_dup rfl
theorem w134_95 : RB d 134 95 [l0] st (S, I, R, z) Q = RB d 134 97 [l0] (.int 8 :: st) (S, I, R, z) Q := RB_bipush rfl kb8
theorem w134_97 : RB d 134 97 [l0] st (S, I, R, z) Q = RB d 134 99 [l0] (.int 105 :: st) (S, I, R, z) Q := RB_bipush rfl kb105
theorem w134_99 : RB d 134 99 [l0] (.int x :: .int i :: .ref a :: st) (S, I, R, z) Q = (((S a).1 = 8 ∧ aIx i (S a).2 ∧ 16 ≤ a) ∧ RB d 134 100 [l0] st (S, aW I a i.toNatClampNeg (vp_nar .char x), R, z) Q) := RB_cast rfl
theorem w134_100 : RB d 134 100 [l0] (v :: st) (S, I, R, z) Q = RB d 134 101 [l0] (v :: v :: st) (S, I, R, z) Q := RB_dup rfl
theorem w134_101 : RB d 134 101 [l0] st (S, I, R, z) Q = RB d 134 103 [l0] (.int 9 :: st) (S, I, R, z) Q := RB_bipush rfl kb9
theorem w134_103 : RB d 134 103 [l0] st (S, I, R, z) Q = RB d 134 105 [l0] (.int 110 :: st) (S, I, R, z) Q := RB_bipush rfl kb110
theorem w134_105 : RB d 134 105 [l0] (.int x :: .int i :: .ref a :: st) (S, I, R, z) Q = (((S a).1 = 8 ∧ aIx i (S a).2 ∧ 16 ≤ a) ∧ RB d 134 106 [l0] st (S, aW I a i.toNatClampNeg (vp_nar .char x), R, z) Q) := RB_cast rfl
theorem w134_106 : RB d 134 106 [l0] (v :: st) (S, I, R, z) Q = RB d 134 107 [l0] (v :: v :: st) (S, I, R, z) Q := RB_dup rfl
theorem w134_107 : RB d 134 107 [l0] st (S, I, R, z) Q = RB d 134 109 [l0] (.int 10 :: st) (S, I, R, z) Q := RB_bipush rfl kb10
theorem w134_109 : RB d 134 109 [l0] st (S, I, R, z) Q = RB d 134 111 [l0] (.int 101 :: st) (S, I, R, z) Q := RB_bipush rfl kb101
theorem w134_111 : RB d 134 111 [l0] (.int x :: .int i :: .ref a :: st) (S, I, R, z) Q = (((S a).1 = 8 ∧ aIx i (S a).2 ∧ 16 ≤ a) ∧ RB d 134 112 [l0] st (S, aW I a i.toNatClampNeg (vp_nar .char x), R, z) Q) := RB_cast rfl
theorem w134_112 : RB d 134 112 [l0] (.ref b :: .ref a :: st) (S, I, R, z) Q = (((S a).1 = 7 ∧ 7 < 8 ∧ 16 ≤ a) ∧ RB d 134 115 [l0] st (S, I, aR R a 13 (some b), z) Q) := RB_putR rfl rfl (Or.inr (by decide +kernel))
theorem w134_115 : RB d 134 115 [.ref a] st (S, I, R, z) Q = RB d 134 116 [.ref a] (.ref a :: st) (S, I, R, z) Q := RB_aloadn rfl rfl
theorem w134_116 : RB d 134 116 [l0] st (S, I, R, z) Q = RB d 134 117 [l0] (.int 4 :: st) (S, I, R, z) Q := RB_iconst rfl ki4
theorem w134_117 : RB d 134 117 [l0] (.int i :: st) σ Q = ((¬ i < 0 ∧ i.toNatClampNeg ≤ 5000) ∧ RB d 134 119 [l0] (.ref σ.2.2.2.1 :: st) (aNc 9 i.toNatClampNeg σ) Q) := RB_newI rfl
theorem w134_119 : RB d 134 119 [l0] (v :: st) (S, I, R, z) Q = RB d 134 120 [l0] (v :: v :: st) (S, I, R, z) Q := RB_dup rfl
theorem w134_120 : RB d 134 120 [l0] st (S, I, R, z) Q = RB d 134 121 [l0] (.int 0 :: st) (S, I, R, z) Q := RB_iconst rfl ki0
theorem w134_121 : RB d 134 121 [l0] st (S, I, R, z) Q = RB d 134 122 [l0] (.int 0 :: st) (S, I, R, z) Q := RB_iconst rfl ki0
theorem w134_122 : RB d 134 122 [l0] (.int x :: .int i :: .ref a :: st) (S, I, R, z) Q = (((S a).1 = 9 ∧ aIx i (S a).2 ∧ 16 ≤ a) ∧ RB d 134 123 [l0] st (S, aW I a i.toNatClampNeg x, R, z) Q) := RB_iast rfl
theorem w134_123 : RB d 134 123 [l0] (v :: st) (S, I, R, z) Q = RB d 134 124 [l0] (v :: v :: st) (S, I, R, z) Q := RB_dup rfl
theorem w134_124 : RB d 134 124 [l0] st (S, I, R, z) Q = RB d 134 125 [l0] (.int 1 :: st) (S, I, R, z) Q := RB_iconst rfl ki1
theorem w134_125 : RB d 134 125 [l0] st (S, I, R, z) Q = RB d 134 126 [l0] (.int 3 :: st) (S, I, R, z) Q := RB_iconst rfl ki3
theorem w134_126 : RB d 134 126 [l0] (.int x :: .int i :: .ref a :: st) (S, I, R, z) Q = (((S a).1 = 9 ∧ aIx i (S a).2 ∧ 16 ≤ a) ∧ RB d 134 127 [l0] st (S, aW I a i.toNatClampNeg x, R, z) Q) := RB_iast rfl
theorem w134_127 : RB d 134 127 [l0] (v :: st) (S, I, R, z) Q = RB d 134 128 [l0] (v :: v :: st) (S, I, R, z) Q := RB_dup rfl
theorem w134_128 : RB d 134 128 [l0] st (S, I, R, z) Q = RB d 134 129 [l0] (.int 2 :: st) (S, I, R, z) Q := RB_iconst rfl ki2
theorem w134_129 : RB d 134 129 [l0] st (S, I, R, z) Q = RB d 134 131 [l0] (.int 7 :: st) (S, I, R, z) Q := RB_bipush rfl kb7
theorem w134_131 : RB d 134 131 [l0] (.int x :: .int i :: .ref a :: st) (S, I, R, z) Q = (((S a).1 = 9 ∧ aIx i (S a).2 ∧ 16 ≤ a) ∧ RB d 134 132 [l0] st (S, aW I a i.toNatClampNeg x, R, z) Q) := RB_iast rfl
theorem w134_132 : RB d 134 132 [l0] (v :: st) (S, I, R, z) Q = RB d 134 133 [l0] (v :: v :: st) (S, I, R, z) Q := RB_dup rfl
theorem w134_133 : RB d 134 133 [l0] st (S, I, R, z) Q = RB d 134 134 [l0] (.int 3 :: st) (S, I, R, z) Q := RB_iconst rfl ki3
theorem w134_134 : RB d 134 134 [l0] st (S, I, R, z) Q = RB d 134 136 [l0] (.int 11 :: st) (S, I, R, z) Q := RB_bipush rfl kb11
theorem w134_136 : RB d 134 136 [l0] (.int x :: .int i :: .ref a :: st) (S, I, R, z) Q = (((S a).1 = 9 ∧ aIx i (S a).2 ∧ 16 ≤ a) ∧ RB d 134 137 [l0] st (S, aW I a i.toNatClampNeg x, R, z) Q) := RB_iast rfl
theorem w134_137 : RB d 134 137 [l0] (.ref b :: .ref a :: st) (S, I, R, z) Q = (((S a).1 = 7 ∧ 7 < 8 ∧ 16 ≤ a) ∧ RB d 134 140 [l0] st (S, I, aR R a 14 (some b), z) Q) := RB_putR rfl rfl (Or.inr (by decide +kernel))
theorem w134_140 : RB d 134 140 [.ref a] st (S, I, R, z) Q = RB d 134 141 [.ref a] (.ref a :: st) (S, I, R, z) Q := RB_aloadn rfl rfl
theorem w134_141 : RB d 134 141 [l0] st (S, I, R, z) Q = RB d 134 143 [l0] (.int 96 :: st) (S, I, R, z) Q := RB_bipush rfl kb96
theorem w134_143 : RB d 134 143 [l0] (.int i :: st) σ Q = ((¬ i < 0 ∧ i.toNatClampNeg ≤ 5000) ∧ RB d 134 145 [l0] (.ref σ.2.2.2.1 :: st) (aNc 9 i.toNatClampNeg σ) Q) := RB_newI rfl
theorem w134_145 : RB d 134 145 [l0] (.ref b :: .ref a :: st) (S, I, R, z) Q = (((S a).1 = 7 ∧ 7 < 8 ∧ 16 ≤ a) ∧ RB d 134 148 [l0] st (S, I, aR R a 15 (some b), z) Q) := RB_putR rfl rfl (Or.inr (by decide +kernel))
theorem w134_148 : RB d 134 148 [.ref a] st (S, I, R, z) Q = RB d 134 149 [.ref a] (.ref a :: st) (S, I, R, z) Q := RB_aloadn rfl rfl
theorem w134_149 : RB d 134 149 [l0] st (S, I, R, z) Q = RB d 134 151 [l0] (.int 96 :: st) (S, I, R, z) Q := RB_bipush rfl kb96
theorem w134_151 : RB d 134 151 [l0] (.int i :: st) σ Q = ((¬ i < 0 ∧ i.toNatClampNeg ≤ 5000) ∧ RB d 134 153 [l0] (.ref σ.2.2.2.1 :: st) (aNc 9 i.toNatClampNeg σ) Q) := RB_newI rfl
theorem w134_153 : RB d 134 153 [l0] (.ref b :: .ref a :: st) (S, I, R, z) Q = (((S a).1 = 7 ∧ 7 < 8 ∧ 16 ≤ a) ∧ RB d 134 156 [l0] st (S, I, aR R a 18 (some b), z) Q) := RB_putR rfl rfl (Or.inr (by decide +kernel))
theorem w134_156 : RB d 134 156 [.ref a] st (S, I, R, z) Q = RB d 134 157 [.ref a] (.ref a :: st) (S, I, R, z) Q := RB_aloadn rfl rfl
theorem w134_157 : RB d 134 157 [l0] st (S, I, R, z) Q = RB d 134 159 [l0] (.int 10 :: st) (S, I, R, z) Q := RB_bipush rfl kb10
theorem w134_159 : RB d 134 159 [l0] (.int i :: st) σ Q = ((¬ i < 0 ∧ i.toNatClampNeg ≤ 5000) ∧ RB d 134 161 [l0] (.ref σ.2.2.2.1 :: st) (aNc 10 i.toNatClampNeg σ) Q) := RB_newZ rfl
theorem w134_161 : RB d 134 161 [l0] (.ref b :: .ref a :: st) (S, I, R, z) Q = (((S a).1 = 7 ∧ 7 < 8 ∧ 16 ≤ a) ∧ RB d 134 164 [l0] st (S, I, aR R a 20 (some b), z) Q) := RB_putR rfl rfl (Or.inr (by decide +kernel))
theorem w134_164 : RB d 134 164 [.ref a] st (S, I, R, z) Q = RB d 134 165 [.ref a] (.ref a :: st) (S, I, R, z) Q := RB_aloadn rfl rfl
theorem w134_165 : RB d 134 165 [l0] st (S, I, R, z) Q = RB d 134 167 [l0] (.int 96 :: st) (S, I, R, z) Q := RB_bipush rfl kb96
theorem w134_167 : RB d 134 167 [l0] (.int i :: st) σ Q = ((¬ i < 0 ∧ i.toNatClampNeg ≤ 5000) ∧ RB d 134 169 [l0] (.ref σ.2.2.2.1 :: st) (aNc 9 i.toNatClampNeg σ) Q) := RB_newI rfl
theorem w134_169 : RB d 134 169 [l0] (.ref b :: .ref a :: st) (S, I, R, z) Q = (((S a).1 = 7 ∧ 7 < 8 ∧ 16 ≤ a) ∧ RB d 134 172 [l0] st (S, I, aR R a 21 (some b), z) Q) := RB_putR rfl rfl (Or.inr (by decide +kernel))
theorem w134_172 : RB d 134 172 [.ref a] st (S, I, R, z) Q = RB d 134 173 [.ref a] (.ref a :: st) (S, I, R, z) Q := RB_aloadn rfl rfl
theorem w134_173 : RB d 134 173 [l0] st (S, I, R, z) Q = RB d 134 174 [l0] (.int 4 :: st) (S, I, R, z) Q := RB_iconst rfl ki4
theorem w134_174 : RB d 134 174 [l0] (.int i :: st) σ Q = ((¬ i < 0 ∧ i.toNatClampNeg ≤ 5000) ∧ RB d 134 176 [l0] (.ref σ.2.2.2.1 :: st) (aNc 9 i.toNatClampNeg σ) Q) := RB_newI rfl
theorem w134_176 : RB d 134 176 [l0] (.ref b :: .ref a :: st) (S, I, R, z) Q = (((S a).1 = 7 ∧ 7 < 8 ∧ 16 ≤ a) ∧ RB d 134 179 [l0] st (S, I, aR R a 22 (some b), z) Q) := RB_putR rfl rfl (Or.inr (by decide +kernel))
theorem w134_179 : RB d 134 179 [.ref a] st (S, I, R, z) Q = RB d 134 180 [.ref a] (.ref a :: st) (S, I, R, z) Q := RB_aloadn rfl rfl
theorem w134_180 : RB d 134 180 [l0] st (S, I, R, z) Q = RB d 134 181 [l0] (.int 4 :: st) (S, I, R, z) Q := RB_iconst rfl ki4
theorem w134_181 : RB d 134 181 [l0] (.int i :: st) σ Q = ((¬ i < 0 ∧ i.toNatClampNeg ≤ 5000) ∧ RB d 134 183 [l0] (.ref σ.2.2.2.1 :: st) (aNc 9 i.toNatClampNeg σ) Q) := RB_newI rfl
theorem w134_183 : RB d 134 183 [l0] (v :: st) (S, I, R, z) Q = RB d 134 184 [l0] (v :: v :: st) (S, I, R, z) Q := RB_dup rfl
theorem w134_184 : RB d 134 184 [l0] st (S, I, R, z) Q = RB d 134 185 [l0] (.int 0 :: st) (S, I, R, z) Q := RB_iconst rfl ki0
theorem w134_185 : RB d 134 185 [l0] st (S, I, R, z) Q = RB d 134 186 [l0] (.int (-1) :: st) (S, I, R, z) Q := RB_iconst rfl kim1
theorem w134_186 : RB d 134 186 [l0] (.int x :: .int i :: .ref a :: st) (S, I, R, z) Q = (((S a).1 = 9 ∧ aIx i (S a).2 ∧ 16 ≤ a) ∧ RB d 134 187 [l0] st (S, aW I a i.toNatClampNeg x, R, z) Q) := RB_iast rfl
theorem w134_187 : RB d 134 187 [l0] (v :: st) (S, I, R, z) Q = RB d 134 188 [l0] (v :: v :: st) (S, I, R, z) Q := RB_dup rfl
theorem w134_188 : RB d 134 188 [l0] st (S, I, R, z) Q = RB d 134 189 [l0] (.int 1 :: st) (S, I, R, z) Q := RB_iconst rfl ki1
theorem w134_189 : RB d 134 189 [l0] st (S, I, R, z) Q = RB d 134 190 [l0] (.int (-1) :: st) (S, I, R, z) Q := RB_iconst rfl kim1
theorem w134_190 : RB d 134 190 [l0] (.int x :: .int i :: .ref a :: st) (S, I, R, z) Q = (((S a).1 = 9 ∧ aIx i (S a).2 ∧ 16 ≤ a) ∧ RB d 134 191 [l0] st (S, aW I a i.toNatClampNeg x, R, z) Q) := RB_iast rfl
theorem w134_191 : RB d 134 191 [l0] (v :: st) (S, I, R, z) Q = RB d 134 192 [l0] (v :: v :: st) (S, I, R, z) Q := RB_dup rfl
theorem w134_192 : RB d 134 192 [l0] st (S, I, R, z) Q = RB d 134 193 [l0] (.int 2 :: st) (S, I, R, z) Q := RB_iconst rfl ki2
theorem w134_193 : RB d 134 193 [l0] st (S, I, R, z) Q = RB d 134 194 [l0] (.int (-1) :: st) (S, I, R, z) Q := RB_iconst rfl kim1
theorem w134_194 : RB d 134 194 [l0] (.int x :: .int i :: .ref a :: st) (S, I, R, z) Q = (((S a).1 = 9 ∧ aIx i (S a).2 ∧ 16 ≤ a) ∧ RB d 134 195 [l0] st (S, aW I a i.toNatClampNeg x, R, z) Q) := RB_iast rfl
theorem w134_195 : RB d 134 195 [l0] (v :: st) (S, I, R, z) Q = RB d 134 196 [l0] (v :: v :: st) (S, I, R, z) Q := RB_dup rfl
set_option maxRecDepth 20000 in
theorem w134_196 : RB d 134 196 [l0] st (S, I, R, z) Q = RB d 134 197 [l0] (.int 3 :: st) (S, I, R, z) Q := RB_iconst rfl ki3
set_option maxRecDepth 20000 in
theorem w134_197 : RB d 134 197 [l0] st (S, I, R, z) Q = RB d 134 198 [l0] (.int (-1) :: st) (S, I, R, z) Q := RB_iconst rfl kim1
set_option maxRecDepth 20000 in
theorem w134_198 : RB d 134 198 [l0] (.int x :: .int i :: .ref a :: st) (S, I, R, z) Q = (((S a).1 = 9 ∧ aIx i (S a).2 ∧ 16 ≤ a) ∧ RB d 134 199 [l0] st (S, aW I a i.toNatClampNeg x, R, z) Q) := RB_iast rfl
set_option maxRecDepth 20000 in
theorem w134_199 : RB d 134 199 [l0] (.ref b :: .ref a :: st) (S, I, R, z) Q = (((S a).1 = 7 ∧ 7 < 8 ∧ 16 ≤ a) ∧ RB d 134 202 [l0] st (S, I, aR R a 23 (some b), z) Q) := RB_putR rfl rfl (Or.inr (by decide +kernel))
set_option maxRecDepth 20000 in
theorem w134_202 : RB d 134 202 [.ref a] st (S, I, R, z) Q = RB d 134 203 [.ref a] (.ref a :: st) (S, I, R, z) Q := RB_aloadn rfl rfl
set_option maxRecDepth 20000 in
theorem w134_203 : RB d 134 203 [l0] st (S, I, R, z) Q = RB d 134 204 [l0] (.int 4 :: st) (S, I, R, z) Q := RB_iconst rfl ki4
set_option maxRecDepth 20000 in
theorem w134_204 : RB d 134 204 [l0] (.int i :: st) σ Q = ((¬ i < 0 ∧ i.toNatClampNeg ≤ 5000) ∧ RB d 134 206 [l0] (.ref σ.2.2.2.1 :: st) (aNc 9 i.toNatClampNeg σ) Q) := RB_newI rfl
set_option maxRecDepth 20000 in
theorem w134_206 : RB d 134 206 [l0] (.ref b :: .ref a :: st) (S, I, R, z) Q = (((S a).1 = 7 ∧ 7 < 8 ∧ 16 ≤ a) ∧ RB d 134 209 [l0] st (S, I, aR R a 24 (some b), z) Q) := RB_putR rfl rfl (Or.inr (by decide +kernel))
set_option maxRecDepth 20000 in
theorem w134_209 : RB d 134 209 [.ref a] st (S, I, R, z) Q = RB d 134 210 [.ref a] (.ref a :: st) (S, I, R, z) Q := RB_aloadn rfl rfl
set_option maxRecDepth 20000 in
theorem w134_210 : RB d 134 210 [l0] st (S, I, R, z) Q = RB d 134 212 [l0] (.int 96 :: st) (S, I, R, z) Q := RB_bipush rfl kb96
set_option maxRecDepth 20000 in
theorem w134_212 : RB d 134 212 [l0] (.int i :: st) σ Q = ((¬ i < 0 ∧ i.toNatClampNeg ≤ 5000) ∧ RB d 134 214 [l0] (.ref σ.2.2.2.1 :: st) (aNc 9 i.toNatClampNeg σ) Q) := RB_newI rfl
set_option maxRecDepth 20000 in
theorem w134_214 : RB d 134 214 [l0] (.ref b :: .ref a :: st) (S, I, R, z) Q = (((S a).1 = 7 ∧ 7 < 8 ∧ 16 ≤ a) ∧ RB d 134 217 [l0] st (S, I, aR R a 25 (some b), z) Q) := RB_putR rfl rfl (Or.inr (by decide +kernel))
set_option maxRecDepth 20000 in
theorem w134_217 : RB d 134 217 [.ref a] st (S, I, R, z) Q = RB d 134 218 [.ref a] (.ref a :: st) (S, I, R, z) Q := RB_aloadn rfl rfl
set_option maxRecDepth 20000 in
theorem w134_218 : RB d 134 218 [l0] st (S, I, R, z) Q = RB d 134 219 [l0] (.int 5 :: st) (S, I, R, z) Q := RB_iconst rfl ki5
set_option maxRecDepth 20000 in
theorem w134_219 : RB d 134 219 [l0] (.int i :: st) σ Q = ((¬ i < 0 ∧ i.toNatClampNeg ≤ 5000) ∧ RB d 134 221 [l0] (.ref σ.2.2.2.1 :: st) (aNc 9 i.toNatClampNeg σ) Q) := RB_newI rfl
set_option maxRecDepth 20000 in
theorem w134_221 : RB d 134 221 [l0] (.ref b :: .ref a :: st) (S, I, R, z) Q = (((S a).1 = 7 ∧ 7 < 8 ∧ 16 ≤ a) ∧ RB d 134 224 [l0] st (S, I, aR R a 26 (some b), z) Q) := RB_putR rfl rfl (Or.inr (by decide +kernel))
set_option maxRecDepth 20000 in
theorem w134_224 : RB d 134 224 [.ref a] st (S, I, R, z) Q = RB d 134 225 [.ref a] (.ref a :: st) (S, I, R, z) Q := RB_aloadn rfl rfl
set_option maxRecDepth 20000 in
theorem w134_225 : RB d 134 225 [l0] st (S, I, R, z) Q = RB d 134 226 [l0] (.int 5 :: st) (S, I, R, z) Q := RB_iconst rfl ki5
set_option maxRecDepth 20000 in
theorem w134_226 : RB d 134 226 [l0] (.int i :: st) σ Q = ((¬ i < 0 ∧ i.toNatClampNeg ≤ 5000) ∧ RB d 134 228 [l0] (.ref σ.2.2.2.1 :: st) (aNc 9 i.toNatClampNeg σ) Q) := RB_newI rfl
set_option maxRecDepth 20000 in
theorem w134_228 : RB d 134 228 [l0] (.ref b :: .ref a :: st) (S, I, R, z) Q = (((S a).1 = 7 ∧ 7 < 8 ∧ 16 ≤ a) ∧ RB d 134 231 [l0] st (S, I, aR R a 27 (some b), z) Q) := RB_putR rfl rfl (Or.inr (by decide +kernel))
set_option maxRecDepth 20000 in
theorem w134_231 : RB d 134 231 [.ref a] st (S, I, R, z) Q = RB d 134 232 [.ref a] (.ref a :: st) (S, I, R, z) Q := RB_aloadn rfl rfl
set_option maxRecDepth 20000 in
theorem w134_232 : RB d 134 232 [l0] st (S, I, R, z) Q = RB d 134 233 [l0] (.int 5 :: st) (S, I, R, z) Q := RB_iconst rfl ki5
set_option maxRecDepth 20000 in
theorem w134_233 : RB d 134 233 [l0] (.int i :: st) σ Q = ((¬ i < 0 ∧ i.toNatClampNeg ≤ 5000) ∧ RB d 134 235 [l0] (.ref σ.2.2.2.1 :: st) (aNc 9 i.toNatClampNeg σ) Q) := RB_newI rfl
set_option maxRecDepth 20000 in
theorem w134_235 : RB d 134 235 [l0] (.ref b :: .ref a :: st) (S, I, R, z) Q = (((S a).1 = 7 ∧ 7 < 8 ∧ 16 ≤ a) ∧ RB d 134 238 [l0] st (S, I, aR R a 28 (some b), z) Q) := RB_putR rfl rfl (Or.inr (by decide +kernel))
set_option maxRecDepth 20000 in
theorem w134_238 : RB d 134 238 [.ref a] st (S, I, R, z) Q = RB d 134 239 [.ref a] (.ref a :: st) (S, I, R, z) Q := RB_aloadn rfl rfl
set_option maxRecDepth 20000 in
theorem w134_239 : RB d 134 239 [l0] st (S, I, R, z) Q = RB d 134 241 [l0] (.int 120 :: st) (S, I, R, z) Q := RB_bipush rfl kb120
set_option maxRecDepth 20000 in
theorem w134_241 : RB d 134 241 [l0] (.int i :: st) σ Q = ((¬ i < 0 ∧ i.toNatClampNeg ≤ 5000) ∧ RB d 134 243 [l0] (.ref σ.2.2.2.1 :: st) (aNc 9 i.toNatClampNeg σ) Q) := RB_newI rfl
set_option maxRecDepth 20000 in
theorem w134_243 : RB d 134 243 [l0] (.ref b :: .ref a :: st) (S, I, R, z) Q = (((S a).1 = 7 ∧ 7 < 8 ∧ 16 ≤ a) ∧ RB d 134 246 [l0] st (S, I, aR R a 29 (some b), z) Q) := RB_putR rfl rfl (Or.inr (by decide +kernel))
set_option maxRecDepth 20000 in
theorem w134_246 : RB d 134 246 [.ref a] st (S, I, R, z) Q = RB d 134 247 [.ref a] (.ref a :: st) (S, I, R, z) Q := RB_aloadn rfl rfl
set_option maxRecDepth 20000 in
theorem w134_247 : RB d 134 247 [l0] st (S, I, R, z) Q = RB d 134 249 [l0] (.int 24 :: st) (S, I, R, z) Q := RB_bipush rfl kb24
set_option maxRecDepth 20000 in
theorem w134_249 : RB d 134 249 [l0] (.int i :: st) σ Q = ((¬ i < 0 ∧ i.toNatClampNeg ≤ 5000) ∧ RB d 134 251 [l0] (.ref σ.2.2.2.1 :: st) (aNc 9 i.toNatClampNeg σ) Q) := RB_newI rfl
set_option maxRecDepth 20000 in
theorem w134_251 : RB d 134 251 [l0] (.ref b :: .ref a :: st) (S, I, R, z) Q = (((S a).1 = 7 ∧ 7 < 8 ∧ 16 ≤ a) ∧ RB d 134 254 [l0] st (S, I, aR R a 30 (some b), z) Q) := RB_putR rfl rfl (Or.inr (by decide +kernel))
set_option maxRecDepth 20000 in
theorem w134_254 : RB d 134 254 [.ref a] st (S, I, R, z) Q = RB d 134 255 [.ref a] (.ref a :: st) (S, I, R, z) Q := RB_aloadn rfl rfl
set_option maxRecDepth 20000 in
theorem w134_255 : RB d 134 255 [l0] st (S, I, R, z) Q = RB d 134 257 [l0] (.int 60 :: st) (S, I, R, z) Q := RB_bipush rfl kb60
set_option maxRecDepth 20000 in
theorem w134_257 : RB d 134 257 [l0] (.int i :: st) σ Q = ((¬ i < 0 ∧ i.toNatClampNeg ≤ 5000) ∧ RB d 134 259 [l0] (.ref σ.2.2.2.1 :: st) (aNc 9 i.toNatClampNeg σ) Q) := RB_newI rfl
set_option maxRecDepth 20000 in
theorem w134_259 : RB d 134 259 [l0] (.ref b :: .ref a :: st) (S, I, R, z) Q = (((S a).1 = 7 ∧ 7 < 8 ∧ 16 ≤ a) ∧ RB d 134 262 [l0] st (S, I, aR R a 31 (some b), z) Q) := RB_putR rfl rfl (Or.inr (by decide +kernel))
set_option maxRecDepth 20000 in
theorem w134_262 : RB d 134 262 [.ref a] st (S, I, R, z) Q = RB d 134 263 [.ref a] (.ref a :: st) (S, I, R, z) Q := RB_aloadn rfl rfl
set_option maxRecDepth 20000 in
theorem w134_263 : RB d 134 263 [l0] (.ref a :: st) (S, I, R, z) Q = ((S a).1 = 7 ∧ RB d 134 266 [l0] (va_rf (R a 0) :: st) (S, I, R, z) Q) := RB_getR rfl rfl
set_option maxRecDepth 20000 in
theorem w134_266 : RB d 134 266 [l0] st (S, I, R, z) Q = RB d 134 267 [l0] (.int 0 :: st) (S, I, R, z) Q := RB_iconst rfl ki0
set_option maxRecDepth 20000 in
theorem w134_267 : RB d 134 267 [l0] st (S, I, R, z) Q = RB d 134 268 [l0] (.int 1 :: st) (S, I, R, z) Q := RB_iconst rfl ki1
set_option maxRecDepth 20000 in
theorem w134_268 : RB d 134 268 [l0] (.int x :: .int i :: .ref a :: st) (S, I, R, z) Q = (((S a).1 = 9 ∧ aIx i (S a).2 ∧ 16 ≤ a) ∧ RB d 134 269 [l0] st (S, aW I a i.toNatClampNeg x, R, z) Q) := RB_iast rfl
set_option maxRecDepth 20000 in
theorem w134_269 : RB d 134 269 [.ref a] st (S, I, R, z) Q = RB d 134 270 [.ref a] (.ref a :: st) (S, I, R, z) Q := RB_aloadn rfl rfl
set_option maxRecDepth 20000 in
theorem w134_270 : RB d 134 270 [l0] (.ref a :: st) (S, I, R, z) Q = ((S a).1 = 7 ∧ RB d 134 273 [l0] (va_rf (R a 0) :: st) (S, I, R, z) Q) := RB_getR rfl rfl
set_option maxRecDepth 20000 in
theorem w134_273 : RB d 134 273 [l0] st (S, I, R, z) Q = RB d 134 274 [l0] (.int 3 :: st) (S, I, R, z) Q := RB_iconst rfl ki3
set_option maxRecDepth 20000 in
theorem w134_274 : RB d 134 274 [l0] st (S, I, R, z) Q = RB d 134 275 [l0] (.int (-1) :: st) (S, I, R, z) Q := RB_iconst rfl kim1
set_option maxRecDepth 20000 in
theorem w134_275 : RB d 134 275 [l0] (.int x :: .int i :: .ref a :: st) (S, I, R, z) Q = (((S a).1 = 9 ∧ aIx i (S a).2 ∧ 16 ≤ a) ∧ RB d 134 276 [l0] st (S, aW I a i.toNatClampNeg x, R, z) Q) := RB_iast rfl
set_option maxRecDepth 20000 in
theorem w134_276 : RB d 134 276 [.ref a] st (S, I, R, z) Q = RB d 134 277 [.ref a] (.ref a :: st) (S, I, R, z) Q := RB_aloadn rfl rfl
set_option maxRecDepth 20000 in
theorem w134_277 : RB d 134 277 [l0] (.ref a :: st) (S, I, R, z) Q = ((S a).1 = 7 ∧ RB d 134 280 [l0] (va_rf (R a 0) :: st) (S, I, R, z) Q) := RB_getR rfl rfl
set_option maxRecDepth 20000 in
theorem w134_280 : RB d 134 280 [l0] st (S, I, R, z) Q = RB d 134 282 [l0] (.int 6 :: st) (S, I, R, z) Q := RB_bipush rfl kb6
set_option maxRecDepth 20000 in
theorem w134_282 : RB d 134 282 [l0] st (S, I, R, z) Q = RB d 134 284 [l0] (.int 6 :: st) (S, I, R, z) Q := RB_bipush rfl kb6
set_option maxRecDepth 20000 in
theorem w134_284 : RB d 134 284 [l0] (.int x :: .int i :: .ref a :: st) (S, I, R, z) Q = (((S a).1 = 9 ∧ aIx i (S a).2 ∧ 16 ≤ a) ∧ RB d 134 285 [l0] st (S, aW I a i.toNatClampNeg x, R, z) Q) := RB_iast rfl
set_option maxRecDepth 20000 in
theorem w134_285 : RB d 134 285 [l0] [] (S, I, R, z) Q = Q none (S, I, R, z) := RB_ret rfl rfl
/-! 135: HangedWordModel.in -/
theorem w135_0 : RB d 135 0 [.int x, l1, l2] st (S, I, R, z) Q = RB d 135 1 [.int x, l1, l2] (.int x :: st) (S, I, R, z) Q := RB_iloadn rfl rfl
theorem w135_1 : RB d 135 1 [l0, .int x, l2] st (S, I, R, z) Q = RB d 135 2 [l0, .int x, l2] (.int x :: st) (S, I, R, z) Q := RB_iloadn rfl rfl
theorem w135_2 : RB d 135 2 [l0, l1, l2] (.int y :: .int x :: st) (S, I, R, z) Q = ((x < y → RB d 135 14 [l0, l1, l2] st (S, I, R, z) Q) ∧ (¬ x < y → RB d 135 5 [l0, l1, l2] st (S, I, R, z) Q)) := RB_ilt rfl (by decide) rfl
theorem w135_5 : RB d 135 5 [.int x, l1, l2] st (S, I, R, z) Q = RB d 135 6 [.int x, l1, l2] (.int x :: st) (S, I, R, z) Q := RB_iloadn rfl rfl
theorem w135_6 : RB d 135 6 [l0, l1, .int x] st (S, I, R, z) Q = RB d 135 7 [l0, l1, .int x] (.int x :: st) (S, I, R, z) Q := RB_iloadn rfl rfl
theorem w135_7 : RB d 135 7 [l0, l1, l2] (.int y :: .int x :: st) (S, I, R, z) Q = ((y < x → RB d 135 14 [l0, l1, l2] st (S, I, R, z) Q) ∧ (¬ y < x → RB d 135 10 [l0, l1, l2] st (S, I, R, z) Q)) := RB_igt rfl (by decide) rfl
theorem w135_10 : RB d 135 10 [l0, l1, l2] st (S, I, R, z) Q = RB d 135 11 [l0, l1, l2] (.int 1 :: st) (S, I, R, z) Q := RB_iconst rfl ki1
theorem w135_11 : RB d 135 11 [l0, l1, l2] st (S, I, R, z) Q = RB d 135 15 [l0, l1, l2] st (S, I, R, z) Q := RB_goto rfl (by decide) rfl
theorem w135_14 : RB d 135 14 [l0, l1, l2] st (S, I, R, z) Q = RB d 135 15 [l0, l1, l2] (.int 0 :: st) (S, I, R, z) Q := RB_iconst rfl ki0
theorem w135_15 : RB d 135 15 [l0, l1, l2] [.int x] (S, I, R, z) Q = (narrow .boolean (.int x) = .int x ∧ Q (some (.int x)) (S, I, R, z)) := RB_zret rfl rfl (Or.inl rfl)
/-! 136: HangedWordModel.within -/
theorem w136_0 : RB d 136 0 [.int x, l1, l2] st (S, I, R, z) Q = RB d 136 1 [.int x, l1, l2] (.int x :: st) (S, I, R, z) Q := RB_iloadn rfl rfl
theorem w136_1 : RB d 136 1 [l0, .int x, l2] st (S, I, R, z) Q = RB d 136 2 [l0, .int x, l2] (.int x :: st) (S, I, R, z) Q := RB_iloadn rfl rfl
theorem w136_2 : RB d 136 2 [l0, l1, l2] (.int y :: .int x :: st) (S, I, R, z) Q = ((y ≤ x → RB d 136 9 [l0, l1, l2] st (S, I, R, z) Q) ∧ (¬ y ≤ x → RB d 136 5 [l0, l1, l2] st (S, I, R, z) Q)) := RB_ige rfl (by decide) rfl
theorem w136_5 : RB d 136 5 [l0, .int x, l2] st (S, I, R, z) Q = RB d 136 6 [l0, .int x, l2] (.int x :: st) (S, I, R, z) Q := RB_iloadn rfl rfl
theorem w136_6 : RB d 136 6 [l0, l1, l2] st (S, I, R, z) Q = RB d 136 19 [l0, l1, l2] st (S, I, R, z) Q := RB_goto rfl (by decide) rfl
theorem w136_9 : RB d 136 9 [.int x, l1, l2] st (S, I, R, z) Q = RB d 136 10 [.int x, l1, l2] (.int x :: st) (S, I, R, z) Q := RB_iloadn rfl rfl
theorem w136_10 : RB d 136 10 [l0, l1, .int x] st (S, I, R, z) Q = RB d 136 11 [l0, l1, .int x] (.int x :: st) (S, I, R, z) Q := RB_iloadn rfl rfl
theorem w136_11 : RB d 136 11 [l0, l1, l2] (.int y :: .int x :: st) (S, I, R, z) Q = ((x ≤ y → RB d 136 18 [l0, l1, l2] st (S, I, R, z) Q) ∧ (¬ x ≤ y → RB d 136 14 [l0, l1, l2] st (S, I, R, z) Q)) := RB_ile rfl (by decide) rfl
theorem w136_14 : RB d 136 14 [l0, l1, .int x] st (S, I, R, z) Q = RB d 136 15 [l0, l1, .int x] (.int x :: st) (S, I, R, z) Q := RB_iloadn rfl rfl
theorem w136_15 : RB d 136 15 [l0, l1, l2] st (S, I, R, z) Q = RB d 136 19 [l0, l1, l2] st (S, I, R, z) Q := RB_goto rfl (by decide) rfl
theorem w136_18 : RB d 136 18 [.int x, l1, l2] st (S, I, R, z) Q = RB d 136 19 [.int x, l1, l2] (.int x :: st) (S, I, R, z) Q := RB_iloadn rfl rfl
theorem w136_19 : RB d 136 19 [l0, l1, l2] [.int x] (S, I, R, z) Q = Q (some (.int x)) (S, I, R, z) := RB_iret rfl rfl rfl
/-! 137: HangedWordModel.copyAll -/
theorem w137_0 : RB d 137 0 [l0, l1, l2] st (S, I, R, z) Q = RB d 137 1 [l0, l1, l2] (.int 0 :: st) (S, I, R, z) Q := RB_iconst rfl ki0
theorem w137_1 : RB d 137 1 [l0, l1, l2] (.int x :: st) (S, I, R, z) Q = RB d 137 2 [l0, l1, .int x] st (S, I, R, z) Q := RB_istoren rfl (Nat.le_of_ble_eq_true rfl) rfl
theorem w137_2 : RB d 137 2 [l0, l1, .int x] st (S, I, R, z) Q = RB d 137 3 [l0, l1, .int x] (.int x :: st) (S, I, R, z) Q := RB_iloadn rfl rfl
theorem w137_3 : RB d 137 3 [l0, l1, l2] st (S, I, R, z) Q = RB d 137 6 [l0, l1, l2] (.int 1420 :: st) (S, I, R, z) Q := RB_sipush rfl ks1420
theorem w137_6 : RB d 137 6 [l0, l1, l2] (.int y :: .int x :: st) (S, I, R, z) Q = ((y ≤ x → RB d 137 21 [l0, l1, l2] st (S, I, R, z) Q) ∧ (¬ y ≤ x → RB d 137 9 [l0, l1, l2] st (S, I, R, z) Q)) := RB_ige rfl (by decide) rfl
theorem w137_9 : RB d 137 9 [l0, .ref a, l2] st (S, I, R, z) Q = RB d 137 10 [l0, .ref a, l2] (.ref a :: st) (S, I, R, z) Q := RB_aloadn rfl rfl
theorem w137_9N : RB d 137 9 [l0, .null, l2] st (S, I, R, z) Q = RB d 137 10 [l0, .null, l2] (.null :: st) (S, I, R, z) Q := RB_aloadnN rfl rfl
theorem w137_10 : RB d 137 10 [l0, l1, .int x] st (S, I, R, z) Q = RB d 137 11 [l0, l1, .int x] (.int x :: st) (S, I, R, z) Q := RB_iloadn rfl rfl
theorem w137_11 : RB d 137 11 [.ref a, l1, l2] st (S, I, R, z) Q = RB d 137 12 [.ref a, l1, l2] (.ref a :: st) (S, I, R, z) Q := RB_aloadn rfl rfl
theorem w137_11N : RB d 137 11 [.null, l1, l2] st (S, I, R, z) Q = RB d 137 12 [.null, l1, l2] (.null :: st) (S, I, R, z) Q := RB_aloadnN rfl rfl
theorem w137_12 : RB d 137 12 [l0, l1, .int x] st (S, I, R, z) Q = RB d 137 13 [l0, l1, .int x] (.int x :: st) (S, I, R, z) Q := RB_iloadn rfl rfl
theorem w137_13 : RB d 137 13 [l0, l1, l2] (.int i :: .ref a :: st) (S, I, R, z) Q = (((S a).1 = 9 ∧ aIx i (S a).2) ∧ RB d 137 14 [l0, l1, l2] (.int (I a i.toNatClampNeg) :: st) (S, I, R, z) Q) := RB_iald rfl
theorem w137_14 : RB d 137 14 [l0, l1, l2] (.int x :: .int i :: .ref a :: st) (S, I, R, z) Q = (((S a).1 = 9 ∧ aIx i (S a).2 ∧ 16 ≤ a) ∧ RB d 137 15 [l0, l1, l2] st (S, aW I a i.toNatClampNeg x, R, z) Q) := RB_iast rfl
theorem w137_15 : RB d 137 15 [l0, l1, .int x] st (S, I, R, z) Q = RB d 137 18 [l0, l1, .int (x + 1)] st (S, I, R, z) Q := RB_iinc rfl rfl (Nat.le_of_ble_eq_true rfl) ki1 rfl
theorem w137_18 : RB d 137 18 [l0, l1, l2] st (S, I, R, z) Q = RB d 137 2 [l0, l1, l2] st (S, I, R, z) Q := RB_goto rfl (by decide) rfl
theorem w137_21 : RB d 137 21 [l0, l1, l2] [] (S, I, R, z) Q = Q none (S, I, R, z) := RB_ret rfl rfl
/-! 138: HangedWordModel.told0 -/
theorem w138_0 : RB d 138 0 [.int x] st (S, I, R, z) Q = RB d 138 1 [.int x] (.int x :: st) (S, I, R, z) Q := RB_iloadn rfl rfl
theorem w138_1 : RB d 138 1 [l0] (.int x :: st) (S, I, R, z) Q = ((0 ≤ x → RB d 138 9 [l0] st (S, I, R, z) Q) ∧ (¬ 0 ≤ x → RB d 138 4 [l0] st (S, I, R, z) Q)) := RB_ge0 rfl (by decide) rfl
theorem w138_4 : RB d 138 4 [l0] st (S, I, R, z) Q = RB d 138 6 [l0] (.int (-1000000005) :: st) (S, I, R, z) Q := RB_ldc rfl rfl
theorem w138_6 : RB d 138 6 [l0] st (S, I, R, z) Q = RB d 138 10 [l0] st (S, I, R, z) Q := RB_goto rfl (by decide) rfl
theorem w138_9 : RB d 138 9 [.int x] st (S, I, R, z) Q = RB d 138 10 [.int x] (.int x :: st) (S, I, R, z) Q := RB_iloadn rfl rfl
theorem w138_10 : RB d 138 10 [l0] [.int x] (S, I, R, z) Q = Q (some (.int x)) (S, I, R, z) := RB_iret rfl rfl rfl
/-! 139: HangedWordModel.isWord -/
theorem w139_0 : RB d 139 0 [l0, .int x] st (S, I, R, z) Q = RB d 139 1 [l0, .int x] (.int x :: st) (S, I, R, z) Q := RB_iloadn rfl rfl
theorem w139_1 : RB d 139 1 [l0, l1] st (S, I, R, z) Q = RB d 139 2 [l0, l1] (.int 0 :: st) (S, I, R, z) Q := RB_iconst rfl ki0
theorem w139_2 : RB d 139 2 [.ref a, l1] st (S, I, R, z) Q = RB d 139 3 [.ref a, l1] (.ref a :: st) (S, I, R, z) Q := RB_aloadn rfl rfl
theorem w139_3 : RB d 139 3 [l0, l1] (.ref a :: st) (S, I, R, z) Q = ((S a).1 = 7 ∧ RB d 139 6 [l0, l1] (va_rf (R a 0) :: st) (S, I, R, z) Q) := RB_getR rfl rfl
theorem w139_6 : RB d 139 6 [l0, l1] st (S, I, R, z) Q = RB d 139 7 [l0, l1] (.int 1 :: st) (S, I, R, z) Q := RB_iconst rfl ki1
theorem w139_7 : RB d 139 7 [l0, l1] (.int i :: .ref a :: st) (S, I, R, z) Q = (((S a).1 = 9 ∧ aIx i (S a).2) ∧ RB d 139 8 [l0, l1] (.int (I a i.toNatClampNeg) :: st) (S, I, R, z) Q) := RB_iald rfl
theorem w139_8 : RB d 139 8 [l0, l1] st (S, I, R, z) Q = RB d 139 9 [l0, l1] (.int 1 :: st) (S, I, R, z) Q := RB_iconst rfl ki1
theorem w139_9 : RB d 139 9 [l0, l1] (.int y :: .int x :: st) (S, I, R, z) Q = RB d 139 10 [l0, l1] (.int (x - y) :: st) (S, I, R, z) Q := RB_isub rfl
theorem w139_10 : RB d 139 10 [l0, l1] [.int x2, .int x1, .int x0] (S, I, R, z) Q = RM d 135 [.int x0, .int x1, .int x2] (S, I, R, z) (fun v τ => RB d 139 13 [l0, l1] (aPush v []) τ Q) := RB_callS (n := 3) (t := 1) (k := 76) (ins := .invokestatic 76) rfl rfl rfl (Nat.le_of_ble_eq_true rfl) (Nat.le_of_ble_eq_true rfl) rfl rfl
theorem w139_13 : RB d 139 13 [l0, l1] [.int x] (S, I, R, z) Q = (narrow .boolean (.int x) = .int x ∧ Q (some (.int x)) (S, I, R, z)) := RB_zret rfl rfl (Or.inl rfl)
/-! 140: HangedWordModel.isAsker -/
theorem w140_0 : RB d 140 0 [l0, .int x] st (S, I, R, z) Q = RB d 140 1 [l0, .int x] (.int x :: st) (S, I, R, z) Q := RB_iloadn rfl rfl
theorem w140_1 : RB d 140 1 [l0, l1] st (S, I, R, z) Q = RB d 140 2 [l0, l1] (.int 0 :: st) (S, I, R, z) Q := RB_iconst rfl ki0
theorem w140_2 : RB d 140 2 [.ref a, l1] st (S, I, R, z) Q = RB d 140 3 [.ref a, l1] (.ref a :: st) (S, I, R, z) Q := RB_aloadn rfl rfl
theorem w140_3 : RB d 140 3 [l0, l1] (.ref a :: st) (S, I, R, z) Q = ((S a).1 = 7 ∧ RB d 140 6 [l0, l1] (va_rf (R a 0) :: st) (S, I, R, z) Q) := RB_getR rfl rfl
theorem w140_6 : RB d 140 6 [l0, l1] st (S, I, R, z) Q = RB d 140 7 [l0, l1] (.int 2 :: st) (S, I, R, z) Q := RB_iconst rfl ki2
theorem w140_7 : RB d 140 7 [l0, l1] (.int i :: .ref a :: st) (S, I, R, z) Q = (((S a).1 = 9 ∧ aIx i (S a).2) ∧ RB d 140 8 [l0, l1] (.int (I a i.toNatClampNeg) :: st) (S, I, R, z) Q) := RB_iald rfl
theorem w140_8 : RB d 140 8 [l0, l1] st (S, I, R, z) Q = RB d 140 9 [l0, l1] (.int 1 :: st) (S, I, R, z) Q := RB_iconst rfl ki1
theorem w140_9 : RB d 140 9 [l0, l1] (.int y :: .int x :: st) (S, I, R, z) Q = RB d 140 10 [l0, l1] (.int (x - y) :: st) (S, I, R, z) Q := RB_isub rfl
theorem w140_10 : RB d 140 10 [l0, l1] [.int x2, .int x1, .int x0] (S, I, R, z) Q = RM d 135 [.int x0, .int x1, .int x2] (S, I, R, z) (fun v τ => RB d 140 13 [l0, l1] (aPush v []) τ Q) := RB_callS (n := 3) (t := 1) (k := 76) (ins := .invokestatic 76) rfl rfl rfl (Nat.le_of_ble_eq_true rfl) (Nat.le_of_ble_eq_true rfl) rfl rfl
theorem w140_13 : RB d 140 13 [l0, l1] [.int x] (S, I, R, z) Q = (narrow .boolean (.int x) = .int x ∧ Q (some (.int x)) (S, I, R, z)) := RB_zret rfl rfl (Or.inl rfl)
/-! 141: HangedWordModel.isAskable -/
theorem w141_0 : RB d 141 0 [.int x] st (S, I, R, z) Q = RB d 141 1 [.int x] (.int x :: st) (S, I, R, z) Q := RB_iloadn rfl rfl
theorem w141_1 : RB d 141 1 [l0] st (S, I, R, z) Q = RB d 141 2 [l0] (.int 0 :: st) (S, I, R, z) Q := RB_iconst rfl ki0
theorem w141_2 : RB d 141 2 [l0] st (S, I, R, z) Q = RB d 141 3 [l0] (.int 5 :: st) (S, I, R, z) Q := RB_iconst rfl ki5
theorem w141_3 : RB d 141 3 [l0] [.int x2, .int x1, .int x0] (S, I, R, z) Q = RM d 135 [.int x0, .int x1, .int x2] (S, I, R, z) (fun v τ => RB d 141 6 [l0] (aPush v []) τ Q) := RB_callS (n := 3) (t := 1) (k := 76) (ins := .invokestatic 76) rfl rfl rfl (Nat.le_of_ble_eq_true rfl) (Nat.le_of_ble_eq_true rfl) rfl rfl
theorem w141_6 : RB d 141 6 [l0] [.int x] (S, I, R, z) Q = (narrow .boolean (.int x) = .int x ∧ Q (some (.int x)) (S, I, R, z)) := RB_zret rfl rfl (Or.inl rfl)
/-! 142: HangedWordModel.becomes -/
theorem w142_0 : RB d 142 0 [.ref a, l1, l2, l3] st (S, I, R, z) Q = RB d 142 1 [.ref a, l1, l2, l3] (.ref a :: st) (S, I, R, z) Q := RB_aloadn rfl rfl
theorem w142_1 : RB d 142 1 [l0, l1, l2, l3] (.ref a :: st) (S, I, R, z) Q = ((S a).1 = 7 ∧ RB d 142 4 [l0, l1, l2, l3] (va_rf (R a 0) :: st) (S, I, R, z) Q) := RB_getR rfl rfl
theorem w142_4 : RB d 142 4 [l0, .int x, l2, l3] st (S, I, R, z) Q = RB d 142 5 [l0, .int x, l2, l3] (.int x :: st) (S, I, R, z) Q := RB_iloadn rfl rfl
theorem w142_5 : RB d 142 5 [l0, l1, l2, l3] (.int i :: .ref a :: st) (S, I, R, z) Q = (((S a).1 = 9 ∧ aIx i (S a).2) ∧ RB d 142 6 [l0, l1, l2, l3] (.int (I a i.toNatClampNeg) :: st) (S, I, R, z) Q) := RB_iald rfl
theorem w142_6 : RB d 142 6 [l0, l1, l2, l3] (.int x :: st) (S, I, R, z) Q = RB d 142 7 [l0, l1, l2, .int x] st (S, I, R, z) Q := RB_istoren rfl (Nat.le_of_ble_eq_true rfl) rfl
theorem w142_7 : RB d 142 7 [.ref a, l1, l2, l3] st (S, I, R, z) Q = RB d 142 8 [.ref a, l1, l2, l3] (.ref a :: st) (S, I, R, z) Q := RB_aloadn rfl rfl
theorem w142_8 : RB d 142 8 [l0, l1, l2, l3] (.ref a :: st) (S, I, R, z) Q = ((S a).1 = 7 ∧ RB d 142 11 [l0, l1, l2, l3] (va_rf (R a 0) :: st) (S, I, R, z) Q) := RB_getR rfl rfl
theorem w142_11 : RB d 142 11 [l0, .int x, l2, l3] st (S, I, R, z) Q = RB d 142 12 [l0, .int x, l2, l3] (.int x :: st) (S, I, R, z) Q := RB_iloadn rfl rfl
theorem w142_12 : RB d 142 12 [l0, l1, .int x, l3] st (S, I, R, z) Q = RB d 142 13 [l0, l1, .int x, l3] (.int x :: st) (S, I, R, z) Q := RB_iloadn rfl rfl
theorem w142_13 : RB d 142 13 [l0, l1, l2, l3] (.int x :: .int i :: .ref a :: st) (S, I, R, z) Q = (((S a).1 = 9 ∧ aIx i (S a).2 ∧ 16 ≤ a) ∧ RB d 142 14 [l0, l1, l2, l3] st (S, aW I a i.toNatClampNeg x, R, z) Q) := RB_iast rfl
theorem w142_14 : RB d 142 14 [l0, l1, l2, .int x] st (S, I, R, z) Q = RB d 142 15 [l0, l1, l2, .int x] (.int x :: st) (S, I, R, z) Q := RB_iloadn rfl rfl
theorem w142_15 : RB d 142 15 [l0, l1, l2, l3] [.int x] (S, I, R, z) Q = Q (some (.int x)) (S, I, R, z) := RB_iret rfl rfl rfl
end
