section
variable {d : Nat} {st : List Value} {S : Nat → Nat × Nat} {I : Nat → Nat → Int32} {R : Nat → Nat → Option Nat} {z : Nat × Nat} {σ : HS} {Q : Option Value → HS → Prop} {x y i : Int32} {a b : Nat} {v w : Value} {l0 l1 l2 l3 l4 l5 l6 l7 l8 l9 l10 l11 l12 l13 l14 l15 : Value} {x0 x1 x2 x3 x4 x5 : Int32} {v0 v1 v2 v3 v4 s0 s1 s2 s3 s4 s5 : Value}
/-! 143: HangedWordModel.bitsOf -/
theorem w143_0 : RB d 143 0 [l0, l1, l2] st (S, I, R, z) Q = RB d 143 1 [l0, l1, l2] (.int 0 :: st) (S, I, R, z) Q := RB_iconst rfl ki0
theorem w143_1 : RB d 143 1 [l0, l1, l2] (.int x :: st) (S, I, R, z) Q = RB d 143 2 [l0, .int x, l2] st (S, I, R, z) Q := RB_istoren rfl (Nat.le_of_ble_eq_true rfl) rfl
theorem w143_2 : RB d 143 2 [l0, l1, l2] st (S, I, R, z) Q = RB d 143 3 [l0, l1, l2] (.int 0 :: st) (S, I, R, z) Q := RB_iconst rfl ki0
theorem w143_3 : RB d 143 3 [l0, l1, l2] (.int x :: st) (S, I, R, z) Q = RB d 143 4 [l0, l1, .int x] st (S, I, R, z) Q := RB_istoren rfl (Nat.le_of_ble_eq_true rfl) rfl
theorem w143_4 : RB d 143 4 [l0, l1, .int x] st (S, I, R, z) Q = RB d 143 5 [l0, l1, .int x] (.int x :: st) (S, I, R, z) Q := RB_iloadn rfl rfl
theorem w143_5 : RB d 143 5 [l0, l1, l2] st (S, I, R, z) Q = RB d 143 7 [l0, l1, l2] (.int 12 :: st) (S, I, R, z) Q := RB_bipush rfl kb12
theorem w143_7 : RB d 143 7 [l0, l1, l2] (.int y :: .int x :: st) (S, I, R, z) Q = ((y ≤ x → RB d 143 24 [l0, l1, l2] st (S, I, R, z) Q) ∧ (¬ y ≤ x → RB d 143 10 [l0, l1, l2] st (S, I, R, z) Q)) := RB_ige rfl (by decide) rfl
theorem w143_10 : RB d 143 10 [l0, .int x, l2] st (S, I, R, z) Q = RB d 143 11 [l0, .int x, l2] (.int x :: st) (S, I, R, z) Q := RB_iloadn rfl rfl
theorem w143_11 : RB d 143 11 [.int x, l1, l2] st (S, I, R, z) Q = RB d 143 12 [.int x, l1, l2] (.int x :: st) (S, I, R, z) Q := RB_iloadn rfl rfl
theorem w143_12 : RB d 143 12 [l0, l1, .int x] st (S, I, R, z) Q = RB d 143 13 [l0, l1, .int x] (.int x :: st) (S, I, R, z) Q := RB_iloadn rfl rfl
theorem w143_13 : RB d 143 13 [l0, l1, l2] (.int y :: .int x :: st) (S, I, R, z) Q = RB d 143 14 [l0, l1, l2] (.int (x >>> (y &&& 31)) :: st) (S, I, R, z) Q := RB_ishr rfl
theorem w143_14 : RB d 143 14 [l0, l1, l2] st (S, I, R, z) Q = RB d 143 15 [l0, l1, l2] (.int 1 :: st) (S, I, R, z) Q := RB_iconst rfl ki1
theorem w143_15 : RB d 143 15 [l0, l1, l2] (.int y :: .int x :: st) (S, I, R, z) Q = RB d 143 16 [l0, l1, l2] (.int (x &&& y) :: st) (S, I, R, z) Q := RB_iand rfl
theorem w143_16 : RB d 143 16 [l0, l1, l2] (.int y :: .int x :: st) (S, I, R, z) Q = RB d 143 17 [l0, l1, l2] (.int (x + y) :: st) (S, I, R, z) Q := RB_iadd rfl
theorem w143_17 : RB d 143 17 [l0, l1, l2] (.int x :: st) (S, I, R, z) Q = RB d 143 18 [l0, .int x, l2] st (S, I, R, z) Q := RB_istoren rfl (Nat.le_of_ble_eq_true rfl) rfl
theorem w143_18 : RB d 143 18 [l0, l1, .int x] st (S, I, R, z) Q = RB d 143 21 [l0, l1, .int (x + 1)] st (S, I, R, z) Q := RB_iinc rfl rfl (Nat.le_of_ble_eq_true rfl) ki1 rfl
theorem w143_21 : RB d 143 21 [l0, l1, l2] st (S, I, R, z) Q = RB d 143 4 [l0, l1, l2] st (S, I, R, z) Q := RB_goto rfl (by decide) rfl
theorem w143_24 : RB d 143 24 [l0, .int x, l2] st (S, I, R, z) Q = RB d 143 25 [l0, .int x, l2] (.int x :: st) (S, I, R, z) Q := RB_iloadn rfl rfl
theorem w143_25 : RB d 143 25 [l0, l1, l2] [.int x] (S, I, R, z) Q = Q (some (.int x)) (S, I, R, z) := RB_iret rfl rfl rfl
/-! 144: HangedWordModel.letterAt -/
theorem w144_0 : RB d 144 0 [.ref a, l1, l2] st (S, I, R, z) Q = RB d 144 1 [.ref a, l1, l2] (.ref a :: st) (S, I, R, z) Q := RB_aloadn rfl rfl
theorem w144_1 : RB d 144 1 [l0, l1, l2] (.ref a :: st) (S, I, R, z) Q = ((S a).1 = 7 ∧ RB d 144 4 [l0, l1, l2] (va_rf (R a 0) :: st) (S, I, R, z) Q) := RB_getR rfl rfl
theorem w144_4 : RB d 144 4 [l0, l1, l2] st (S, I, R, z) Q = RB d 144 6 [l0, l1, l2] (.int 8 :: st) (S, I, R, z) Q := RB_bipush rfl kb8
theorem w144_6 : RB d 144 6 [l0, l1, l2] st (S, I, R, z) Q = RB d 144 7 [l0, l1, l2] (.int 2 :: st) (S, I, R, z) Q := RB_iconst rfl ki2
theorem w144_7 : RB d 144 7 [l0, .int x, l2] st (S, I, R, z) Q = RB d 144 8 [l0, .int x, l2] (.int x :: st) (S, I, R, z) Q := RB_iloadn rfl rfl
theorem w144_8 : RB d 144 8 [l0, l1, l2] (.int y :: .int x :: st) (S, I, R, z) Q = RB d 144 9 [l0, l1, l2] (.int (x * y) :: st) (S, I, R, z) Q := RB_imul rfl
theorem w144_9 : RB d 144 9 [l0, l1, l2] (.int y :: .int x :: st) (S, I, R, z) Q = RB d 144 10 [l0, l1, l2] (.int (x + y) :: st) (S, I, R, z) Q := RB_iadd rfl
theorem w144_10 : RB d 144 10 [l0, l1, l2] (.int i :: .ref a :: st) (S, I, R, z) Q = (((S a).1 = 9 ∧ aIx i (S a).2) ∧ RB d 144 11 [l0, l1, l2] (.int (I a i.toNatClampNeg) :: st) (S, I, R, z) Q) := RB_iald rfl
theorem w144_11 : RB d 144 11 [l0, l1, l2] st (S, I, R, z) Q = RB d 144 14 [l0, l1, l2] (.ref 1 :: st) (S, I, R, z) Q := RB_gets rfl rfl
theorem w144_14 : RB d 144 14 [l0, l1, .int x] st (S, I, R, z) Q = RB d 144 15 [l0, l1, .int x] (.int x :: st) (S, I, R, z) Q := RB_iloadn rfl rfl
theorem w144_15 : RB d 144 15 [l0, l1, l2] (.int i :: .ref a :: st) (S, I, R, z) Q = (((S a).1 = 9 ∧ aIx i (S a).2) ∧ RB d 144 16 [l0, l1, l2] (.int (I a i.toNatClampNeg) :: st) (S, I, R, z) Q) := RB_iald rfl
theorem w144_16 : RB d 144 16 [l0, l1, l2] (.int y :: .int x :: st) (S, I, R, z) Q = (¬ y = 0 ∧ RB d 144 17 [l0, l1, l2] (.int (x / y) :: st) (S, I, R, z) Q) := RB_idiv rfl
theorem w144_17 : RB d 144 17 [l0, l1, l2] st (S, I, R, z) Q = RB d 144 19 [l0, l1, l2] (.int 6 :: st) (S, I, R, z) Q := RB_bipush rfl kb6
theorem w144_19 : RB d 144 19 [l0, l1, l2] (.int y :: .int x :: st) (S, I, R, z) Q = (¬ y = 0 ∧ RB d 144 20 [l0, l1, l2] (.int (x % y) :: st) (S, I, R, z) Q) := RB_irem rfl
theorem w144_20 : RB d 144 20 [l0, l1, l2] [.int x] (S, I, R, z) Q = Q (some (.int x)) (S, I, R, z) := RB_iret rfl rfl rfl
/-! 145: HangedWordModel.weight -/
theorem w145_0 : RB d 145 0 [.ref a, l1] st (S, I, R, z) Q = RB d 145 1 [.ref a, l1] (.ref a :: st) (S, I, R, z) Q := RB_aloadn rfl rfl
theorem w145_1 : RB d 145 1 [l0, l1] (.ref a :: st) (S, I, R, z) Q = ((S a).1 = 7 ∧ RB d 145 4 [l0, l1] (va_rf (R a 0) :: st) (S, I, R, z) Q) := RB_getR rfl rfl
theorem w145_4 : RB d 145 4 [l0, l1] st (S, I, R, z) Q = RB d 145 6 [l0, l1] (.int 8 :: st) (S, I, R, z) Q := RB_bipush rfl kb8
theorem w145_6 : RB d 145 6 [l0, l1] st (S, I, R, z) Q = RB d 145 7 [l0, l1] (.int 2 :: st) (S, I, R, z) Q := RB_iconst rfl ki2
theorem w145_7 : RB d 145 7 [l0, .int x] st (S, I, R, z) Q = RB d 145 8 [l0, .int x] (.int x :: st) (S, I, R, z) Q := RB_iloadn rfl rfl
theorem w145_8 : RB d 145 8 [l0, l1] (.int y :: .int x :: st) (S, I, R, z) Q = RB d 145 9 [l0, l1] (.int (x * y) :: st) (S, I, R, z) Q := RB_imul rfl
theorem w145_9 : RB d 145 9 [l0, l1] (.int y :: .int x :: st) (S, I, R, z) Q = RB d 145 10 [l0, l1] (.int (x + y) :: st) (S, I, R, z) Q := RB_iadd rfl
theorem w145_10 : RB d 145 10 [l0, l1] st (S, I, R, z) Q = RB d 145 11 [l0, l1] (.int 1 :: st) (S, I, R, z) Q := RB_iconst rfl ki1
theorem w145_11 : RB d 145 11 [l0, l1] (.int y :: .int x :: st) (S, I, R, z) Q = RB d 145 12 [l0, l1] (.int (x + y) :: st) (S, I, R, z) Q := RB_iadd rfl
theorem w145_12 : RB d 145 12 [l0, l1] (.int i :: .ref a :: st) (S, I, R, z) Q = (((S a).1 = 9 ∧ aIx i (S a).2) ∧ RB d 145 13 [l0, l1] (.int (I a i.toNatClampNeg) :: st) (S, I, R, z) Q) := RB_iald rfl
theorem w145_13 : RB d 145 13 [l0, l1] [.int x] (S, I, R, z) Q = Q (some (.int x)) (S, I, R, z) := RB_iret rfl rfl rfl
/-! 146: HangedWordModel.placesOf -/
theorem w146_0 : RB d 146 0 [l0, l1, l2, l3, l4] st (S, I, R, z) Q = RB d 146 1 [l0, l1, l2, l3, l4] (.int 0 :: st) (S, I, R, z) Q := RB_iconst rfl ki0
theorem w146_1 : RB d 146 1 [l0, l1, l2, l3, l4] (.int x :: st) (S, I, R, z) Q = RB d 146 2 [l0, l1, l2, .int x, l4] st (S, I, R, z) Q := RB_istoren rfl (Nat.le_of_ble_eq_true rfl) rfl
theorem w146_2 : RB d 146 2 [l0, l1, l2, l3, l4] st (S, I, R, z) Q = RB d 146 3 [l0, l1, l2, l3, l4] (.int 0 :: st) (S, I, R, z) Q := RB_iconst rfl ki0
theorem w146_3 : RB d 146 3 [l0, l1, l2, l3, l4] (.int x :: st) (S, I, R, z) Q = RB d 146 5 [l0, l1, l2, l3, .int x] st (S, I, R, z) Q := RB_istore rfl (Nat.le_of_ble_eq_true rfl) rfl
theorem w146_5 : RB d 146 5 [l0, l1, l2, l3, .int x] st (S, I, R, z) Q = RB d 146 7 [l0, l1, l2, l3, .int x] (.int x :: st) (S, I, R, z) Q := RB_iload rfl rfl
theorem w146_7 : RB d 146 7 [l0, l1, l2, l3, l4] st (S, I, R, z) Q = RB d 146 8 [l0, l1, l2, l3, l4] (.int 4 :: st) (S, I, R, z) Q := RB_iconst rfl ki4
theorem w146_8 : RB d 146 8 [l0, l1, l2, l3, l4] (.int y :: .int x :: st) (S, I, R, z) Q = ((y ≤ x → RB d 146 39 [l0, l1, l2, l3, l4] st (S, I, R, z) Q) ∧ (¬ y ≤ x → RB d 146 11 [l0, l1, l2, l3, l4] st (S, I, R, z) Q)) := RB_ige rfl (by decide) rfl
theorem w146_11 : RB d 146 11 [l0, l1, l2, .int x, l4] st (S, I, R, z) Q = RB d 146 12 [l0, l1, l2, .int x, l4] (.int x :: st) (S, I, R, z) Q := RB_iloadn rfl rfl
theorem w146_12 : RB d 146 12 [.ref a, l1, l2, l3, l4] st (S, I, R, z) Q = RB d 146 13 [.ref a, l1, l2, l3, l4] (.ref a :: st) (S, I, R, z) Q := RB_aloadn rfl rfl
theorem w146_13 : RB d 146 13 [l0, .int x, l2, l3, l4] st (S, I, R, z) Q = RB d 146 14 [l0, .int x, l2, l3, l4] (.int x :: st) (S, I, R, z) Q := RB_iloadn rfl rfl
theorem w146_14 : RB d 146 14 [l0, l1, l2, l3, .int x] st (S, I, R, z) Q = RB d 146 16 [l0, l1, l2, l3, .int x] (.int x :: st) (S, I, R, z) Q := RB_iload rfl rfl
set_option maxRecDepth 20000 in
theorem w146_16 : RB d 146 16 [l0, l1, l2, l3, l4] [.int x1, .int x0, .ref a, s0] (S, I, R, z) Q = ((S a).1 = 7 ∧ RM d 144 [.ref a, .int x0, .int x1] (S, I, R, z) (fun v τ => RB d 146 19 [l0, l1, l2, l3, l4] (aPush v [s0]) τ Q)) := RB_callV (n := 3) (t := 0) (k := 83) (ins := .invokevirtual 83) rfl rfl rfl (by decide) (Nat.le_of_ble_eq_true rfl) (Nat.le_of_ble_eq_true rfl) rfl rfl
theorem w146_19 : RB d 146 19 [l0, l1, .int x, l3, l4] st (S, I, R, z) Q = RB d 146 20 [l0, l1, .int x, l3, l4] (.int x :: st) (S, I, R, z) Q := RB_iloadn rfl rfl
theorem w146_20 : RB d 146 20 [l0, l1, l2, l3, l4] (.int y :: .int x :: st) (S, I, R, z) Q = ((x = y → RB d 146 23 [l0, l1, l2, l3, l4] st (S, I, R, z) Q) ∧ (¬ x = y → RB d 146 30 [l0, l1, l2, l3, l4] st (S, I, R, z) Q)) := RB_ine rfl (by decide) rfl
theorem w146_23 : RB d 146 23 [l0, l1, l2, l3, l4] st (S, I, R, z) Q = RB d 146 24 [l0, l1, l2, l3, l4] (.int 1 :: st) (S, I, R, z) Q := RB_iconst rfl ki1
theorem w146_24 : RB d 146 24 [l0, l1, l2, l3, .int x] st (S, I, R, z) Q = RB d 146 26 [l0, l1, l2, l3, .int x] (.int x :: st) (S, I, R, z) Q := RB_iload rfl rfl
theorem w146_26 : RB d 146 26 [l0, l1, l2, l3, l4] (.int y :: .int x :: st) (S, I, R, z) Q = RB d 146 27 [l0, l1, l2, l3, l4] (.int (x <<< (y &&& 31)) :: st) (S, I, R, z) Q := RB_ishl rfl
theorem w146_27 : RB d 146 27 [l0, l1, l2, l3, l4] st (S, I, R, z) Q = RB d 146 31 [l0, l1, l2, l3, l4] st (S, I, R, z) Q := RB_goto rfl (by decide) rfl
theorem w146_30 : RB d 146 30 [l0, l1, l2, l3, l4] st (S, I, R, z) Q = RB d 146 31 [l0, l1, l2, l3, l4] (.int 0 :: st) (S, I, R, z) Q := RB_iconst rfl ki0
theorem w146_31 : RB d 146 31 [l0, l1, l2, l3, l4] (.int y :: .int x :: st) (S, I, R, z) Q = RB d 146 32 [l0, l1, l2, l3, l4] (.int (x ||| y) :: st) (S, I, R, z) Q := RB_ior rfl
theorem w146_32 : RB d 146 32 [l0, l1, l2, l3, l4] (.int x :: st) (S, I, R, z) Q = RB d 146 33 [l0, l1, l2, .int x, l4] st (S, I, R, z) Q := RB_istoren rfl (Nat.le_of_ble_eq_true rfl) rfl
theorem w146_33 : RB d 146 33 [l0, l1, l2, l3, .int x] st (S, I, R, z) Q = RB d 146 36 [l0, l1, l2, l3, .int (x + 1)] st (S, I, R, z) Q := RB_iinc rfl rfl (Nat.le_of_ble_eq_true rfl) ki1 rfl
theorem w146_36 : RB d 146 36 [l0, l1, l2, l3, l4] st (S, I, R, z) Q = RB d 146 5 [l0, l1, l2, l3, l4] st (S, I, R, z) Q := RB_goto rfl (by decide) rfl
theorem w146_39 : RB d 146 39 [l0, l1, l2, .int x, l4] st (S, I, R, z) Q = RB d 146 40 [l0, l1, l2, .int x, l4] (.int x :: st) (S, I, R, z) Q := RB_iloadn rfl rfl
theorem w146_40 : RB d 146 40 [l0, l1, l2, l3, l4] [.int x] (S, I, R, z) Q = Q (some (.int x)) (S, I, R, z) := RB_iret rfl rfl rfl
/-! 147: HangedWordModel.lettersOf -/
theorem w147_0 : RB d 147 0 [l0, l1, l2, l3] st (S, I, R, z) Q = RB d 147 1 [l0, l1, l2, l3] (.int 0 :: st) (S, I, R, z) Q := RB_iconst rfl ki0
theorem w147_1 : RB d 147 1 [l0, l1, l2, l3] (.int x :: st) (S, I, R, z) Q = RB d 147 2 [l0, l1, .int x, l3] st (S, I, R, z) Q := RB_istoren rfl (Nat.le_of_ble_eq_true rfl) rfl
theorem w147_2 : RB d 147 2 [l0, l1, l2, l3] st (S, I, R, z) Q = RB d 147 3 [l0, l1, l2, l3] (.int 0 :: st) (S, I, R, z) Q := RB_iconst rfl ki0
theorem w147_3 : RB d 147 3 [l0, l1, l2, l3] (.int x :: st) (S, I, R, z) Q = RB d 147 4 [l0, l1, l2, .int x] st (S, I, R, z) Q := RB_istoren rfl (Nat.le_of_ble_eq_true rfl) rfl
theorem w147_4 : RB d 147 4 [l0, l1, l2, .int x] st (S, I, R, z) Q = RB d 147 5 [l0, l1, l2, .int x] (.int x :: st) (S, I, R, z) Q := RB_iloadn rfl rfl
theorem w147_5 : RB d 147 5 [l0, l1, l2, l3] st (S, I, R, z) Q = RB d 147 6 [l0, l1, l2, l3] (.int 4 :: st) (S, I, R, z) Q := RB_iconst rfl ki4
theorem w147_6 : RB d 147 6 [l0, l1, l2, l3] (.int y :: .int x :: st) (S, I, R, z) Q = ((y ≤ x → RB d 147 26 [l0, l1, l2, l3] st (S, I, R, z) Q) ∧ (¬ y ≤ x → RB d 147 9 [l0, l1, l2, l3] st (S, I, R, z) Q)) := RB_ige rfl (by decide) rfl
theorem w147_9 : RB d 147 9 [l0, l1, .int x, l3] st (S, I, R, z) Q = RB d 147 10 [l0, l1, .int x, l3] (.int x :: st) (S, I, R, z) Q := RB_iloadn rfl rfl
theorem w147_10 : RB d 147 10 [l0, l1, l2, l3] st (S, I, R, z) Q = RB d 147 11 [l0, l1, l2, l3] (.int 1 :: st) (S, I, R, z) Q := RB_iconst rfl ki1
theorem w147_11 : RB d 147 11 [.ref a, l1, l2, l3] st (S, I, R, z) Q = RB d 147 12 [.ref a, l1, l2, l3] (.ref a :: st) (S, I, R, z) Q := RB_aloadn rfl rfl
theorem w147_12 : RB d 147 12 [l0, .int x, l2, l3] st (S, I, R, z) Q = RB d 147 13 [l0, .int x, l2, l3] (.int x :: st) (S, I, R, z) Q := RB_iloadn rfl rfl
theorem w147_13 : RB d 147 13 [l0, l1, l2, .int x] st (S, I, R, z) Q = RB d 147 14 [l0, l1, l2, .int x] (.int x :: st) (S, I, R, z) Q := RB_iloadn rfl rfl
set_option maxRecDepth 20000 in
theorem w147_14 : RB d 147 14 [l0, l1, l2, l3] [.int x1, .int x0, .ref a, s0, s1] (S, I, R, z) Q = ((S a).1 = 7 ∧ RM d 144 [.ref a, .int x0, .int x1] (S, I, R, z) (fun v τ => RB d 147 17 [l0, l1, l2, l3] (aPush v [s0, s1]) τ Q)) := RB_callV (n := 3) (t := 0) (k := 83) (ins := .invokevirtual 83) rfl rfl rfl (by decide) (Nat.le_of_ble_eq_true rfl) (Nat.le_of_ble_eq_true rfl) rfl rfl
theorem w147_17 : RB d 147 17 [l0, l1, l2, l3] (.int y :: .int x :: st) (S, I, R, z) Q = RB d 147 18 [l0, l1, l2, l3] (.int (x <<< (y &&& 31)) :: st) (S, I, R, z) Q := RB_ishl rfl
theorem w147_18 : RB d 147 18 [l0, l1, l2, l3] (.int y :: .int x :: st) (S, I, R, z) Q = RB d 147 19 [l0, l1, l2, l3] (.int (x ||| y) :: st) (S, I, R, z) Q := RB_ior rfl
theorem w147_19 : RB d 147 19 [l0, l1, l2, l3] (.int x :: st) (S, I, R, z) Q = RB d 147 20 [l0, l1, .int x, l3] st (S, I, R, z) Q := RB_istoren rfl (Nat.le_of_ble_eq_true rfl) rfl
theorem w147_20 : RB d 147 20 [l0, l1, l2, .int x] st (S, I, R, z) Q = RB d 147 23 [l0, l1, l2, .int (x + 1)] st (S, I, R, z) Q := RB_iinc rfl rfl (Nat.le_of_ble_eq_true rfl) ki1 rfl
theorem w147_23 : RB d 147 23 [l0, l1, l2, l3] st (S, I, R, z) Q = RB d 147 4 [l0, l1, l2, l3] st (S, I, R, z) Q := RB_goto rfl (by decide) rfl
theorem w147_26 : RB d 147 26 [l0, l1, .int x, l3] st (S, I, R, z) Q = RB d 147 27 [l0, l1, .int x, l3] (.int x :: st) (S, I, R, z) Q := RB_iloadn rfl rfl
theorem w147_27 : RB d 147 27 [l0, l1, l2, l3] [.int x] (S, I, R, z) Q = Q (some (.int x)) (S, I, R, z) := RB_iret rfl rfl rfl
/-! 148: HangedWordModel.fitsBy -/
theorem w148_0 : RB d 148 0 [l0, l1, l2, l3, l4, l5, l6, l7, l8] st (S, I, R, z) Q = RB d 148 1 [l0, l1, l2, l3, l4, l5, l6, l7, l8] (.int 0 :: st) (S, I, R, z) Q := RB_iconst rfl ki0
theorem w148_1 : RB d 148 1 [l0, l1, l2, l3, l4, l5, l6, l7, l8] (.int x :: st) (S, I, R, z) Q = RB d 148 2 [l0, l1, l2, .int x, l4, l5, l6, l7, l8] st (S, I, R, z) Q := RB_istoren rfl (Nat.le_of_ble_eq_true rfl) rfl
theorem w148_2 : RB d 148 2 [l0, l1, l2, l3, l4, l5, l6, l7, l8] st (S, I, R, z) Q = RB d 148 3 [l0, l1, l2, l3, l4, l5, l6, l7, l8] (.int 0 :: st) (S, I, R, z) Q := RB_iconst rfl ki0
theorem w148_3 : RB d 148 3 [l0, l1, l2, l3, l4, l5, l6, l7, l8] (.int x :: st) (S, I, R, z) Q = RB d 148 5 [l0, l1, l2, l3, .int x, l5, l6, l7, l8] st (S, I, R, z) Q := RB_istore rfl (Nat.le_of_ble_eq_true rfl) rfl
theorem w148_5 : RB d 148 5 [l0, l1, l2, l3, .int x, l5, l6, l7, l8] st (S, I, R, z) Q = RB d 148 7 [l0, l1, l2, l3, .int x, l5, l6, l7, l8] (.int x :: st) (S, I, R, z) Q := RB_iload rfl rfl
theorem w148_7 : RB d 148 7 [.ref a, l1, l2, l3, l4, l5, l6, l7, l8] st (S, I, R, z) Q = RB d 148 8 [.ref a, l1, l2, l3, l4, l5, l6, l7, l8] (.ref a :: st) (S, I, R, z) Q := RB_aloadn rfl rfl
theorem w148_8 : RB d 148 8 [l0, l1, l2, l3, l4, l5, l6, l7, l8] (.ref a :: st) (S, I, R, z) Q = ((S a).1 = 7 ∧ RB d 148 11 [l0, l1, l2, l3, l4, l5, l6, l7, l8] (va_rf (R a 0) :: st) (S, I, R, z) Q) := RB_getR rfl rfl
theorem w148_11 : RB d 148 11 [l0, l1, l2, l3, l4, l5, l6, l7, l8] st (S, I, R, z) Q = RB d 148 12 [l0, l1, l2, l3, l4, l5, l6, l7, l8] (.int 1 :: st) (S, I, R, z) Q := RB_iconst rfl ki1
theorem w148_12 : RB d 148 12 [l0, l1, l2, l3, l4, l5, l6, l7, l8] (.int i :: .ref a :: st) (S, I, R, z) Q = (((S a).1 = 9 ∧ aIx i (S a).2) ∧ RB d 148 13 [l0, l1, l2, l3, l4, l5, l6, l7, l8] (.int (I a i.toNatClampNeg) :: st) (S, I, R, z) Q) := RB_iald rfl
theorem w148_13 : RB d 148 13 [l0, l1, l2, l3, l4, l5, l6, l7, l8] (.int y :: .int x :: st) (S, I, R, z) Q = ((y ≤ x → RB d 148 112 [l0, l1, l2, l3, l4, l5, l6, l7, l8] st (S, I, R, z) Q) ∧ (¬ y ≤ x → RB d 148 16 [l0, l1, l2, l3, l4, l5, l6, l7, l8] st (S, I, R, z) Q)) := RB_ige rfl (by decide) rfl
theorem w148_16 : RB d 148 16 [l0, l1, l2, l3, l4, l5, l6, l7, l8] st (S, I, R, z) Q = RB d 148 17 [l0, l1, l2, l3, l4, l5, l6, l7, l8] (.int 1 :: st) (S, I, R, z) Q := RB_iconst rfl ki1
theorem w148_17 : RB d 148 17 [l0, l1, l2, l3, l4, l5, l6, l7, l8] (.int x :: st) (S, I, R, z) Q = RB d 148 19 [l0, l1, l2, l3, l4, .int x, l6, l7, l8] st (S, I, R, z) Q := RB_istore rfl (Nat.le_of_ble_eq_true rfl) rfl
theorem w148_19 : RB d 148 19 [l0, l1, l2, l3, l4, l5, l6, l7, l8] st (S, I, R, z) Q = RB d 148 20 [l0, l1, l2, l3, l4, l5, l6, l7, l8] (.int 0 :: st) (S, I, R, z) Q := RB_iconst rfl ki0
theorem w148_20 : RB d 148 20 [l0, l1, l2, l3, l4, l5, l6, l7, l8] (.int x :: st) (S, I, R, z) Q = RB d 148 22 [l0, l1, l2, l3, l4, l5, .int x, l7, l8] st (S, I, R, z) Q := RB_istore rfl (Nat.le_of_ble_eq_true rfl) rfl
theorem w148_22 : RB d 148 22 [l0, l1, l2, l3, l4, l5, .int x, l7, l8] st (S, I, R, z) Q = RB d 148 24 [l0, l1, l2, l3, l4, l5, .int x, l7, l8] (.int x :: st) (S, I, R, z) Q := RB_iload rfl rfl
theorem w148_24 : RB d 148 24 [l0, l1, l2, l3, l4, l5, l6, l7, l8] st (S, I, R, z) Q = RB d 148 25 [l0, l1, l2, l3, l4, l5, l6, l7, l8] (.int 4 :: st) (S, I, R, z) Q := RB_iconst rfl ki4
theorem w148_25 : RB d 148 25 [l0, l1, l2, l3, l4, l5, l6, l7, l8] (.int y :: .int x :: st) (S, I, R, z) Q = ((y ≤ x → RB d 148 90 [l0, l1, l2, l3, l4, l5, l6, l7, l8] st (S, I, R, z) Q) ∧ (¬ y ≤ x → RB d 148 28 [l0, l1, l2, l3, l4, l5, l6, l7, l8] st (S, I, R, z) Q)) := RB_ige rfl (by decide) rfl
theorem w148_28 : RB d 148 28 [.ref a, l1, l2, l3, l4, l5, l6, l7, l8] st (S, I, R, z) Q = RB d 148 29 [.ref a, l1, l2, l3, l4, l5, l6, l7, l8] (.ref a :: st) (S, I, R, z) Q := RB_aloadn rfl rfl
theorem w148_29 : RB d 148 29 [l0, l1, l2, l3, .int x, l5, l6, l7, l8] st (S, I, R, z) Q = RB d 148 31 [l0, l1, l2, l3, .int x, l5, l6, l7, l8] (.int x :: st) (S, I, R, z) Q := RB_iload rfl rfl
theorem w148_31 : RB d 148 31 [l0, l1, l2, l3, l4, l5, .int x, l7, l8] st (S, I, R, z) Q = RB d 148 33 [l0, l1, l2, l3, l4, l5, .int x, l7, l8] (.int x :: st) (S, I, R, z) Q := RB_iload rfl rfl
set_option maxRecDepth 20000 in
theorem w148_33 : RB d 148 33 [l0, l1, l2, l3, l4, l5, l6, l7, l8] [.int x1, .int x0, .ref a] (S, I, R, z) Q = ((S a).1 = 7 ∧ RM d 144 [.ref a, .int x0, .int x1] (S, I, R, z) (fun v τ => RB d 148 36 [l0, l1, l2, l3, l4, l5, l6, l7, l8] (aPush v []) τ Q)) := RB_callV (n := 3) (t := 0) (k := 83) (ins := .invokevirtual 83) rfl rfl rfl (by decide) (Nat.le_of_ble_eq_true rfl) (Nat.le_of_ble_eq_true rfl) rfl rfl
theorem w148_36 : RB d 148 36 [l0, l1, l2, l3, l4, l5, l6, l7, l8] (.int x :: st) (S, I, R, z) Q = RB d 148 38 [l0, l1, l2, l3, l4, l5, l6, .int x, l8] st (S, I, R, z) Q := RB_istore rfl (Nat.le_of_ble_eq_true rfl) rfl
theorem w148_38 : RB d 148 38 [.ref a, l1, l2, l3, l4, l5, l6, l7, l8] st (S, I, R, z) Q = RB d 148 39 [.ref a, l1, l2, l3, l4, l5, l6, l7, l8] (.ref a :: st) (S, I, R, z) Q := RB_aloadn rfl rfl
theorem w148_39 : RB d 148 39 [l0, .int x, l2, l3, l4, l5, l6, l7, l8] st (S, I, R, z) Q = RB d 148 40 [l0, .int x, l2, l3, l4, l5, l6, l7, l8] (.int x :: st) (S, I, R, z) Q := RB_iloadn rfl rfl
theorem w148_40 : RB d 148 40 [l0, l1, l2, l3, l4, l5, .int x, l7, l8] st (S, I, R, z) Q = RB d 148 42 [l0, l1, l2, l3, l4, l5, .int x, l7, l8] (.int x :: st) (S, I, R, z) Q := RB_iload rfl rfl
set_option maxRecDepth 20000 in
theorem w148_42 : RB d 148 42 [l0, l1, l2, l3, l4, l5, l6, l7, l8] [.int x1, .int x0, .ref a] (S, I, R, z) Q = ((S a).1 = 7 ∧ RM d 144 [.ref a, .int x0, .int x1] (S, I, R, z) (fun v τ => RB d 148 45 [l0, l1, l2, l3, l4, l5, l6, l7, l8] (aPush v []) τ Q)) := RB_callV (n := 3) (t := 0) (k := 83) (ins := .invokevirtual 83) rfl rfl rfl (by decide) (Nat.le_of_ble_eq_true rfl) (Nat.le_of_ble_eq_true rfl) rfl rfl
theorem w148_45 : RB d 148 45 [l0, l1, l2, l3, l4, l5, l6, l7, l8] (.int x :: st) (S, I, R, z) Q = RB d 148 47 [l0, l1, l2, l3, l4, l5, l6, l7, .int x] st (S, I, R, z) Q := RB_istore rfl (Nat.le_of_ble_eq_true rfl) rfl
theorem w148_47 : RB d 148 47 [l0, l1, l2, l3, l4, .int x, l6, l7, l8] st (S, I, R, z) Q = RB d 148 49 [l0, l1, l2, l3, l4, .int x, l6, l7, l8] (.int x :: st) (S, I, R, z) Q := RB_iload rfl rfl
theorem w148_49 : RB d 148 49 [l0, l1, l2, l3, l4, l5, l6, l7, l8] (.int x :: st) (S, I, R, z) Q = ((x = 0 → RB d 148 81 [l0, l1, l2, l3, l4, l5, l6, l7, l8] st (S, I, R, z) Q) ∧ (¬ x = 0 → RB d 148 52 [l0, l1, l2, l3, l4, l5, l6, l7, l8] st (S, I, R, z) Q)) := RB_eq0 rfl (by decide) rfl
theorem w148_52 : RB d 148 52 [l0, l1, l2, l3, l4, l5, l6, .int x, l8] st (S, I, R, z) Q = RB d 148 54 [l0, l1, l2, l3, l4, l5, l6, .int x, l8] (.int x :: st) (S, I, R, z) Q := RB_iload rfl rfl
theorem w148_54 : RB d 148 54 [l0, l1, l2, l3, l4, l5, l6, l7, .int x] st (S, I, R, z) Q = RB d 148 56 [l0, l1, l2, l3, l4, l5, l6, l7, .int x] (.int x :: st) (S, I, R, z) Q := RB_iload rfl rfl
theorem w148_56 : RB d 148 56 [l0, l1, l2, l3, l4, l5, l6, l7, l8] (.int y :: .int x :: st) (S, I, R, z) Q = ((x = y → RB d 148 77 [l0, l1, l2, l3, l4, l5, l6, l7, l8] st (S, I, R, z) Q) ∧ (¬ x = y → RB d 148 59 [l0, l1, l2, l3, l4, l5, l6, l7, l8] st (S, I, R, z) Q)) := RB_ieq rfl (by decide) rfl
theorem w148_59 : RB d 148 59 [l0, l1, .int x, l3, l4, l5, l6, l7, l8] st (S, I, R, z) Q = RB d 148 60 [l0, l1, .int x, l3, l4, l5, l6, l7, l8] (.int x :: st) (S, I, R, z) Q := RB_iloadn rfl rfl
theorem w148_60 : RB d 148 60 [l0, l1, l2, l3, l4, l5, l6, .int x, l8] st (S, I, R, z) Q = RB d 148 62 [l0, l1, l2, l3, l4, l5, l6, .int x, l8] (.int x :: st) (S, I, R, z) Q := RB_iload rfl rfl
theorem w148_62 : RB d 148 62 [l0, l1, l2, l3, l4, l5, l6, l7, l8] (.int y :: .int x :: st) (S, I, R, z) Q = RB d 148 63 [l0, l1, l2, l3, l4, l5, l6, l7, l8] (.int (x >>> (y &&& 31)) :: st) (S, I, R, z) Q := RB_ishr rfl
theorem w148_63 : RB d 148 63 [l0, l1, l2, l3, l4, l5, l6, l7, l8] st (S, I, R, z) Q = RB d 148 64 [l0, l1, l2, l3, l4, l5, l6, l7, l8] (.int 1 :: st) (S, I, R, z) Q := RB_iconst rfl ki1
theorem w148_64 : RB d 148 64 [l0, l1, l2, l3, l4, l5, l6, l7, l8] (.int y :: .int x :: st) (S, I, R, z) Q = RB d 148 65 [l0, l1, l2, l3, l4, l5, l6, l7, l8] (.int (x &&& y) :: st) (S, I, R, z) Q := RB_iand rfl
theorem w148_65 : RB d 148 65 [l0, l1, l2, l3, l4, l5, l6, l7, l8] (.int x :: st) (S, I, R, z) Q = ((x = 0 → RB d 148 68 [l0, l1, l2, l3, l4, l5, l6, l7, l8] st (S, I, R, z) Q) ∧ (¬ x = 0 → RB d 148 81 [l0, l1, l2, l3, l4, l5, l6, l7, l8] st (S, I, R, z) Q)) := RB_ne0 rfl (by decide) rfl
theorem w148_68 : RB d 148 68 [l0, l1, .int x, l3, l4, l5, l6, l7, l8] st (S, I, R, z) Q = RB d 148 69 [l0, l1, .int x, l3, l4, l5, l6, l7, l8] (.int x :: st) (S, I, R, z) Q := RB_iloadn rfl rfl
theorem w148_69 : RB d 148 69 [l0, l1, l2, l3, l4, l5, l6, l7, .int x] st (S, I, R, z) Q = RB d 148 71 [l0, l1, l2, l3, l4, l5, l6, l7, .int x] (.int x :: st) (S, I, R, z) Q := RB_iload rfl rfl
theorem w148_71 : RB d 148 71 [l0, l1, l2, l3, l4, l5, l6, l7, l8] (.int y :: .int x :: st) (S, I, R, z) Q = RB d 148 72 [l0, l1, l2, l3, l4, l5, l6, l7, l8] (.int (x >>> (y &&& 31)) :: st) (S, I, R, z) Q := RB_ishr rfl
theorem w148_72 : RB d 148 72 [l0, l1, l2, l3, l4, l5, l6, l7, l8] st (S, I, R, z) Q = RB d 148 73 [l0, l1, l2, l3, l4, l5, l6, l7, l8] (.int 1 :: st) (S, I, R, z) Q := RB_iconst rfl ki1
theorem w148_73 : RB d 148 73 [l0, l1, l2, l3, l4, l5, l6, l7, l8] (.int y :: .int x :: st) (S, I, R, z) Q = RB d 148 74 [l0, l1, l2, l3, l4, l5, l6, l7, l8] (.int (x &&& y) :: st) (S, I, R, z) Q := RB_iand rfl
theorem w148_74 : RB d 148 74 [l0, l1, l2, l3, l4, l5, l6, l7, l8] (.int x :: st) (S, I, R, z) Q = ((x = 0 → RB d 148 77 [l0, l1, l2, l3, l4, l5, l6, l7, l8] st (S, I, R, z) Q) ∧ (¬ x = 0 → RB d 148 81 [l0, l1, l2, l3, l4, l5, l6, l7, l8] st (S, I, R, z) Q)) := RB_ne0 rfl (by decide) rfl
theorem w148_77 : RB d 148 77 [l0, l1, l2, l3, l4, l5, l6, l7, l8] st (S, I, R, z) Q = RB d 148 78 [l0, l1, l2, l3, l4, l5, l6, l7, l8] (.int 1 :: st) (S, I, R, z) Q := RB_iconst rfl ki1
theorem w148_78 : RB d 148 78 [l0, l1, l2, l3, l4, l5, l6, l7, l8] st (S, I, R, z) Q = RB d 148 82 [l0, l1, l2, l3, l4, l5, l6, l7, l8] st (S, I, R, z) Q := RB_goto rfl (by decide) rfl
theorem w148_81 : RB d 148 81 [l0, l1, l2, l3, l4, l5, l6, l7, l8] st (S, I, R, z) Q = RB d 148 82 [l0, l1, l2, l3, l4, l5, l6, l7, l8] (.int 0 :: st) (S, I, R, z) Q := RB_iconst rfl ki0
theorem w148_82 : RB d 148 82 [l0, l1, l2, l3, l4, l5, l6, l7, l8] (.int x :: st) (S, I, R, z) Q = RB d 148 84 [l0, l1, l2, l3, l4, .int x, l6, l7, l8] st (S, I, R, z) Q := RB_istore rfl (Nat.le_of_ble_eq_true rfl) rfl
theorem w148_84 : RB d 148 84 [l0, l1, l2, l3, l4, l5, .int x, l7, l8] st (S, I, R, z) Q = RB d 148 87 [l0, l1, l2, l3, l4, l5, .int (x + 1), l7, l8] st (S, I, R, z) Q := RB_iinc rfl rfl (Nat.le_of_ble_eq_true rfl) ki1 rfl
theorem w148_87 : RB d 148 87 [l0, l1, l2, l3, l4, l5, l6, l7, l8] st (S, I, R, z) Q = RB d 148 22 [l0, l1, l2, l3, l4, l5, l6, l7, l8] st (S, I, R, z) Q := RB_goto rfl (by decide) rfl
theorem w148_90 : RB d 148 90 [l0, l1, l2, .int x, l4, l5, l6, l7, l8] st (S, I, R, z) Q = RB d 148 91 [l0, l1, l2, .int x, l4, l5, l6, l7, l8] (.int x :: st) (S, I, R, z) Q := RB_iloadn rfl rfl
theorem w148_91 : RB d 148 91 [l0, l1, l2, l3, l4, .int x, l6, l7, l8] st (S, I, R, z) Q = RB d 148 93 [l0, l1, l2, l3, l4, .int x, l6, l7, l8] (.int x :: st) (S, I, R, z) Q := RB_iload rfl rfl
theorem w148_93 : RB d 148 93 [l0, l1, l2, l3, l4, l5, l6, l7, l8] (.int x :: st) (S, I, R, z) Q = ((x = 0 → RB d 148 103 [l0, l1, l2, l3, l4, l5, l6, l7, l8] st (S, I, R, z) Q) ∧ (¬ x = 0 → RB d 148 96 [l0, l1, l2, l3, l4, l5, l6, l7, l8] st (S, I, R, z) Q)) := RB_eq0 rfl (by decide) rfl
theorem w148_96 : RB d 148 96 [l0, l1, l2, l3, l4, l5, l6, l7, l8] st (S, I, R, z) Q = RB d 148 97 [l0, l1, l2, l3, l4, l5, l6, l7, l8] (.int 1 :: st) (S, I, R, z) Q := RB_iconst rfl ki1
theorem w148_97 : RB d 148 97 [l0, l1, l2, l3, .int x, l5, l6, l7, l8] st (S, I, R, z) Q = RB d 148 99 [l0, l1, l2, l3, .int x, l5, l6, l7, l8] (.int x :: st) (S, I, R, z) Q := RB_iload rfl rfl
theorem w148_99 : RB d 148 99 [l0, l1, l2, l3, l4, l5, l6, l7, l8] (.int y :: .int x :: st) (S, I, R, z) Q = RB d 148 100 [l0, l1, l2, l3, l4, l5, l6, l7, l8] (.int (x <<< (y &&& 31)) :: st) (S, I, R, z) Q := RB_ishl rfl
theorem w148_100 : RB d 148 100 [l0, l1, l2, l3, l4, l5, l6, l7, l8] st (S, I, R, z) Q = RB d 148 104 [l0, l1, l2, l3, l4, l5, l6, l7, l8] st (S, I, R, z) Q := RB_goto rfl (by decide) rfl
theorem w148_103 : RB d 148 103 [l0, l1, l2, l3, l4, l5, l6, l7, l8] st (S, I, R, z) Q = RB d 148 104 [l0, l1, l2, l3, l4, l5, l6, l7, l8] (.int 0 :: st) (S, I, R, z) Q := RB_iconst rfl ki0
theorem w148_104 : RB d 148 104 [l0, l1, l2, l3, l4, l5, l6, l7, l8] (.int y :: .int x :: st) (S, I, R, z) Q = RB d 148 105 [l0, l1, l2, l3, l4, l5, l6, l7, l8] (.int (x ||| y) :: st) (S, I, R, z) Q := RB_ior rfl
theorem w148_105 : RB d 148 105 [l0, l1, l2, l3, l4, l5, l6, l7, l8] (.int x :: st) (S, I, R, z) Q = RB d 148 106 [l0, l1, l2, .int x, l4, l5, l6, l7, l8] st (S, I, R, z) Q := RB_istoren rfl (Nat.le_of_ble_eq_true rfl) rfl
theorem w148_106 : RB d 148 106 [l0, l1, l2, l3, .int x, l5, l6, l7, l8] st (S, I, R, z) Q = RB d 148 109 [l0, l1, l2, l3, .int (x + 1), l5, l6, l7, l8] st (S, I, R, z) Q := RB_iinc rfl rfl (Nat.le_of_ble_eq_true rfl) ki1 rfl
theorem w148_109 : RB d 148 109 [l0, l1, l2, l3, l4, l5, l6, l7, l8] st (S, I, R, z) Q = RB d 148 5 [l0, l1, l2, l3, l4, l5, l6, l7, l8] st (S, I, R, z) Q := RB_goto rfl (by decide) rfl
theorem w148_112 : RB d 148 112 [l0, l1, l2, .int x, l4, l5, l6, l7, l8] st (S, I, R, z) Q = RB d 148 113 [l0, l1, l2, .int x, l4, l5, l6, l7, l8] (.int x :: st) (S, I, R, z) Q := RB_iloadn rfl rfl
theorem w148_113 : RB d 148 113 [l0, l1, l2, l3, l4, l5, l6, l7, l8] [.int x] (S, I, R, z) Q = Q (some (.int x)) (S, I, R, z) := RB_iret rfl rfl rfl
/-! 149: HangedWordModel.fitsNow -/
theorem w149_0 : RB d 149 0 [.ref a] st (S, I, R, z) Q = RB d 149 1 [.ref a] (.ref a :: st) (S, I, R, z) Q := RB_aloadn rfl rfl
theorem w149_1 : RB d 149 1 [l0] (.ref a :: st) (S, I, R, z) Q = ((S a).1 = 7 ∧ RB d 149 4 [l0] (va_rf (R a 0) :: st) (S, I, R, z) Q) := RB_getR rfl rfl
theorem w149_4 : RB d 149 4 [l0] st (S, I, R, z) Q = RB d 149 5 [l0] (.int 3 :: st) (S, I, R, z) Q := RB_iconst rfl ki3
theorem w149_5 : RB d 149 5 [l0] (.int i :: .ref a :: st) (S, I, R, z) Q = (((S a).1 = 9 ∧ aIx i (S a).2) ∧ RB d 149 6 [l0] (.int (I a i.toNatClampNeg) :: st) (S, I, R, z) Q) := RB_iald rfl
theorem w149_6 : RB d 149 6 [l0] (.int x :: st) (S, I, R, z) Q = ((0 ≤ x → RB d 149 13 [l0] st (S, I, R, z) Q) ∧ (¬ 0 ≤ x → RB d 149 9 [l0] st (S, I, R, z) Q)) := RB_ge0 rfl (by decide) rfl
theorem w149_9 : RB d 149 9 [l0] st (S, I, R, z) Q = RB d 149 10 [l0] (.int 0 :: st) (S, I, R, z) Q := RB_iconst rfl ki0
theorem w149_10 : RB d 149 10 [l0] st (S, I, R, z) Q = RB d 149 29 [l0] st (S, I, R, z) Q := RB_goto rfl (by decide) rfl
theorem w149_13 : RB d 149 13 [.ref a] st (S, I, R, z) Q = RB d 149 14 [.ref a] (.ref a :: st) (S, I, R, z) Q := RB_aloadn rfl rfl
theorem w149_14 : RB d 149 14 [.ref a] st (S, I, R, z) Q = RB d 149 15 [.ref a] (.ref a :: st) (S, I, R, z) Q := RB_aloadn rfl rfl
theorem w149_15 : RB d 149 15 [l0] (.ref a :: st) (S, I, R, z) Q = ((S a).1 = 7 ∧ RB d 149 18 [l0] (va_rf (R a 0) :: st) (S, I, R, z) Q) := RB_getR rfl rfl
theorem w149_18 : RB d 149 18 [l0] st (S, I, R, z) Q = RB d 149 19 [l0] (.int 3 :: st) (S, I, R, z) Q := RB_iconst rfl ki3
theorem w149_19 : RB d 149 19 [l0] (.int i :: .ref a :: st) (S, I, R, z) Q = (((S a).1 = 9 ∧ aIx i (S a).2) ∧ RB d 149 20 [l0] (.int (I a i.toNatClampNeg) :: st) (S, I, R, z) Q) := RB_iald rfl
theorem w149_20 : RB d 149 20 [.ref a] st (S, I, R, z) Q = RB d 149 21 [.ref a] (.ref a :: st) (S, I, R, z) Q := RB_aloadn rfl rfl
theorem w149_21 : RB d 149 21 [l0] (.ref a :: st) (S, I, R, z) Q = ((S a).1 = 7 ∧ RB d 149 24 [l0] (va_rf (R a 0) :: st) (S, I, R, z) Q) := RB_getR rfl rfl
theorem w149_24 : RB d 149 24 [l0] st (S, I, R, z) Q = RB d 149 25 [l0] (.int 4 :: st) (S, I, R, z) Q := RB_iconst rfl ki4
theorem w149_25 : RB d 149 25 [l0] (.int i :: .ref a :: st) (S, I, R, z) Q = (((S a).1 = 9 ∧ aIx i (S a).2) ∧ RB d 149 26 [l0] (.int (I a i.toNatClampNeg) :: st) (S, I, R, z) Q) := RB_iald rfl
set_option maxRecDepth 20000 in
theorem w149_26 : RB d 149 26 [l0] [.int x1, .int x0, .ref a] (S, I, R, z) Q = ((S a).1 = 7 ∧ RM d 148 [.ref a, .int x0, .int x1] (S, I, R, z) (fun v τ => RB d 149 29 [l0] (aPush v []) τ Q)) := RB_callV (n := 3) (t := 0) (k := 87) (ins := .invokevirtual 87) rfl rfl rfl (by decide) (Nat.le_of_ble_eq_true rfl) (Nat.le_of_ble_eq_true rfl) rfl rfl
theorem w149_29 : RB d 149 29 [l0] [.int x] (S, I, R, z) Q = Q (some (.int x)) (S, I, R, z) := RB_iret rfl rfl rfl
/-! 150: HangedWordModel.comes -/
theorem w150_0 : RB d 150 0 [.ref a, l1, l2] st (S, I, R, z) Q = RB d 150 1 [.ref a, l1, l2] (.ref a :: st) (S, I, R, z) Q := RB_aloadn rfl rfl
theorem w150_1 : RB d 150 1 [l0, l1, l2] (.ref a :: st) (S, I, R, z) Q = ((S a).1 = 7 ∧ RB d 150 4 [l0, l1, l2] (va_rf (R a 0) :: st) (S, I, R, z) Q) := RB_getR rfl rfl
theorem w150_4 : RB d 150 4 [l0, l1, l2] st (S, I, R, z) Q = RB d 150 6 [l0, l1, l2] (.int 8 :: st) (S, I, R, z) Q := RB_bipush rfl kb8
theorem w150_6 : RB d 150 6 [l0, l1, l2] st (S, I, R, z) Q = RB d 150 7 [l0, l1, l2] (.int 2 :: st) (S, I, R, z) Q := RB_iconst rfl ki2
theorem w150_7 : RB d 150 7 [.ref a, l1, l2] st (S, I, R, z) Q = RB d 150 8 [.ref a, l1, l2] (.ref a :: st) (S, I, R, z) Q := RB_aloadn rfl rfl
theorem w150_8 : RB d 150 8 [l0, l1, l2] (.ref a :: st) (S, I, R, z) Q = ((S a).1 = 7 ∧ RB d 150 11 [l0, l1, l2] (va_rf (R a 0) :: st) (S, I, R, z) Q) := RB_getR rfl rfl
theorem w150_11 : RB d 150 11 [l0, l1, l2] st (S, I, R, z) Q = RB d 150 12 [l0, l1, l2] (.int 1 :: st) (S, I, R, z) Q := RB_iconst rfl ki1
theorem w150_12 : RB d 150 12 [l0, l1, l2] (.int i :: .ref a :: st) (S, I, R, z) Q = (((S a).1 = 9 ∧ aIx i (S a).2) ∧ RB d 150 13 [l0, l1, l2] (.int (I a i.toNatClampNeg) :: st) (S, I, R, z) Q) := RB_iald rfl
theorem w150_13 : RB d 150 13 [l0, l1, l2] (.int y :: .int x :: st) (S, I, R, z) Q = RB d 150 14 [l0, l1, l2] (.int (x * y) :: st) (S, I, R, z) Q := RB_imul rfl
theorem w150_14 : RB d 150 14 [l0, l1, l2] (.int y :: .int x :: st) (S, I, R, z) Q = RB d 150 15 [l0, l1, l2] (.int (x + y) :: st) (S, I, R, z) Q := RB_iadd rfl
theorem w150_15 : RB d 150 15 [l0, .int x, l2] st (S, I, R, z) Q = RB d 150 16 [l0, .int x, l2] (.int x :: st) (S, I, R, z) Q := RB_iloadn rfl rfl
theorem w150_16 : RB d 150 16 [l0, l1, l2] (.int x :: .int i :: .ref a :: st) (S, I, R, z) Q = (((S a).1 = 9 ∧ aIx i (S a).2 ∧ 16 ≤ a) ∧ RB d 150 17 [l0, l1, l2] st (S, aW I a i.toNatClampNeg x, R, z) Q) := RB_iast rfl
theorem w150_17 : RB d 150 17 [.ref a, l1, l2] st (S, I, R, z) Q = RB d 150 18 [.ref a, l1, l2] (.ref a :: st) (S, I, R, z) Q := RB_aloadn rfl rfl
theorem w150_18 : RB d 150 18 [l0, l1, l2] (.ref a :: st) (S, I, R, z) Q = ((S a).1 = 7 ∧ RB d 150 21 [l0, l1, l2] (va_rf (R a 0) :: st) (S, I, R, z) Q) := RB_getR rfl rfl
theorem w150_21 : RB d 150 21 [l0, l1, l2] st (S, I, R, z) Q = RB d 150 23 [l0, l1, l2] (.int 8 :: st) (S, I, R, z) Q := RB_bipush rfl kb8
theorem w150_23 : RB d 150 23 [l0, l1, l2] st (S, I, R, z) Q = RB d 150 24 [l0, l1, l2] (.int 2 :: st) (S, I, R, z) Q := RB_iconst rfl ki2
theorem w150_24 : RB d 150 24 [.ref a, l1, l2] st (S, I, R, z) Q = RB d 150 25 [.ref a, l1, l2] (.ref a :: st) (S, I, R, z) Q := RB_aloadn rfl rfl
theorem w150_25 : RB d 150 25 [l0, l1, l2] (.ref a :: st) (S, I, R, z) Q = ((S a).1 = 7 ∧ RB d 150 28 [l0, l1, l2] (va_rf (R a 0) :: st) (S, I, R, z) Q) := RB_getR rfl rfl
theorem w150_28 : RB d 150 28 [l0, l1, l2] st (S, I, R, z) Q = RB d 150 29 [l0, l1, l2] (.int 1 :: st) (S, I, R, z) Q := RB_iconst rfl ki1
theorem w150_29 : RB d 150 29 [l0, l1, l2] (.int i :: .ref a :: st) (S, I, R, z) Q = (((S a).1 = 9 ∧ aIx i (S a).2) ∧ RB d 150 30 [l0, l1, l2] (.int (I a i.toNatClampNeg) :: st) (S, I, R, z) Q) := RB_iald rfl
theorem w150_30 : RB d 150 30 [l0, l1, l2] (.int y :: .int x :: st) (S, I, R, z) Q = RB d 150 31 [l0, l1, l2] (.int (x * y) :: st) (S, I, R, z) Q := RB_imul rfl
theorem w150_31 : RB d 150 31 [l0, l1, l2] (.int y :: .int x :: st) (S, I, R, z) Q = RB d 150 32 [l0, l1, l2] (.int (x + y) :: st) (S, I, R, z) Q := RB_iadd rfl
theorem w150_32 : RB d 150 32 [l0, l1, l2] st (S, I, R, z) Q = RB d 150 33 [l0, l1, l2] (.int 1 :: st) (S, I, R, z) Q := RB_iconst rfl ki1
theorem w150_33 : RB d 150 33 [l0, l1, l2] (.int y :: .int x :: st) (S, I, R, z) Q = RB d 150 34 [l0, l1, l2] (.int (x + y) :: st) (S, I, R, z) Q := RB_iadd rfl
theorem w150_34 : RB d 150 34 [l0, l1, .int x] st (S, I, R, z) Q = RB d 150 35 [l0, l1, .int x] (.int x :: st) (S, I, R, z) Q := RB_iloadn rfl rfl
theorem w150_35 : RB d 150 35 [l0, l1, l2] (.int x :: .int i :: .ref a :: st) (S, I, R, z) Q = (((S a).1 = 9 ∧ aIx i (S a).2 ∧ 16 ≤ a) ∧ RB d 150 36 [l0, l1, l2] st (S, aW I a i.toNatClampNeg x, R, z) Q) := RB_iast rfl
theorem w150_36 : RB d 150 36 [.ref a, l1, l2] st (S, I, R, z) Q = RB d 150 37 [.ref a, l1, l2] (.ref a :: st) (S, I, R, z) Q := RB_aloadn rfl rfl
theorem w150_37 : RB d 150 37 [l0, l1, l2] (.ref a :: st) (S, I, R, z) Q = ((S a).1 = 7 ∧ RB d 150 40 [l0, l1, l2] (va_rf (R a 0) :: st) (S, I, R, z) Q) := RB_getR rfl rfl
theorem w150_40 : RB d 150 40 [l0, l1, l2] st (S, I, R, z) Q = RB d 150 41 [l0, l1, l2] (.int 1 :: st) (S, I, R, z) Q := RB_iconst rfl ki1
theorem w150_41 : RB d 150 41 [l0, l1, l2] (v :: w :: st) (S, I, R, z) Q = RB d 150 42 [l0, l1, l2] (v :: w :: v :: w :: st) (S, I, R, z) Q := RB_dup2 rfl
theorem w150_42 : RB d 150 42 [l0, l1, l2] (.int i :: .ref a :: st) (S, I, R, z) Q = (((S a).1 = 9 ∧ aIx i (S a).2) ∧ RB d 150 43 [l0, l1, l2] (.int (I a i.toNatClampNeg) :: st) (S, I, R, z) Q) := RB_iald rfl
theorem w150_43 : RB d 150 43 [l0, l1, l2] st (S, I, R, z) Q = RB d 150 44 [l0, l1, l2] (.int 1 :: st) (S, I, R, z) Q := RB_iconst rfl ki1
theorem w150_44 : RB d 150 44 [l0, l1, l2] (.int y :: .int x :: st) (S, I, R, z) Q = RB d 150 45 [l0, l1, l2] (.int (x + y) :: st) (S, I, R, z) Q := RB_iadd rfl
theorem w150_45 : RB d 150 45 [l0, l1, l2] (.int x :: .int i :: .ref a :: st) (S, I, R, z) Q = (((S a).1 = 9 ∧ aIx i (S a).2 ∧ 16 ≤ a) ∧ RB d 150 46 [l0, l1, l2] st (S, aW I a i.toNatClampNeg x, R, z) Q) := RB_iast rfl
theorem w150_46 : RB d 150 46 [.ref a, l1, l2] st (S, I, R, z) Q = RB d 150 47 [.ref a, l1, l2] (.ref a :: st) (S, I, R, z) Q := RB_aloadn rfl rfl
theorem w150_47 : RB d 150 47 [l0, l1, l2] (.ref a :: st) (S, I, R, z) Q = ((S a).1 = 7 ∧ RB d 150 50 [l0, l1, l2] (va_rf (R a 0) :: st) (S, I, R, z) Q) := RB_getR rfl rfl
theorem w150_50 : RB d 150 50 [l0, l1, l2] st (S, I, R, z) Q = RB d 150 51 [l0, l1, l2] (.int 1 :: st) (S, I, R, z) Q := RB_iconst rfl ki1
theorem w150_51 : RB d 150 51 [l0, l1, l2] (.int i :: .ref a :: st) (S, I, R, z) Q = (((S a).1 = 9 ∧ aIx i (S a).2) ∧ RB d 150 52 [l0, l1, l2] (.int (I a i.toNatClampNeg) :: st) (S, I, R, z) Q) := RB_iald rfl
theorem w150_52 : RB d 150 52 [l0, l1, l2] st (S, I, R, z) Q = RB d 150 53 [l0, l1, l2] (.int 1 :: st) (S, I, R, z) Q := RB_iconst rfl ki1
theorem w150_53 : RB d 150 53 [l0, l1, l2] (.int y :: .int x :: st) (S, I, R, z) Q = RB d 150 54 [l0, l1, l2] (.int (x - y) :: st) (S, I, R, z) Q := RB_isub rfl
theorem w150_54 : RB d 150 54 [l0, l1, l2] [.int x] (S, I, R, z) Q = Q (some (.int x)) (S, I, R, z) := RB_iret rfl rfl rfl
/-! 151: HangedWordModel.word -/
theorem w151_0 : RB d 151 0 [l0, .int x, l2] st (S, I, R, z) Q = RB d 151 1 [l0, .int x, l2] (.int x :: st) (S, I, R, z) Q := RB_iloadn rfl rfl
theorem w151_1 : RB d 151 1 [l0, l1, l2] st (S, I, R, z) Q = RB d 151 2 [l0, l1, l2] (.int 0 :: st) (S, I, R, z) Q := RB_iconst rfl ki0
theorem w151_2 : RB d 151 2 [l0, l1, l2] st (S, I, R, z) Q = RB d 151 5 [l0, l1, l2] (.int 1295 :: st) (S, I, R, z) Q := RB_sipush rfl ks1295
set_option maxRecDepth 20000 in
theorem w151_5 : RB d 151 5 [l0, l1, l2] [.int x2, .int x1, .int x0] (S, I, R, z) Q = RM d 135 [.int x0, .int x1, .int x2] (S, I, R, z) (fun v τ => RB d 151 8 [l0, l1, l2] (aPush v []) τ Q) := RB_callS (n := 3) (t := 1) (k := 76) (ins := .invokestatic 76) rfl rfl rfl (Nat.le_of_ble_eq_true rfl) (Nat.le_of_ble_eq_true rfl) rfl rfl
theorem w151_8 : RB d 151 8 [l0, l1, l2] (.int x :: st) (S, I, R, z) Q = ((x = 0 → RB d 151 21 [l0, l1, l2] st (S, I, R, z) Q) ∧ (¬ x = 0 → RB d 151 11 [l0, l1, l2] st (S, I, R, z) Q)) := RB_eq0 rfl (by decide) rfl
theorem w151_11 : RB d 151 11 [l0, l1, .int x] st (S, I, R, z) Q = RB d 151 12 [l0, l1, .int x] (.int x :: st) (S, I, R, z) Q := RB_iloadn rfl rfl
theorem w151_12 : RB d 151 12 [l0, l1, l2] st (S, I, R, z) Q = RB d 151 13 [l0, l1, l2] (.int 1 :: st) (S, I, R, z) Q := RB_iconst rfl ki1
theorem w151_13 : RB d 151 13 [l0, l1, l2] st (S, I, R, z) Q = RB d 151 15 [l0, l1, l2] (.int 99 :: st) (S, I, R, z) Q := RB_bipush rfl kb99
set_option maxRecDepth 20000 in
theorem w151_15 : RB d 151 15 [l0, l1, l2] [.int x2, .int x1, .int x0] (S, I, R, z) Q = RM d 135 [.int x0, .int x1, .int x2] (S, I, R, z) (fun v τ => RB d 151 18 [l0, l1, l2] (aPush v []) τ Q) := RB_callS (n := 3) (t := 1) (k := 76) (ins := .invokestatic 76) rfl rfl rfl (Nat.le_of_ble_eq_true rfl) (Nat.le_of_ble_eq_true rfl) rfl rfl
theorem w151_18 : RB d 151 18 [l0, l1, l2] (.int x :: st) (S, I, R, z) Q = ((x = 0 → RB d 151 21 [l0, l1, l2] st (S, I, R, z) Q) ∧ (¬ x = 0 → RB d 151 24 [l0, l1, l2] st (S, I, R, z) Q)) := RB_ne0 rfl (by decide) rfl
theorem w151_21 : RB d 151 21 [l0, l1, l2] st (S, I, R, z) Q = RB d 151 23 [l0, l1, l2] (.int (-1000000001) :: st) (S, I, R, z) Q := RB_ldc rfl rfl
theorem w151_23 : RB d 151 23 [l0, l1, l2] [.int x] (S, I, R, z) Q = Q (some (.int x)) (S, I, R, z) := RB_iret rfl rfl rfl
theorem w151_24 : RB d 151 24 [.ref a, l1, l2] st (S, I, R, z) Q = RB d 151 25 [.ref a, l1, l2] (.ref a :: st) (S, I, R, z) Q := RB_aloadn rfl rfl
theorem w151_25 : RB d 151 25 [l0, l1, l2] (.ref a :: st) (S, I, R, z) Q = ((S a).1 = 7 ∧ RB d 151 28 [l0, l1, l2] (va_rf (R a 0) :: st) (S, I, R, z) Q) := RB_getR rfl rfl
theorem w151_28 : RB d 151 28 [l0, l1, l2] st (S, I, R, z) Q = RB d 151 29 [l0, l1, l2] (.int 1 :: st) (S, I, R, z) Q := RB_iconst rfl ki1
theorem w151_29 : RB d 151 29 [l0, l1, l2] (.int i :: .ref a :: st) (S, I, R, z) Q = (((S a).1 = 9 ∧ aIx i (S a).2) ∧ RB d 151 30 [l0, l1, l2] (.int (I a i.toNatClampNeg) :: st) (S, I, R, z) Q) := RB_iald rfl
theorem w151_30 : RB d 151 30 [l0, l1, l2] st (S, I, R, z) Q = RB d 151 32 [l0, l1, l2] (.int 12 :: st) (S, I, R, z) Q := RB_bipush rfl kb12
theorem w151_32 : RB d 151 32 [l0, l1, l2] (.int y :: .int x :: st) (S, I, R, z) Q = ((x = y → RB d 151 35 [l0, l1, l2] st (S, I, R, z) Q) ∧ (¬ x = y → RB d 151 40 [l0, l1, l2] st (S, I, R, z) Q)) := RB_ine rfl (by decide) rfl
theorem w151_35 : RB d 151 35 [l0, l1, l2] st (S, I, R, z) Q = RB d 151 37 [l0, l1, l2] (.int (-1000000003) :: st) (S, I, R, z) Q := RB_ldc rfl rfl
theorem w151_37 : RB d 151 37 [l0, l1, l2] st (S, I, R, z) Q = RB d 151 46 [l0, l1, l2] st (S, I, R, z) Q := RB_goto rfl (by decide) rfl
theorem w151_40 : RB d 151 40 [.ref a, l1, l2] st (S, I, R, z) Q = RB d 151 41 [.ref a, l1, l2] (.ref a :: st) (S, I, R, z) Q := RB_aloadn rfl rfl
theorem w151_41 : RB d 151 41 [l0, .int x, l2] st (S, I, R, z) Q = RB d 151 42 [l0, .int x, l2] (.int x :: st) (S, I, R, z) Q := RB_iloadn rfl rfl
theorem w151_42 : RB d 151 42 [l0, l1, .int x] st (S, I, R, z) Q = RB d 151 43 [l0, l1, .int x] (.int x :: st) (S, I, R, z) Q := RB_iloadn rfl rfl
set_option maxRecDepth 20000 in
theorem w151_43 : RB d 151 43 [l0, l1, l2] [.int x1, .int x0, .ref a] (S, I, R, z) Q = ((S a).1 = 7 ∧ RM d 150 [.ref a, .int x0, .int x1] (S, I, R, z) (fun v τ => RB d 151 46 [l0, l1, l2] (aPush v []) τ Q)) := RB_callV (n := 3) (t := 0) (k := 92) (ins := .invokevirtual 92) rfl rfl rfl (by decide) (Nat.le_of_ble_eq_true rfl) (Nat.le_of_ble_eq_true rfl) rfl rfl
theorem w151_46 : RB d 151 46 [l0, l1, l2] [.int x] (S, I, R, z) Q = Q (some (.int x)) (S, I, R, z) := RB_iret rfl rfl rfl
/-! 152: HangedWordModel.wordTold -/
theorem w152_0 : RB d 152 0 [.ref a, l1, l2] st (S, I, R, z) Q = RB d 152 1 [.ref a, l1, l2] (.ref a :: st) (S, I, R, z) Q := RB_aloadn rfl rfl
theorem w152_1 : RB d 152 1 [l0, .int x, l2] st (S, I, R, z) Q = RB d 152 2 [l0, .int x, l2] (.int x :: st) (S, I, R, z) Q := RB_iloadn rfl rfl
set_option maxRecDepth 20000 in
theorem w152_2 : RB d 152 2 [l0, l1, l2] [.int x0, .ref a] (S, I, R, z) Q = ((S a).1 = 7 ∧ RM d 139 [.ref a, .int x0] (S, I, R, z) (fun v τ => RB d 152 5 [l0, l1, l2] (aPush v []) τ Q)) := RB_callV (n := 2) (t := 0) (k := 95) (ins := .invokevirtual 95) rfl rfl rfl (by decide) (Nat.le_of_ble_eq_true rfl) (Nat.le_of_ble_eq_true rfl) rfl rfl
theorem w152_5 : RB d 152 5 [l0, l1, l2] (.int x :: st) (S, I, R, z) Q = ((x = 0 → RB d 152 17 [l0, l1, l2] st (S, I, R, z) Q) ∧ (¬ x = 0 → RB d 152 8 [l0, l1, l2] st (S, I, R, z) Q)) := RB_eq0 rfl (by decide) rfl
theorem w152_8 : RB d 152 8 [l0, l1, .int x] st (S, I, R, z) Q = RB d 152 9 [l0, l1, .int x] (.int x :: st) (S, I, R, z) Q := RB_iloadn rfl rfl
theorem w152_9 : RB d 152 9 [l0, l1, l2] st (S, I, R, z) Q = RB d 152 10 [l0, l1, l2] (.int 0 :: st) (S, I, R, z) Q := RB_iconst rfl ki0
theorem w152_10 : RB d 152 10 [l0, l1, l2] st (S, I, R, z) Q = RB d 152 11 [l0, l1, l2] (.int 3 :: st) (S, I, R, z) Q := RB_iconst rfl ki3
set_option maxRecDepth 20000 in
theorem w152_11 : RB d 152 11 [l0, l1, l2] [.int x2, .int x1, .int x0] (S, I, R, z) Q = RM d 135 [.int x0, .int x1, .int x2] (S, I, R, z) (fun v τ => RB d 152 14 [l0, l1, l2] (aPush v []) τ Q) := RB_callS (n := 3) (t := 1) (k := 76) (ins := .invokestatic 76) rfl rfl rfl (Nat.le_of_ble_eq_true rfl) (Nat.le_of_ble_eq_true rfl) rfl rfl
theorem w152_14 : RB d 152 14 [l0, l1, l2] (.int x :: st) (S, I, R, z) Q = ((x = 0 → RB d 152 17 [l0, l1, l2] st (S, I, R, z) Q) ∧ (¬ x = 0 → RB d 152 20 [l0, l1, l2] st (S, I, R, z) Q)) := RB_ne0 rfl (by decide) rfl
theorem w152_17 : RB d 152 17 [l0, l1, l2] st (S, I, R, z) Q = RB d 152 19 [l0, l1, l2] (.int (-1000000001) :: st) (S, I, R, z) Q := RB_ldc rfl rfl
theorem w152_19 : RB d 152 19 [l0, l1, l2] [.int x] (S, I, R, z) Q = Q (some (.int x)) (S, I, R, z) := RB_iret rfl rfl rfl
theorem w152_20 : RB d 152 20 [l0, l1, .int x] st (S, I, R, z) Q = RB d 152 21 [l0, l1, .int x] (.int x :: st) (S, I, R, z) Q := RB_iloadn rfl rfl
theorem w152_21 : RB d 152 21 [l0, l1, l2] st (S, I, R, z) Q = RB d 152 22 [l0, l1, l2] (.int 2 :: st) (S, I, R, z) Q := RB_iconst rfl ki2
theorem w152_22 : RB d 152 22 [l0, l1, l2] (.int y :: .int x :: st) (S, I, R, z) Q = ((y ≤ x → RB d 152 41 [l0, l1, l2] st (S, I, R, z) Q) ∧ (¬ y ≤ x → RB d 152 25 [l0, l1, l2] st (S, I, R, z) Q)) := RB_ige rfl (by decide) rfl
theorem w152_25 : RB d 152 25 [.ref a, l1, l2] st (S, I, R, z) Q = RB d 152 26 [.ref a, l1, l2] (.ref a :: st) (S, I, R, z) Q := RB_aloadn rfl rfl
theorem w152_26 : RB d 152 26 [l0, l1, l2] (.ref a :: st) (S, I, R, z) Q = ((S a).1 = 7 ∧ RB d 152 29 [l0, l1, l2] (va_rf (R a 0) :: st) (S, I, R, z) Q) := RB_getR rfl rfl
theorem w152_29 : RB d 152 29 [l0, l1, l2] st (S, I, R, z) Q = RB d 152 31 [l0, l1, l2] (.int 8 :: st) (S, I, R, z) Q := RB_bipush rfl kb8
theorem w152_31 : RB d 152 31 [l0, l1, l2] st (S, I, R, z) Q = RB d 152 32 [l0, l1, l2] (.int 2 :: st) (S, I, R, z) Q := RB_iconst rfl ki2
theorem w152_32 : RB d 152 32 [l0, .int x, l2] st (S, I, R, z) Q = RB d 152 33 [l0, .int x, l2] (.int x :: st) (S, I, R, z) Q := RB_iloadn rfl rfl
theorem w152_33 : RB d 152 33 [l0, l1, l2] (.int y :: .int x :: st) (S, I, R, z) Q = RB d 152 34 [l0, l1, l2] (.int (x * y) :: st) (S, I, R, z) Q := RB_imul rfl
theorem w152_34 : RB d 152 34 [l0, l1, l2] (.int y :: .int x :: st) (S, I, R, z) Q = RB d 152 35 [l0, l1, l2] (.int (x + y) :: st) (S, I, R, z) Q := RB_iadd rfl
theorem w152_35 : RB d 152 35 [l0, l1, .int x] st (S, I, R, z) Q = RB d 152 36 [l0, l1, .int x] (.int x :: st) (S, I, R, z) Q := RB_iloadn rfl rfl
theorem w152_36 : RB d 152 36 [l0, l1, l2] (.int y :: .int x :: st) (S, I, R, z) Q = RB d 152 37 [l0, l1, l2] (.int (x + y) :: st) (S, I, R, z) Q := RB_iadd rfl
theorem w152_37 : RB d 152 37 [l0, l1, l2] (.int i :: .ref a :: st) (S, I, R, z) Q = (((S a).1 = 9 ∧ aIx i (S a).2) ∧ RB d 152 38 [l0, l1, l2] (.int (I a i.toNatClampNeg) :: st) (S, I, R, z) Q) := RB_iald rfl
theorem w152_38 : RB d 152 38 [l0, l1, l2] st (S, I, R, z) Q = RB d 152 62 [l0, l1, l2] st (S, I, R, z) Q := RB_goto rfl (by decide) rfl
theorem w152_41 : RB d 152 41 [l0, l1, .int x] st (S, I, R, z) Q = RB d 152 42 [l0, l1, .int x] (.int x :: st) (S, I, R, z) Q := RB_iloadn rfl rfl
theorem w152_42 : RB d 152 42 [l0, l1, l2] st (S, I, R, z) Q = RB d 152 43 [l0, l1, l2] (.int 2 :: st) (S, I, R, z) Q := RB_iconst rfl ki2
theorem w152_43 : RB d 152 43 [l0, l1, l2] (.int y :: .int x :: st) (S, I, R, z) Q = ((x = y → RB d 152 46 [l0, l1, l2] st (S, I, R, z) Q) ∧ (¬ x = y → RB d 152 54 [l0, l1, l2] st (S, I, R, z) Q)) := RB_ine rfl (by decide) rfl
theorem w152_46 : RB d 152 46 [.ref a, l1, l2] st (S, I, R, z) Q = RB d 152 47 [.ref a, l1, l2] (.ref a :: st) (S, I, R, z) Q := RB_aloadn rfl rfl
theorem w152_47 : RB d 152 47 [l0, .int x, l2] st (S, I, R, z) Q = RB d 152 48 [l0, .int x, l2] (.int x :: st) (S, I, R, z) Q := RB_iloadn rfl rfl
set_option maxRecDepth 20000 in
theorem w152_48 : RB d 152 48 [l0, l1, l2] [.int x0, .ref a] (S, I, R, z) Q = ((S a).1 = 7 ∧ RM d 147 [.ref a, .int x0] (S, I, R, z) (fun v τ => RB d 152 51 [l0, l1, l2] (aPush v []) τ Q)) := RB_callV (n := 2) (t := 0) (k := 99) (ins := .invokevirtual 99) rfl rfl rfl (by decide) (Nat.le_of_ble_eq_true rfl) (Nat.le_of_ble_eq_true rfl) rfl rfl
theorem w152_51 : RB d 152 51 [l0, l1, l2] st (S, I, R, z) Q = RB d 152 62 [l0, l1, l2] st (S, I, R, z) Q := RB_goto rfl (by decide) rfl
theorem w152_54 : RB d 152 54 [.ref a, l1, l2] st (S, I, R, z) Q = RB d 152 55 [.ref a, l1, l2] (.ref a :: st) (S, I, R, z) Q := RB_aloadn rfl rfl
set_option maxRecDepth 20000 in
theorem w152_55 : RB d 152 55 [l0, l1, l2] [.ref a] (S, I, R, z) Q = ((S a).1 = 7 ∧ RM d 149 [.ref a] (S, I, R, z) (fun v τ => RB d 152 58 [l0, l1, l2] (aPush v []) τ Q)) := RB_callV (n := 1) (t := 0) (k := 103) (ins := .invokevirtual 103) rfl rfl rfl (by decide) (Nat.le_of_ble_eq_true rfl) (Nat.le_of_ble_eq_true rfl) rfl rfl
theorem w152_58 : RB d 152 58 [l0, .int x, l2] st (S, I, R, z) Q = RB d 152 59 [l0, .int x, l2] (.int x :: st) (S, I, R, z) Q := RB_iloadn rfl rfl
theorem w152_59 : RB d 152 59 [l0, l1, l2] (.int y :: .int x :: st) (S, I, R, z) Q = RB d 152 60 [l0, l1, l2] (.int (x >>> (y &&& 31)) :: st) (S, I, R, z) Q := RB_ishr rfl
theorem w152_60 : RB d 152 60 [l0, l1, l2] st (S, I, R, z) Q = RB d 152 61 [l0, l1, l2] (.int 1 :: st) (S, I, R, z) Q := RB_iconst rfl ki1
theorem w152_61 : RB d 152 61 [l0, l1, l2] (.int y :: .int x :: st) (S, I, R, z) Q = RB d 152 62 [l0, l1, l2] (.int (x &&& y) :: st) (S, I, R, z) Q := RB_iand rfl
theorem w152_62 : RB d 152 62 [l0, l1, l2] [.int x] (S, I, R, z) Q = Q (some (.int x)) (S, I, R, z) := RB_iret rfl rfl rfl
/-! 153: HangedWordModel.weigh -/
theorem w153_0 : RB d 153 0 [.ref a, l1, l2] st (S, I, R, z) Q = RB d 153 1 [.ref a, l1, l2] (.ref a :: st) (S, I, R, z) Q := RB_aloadn rfl rfl
theorem w153_1 : RB d 153 1 [l0, .int x, l2] st (S, I, R, z) Q = RB d 153 2 [l0, .int x, l2] (.int x :: st) (S, I, R, z) Q := RB_iloadn rfl rfl
set_option maxRecDepth 20000 in
theorem w153_2 : RB d 153 2 [l0, l1, l2] [.int x0, .ref a] (S, I, R, z) Q = ((S a).1 = 7 ∧ RM d 139 [.ref a, .int x0] (S, I, R, z) (fun v τ => RB d 153 5 [l0, l1, l2] (aPush v []) τ Q)) := RB_callV (n := 2) (t := 0) (k := 95) (ins := .invokevirtual 95) rfl rfl rfl (by decide) (Nat.le_of_ble_eq_true rfl) (Nat.le_of_ble_eq_true rfl) rfl rfl
theorem w153_5 : RB d 153 5 [l0, l1, l2] (.int x :: st) (S, I, R, z) Q = ((x = 0 → RB d 153 34 [l0, l1, l2] st (S, I, R, z) Q) ∧ (¬ x = 0 → RB d 153 8 [l0, l1, l2] st (S, I, R, z) Q)) := RB_eq0 rfl (by decide) rfl
theorem w153_8 : RB d 153 8 [l0, l1, .int x] st (S, I, R, z) Q = RB d 153 9 [l0, l1, .int x] (.int x :: st) (S, I, R, z) Q := RB_iloadn rfl rfl
theorem w153_9 : RB d 153 9 [l0, l1, l2] st (S, I, R, z) Q = RB d 153 10 [l0, l1, l2] (.int 1 :: st) (S, I, R, z) Q := RB_iconst rfl ki1
theorem w153_10 : RB d 153 10 [l0, l1, l2] st (S, I, R, z) Q = RB d 153 12 [l0, l1, l2] (.int 99 :: st) (S, I, R, z) Q := RB_bipush rfl kb99
set_option maxRecDepth 20000 in
theorem w153_12 : RB d 153 12 [l0, l1, l2] [.int x2, .int x1, .int x0] (S, I, R, z) Q = RM d 135 [.int x0, .int x1, .int x2] (S, I, R, z) (fun v τ => RB d 153 15 [l0, l1, l2] (aPush v []) τ Q) := RB_callS (n := 3) (t := 1) (k := 76) (ins := .invokestatic 76) rfl rfl rfl (Nat.le_of_ble_eq_true rfl) (Nat.le_of_ble_eq_true rfl) rfl rfl
theorem w153_15 : RB d 153 15 [l0, l1, l2] (.int x :: st) (S, I, R, z) Q = ((x = 0 → RB d 153 34 [l0, l1, l2] st (S, I, R, z) Q) ∧ (¬ x = 0 → RB d 153 18 [l0, l1, l2] st (S, I, R, z) Q)) := RB_eq0 rfl (by decide) rfl
theorem w153_18 : RB d 153 18 [.ref a, l1, l2] st (S, I, R, z) Q = RB d 153 19 [.ref a, l1, l2] (.ref a :: st) (S, I, R, z) Q := RB_aloadn rfl rfl
theorem w153_19 : RB d 153 19 [l0, l1, l2] st (S, I, R, z) Q = RB d 153 21 [l0, l1, l2] (.int 8 :: st) (S, I, R, z) Q := RB_bipush rfl kb8
theorem w153_21 : RB d 153 21 [l0, l1, l2] st (S, I, R, z) Q = RB d 153 22 [l0, l1, l2] (.int 2 :: st) (S, I, R, z) Q := RB_iconst rfl ki2
theorem w153_22 : RB d 153 22 [l0, .int x, l2] st (S, I, R, z) Q = RB d 153 23 [l0, .int x, l2] (.int x :: st) (S, I, R, z) Q := RB_iloadn rfl rfl
theorem w153_23 : RB d 153 23 [l0, l1, l2] (.int y :: .int x :: st) (S, I, R, z) Q = RB d 153 24 [l0, l1, l2] (.int (x * y) :: st) (S, I, R, z) Q := RB_imul rfl
theorem w153_24 : RB d 153 24 [l0, l1, l2] (.int y :: .int x :: st) (S, I, R, z) Q = RB d 153 25 [l0, l1, l2] (.int (x + y) :: st) (S, I, R, z) Q := RB_iadd rfl
theorem w153_25 : RB d 153 25 [l0, l1, l2] st (S, I, R, z) Q = RB d 153 26 [l0, l1, l2] (.int 1 :: st) (S, I, R, z) Q := RB_iconst rfl ki1
theorem w153_26 : RB d 153 26 [l0, l1, l2] (.int y :: .int x :: st) (S, I, R, z) Q = RB d 153 27 [l0, l1, l2] (.int (x + y) :: st) (S, I, R, z) Q := RB_iadd rfl
theorem w153_27 : RB d 153 27 [l0, l1, .int x] st (S, I, R, z) Q = RB d 153 28 [l0, l1, .int x] (.int x :: st) (S, I, R, z) Q := RB_iloadn rfl rfl
set_option maxRecDepth 20000 in
theorem w153_28 : RB d 153 28 [l0, l1, l2] [.int x1, .int x0, .ref a] (S, I, R, z) Q = ((S a).1 = 7 ∧ RM d 142 [.ref a, .int x0, .int x1] (S, I, R, z) (fun v τ => RB d 153 31 [l0, l1, l2] (aPush v []) τ Q)) := RB_callV (n := 3) (t := 0) (k := 107) (ins := .invokevirtual 107) rfl rfl rfl (by decide) (Nat.le_of_ble_eq_true rfl) (Nat.le_of_ble_eq_true rfl) rfl rfl
theorem w153_31 : RB d 153 31 [l0, l1, l2] st (S, I, R, z) Q = RB d 153 36 [l0, l1, l2] st (S, I, R, z) Q := RB_goto rfl (by decide) rfl
theorem w153_34 : RB d 153 34 [l0, l1, l2] st (S, I, R, z) Q = RB d 153 36 [l0, l1, l2] (.int (-1000000001) :: st) (S, I, R, z) Q := RB_ldc rfl rfl
theorem w153_36 : RB d 153 36 [l0, l1, l2] [.int x] (S, I, R, z) Q = Q (some (.int x)) (S, I, R, z) := RB_iret rfl rfl rfl
/-! 154: HangedWordModel.asker -/
theorem w154_0 : RB d 154 0 [l0, .int x, l2] st (S, I, R, z) Q = RB d 154 1 [l0, .int x, l2] (.int x :: st) (S, I, R, z) Q := RB_iloadn rfl rfl
theorem w154_1 : RB d 154 1 [l0, l1, l2] st (S, I, R, z) Q = RB d 154 2 [l0, l1, l2] (.int 0 :: st) (S, I, R, z) Q := RB_iconst rfl ki0
theorem w154_2 : RB d 154 2 [l0, l1, l2] st (S, I, R, z) Q = RB d 154 3 [l0, l1, l2] (.int 5 :: st) (S, I, R, z) Q := RB_iconst rfl ki5
set_option maxRecDepth 20000 in
theorem w154_3 : RB d 154 3 [l0, l1, l2] [.int x2, .int x1, .int x0] (S, I, R, z) Q = RM d 135 [.int x0, .int x1, .int x2] (S, I, R, z) (fun v τ => RB d 154 6 [l0, l1, l2] (aPush v []) τ Q) := RB_callS (n := 3) (t := 1) (k := 76) (ins := .invokestatic 76) rfl rfl rfl (Nat.le_of_ble_eq_true rfl) (Nat.le_of_ble_eq_true rfl) rfl rfl
theorem w154_6 : RB d 154 6 [l0, l1, l2] (.int x :: st) (S, I, R, z) Q = ((x = 0 → RB d 154 16 [l0, l1, l2] st (S, I, R, z) Q) ∧ (¬ x = 0 → RB d 154 9 [l0, l1, l2] st (S, I, R, z) Q)) := RB_eq0 rfl (by decide) rfl
theorem w154_9 : RB d 154 9 [l0, l1, .int x] st (S, I, R, z) Q = RB d 154 10 [l0, l1, .int x] (.int x :: st) (S, I, R, z) Q := RB_iloadn rfl rfl
set_option maxRecDepth 20000 in
theorem w154_10 : RB d 154 10 [l0, l1, l2] [.int x0] (S, I, R, z) Q = RM d 141 [.int x0] (S, I, R, z) (fun v τ => RB d 154 13 [l0, l1, l2] (aPush v []) τ Q) := RB_callS (n := 1) (t := 1) (k := 110) (ins := .invokestatic 110) rfl rfl rfl (Nat.le_of_ble_eq_true rfl) (Nat.le_of_ble_eq_true rfl) rfl rfl
theorem w154_13 : RB d 154 13 [l0, l1, l2] (.int x :: st) (S, I, R, z) Q = ((x = 0 → RB d 154 16 [l0, l1, l2] st (S, I, R, z) Q) ∧ (¬ x = 0 → RB d 154 19 [l0, l1, l2] st (S, I, R, z) Q)) := RB_ne0 rfl (by decide) rfl
theorem w154_16 : RB d 154 16 [l0, l1, l2] st (S, I, R, z) Q = RB d 154 18 [l0, l1, l2] (.int (-1000000001) :: st) (S, I, R, z) Q := RB_ldc rfl rfl
theorem w154_18 : RB d 154 18 [l0, l1, l2] [.int x] (S, I, R, z) Q = Q (some (.int x)) (S, I, R, z) := RB_iret rfl rfl rfl
theorem w154_19 : RB d 154 19 [.ref a, l1, l2] st (S, I, R, z) Q = RB d 154 20 [.ref a, l1, l2] (.ref a :: st) (S, I, R, z) Q := RB_aloadn rfl rfl
theorem w154_20 : RB d 154 20 [l0, l1, l2] (.ref a :: st) (S, I, R, z) Q = ((S a).1 = 7 ∧ RB d 154 23 [l0, l1, l2] (va_rf (R a 0) :: st) (S, I, R, z) Q) := RB_getR rfl rfl
theorem w154_23 : RB d 154 23 [l0, l1, l2] st (S, I, R, z) Q = RB d 154 24 [l0, l1, l2] (.int 2 :: st) (S, I, R, z) Q := RB_iconst rfl ki2
theorem w154_24 : RB d 154 24 [l0, l1, l2] (.int i :: .ref a :: st) (S, I, R, z) Q = (((S a).1 = 9 ∧ aIx i (S a).2) ∧ RB d 154 25 [l0, l1, l2] (.int (I a i.toNatClampNeg) :: st) (S, I, R, z) Q) := RB_iald rfl
theorem w154_25 : RB d 154 25 [l0, l1, l2] st (S, I, R, z) Q = RB d 154 27 [l0, l1, l2] (.int 8 :: st) (S, I, R, z) Q := RB_bipush rfl kb8
theorem w154_27 : RB d 154 27 [l0, l1, l2] (.int y :: .int x :: st) (S, I, R, z) Q = ((x = y → RB d 154 30 [l0, l1, l2] st (S, I, R, z) Q) ∧ (¬ x = y → RB d 154 33 [l0, l1, l2] st (S, I, R, z) Q)) := RB_ine rfl (by decide) rfl
theorem w154_30 : RB d 154 30 [l0, l1, l2] st (S, I, R, z) Q = RB d 154 32 [l0, l1, l2] (.int (-1000000003) :: st) (S, I, R, z) Q := RB_ldc rfl rfl
theorem w154_32 : RB d 154 32 [l0, l1, l2] [.int x] (S, I, R, z) Q = Q (some (.int x)) (S, I, R, z) := RB_iret rfl rfl rfl
theorem w154_33 : RB d 154 33 [.ref a, l1, l2] st (S, I, R, z) Q = RB d 154 34 [.ref a, l1, l2] (.ref a :: st) (S, I, R, z) Q := RB_aloadn rfl rfl
theorem w154_34 : RB d 154 34 [l0, l1, l2] (.ref a :: st) (S, I, R, z) Q = ((S a).1 = 7 ∧ RB d 154 37 [l0, l1, l2] (va_rf (R a 0) :: st) (S, I, R, z) Q) := RB_getR rfl rfl
theorem w154_37 : RB d 154 37 [l0, l1, l2] st (S, I, R, z) Q = RB d 154 39 [l0, l1, l2] (.int 32 :: st) (S, I, R, z) Q := RB_bipush rfl kb32
theorem w154_39 : RB d 154 39 [l0, l1, l2] st (S, I, R, z) Q = RB d 154 40 [l0, l1, l2] (.int 2 :: st) (S, I, R, z) Q := RB_iconst rfl ki2
theorem w154_40 : RB d 154 40 [.ref a, l1, l2] st (S, I, R, z) Q = RB d 154 41 [.ref a, l1, l2] (.ref a :: st) (S, I, R, z) Q := RB_aloadn rfl rfl
theorem w154_41 : RB d 154 41 [l0, l1, l2] (.ref a :: st) (S, I, R, z) Q = ((S a).1 = 7 ∧ RB d 154 44 [l0, l1, l2] (va_rf (R a 0) :: st) (S, I, R, z) Q) := RB_getR rfl rfl
theorem w154_44 : RB d 154 44 [l0, l1, l2] st (S, I, R, z) Q = RB d 154 45 [l0, l1, l2] (.int 2 :: st) (S, I, R, z) Q := RB_iconst rfl ki2
theorem w154_45 : RB d 154 45 [l0, l1, l2] (.int i :: .ref a :: st) (S, I, R, z) Q = (((S a).1 = 9 ∧ aIx i (S a).2) ∧ RB d 154 46 [l0, l1, l2] (.int (I a i.toNatClampNeg) :: st) (S, I, R, z) Q) := RB_iald rfl
theorem w154_46 : RB d 154 46 [l0, l1, l2] (.int y :: .int x :: st) (S, I, R, z) Q = RB d 154 47 [l0, l1, l2] (.int (x * y) :: st) (S, I, R, z) Q := RB_imul rfl
theorem w154_47 : RB d 154 47 [l0, l1, l2] (.int y :: .int x :: st) (S, I, R, z) Q = RB d 154 48 [l0, l1, l2] (.int (x + y) :: st) (S, I, R, z) Q := RB_iadd rfl
theorem w154_48 : RB d 154 48 [l0, .int x, l2] st (S, I, R, z) Q = RB d 154 49 [l0, .int x, l2] (.int x :: st) (S, I, R, z) Q := RB_iloadn rfl rfl
theorem w154_49 : RB d 154 49 [l0, l1, l2] (.int x :: .int i :: .ref a :: st) (S, I, R, z) Q = (((S a).1 = 9 ∧ aIx i (S a).2 ∧ 16 ≤ a) ∧ RB d 154 50 [l0, l1, l2] st (S, aW I a i.toNatClampNeg x, R, z) Q) := RB_iast rfl
theorem w154_50 : RB d 154 50 [.ref a, l1, l2] st (S, I, R, z) Q = RB d 154 51 [.ref a, l1, l2] (.ref a :: st) (S, I, R, z) Q := RB_aloadn rfl rfl
theorem w154_51 : RB d 154 51 [l0, l1, l2] (.ref a :: st) (S, I, R, z) Q = ((S a).1 = 7 ∧ RB d 154 54 [l0, l1, l2] (va_rf (R a 0) :: st) (S, I, R, z) Q) := RB_getR rfl rfl
theorem w154_54 : RB d 154 54 [l0, l1, l2] st (S, I, R, z) Q = RB d 154 56 [l0, l1, l2] (.int 32 :: st) (S, I, R, z) Q := RB_bipush rfl kb32
theorem w154_56 : RB d 154 56 [l0, l1, l2] st (S, I, R, z) Q = RB d 154 57 [l0, l1, l2] (.int 2 :: st) (S, I, R, z) Q := RB_iconst rfl ki2
theorem w154_57 : RB d 154 57 [.ref a, l1, l2] st (S, I, R, z) Q = RB d 154 58 [.ref a, l1, l2] (.ref a :: st) (S, I, R, z) Q := RB_aloadn rfl rfl
theorem w154_58 : RB d 154 58 [l0, l1, l2] (.ref a :: st) (S, I, R, z) Q = ((S a).1 = 7 ∧ RB d 154 61 [l0, l1, l2] (va_rf (R a 0) :: st) (S, I, R, z) Q) := RB_getR rfl rfl
theorem w154_61 : RB d 154 61 [l0, l1, l2] st (S, I, R, z) Q = RB d 154 62 [l0, l1, l2] (.int 2 :: st) (S, I, R, z) Q := RB_iconst rfl ki2
theorem w154_62 : RB d 154 62 [l0, l1, l2] (.int i :: .ref a :: st) (S, I, R, z) Q = (((S a).1 = 9 ∧ aIx i (S a).2) ∧ RB d 154 63 [l0, l1, l2] (.int (I a i.toNatClampNeg) :: st) (S, I, R, z) Q) := RB_iald rfl
theorem w154_63 : RB d 154 63 [l0, l1, l2] (.int y :: .int x :: st) (S, I, R, z) Q = RB d 154 64 [l0, l1, l2] (.int (x * y) :: st) (S, I, R, z) Q := RB_imul rfl
theorem w154_64 : RB d 154 64 [l0, l1, l2] (.int y :: .int x :: st) (S, I, R, z) Q = RB d 154 65 [l0, l1, l2] (.int (x + y) :: st) (S, I, R, z) Q := RB_iadd rfl
theorem w154_65 : RB d 154 65 [l0, l1, l2] st (S, I, R, z) Q = RB d 154 66 [l0, l1, l2] (.int 1 :: st) (S, I, R, z) Q := RB_iconst rfl ki1
theorem w154_66 : RB d 154 66 [l0, l1, l2] (.int y :: .int x :: st) (S, I, R, z) Q = RB d 154 67 [l0, l1, l2] (.int (x + y) :: st) (S, I, R, z) Q := RB_iadd rfl
theorem w154_67 : RB d 154 67 [l0, l1, .int x] st (S, I, R, z) Q = RB d 154 68 [l0, l1, .int x] (.int x :: st) (S, I, R, z) Q := RB_iloadn rfl rfl
theorem w154_68 : RB d 154 68 [l0, l1, l2] (.int x :: .int i :: .ref a :: st) (S, I, R, z) Q = (((S a).1 = 9 ∧ aIx i (S a).2 ∧ 16 ≤ a) ∧ RB d 154 69 [l0, l1, l2] st (S, aW I a i.toNatClampNeg x, R, z) Q) := RB_iast rfl
theorem w154_69 : RB d 154 69 [.ref a, l1, l2] st (S, I, R, z) Q = RB d 154 70 [.ref a, l1, l2] (.ref a :: st) (S, I, R, z) Q := RB_aloadn rfl rfl
theorem w154_70 : RB d 154 70 [l0, l1, l2] (.ref a :: st) (S, I, R, z) Q = ((S a).1 = 7 ∧ RB d 154 73 [l0, l1, l2] (va_rf (R a 0) :: st) (S, I, R, z) Q) := RB_getR rfl rfl
theorem w154_73 : RB d 154 73 [l0, l1, l2] st (S, I, R, z) Q = RB d 154 74 [l0, l1, l2] (.int 2 :: st) (S, I, R, z) Q := RB_iconst rfl ki2
theorem w154_74 : RB d 154 74 [l0, l1, l2] (v :: w :: st) (S, I, R, z) Q = RB d 154 75 [l0, l1, l2] (v :: w :: v :: w :: st) (S, I, R, z) Q := RB_dup2 rfl
theorem w154_75 : RB d 154 75 [l0, l1, l2] (.int i :: .ref a :: st) (S, I, R, z) Q = (((S a).1 = 9 ∧ aIx i (S a).2) ∧ RB d 154 76 [l0, l1, l2] (.int (I a i.toNatClampNeg) :: st) (S, I, R, z) Q) := RB_iald rfl
theorem w154_76 : RB d 154 76 [l0, l1, l2] st (S, I, R, z) Q = RB d 154 77 [l0, l1, l2] (.int 1 :: st) (S, I, R, z) Q := RB_iconst rfl ki1
theorem w154_77 : RB d 154 77 [l0, l1, l2] (.int y :: .int x :: st) (S, I, R, z) Q = RB d 154 78 [l0, l1, l2] (.int (x + y) :: st) (S, I, R, z) Q := RB_iadd rfl
theorem w154_78 : RB d 154 78 [l0, l1, l2] (.int x :: .int i :: .ref a :: st) (S, I, R, z) Q = (((S a).1 = 9 ∧ aIx i (S a).2 ∧ 16 ≤ a) ∧ RB d 154 79 [l0, l1, l2] st (S, aW I a i.toNatClampNeg x, R, z) Q) := RB_iast rfl
theorem w154_79 : RB d 154 79 [.ref a, l1, l2] st (S, I, R, z) Q = RB d 154 80 [.ref a, l1, l2] (.ref a :: st) (S, I, R, z) Q := RB_aloadn rfl rfl
theorem w154_80 : RB d 154 80 [l0, l1, l2] (.ref a :: st) (S, I, R, z) Q = ((S a).1 = 7 ∧ RB d 154 83 [l0, l1, l2] (va_rf (R a 0) :: st) (S, I, R, z) Q) := RB_getR rfl rfl
theorem w154_83 : RB d 154 83 [l0, l1, l2] st (S, I, R, z) Q = RB d 154 84 [l0, l1, l2] (.int 2 :: st) (S, I, R, z) Q := RB_iconst rfl ki2
theorem w154_84 : RB d 154 84 [l0, l1, l2] (.int i :: .ref a :: st) (S, I, R, z) Q = (((S a).1 = 9 ∧ aIx i (S a).2) ∧ RB d 154 85 [l0, l1, l2] (.int (I a i.toNatClampNeg) :: st) (S, I, R, z) Q) := RB_iald rfl
theorem w154_85 : RB d 154 85 [l0, l1, l2] st (S, I, R, z) Q = RB d 154 86 [l0, l1, l2] (.int 1 :: st) (S, I, R, z) Q := RB_iconst rfl ki1
theorem w154_86 : RB d 154 86 [l0, l1, l2] (.int y :: .int x :: st) (S, I, R, z) Q = RB d 154 87 [l0, l1, l2] (.int (x - y) :: st) (S, I, R, z) Q := RB_isub rfl
theorem w154_87 : RB d 154 87 [l0, l1, l2] [.int x] (S, I, R, z) Q = Q (some (.int x)) (S, I, R, z) := RB_iret rfl rfl rfl
/-! 155: HangedWordModel.kindOf -/
theorem w155_0 : RB d 155 0 [.ref a, l1] st (S, I, R, z) Q = RB d 155 1 [.ref a, l1] (.ref a :: st) (S, I, R, z) Q := RB_aloadn rfl rfl
theorem w155_1 : RB d 155 1 [l0, l1] (.ref a :: st) (S, I, R, z) Q = ((S a).1 = 7 ∧ RB d 155 4 [l0, l1] (va_rf (R a 0) :: st) (S, I, R, z) Q) := RB_getR rfl rfl
theorem w155_4 : RB d 155 4 [l0, l1] st (S, I, R, z) Q = RB d 155 6 [l0, l1] (.int 32 :: st) (S, I, R, z) Q := RB_bipush rfl kb32
theorem w155_6 : RB d 155 6 [l0, l1] st (S, I, R, z) Q = RB d 155 7 [l0, l1] (.int 2 :: st) (S, I, R, z) Q := RB_iconst rfl ki2
theorem w155_7 : RB d 155 7 [l0, .int x] st (S, I, R, z) Q = RB d 155 8 [l0, .int x] (.int x :: st) (S, I, R, z) Q := RB_iloadn rfl rfl
theorem w155_8 : RB d 155 8 [l0, l1] (.int y :: .int x :: st) (S, I, R, z) Q = RB d 155 9 [l0, l1] (.int (x * y) :: st) (S, I, R, z) Q := RB_imul rfl
theorem w155_9 : RB d 155 9 [l0, l1] (.int y :: .int x :: st) (S, I, R, z) Q = RB d 155 10 [l0, l1] (.int (x + y) :: st) (S, I, R, z) Q := RB_iadd rfl
theorem w155_10 : RB d 155 10 [l0, l1] (.int i :: .ref a :: st) (S, I, R, z) Q = (((S a).1 = 9 ∧ aIx i (S a).2) ∧ RB d 155 11 [l0, l1] (.int (I a i.toNatClampNeg) :: st) (S, I, R, z) Q) := RB_iald rfl
theorem w155_11 : RB d 155 11 [l0, l1] [.int x] (S, I, R, z) Q = Q (some (.int x)) (S, I, R, z) := RB_iret rfl rfl rfl
/-! 156: HangedWordModel.firstOf -/
theorem w156_0 : RB d 156 0 [.ref a, l1] st (S, I, R, z) Q = RB d 156 1 [.ref a, l1] (.ref a :: st) (S, I, R, z) Q := RB_aloadn rfl rfl
theorem w156_1 : RB d 156 1 [l0, l1] (.ref a :: st) (S, I, R, z) Q = ((S a).1 = 7 ∧ RB d 156 4 [l0, l1] (va_rf (R a 0) :: st) (S, I, R, z) Q) := RB_getR rfl rfl
theorem w156_4 : RB d 156 4 [l0, l1] st (S, I, R, z) Q = RB d 156 6 [l0, l1] (.int 32 :: st) (S, I, R, z) Q := RB_bipush rfl kb32
theorem w156_6 : RB d 156 6 [l0, l1] st (S, I, R, z) Q = RB d 156 7 [l0, l1] (.int 2 :: st) (S, I, R, z) Q := RB_iconst rfl ki2
theorem w156_7 : RB d 156 7 [l0, .int x] st (S, I, R, z) Q = RB d 156 8 [l0, .int x] (.int x :: st) (S, I, R, z) Q := RB_iloadn rfl rfl
theorem w156_8 : RB d 156 8 [l0, l1] (.int y :: .int x :: st) (S, I, R, z) Q = RB d 156 9 [l0, l1] (.int (x * y) :: st) (S, I, R, z) Q := RB_imul rfl
theorem w156_9 : RB d 156 9 [l0, l1] (.int y :: .int x :: st) (S, I, R, z) Q = RB d 156 10 [l0, l1] (.int (x + y) :: st) (S, I, R, z) Q := RB_iadd rfl
theorem w156_10 : RB d 156 10 [l0, l1] st (S, I, R, z) Q = RB d 156 11 [l0, l1] (.int 1 :: st) (S, I, R, z) Q := RB_iconst rfl ki1
theorem w156_11 : RB d 156 11 [l0, l1] (.int y :: .int x :: st) (S, I, R, z) Q = RB d 156 12 [l0, l1] (.int (x + y) :: st) (S, I, R, z) Q := RB_iadd rfl
theorem w156_12 : RB d 156 12 [l0, l1] (.int i :: .ref a :: st) (S, I, R, z) Q = (((S a).1 = 9 ∧ aIx i (S a).2) ∧ RB d 156 13 [l0, l1] (.int (I a i.toNatClampNeg) :: st) (S, I, R, z) Q) := RB_iald rfl
theorem w156_13 : RB d 156 13 [l0, l1] [.int x] (S, I, R, z) Q = Q (some (.int x)) (S, I, R, z) := RB_iret rfl rfl rfl
/-! 157: HangedWordModel.having -/
theorem w157_0 : RB d 157 0 [l0, l1, l2, l3, l4] st (S, I, R, z) Q = RB d 157 1 [l0, l1, l2, l3, l4] (.int 0 :: st) (S, I, R, z) Q := RB_iconst rfl ki0
theorem w157_1 : RB d 157 1 [l0, l1, l2, l3, l4] (.int x :: st) (S, I, R, z) Q = RB d 157 2 [l0, l1, l2, .int x, l4] st (S, I, R, z) Q := RB_istoren rfl (Nat.le_of_ble_eq_true rfl) rfl
theorem w157_2 : RB d 157 2 [l0, l1, l2, l3, l4] st (S, I, R, z) Q = RB d 157 3 [l0, l1, l2, l3, l4] (.int 0 :: st) (S, I, R, z) Q := RB_iconst rfl ki0
theorem w157_3 : RB d 157 3 [l0, l1, l2, l3, l4] (.int x :: st) (S, I, R, z) Q = RB d 157 5 [l0, l1, l2, l3, .int x] st (S, I, R, z) Q := RB_istore rfl (Nat.le_of_ble_eq_true rfl) rfl
theorem w157_5 : RB d 157 5 [l0, l1, l2, l3, .int x] st (S, I, R, z) Q = RB d 157 7 [l0, l1, l2, l3, .int x] (.int x :: st) (S, I, R, z) Q := RB_iload rfl rfl
theorem w157_7 : RB d 157 7 [.ref a, l1, l2, l3, l4] st (S, I, R, z) Q = RB d 157 8 [.ref a, l1, l2, l3, l4] (.ref a :: st) (S, I, R, z) Q := RB_aloadn rfl rfl
theorem w157_8 : RB d 157 8 [l0, l1, l2, l3, l4] (.ref a :: st) (S, I, R, z) Q = ((S a).1 = 7 ∧ RB d 157 11 [l0, l1, l2, l3, l4] (va_rf (R a 0) :: st) (S, I, R, z) Q) := RB_getR rfl rfl
theorem w157_11 : RB d 157 11 [l0, l1, l2, l3, l4] st (S, I, R, z) Q = RB d 157 12 [l0, l1, l2, l3, l4] (.int 1 :: st) (S, I, R, z) Q := RB_iconst rfl ki1
theorem w157_12 : RB d 157 12 [l0, l1, l2, l3, l4] (.int i :: .ref a :: st) (S, I, R, z) Q = (((S a).1 = 9 ∧ aIx i (S a).2) ∧ RB d 157 13 [l0, l1, l2, l3, l4] (.int (I a i.toNatClampNeg) :: st) (S, I, R, z) Q) := RB_iald rfl
theorem w157_13 : RB d 157 13 [l0, l1, l2, l3, l4] (.int y :: .int x :: st) (S, I, R, z) Q = ((y ≤ x → RB d 157 53 [l0, l1, l2, l3, l4] st (S, I, R, z) Q) ∧ (¬ y ≤ x → RB d 157 16 [l0, l1, l2, l3, l4] st (S, I, R, z) Q)) := RB_ige rfl (by decide) rfl
theorem w157_16 : RB d 157 16 [l0, l1, l2, .int x, l4] st (S, I, R, z) Q = RB d 157 17 [l0, l1, l2, .int x, l4] (.int x :: st) (S, I, R, z) Q := RB_iloadn rfl rfl
theorem w157_17 : RB d 157 17 [l0, .int x, l2, l3, l4] st (S, I, R, z) Q = RB d 157 18 [l0, .int x, l2, l3, l4] (.int x :: st) (S, I, R, z) Q := RB_iloadn rfl rfl
theorem w157_18 : RB d 157 18 [l0, l1, l2, l3, .int x] st (S, I, R, z) Q = RB d 157 20 [l0, l1, l2, l3, .int x] (.int x :: st) (S, I, R, z) Q := RB_iload rfl rfl
theorem w157_20 : RB d 157 20 [l0, l1, l2, l3, l4] (.int y :: .int x :: st) (S, I, R, z) Q = RB d 157 21 [l0, l1, l2, l3, l4] (.int (x >>> (y &&& 31)) :: st) (S, I, R, z) Q := RB_ishr rfl
theorem w157_21 : RB d 157 21 [l0, l1, l2, l3, l4] st (S, I, R, z) Q = RB d 157 22 [l0, l1, l2, l3, l4] (.int 1 :: st) (S, I, R, z) Q := RB_iconst rfl ki1
theorem w157_22 : RB d 157 22 [l0, l1, l2, l3, l4] (.int y :: .int x :: st) (S, I, R, z) Q = RB d 157 23 [l0, l1, l2, l3, l4] (.int (x &&& y) :: st) (S, I, R, z) Q := RB_iand rfl
theorem w157_23 : RB d 157 23 [l0, l1, l2, l3, l4] st (S, I, R, z) Q = RB d 157 24 [l0, l1, l2, l3, l4] (.int 1 :: st) (S, I, R, z) Q := RB_iconst rfl ki1
theorem w157_24 : RB d 157 24 [l0, l1, l2, l3, l4] (.int y :: .int x :: st) (S, I, R, z) Q = ((x = y → RB d 157 27 [l0, l1, l2, l3, l4] st (S, I, R, z) Q) ∧ (¬ x = y → RB d 157 44 [l0, l1, l2, l3, l4] st (S, I, R, z) Q)) := RB_ine rfl (by decide) rfl
theorem w157_27 : RB d 157 27 [.ref a, l1, l2, l3, l4] st (S, I, R, z) Q = RB d 157 28 [.ref a, l1, l2, l3, l4] (.ref a :: st) (S, I, R, z) Q := RB_aloadn rfl rfl
theorem w157_28 : RB d 157 28 [l0, l1, l2, l3, .int x] st (S, I, R, z) Q = RB d 157 30 [l0, l1, l2, l3, .int x] (.int x :: st) (S, I, R, z) Q := RB_iload rfl rfl
theorem w157_30 : RB d 157 30 [l0, l1, .int x, l3, l4] st (S, I, R, z) Q = RB d 157 31 [l0, l1, .int x, l3, l4] (.int x :: st) (S, I, R, z) Q := RB_iloadn rfl rfl
set_option maxRecDepth 20000 in
theorem w157_31 : RB d 157 31 [l0, l1, l2, l3, l4] [.int x1, .int x0, .ref a, s0] (S, I, R, z) Q = ((S a).1 = 7 ∧ RM d 146 [.ref a, .int x0, .int x1] (S, I, R, z) (fun v τ => RB d 157 34 [l0, l1, l2, l3, l4] (aPush v [s0]) τ Q)) := RB_callV (n := 3) (t := 0) (k := 113) (ins := .invokevirtual 113) rfl rfl rfl (by decide) (Nat.le_of_ble_eq_true rfl) (Nat.le_of_ble_eq_true rfl) rfl rfl
theorem w157_34 : RB d 157 34 [l0, l1, l2, l3, l4] (.int x :: st) (S, I, R, z) Q = ((x = 0 → RB d 157 44 [l0, l1, l2, l3, l4] st (S, I, R, z) Q) ∧ (¬ x = 0 → RB d 157 37 [l0, l1, l2, l3, l4] st (S, I, R, z) Q)) := RB_eq0 rfl (by decide) rfl
theorem w157_37 : RB d 157 37 [l0, l1, l2, l3, l4] st (S, I, R, z) Q = RB d 157 38 [l0, l1, l2, l3, l4] (.int 1 :: st) (S, I, R, z) Q := RB_iconst rfl ki1
theorem w157_38 : RB d 157 38 [l0, l1, l2, l3, .int x] st (S, I, R, z) Q = RB d 157 40 [l0, l1, l2, l3, .int x] (.int x :: st) (S, I, R, z) Q := RB_iload rfl rfl
theorem w157_40 : RB d 157 40 [l0, l1, l2, l3, l4] (.int y :: .int x :: st) (S, I, R, z) Q = RB d 157 41 [l0, l1, l2, l3, l4] (.int (x <<< (y &&& 31)) :: st) (S, I, R, z) Q := RB_ishl rfl
theorem w157_41 : RB d 157 41 [l0, l1, l2, l3, l4] st (S, I, R, z) Q = RB d 157 45 [l0, l1, l2, l3, l4] st (S, I, R, z) Q := RB_goto rfl (by decide) rfl
theorem w157_44 : RB d 157 44 [l0, l1, l2, l3, l4] st (S, I, R, z) Q = RB d 157 45 [l0, l1, l2, l3, l4] (.int 0 :: st) (S, I, R, z) Q := RB_iconst rfl ki0
theorem w157_45 : RB d 157 45 [l0, l1, l2, l3, l4] (.int y :: .int x :: st) (S, I, R, z) Q = RB d 157 46 [l0, l1, l2, l3, l4] (.int (x ||| y) :: st) (S, I, R, z) Q := RB_ior rfl
theorem w157_46 : RB d 157 46 [l0, l1, l2, l3, l4] (.int x :: st) (S, I, R, z) Q = RB d 157 47 [l0, l1, l2, .int x, l4] st (S, I, R, z) Q := RB_istoren rfl (Nat.le_of_ble_eq_true rfl) rfl
theorem w157_47 : RB d 157 47 [l0, l1, l2, l3, .int x] st (S, I, R, z) Q = RB d 157 50 [l0, l1, l2, l3, .int (x + 1)] st (S, I, R, z) Q := RB_iinc rfl rfl (Nat.le_of_ble_eq_true rfl) ki1 rfl
theorem w157_50 : RB d 157 50 [l0, l1, l2, l3, l4] st (S, I, R, z) Q = RB d 157 5 [l0, l1, l2, l3, l4] st (S, I, R, z) Q := RB_goto rfl (by decide) rfl
theorem w157_53 : RB d 157 53 [l0, l1, l2, .int x, l4] st (S, I, R, z) Q = RB d 157 54 [l0, l1, l2, .int x, l4] (.int x :: st) (S, I, R, z) Q := RB_iloadn rfl rfl
theorem w157_54 : RB d 157 54 [l0, l1, l2, l3, l4] [.int x] (S, I, R, z) Q = Q (some (.int x)) (S, I, R, z) := RB_iret rfl rfl rfl
/-! 158: HangedWordModel.weightOf -/
theorem w158_0 : RB d 158 0 [l0, l1, l2, l3] st (S, I, R, z) Q = RB d 158 1 [l0, l1, l2, l3] (.int 0 :: st) (S, I, R, z) Q := RB_iconst rfl ki0
theorem w158_1 : RB d 158 1 [l0, l1, l2, l3] (.int x :: st) (S, I, R, z) Q = RB d 158 2 [l0, l1, .int x, l3] st (S, I, R, z) Q := RB_istoren rfl (Nat.le_of_ble_eq_true rfl) rfl
theorem w158_2 : RB d 158 2 [l0, l1, l2, l3] st (S, I, R, z) Q = RB d 158 3 [l0, l1, l2, l3] (.int 0 :: st) (S, I, R, z) Q := RB_iconst rfl ki0
theorem w158_3 : RB d 158 3 [l0, l1, l2, l3] (.int x :: st) (S, I, R, z) Q = RB d 158 4 [l0, l1, l2, .int x] st (S, I, R, z) Q := RB_istoren rfl (Nat.le_of_ble_eq_true rfl) rfl
theorem w158_4 : RB d 158 4 [l0, l1, l2, .int x] st (S, I, R, z) Q = RB d 158 5 [l0, l1, l2, .int x] (.int x :: st) (S, I, R, z) Q := RB_iloadn rfl rfl
theorem w158_5 : RB d 158 5 [.ref a, l1, l2, l3] st (S, I, R, z) Q = RB d 158 6 [.ref a, l1, l2, l3] (.ref a :: st) (S, I, R, z) Q := RB_aloadn rfl rfl
theorem w158_6 : RB d 158 6 [l0, l1, l2, l3] (.ref a :: st) (S, I, R, z) Q = ((S a).1 = 7 ∧ RB d 158 9 [l0, l1, l2, l3] (va_rf (R a 0) :: st) (S, I, R, z) Q) := RB_getR rfl rfl
theorem w158_9 : RB d 158 9 [l0, l1, l2, l3] st (S, I, R, z) Q = RB d 158 10 [l0, l1, l2, l3] (.int 1 :: st) (S, I, R, z) Q := RB_iconst rfl ki1
theorem w158_10 : RB d 158 10 [l0, l1, l2, l3] (.int i :: .ref a :: st) (S, I, R, z) Q = (((S a).1 = 9 ∧ aIx i (S a).2) ∧ RB d 158 11 [l0, l1, l2, l3] (.int (I a i.toNatClampNeg) :: st) (S, I, R, z) Q) := RB_iald rfl
theorem w158_11 : RB d 158 11 [l0, l1, l2, l3] (.int y :: .int x :: st) (S, I, R, z) Q = ((y ≤ x → RB d 158 41 [l0, l1, l2, l3] st (S, I, R, z) Q) ∧ (¬ y ≤ x → RB d 158 14 [l0, l1, l2, l3] st (S, I, R, z) Q)) := RB_ige rfl (by decide) rfl
theorem w158_14 : RB d 158 14 [l0, l1, .int x, l3] st (S, I, R, z) Q = RB d 158 15 [l0, l1, .int x, l3] (.int x :: st) (S, I, R, z) Q := RB_iloadn rfl rfl
theorem w158_15 : RB d 158 15 [l0, .int x, l2, l3] st (S, I, R, z) Q = RB d 158 16 [l0, .int x, l2, l3] (.int x :: st) (S, I, R, z) Q := RB_iloadn rfl rfl
theorem w158_16 : RB d 158 16 [l0, l1, l2, .int x] st (S, I, R, z) Q = RB d 158 17 [l0, l1, l2, .int x] (.int x :: st) (S, I, R, z) Q := RB_iloadn rfl rfl
theorem w158_17 : RB d 158 17 [l0, l1, l2, l3] (.int y :: .int x :: st) (S, I, R, z) Q = RB d 158 18 [l0, l1, l2, l3] (.int (x >>> (y &&& 31)) :: st) (S, I, R, z) Q := RB_ishr rfl
theorem w158_18 : RB d 158 18 [l0, l1, l2, l3] st (S, I, R, z) Q = RB d 158 19 [l0, l1, l2, l3] (.int 1 :: st) (S, I, R, z) Q := RB_iconst rfl ki1
theorem w158_19 : RB d 158 19 [l0, l1, l2, l3] (.int y :: .int x :: st) (S, I, R, z) Q = RB d 158 20 [l0, l1, l2, l3] (.int (x &&& y) :: st) (S, I, R, z) Q := RB_iand rfl
theorem w158_20 : RB d 158 20 [l0, l1, l2, l3] st (S, I, R, z) Q = RB d 158 21 [l0, l1, l2, l3] (.int 1 :: st) (S, I, R, z) Q := RB_iconst rfl ki1
theorem w158_21 : RB d 158 21 [l0, l1, l2, l3] (.int y :: .int x :: st) (S, I, R, z) Q = ((x = y → RB d 158 24 [l0, l1, l2, l3] st (S, I, R, z) Q) ∧ (¬ x = y → RB d 158 32 [l0, l1, l2, l3] st (S, I, R, z) Q)) := RB_ine rfl (by decide) rfl
theorem w158_24 : RB d 158 24 [.ref a, l1, l2, l3] st (S, I, R, z) Q = RB d 158 25 [.ref a, l1, l2, l3] (.ref a :: st) (S, I, R, z) Q := RB_aloadn rfl rfl
theorem w158_25 : RB d 158 25 [l0, l1, l2, .int x] st (S, I, R, z) Q = RB d 158 26 [l0, l1, l2, .int x] (.int x :: st) (S, I, R, z) Q := RB_iloadn rfl rfl
set_option maxRecDepth 20000 in
theorem w158_26 : RB d 158 26 [l0, l1, l2, l3] [.int x0, .ref a, s0] (S, I, R, z) Q = ((S a).1 = 7 ∧ RM d 145 [.ref a, .int x0] (S, I, R, z) (fun v τ => RB d 158 29 [l0, l1, l2, l3] (aPush v [s0]) τ Q)) := RB_callV (n := 2) (t := 0) (k := 116) (ins := .invokevirtual 116) rfl rfl rfl (by decide) (Nat.le_of_ble_eq_true rfl) (Nat.le_of_ble_eq_true rfl) rfl rfl
theorem w158_29 : RB d 158 29 [l0, l1, l2, l3] st (S, I, R, z) Q = RB d 158 33 [l0, l1, l2, l3] st (S, I, R, z) Q := RB_goto rfl (by decide) rfl
theorem w158_32 : RB d 158 32 [l0, l1, l2, l3] st (S, I, R, z) Q = RB d 158 33 [l0, l1, l2, l3] (.int 0 :: st) (S, I, R, z) Q := RB_iconst rfl ki0
theorem w158_33 : RB d 158 33 [l0, l1, l2, l3] (.int y :: .int x :: st) (S, I, R, z) Q = RB d 158 34 [l0, l1, l2, l3] (.int (x + y) :: st) (S, I, R, z) Q := RB_iadd rfl
theorem w158_34 : RB d 158 34 [l0, l1, l2, l3] (.int x :: st) (S, I, R, z) Q = RB d 158 35 [l0, l1, .int x, l3] st (S, I, R, z) Q := RB_istoren rfl (Nat.le_of_ble_eq_true rfl) rfl
theorem w158_35 : RB d 158 35 [l0, l1, l2, .int x] st (S, I, R, z) Q = RB d 158 38 [l0, l1, l2, .int (x + 1)] st (S, I, R, z) Q := RB_iinc rfl rfl (Nat.le_of_ble_eq_true rfl) ki1 rfl
theorem w158_38 : RB d 158 38 [l0, l1, l2, l3] st (S, I, R, z) Q = RB d 158 4 [l0, l1, l2, l3] st (S, I, R, z) Q := RB_goto rfl (by decide) rfl
theorem w158_41 : RB d 158 41 [l0, l1, .int x, l3] st (S, I, R, z) Q = RB d 158 42 [l0, l1, .int x, l3] (.int x :: st) (S, I, R, z) Q := RB_iloadn rfl rfl
theorem w158_42 : RB d 158 42 [l0, l1, l2, l3] [.int x] (S, I, R, z) Q = Q (some (.int x)) (S, I, R, z) := RB_iret rfl rfl rfl
/-! 159: HangedWordModel.classOf -/
theorem w159_0 : RB d 159 0 [l0, l1, l2, l3, l4, l5] st (S, I, R, z) Q = RB d 159 1 [l0, l1, l2, l3, l4, l5] (.int 0 :: st) (S, I, R, z) Q := RB_iconst rfl ki0
theorem w159_1 : RB d 159 1 [l0, l1, l2, l3, l4, l5] (.int x :: st) (S, I, R, z) Q = RB d 159 3 [l0, l1, l2, l3, .int x, l5] st (S, I, R, z) Q := RB_istore rfl (Nat.le_of_ble_eq_true rfl) rfl
theorem w159_3 : RB d 159 3 [l0, l1, l2, l3, l4, l5] st (S, I, R, z) Q = RB d 159 4 [l0, l1, l2, l3, l4, l5] (.int 0 :: st) (S, I, R, z) Q := RB_iconst rfl ki0
theorem w159_4 : RB d 159 4 [l0, l1, l2, l3, l4, l5] (.int x :: st) (S, I, R, z) Q = RB d 159 6 [l0, l1, l2, l3, l4, .int x] st (S, I, R, z) Q := RB_istore rfl (Nat.le_of_ble_eq_true rfl) rfl
theorem w159_6 : RB d 159 6 [l0, l1, l2, l3, l4, .int x] st (S, I, R, z) Q = RB d 159 8 [l0, l1, l2, l3, l4, .int x] (.int x :: st) (S, I, R, z) Q := RB_iload rfl rfl
theorem w159_8 : RB d 159 8 [.ref a, l1, l2, l3, l4, l5] st (S, I, R, z) Q = RB d 159 9 [.ref a, l1, l2, l3, l4, l5] (.ref a :: st) (S, I, R, z) Q := RB_aloadn rfl rfl
theorem w159_9 : RB d 159 9 [l0, l1, l2, l3, l4, l5] (.ref a :: st) (S, I, R, z) Q = ((S a).1 = 7 ∧ RB d 159 12 [l0, l1, l2, l3, l4, l5] (va_rf (R a 0) :: st) (S, I, R, z) Q) := RB_getR rfl rfl
theorem w159_12 : RB d 159 12 [l0, l1, l2, l3, l4, l5] st (S, I, R, z) Q = RB d 159 13 [l0, l1, l2, l3, l4, l5] (.int 1 :: st) (S, I, R, z) Q := RB_iconst rfl ki1
theorem w159_13 : RB d 159 13 [l0, l1, l2, l3, l4, l5] (.int i :: .ref a :: st) (S, I, R, z) Q = (((S a).1 = 9 ∧ aIx i (S a).2) ∧ RB d 159 14 [l0, l1, l2, l3, l4, l5] (.int (I a i.toNatClampNeg) :: st) (S, I, R, z) Q) := RB_iald rfl
theorem w159_14 : RB d 159 14 [l0, l1, l2, l3, l4, l5] (.int y :: .int x :: st) (S, I, R, z) Q = ((y ≤ x → RB d 159 57 [l0, l1, l2, l3, l4, l5] st (S, I, R, z) Q) ∧ (¬ y ≤ x → RB d 159 17 [l0, l1, l2, l3, l4, l5] st (S, I, R, z) Q)) := RB_ige rfl (by decide) rfl
theorem w159_17 : RB d 159 17 [l0, l1, l2, l3, .int x, l5] st (S, I, R, z) Q = RB d 159 19 [l0, l1, l2, l3, .int x, l5] (.int x :: st) (S, I, R, z) Q := RB_iload rfl rfl
theorem w159_19 : RB d 159 19 [l0, .int x, l2, l3, l4, l5] st (S, I, R, z) Q = RB d 159 20 [l0, .int x, l2, l3, l4, l5] (.int x :: st) (S, I, R, z) Q := RB_iloadn rfl rfl
theorem w159_20 : RB d 159 20 [l0, l1, l2, l3, l4, .int x] st (S, I, R, z) Q = RB d 159 22 [l0, l1, l2, l3, l4, .int x] (.int x :: st) (S, I, R, z) Q := RB_iload rfl rfl
theorem w159_22 : RB d 159 22 [l0, l1, l2, l3, l4, l5] (.int y :: .int x :: st) (S, I, R, z) Q = RB d 159 23 [l0, l1, l2, l3, l4, l5] (.int (x >>> (y &&& 31)) :: st) (S, I, R, z) Q := RB_ishr rfl
theorem w159_23 : RB d 159 23 [l0, l1, l2, l3, l4, l5] st (S, I, R, z) Q = RB d 159 24 [l0, l1, l2, l3, l4, l5] (.int 1 :: st) (S, I, R, z) Q := RB_iconst rfl ki1
theorem w159_24 : RB d 159 24 [l0, l1, l2, l3, l4, l5] (.int y :: .int x :: st) (S, I, R, z) Q = RB d 159 25 [l0, l1, l2, l3, l4, l5] (.int (x &&& y) :: st) (S, I, R, z) Q := RB_iand rfl
theorem w159_25 : RB d 159 25 [l0, l1, l2, l3, l4, l5] st (S, I, R, z) Q = RB d 159 26 [l0, l1, l2, l3, l4, l5] (.int 1 :: st) (S, I, R, z) Q := RB_iconst rfl ki1
theorem w159_26 : RB d 159 26 [l0, l1, l2, l3, l4, l5] (.int y :: .int x :: st) (S, I, R, z) Q = ((x = y → RB d 159 29 [l0, l1, l2, l3, l4, l5] st (S, I, R, z) Q) ∧ (¬ x = y → RB d 159 47 [l0, l1, l2, l3, l4, l5] st (S, I, R, z) Q)) := RB_ine rfl (by decide) rfl
theorem w159_29 : RB d 159 29 [.ref a, l1, l2, l3, l4, l5] st (S, I, R, z) Q = RB d 159 30 [.ref a, l1, l2, l3, l4, l5] (.ref a :: st) (S, I, R, z) Q := RB_aloadn rfl rfl
theorem w159_30 : RB d 159 30 [l0, l1, l2, l3, l4, .int x] st (S, I, R, z) Q = RB d 159 32 [l0, l1, l2, l3, l4, .int x] (.int x :: st) (S, I, R, z) Q := RB_iload rfl rfl
theorem w159_32 : RB d 159 32 [l0, l1, .int x, l3, l4, l5] st (S, I, R, z) Q = RB d 159 33 [l0, l1, .int x, l3, l4, l5] (.int x :: st) (S, I, R, z) Q := RB_iloadn rfl rfl
set_option maxRecDepth 20000 in
theorem w159_33 : RB d 159 33 [l0, l1, l2, l3, l4, l5] [.int x1, .int x0, .ref a, s0] (S, I, R, z) Q = ((S a).1 = 7 ∧ RM d 146 [.ref a, .int x0, .int x1] (S, I, R, z) (fun v τ => RB d 159 36 [l0, l1, l2, l3, l4, l5] (aPush v [s0]) τ Q)) := RB_callV (n := 3) (t := 0) (k := 113) (ins := .invokevirtual 113) rfl rfl rfl (by decide) (Nat.le_of_ble_eq_true rfl) (Nat.le_of_ble_eq_true rfl) rfl rfl
theorem w159_36 : RB d 159 36 [l0, l1, l2, .int x, l4, l5] st (S, I, R, z) Q = RB d 159 37 [l0, l1, l2, .int x, l4, l5] (.int x :: st) (S, I, R, z) Q := RB_iloadn rfl rfl
theorem w159_37 : RB d 159 37 [l0, l1, l2, l3, l4, l5] (.int y :: .int x :: st) (S, I, R, z) Q = ((x = y → RB d 159 40 [l0, l1, l2, l3, l4, l5] st (S, I, R, z) Q) ∧ (¬ x = y → RB d 159 47 [l0, l1, l2, l3, l4, l5] st (S, I, R, z) Q)) := RB_ine rfl (by decide) rfl
theorem w159_40 : RB d 159 40 [l0, l1, l2, l3, l4, l5] st (S, I, R, z) Q = RB d 159 41 [l0, l1, l2, l3, l4, l5] (.int 1 :: st) (S, I, R, z) Q := RB_iconst rfl ki1
theorem w159_41 : RB d 159 41 [l0, l1, l2, l3, l4, .int x] st (S, I, R, z) Q = RB d 159 43 [l0, l1, l2, l3, l4, .int x] (.int x :: st) (S, I, R, z) Q := RB_iload rfl rfl
theorem w159_43 : RB d 159 43 [l0, l1, l2, l3, l4, l5] (.int y :: .int x :: st) (S, I, R, z) Q = RB d 159 44 [l0, l1, l2, l3, l4, l5] (.int (x <<< (y &&& 31)) :: st) (S, I, R, z) Q := RB_ishl rfl
theorem w159_44 : RB d 159 44 [l0, l1, l2, l3, l4, l5] st (S, I, R, z) Q = RB d 159 48 [l0, l1, l2, l3, l4, l5] st (S, I, R, z) Q := RB_goto rfl (by decide) rfl
theorem w159_47 : RB d 159 47 [l0, l1, l2, l3, l4, l5] st (S, I, R, z) Q = RB d 159 48 [l0, l1, l2, l3, l4, l5] (.int 0 :: st) (S, I, R, z) Q := RB_iconst rfl ki0
theorem w159_48 : RB d 159 48 [l0, l1, l2, l3, l4, l5] (.int y :: .int x :: st) (S, I, R, z) Q = RB d 159 49 [l0, l1, l2, l3, l4, l5] (.int (x ||| y) :: st) (S, I, R, z) Q := RB_ior rfl
theorem w159_49 : RB d 159 49 [l0, l1, l2, l3, l4, l5] (.int x :: st) (S, I, R, z) Q = RB d 159 51 [l0, l1, l2, l3, .int x, l5] st (S, I, R, z) Q := RB_istore rfl (Nat.le_of_ble_eq_true rfl) rfl
theorem w159_51 : RB d 159 51 [l0, l1, l2, l3, l4, .int x] st (S, I, R, z) Q = RB d 159 54 [l0, l1, l2, l3, l4, .int (x + 1)] st (S, I, R, z) Q := RB_iinc rfl rfl (Nat.le_of_ble_eq_true rfl) ki1 rfl
theorem w159_54 : RB d 159 54 [l0, l1, l2, l3, l4, l5] st (S, I, R, z) Q = RB d 159 6 [l0, l1, l2, l3, l4, l5] st (S, I, R, z) Q := RB_goto rfl (by decide) rfl
theorem w159_57 : RB d 159 57 [l0, l1, l2, l3, .int x, l5] st (S, I, R, z) Q = RB d 159 59 [l0, l1, l2, l3, .int x, l5] (.int x :: st) (S, I, R, z) Q := RB_iload rfl rfl
theorem w159_59 : RB d 159 59 [l0, l1, l2, l3, l4, l5] [.int x] (S, I, R, z) Q = Q (some (.int x)) (S, I, R, z) := RB_iret rfl rfl rfl
/-! 160: HangedWordModel.greatest -/
theorem w160_0 : RB d 160 0 [l0, l1, l2, l3, l4] st (S, I, R, z) Q = RB d 160 1 [l0, l1, l2, l3, l4] (.int 0 :: st) (S, I, R, z) Q := RB_iconst rfl ki0
theorem w160_1 : RB d 160 1 [l0, l1, l2, l3, l4] (.int x :: st) (S, I, R, z) Q = RB d 160 2 [l0, l1, l2, .int x, l4] st (S, I, R, z) Q := RB_istoren rfl (Nat.le_of_ble_eq_true rfl) rfl
theorem w160_2 : RB d 160 2 [l0, l1, l2, l3, l4] st (S, I, R, z) Q = RB d 160 3 [l0, l1, l2, l3, l4] (.int 1 :: st) (S, I, R, z) Q := RB_iconst rfl ki1
theorem w160_3 : RB d 160 3 [l0, l1, l2, l3, l4] (.int x :: st) (S, I, R, z) Q = RB d 160 5 [l0, l1, l2, l3, .int x] st (S, I, R, z) Q := RB_istore rfl (Nat.le_of_ble_eq_true rfl) rfl
theorem w160_5 : RB d 160 5 [l0, l1, l2, l3, .int x] st (S, I, R, z) Q = RB d 160 7 [l0, l1, l2, l3, .int x] (.int x :: st) (S, I, R, z) Q := RB_iload rfl rfl
theorem w160_7 : RB d 160 7 [l0, l1, l2, l3, l4] st (S, I, R, z) Q = RB d 160 9 [l0, l1, l2, l3, l4] (.int 16 :: st) (S, I, R, z) Q := RB_bipush rfl kb16
theorem w160_9 : RB d 160 9 [l0, l1, l2, l3, l4] (.int y :: .int x :: st) (S, I, R, z) Q = ((y ≤ x → RB d 160 51 [l0, l1, l2, l3, l4] st (S, I, R, z) Q) ∧ (¬ y ≤ x → RB d 160 12 [l0, l1, l2, l3, l4] st (S, I, R, z) Q)) := RB_ige rfl (by decide) rfl
theorem w160_12 : RB d 160 12 [.ref a, l1, l2, l3, l4] st (S, I, R, z) Q = RB d 160 13 [.ref a, l1, l2, l3, l4] (.ref a :: st) (S, I, R, z) Q := RB_aloadn rfl rfl
theorem w160_13 : RB d 160 13 [.ref a, l1, l2, l3, l4] st (S, I, R, z) Q = RB d 160 14 [.ref a, l1, l2, l3, l4] (.ref a :: st) (S, I, R, z) Q := RB_aloadn rfl rfl
theorem w160_14 : RB d 160 14 [l0, .int x, l2, l3, l4] st (S, I, R, z) Q = RB d 160 15 [l0, .int x, l2, l3, l4] (.int x :: st) (S, I, R, z) Q := RB_iloadn rfl rfl
theorem w160_15 : RB d 160 15 [l0, l1, .int x, l3, l4] st (S, I, R, z) Q = RB d 160 16 [l0, l1, .int x, l3, l4] (.int x :: st) (S, I, R, z) Q := RB_iloadn rfl rfl
theorem w160_16 : RB d 160 16 [l0, l1, l2, l3, .int x] st (S, I, R, z) Q = RB d 160 18 [l0, l1, l2, l3, .int x] (.int x :: st) (S, I, R, z) Q := RB_iload rfl rfl
set_option maxRecDepth 20000 in
theorem w160_18 : RB d 160 18 [l0, l1, l2, l3, l4] [.int x2, .int x1, .int x0, .ref a, s0] (S, I, R, z) Q = ((S a).1 = 7 ∧ RM d 159 [.ref a, .int x0, .int x1, .int x2] (S, I, R, z) (fun v τ => RB d 160 21 [l0, l1, l2, l3, l4] (aPush v [s0]) τ Q)) := RB_callV (n := 4) (t := 0) (k := 119) (ins := .invokevirtual 119) rfl rfl rfl (by decide) (Nat.le_of_ble_eq_true rfl) (Nat.le_of_ble_eq_true rfl) rfl rfl
set_option maxRecDepth 20000 in
theorem w160_21 : RB d 160 21 [l0, l1, l2, l3, l4] [.int x0, .ref a] (S, I, R, z) Q = ((S a).1 = 7 ∧ RM d 158 [.ref a, .int x0] (S, I, R, z) (fun v τ => RB d 160 24 [l0, l1, l2, l3, l4] (aPush v []) τ Q)) := RB_callV (n := 2) (t := 0) (k := 123) (ins := .invokevirtual 123) rfl rfl rfl (by decide) (Nat.le_of_ble_eq_true rfl) (Nat.le_of_ble_eq_true rfl) rfl rfl
theorem w160_24 : RB d 160 24 [.ref a, l1, l2, l3, l4] st (S, I, R, z) Q = RB d 160 25 [.ref a, l1, l2, l3, l4] (.ref a :: st) (S, I, R, z) Q := RB_aloadn rfl rfl
theorem w160_25 : RB d 160 25 [.ref a, l1, l2, l3, l4] st (S, I, R, z) Q = RB d 160 26 [.ref a, l1, l2, l3, l4] (.ref a :: st) (S, I, R, z) Q := RB_aloadn rfl rfl
theorem w160_26 : RB d 160 26 [l0, .int x, l2, l3, l4] st (S, I, R, z) Q = RB d 160 27 [l0, .int x, l2, l3, l4] (.int x :: st) (S, I, R, z) Q := RB_iloadn rfl rfl
theorem w160_27 : RB d 160 27 [l0, l1, .int x, l3, l4] st (S, I, R, z) Q = RB d 160 28 [l0, l1, .int x, l3, l4] (.int x :: st) (S, I, R, z) Q := RB_iloadn rfl rfl
theorem w160_28 : RB d 160 28 [l0, l1, l2, .int x, l4] st (S, I, R, z) Q = RB d 160 29 [l0, l1, l2, .int x, l4] (.int x :: st) (S, I, R, z) Q := RB_iloadn rfl rfl
set_option maxRecDepth 20000 in
theorem w160_29 : RB d 160 29 [l0, l1, l2, l3, l4] [.int x2, .int x1, .int x0, .ref a, s0, s1] (S, I, R, z) Q = ((S a).1 = 7 ∧ RM d 159 [.ref a, .int x0, .int x1, .int x2] (S, I, R, z) (fun v τ => RB d 160 32 [l0, l1, l2, l3, l4] (aPush v [s0, s1]) τ Q)) := RB_callV (n := 4) (t := 0) (k := 119) (ins := .invokevirtual 119) rfl rfl rfl (by decide) (Nat.le_of_ble_eq_true rfl) (Nat.le_of_ble_eq_true rfl) rfl rfl
set_option maxRecDepth 20000 in
theorem w160_32 : RB d 160 32 [l0, l1, l2, l3, l4] [.int x0, .ref a, s0] (S, I, R, z) Q = ((S a).1 = 7 ∧ RM d 158 [.ref a, .int x0] (S, I, R, z) (fun v τ => RB d 160 35 [l0, l1, l2, l3, l4] (aPush v [s0]) τ Q)) := RB_callV (n := 2) (t := 0) (k := 123) (ins := .invokevirtual 123) rfl rfl rfl (by decide) (Nat.le_of_ble_eq_true rfl) (Nat.le_of_ble_eq_true rfl) rfl rfl
theorem w160_35 : RB d 160 35 [l0, l1, l2, l3, l4] (.int y :: .int x :: st) (S, I, R, z) Q = ((x ≤ y → RB d 160 43 [l0, l1, l2, l3, l4] st (S, I, R, z) Q) ∧ (¬ x ≤ y → RB d 160 38 [l0, l1, l2, l3, l4] st (S, I, R, z) Q)) := RB_ile rfl (by decide) rfl
theorem w160_38 : RB d 160 38 [l0, l1, l2, l3, .int x] st (S, I, R, z) Q = RB d 160 40 [l0, l1, l2, l3, .int x] (.int x :: st) (S, I, R, z) Q := RB_iload rfl rfl
theorem w160_40 : RB d 160 40 [l0, l1, l2, l3, l4] st (S, I, R, z) Q = RB d 160 44 [l0, l1, l2, l3, l4] st (S, I, R, z) Q := RB_goto rfl (by decide) rfl
theorem w160_43 : RB d 160 43 [l0, l1, l2, .int x, l4] st (S, I, R, z) Q = RB d 160 44 [l0, l1, l2, .int x, l4] (.int x :: st) (S, I, R, z) Q := RB_iloadn rfl rfl
theorem w160_44 : RB d 160 44 [l0, l1, l2, l3, l4] (.int x :: st) (S, I, R, z) Q = RB d 160 45 [l0, l1, l2, .int x, l4] st (S, I, R, z) Q := RB_istoren rfl (Nat.le_of_ble_eq_true rfl) rfl
theorem w160_45 : RB d 160 45 [l0, l1, l2, l3, .int x] st (S, I, R, z) Q = RB d 160 48 [l0, l1, l2, l3, .int (x + 1)] st (S, I, R, z) Q := RB_iinc rfl rfl (Nat.le_of_ble_eq_true rfl) ki1 rfl
theorem w160_48 : RB d 160 48 [l0, l1, l2, l3, l4] st (S, I, R, z) Q = RB d 160 5 [l0, l1, l2, l3, l4] st (S, I, R, z) Q := RB_goto rfl (by decide) rfl
theorem w160_51 : RB d 160 51 [l0, l1, l2, .int x, l4] st (S, I, R, z) Q = RB d 160 52 [l0, l1, l2, .int x, l4] (.int x :: st) (S, I, R, z) Q := RB_iloadn rfl rfl
theorem w160_52 : RB d 160 52 [l0, l1, l2, l3, l4] [.int x] (S, I, R, z) Q = Q (some (.int x)) (S, I, R, z) := RB_iret rfl rfl rfl
/-! 161: HangedWordModel.plainOf -/
theorem w161_0 : RB d 161 0 [.ref a, l1, l2, l3, l4, l5] st (S, I, R, z) Q = RB d 161 1 [.ref a, l1, l2, l3, l4, l5] (.ref a :: st) (S, I, R, z) Q := RB_aloadn rfl rfl
theorem w161_1 : RB d 161 1 [l0, l1, l2, l3, l4, l5] st (S, I, R, z) Q = RB d 161 2 [l0, l1, l2, l3, l4, l5] (.int 0 :: st) (S, I, R, z) Q := RB_iconst rfl ki0
set_option maxRecDepth 20000 in
theorem w161_2 : RB d 161 2 [l0, l1, l2, l3, l4, l5] [.int x0, .ref a] (S, I, R, z) Q = ((S a).1 = 7 ∧ RM d 218 [.ref a, .int x0] (S, I, R, z) (fun v τ => RB d 161 5 [l0, l1, l2, l3, l4, l5] (aPush v []) τ Q)) := RB_callV (n := 2) (t := 0) (k := 126) (ins := .invokevirtual 126) rfl rfl rfl (by decide) (Nat.le_of_ble_eq_true rfl) (Nat.le_of_ble_eq_true rfl) rfl rfl
theorem w161_5 : RB d 161 5 [l0, l1, l2, l3, l4, l5] (.int x :: st) (S, I, R, z) Q = RB d 161 7 [l0, l1, l2, l3, .int x, l5] st (S, I, R, z) Q := RB_istore rfl (Nat.le_of_ble_eq_true rfl) rfl
theorem w161_7 : RB d 161 7 [.ref a, l1, l2, l3, l4, l5] st (S, I, R, z) Q = RB d 161 8 [.ref a, l1, l2, l3, l4, l5] (.ref a :: st) (S, I, R, z) Q := RB_aloadn rfl rfl
theorem w161_8 : RB d 161 8 [l0, l1, l2, .int x, l4, l5] st (S, I, R, z) Q = RB d 161 9 [l0, l1, l2, .int x, l4, l5] (.int x :: st) (S, I, R, z) Q := RB_iloadn rfl rfl
theorem w161_9 : RB d 161 9 [l0, l1, .int x, l3, l4, l5] st (S, I, R, z) Q = RB d 161 10 [l0, l1, .int x, l3, l4, l5] (.int x :: st) (S, I, R, z) Q := RB_iloadn rfl rfl
set_option maxRecDepth 20000 in
theorem w161_10 : RB d 161 10 [l0, l1, l2, l3, l4, l5] [.int x1, .int x0, .ref a] (S, I, R, z) Q = ((S a).1 = 7 ∧ RM d 157 [.ref a, .int x0, .int x1] (S, I, R, z) (fun v τ => RB d 161 13 [l0, l1, l2, l3, l4, l5] (aPush v []) τ Q)) := RB_callV (n := 3) (t := 0) (k := 129) (ins := .invokevirtual 129) rfl rfl rfl (by decide) (Nat.le_of_ble_eq_true rfl) (Nat.le_of_ble_eq_true rfl) rfl rfl
theorem w161_13 : RB d 161 13 [l0, l1, l2, l3, l4, l5] (.int x :: st) (S, I, R, z) Q = RB d 161 15 [l0, l1, l2, l3, l4, .int x] st (S, I, R, z) Q := RB_istore rfl (Nat.le_of_ble_eq_true rfl) rfl
theorem w161_15 : RB d 161 15 [.ref a, l1, l2, l3, l4, l5] st (S, I, R, z) Q = RB d 161 16 [.ref a, l1, l2, l3, l4, l5] (.ref a :: st) (S, I, R, z) Q := RB_aloadn rfl rfl
theorem w161_16 : RB d 161 16 [l0, l1, l2, l3, l4, l5] (.ref a :: st) (S, I, R, z) Q = ((S a).1 = 7 ∧ RB d 161 19 [l0, l1, l2, l3, l4, l5] (va_rf (R a 22) :: st) (S, I, R, z) Q) := RB_getR rfl rfl
theorem w161_19 : RB d 161 19 [l0, l1, l2, l3, l4, l5] st (S, I, R, z) Q = RB d 161 20 [l0, l1, l2, l3, l4, l5] (.int 0 :: st) (S, I, R, z) Q := RB_iconst rfl ki0
theorem w161_20 : RB d 161 20 [l0, l1, l2, l3, l4, .int x] st (S, I, R, z) Q = RB d 161 22 [l0, l1, l2, l3, l4, .int x] (.int x :: st) (S, I, R, z) Q := RB_iload rfl rfl
set_option maxRecDepth 20000 in
theorem w161_22 : RB d 161 22 [l0, l1, l2, l3, l4, l5] [.int x0, s0, s1] (S, I, R, z) Q = RM d 143 [.int x0] (S, I, R, z) (fun v τ => RB d 161 25 [l0, l1, l2, l3, l4, l5] (aPush v [s0, s1]) τ Q) := RB_callS (n := 1) (t := 1) (k := 132) (ins := .invokestatic 132) rfl rfl rfl (Nat.le_of_ble_eq_true rfl) (Nat.le_of_ble_eq_true rfl) rfl rfl
theorem w161_25 : RB d 161 25 [l0, l1, l2, l3, l4, l5] (.int x :: .int i :: .ref a :: st) (S, I, R, z) Q = (((S a).1 = 9 ∧ aIx i (S a).2 ∧ 16 ≤ a) ∧ RB d 161 26 [l0, l1, l2, l3, l4, l5] st (S, aW I a i.toNatClampNeg x, R, z) Q) := RB_iast rfl
theorem w161_26 : RB d 161 26 [.ref a, l1, l2, l3, l4, l5] st (S, I, R, z) Q = RB d 161 27 [.ref a, l1, l2, l3, l4, l5] (.ref a :: st) (S, I, R, z) Q := RB_aloadn rfl rfl
theorem w161_27 : RB d 161 27 [l0, l1, l2, l3, l4, l5] (.ref a :: st) (S, I, R, z) Q = ((S a).1 = 7 ∧ RB d 161 30 [l0, l1, l2, l3, l4, l5] (va_rf (R a 22) :: st) (S, I, R, z) Q) := RB_getR rfl rfl
theorem w161_30 : RB d 161 30 [l0, l1, l2, l3, l4, l5] st (S, I, R, z) Q = RB d 161 31 [l0, l1, l2, l3, l4, l5] (.int 1 :: st) (S, I, R, z) Q := RB_iconst rfl ki1
theorem w161_31 : RB d 161 31 [.ref a, l1, l2, l3, l4, l5] st (S, I, R, z) Q = RB d 161 32 [.ref a, l1, l2, l3, l4, l5] (.ref a :: st) (S, I, R, z) Q := RB_aloadn rfl rfl
theorem w161_32 : RB d 161 32 [l0, l1, l2, l3, l4, .int x] st (S, I, R, z) Q = RB d 161 34 [l0, l1, l2, l3, l4, .int x] (.int x :: st) (S, I, R, z) Q := RB_iload rfl rfl
set_option maxRecDepth 20000 in
theorem w161_34 : RB d 161 34 [l0, l1, l2, l3, l4, l5] [.int x0, .ref a, s0, s1] (S, I, R, z) Q = ((S a).1 = 7 ∧ RM d 158 [.ref a, .int x0] (S, I, R, z) (fun v τ => RB d 161 37 [l0, l1, l2, l3, l4, l5] (aPush v [s0, s1]) τ Q)) := RB_callV (n := 2) (t := 0) (k := 123) (ins := .invokevirtual 123) rfl rfl rfl (by decide) (Nat.le_of_ble_eq_true rfl) (Nat.le_of_ble_eq_true rfl) rfl rfl
theorem w161_37 : RB d 161 37 [l0, l1, l2, l3, l4, l5] (.int x :: .int i :: .ref a :: st) (S, I, R, z) Q = (((S a).1 = 9 ∧ aIx i (S a).2 ∧ 16 ≤ a) ∧ RB d 161 38 [l0, l1, l2, l3, l4, l5] st (S, aW I a i.toNatClampNeg x, R, z) Q) := RB_iast rfl
theorem w161_38 : RB d 161 38 [.ref a, l1, l2, l3, l4, l5] st (S, I, R, z) Q = RB d 161 39 [.ref a, l1, l2, l3, l4, l5] (.ref a :: st) (S, I, R, z) Q := RB_aloadn rfl rfl
theorem w161_39 : RB d 161 39 [l0, l1, l2, l3, l4, l5] (.ref a :: st) (S, I, R, z) Q = ((S a).1 = 7 ∧ RB d 161 42 [l0, l1, l2, l3, l4, l5] (va_rf (R a 22) :: st) (S, I, R, z) Q) := RB_getR rfl rfl
theorem w161_42 : RB d 161 42 [l0, l1, l2, l3, l4, l5] st (S, I, R, z) Q = RB d 161 43 [l0, l1, l2, l3, l4, l5] (.int 2 :: st) (S, I, R, z) Q := RB_iconst rfl ki2
theorem w161_43 : RB d 161 43 [.ref a, l1, l2, l3, l4, l5] st (S, I, R, z) Q = RB d 161 44 [.ref a, l1, l2, l3, l4, l5] (.ref a :: st) (S, I, R, z) Q := RB_aloadn rfl rfl
theorem w161_44 : RB d 161 44 [l0, .int x, l2, l3, l4, l5] st (S, I, R, z) Q = RB d 161 45 [l0, .int x, l2, l3, l4, l5] (.int x :: st) (S, I, R, z) Q := RB_iloadn rfl rfl
set_option maxRecDepth 20000 in
theorem w161_45 : RB d 161 45 [l0, l1, l2, l3, l4, l5] [.int x0, .ref a, s0, s1] (S, I, R, z) Q = ((S a).1 = 7 ∧ RM d 156 [.ref a, .int x0] (S, I, R, z) (fun v τ => RB d 161 48 [l0, l1, l2, l3, l4, l5] (aPush v [s0, s1]) τ Q)) := RB_callV (n := 2) (t := 0) (k := 135) (ins := .invokevirtual 135) rfl rfl rfl (by decide) (Nat.le_of_ble_eq_true rfl) (Nat.le_of_ble_eq_true rfl) rfl rfl
theorem w161_48 : RB d 161 48 [l0, l1, .int x, l3, l4, l5] st (S, I, R, z) Q = RB d 161 49 [l0, l1, .int x, l3, l4, l5] (.int x :: st) (S, I, R, z) Q := RB_iloadn rfl rfl
theorem w161_49 : RB d 161 49 [l0, l1, l2, l3, l4, l5] (.int y :: .int x :: st) (S, I, R, z) Q = ((x = y → RB d 161 52 [l0, l1, l2, l3, l4, l5] st (S, I, R, z) Q) ∧ (¬ x = y → RB d 161 56 [l0, l1, l2, l3, l4, l5] st (S, I, R, z) Q)) := RB_ine rfl (by decide) rfl
theorem w161_52 : RB d 161 52 [l0, l1, l2, l3, l4, l5] st (S, I, R, z) Q = RB d 161 53 [l0, l1, l2, l3, l4, l5] (.int 1 :: st) (S, I, R, z) Q := RB_iconst rfl ki1
theorem w161_53 : RB d 161 53 [l0, l1, l2, l3, l4, l5] st (S, I, R, z) Q = RB d 161 57 [l0, l1, l2, l3, l4, l5] st (S, I, R, z) Q := RB_goto rfl (by decide) rfl
theorem w161_56 : RB d 161 56 [l0, l1, l2, l3, l4, l5] st (S, I, R, z) Q = RB d 161 57 [l0, l1, l2, l3, l4, l5] (.int 0 :: st) (S, I, R, z) Q := RB_iconst rfl ki0
theorem w161_57 : RB d 161 57 [l0, l1, l2, l3, l4, l5] (.int x :: .int i :: .ref a :: st) (S, I, R, z) Q = (((S a).1 = 9 ∧ aIx i (S a).2 ∧ 16 ≤ a) ∧ RB d 161 58 [l0, l1, l2, l3, l4, l5] st (S, aW I a i.toNatClampNeg x, R, z) Q) := RB_iast rfl
theorem w161_58 : RB d 161 58 [l0, l1, l2, l3, .int x, l5] st (S, I, R, z) Q = RB d 161 60 [l0, l1, l2, l3, .int x, l5] (.int x :: st) (S, I, R, z) Q := RB_iload rfl rfl
theorem w161_60 : RB d 161 60 [l0, l1, l2, l3, l4, l5] (.int x :: st) (S, I, R, z) Q = ((0 ≤ x → RB d 161 81 [l0, l1, l2, l3, l4, l5] st (S, I, R, z) Q) ∧ (¬ 0 ≤ x → RB d 161 63 [l0, l1, l2, l3, l4, l5] st (S, I, R, z) Q)) := RB_ge0 rfl (by decide) rfl
theorem w161_63 : RB d 161 63 [.ref a, l1, l2, l3, l4, l5] st (S, I, R, z) Q = RB d 161 64 [.ref a, l1, l2, l3, l4, l5] (.ref a :: st) (S, I, R, z) Q := RB_aloadn rfl rfl
theorem w161_64 : RB d 161 64 [l0, .int x, l2, l3, l4, l5] st (S, I, R, z) Q = RB d 161 65 [l0, .int x, l2, l3, l4, l5] (.int x :: st) (S, I, R, z) Q := RB_iloadn rfl rfl
set_option maxRecDepth 20000 in
theorem w161_65 : RB d 161 65 [l0, l1, l2, l3, l4, l5] [.int x0, .ref a] (S, I, R, z) Q = ((S a).1 = 7 ∧ RM d 156 [.ref a, .int x0] (S, I, R, z) (fun v τ => RB d 161 68 [l0, l1, l2, l3, l4, l5] (aPush v []) τ Q)) := RB_callV (n := 2) (t := 0) (k := 135) (ins := .invokevirtual 135) rfl rfl rfl (by decide) (Nat.le_of_ble_eq_true rfl) (Nat.le_of_ble_eq_true rfl) rfl rfl
theorem w161_68 : RB d 161 68 [l0, l1, .int x, l3, l4, l5] st (S, I, R, z) Q = RB d 161 69 [l0, l1, .int x, l3, l4, l5] (.int x :: st) (S, I, R, z) Q := RB_iloadn rfl rfl
theorem w161_69 : RB d 161 69 [l0, l1, l2, l3, l4, l5] (.int y :: .int x :: st) (S, I, R, z) Q = ((x = y → RB d 161 72 [l0, l1, l2, l3, l4, l5] st (S, I, R, z) Q) ∧ (¬ x = y → RB d 161 77 [l0, l1, l2, l3, l4, l5] st (S, I, R, z) Q)) := RB_ine rfl (by decide) rfl
theorem w161_72 : RB d 161 72 [l0, l1, l2, l3, l4, l5] st (S, I, R, z) Q = RB d 161 74 [l0, l1, l2, l3, l4, l5] (.int 100 :: st) (S, I, R, z) Q := RB_bipush rfl kb100
theorem w161_74 : RB d 161 74 [l0, l1, l2, l3, l4, l5] st (S, I, R, z) Q = RB d 161 94 [l0, l1, l2, l3, l4, l5] st (S, I, R, z) Q := RB_goto rfl (by decide) rfl
theorem w161_77 : RB d 161 77 [l0, l1, l2, l3, l4, l5] st (S, I, R, z) Q = RB d 161 78 [l0, l1, l2, l3, l4, l5] (.int 0 :: st) (S, I, R, z) Q := RB_iconst rfl ki0
theorem w161_78 : RB d 161 78 [l0, l1, l2, l3, l4, l5] st (S, I, R, z) Q = RB d 161 94 [l0, l1, l2, l3, l4, l5] st (S, I, R, z) Q := RB_goto rfl (by decide) rfl
theorem w161_81 : RB d 161 81 [.ref a, l1, l2, l3, l4, l5] st (S, I, R, z) Q = RB d 161 82 [.ref a, l1, l2, l3, l4, l5] (.ref a :: st) (S, I, R, z) Q := RB_aloadn rfl rfl
theorem w161_82 : RB d 161 82 [l0, l1, l2, l3, .int x, l5] st (S, I, R, z) Q = RB d 161 84 [l0, l1, l2, l3, .int x, l5] (.int x :: st) (S, I, R, z) Q := RB_iload rfl rfl
set_option maxRecDepth 20000 in
theorem w161_84 : RB d 161 84 [l0, l1, l2, l3, l4, l5] [.int x0, .ref a] (S, I, R, z) Q = ((S a).1 = 7 ∧ RM d 221 [.ref a, .int x0] (S, I, R, z) (fun v τ => RB d 161 87 [l0, l1, l2, l3, l4, l5] (aPush v []) τ Q)) := RB_callV (n := 2) (t := 0) (k := 138) (ins := .invokevirtual 138) rfl rfl rfl (by decide) (Nat.le_of_ble_eq_true rfl) (Nat.le_of_ble_eq_true rfl) rfl rfl
theorem w161_87 : RB d 161 87 [l0, l1, l2, l3, l4, l5] st (S, I, R, z) Q = RB d 161 88 [l0, l1, l2, l3, l4, l5] (.int 0 :: st) (S, I, R, z) Q := RB_iconst rfl ki0
theorem w161_88 : RB d 161 88 [l0, l1, l2, l3, l4, l5] st (S, I, R, z) Q = RB d 161 91 [l0, l1, l2, l3, l4, l5] (.int 9999 :: st) (S, I, R, z) Q := RB_sipush rfl ks9999
set_option maxRecDepth 20000 in
theorem w161_91 : RB d 161 91 [l0, l1, l2, l3, l4, l5] [.int x2, .int x1, .int x0] (S, I, R, z) Q = RM d 136 [.int x0, .int x1, .int x2] (S, I, R, z) (fun v τ => RB d 161 94 [l0, l1, l2, l3, l4, l5] (aPush v []) τ Q) := RB_callS (n := 3) (t := 1) (k := 141) (ins := .invokestatic 141) rfl rfl rfl (Nat.le_of_ble_eq_true rfl) (Nat.le_of_ble_eq_true rfl) rfl rfl
theorem w161_94 : RB d 161 94 [l0, l1, l2, l3, l4, l5] [.int x] (S, I, R, z) Q = Q (some (.int x)) (S, I, R, z) := RB_iret rfl rfl rfl
/-! 162: HangedWordModel.scoreOf -/
theorem w162_0 : RB d 162 0 [l0, l1, l2, l3, l4, l5] st (S, I, R, z) Q = RB d 162 1 [l0, l1, l2, l3, l4, l5] (.int 1 :: st) (S, I, R, z) Q := RB_iconst rfl ki1
theorem w162_1 : RB d 162 1 [.ref a, l1, l2, l3, l4, l5] st (S, I, R, z) Q = RB d 162 2 [.ref a, l1, l2, l3, l4, l5] (.ref a :: st) (S, I, R, z) Q := RB_aloadn rfl rfl
theorem w162_2 : RB d 162 2 [l0, l1, l2, l3, l4, l5] (.ref a :: st) (S, I, R, z) Q = ((S a).1 = 7 ∧ RB d 162 5 [l0, l1, l2, l3, l4, l5] (va_rf (R a 0) :: st) (S, I, R, z) Q) := RB_getR rfl rfl
theorem w162_5 : RB d 162 5 [l0, l1, l2, l3, l4, l5] st (S, I, R, z) Q = RB d 162 6 [l0, l1, l2, l3, l4, l5] (.int 1 :: st) (S, I, R, z) Q := RB_iconst rfl ki1
theorem w162_6 : RB d 162 6 [l0, l1, l2, l3, l4, l5] (.int i :: .ref a :: st) (S, I, R, z) Q = (((S a).1 = 9 ∧ aIx i (S a).2) ∧ RB d 162 7 [l0, l1, l2, l3, l4, l5] (.int (I a i.toNatClampNeg) :: st) (S, I, R, z) Q) := RB_iald rfl
theorem w162_7 : RB d 162 7 [l0, l1, l2, l3, l4, l5] (.int y :: .int x :: st) (S, I, R, z) Q = RB d 162 8 [l0, l1, l2, l3, l4, l5] (.int (x <<< (y &&& 31)) :: st) (S, I, R, z) Q := RB_ishl rfl
theorem w162_8 : RB d 162 8 [l0, l1, l2, l3, l4, l5] st (S, I, R, z) Q = RB d 162 9 [l0, l1, l2, l3, l4, l5] (.int 1 :: st) (S, I, R, z) Q := RB_iconst rfl ki1
theorem w162_9 : RB d 162 9 [l0, l1, l2, l3, l4, l5] (.int y :: .int x :: st) (S, I, R, z) Q = RB d 162 10 [l0, l1, l2, l3, l4, l5] (.int (x - y) :: st) (S, I, R, z) Q := RB_isub rfl
theorem w162_10 : RB d 162 10 [l0, l1, l2, l3, l4, l5] (.int x :: st) (S, I, R, z) Q = RB d 162 12 [l0, l1, l2, l3, .int x, l5] st (S, I, R, z) Q := RB_istore rfl (Nat.le_of_ble_eq_true rfl) rfl
theorem w162_12 : RB d 162 12 [.ref a, l1, l2, l3, l4, l5] st (S, I, R, z) Q = RB d 162 13 [.ref a, l1, l2, l3, l4, l5] (.ref a :: st) (S, I, R, z) Q := RB_aloadn rfl rfl
theorem w162_13 : RB d 162 13 [.ref a, l1, l2, l3, l4, l5] st (S, I, R, z) Q = RB d 162 14 [.ref a, l1, l2, l3, l4, l5] (.ref a :: st) (S, I, R, z) Q := RB_aloadn rfl rfl
theorem w162_14 : RB d 162 14 [l0, l1, l2, l3, .int x, l5] st (S, I, R, z) Q = RB d 162 16 [l0, l1, l2, l3, .int x, l5] (.int x :: st) (S, I, R, z) Q := RB_iload rfl rfl
theorem w162_16 : RB d 162 16 [l0, l1, .int x, l3, l4, l5] st (S, I, R, z) Q = RB d 162 17 [l0, l1, .int x, l3, l4, l5] (.int x :: st) (S, I, R, z) Q := RB_iloadn rfl rfl
set_option maxRecDepth 20000 in
theorem w162_17 : RB d 162 17 [l0, l1, l2, l3, l4, l5] [.int x1, .int x0, .ref a, s0] (S, I, R, z) Q = ((S a).1 = 7 ∧ RM d 157 [.ref a, .int x0, .int x1] (S, I, R, z) (fun v τ => RB d 162 20 [l0, l1, l2, l3, l4, l5] (aPush v [s0]) τ Q)) := RB_callV (n := 3) (t := 0) (k := 129) (ins := .invokevirtual 129) rfl rfl rfl (by decide) (Nat.le_of_ble_eq_true rfl) (Nat.le_of_ble_eq_true rfl) rfl rfl
set_option maxRecDepth 20000 in
theorem w162_20 : RB d 162 20 [l0, l1, l2, l3, l4, l5] [.int x0, .ref a] (S, I, R, z) Q = ((S a).1 = 7 ∧ RM d 158 [.ref a, .int x0] (S, I, R, z) (fun v τ => RB d 162 23 [l0, l1, l2, l3, l4, l5] (aPush v []) τ Q)) := RB_callV (n := 2) (t := 0) (k := 123) (ins := .invokevirtual 123) rfl rfl rfl (by decide) (Nat.le_of_ble_eq_true rfl) (Nat.le_of_ble_eq_true rfl) rfl rfl
theorem w162_23 : RB d 162 23 [.ref a, l1, l2, l3, l4, l5] st (S, I, R, z) Q = RB d 162 24 [.ref a, l1, l2, l3, l4, l5] (.ref a :: st) (S, I, R, z) Q := RB_aloadn rfl rfl
theorem w162_24 : RB d 162 24 [l0, .int x, l2, l3, l4, l5] st (S, I, R, z) Q = RB d 162 25 [l0, .int x, l2, l3, l4, l5] (.int x :: st) (S, I, R, z) Q := RB_iloadn rfl rfl
set_option maxRecDepth 20000 in
theorem w162_25 : RB d 162 25 [l0, l1, l2, l3, l4, l5] [.int x0, .ref a, s0] (S, I, R, z) Q = ((S a).1 = 7 ∧ RM d 156 [.ref a, .int x0] (S, I, R, z) (fun v τ => RB d 162 28 [l0, l1, l2, l3, l4, l5] (aPush v [s0]) τ Q)) := RB_callV (n := 2) (t := 0) (k := 135) (ins := .invokevirtual 135) rfl rfl rfl (by decide) (Nat.le_of_ble_eq_true rfl) (Nat.le_of_ble_eq_true rfl) rfl rfl
theorem w162_28 : RB d 162 28 [l0, l1, .int x, l3, l4, l5] st (S, I, R, z) Q = RB d 162 29 [l0, l1, .int x, l3, l4, l5] (.int x :: st) (S, I, R, z) Q := RB_iloadn rfl rfl
theorem w162_29 : RB d 162 29 [l0, l1, l2, l3, l4, l5] (.int y :: .int x :: st) (S, I, R, z) Q = ((x = y → RB d 162 32 [l0, l1, l2, l3, l4, l5] st (S, I, R, z) Q) ∧ (¬ x = y → RB d 162 36 [l0, l1, l2, l3, l4, l5] st (S, I, R, z) Q)) := RB_ine rfl (by decide) rfl
theorem w162_32 : RB d 162 32 [l0, l1, l2, l3, l4, l5] st (S, I, R, z) Q = RB d 162 33 [l0, l1, l2, l3, l4, l5] (.int 1 :: st) (S, I, R, z) Q := RB_iconst rfl ki1
theorem w162_33 : RB d 162 33 [l0, l1, l2, l3, l4, l5] st (S, I, R, z) Q = RB d 162 37 [l0, l1, l2, l3, l4, l5] st (S, I, R, z) Q := RB_goto rfl (by decide) rfl
theorem w162_36 : RB d 162 36 [l0, l1, l2, l3, l4, l5] st (S, I, R, z) Q = RB d 162 37 [l0, l1, l2, l3, l4, l5] (.int 0 :: st) (S, I, R, z) Q := RB_iconst rfl ki0
theorem w162_37 : RB d 162 37 [l0, l1, l2, l3, l4, l5] (.int y :: .int x :: st) (S, I, R, z) Q = RB d 162 38 [l0, l1, l2, l3, l4, l5] (.int (x + y) :: st) (S, I, R, z) Q := RB_iadd rfl
theorem w162_38 : RB d 162 38 [l0, l1, l2, l3, l4, l5] (.int x :: st) (S, I, R, z) Q = RB d 162 40 [l0, l1, l2, l3, l4, .int x] st (S, I, R, z) Q := RB_istore rfl (Nat.le_of_ble_eq_true rfl) rfl
theorem w162_40 : RB d 162 40 [.ref a, l1, l2, l3, l4, l5] st (S, I, R, z) Q = RB d 162 41 [.ref a, l1, l2, l3, l4, l5] (.ref a :: st) (S, I, R, z) Q := RB_aloadn rfl rfl
theorem w162_41 : RB d 162 41 [l0, .int x, l2, l3, l4, l5] st (S, I, R, z) Q = RB d 162 42 [l0, .int x, l2, l3, l4, l5] (.int x :: st) (S, I, R, z) Q := RB_iloadn rfl rfl
set_option maxRecDepth 20000 in
theorem w162_42 : RB d 162 42 [l0, l1, l2, l3, l4, l5] [.int x0, .ref a] (S, I, R, z) Q = ((S a).1 = 7 ∧ RM d 155 [.ref a, .int x0] (S, I, R, z) (fun v τ => RB d 162 45 [l0, l1, l2, l3, l4, l5] (aPush v []) τ Q)) := RB_callV (n := 2) (t := 0) (k := 144) (ins := .invokevirtual 144) rfl rfl rfl (by decide) (Nat.le_of_ble_eq_true rfl) (Nat.le_of_ble_eq_true rfl) rfl rfl
theorem w162_45 : RB d 162 45 [l0, l1, l2, l3, l4, l5] (.int x :: st) (S, I, R, z) Q = aTsR d 162 45 x 144 [l0, l1, l2, l3, l4, l5] st (S, I, R, z) Q [(1, 80), (2, 83), (3, 94), (4, 111), (5, 132)] := RB_ts rfl (by decide) (by decide) (by decide) (by decide +kernel) rfl
theorem w162_80 : RB d 162 80 [l0, l1, l2, l3, l4, .int x] st (S, I, R, z) Q = RB d 162 82 [l0, l1, l2, l3, l4, .int x] (.int x :: st) (S, I, R, z) Q := RB_iload rfl rfl
theorem w162_82 : RB d 162 82 [l0, l1, l2, l3, l4, l5] [.int x] (S, I, R, z) Q = Q (some (.int x)) (S, I, R, z) := RB_iret rfl rfl rfl
theorem w162_83 : RB d 162 83 [.ref a, l1, l2, l3, l4, l5] st (S, I, R, z) Q = RB d 162 84 [.ref a, l1, l2, l3, l4, l5] (.ref a :: st) (S, I, R, z) Q := RB_aloadn rfl rfl
theorem w162_84 : RB d 162 84 [.ref a, l1, l2, l3, l4, l5] st (S, I, R, z) Q = RB d 162 85 [.ref a, l1, l2, l3, l4, l5] (.ref a :: st) (S, I, R, z) Q := RB_aloadn rfl rfl
theorem w162_85 : RB d 162 85 [l0, l1, l2, .int x, l4, l5] st (S, I, R, z) Q = RB d 162 86 [l0, l1, l2, .int x, l4, l5] (.int x :: st) (S, I, R, z) Q := RB_iloadn rfl rfl
theorem w162_86 : RB d 162 86 [l0, l1, .int x, l3, l4, l5] st (S, I, R, z) Q = RB d 162 87 [l0, l1, .int x, l3, l4, l5] (.int x :: st) (S, I, R, z) Q := RB_iloadn rfl rfl
set_option maxRecDepth 20000 in
theorem w162_87 : RB d 162 87 [l0, l1, l2, l3, l4, l5] [.int x1, .int x0, .ref a, s0] (S, I, R, z) Q = ((S a).1 = 7 ∧ RM d 157 [.ref a, .int x0, .int x1] (S, I, R, z) (fun v τ => RB d 162 90 [l0, l1, l2, l3, l4, l5] (aPush v [s0]) τ Q)) := RB_callV (n := 3) (t := 0) (k := 129) (ins := .invokevirtual 129) rfl rfl rfl (by decide) (Nat.le_of_ble_eq_true rfl) (Nat.le_of_ble_eq_true rfl) rfl rfl
set_option maxRecDepth 20000 in
theorem w162_90 : RB d 162 90 [l0, l1, l2, l3, l4, l5] [.int x0, .ref a] (S, I, R, z) Q = ((S a).1 = 7 ∧ RM d 158 [.ref a, .int x0] (S, I, R, z) (fun v τ => RB d 162 93 [l0, l1, l2, l3, l4, l5] (aPush v []) τ Q)) := RB_callV (n := 2) (t := 0) (k := 123) (ins := .invokevirtual 123) rfl rfl rfl (by decide) (Nat.le_of_ble_eq_true rfl) (Nat.le_of_ble_eq_true rfl) rfl rfl
theorem w162_93 : RB d 162 93 [l0, l1, l2, l3, l4, l5] [.int x] (S, I, R, z) Q = Q (some (.int x)) (S, I, R, z) := RB_iret rfl rfl rfl
theorem w162_94 : RB d 162 94 [l0, l1, l2, l3, l4, .int x] st (S, I, R, z) Q = RB d 162 96 [l0, l1, l2, l3, l4, .int x] (.int x :: st) (S, I, R, z) Q := RB_iload rfl rfl
theorem w162_96 : RB d 162 96 [l0, l1, l2, l3, l4, l5] st (S, I, R, z) Q = RB d 162 99 [l0, l1, l2, l3, l4, l5] (.int 1000 :: st) (S, I, R, z) Q := RB_sipush rfl ks1000
theorem w162_99 : RB d 162 99 [.ref a, l1, l2, l3, l4, l5] st (S, I, R, z) Q = RB d 162 100 [.ref a, l1, l2, l3, l4, l5] (.ref a :: st) (S, I, R, z) Q := RB_aloadn rfl rfl
theorem w162_100 : RB d 162 100 [l0, l1, l2, .int x, l4, l5] st (S, I, R, z) Q = RB d 162 101 [l0, l1, l2, .int x, l4, l5] (.int x :: st) (S, I, R, z) Q := RB_iloadn rfl rfl
theorem w162_101 : RB d 162 101 [l0, l1, .int x, l3, l4, l5] st (S, I, R, z) Q = RB d 162 102 [l0, l1, .int x, l3, l4, l5] (.int x :: st) (S, I, R, z) Q := RB_iloadn rfl rfl
set_option maxRecDepth 20000 in
theorem w162_102 : RB d 162 102 [l0, l1, l2, l3, l4, l5] [.int x1, .int x0, .ref a, s0, s1] (S, I, R, z) Q = ((S a).1 = 7 ∧ RM d 157 [.ref a, .int x0, .int x1] (S, I, R, z) (fun v τ => RB d 162 105 [l0, l1, l2, l3, l4, l5] (aPush v [s0, s1]) τ Q)) := RB_callV (n := 3) (t := 0) (k := 129) (ins := .invokevirtual 129) rfl rfl rfl (by decide) (Nat.le_of_ble_eq_true rfl) (Nat.le_of_ble_eq_true rfl) rfl rfl
set_option maxRecDepth 20000 in
theorem w162_105 : RB d 162 105 [l0, l1, l2, l3, l4, l5] [.int x0, s0, s1] (S, I, R, z) Q = RM d 143 [.int x0] (S, I, R, z) (fun v τ => RB d 162 108 [l0, l1, l2, l3, l4, l5] (aPush v [s0, s1]) τ Q) := RB_callS (n := 1) (t := 1) (k := 132) (ins := .invokestatic 132) rfl rfl rfl (Nat.le_of_ble_eq_true rfl) (Nat.le_of_ble_eq_true rfl) rfl rfl
theorem w162_108 : RB d 162 108 [l0, l1, l2, l3, l4, l5] (.int y :: .int x :: st) (S, I, R, z) Q = RB d 162 109 [l0, l1, l2, l3, l4, l5] (.int (x * y) :: st) (S, I, R, z) Q := RB_imul rfl
theorem w162_109 : RB d 162 109 [l0, l1, l2, l3, l4, l5] (.int y :: .int x :: st) (S, I, R, z) Q = RB d 162 110 [l0, l1, l2, l3, l4, l5] (.int (x + y) :: st) (S, I, R, z) Q := RB_iadd rfl
theorem w162_110 : RB d 162 110 [l0, l1, l2, l3, l4, l5] [.int x] (S, I, R, z) Q = Q (some (.int x)) (S, I, R, z) := RB_iret rfl rfl rfl
theorem w162_111 : RB d 162 111 [l0, l1, l2, l3, l4, l5] st (S, I, R, z) Q = RB d 162 114 [l0, l1, l2, l3, l4, l5] (.int 5000 :: st) (S, I, R, z) Q := RB_sipush rfl ks5000
theorem w162_114 : RB d 162 114 [.ref a, l1, l2, l3, l4, l5] st (S, I, R, z) Q = RB d 162 115 [.ref a, l1, l2, l3, l4, l5] (.ref a :: st) (S, I, R, z) Q := RB_aloadn rfl rfl
theorem w162_115 : RB d 162 115 [.ref a, l1, l2, l3, l4, l5] st (S, I, R, z) Q = RB d 162 116 [.ref a, l1, l2, l3, l4, l5] (.ref a :: st) (S, I, R, z) Q := RB_aloadn rfl rfl
theorem w162_116 : RB d 162 116 [l0, l1, l2, .int x, l4, l5] st (S, I, R, z) Q = RB d 162 117 [l0, l1, l2, .int x, l4, l5] (.int x :: st) (S, I, R, z) Q := RB_iloadn rfl rfl
theorem w162_117 : RB d 162 117 [l0, l1, .int x, l3, l4, l5] st (S, I, R, z) Q = RB d 162 118 [l0, l1, .int x, l3, l4, l5] (.int x :: st) (S, I, R, z) Q := RB_iloadn rfl rfl
theorem w162_118 : RB d 162 118 [.ref a, l1, l2, l3, l4, l5] st (S, I, R, z) Q = RB d 162 119 [.ref a, l1, l2, l3, l4, l5] (.ref a :: st) (S, I, R, z) Q := RB_aloadn rfl rfl
theorem w162_119 : RB d 162 119 [l0, l1, l2, .int x, l4, l5] st (S, I, R, z) Q = RB d 162 120 [l0, l1, l2, .int x, l4, l5] (.int x :: st) (S, I, R, z) Q := RB_iloadn rfl rfl
theorem w162_120 : RB d 162 120 [l0, l1, .int x, l3, l4, l5] st (S, I, R, z) Q = RB d 162 121 [l0, l1, .int x, l3, l4, l5] (.int x :: st) (S, I, R, z) Q := RB_iloadn rfl rfl
set_option maxRecDepth 20000 in
theorem w162_121 : RB d 162 121 [l0, l1, l2, l3, l4, l5] [.int x1, .int x0, .ref a, s0, s1, s2, s3, s4] (S, I, R, z) Q = ((S a).1 = 7 ∧ RM d 160 [.ref a, .int x0, .int x1] (S, I, R, z) (fun v τ => RB d 162 124 [l0, l1, l2, l3, l4, l5] (aPush v [s0, s1, s2, s3, s4]) τ Q)) := RB_callV (n := 3) (t := 0) (k := 147) (ins := .invokevirtual 147) rfl rfl rfl (by decide) (Nat.le_of_ble_eq_true rfl) (Nat.le_of_ble_eq_true rfl) rfl rfl
set_option maxRecDepth 20000 in
theorem w162_124 : RB d 162 124 [l0, l1, l2, l3, l4, l5] [.int x2, .int x1, .int x0, .ref a, s0, s1] (S, I, R, z) Q = ((S a).1 = 7 ∧ RM d 159 [.ref a, .int x0, .int x1, .int x2] (S, I, R, z) (fun v τ => RB d 162 127 [l0, l1, l2, l3, l4, l5] (aPush v [s0, s1]) τ Q)) := RB_callV (n := 4) (t := 0) (k := 119) (ins := .invokevirtual 119) rfl rfl rfl (by decide) (Nat.le_of_ble_eq_true rfl) (Nat.le_of_ble_eq_true rfl) rfl rfl
set_option maxRecDepth 20000 in
theorem w162_127 : RB d 162 127 [l0, l1, l2, l3, l4, l5] [.int x0, .ref a, s0] (S, I, R, z) Q = ((S a).1 = 7 ∧ RM d 158 [.ref a, .int x0] (S, I, R, z) (fun v τ => RB d 162 130 [l0, l1, l2, l3, l4, l5] (aPush v [s0]) τ Q)) := RB_callV (n := 2) (t := 0) (k := 123) (ins := .invokevirtual 123) rfl rfl rfl (by decide) (Nat.le_of_ble_eq_true rfl) (Nat.le_of_ble_eq_true rfl) rfl rfl
theorem w162_130 : RB d 162 130 [l0, l1, l2, l3, l4, l5] (.int y :: .int x :: st) (S, I, R, z) Q = RB d 162 131 [l0, l1, l2, l3, l4, l5] (.int (x - y) :: st) (S, I, R, z) Q := RB_isub rfl
theorem w162_131 : RB d 162 131 [l0, l1, l2, l3, l4, l5] [.int x] (S, I, R, z) Q = Q (some (.int x)) (S, I, R, z) := RB_iret rfl rfl rfl
theorem w162_132 : RB d 162 132 [l0, l1, l2, l3, l4, l5] st (S, I, R, z) Q = RB d 162 135 [l0, l1, l2, l3, l4, l5] (.int 9999 :: st) (S, I, R, z) Q := RB_sipush rfl ks9999
theorem w162_135 : RB d 162 135 [.ref a, l1, l2, l3, l4, l5] st (S, I, R, z) Q = RB d 162 136 [.ref a, l1, l2, l3, l4, l5] (.ref a :: st) (S, I, R, z) Q := RB_aloadn rfl rfl
theorem w162_136 : RB d 162 136 [l0, .int x, l2, l3, l4, l5] st (S, I, R, z) Q = RB d 162 137 [l0, .int x, l2, l3, l4, l5] (.int x :: st) (S, I, R, z) Q := RB_iloadn rfl rfl
theorem w162_137 : RB d 162 137 [l0, l1, .int x, l3, l4, l5] st (S, I, R, z) Q = RB d 162 138 [l0, l1, .int x, l3, l4, l5] (.int x :: st) (S, I, R, z) Q := RB_iloadn rfl rfl
theorem w162_138 : RB d 162 138 [l0, l1, l2, .int x, l4, l5] st (S, I, R, z) Q = RB d 162 139 [l0, l1, l2, .int x, l4, l5] (.int x :: st) (S, I, R, z) Q := RB_iloadn rfl rfl
set_option maxRecDepth 20000 in
theorem w162_139 : RB d 162 139 [l0, l1, l2, l3, l4, l5] [.int x2, .int x1, .int x0, .ref a, s0] (S, I, R, z) Q = ((S a).1 = 7 ∧ RM d 161 [.ref a, .int x0, .int x1, .int x2] (S, I, R, z) (fun v τ => RB d 162 142 [l0, l1, l2, l3, l4, l5] (aPush v [s0]) τ Q)) := RB_callV (n := 4) (t := 0) (k := 150) (ins := .invokevirtual 150) rfl rfl rfl (by decide) (Nat.le_of_ble_eq_true rfl) (Nat.le_of_ble_eq_true rfl) rfl rfl
theorem w162_142 : RB d 162 142 [l0, l1, l2, l3, l4, l5] (.int y :: .int x :: st) (S, I, R, z) Q = RB d 162 143 [l0, l1, l2, l3, l4, l5] (.int (x - y) :: st) (S, I, R, z) Q := RB_isub rfl
theorem w162_143 : RB d 162 143 [l0, l1, l2, l3, l4, l5] [.int x] (S, I, R, z) Q = Q (some (.int x)) (S, I, R, z) := RB_iret rfl rfl rfl
theorem w162_144 : RB d 162 144 [.ref a, l1, l2, l3, l4, l5] st (S, I, R, z) Q = RB d 162 145 [.ref a, l1, l2, l3, l4, l5] (.ref a :: st) (S, I, R, z) Q := RB_aloadn rfl rfl
theorem w162_145 : RB d 162 145 [l0, .int x, l2, l3, l4, l5] st (S, I, R, z) Q = RB d 162 146 [l0, .int x, l2, l3, l4, l5] (.int x :: st) (S, I, R, z) Q := RB_iloadn rfl rfl
theorem w162_146 : RB d 162 146 [l0, l1, .int x, l3, l4, l5] st (S, I, R, z) Q = RB d 162 147 [l0, l1, .int x, l3, l4, l5] (.int x :: st) (S, I, R, z) Q := RB_iloadn rfl rfl
theorem w162_147 : RB d 162 147 [l0, l1, l2, .int x, l4, l5] st (S, I, R, z) Q = RB d 162 148 [l0, l1, l2, .int x, l4, l5] (.int x :: st) (S, I, R, z) Q := RB_iloadn rfl rfl
set_option maxRecDepth 20000 in
theorem w162_148 : RB d 162 148 [l0, l1, l2, l3, l4, l5] [.int x2, .int x1, .int x0, .ref a] (S, I, R, z) Q = ((S a).1 = 7 ∧ RM d 161 [.ref a, .int x0, .int x1, .int x2] (S, I, R, z) (fun v τ => RB d 162 151 [l0, l1, l2, l3, l4, l5] (aPush v []) τ Q)) := RB_callV (n := 4) (t := 0) (k := 150) (ins := .invokevirtual 150) rfl rfl rfl (by decide) (Nat.le_of_ble_eq_true rfl) (Nat.le_of_ble_eq_true rfl) rfl rfl
theorem w162_151 : RB d 162 151 [l0, l1, l2, l3, l4, l5] [.int x] (S, I, R, z) Q = Q (some (.int x)) (S, I, R, z) := RB_iret rfl rfl rfl
/-! 163: HangedWordModel.nextOf -/
theorem w163_0 : RB d 163 0 [l0, l1, l2, l3, l4, l5, l6, l7] st (S, I, R, z) Q = RB d 163 1 [l0, l1, l2, l3, l4, l5, l6, l7] (.int (-1) :: st) (S, I, R, z) Q := RB_iconst rfl kim1
theorem w163_1 : RB d 163 1 [l0, l1, l2, l3, l4, l5, l6, l7] (.int x :: st) (S, I, R, z) Q = RB d 163 3 [l0, l1, l2, l3, .int x, l5, l6, l7] st (S, I, R, z) Q := RB_istore rfl (Nat.le_of_ble_eq_true rfl) rfl
theorem w163_3 : RB d 163 3 [l0, l1, l2, l3, l4, l5, l6, l7] st (S, I, R, z) Q = RB d 163 4 [l0, l1, l2, l3, l4, l5, l6, l7] (.int 0 :: st) (S, I, R, z) Q := RB_iconst rfl ki0
theorem w163_4 : RB d 163 4 [l0, l1, l2, l3, l4, l5, l6, l7] (.int x :: st) (S, I, R, z) Q = RB d 163 6 [l0, l1, l2, l3, l4, .int x, l6, l7] st (S, I, R, z) Q := RB_istore rfl (Nat.le_of_ble_eq_true rfl) rfl
theorem w163_6 : RB d 163 6 [l0, l1, l2, l3, l4, l5, l6, l7] st (S, I, R, z) Q = RB d 163 7 [l0, l1, l2, l3, l4, l5, l6, l7] (.int 0 :: st) (S, I, R, z) Q := RB_iconst rfl ki0
theorem w163_7 : RB d 163 7 [l0, l1, l2, l3, l4, l5, l6, l7] (.int x :: st) (S, I, R, z) Q = RB d 163 9 [l0, l1, l2, l3, l4, l5, .int x, l7] st (S, I, R, z) Q := RB_istore rfl (Nat.le_of_ble_eq_true rfl) rfl
theorem w163_9 : RB d 163 9 [l0, l1, l2, l3, l4, l5, .int x, l7] st (S, I, R, z) Q = RB d 163 11 [l0, l1, l2, l3, l4, l5, .int x, l7] (.int x :: st) (S, I, R, z) Q := RB_iload rfl rfl
theorem w163_11 : RB d 163 11 [l0, l1, l2, l3, l4, l5, l6, l7] st (S, I, R, z) Q = RB d 163 13 [l0, l1, l2, l3, l4, l5, l6, l7] (.int 6 :: st) (S, I, R, z) Q := RB_bipush rfl kb6
theorem w163_13 : RB d 163 13 [l0, l1, l2, l3, l4, l5, l6, l7] (.int y :: .int x :: st) (S, I, R, z) Q = ((y ≤ x → RB d 163 65 [l0, l1, l2, l3, l4, l5, l6, l7] st (S, I, R, z) Q) ∧ (¬ y ≤ x → RB d 163 16 [l0, l1, l2, l3, l4, l5, l6, l7] st (S, I, R, z) Q)) := RB_ige rfl (by decide) rfl
theorem w163_16 : RB d 163 16 [l0, l1, .int x, l3, l4, l5, l6, l7] st (S, I, R, z) Q = RB d 163 17 [l0, l1, .int x, l3, l4, l5, l6, l7] (.int x :: st) (S, I, R, z) Q := RB_iloadn rfl rfl
theorem w163_17 : RB d 163 17 [l0, l1, l2, l3, l4, l5, .int x, l7] st (S, I, R, z) Q = RB d 163 19 [l0, l1, l2, l3, l4, l5, .int x, l7] (.int x :: st) (S, I, R, z) Q := RB_iload rfl rfl
theorem w163_19 : RB d 163 19 [l0, l1, l2, l3, l4, l5, l6, l7] (.int y :: .int x :: st) (S, I, R, z) Q = RB d 163 20 [l0, l1, l2, l3, l4, l5, l6, l7] (.int (x >>> (y &&& 31)) :: st) (S, I, R, z) Q := RB_ishr rfl
theorem w163_20 : RB d 163 20 [l0, l1, l2, l3, l4, l5, l6, l7] st (S, I, R, z) Q = RB d 163 21 [l0, l1, l2, l3, l4, l5, l6, l7] (.int 1 :: st) (S, I, R, z) Q := RB_iconst rfl ki1
theorem w163_21 : RB d 163 21 [l0, l1, l2, l3, l4, l5, l6, l7] (.int y :: .int x :: st) (S, I, R, z) Q = RB d 163 22 [l0, l1, l2, l3, l4, l5, l6, l7] (.int (x &&& y) :: st) (S, I, R, z) Q := RB_iand rfl
theorem w163_22 : RB d 163 22 [l0, l1, l2, l3, l4, l5, l6, l7] st (S, I, R, z) Q = RB d 163 23 [l0, l1, l2, l3, l4, l5, l6, l7] (.int 1 :: st) (S, I, R, z) Q := RB_iconst rfl ki1
theorem w163_23 : RB d 163 23 [l0, l1, l2, l3, l4, l5, l6, l7] (.int y :: .int x :: st) (S, I, R, z) Q = ((x = y → RB d 163 26 [l0, l1, l2, l3, l4, l5, l6, l7] st (S, I, R, z) Q) ∧ (¬ x = y → RB d 163 29 [l0, l1, l2, l3, l4, l5, l6, l7] st (S, I, R, z) Q)) := RB_ine rfl (by decide) rfl
theorem w163_26 : RB d 163 26 [l0, l1, l2, l3, l4, l5, l6, l7] st (S, I, R, z) Q = RB d 163 59 [l0, l1, l2, l3, l4, l5, l6, l7] st (S, I, R, z) Q := RB_goto rfl (by decide) rfl
theorem w163_29 : RB d 163 29 [.ref a, l1, l2, l3, l4, l5, l6, l7] st (S, I, R, z) Q = RB d 163 30 [.ref a, l1, l2, l3, l4, l5, l6, l7] (.ref a :: st) (S, I, R, z) Q := RB_aloadn rfl rfl
theorem w163_30 : RB d 163 30 [l0, .int x, l2, l3, l4, l5, l6, l7] st (S, I, R, z) Q = RB d 163 31 [l0, .int x, l2, l3, l4, l5, l6, l7] (.int x :: st) (S, I, R, z) Q := RB_iloadn rfl rfl
theorem w163_31 : RB d 163 31 [l0, l1, l2, l3, l4, l5, .int x, l7] st (S, I, R, z) Q = RB d 163 33 [l0, l1, l2, l3, l4, l5, .int x, l7] (.int x :: st) (S, I, R, z) Q := RB_iload rfl rfl
theorem w163_33 : RB d 163 33 [l0, l1, l2, .int x, l4, l5, l6, l7] st (S, I, R, z) Q = RB d 163 34 [l0, l1, l2, .int x, l4, l5, l6, l7] (.int x :: st) (S, I, R, z) Q := RB_iloadn rfl rfl
set_option maxRecDepth 20000 in
theorem w163_34 : RB d 163 34 [l0, l1, l2, l3, l4, l5, l6, l7] [.int x2, .int x1, .int x0, .ref a] (S, I, R, z) Q = ((S a).1 = 7 ∧ RM d 162 [.ref a, .int x0, .int x1, .int x2] (S, I, R, z) (fun v τ => RB d 163 37 [l0, l1, l2, l3, l4, l5, l6, l7] (aPush v []) τ Q)) := RB_callV (n := 4) (t := 0) (k := 153) (ins := .invokevirtual 153) rfl rfl rfl (by decide) (Nat.le_of_ble_eq_true rfl) (Nat.le_of_ble_eq_true rfl) rfl rfl
theorem w163_37 : RB d 163 37 [l0, l1, l2, l3, l4, l5, l6, l7] (.int x :: st) (S, I, R, z) Q = RB d 163 39 [l0, l1, l2, l3, l4, l5, l6, .int x] st (S, I, R, z) Q := RB_istore rfl (Nat.le_of_ble_eq_true rfl) rfl
theorem w163_39 : RB d 163 39 [l0, l1, l2, l3, .int x, l5, l6, l7] st (S, I, R, z) Q = RB d 163 41 [l0, l1, l2, l3, .int x, l5, l6, l7] (.int x :: st) (S, I, R, z) Q := RB_iload rfl rfl
theorem w163_41 : RB d 163 41 [l0, l1, l2, l3, l4, l5, l6, l7] (.int x :: st) (S, I, R, z) Q = ((x < 0 → RB d 163 51 [l0, l1, l2, l3, l4, l5, l6, l7] st (S, I, R, z) Q) ∧ (¬ x < 0 → RB d 163 44 [l0, l1, l2, l3, l4, l5, l6, l7] st (S, I, R, z) Q)) := RB_lt0 rfl (by decide) rfl
theorem w163_44 : RB d 163 44 [l0, l1, l2, l3, l4, l5, l6, .int x] st (S, I, R, z) Q = RB d 163 46 [l0, l1, l2, l3, l4, l5, l6, .int x] (.int x :: st) (S, I, R, z) Q := RB_iload rfl rfl
theorem w163_46 : RB d 163 46 [l0, l1, l2, l3, l4, .int x, l6, l7] st (S, I, R, z) Q = RB d 163 48 [l0, l1, l2, l3, l4, .int x, l6, l7] (.int x :: st) (S, I, R, z) Q := RB_iload rfl rfl
theorem w163_48 : RB d 163 48 [l0, l1, l2, l3, l4, l5, l6, l7] (.int y :: .int x :: st) (S, I, R, z) Q = ((x ≤ y → RB d 163 59 [l0, l1, l2, l3, l4, l5, l6, l7] st (S, I, R, z) Q) ∧ (¬ x ≤ y → RB d 163 51 [l0, l1, l2, l3, l4, l5, l6, l7] st (S, I, R, z) Q)) := RB_ile rfl (by decide) rfl
theorem w163_51 : RB d 163 51 [l0, l1, l2, l3, l4, l5, .int x, l7] st (S, I, R, z) Q = RB d 163 53 [l0, l1, l2, l3, l4, l5, .int x, l7] (.int x :: st) (S, I, R, z) Q := RB_iload rfl rfl
theorem w163_53 : RB d 163 53 [l0, l1, l2, l3, l4, l5, l6, l7] (.int x :: st) (S, I, R, z) Q = RB d 163 55 [l0, l1, l2, l3, .int x, l5, l6, l7] st (S, I, R, z) Q := RB_istore rfl (Nat.le_of_ble_eq_true rfl) rfl
theorem w163_55 : RB d 163 55 [l0, l1, l2, l3, l4, l5, l6, .int x] st (S, I, R, z) Q = RB d 163 57 [l0, l1, l2, l3, l4, l5, l6, .int x] (.int x :: st) (S, I, R, z) Q := RB_iload rfl rfl
theorem w163_57 : RB d 163 57 [l0, l1, l2, l3, l4, l5, l6, l7] (.int x :: st) (S, I, R, z) Q = RB d 163 59 [l0, l1, l2, l3, l4, .int x, l6, l7] st (S, I, R, z) Q := RB_istore rfl (Nat.le_of_ble_eq_true rfl) rfl
theorem w163_59 : RB d 163 59 [l0, l1, l2, l3, l4, l5, .int x, l7] st (S, I, R, z) Q = RB d 163 62 [l0, l1, l2, l3, l4, l5, .int (x + 1), l7] st (S, I, R, z) Q := RB_iinc rfl rfl (Nat.le_of_ble_eq_true rfl) ki1 rfl
theorem w163_62 : RB d 163 62 [l0, l1, l2, l3, l4, l5, l6, l7] st (S, I, R, z) Q = RB d 163 9 [l0, l1, l2, l3, l4, l5, l6, l7] st (S, I, R, z) Q := RB_goto rfl (by decide) rfl
theorem w163_65 : RB d 163 65 [l0, l1, l2, l3, .int x, l5, l6, l7] st (S, I, R, z) Q = RB d 163 67 [l0, l1, l2, l3, .int x, l5, l6, l7] (.int x :: st) (S, I, R, z) Q := RB_iload rfl rfl
theorem w163_67 : RB d 163 67 [l0, l1, l2, l3, l4, l5, l6, l7] [.int x] (S, I, R, z) Q = Q (some (.int x)) (S, I, R, z) := RB_iret rfl rfl rfl
/-! 164: HangedWordModel.worthOf -/
theorem w164_0 : RB d 164 0 [.ref a, l1, l2] st (S, I, R, z) Q = RB d 164 1 [.ref a, l1, l2] (.ref a :: st) (S, I, R, z) Q := RB_aloadn rfl rfl
theorem w164_1 : RB d 164 1 [l0, .int x, l2] st (S, I, R, z) Q = RB d 164 2 [l0, .int x, l2] (.int x :: st) (S, I, R, z) Q := RB_iloadn rfl rfl
set_option maxRecDepth 20000 in
theorem w164_2 : RB d 164 2 [l0, l1, l2] [.int x0, .ref a] (S, I, R, z) Q = ((S a).1 = 7 ∧ RM d 156 [.ref a, .int x0] (S, I, R, z) (fun v τ => RB d 164 5 [l0, l1, l2] (aPush v []) τ Q)) := RB_callV (n := 2) (t := 0) (k := 135) (ins := .invokevirtual 135) rfl rfl rfl (by decide) (Nat.le_of_ble_eq_true rfl) (Nat.le_of_ble_eq_true rfl) rfl rfl
theorem w164_5 : RB d 164 5 [l0, l1, l2] (.int x :: st) (S, I, R, z) Q = RB d 164 6 [l0, l1, .int x] st (S, I, R, z) Q := RB_istoren rfl (Nat.le_of_ble_eq_true rfl) rfl
theorem w164_6 : RB d 164 6 [.ref a, l1, l2] st (S, I, R, z) Q = RB d 164 7 [.ref a, l1, l2] (.ref a :: st) (S, I, R, z) Q := RB_aloadn rfl rfl
theorem w164_7 : RB d 164 7 [l0, .int x, l2] st (S, I, R, z) Q = RB d 164 8 [l0, .int x, l2] (.int x :: st) (S, I, R, z) Q := RB_iloadn rfl rfl
set_option maxRecDepth 20000 in
theorem w164_8 : RB d 164 8 [l0, l1, l2] [.int x0, .ref a] (S, I, R, z) Q = ((S a).1 = 7 ∧ RM d 155 [.ref a, .int x0] (S, I, R, z) (fun v τ => RB d 164 11 [l0, l1, l2] (aPush v []) τ Q)) := RB_callV (n := 2) (t := 0) (k := 144) (ins := .invokevirtual 144) rfl rfl rfl (by decide) (Nat.le_of_ble_eq_true rfl) (Nat.le_of_ble_eq_true rfl) rfl rfl
theorem w164_11 : RB d 164 11 [l0, l1, l2] (.int x :: st) (S, I, R, z) Q = aTsR d 164 11 x 68 [l0, l1, l2] st (S, I, R, z) Q [(1, 44), (2, 49), (3, 54), (4, 61), (5, 66)] := RB_ts rfl (by decide) (by decide) (by decide) (by decide +kernel) rfl
theorem w164_44 : RB d 164 44 [l0, l1, .int x] st (S, I, R, z) Q = RB d 164 45 [l0, l1, .int x] (.int x :: st) (S, I, R, z) Q := RB_iloadn rfl rfl
theorem w164_45 : RB d 164 45 [l0, l1, l2] st (S, I, R, z) Q = RB d 164 47 [l0, l1, l2] (.int 10 :: st) (S, I, R, z) Q := RB_bipush rfl kb10
theorem w164_47 : RB d 164 47 [l0, l1, l2] (.int y :: .int x :: st) (S, I, R, z) Q = RB d 164 48 [l0, l1, l2] (.int (x + y) :: st) (S, I, R, z) Q := RB_iadd rfl
theorem w164_48 : RB d 164 48 [l0, l1, l2] [.int x] (S, I, R, z) Q = Q (some (.int x)) (S, I, R, z) := RB_iret rfl rfl rfl
theorem w164_49 : RB d 164 49 [l0, l1, l2] st (S, I, R, z) Q = RB d 164 51 [l0, l1, l2] (.int 50 :: st) (S, I, R, z) Q := RB_bipush rfl kb50
theorem w164_51 : RB d 164 51 [l0, l1, .int x] st (S, I, R, z) Q = RB d 164 52 [l0, l1, .int x] (.int x :: st) (S, I, R, z) Q := RB_iloadn rfl rfl
theorem w164_52 : RB d 164 52 [l0, l1, l2] (.int y :: .int x :: st) (S, I, R, z) Q = RB d 164 53 [l0, l1, l2] (.int (x - y) :: st) (S, I, R, z) Q := RB_isub rfl
theorem w164_53 : RB d 164 53 [l0, l1, l2] [.int x] (S, I, R, z) Q = Q (some (.int x)) (S, I, R, z) := RB_iret rfl rfl rfl
theorem w164_54 : RB d 164 54 [l0, l1, l2] st (S, I, R, z) Q = RB d 164 55 [l0, l1, l2] (.int 2 :: st) (S, I, R, z) Q := RB_iconst rfl ki2
theorem w164_55 : RB d 164 55 [l0, l1, .int x] st (S, I, R, z) Q = RB d 164 56 [l0, l1, .int x] (.int x :: st) (S, I, R, z) Q := RB_iloadn rfl rfl
theorem w164_56 : RB d 164 56 [l0, l1, l2] st (S, I, R, z) Q = RB d 164 58 [l0, l1, l2] (.int 10 :: st) (S, I, R, z) Q := RB_bipush rfl kb10
theorem w164_58 : RB d 164 58 [l0, l1, l2] (.int y :: .int x :: st) (S, I, R, z) Q = RB d 164 59 [l0, l1, l2] (.int (x + y) :: st) (S, I, R, z) Q := RB_iadd rfl
theorem w164_59 : RB d 164 59 [l0, l1, l2] (.int y :: .int x :: st) (S, I, R, z) Q = RB d 164 60 [l0, l1, l2] (.int (x * y) :: st) (S, I, R, z) Q := RB_imul rfl
theorem w164_60 : RB d 164 60 [l0, l1, l2] [.int x] (S, I, R, z) Q = Q (some (.int x)) (S, I, R, z) := RB_iret rfl rfl rfl
theorem w164_61 : RB d 164 61 [l0, l1, l2] st (S, I, R, z) Q = RB d 164 63 [l0, l1, l2] (.int 44 :: st) (S, I, R, z) Q := RB_bipush rfl kb44
theorem w164_63 : RB d 164 63 [l0, l1, .int x] st (S, I, R, z) Q = RB d 164 64 [l0, l1, .int x] (.int x :: st) (S, I, R, z) Q := RB_iloadn rfl rfl
theorem w164_64 : RB d 164 64 [l0, l1, l2] (.int y :: .int x :: st) (S, I, R, z) Q = RB d 164 65 [l0, l1, l2] (.int (x - y) :: st) (S, I, R, z) Q := RB_isub rfl
theorem w164_65 : RB d 164 65 [l0, l1, l2] [.int x] (S, I, R, z) Q = Q (some (.int x)) (S, I, R, z) := RB_iret rfl rfl rfl
theorem w164_66 : RB d 164 66 [l0, l1, l2] st (S, I, R, z) Q = RB d 164 67 [l0, l1, l2] (.int 1 :: st) (S, I, R, z) Q := RB_iconst rfl ki1
theorem w164_67 : RB d 164 67 [l0, l1, l2] [.int x] (S, I, R, z) Q = Q (some (.int x)) (S, I, R, z) := RB_iret rfl rfl rfl
theorem w164_68 : RB d 164 68 [l0, l1, .int x] st (S, I, R, z) Q = RB d 164 69 [l0, l1, .int x] (.int x :: st) (S, I, R, z) Q := RB_iloadn rfl rfl
theorem w164_69 : RB d 164 69 [l0, l1, l2] [.int x] (S, I, R, z) Q = Q (some (.int x)) (S, I, R, z) := RB_iret rfl rfl rfl
/-! 165: HangedWordModel.told -/
theorem w165_0 : RB d 165 0 [.ref a, l1, l2] st (S, I, R, z) Q = RB d 165 1 [.ref a, l1, l2] (.ref a :: st) (S, I, R, z) Q := RB_aloadn rfl rfl
theorem w165_1 : RB d 165 1 [l0, .int x, l2] st (S, I, R, z) Q = RB d 165 2 [l0, .int x, l2] (.int x :: st) (S, I, R, z) Q := RB_iloadn rfl rfl
set_option maxRecDepth 20000 in
theorem w165_2 : RB d 165 2 [l0, l1, l2] [.int x0, .ref a] (S, I, R, z) Q = ((S a).1 = 7 ∧ RM d 140 [.ref a, .int x0] (S, I, R, z) (fun v τ => RB d 165 5 [l0, l1, l2] (aPush v []) τ Q)) := RB_callV (n := 2) (t := 0) (k := 156) (ins := .invokevirtual 156) rfl rfl rfl (by decide) (Nat.le_of_ble_eq_true rfl) (Nat.le_of_ble_eq_true rfl) rfl rfl
theorem w165_5 : RB d 165 5 [l0, l1, l2] (.int x :: st) (S, I, R, z) Q = ((x = 0 → RB d 165 17 [l0, l1, l2] st (S, I, R, z) Q) ∧ (¬ x = 0 → RB d 165 8 [l0, l1, l2] st (S, I, R, z) Q)) := RB_eq0 rfl (by decide) rfl
theorem w165_8 : RB d 165 8 [l0, l1, .int x] st (S, I, R, z) Q = RB d 165 9 [l0, l1, .int x] (.int x :: st) (S, I, R, z) Q := RB_iloadn rfl rfl
theorem w165_9 : RB d 165 9 [l0, l1, l2] st (S, I, R, z) Q = RB d 165 10 [l0, l1, l2] (.int 0 :: st) (S, I, R, z) Q := RB_iconst rfl ki0
theorem w165_10 : RB d 165 10 [l0, l1, l2] st (S, I, R, z) Q = RB d 165 11 [l0, l1, l2] (.int 3 :: st) (S, I, R, z) Q := RB_iconst rfl ki3
set_option maxRecDepth 20000 in
theorem w165_11 : RB d 165 11 [l0, l1, l2] [.int x2, .int x1, .int x0] (S, I, R, z) Q = RM d 135 [.int x0, .int x1, .int x2] (S, I, R, z) (fun v τ => RB d 165 14 [l0, l1, l2] (aPush v []) τ Q) := RB_callS (n := 3) (t := 1) (k := 76) (ins := .invokestatic 76) rfl rfl rfl (Nat.le_of_ble_eq_true rfl) (Nat.le_of_ble_eq_true rfl) rfl rfl
theorem w165_14 : RB d 165 14 [l0, l1, l2] (.int x :: st) (S, I, R, z) Q = ((x = 0 → RB d 165 17 [l0, l1, l2] st (S, I, R, z) Q) ∧ (¬ x = 0 → RB d 165 20 [l0, l1, l2] st (S, I, R, z) Q)) := RB_ne0 rfl (by decide) rfl
theorem w165_17 : RB d 165 17 [l0, l1, l2] st (S, I, R, z) Q = RB d 165 19 [l0, l1, l2] (.int (-1000000001) :: st) (S, I, R, z) Q := RB_ldc rfl rfl
theorem w165_19 : RB d 165 19 [l0, l1, l2] [.int x] (S, I, R, z) Q = Q (some (.int x)) (S, I, R, z) := RB_iret rfl rfl rfl
theorem w165_20 : RB d 165 20 [l0, l1, .int x] st (S, I, R, z) Q = RB d 165 21 [l0, l1, .int x] (.int x :: st) (S, I, R, z) Q := RB_iloadn rfl rfl
theorem w165_21 : RB d 165 21 [l0, l1, l2] st (S, I, R, z) Q = RB d 165 22 [l0, l1, l2] (.int 2 :: st) (S, I, R, z) Q := RB_iconst rfl ki2
theorem w165_22 : RB d 165 22 [l0, l1, l2] (.int y :: .int x :: st) (S, I, R, z) Q = ((y ≤ x → RB d 165 39 [l0, l1, l2] st (S, I, R, z) Q) ∧ (¬ y ≤ x → RB d 165 25 [l0, l1, l2] st (S, I, R, z) Q)) := RB_ige rfl (by decide) rfl
theorem w165_25 : RB d 165 25 [.ref a, l1, l2] st (S, I, R, z) Q = RB d 165 26 [.ref a, l1, l2] (.ref a :: st) (S, I, R, z) Q := RB_aloadn rfl rfl
theorem w165_26 : RB d 165 26 [l0, l1, l2] (.ref a :: st) (S, I, R, z) Q = ((S a).1 = 7 ∧ RB d 165 29 [l0, l1, l2] (va_rf (R a 0) :: st) (S, I, R, z) Q) := RB_getR rfl rfl
theorem w165_29 : RB d 165 29 [l0, l1, l2] st (S, I, R, z) Q = RB d 165 31 [l0, l1, l2] (.int 32 :: st) (S, I, R, z) Q := RB_bipush rfl kb32
theorem w165_31 : RB d 165 31 [l0, l1, l2] st (S, I, R, z) Q = RB d 165 32 [l0, l1, l2] (.int 2 :: st) (S, I, R, z) Q := RB_iconst rfl ki2
theorem w165_32 : RB d 165 32 [l0, .int x, l2] st (S, I, R, z) Q = RB d 165 33 [l0, .int x, l2] (.int x :: st) (S, I, R, z) Q := RB_iloadn rfl rfl
theorem w165_33 : RB d 165 33 [l0, l1, l2] (.int y :: .int x :: st) (S, I, R, z) Q = RB d 165 34 [l0, l1, l2] (.int (x * y) :: st) (S, I, R, z) Q := RB_imul rfl
theorem w165_34 : RB d 165 34 [l0, l1, l2] (.int y :: .int x :: st) (S, I, R, z) Q = RB d 165 35 [l0, l1, l2] (.int (x + y) :: st) (S, I, R, z) Q := RB_iadd rfl
theorem w165_35 : RB d 165 35 [l0, l1, .int x] st (S, I, R, z) Q = RB d 165 36 [l0, l1, .int x] (.int x :: st) (S, I, R, z) Q := RB_iloadn rfl rfl
theorem w165_36 : RB d 165 36 [l0, l1, l2] (.int y :: .int x :: st) (S, I, R, z) Q = RB d 165 37 [l0, l1, l2] (.int (x + y) :: st) (S, I, R, z) Q := RB_iadd rfl
theorem w165_37 : RB d 165 37 [l0, l1, l2] (.int i :: .ref a :: st) (S, I, R, z) Q = (((S a).1 = 9 ∧ aIx i (S a).2) ∧ RB d 165 38 [l0, l1, l2] (.int (I a i.toNatClampNeg) :: st) (S, I, R, z) Q) := RB_iald rfl
theorem w165_38 : RB d 165 38 [l0, l1, l2] [.int x] (S, I, R, z) Q = Q (some (.int x)) (S, I, R, z) := RB_iret rfl rfl rfl
theorem w165_39 : RB d 165 39 [l0, l1, .int x] st (S, I, R, z) Q = RB d 165 40 [l0, l1, .int x] (.int x :: st) (S, I, R, z) Q := RB_iloadn rfl rfl
theorem w165_40 : RB d 165 40 [l0, l1, l2] st (S, I, R, z) Q = RB d 165 41 [l0, l1, l2] (.int 3 :: st) (S, I, R, z) Q := RB_iconst rfl ki3
theorem w165_41 : RB d 165 41 [l0, l1, l2] (.int y :: .int x :: st) (S, I, R, z) Q = ((x = y → RB d 165 44 [l0, l1, l2] st (S, I, R, z) Q) ∧ (¬ x = y → RB d 165 50 [l0, l1, l2] st (S, I, R, z) Q)) := RB_ine rfl (by decide) rfl
theorem w165_44 : RB d 165 44 [.ref a, l1, l2] st (S, I, R, z) Q = RB d 165 45 [.ref a, l1, l2] (.ref a :: st) (S, I, R, z) Q := RB_aloadn rfl rfl
theorem w165_45 : RB d 165 45 [l0, .int x, l2] st (S, I, R, z) Q = RB d 165 46 [l0, .int x, l2] (.int x :: st) (S, I, R, z) Q := RB_iloadn rfl rfl
set_option maxRecDepth 20000 in
theorem w165_46 : RB d 165 46 [l0, l1, l2] [.int x0, .ref a] (S, I, R, z) Q = ((S a).1 = 7 ∧ RM d 164 [.ref a, .int x0] (S, I, R, z) (fun v τ => RB d 165 49 [l0, l1, l2] (aPush v []) τ Q)) := RB_callV (n := 2) (t := 0) (k := 159) (ins := .invokevirtual 159) rfl rfl rfl (by decide) (Nat.le_of_ble_eq_true rfl) (Nat.le_of_ble_eq_true rfl) rfl rfl
theorem w165_49 : RB d 165 49 [l0, l1, l2] [.int x] (S, I, R, z) Q = Q (some (.int x)) (S, I, R, z) := RB_iret rfl rfl rfl
theorem w165_50 : RB d 165 50 [.ref a, l1, l2] st (S, I, R, z) Q = RB d 165 51 [.ref a, l1, l2] (.ref a :: st) (S, I, R, z) Q := RB_aloadn rfl rfl
theorem w165_51 : RB d 165 51 [l0, l1, l2] (.ref a :: st) (S, I, R, z) Q = ((S a).1 = 7 ∧ RB d 165 54 [l0, l1, l2] (va_rf (R a 0) :: st) (S, I, R, z) Q) := RB_getR rfl rfl
theorem w165_54 : RB d 165 54 [l0, l1, l2] st (S, I, R, z) Q = RB d 165 55 [l0, l1, l2] (.int 3 :: st) (S, I, R, z) Q := RB_iconst rfl ki3
theorem w165_55 : RB d 165 55 [l0, l1, l2] (.int i :: .ref a :: st) (S, I, R, z) Q = (((S a).1 = 9 ∧ aIx i (S a).2) ∧ RB d 165 56 [l0, l1, l2] (.int (I a i.toNatClampNeg) :: st) (S, I, R, z) Q) := RB_iald rfl
theorem w165_56 : RB d 165 56 [l0, l1, l2] (.int x :: st) (S, I, R, z) Q = ((0 ≤ x → RB d 165 64 [l0, l1, l2] st (S, I, R, z) Q) ∧ (¬ 0 ≤ x → RB d 165 59 [l0, l1, l2] st (S, I, R, z) Q)) := RB_ge0 rfl (by decide) rfl
theorem w165_59 : RB d 165 59 [l0, l1, l2] st (S, I, R, z) Q = RB d 165 61 [l0, l1, l2] (.int (-1000000005) :: st) (S, I, R, z) Q := RB_ldc rfl rfl
theorem w165_61 : RB d 165 61 [l0, l1, l2] st (S, I, R, z) Q = RB d 165 82 [l0, l1, l2] st (S, I, R, z) Q := RB_goto rfl (by decide) rfl
theorem w165_64 : RB d 165 64 [.ref a, l1, l2] st (S, I, R, z) Q = RB d 165 65 [.ref a, l1, l2] (.ref a :: st) (S, I, R, z) Q := RB_aloadn rfl rfl
theorem w165_65 : RB d 165 65 [l0, .int x, l2] st (S, I, R, z) Q = RB d 165 66 [l0, .int x, l2] (.int x :: st) (S, I, R, z) Q := RB_iloadn rfl rfl
theorem w165_66 : RB d 165 66 [.ref a, l1, l2] st (S, I, R, z) Q = RB d 165 67 [.ref a, l1, l2] (.ref a :: st) (S, I, R, z) Q := RB_aloadn rfl rfl
theorem w165_67 : RB d 165 67 [l0, l1, l2] (.ref a :: st) (S, I, R, z) Q = ((S a).1 = 7 ∧ RB d 165 70 [l0, l1, l2] (va_rf (R a 0) :: st) (S, I, R, z) Q) := RB_getR rfl rfl
theorem w165_70 : RB d 165 70 [l0, l1, l2] st (S, I, R, z) Q = RB d 165 71 [l0, l1, l2] (.int 4 :: st) (S, I, R, z) Q := RB_iconst rfl ki4
theorem w165_71 : RB d 165 71 [l0, l1, l2] (.int i :: .ref a :: st) (S, I, R, z) Q = (((S a).1 = 9 ∧ aIx i (S a).2) ∧ RB d 165 72 [l0, l1, l2] (.int (I a i.toNatClampNeg) :: st) (S, I, R, z) Q) := RB_iald rfl
theorem w165_72 : RB d 165 72 [.ref a, l1, l2] st (S, I, R, z) Q = RB d 165 73 [.ref a, l1, l2] (.ref a :: st) (S, I, R, z) Q := RB_aloadn rfl rfl
set_option maxRecDepth 20000 in
theorem w165_73 : RB d 165 73 [l0, l1, l2] [.ref a, s0, s1, s2] (S, I, R, z) Q = ((S a).1 = 7 ∧ RM d 149 [.ref a] (S, I, R, z) (fun v τ => RB d 165 76 [l0, l1, l2] (aPush v [s0, s1, s2]) τ Q)) := RB_callV (n := 1) (t := 0) (k := 103) (ins := .invokevirtual 103) rfl rfl rfl (by decide) (Nat.le_of_ble_eq_true rfl) (Nat.le_of_ble_eq_true rfl) rfl rfl
set_option maxRecDepth 20000 in
theorem w165_76 : RB d 165 76 [l0, l1, l2] [.int x2, .int x1, .int x0, .ref a] (S, I, R, z) Q = ((S a).1 = 7 ∧ RM d 163 [.ref a, .int x0, .int x1, .int x2] (S, I, R, z) (fun v τ => RB d 165 79 [l0, l1, l2] (aPush v []) τ Q)) := RB_callV (n := 4) (t := 0) (k := 162) (ins := .invokevirtual 162) rfl rfl rfl (by decide) (Nat.le_of_ble_eq_true rfl) (Nat.le_of_ble_eq_true rfl) rfl rfl
set_option maxRecDepth 20000 in
theorem w165_79 : RB d 165 79 [l0, l1, l2] [.int x0] (S, I, R, z) Q = RM d 138 [.int x0] (S, I, R, z) (fun v τ => RB d 165 82 [l0, l1, l2] (aPush v []) τ Q) := RB_callS (n := 1) (t := 1) (k := 165) (ins := .invokestatic 165) rfl rfl rfl (Nat.le_of_ble_eq_true rfl) (Nat.le_of_ble_eq_true rfl) rfl rfl
theorem w165_82 : RB d 165 82 [l0, l1, l2] [.int x] (S, I, R, z) Q = Q (some (.int x)) (S, I, R, z) := RB_iret rfl rfl rfl
/-! 166: HangedWordModel.score -/
theorem w166_0 : RB d 166 0 [.ref a, l1, l2] st (S, I, R, z) Q = RB d 166 1 [.ref a, l1, l2] (.ref a :: st) (S, I, R, z) Q := RB_aloadn rfl rfl
theorem w166_1 : RB d 166 1 [l0, .int x, l2] st (S, I, R, z) Q = RB d 166 2 [l0, .int x, l2] (.int x :: st) (S, I, R, z) Q := RB_iloadn rfl rfl
set_option maxRecDepth 20000 in
theorem w166_2 : RB d 166 2 [l0, l1, l2] [.int x0, .ref a] (S, I, R, z) Q = ((S a).1 = 7 ∧ RM d 140 [.ref a, .int x0] (S, I, R, z) (fun v τ => RB d 166 5 [l0, l1, l2] (aPush v []) τ Q)) := RB_callV (n := 2) (t := 0) (k := 156) (ins := .invokevirtual 156) rfl rfl rfl (by decide) (Nat.le_of_ble_eq_true rfl) (Nat.le_of_ble_eq_true rfl) rfl rfl
theorem w166_5 : RB d 166 5 [l0, l1, l2] (.int x :: st) (S, I, R, z) Q = ((x = 0 → RB d 166 29 [l0, l1, l2] st (S, I, R, z) Q) ∧ (¬ x = 0 → RB d 166 8 [l0, l1, l2] st (S, I, R, z) Q)) := RB_eq0 rfl (by decide) rfl
theorem w166_8 : RB d 166 8 [l0, l1, .int x] st (S, I, R, z) Q = RB d 166 9 [l0, l1, .int x] (.int x :: st) (S, I, R, z) Q := RB_iloadn rfl rfl
set_option maxRecDepth 20000 in
theorem w166_9 : RB d 166 9 [l0, l1, l2] [.int x0] (S, I, R, z) Q = RM d 141 [.int x0] (S, I, R, z) (fun v τ => RB d 166 12 [l0, l1, l2] (aPush v []) τ Q) := RB_callS (n := 1) (t := 1) (k := 110) (ins := .invokestatic 110) rfl rfl rfl (Nat.le_of_ble_eq_true rfl) (Nat.le_of_ble_eq_true rfl) rfl rfl
theorem w166_12 : RB d 166 12 [l0, l1, l2] (.int x :: st) (S, I, R, z) Q = ((x = 0 → RB d 166 29 [l0, l1, l2] st (S, I, R, z) Q) ∧ (¬ x = 0 → RB d 166 15 [l0, l1, l2] st (S, I, R, z) Q)) := RB_eq0 rfl (by decide) rfl
theorem w166_15 : RB d 166 15 [.ref a, l1, l2] st (S, I, R, z) Q = RB d 166 16 [.ref a, l1, l2] (.ref a :: st) (S, I, R, z) Q := RB_aloadn rfl rfl
theorem w166_16 : RB d 166 16 [l0, l1, l2] (.ref a :: st) (S, I, R, z) Q = ((S a).1 = 7 ∧ RB d 166 19 [l0, l1, l2] (va_rf (R a 0) :: st) (S, I, R, z) Q) := RB_getR rfl rfl
theorem w166_19 : RB d 166 19 [l0, l1, l2] st (S, I, R, z) Q = RB d 166 20 [l0, l1, l2] (.int 4 :: st) (S, I, R, z) Q := RB_iconst rfl ki4
theorem w166_20 : RB d 166 20 [l0, l1, l2] (.int i :: .ref a :: st) (S, I, R, z) Q = (((S a).1 = 9 ∧ aIx i (S a).2) ∧ RB d 166 21 [l0, l1, l2] (.int (I a i.toNatClampNeg) :: st) (S, I, R, z) Q) := RB_iald rfl
theorem w166_21 : RB d 166 21 [l0, l1, .int x] st (S, I, R, z) Q = RB d 166 22 [l0, l1, .int x] (.int x :: st) (S, I, R, z) Q := RB_iloadn rfl rfl
theorem w166_22 : RB d 166 22 [l0, l1, l2] (.int y :: .int x :: st) (S, I, R, z) Q = RB d 166 23 [l0, l1, l2] (.int (x >>> (y &&& 31)) :: st) (S, I, R, z) Q := RB_ishr rfl
theorem w166_23 : RB d 166 23 [l0, l1, l2] st (S, I, R, z) Q = RB d 166 24 [l0, l1, l2] (.int 1 :: st) (S, I, R, z) Q := RB_iconst rfl ki1
theorem w166_24 : RB d 166 24 [l0, l1, l2] (.int y :: .int x :: st) (S, I, R, z) Q = RB d 166 25 [l0, l1, l2] (.int (x &&& y) :: st) (S, I, R, z) Q := RB_iand rfl
theorem w166_25 : RB d 166 25 [l0, l1, l2] st (S, I, R, z) Q = RB d 166 26 [l0, l1, l2] (.int 1 :: st) (S, I, R, z) Q := RB_iconst rfl ki1
theorem w166_26 : RB d 166 26 [l0, l1, l2] (.int y :: .int x :: st) (S, I, R, z) Q = ((x = y → RB d 166 29 [l0, l1, l2] st (S, I, R, z) Q) ∧ (¬ x = y → RB d 166 32 [l0, l1, l2] st (S, I, R, z) Q)) := RB_ine rfl (by decide) rfl
theorem w166_29 : RB d 166 29 [l0, l1, l2] st (S, I, R, z) Q = RB d 166 31 [l0, l1, l2] (.int (-1000000001) :: st) (S, I, R, z) Q := RB_ldc rfl rfl
theorem w166_31 : RB d 166 31 [l0, l1, l2] [.int x] (S, I, R, z) Q = Q (some (.int x)) (S, I, R, z) := RB_iret rfl rfl rfl
theorem w166_32 : RB d 166 32 [.ref a, l1, l2] st (S, I, R, z) Q = RB d 166 33 [.ref a, l1, l2] (.ref a :: st) (S, I, R, z) Q := RB_aloadn rfl rfl
theorem w166_33 : RB d 166 33 [l0, .int x, l2] st (S, I, R, z) Q = RB d 166 34 [l0, .int x, l2] (.int x :: st) (S, I, R, z) Q := RB_iloadn rfl rfl
theorem w166_34 : RB d 166 34 [l0, l1, .int x] st (S, I, R, z) Q = RB d 166 35 [l0, l1, .int x] (.int x :: st) (S, I, R, z) Q := RB_iloadn rfl rfl
theorem w166_35 : RB d 166 35 [.ref a, l1, l2] st (S, I, R, z) Q = RB d 166 36 [.ref a, l1, l2] (.ref a :: st) (S, I, R, z) Q := RB_aloadn rfl rfl
set_option maxRecDepth 20000 in
theorem w166_36 : RB d 166 36 [l0, l1, l2] [.ref a, s0, s1, s2] (S, I, R, z) Q = ((S a).1 = 7 ∧ RM d 149 [.ref a] (S, I, R, z) (fun v τ => RB d 166 39 [l0, l1, l2] (aPush v [s0, s1, s2]) τ Q)) := RB_callV (n := 1) (t := 0) (k := 103) (ins := .invokevirtual 103) rfl rfl rfl (by decide) (Nat.le_of_ble_eq_true rfl) (Nat.le_of_ble_eq_true rfl) rfl rfl
set_option maxRecDepth 20000 in
theorem w166_39 : RB d 166 39 [l0, l1, l2] [.int x2, .int x1, .int x0, .ref a] (S, I, R, z) Q = ((S a).1 = 7 ∧ RM d 162 [.ref a, .int x0, .int x1, .int x2] (S, I, R, z) (fun v τ => RB d 166 42 [l0, l1, l2] (aPush v []) τ Q)) := RB_callV (n := 4) (t := 0) (k := 153) (ins := .invokevirtual 153) rfl rfl rfl (by decide) (Nat.le_of_ble_eq_true rfl) (Nat.le_of_ble_eq_true rfl) rfl rfl
theorem w166_42 : RB d 166 42 [l0, l1, l2] [.int x] (S, I, R, z) Q = Q (some (.int x)) (S, I, R, z) := RB_iret rfl rfl rfl
/-! 167: HangedWordModel.isUnder -/
theorem w167_0 : RB d 167 0 [l0, .int x] st (S, I, R, z) Q = RB d 167 1 [l0, .int x] (.int x :: st) (S, I, R, z) Q := RB_iloadn rfl rfl
theorem w167_1 : RB d 167 1 [l0, l1] (.int x :: st) (S, I, R, z) Q = ((x = 0 → RB d 167 29 [l0, l1] st (S, I, R, z) Q) ∧ (¬ x = 0 → RB d 167 4 [l0, l1] st (S, I, R, z) Q)) := RB_eq0 rfl (by decide) rfl
theorem w167_4 : RB d 167 4 [.int x, l1] st (S, I, R, z) Q = RB d 167 5 [.int x, l1] (.int x :: st) (S, I, R, z) Q := RB_iloadn rfl rfl
theorem w167_5 : RB d 167 5 [l0, .int x] st (S, I, R, z) Q = RB d 167 6 [l0, .int x] (.int x :: st) (S, I, R, z) Q := RB_iloadn rfl rfl
theorem w167_6 : RB d 167 6 [l0, l1] (.int y :: .int x :: st) (S, I, R, z) Q = ((x = y → RB d 167 29 [l0, l1] st (S, I, R, z) Q) ∧ (¬ x = y → RB d 167 9 [l0, l1] st (S, I, R, z) Q)) := RB_ieq rfl (by decide) rfl
theorem w167_9 : RB d 167 9 [l0, .int x] st (S, I, R, z) Q = RB d 167 10 [l0, .int x] (.int x :: st) (S, I, R, z) Q := RB_iloadn rfl rfl
theorem w167_10 : RB d 167 10 [l0, l1] st (S, I, R, z) Q = RB d 167 11 [l0, l1] (.int 1 :: st) (S, I, R, z) Q := RB_iconst rfl ki1
theorem w167_11 : RB d 167 11 [l0, l1] (.int y :: .int x :: st) (S, I, R, z) Q = ((x = y → RB d 167 14 [l0, l1] st (S, I, R, z) Q) ∧ (¬ x = y → RB d 167 19 [l0, l1] st (S, I, R, z) Q)) := RB_ine rfl (by decide) rfl
theorem w167_14 : RB d 167 14 [.int x, l1] st (S, I, R, z) Q = RB d 167 15 [.int x, l1] (.int x :: st) (S, I, R, z) Q := RB_iloadn rfl rfl
theorem w167_15 : RB d 167 15 [l0, l1] st (S, I, R, z) Q = RB d 167 16 [l0, l1] (.int 3 :: st) (S, I, R, z) Q := RB_iconst rfl ki3
theorem w167_16 : RB d 167 16 [l0, l1] (.int y :: .int x :: st) (S, I, R, z) Q = ((x = y → RB d 167 29 [l0, l1] st (S, I, R, z) Q) ∧ (¬ x = y → RB d 167 19 [l0, l1] st (S, I, R, z) Q)) := RB_ieq rfl (by decide) rfl
theorem w167_19 : RB d 167 19 [l0, .int x] st (S, I, R, z) Q = RB d 167 20 [l0, .int x] (.int x :: st) (S, I, R, z) Q := RB_iloadn rfl rfl
theorem w167_20 : RB d 167 20 [l0, l1] st (S, I, R, z) Q = RB d 167 21 [l0, l1] (.int 2 :: st) (S, I, R, z) Q := RB_iconst rfl ki2
theorem w167_21 : RB d 167 21 [l0, l1] (.int y :: .int x :: st) (S, I, R, z) Q = ((x = y → RB d 167 24 [l0, l1] st (S, I, R, z) Q) ∧ (¬ x = y → RB d 167 33 [l0, l1] st (S, I, R, z) Q)) := RB_ine rfl (by decide) rfl
theorem w167_24 : RB d 167 24 [.int x, l1] st (S, I, R, z) Q = RB d 167 25 [.int x, l1] (.int x :: st) (S, I, R, z) Q := RB_iloadn rfl rfl
theorem w167_25 : RB d 167 25 [l0, l1] st (S, I, R, z) Q = RB d 167 26 [l0, l1] (.int 4 :: st) (S, I, R, z) Q := RB_iconst rfl ki4
theorem w167_26 : RB d 167 26 [l0, l1] (.int y :: .int x :: st) (S, I, R, z) Q = ((x = y → RB d 167 29 [l0, l1] st (S, I, R, z) Q) ∧ (¬ x = y → RB d 167 33 [l0, l1] st (S, I, R, z) Q)) := RB_ine rfl (by decide) rfl
theorem w167_29 : RB d 167 29 [l0, l1] st (S, I, R, z) Q = RB d 167 30 [l0, l1] (.int 1 :: st) (S, I, R, z) Q := RB_iconst rfl ki1
theorem w167_30 : RB d 167 30 [l0, l1] st (S, I, R, z) Q = RB d 167 34 [l0, l1] st (S, I, R, z) Q := RB_goto rfl (by decide) rfl
theorem w167_33 : RB d 167 33 [l0, l1] st (S, I, R, z) Q = RB d 167 34 [l0, l1] (.int 0 :: st) (S, I, R, z) Q := RB_iconst rfl ki0
theorem w167_34 : RB d 167 34 [l0, l1] [.int x] (S, I, R, z) Q = (narrow .boolean (.int x) = .int x ∧ Q (some (.int x)) (S, I, R, z)) := RB_zret rfl rfl (Or.inl rfl)
/-! 168: HangedWordModel.as -/
theorem w168_0 : RB d 168 0 [.ref a, l1, l2] st (S, I, R, z) Q = RB d 168 1 [.ref a, l1, l2] (.ref a :: st) (S, I, R, z) Q := RB_aloadn rfl rfl
theorem w168_1 : RB d 168 1 [l0, .int x, l2] st (S, I, R, z) Q = RB d 168 2 [l0, .int x, l2] (.int x :: st) (S, I, R, z) Q := RB_iloadn rfl rfl
set_option maxRecDepth 20000 in
theorem w168_2 : RB d 168 2 [l0, l1, l2] [.int x0, .ref a] (S, I, R, z) Q = ((S a).1 = 7 ∧ RM d 140 [.ref a, .int x0] (S, I, R, z) (fun v τ => RB d 168 5 [l0, l1, l2] (aPush v []) τ Q)) := RB_callV (n := 2) (t := 0) (k := 156) (ins := .invokevirtual 156) rfl rfl rfl (by decide) (Nat.le_of_ble_eq_true rfl) (Nat.le_of_ble_eq_true rfl) rfl rfl
theorem w168_5 : RB d 168 5 [l0, l1, l2] (.int x :: st) (S, I, R, z) Q = ((x = 0 → RB d 168 17 [l0, l1, l2] st (S, I, R, z) Q) ∧ (¬ x = 0 → RB d 168 8 [l0, l1, l2] st (S, I, R, z) Q)) := RB_eq0 rfl (by decide) rfl
theorem w168_8 : RB d 168 8 [l0, l1, .int x] st (S, I, R, z) Q = RB d 168 9 [l0, l1, .int x] (.int x :: st) (S, I, R, z) Q := RB_iloadn rfl rfl
theorem w168_9 : RB d 168 9 [l0, l1, l2] st (S, I, R, z) Q = RB d 168 10 [l0, l1, l2] (.int 0 :: st) (S, I, R, z) Q := RB_iconst rfl ki0
theorem w168_10 : RB d 168 10 [l0, l1, l2] st (S, I, R, z) Q = RB d 168 11 [l0, l1, l2] (.int 5 :: st) (S, I, R, z) Q := RB_iconst rfl ki5
set_option maxRecDepth 20000 in
theorem w168_11 : RB d 168 11 [l0, l1, l2] [.int x2, .int x1, .int x0] (S, I, R, z) Q = RM d 135 [.int x0, .int x1, .int x2] (S, I, R, z) (fun v τ => RB d 168 14 [l0, l1, l2] (aPush v []) τ Q) := RB_callS (n := 3) (t := 1) (k := 76) (ins := .invokestatic 76) rfl rfl rfl (Nat.le_of_ble_eq_true rfl) (Nat.le_of_ble_eq_true rfl) rfl rfl
theorem w168_14 : RB d 168 14 [l0, l1, l2] (.int x :: st) (S, I, R, z) Q = ((x = 0 → RB d 168 17 [l0, l1, l2] st (S, I, R, z) Q) ∧ (¬ x = 0 → RB d 168 20 [l0, l1, l2] st (S, I, R, z) Q)) := RB_ne0 rfl (by decide) rfl
theorem w168_17 : RB d 168 17 [l0, l1, l2] st (S, I, R, z) Q = RB d 168 19 [l0, l1, l2] (.int (-1000000001) :: st) (S, I, R, z) Q := RB_ldc rfl rfl
theorem w168_19 : RB d 168 19 [l0, l1, l2] [.int x] (S, I, R, z) Q = Q (some (.int x)) (S, I, R, z) := RB_iret rfl rfl rfl
theorem w168_20 : RB d 168 20 [.ref a, l1, l2] st (S, I, R, z) Q = RB d 168 21 [.ref a, l1, l2] (.ref a :: st) (S, I, R, z) Q := RB_aloadn rfl rfl
theorem w168_21 : RB d 168 21 [l0, .int x, l2] st (S, I, R, z) Q = RB d 168 22 [l0, .int x, l2] (.int x :: st) (S, I, R, z) Q := RB_iloadn rfl rfl
set_option maxRecDepth 20000 in
theorem w168_22 : RB d 168 22 [l0, l1, l2] [.int x0, .ref a] (S, I, R, z) Q = ((S a).1 = 7 ∧ RM d 155 [.ref a, .int x0] (S, I, R, z) (fun v τ => RB d 168 25 [l0, l1, l2] (aPush v []) τ Q)) := RB_callV (n := 2) (t := 0) (k := 144) (ins := .invokevirtual 144) rfl rfl rfl (by decide) (Nat.le_of_ble_eq_true rfl) (Nat.le_of_ble_eq_true rfl) rfl rfl
theorem w168_25 : RB d 168 25 [l0, l1, .int x] st (S, I, R, z) Q = RB d 168 26 [l0, l1, .int x] (.int x :: st) (S, I, R, z) Q := RB_iloadn rfl rfl
set_option maxRecDepth 20000 in
theorem w168_26 : RB d 168 26 [l0, l1, l2] [.int x1, .int x0] (S, I, R, z) Q = RM d 167 [.int x0, .int x1] (S, I, R, z) (fun v τ => RB d 168 29 [l0, l1, l2] (aPush v []) τ Q) := RB_callS (n := 2) (t := 1) (k := 168) (ins := .invokestatic 168) rfl rfl rfl (Nat.le_of_ble_eq_true rfl) (Nat.le_of_ble_eq_true rfl) rfl rfl
theorem w168_29 : RB d 168 29 [l0, l1, l2] (.int x :: st) (S, I, R, z) Q = ((x = 0 → RB d 168 40 [l0, l1, l2] st (S, I, R, z) Q) ∧ (¬ x = 0 → RB d 168 32 [l0, l1, l2] st (S, I, R, z) Q)) := RB_eq0 rfl (by decide) rfl
theorem w168_32 : RB d 168 32 [.ref a, l1, l2] st (S, I, R, z) Q = RB d 168 33 [.ref a, l1, l2] (.ref a :: st) (S, I, R, z) Q := RB_aloadn rfl rfl
theorem w168_33 : RB d 168 33 [l0, .int x, l2] st (S, I, R, z) Q = RB d 168 34 [l0, .int x, l2] (.int x :: st) (S, I, R, z) Q := RB_iloadn rfl rfl
set_option maxRecDepth 20000 in
theorem w168_34 : RB d 168 34 [l0, l1, l2] [.int x0, .ref a] (S, I, R, z) Q = ((S a).1 = 7 ∧ RM d 156 [.ref a, .int x0] (S, I, R, z) (fun v τ => RB d 168 37 [l0, l1, l2] (aPush v []) τ Q)) := RB_callV (n := 2) (t := 0) (k := 135) (ins := .invokevirtual 135) rfl rfl rfl (by decide) (Nat.le_of_ble_eq_true rfl) (Nat.le_of_ble_eq_true rfl) rfl rfl
theorem w168_37 : RB d 168 37 [l0, l1, l2] st (S, I, R, z) Q = RB d 168 42 [l0, l1, l2] st (S, I, R, z) Q := RB_goto rfl (by decide) rfl
theorem w168_40 : RB d 168 40 [l0, l1, l2] st (S, I, R, z) Q = RB d 168 42 [l0, l1, l2] (.int (-1000000012) :: st) (S, I, R, z) Q := RB_ldc rfl rfl
theorem w168_42 : RB d 168 42 [l0, l1, l2] [.int x] (S, I, R, z) Q = Q (some (.int x)) (S, I, R, z) := RB_iret rfl rfl rfl
/-! 169: HangedWordModel.turns -/
theorem w169_0 : RB d 169 0 [.ref a, l1, l2] st (S, I, R, z) Q = RB d 169 1 [.ref a, l1, l2] (.ref a :: st) (S, I, R, z) Q := RB_aloadn rfl rfl
theorem w169_1 : RB d 169 1 [l0, .int x, l2] st (S, I, R, z) Q = RB d 169 2 [l0, .int x, l2] (.int x :: st) (S, I, R, z) Q := RB_iloadn rfl rfl
set_option maxRecDepth 20000 in
theorem w169_2 : RB d 169 2 [l0, l1, l2] [.int x0, .ref a] (S, I, R, z) Q = ((S a).1 = 7 ∧ RM d 140 [.ref a, .int x0] (S, I, R, z) (fun v τ => RB d 169 5 [l0, l1, l2] (aPush v []) τ Q)) := RB_callV (n := 2) (t := 0) (k := 156) (ins := .invokevirtual 156) rfl rfl rfl (by decide) (Nat.le_of_ble_eq_true rfl) (Nat.le_of_ble_eq_true rfl) rfl rfl
theorem w169_5 : RB d 169 5 [l0, l1, l2] (.int x :: st) (S, I, R, z) Q = ((x = 0 → RB d 169 31 [l0, l1, l2] st (S, I, R, z) Q) ∧ (¬ x = 0 → RB d 169 8 [l0, l1, l2] st (S, I, R, z) Q)) := RB_eq0 rfl (by decide) rfl
theorem w169_8 : RB d 169 8 [l0, l1, .int x] st (S, I, R, z) Q = RB d 169 9 [l0, l1, .int x] (.int x :: st) (S, I, R, z) Q := RB_iloadn rfl rfl
theorem w169_9 : RB d 169 9 [l0, l1, l2] st (S, I, R, z) Q = RB d 169 10 [l0, l1, l2] (.int 0 :: st) (S, I, R, z) Q := RB_iconst rfl ki0
theorem w169_10 : RB d 169 10 [l0, l1, l2] st (S, I, R, z) Q = RB d 169 11 [l0, l1, l2] (.int 5 :: st) (S, I, R, z) Q := RB_iconst rfl ki5
set_option maxRecDepth 20000 in
theorem w169_11 : RB d 169 11 [l0, l1, l2] [.int x2, .int x1, .int x0] (S, I, R, z) Q = RM d 135 [.int x0, .int x1, .int x2] (S, I, R, z) (fun v τ => RB d 169 14 [l0, l1, l2] (aPush v []) τ Q) := RB_callS (n := 3) (t := 1) (k := 76) (ins := .invokestatic 76) rfl rfl rfl (Nat.le_of_ble_eq_true rfl) (Nat.le_of_ble_eq_true rfl) rfl rfl
theorem w169_14 : RB d 169 14 [l0, l1, l2] (.int x :: st) (S, I, R, z) Q = ((x = 0 → RB d 169 31 [l0, l1, l2] st (S, I, R, z) Q) ∧ (¬ x = 0 → RB d 169 17 [l0, l1, l2] st (S, I, R, z) Q)) := RB_eq0 rfl (by decide) rfl
theorem w169_17 : RB d 169 17 [.ref a, l1, l2] st (S, I, R, z) Q = RB d 169 18 [.ref a, l1, l2] (.ref a :: st) (S, I, R, z) Q := RB_aloadn rfl rfl
theorem w169_18 : RB d 169 18 [l0, l1, l2] st (S, I, R, z) Q = RB d 169 20 [l0, l1, l2] (.int 32 :: st) (S, I, R, z) Q := RB_bipush rfl kb32
theorem w169_20 : RB d 169 20 [l0, l1, l2] st (S, I, R, z) Q = RB d 169 21 [l0, l1, l2] (.int 2 :: st) (S, I, R, z) Q := RB_iconst rfl ki2
theorem w169_21 : RB d 169 21 [l0, .int x, l2] st (S, I, R, z) Q = RB d 169 22 [l0, .int x, l2] (.int x :: st) (S, I, R, z) Q := RB_iloadn rfl rfl
theorem w169_22 : RB d 169 22 [l0, l1, l2] (.int y :: .int x :: st) (S, I, R, z) Q = RB d 169 23 [l0, l1, l2] (.int (x * y) :: st) (S, I, R, z) Q := RB_imul rfl
theorem w169_23 : RB d 169 23 [l0, l1, l2] (.int y :: .int x :: st) (S, I, R, z) Q = RB d 169 24 [l0, l1, l2] (.int (x + y) :: st) (S, I, R, z) Q := RB_iadd rfl
theorem w169_24 : RB d 169 24 [l0, l1, .int x] st (S, I, R, z) Q = RB d 169 25 [l0, l1, .int x] (.int x :: st) (S, I, R, z) Q := RB_iloadn rfl rfl
set_option maxRecDepth 20000 in
theorem w169_25 : RB d 169 25 [l0, l1, l2] [.int x1, .int x0, .ref a] (S, I, R, z) Q = ((S a).1 = 7 ∧ RM d 142 [.ref a, .int x0, .int x1] (S, I, R, z) (fun v τ => RB d 169 28 [l0, l1, l2] (aPush v []) τ Q)) := RB_callV (n := 3) (t := 0) (k := 107) (ins := .invokevirtual 107) rfl rfl rfl (by decide) (Nat.le_of_ble_eq_true rfl) (Nat.le_of_ble_eq_true rfl) rfl rfl
theorem w169_28 : RB d 169 28 [l0, l1, l2] st (S, I, R, z) Q = RB d 169 33 [l0, l1, l2] st (S, I, R, z) Q := RB_goto rfl (by decide) rfl
theorem w169_31 : RB d 169 31 [l0, l1, l2] st (S, I, R, z) Q = RB d 169 33 [l0, l1, l2] (.int (-1000000001) :: st) (S, I, R, z) Q := RB_ldc rfl rfl
theorem w169_33 : RB d 169 33 [l0, l1, l2] [.int x] (S, I, R, z) Q = Q (some (.int x)) (S, I, R, z) := RB_iret rfl rfl rfl
/-! 170: HangedWordModel.first -/
theorem w170_0 : RB d 170 0 [.ref a, l1, l2] st (S, I, R, z) Q = RB d 170 1 [.ref a, l1, l2] (.ref a :: st) (S, I, R, z) Q := RB_aloadn rfl rfl
theorem w170_1 : RB d 170 1 [l0, .int x, l2] st (S, I, R, z) Q = RB d 170 2 [l0, .int x, l2] (.int x :: st) (S, I, R, z) Q := RB_iloadn rfl rfl
set_option maxRecDepth 20000 in
theorem w170_2 : RB d 170 2 [l0, l1, l2] [.int x0, .ref a] (S, I, R, z) Q = ((S a).1 = 7 ∧ RM d 140 [.ref a, .int x0] (S, I, R, z) (fun v τ => RB d 170 5 [l0, l1, l2] (aPush v []) τ Q)) := RB_callV (n := 2) (t := 0) (k := 156) (ins := .invokevirtual 156) rfl rfl rfl (by decide) (Nat.le_of_ble_eq_true rfl) (Nat.le_of_ble_eq_true rfl) rfl rfl
theorem w170_5 : RB d 170 5 [l0, l1, l2] (.int x :: st) (S, I, R, z) Q = ((x = 0 → RB d 170 31 [l0, l1, l2] st (S, I, R, z) Q) ∧ (¬ x = 0 → RB d 170 8 [l0, l1, l2] st (S, I, R, z) Q)) := RB_eq0 rfl (by decide) rfl
theorem w170_8 : RB d 170 8 [l0, l1, .int x] st (S, I, R, z) Q = RB d 170 9 [l0, l1, .int x] (.int x :: st) (S, I, R, z) Q := RB_iloadn rfl rfl
set_option maxRecDepth 20000 in
theorem w170_9 : RB d 170 9 [l0, l1, l2] [.int x0] (S, I, R, z) Q = RM d 141 [.int x0] (S, I, R, z) (fun v τ => RB d 170 12 [l0, l1, l2] (aPush v []) τ Q) := RB_callS (n := 1) (t := 1) (k := 110) (ins := .invokestatic 110) rfl rfl rfl (Nat.le_of_ble_eq_true rfl) (Nat.le_of_ble_eq_true rfl) rfl rfl
theorem w170_12 : RB d 170 12 [l0, l1, l2] (.int x :: st) (S, I, R, z) Q = ((x = 0 → RB d 170 31 [l0, l1, l2] st (S, I, R, z) Q) ∧ (¬ x = 0 → RB d 170 15 [l0, l1, l2] st (S, I, R, z) Q)) := RB_eq0 rfl (by decide) rfl
theorem w170_15 : RB d 170 15 [.ref a, l1, l2] st (S, I, R, z) Q = RB d 170 16 [.ref a, l1, l2] (.ref a :: st) (S, I, R, z) Q := RB_aloadn rfl rfl
theorem w170_16 : RB d 170 16 [l0, l1, l2] st (S, I, R, z) Q = RB d 170 18 [l0, l1, l2] (.int 32 :: st) (S, I, R, z) Q := RB_bipush rfl kb32
theorem w170_18 : RB d 170 18 [l0, l1, l2] st (S, I, R, z) Q = RB d 170 19 [l0, l1, l2] (.int 2 :: st) (S, I, R, z) Q := RB_iconst rfl ki2
theorem w170_19 : RB d 170 19 [l0, .int x, l2] st (S, I, R, z) Q = RB d 170 20 [l0, .int x, l2] (.int x :: st) (S, I, R, z) Q := RB_iloadn rfl rfl
theorem w170_20 : RB d 170 20 [l0, l1, l2] (.int y :: .int x :: st) (S, I, R, z) Q = RB d 170 21 [l0, l1, l2] (.int (x * y) :: st) (S, I, R, z) Q := RB_imul rfl
theorem w170_21 : RB d 170 21 [l0, l1, l2] (.int y :: .int x :: st) (S, I, R, z) Q = RB d 170 22 [l0, l1, l2] (.int (x + y) :: st) (S, I, R, z) Q := RB_iadd rfl
theorem w170_22 : RB d 170 22 [l0, l1, l2] st (S, I, R, z) Q = RB d 170 23 [l0, l1, l2] (.int 1 :: st) (S, I, R, z) Q := RB_iconst rfl ki1
theorem w170_23 : RB d 170 23 [l0, l1, l2] (.int y :: .int x :: st) (S, I, R, z) Q = RB d 170 24 [l0, l1, l2] (.int (x + y) :: st) (S, I, R, z) Q := RB_iadd rfl
theorem w170_24 : RB d 170 24 [l0, l1, .int x] st (S, I, R, z) Q = RB d 170 25 [l0, l1, .int x] (.int x :: st) (S, I, R, z) Q := RB_iloadn rfl rfl
set_option maxRecDepth 20000 in
theorem w170_25 : RB d 170 25 [l0, l1, l2] [.int x1, .int x0, .ref a] (S, I, R, z) Q = ((S a).1 = 7 ∧ RM d 142 [.ref a, .int x0, .int x1] (S, I, R, z) (fun v τ => RB d 170 28 [l0, l1, l2] (aPush v []) τ Q)) := RB_callV (n := 3) (t := 0) (k := 107) (ins := .invokevirtual 107) rfl rfl rfl (by decide) (Nat.le_of_ble_eq_true rfl) (Nat.le_of_ble_eq_true rfl) rfl rfl
theorem w170_28 : RB d 170 28 [l0, l1, l2] st (S, I, R, z) Q = RB d 170 33 [l0, l1, l2] st (S, I, R, z) Q := RB_goto rfl (by decide) rfl
theorem w170_31 : RB d 170 31 [l0, l1, l2] st (S, I, R, z) Q = RB d 170 33 [l0, l1, l2] (.int (-1000000001) :: st) (S, I, R, z) Q := RB_ldc rfl rfl
theorem w170_33 : RB d 170 33 [l0, l1, l2] [.int x] (S, I, R, z) Q = Q (some (.int x)) (S, I, R, z) := RB_iret rfl rfl rfl
/-! 171: HangedWordModel.draw -/
theorem w171_0 : RB d 171 0 [.ref a] st (S, I, R, z) Q = RB d 171 1 [.ref a] (.ref a :: st) (S, I, R, z) Q := RB_aloadn rfl rfl
theorem w171_1 : RB d 171 1 [l0] (.ref a :: st) (S, I, R, z) Q = ((S a).1 = 7 ∧ RB d 171 4 [l0] (va_rf (R a 0) :: st) (S, I, R, z) Q) := RB_getR rfl rfl
theorem w171_4 : RB d 171 4 [l0] st (S, I, R, z) Q = RB d 171 5 [l0] (.int 0 :: st) (S, I, R, z) Q := RB_iconst rfl ki0
theorem w171_5 : RB d 171 5 [.ref a] st (S, I, R, z) Q = RB d 171 6 [.ref a] (.ref a :: st) (S, I, R, z) Q := RB_aloadn rfl rfl
theorem w171_6 : RB d 171 6 [l0] (.ref a :: st) (S, I, R, z) Q = ((S a).1 = 7 ∧ RB d 171 9 [l0] (va_rf (R a 0) :: st) (S, I, R, z) Q) := RB_getR rfl rfl
theorem w171_9 : RB d 171 9 [l0] st (S, I, R, z) Q = RB d 171 10 [l0] (.int 0 :: st) (S, I, R, z) Q := RB_iconst rfl ki0
theorem w171_10 : RB d 171 10 [l0] (.int i :: .ref a :: st) (S, I, R, z) Q = (((S a).1 = 9 ∧ aIx i (S a).2) ∧ RB d 171 11 [l0] (.int (I a i.toNatClampNeg) :: st) (S, I, R, z) Q) := RB_iald rfl
theorem w171_11 : RB d 171 11 [l0] st (S, I, R, z) Q = RB d 171 13 [l0] (.int 1103515245 :: st) (S, I, R, z) Q := RB_ldc rfl rfl
theorem w171_13 : RB d 171 13 [l0] (.int y :: .int x :: st) (S, I, R, z) Q = RB d 171 14 [l0] (.int (x * y) :: st) (S, I, R, z) Q := RB_imul rfl
theorem w171_14 : RB d 171 14 [l0] st (S, I, R, z) Q = RB d 171 17 [l0] (.int 12345 :: st) (S, I, R, z) Q := RB_sipush rfl ks12345
theorem w171_17 : RB d 171 17 [l0] (.int y :: .int x :: st) (S, I, R, z) Q = RB d 171 18 [l0] (.int (x + y) :: st) (S, I, R, z) Q := RB_iadd rfl
theorem w171_18 : RB d 171 18 [l0] (.int x :: .int i :: .ref a :: st) (S, I, R, z) Q = (((S a).1 = 9 ∧ aIx i (S a).2 ∧ 16 ≤ a) ∧ RB d 171 19 [l0] st (S, aW I a i.toNatClampNeg x, R, z) Q) := RB_iast rfl
theorem w171_19 : RB d 171 19 [.ref a] st (S, I, R, z) Q = RB d 171 20 [.ref a] (.ref a :: st) (S, I, R, z) Q := RB_aloadn rfl rfl
theorem w171_20 : RB d 171 20 [l0] (.ref a :: st) (S, I, R, z) Q = ((S a).1 = 7 ∧ RB d 171 23 [l0] (va_rf (R a 0) :: st) (S, I, R, z) Q) := RB_getR rfl rfl
theorem w171_23 : RB d 171 23 [l0] st (S, I, R, z) Q = RB d 171 24 [l0] (.int 0 :: st) (S, I, R, z) Q := RB_iconst rfl ki0
theorem w171_24 : RB d 171 24 [l0] (.int i :: .ref a :: st) (S, I, R, z) Q = (((S a).1 = 9 ∧ aIx i (S a).2) ∧ RB d 171 25 [l0] (.int (I a i.toNatClampNeg) :: st) (S, I, R, z) Q) := RB_iald rfl
theorem w171_25 : RB d 171 25 [l0] st (S, I, R, z) Q = RB d 171 27 [l0] (.int 8 :: st) (S, I, R, z) Q := RB_bipush rfl kb8
theorem w171_27 : RB d 171 27 [l0] (.int y :: .int x :: st) (S, I, R, z) Q = RB d 171 28 [l0] (.int ((x.toUInt32 >>> (y.toUInt32 &&& Int32.toUInt32 31)).toInt32) :: st) (S, I, R, z) Q := RB_iushr rfl
theorem w171_28 : RB d 171 28 [l0] [.int x] (S, I, R, z) Q = Q (some (.int x)) (S, I, R, z) := RB_iret rfl rfl rfl
/-! 172: HangedWordModel.deal -/
theorem w172_0 : RB d 172 0 [l0, .int x, l2, l3, l4] st (S, I, R, z) Q = RB d 172 1 [l0, .int x, l2, l3, l4] (.int x :: st) (S, I, R, z) Q := RB_iloadn rfl rfl
theorem w172_1 : RB d 172 1 [l0, l1, l2, l3, l4] st (S, I, R, z) Q = RB d 172 2 [l0, l1, l2, l3, l4] (.int 1 :: st) (S, I, R, z) Q := RB_iconst rfl ki1
theorem w172_2 : RB d 172 2 [l0, l1, l2, l3, l4] st (S, I, R, z) Q = RB d 172 4 [l0, l1, l2, l3, l4] (.int 12 :: st) (S, I, R, z) Q := RB_bipush rfl kb12
set_option maxRecDepth 20000 in
theorem w172_4 : RB d 172 4 [l0, l1, l2, l3, l4] [.int x2, .int x1, .int x0] (S, I, R, z) Q = RM d 135 [.int x0, .int x1, .int x2] (S, I, R, z) (fun v τ => RB d 172 7 [l0, l1, l2, l3, l4] (aPush v []) τ Q) := RB_callS (n := 3) (t := 1) (k := 76) (ins := .invokestatic 76) rfl rfl rfl (Nat.le_of_ble_eq_true rfl) (Nat.le_of_ble_eq_true rfl) rfl rfl
theorem w172_7 : RB d 172 7 [l0, l1, l2, l3, l4] (.int x :: st) (S, I, R, z) Q = ((x = 0 → RB d 172 10 [l0, l1, l2, l3, l4] st (S, I, R, z) Q) ∧ (¬ x = 0 → RB d 172 13 [l0, l1, l2, l3, l4] st (S, I, R, z) Q)) := RB_ne0 rfl (by decide) rfl
theorem w172_10 : RB d 172 10 [l0, l1, l2, l3, l4] st (S, I, R, z) Q = RB d 172 12 [l0, l1, l2, l3, l4] (.int (-1000000001) :: st) (S, I, R, z) Q := RB_ldc rfl rfl
theorem w172_12 : RB d 172 12 [l0, l1, l2, l3, l4] [.int x] (S, I, R, z) Q = Q (some (.int x)) (S, I, R, z) := RB_iret rfl rfl rfl
theorem w172_13 : RB d 172 13 [l0, l1, l2, l3, l4] st (S, I, R, z) Q = RB d 172 14 [l0, l1, l2, l3, l4] (.int 0 :: st) (S, I, R, z) Q := RB_iconst rfl ki0
theorem w172_14 : RB d 172 14 [l0, l1, l2, l3, l4] (.int x :: st) (S, I, R, z) Q = RB d 172 15 [l0, l1, .int x, l3, l4] st (S, I, R, z) Q := RB_istoren rfl (Nat.le_of_ble_eq_true rfl) rfl
theorem w172_15 : RB d 172 15 [l0, l1, .int x, l3, l4] st (S, I, R, z) Q = RB d 172 16 [l0, l1, .int x, l3, l4] (.int x :: st) (S, I, R, z) Q := RB_iloadn rfl rfl
theorem w172_16 : RB d 172 16 [l0, .int x, l2, l3, l4] st (S, I, R, z) Q = RB d 172 17 [l0, .int x, l2, l3, l4] (.int x :: st) (S, I, R, z) Q := RB_iloadn rfl rfl
theorem w172_17 : RB d 172 17 [l0, l1, l2, l3, l4] (.int y :: .int x :: st) (S, I, R, z) Q = ((y ≤ x → RB d 172 62 [l0, l1, l2, l3, l4] st (S, I, R, z) Q) ∧ (¬ y ≤ x → RB d 172 20 [l0, l1, l2, l3, l4] st (S, I, R, z) Q)) := RB_ige rfl (by decide) rfl
theorem w172_20 : RB d 172 20 [.ref a, l1, l2, l3, l4] st (S, I, R, z) Q = RB d 172 21 [.ref a, l1, l2, l3, l4] (.ref a :: st) (S, I, R, z) Q := RB_aloadn rfl rfl
theorem w172_21 : RB d 172 21 [l0, l1, l2, l3, l4] (.ref a :: st) (S, I, R, z) Q = ((S a).1 = 7 ∧ RB d 172 24 [l0, l1, l2, l3, l4] (va_rf (R a 0) :: st) (S, I, R, z) Q) := RB_getR rfl rfl
theorem w172_24 : RB d 172 24 [l0, l1, l2, l3, l4] st (S, I, R, z) Q = RB d 172 25 [l0, l1, l2, l3, l4] (.int 1 :: st) (S, I, R, z) Q := RB_iconst rfl ki1
theorem w172_25 : RB d 172 25 [l0, l1, l2, l3, l4] (.int i :: .ref a :: st) (S, I, R, z) Q = (((S a).1 = 9 ∧ aIx i (S a).2) ∧ RB d 172 26 [l0, l1, l2, l3, l4] (.int (I a i.toNatClampNeg) :: st) (S, I, R, z) Q) := RB_iald rfl
theorem w172_26 : RB d 172 26 [l0, l1, l2, l3, l4] st (S, I, R, z) Q = RB d 172 28 [l0, l1, l2, l3, l4] (.int 12 :: st) (S, I, R, z) Q := RB_bipush rfl kb12
theorem w172_28 : RB d 172 28 [l0, l1, l2, l3, l4] (.int y :: .int x :: st) (S, I, R, z) Q = ((y ≤ x → RB d 172 62 [l0, l1, l2, l3, l4] st (S, I, R, z) Q) ∧ (¬ y ≤ x → RB d 172 31 [l0, l1, l2, l3, l4] st (S, I, R, z) Q)) := RB_ige rfl (by decide) rfl
theorem w172_31 : RB d 172 31 [.ref a, l1, l2, l3, l4] st (S, I, R, z) Q = RB d 172 32 [.ref a, l1, l2, l3, l4] (.ref a :: st) (S, I, R, z) Q := RB_aloadn rfl rfl
set_option maxRecDepth 20000 in
theorem w172_32 : RB d 172 32 [l0, l1, l2, l3, l4] [.ref a] (S, I, R, z) Q = ((S a).1 = 7 ∧ RM d 171 [.ref a] (S, I, R, z) (fun v τ => RB d 172 35 [l0, l1, l2, l3, l4] (aPush v []) τ Q)) := RB_callV (n := 1) (t := 0) (k := 174) (ins := .invokevirtual 174) rfl rfl rfl (by decide) (Nat.le_of_ble_eq_true rfl) (Nat.le_of_ble_eq_true rfl) rfl rfl
theorem w172_35 : RB d 172 35 [l0, l1, l2, l3, l4] st (S, I, R, z) Q = RB d 172 38 [l0, l1, l2, l3, l4] (.int 1296 :: st) (S, I, R, z) Q := RB_sipush rfl ks1296
theorem w172_38 : RB d 172 38 [l0, l1, l2, l3, l4] (.int y :: .int x :: st) (S, I, R, z) Q = (¬ y = 0 ∧ RB d 172 39 [l0, l1, l2, l3, l4] (.int (x % y) :: st) (S, I, R, z) Q) := RB_irem rfl
theorem w172_39 : RB d 172 39 [l0, l1, l2, l3, l4] (.int x :: st) (S, I, R, z) Q = RB d 172 40 [l0, l1, l2, .int x, l4] st (S, I, R, z) Q := RB_istoren rfl (Nat.le_of_ble_eq_true rfl) rfl
theorem w172_40 : RB d 172 40 [.ref a, l1, l2, l3, l4] st (S, I, R, z) Q = RB d 172 41 [.ref a, l1, l2, l3, l4] (.ref a :: st) (S, I, R, z) Q := RB_aloadn rfl rfl
theorem w172_41 : RB d 172 41 [l0, l1, l2, .int x, l4] st (S, I, R, z) Q = RB d 172 42 [l0, l1, l2, .int x, l4] (.int x :: st) (S, I, R, z) Q := RB_iloadn rfl rfl
theorem w172_42 : RB d 172 42 [l0, l1, l2, l3, l4] st (S, I, R, z) Q = RB d 172 43 [l0, l1, l2, l3, l4] (.int 1 :: st) (S, I, R, z) Q := RB_iconst rfl ki1
theorem w172_43 : RB d 172 43 [.ref a, l1, l2, l3, l4] st (S, I, R, z) Q = RB d 172 44 [.ref a, l1, l2, l3, l4] (.ref a :: st) (S, I, R, z) Q := RB_aloadn rfl rfl
set_option maxRecDepth 20000 in
theorem w172_44 : RB d 172 44 [l0, l1, l2, l3, l4] [.ref a, s0, s1, s2] (S, I, R, z) Q = ((S a).1 = 7 ∧ RM d 171 [.ref a] (S, I, R, z) (fun v τ => RB d 172 47 [l0, l1, l2, l3, l4] (aPush v [s0, s1, s2]) τ Q)) := RB_callV (n := 1) (t := 0) (k := 174) (ins := .invokevirtual 174) rfl rfl rfl (by decide) (Nat.le_of_ble_eq_true rfl) (Nat.le_of_ble_eq_true rfl) rfl rfl
theorem w172_47 : RB d 172 47 [l0, l1, l2, l3, l4] st (S, I, R, z) Q = RB d 172 49 [l0, l1, l2, l3, l4] (.int 20 :: st) (S, I, R, z) Q := RB_bipush rfl kb20
theorem w172_49 : RB d 172 49 [l0, l1, l2, l3, l4] (.int y :: .int x :: st) (S, I, R, z) Q = (¬ y = 0 ∧ RB d 172 50 [l0, l1, l2, l3, l4] (.int (x % y) :: st) (S, I, R, z) Q) := RB_irem rfl
theorem w172_50 : RB d 172 50 [l0, l1, l2, l3, l4] (.int y :: .int x :: st) (S, I, R, z) Q = RB d 172 51 [l0, l1, l2, l3, l4] (.int (x + y) :: st) (S, I, R, z) Q := RB_iadd rfl
set_option maxRecDepth 20000 in
theorem w172_51 : RB d 172 51 [l0, l1, l2, l3, l4] [.int x1, .int x0, .ref a] (S, I, R, z) Q = ((S a).1 = 7 ∧ RM d 150 [.ref a, .int x0, .int x1] (S, I, R, z) (fun v τ => RB d 172 54 [l0, l1, l2, l3, l4] (aPush v []) τ Q)) := RB_callV (n := 3) (t := 0) (k := 92) (ins := .invokevirtual 92) rfl rfl rfl (by decide) (Nat.le_of_ble_eq_true rfl) (Nat.le_of_ble_eq_true rfl) rfl rfl
theorem w172_54 : RB d 172 54 [l0, l1, l2, l3, l4] (.int x :: st) (S, I, R, z) Q = RB d 172 56 [l0, l1, l2, l3, .int x] st (S, I, R, z) Q := RB_istore rfl (Nat.le_of_ble_eq_true rfl) rfl
theorem w172_56 : RB d 172 56 [l0, l1, .int x, l3, l4] st (S, I, R, z) Q = RB d 172 59 [l0, l1, .int (x + 1), l3, l4] st (S, I, R, z) Q := RB_iinc rfl rfl (Nat.le_of_ble_eq_true rfl) ki1 rfl
theorem w172_59 : RB d 172 59 [l0, l1, l2, l3, l4] st (S, I, R, z) Q = RB d 172 15 [l0, l1, l2, l3, l4] st (S, I, R, z) Q := RB_goto rfl (by decide) rfl
theorem w172_62 : RB d 172 62 [l0, l1, .int x, l3, l4] st (S, I, R, z) Q = RB d 172 63 [l0, l1, .int x, l3, l4] (.int x :: st) (S, I, R, z) Q := RB_iloadn rfl rfl
theorem w172_63 : RB d 172 63 [l0, l1, l2, l3, l4] [.int x] (S, I, R, z) Q = Q (some (.int x)) (S, I, R, z) := RB_iret rfl rfl rfl
/-! 173: HangedWordModel.seed -/
theorem w173_0 : RB d 173 0 [.ref a, l1] st (S, I, R, z) Q = RB d 173 1 [.ref a, l1] (.ref a :: st) (S, I, R, z) Q := RB_aloadn rfl rfl
theorem w173_1 : RB d 173 1 [l0, l1] st (S, I, R, z) Q = RB d 173 2 [l0, l1] (.int 0 :: st) (S, I, R, z) Q := RB_iconst rfl ki0
theorem w173_2 : RB d 173 2 [l0, .int x] st (S, I, R, z) Q = RB d 173 3 [l0, .int x] (.int x :: st) (S, I, R, z) Q := RB_iloadn rfl rfl
set_option maxRecDepth 20000 in
theorem w173_3 : RB d 173 3 [l0, l1] [.int x1, .int x0, .ref a] (S, I, R, z) Q = ((S a).1 = 7 ∧ RM d 142 [.ref a, .int x0, .int x1] (S, I, R, z) (fun v τ => RB d 173 6 [l0, l1] (aPush v []) τ Q)) := RB_callV (n := 3) (t := 0) (k := 107) (ins := .invokevirtual 107) rfl rfl rfl (by decide) (Nat.le_of_ble_eq_true rfl) (Nat.le_of_ble_eq_true rfl) rfl rfl
theorem w173_6 : RB d 173 6 [l0, l1] [.int x] (S, I, R, z) Q = Q (some (.int x)) (S, I, R, z) := RB_iret rfl rfl rfl
/-! 174: HangedWordModel.hides -/
theorem w174_0 : RB d 174 0 [.ref a, l1] st (S, I, R, z) Q = RB d 174 1 [.ref a, l1] (.ref a :: st) (S, I, R, z) Q := RB_aloadn rfl rfl
theorem w174_1 : RB d 174 1 [l0, l1] (.ref a :: st) (S, I, R, z) Q = ((S a).1 = 7 ∧ RB d 174 4 [l0, l1] (va_rf (R a 0) :: st) (S, I, R, z) Q) := RB_getR rfl rfl
theorem w174_4 : RB d 174 4 [l0, l1] st (S, I, R, z) Q = RB d 174 5 [l0, l1] (.int 3 :: st) (S, I, R, z) Q := RB_iconst rfl ki3
theorem w174_5 : RB d 174 5 [l0, .int x] st (S, I, R, z) Q = RB d 174 6 [l0, .int x] (.int x :: st) (S, I, R, z) Q := RB_iloadn rfl rfl
theorem w174_6 : RB d 174 6 [l0, l1] (.int x :: .int i :: .ref a :: st) (S, I, R, z) Q = (((S a).1 = 9 ∧ aIx i (S a).2 ∧ 16 ≤ a) ∧ RB d 174 7 [l0, l1] st (S, aW I a i.toNatClampNeg x, R, z) Q) := RB_iast rfl
theorem w174_7 : RB d 174 7 [.ref a, l1] st (S, I, R, z) Q = RB d 174 8 [.ref a, l1] (.ref a :: st) (S, I, R, z) Q := RB_aloadn rfl rfl
theorem w174_8 : RB d 174 8 [l0, l1] (.ref a :: st) (S, I, R, z) Q = ((S a).1 = 7 ∧ RB d 174 11 [l0, l1] (va_rf (R a 0) :: st) (S, I, R, z) Q) := RB_getR rfl rfl
theorem w174_11 : RB d 174 11 [l0, l1] st (S, I, R, z) Q = RB d 174 12 [l0, l1] (.int 4 :: st) (S, I, R, z) Q := RB_iconst rfl ki4
theorem w174_12 : RB d 174 12 [l0, l1] st (S, I, R, z) Q = RB d 174 13 [l0, l1] (.int 0 :: st) (S, I, R, z) Q := RB_iconst rfl ki0
theorem w174_13 : RB d 174 13 [l0, l1] (.int x :: .int i :: .ref a :: st) (S, I, R, z) Q = (((S a).1 = 9 ∧ aIx i (S a).2 ∧ 16 ≤ a) ∧ RB d 174 14 [l0, l1] st (S, aW I a i.toNatClampNeg x, R, z) Q) := RB_iast rfl
theorem w174_14 : RB d 174 14 [.ref a, l1] st (S, I, R, z) Q = RB d 174 15 [.ref a, l1] (.ref a :: st) (S, I, R, z) Q := RB_aloadn rfl rfl
theorem w174_15 : RB d 174 15 [l0, l1] (.ref a :: st) (S, I, R, z) Q = ((S a).1 = 7 ∧ RB d 174 18 [l0, l1] (va_rf (R a 0) :: st) (S, I, R, z) Q) := RB_getR rfl rfl
theorem w174_18 : RB d 174 18 [l0, l1] st (S, I, R, z) Q = RB d 174 19 [l0, l1] (.int 5 :: st) (S, I, R, z) Q := RB_iconst rfl ki5
theorem w174_19 : RB d 174 19 [l0, l1] st (S, I, R, z) Q = RB d 174 20 [l0, l1] (.int 0 :: st) (S, I, R, z) Q := RB_iconst rfl ki0
theorem w174_20 : RB d 174 20 [l0, l1] (.int x :: .int i :: .ref a :: st) (S, I, R, z) Q = (((S a).1 = 9 ∧ aIx i (S a).2 ∧ 16 ≤ a) ∧ RB d 174 21 [l0, l1] st (S, aW I a i.toNatClampNeg x, R, z) Q) := RB_iast rfl
theorem w174_21 : RB d 174 21 [l0, l1] [] (S, I, R, z) Q = Q none (S, I, R, z) := RB_ret rfl rfl
/-! 175: HangedWordModel.hide -/
theorem w175_0 : RB d 175 0 [.ref a, l1] st (S, I, R, z) Q = RB d 175 1 [.ref a, l1] (.ref a :: st) (S, I, R, z) Q := RB_aloadn rfl rfl
theorem w175_1 : RB d 175 1 [l0, .int x] st (S, I, R, z) Q = RB d 175 2 [l0, .int x] (.int x :: st) (S, I, R, z) Q := RB_iloadn rfl rfl
set_option maxRecDepth 20000 in
theorem w175_2 : RB d 175 2 [l0, l1] [.int x0, .ref a] (S, I, R, z) Q = ((S a).1 = 7 ∧ RM d 139 [.ref a, .int x0] (S, I, R, z) (fun v τ => RB d 175 5 [l0, l1] (aPush v []) τ Q)) := RB_callV (n := 2) (t := 0) (k := 95) (ins := .invokevirtual 95) rfl rfl rfl (by decide) (Nat.le_of_ble_eq_true rfl) (Nat.le_of_ble_eq_true rfl) rfl rfl
theorem w175_5 : RB d 175 5 [l0, l1] (.int x :: st) (S, I, R, z) Q = ((x = 0 → RB d 175 8 [l0, l1] st (S, I, R, z) Q) ∧ (¬ x = 0 → RB d 175 11 [l0, l1] st (S, I, R, z) Q)) := RB_ne0 rfl (by decide) rfl
theorem w175_8 : RB d 175 8 [l0, l1] st (S, I, R, z) Q = RB d 175 10 [l0, l1] (.int (-1000000001) :: st) (S, I, R, z) Q := RB_ldc rfl rfl
theorem w175_10 : RB d 175 10 [l0, l1] [.int x] (S, I, R, z) Q = Q (some (.int x)) (S, I, R, z) := RB_iret rfl rfl rfl
theorem w175_11 : RB d 175 11 [.ref a, l1] st (S, I, R, z) Q = RB d 175 12 [.ref a, l1] (.ref a :: st) (S, I, R, z) Q := RB_aloadn rfl rfl
theorem w175_12 : RB d 175 12 [l0, .int x] st (S, I, R, z) Q = RB d 175 13 [l0, .int x] (.int x :: st) (S, I, R, z) Q := RB_iloadn rfl rfl
set_option maxRecDepth 20000 in
theorem w175_13 : RB d 175 13 [l0, l1] [.int x0, .ref a] (S, I, R, z) Q = ((S a).1 = 7 ∧ RM d 174 [.ref a, .int x0] (S, I, R, z) (fun v τ => RB d 175 16 [l0, l1] (aPush v []) τ Q)) := RB_callV (n := 2) (t := 0) (k := 177) (ins := .invokevirtual 177) rfl rfl rfl (by decide) (Nat.le_of_ble_eq_true rfl) (Nat.le_of_ble_eq_true rfl) rfl rfl
theorem w175_16 : RB d 175 16 [.ref a, l1] st (S, I, R, z) Q = RB d 175 17 [.ref a, l1] (.ref a :: st) (S, I, R, z) Q := RB_aloadn rfl rfl
set_option maxRecDepth 20000 in
theorem w175_17 : RB d 175 17 [l0, l1] [.ref a] (S, I, R, z) Q = ((S a).1 = 7 ∧ RM d 149 [.ref a] (S, I, R, z) (fun v τ => RB d 175 20 [l0, l1] (aPush v []) τ Q)) := RB_callV (n := 1) (t := 0) (k := 103) (ins := .invokevirtual 103) rfl rfl rfl (by decide) (Nat.le_of_ble_eq_true rfl) (Nat.le_of_ble_eq_true rfl) rfl rfl
set_option maxRecDepth 20000 in
theorem w175_20 : RB d 175 20 [l0, l1] [.int x0] (S, I, R, z) Q = RM d 143 [.int x0] (S, I, R, z) (fun v τ => RB d 175 23 [l0, l1] (aPush v []) τ Q) := RB_callS (n := 1) (t := 1) (k := 132) (ins := .invokestatic 132) rfl rfl rfl (Nat.le_of_ble_eq_true rfl) (Nat.le_of_ble_eq_true rfl) rfl rfl
theorem w175_23 : RB d 175 23 [l0, l1] [.int x] (S, I, R, z) Q = Q (some (.int x)) (S, I, R, z) := RB_iret rfl rfl rfl
/-! 176: HangedWordModel.isHad -/
theorem w176_0 : RB d 176 0 [.ref a] st (S, I, R, z) Q = RB d 176 1 [.ref a] (.ref a :: st) (S, I, R, z) Q := RB_aloadn rfl rfl
theorem w176_1 : RB d 176 1 [l0] (.ref a :: st) (S, I, R, z) Q = ((S a).1 = 7 ∧ RB d 176 4 [l0] (va_rf (R a 0) :: st) (S, I, R, z) Q) := RB_getR rfl rfl
theorem w176_4 : RB d 176 4 [l0] st (S, I, R, z) Q = RB d 176 5 [l0] (.int 3 :: st) (S, I, R, z) Q := RB_iconst rfl ki3
theorem w176_5 : RB d 176 5 [l0] (.int i :: .ref a :: st) (S, I, R, z) Q = (((S a).1 = 9 ∧ aIx i (S a).2) ∧ RB d 176 6 [l0] (.int (I a i.toNatClampNeg) :: st) (S, I, R, z) Q) := RB_iald rfl
theorem w176_6 : RB d 176 6 [l0] (.int x :: st) (S, I, R, z) Q = ((x < 0 → RB d 176 35 [l0] st (S, I, R, z) Q) ∧ (¬ x < 0 → RB d 176 9 [l0] st (S, I, R, z) Q)) := RB_lt0 rfl (by decide) rfl
theorem w176_9 : RB d 176 9 [.ref a] st (S, I, R, z) Q = RB d 176 10 [.ref a] (.ref a :: st) (S, I, R, z) Q := RB_aloadn rfl rfl
theorem w176_10 : RB d 176 10 [.ref a] st (S, I, R, z) Q = RB d 176 11 [.ref a] (.ref a :: st) (S, I, R, z) Q := RB_aloadn rfl rfl
theorem w176_11 : RB d 176 11 [l0] (.ref a :: st) (S, I, R, z) Q = ((S a).1 = 7 ∧ RB d 176 14 [l0] (va_rf (R a 0) :: st) (S, I, R, z) Q) := RB_getR rfl rfl
theorem w176_14 : RB d 176 14 [l0] st (S, I, R, z) Q = RB d 176 15 [l0] (.int 3 :: st) (S, I, R, z) Q := RB_iconst rfl ki3
theorem w176_15 : RB d 176 15 [l0] (.int i :: .ref a :: st) (S, I, R, z) Q = (((S a).1 = 9 ∧ aIx i (S a).2) ∧ RB d 176 16 [l0] (.int (I a i.toNatClampNeg) :: st) (S, I, R, z) Q) := RB_iald rfl
set_option maxRecDepth 20000 in
theorem w176_16 : RB d 176 16 [l0] [.int x0, .ref a] (S, I, R, z) Q = ((S a).1 = 7 ∧ RM d 147 [.ref a, .int x0] (S, I, R, z) (fun v τ => RB d 176 19 [l0] (aPush v []) τ Q)) := RB_callV (n := 2) (t := 0) (k := 99) (ins := .invokevirtual 99) rfl rfl rfl (by decide) (Nat.le_of_ble_eq_true rfl) (Nat.le_of_ble_eq_true rfl) rfl rfl
theorem w176_19 : RB d 176 19 [.ref a] st (S, I, R, z) Q = RB d 176 20 [.ref a] (.ref a :: st) (S, I, R, z) Q := RB_aloadn rfl rfl
theorem w176_20 : RB d 176 20 [l0] (.ref a :: st) (S, I, R, z) Q = ((S a).1 = 7 ∧ RB d 176 23 [l0] (va_rf (R a 0) :: st) (S, I, R, z) Q) := RB_getR rfl rfl
theorem w176_23 : RB d 176 23 [l0] st (S, I, R, z) Q = RB d 176 24 [l0] (.int 4 :: st) (S, I, R, z) Q := RB_iconst rfl ki4
theorem w176_24 : RB d 176 24 [l0] (.int i :: .ref a :: st) (S, I, R, z) Q = (((S a).1 = 9 ∧ aIx i (S a).2) ∧ RB d 176 25 [l0] (.int (I a i.toNatClampNeg) :: st) (S, I, R, z) Q) := RB_iald rfl
theorem w176_25 : RB d 176 25 [l0] st (S, I, R, z) Q = RB d 176 26 [l0] (.int (-1) :: st) (S, I, R, z) Q := RB_iconst rfl kim1
theorem w176_26 : RB d 176 26 [l0] (.int y :: .int x :: st) (S, I, R, z) Q = RB d 176 27 [l0] (.int (x ^^^ y) :: st) (S, I, R, z) Q := RB_ixor rfl
theorem w176_27 : RB d 176 27 [l0] (.int y :: .int x :: st) (S, I, R, z) Q = RB d 176 28 [l0] (.int (x &&& y) :: st) (S, I, R, z) Q := RB_iand rfl
theorem w176_28 : RB d 176 28 [l0] (.int x :: st) (S, I, R, z) Q = ((x = 0 → RB d 176 31 [l0] st (S, I, R, z) Q) ∧ (¬ x = 0 → RB d 176 35 [l0] st (S, I, R, z) Q)) := RB_ne0 rfl (by decide) rfl
theorem w176_31 : RB d 176 31 [l0] st (S, I, R, z) Q = RB d 176 32 [l0] (.int 1 :: st) (S, I, R, z) Q := RB_iconst rfl ki1
theorem w176_32 : RB d 176 32 [l0] st (S, I, R, z) Q = RB d 176 36 [l0] st (S, I, R, z) Q := RB_goto rfl (by decide) rfl
theorem w176_35 : RB d 176 35 [l0] st (S, I, R, z) Q = RB d 176 36 [l0] (.int 0 :: st) (S, I, R, z) Q := RB_iconst rfl ki0
theorem w176_36 : RB d 176 36 [l0] [.int x] (S, I, R, z) Q = (narrow .boolean (.int x) = .int x ∧ Q (some (.int x)) (S, I, R, z)) := RB_zret rfl rfl (Or.inl rfl)
/-! 177: HangedWordModel.isHung -/
theorem w177_0 : RB d 177 0 [.ref a] st (S, I, R, z) Q = RB d 177 1 [.ref a] (.ref a :: st) (S, I, R, z) Q := RB_aloadn rfl rfl
theorem w177_1 : RB d 177 1 [l0] (.ref a :: st) (S, I, R, z) Q = ((S a).1 = 7 ∧ RB d 177 4 [l0] (va_rf (R a 0) :: st) (S, I, R, z) Q) := RB_getR rfl rfl
theorem w177_4 : RB d 177 4 [l0] st (S, I, R, z) Q = RB d 177 5 [l0] (.int 3 :: st) (S, I, R, z) Q := RB_iconst rfl ki3
theorem w177_5 : RB d 177 5 [l0] (.int i :: .ref a :: st) (S, I, R, z) Q = (((S a).1 = 9 ∧ aIx i (S a).2) ∧ RB d 177 6 [l0] (.int (I a i.toNatClampNeg) :: st) (S, I, R, z) Q) := RB_iald rfl
theorem w177_6 : RB d 177 6 [l0] (.int x :: st) (S, I, R, z) Q = ((x < 0 → RB d 177 36 [l0] st (S, I, R, z) Q) ∧ (¬ x < 0 → RB d 177 9 [l0] st (S, I, R, z) Q)) := RB_lt0 rfl (by decide) rfl
theorem w177_9 : RB d 177 9 [.ref a] st (S, I, R, z) Q = RB d 177 10 [.ref a] (.ref a :: st) (S, I, R, z) Q := RB_aloadn rfl rfl
set_option maxRecDepth 20000 in
theorem w177_10 : RB d 177 10 [l0] [.ref a] (S, I, R, z) Q = ((S a).1 = 7 ∧ RM d 176 [.ref a] (S, I, R, z) (fun v τ => RB d 177 13 [l0] (aPush v []) τ Q)) := RB_callV (n := 1) (t := 0) (k := 181) (ins := .invokevirtual 181) rfl rfl rfl (by decide) (Nat.le_of_ble_eq_true rfl) (Nat.le_of_ble_eq_true rfl) rfl rfl
theorem w177_13 : RB d 177 13 [l0] (.int x :: st) (S, I, R, z) Q = ((x = 0 → RB d 177 16 [l0] st (S, I, R, z) Q) ∧ (¬ x = 0 → RB d 177 36 [l0] st (S, I, R, z) Q)) := RB_ne0 rfl (by decide) rfl
theorem w177_16 : RB d 177 16 [.ref a] st (S, I, R, z) Q = RB d 177 17 [.ref a] (.ref a :: st) (S, I, R, z) Q := RB_aloadn rfl rfl
theorem w177_17 : RB d 177 17 [l0] (.ref a :: st) (S, I, R, z) Q = ((S a).1 = 7 ∧ RB d 177 20 [l0] (va_rf (R a 0) :: st) (S, I, R, z) Q) := RB_getR rfl rfl
theorem w177_20 : RB d 177 20 [l0] st (S, I, R, z) Q = RB d 177 21 [l0] (.int 5 :: st) (S, I, R, z) Q := RB_iconst rfl ki5
theorem w177_21 : RB d 177 21 [l0] (.int i :: .ref a :: st) (S, I, R, z) Q = (((S a).1 = 9 ∧ aIx i (S a).2) ∧ RB d 177 22 [l0] (.int (I a i.toNatClampNeg) :: st) (S, I, R, z) Q) := RB_iald rfl
theorem w177_22 : RB d 177 22 [.ref a] st (S, I, R, z) Q = RB d 177 23 [.ref a] (.ref a :: st) (S, I, R, z) Q := RB_aloadn rfl rfl
theorem w177_23 : RB d 177 23 [l0] (.ref a :: st) (S, I, R, z) Q = ((S a).1 = 7 ∧ RB d 177 26 [l0] (va_rf (R a 0) :: st) (S, I, R, z) Q) := RB_getR rfl rfl
theorem w177_26 : RB d 177 26 [l0] st (S, I, R, z) Q = RB d 177 28 [l0] (.int 6 :: st) (S, I, R, z) Q := RB_bipush rfl kb6
theorem w177_28 : RB d 177 28 [l0] (.int i :: .ref a :: st) (S, I, R, z) Q = (((S a).1 = 9 ∧ aIx i (S a).2) ∧ RB d 177 29 [l0] (.int (I a i.toNatClampNeg) :: st) (S, I, R, z) Q) := RB_iald rfl
theorem w177_29 : RB d 177 29 [l0] (.int y :: .int x :: st) (S, I, R, z) Q = ((x < y → RB d 177 36 [l0] st (S, I, R, z) Q) ∧ (¬ x < y → RB d 177 32 [l0] st (S, I, R, z) Q)) := RB_ilt rfl (by decide) rfl
theorem w177_32 : RB d 177 32 [l0] st (S, I, R, z) Q = RB d 177 33 [l0] (.int 1 :: st) (S, I, R, z) Q := RB_iconst rfl ki1
theorem w177_33 : RB d 177 33 [l0] st (S, I, R, z) Q = RB d 177 37 [l0] st (S, I, R, z) Q := RB_goto rfl (by decide) rfl
theorem w177_36 : RB d 177 36 [l0] st (S, I, R, z) Q = RB d 177 37 [l0] (.int 0 :: st) (S, I, R, z) Q := RB_iconst rfl ki0
theorem w177_37 : RB d 177 37 [l0] [.int x] (S, I, R, z) Q = (narrow .boolean (.int x) = .int x ∧ Q (some (.int x)) (S, I, R, z)) := RB_zret rfl rfl (Or.inl rfl)
/-! 178: HangedWordModel.asksOne -/
theorem w178_0 : RB d 178 0 [.ref a, l1, l2] st (S, I, R, z) Q = RB d 178 1 [.ref a, l1, l2] (.ref a :: st) (S, I, R, z) Q := RB_aloadn rfl rfl
theorem w178_1 : RB d 178 1 [.ref a, l1, l2] st (S, I, R, z) Q = RB d 178 2 [.ref a, l1, l2] (.ref a :: st) (S, I, R, z) Q := RB_aloadn rfl rfl
theorem w178_2 : RB d 178 2 [l0, l1, l2] (.ref a :: st) (S, I, R, z) Q = ((S a).1 = 7 ∧ RB d 178 5 [l0, l1, l2] (va_rf (R a 0) :: st) (S, I, R, z) Q) := RB_getR rfl rfl
theorem w178_5 : RB d 178 5 [l0, l1, l2] st (S, I, R, z) Q = RB d 178 6 [l0, l1, l2] (.int 3 :: st) (S, I, R, z) Q := RB_iconst rfl ki3
theorem w178_6 : RB d 178 6 [l0, l1, l2] (.int i :: .ref a :: st) (S, I, R, z) Q = (((S a).1 = 9 ∧ aIx i (S a).2) ∧ RB d 178 7 [l0, l1, l2] (.int (I a i.toNatClampNeg) :: st) (S, I, R, z) Q) := RB_iald rfl
theorem w178_7 : RB d 178 7 [l0, .int x, l2] st (S, I, R, z) Q = RB d 178 8 [l0, .int x, l2] (.int x :: st) (S, I, R, z) Q := RB_iloadn rfl rfl
set_option maxRecDepth 20000 in
theorem w178_8 : RB d 178 8 [l0, l1, l2] [.int x1, .int x0, .ref a] (S, I, R, z) Q = ((S a).1 = 7 ∧ RM d 146 [.ref a, .int x0, .int x1] (S, I, R, z) (fun v τ => RB d 178 11 [l0, l1, l2] (aPush v []) τ Q)) := RB_callV (n := 3) (t := 0) (k := 113) (ins := .invokevirtual 113) rfl rfl rfl (by decide) (Nat.le_of_ble_eq_true rfl) (Nat.le_of_ble_eq_true rfl) rfl rfl
theorem w178_11 : RB d 178 11 [l0, l1, l2] (.int x :: st) (S, I, R, z) Q = RB d 178 12 [l0, l1, .int x] st (S, I, R, z) Q := RB_istoren rfl (Nat.le_of_ble_eq_true rfl) rfl
theorem w178_12 : RB d 178 12 [.ref a, l1, l2] st (S, I, R, z) Q = RB d 178 13 [.ref a, l1, l2] (.ref a :: st) (S, I, R, z) Q := RB_aloadn rfl rfl
theorem w178_13 : RB d 178 13 [l0, l1, l2] (.ref a :: st) (S, I, R, z) Q = ((S a).1 = 7 ∧ RB d 178 16 [l0, l1, l2] (va_rf (R a 0) :: st) (S, I, R, z) Q) := RB_getR rfl rfl
theorem w178_16 : RB d 178 16 [l0, l1, l2] st (S, I, R, z) Q = RB d 178 17 [l0, l1, l2] (.int 4 :: st) (S, I, R, z) Q := RB_iconst rfl ki4
theorem w178_17 : RB d 178 17 [l0, l1, l2] (v :: w :: st) (S, I, R, z) Q = RB d 178 18 [l0, l1, l2] (v :: w :: v :: w :: st) (S, I, R, z) Q := RB_dup2 rfl
theorem w178_18 : RB d 178 18 [l0, l1, l2] (.int i :: .ref a :: st) (S, I, R, z) Q = (((S a).1 = 9 ∧ aIx i (S a).2) ∧ RB d 178 19 [l0, l1, l2] (.int (I a i.toNatClampNeg) :: st) (S, I, R, z) Q) := RB_iald rfl
theorem w178_19 : RB d 178 19 [l0, l1, l2] st (S, I, R, z) Q = RB d 178 20 [l0, l1, l2] (.int 1 :: st) (S, I, R, z) Q := RB_iconst rfl ki1
theorem w178_20 : RB d 178 20 [l0, .int x, l2] st (S, I, R, z) Q = RB d 178 21 [l0, .int x, l2] (.int x :: st) (S, I, R, z) Q := RB_iloadn rfl rfl
theorem w178_21 : RB d 178 21 [l0, l1, l2] (.int y :: .int x :: st) (S, I, R, z) Q = RB d 178 22 [l0, l1, l2] (.int (x <<< (y &&& 31)) :: st) (S, I, R, z) Q := RB_ishl rfl
theorem w178_22 : RB d 178 22 [l0, l1, l2] (.int y :: .int x :: st) (S, I, R, z) Q = RB d 178 23 [l0, l1, l2] (.int (x ||| y) :: st) (S, I, R, z) Q := RB_ior rfl
theorem w178_23 : RB d 178 23 [l0, l1, l2] (.int x :: .int i :: .ref a :: st) (S, I, R, z) Q = (((S a).1 = 9 ∧ aIx i (S a).2 ∧ 16 ≤ a) ∧ RB d 178 24 [l0, l1, l2] st (S, aW I a i.toNatClampNeg x, R, z) Q) := RB_iast rfl
theorem w178_24 : RB d 178 24 [.ref a, l1, l2] st (S, I, R, z) Q = RB d 178 25 [.ref a, l1, l2] (.ref a :: st) (S, I, R, z) Q := RB_aloadn rfl rfl
theorem w178_25 : RB d 178 25 [l0, l1, l2] (.ref a :: st) (S, I, R, z) Q = ((S a).1 = 7 ∧ RB d 178 28 [l0, l1, l2] (va_rf (R a 0) :: st) (S, I, R, z) Q) := RB_getR rfl rfl
theorem w178_28 : RB d 178 28 [l0, l1, l2] st (S, I, R, z) Q = RB d 178 29 [l0, l1, l2] (.int 5 :: st) (S, I, R, z) Q := RB_iconst rfl ki5
theorem w178_29 : RB d 178 29 [l0, l1, l2] (v :: w :: st) (S, I, R, z) Q = RB d 178 30 [l0, l1, l2] (v :: w :: v :: w :: st) (S, I, R, z) Q := RB_dup2 rfl
theorem w178_30 : RB d 178 30 [l0, l1, l2] (.int i :: .ref a :: st) (S, I, R, z) Q = (((S a).1 = 9 ∧ aIx i (S a).2) ∧ RB d 178 31 [l0, l1, l2] (.int (I a i.toNatClampNeg) :: st) (S, I, R, z) Q) := RB_iald rfl
theorem w178_31 : RB d 178 31 [l0, l1, .int x] st (S, I, R, z) Q = RB d 178 32 [l0, l1, .int x] (.int x :: st) (S, I, R, z) Q := RB_iloadn rfl rfl
theorem w178_32 : RB d 178 32 [l0, l1, l2] (.int x :: st) (S, I, R, z) Q = ((x = 0 → RB d 178 35 [l0, l1, l2] st (S, I, R, z) Q) ∧ (¬ x = 0 → RB d 178 39 [l0, l1, l2] st (S, I, R, z) Q)) := RB_ne0 rfl (by decide) rfl
theorem w178_35 : RB d 178 35 [l0, l1, l2] st (S, I, R, z) Q = RB d 178 36 [l0, l1, l2] (.int 1 :: st) (S, I, R, z) Q := RB_iconst rfl ki1
theorem w178_36 : RB d 178 36 [l0, l1, l2] st (S, I, R, z) Q = RB d 178 40 [l0, l1, l2] st (S, I, R, z) Q := RB_goto rfl (by decide) rfl
theorem w178_39 : RB d 178 39 [l0, l1, l2] st (S, I, R, z) Q = RB d 178 40 [l0, l1, l2] (.int 0 :: st) (S, I, R, z) Q := RB_iconst rfl ki0
theorem w178_40 : RB d 178 40 [l0, l1, l2] (.int y :: .int x :: st) (S, I, R, z) Q = RB d 178 41 [l0, l1, l2] (.int (x + y) :: st) (S, I, R, z) Q := RB_iadd rfl
theorem w178_41 : RB d 178 41 [l0, l1, l2] (.int x :: .int i :: .ref a :: st) (S, I, R, z) Q = (((S a).1 = 9 ∧ aIx i (S a).2 ∧ 16 ≤ a) ∧ RB d 178 42 [l0, l1, l2] st (S, aW I a i.toNatClampNeg x, R, z) Q) := RB_iast rfl
theorem w178_42 : RB d 178 42 [l0, l1, .int x] st (S, I, R, z) Q = RB d 178 43 [l0, l1, .int x] (.int x :: st) (S, I, R, z) Q := RB_iloadn rfl rfl
theorem w178_43 : RB d 178 43 [l0, l1, l2] [.int x] (S, I, R, z) Q = Q (some (.int x)) (S, I, R, z) := RB_iret rfl rfl rfl
/-! 179: HangedWordModel.asks -/
theorem w179_0 : RB d 179 0 [l0, .int x] st (S, I, R, z) Q = RB d 179 1 [l0, .int x] (.int x :: st) (S, I, R, z) Q := RB_iloadn rfl rfl
set_option maxRecDepth 20000 in
theorem w179_1 : RB d 179 1 [l0, l1] [.int x0] (S, I, R, z) Q = RM d 141 [.int x0] (S, I, R, z) (fun v τ => RB d 179 4 [l0, l1] (aPush v []) τ Q) := RB_callS (n := 1) (t := 1) (k := 110) (ins := .invokestatic 110) rfl rfl rfl (Nat.le_of_ble_eq_true rfl) (Nat.le_of_ble_eq_true rfl) rfl rfl
theorem w179_4 : RB d 179 4 [l0, l1] (.int x :: st) (S, I, R, z) Q = ((x = 0 → RB d 179 7 [l0, l1] st (S, I, R, z) Q) ∧ (¬ x = 0 → RB d 179 10 [l0, l1] st (S, I, R, z) Q)) := RB_ne0 rfl (by decide) rfl
theorem w179_7 : RB d 179 7 [l0, l1] st (S, I, R, z) Q = RB d 179 9 [l0, l1] (.int (-1000000001) :: st) (S, I, R, z) Q := RB_ldc rfl rfl
theorem w179_9 : RB d 179 9 [l0, l1] [.int x] (S, I, R, z) Q = Q (some (.int x)) (S, I, R, z) := RB_iret rfl rfl rfl
theorem w179_10 : RB d 179 10 [.ref a, l1] st (S, I, R, z) Q = RB d 179 11 [.ref a, l1] (.ref a :: st) (S, I, R, z) Q := RB_aloadn rfl rfl
theorem w179_11 : RB d 179 11 [l0, l1] (.ref a :: st) (S, I, R, z) Q = ((S a).1 = 7 ∧ RB d 179 14 [l0, l1] (va_rf (R a 0) :: st) (S, I, R, z) Q) := RB_getR rfl rfl
theorem w179_14 : RB d 179 14 [l0, l1] st (S, I, R, z) Q = RB d 179 15 [l0, l1] (.int 3 :: st) (S, I, R, z) Q := RB_iconst rfl ki3
theorem w179_15 : RB d 179 15 [l0, l1] (.int i :: .ref a :: st) (S, I, R, z) Q = (((S a).1 = 9 ∧ aIx i (S a).2) ∧ RB d 179 16 [l0, l1] (.int (I a i.toNatClampNeg) :: st) (S, I, R, z) Q) := RB_iald rfl
theorem w179_16 : RB d 179 16 [l0, l1] (.int x :: st) (S, I, R, z) Q = ((x < 0 → RB d 179 47 [l0, l1] st (S, I, R, z) Q) ∧ (¬ x < 0 → RB d 179 19 [l0, l1] st (S, I, R, z) Q)) := RB_lt0 rfl (by decide) rfl
theorem w179_19 : RB d 179 19 [.ref a, l1] st (S, I, R, z) Q = RB d 179 20 [.ref a, l1] (.ref a :: st) (S, I, R, z) Q := RB_aloadn rfl rfl
theorem w179_20 : RB d 179 20 [l0, l1] (.ref a :: st) (S, I, R, z) Q = ((S a).1 = 7 ∧ RB d 179 23 [l0, l1] (va_rf (R a 0) :: st) (S, I, R, z) Q) := RB_getR rfl rfl
theorem w179_23 : RB d 179 23 [l0, l1] st (S, I, R, z) Q = RB d 179 24 [l0, l1] (.int 4 :: st) (S, I, R, z) Q := RB_iconst rfl ki4
theorem w179_24 : RB d 179 24 [l0, l1] (.int i :: .ref a :: st) (S, I, R, z) Q = (((S a).1 = 9 ∧ aIx i (S a).2) ∧ RB d 179 25 [l0, l1] (.int (I a i.toNatClampNeg) :: st) (S, I, R, z) Q) := RB_iald rfl
theorem w179_25 : RB d 179 25 [l0, .int x] st (S, I, R, z) Q = RB d 179 26 [l0, .int x] (.int x :: st) (S, I, R, z) Q := RB_iloadn rfl rfl
theorem w179_26 : RB d 179 26 [l0, l1] (.int y :: .int x :: st) (S, I, R, z) Q = RB d 179 27 [l0, l1] (.int (x >>> (y &&& 31)) :: st) (S, I, R, z) Q := RB_ishr rfl
theorem w179_27 : RB d 179 27 [l0, l1] st (S, I, R, z) Q = RB d 179 28 [l0, l1] (.int 1 :: st) (S, I, R, z) Q := RB_iconst rfl ki1
theorem w179_28 : RB d 179 28 [l0, l1] (.int y :: .int x :: st) (S, I, R, z) Q = RB d 179 29 [l0, l1] (.int (x &&& y) :: st) (S, I, R, z) Q := RB_iand rfl
theorem w179_29 : RB d 179 29 [l0, l1] st (S, I, R, z) Q = RB d 179 30 [l0, l1] (.int 1 :: st) (S, I, R, z) Q := RB_iconst rfl ki1
theorem w179_30 : RB d 179 30 [l0, l1] (.int y :: .int x :: st) (S, I, R, z) Q = ((x = y → RB d 179 47 [l0, l1] st (S, I, R, z) Q) ∧ (¬ x = y → RB d 179 33 [l0, l1] st (S, I, R, z) Q)) := RB_ieq rfl (by decide) rfl
theorem w179_33 : RB d 179 33 [.ref a, l1] st (S, I, R, z) Q = RB d 179 34 [.ref a, l1] (.ref a :: st) (S, I, R, z) Q := RB_aloadn rfl rfl
set_option maxRecDepth 20000 in
theorem w179_34 : RB d 179 34 [l0, l1] [.ref a] (S, I, R, z) Q = ((S a).1 = 7 ∧ RM d 176 [.ref a] (S, I, R, z) (fun v τ => RB d 179 37 [l0, l1] (aPush v []) τ Q)) := RB_callV (n := 1) (t := 0) (k := 181) (ins := .invokevirtual 181) rfl rfl rfl (by decide) (Nat.le_of_ble_eq_true rfl) (Nat.le_of_ble_eq_true rfl) rfl rfl
theorem w179_37 : RB d 179 37 [l0, l1] (.int x :: st) (S, I, R, z) Q = ((x = 0 → RB d 179 40 [l0, l1] st (S, I, R, z) Q) ∧ (¬ x = 0 → RB d 179 47 [l0, l1] st (S, I, R, z) Q)) := RB_ne0 rfl (by decide) rfl
theorem w179_40 : RB d 179 40 [.ref a, l1] st (S, I, R, z) Q = RB d 179 41 [.ref a, l1] (.ref a :: st) (S, I, R, z) Q := RB_aloadn rfl rfl
set_option maxRecDepth 20000 in
theorem w179_41 : RB d 179 41 [l0, l1] [.ref a] (S, I, R, z) Q = ((S a).1 = 7 ∧ RM d 177 [.ref a] (S, I, R, z) (fun v τ => RB d 179 44 [l0, l1] (aPush v []) τ Q)) := RB_callV (n := 1) (t := 0) (k := 185) (ins := .invokevirtual 185) rfl rfl rfl (by decide) (Nat.le_of_ble_eq_true rfl) (Nat.le_of_ble_eq_true rfl) rfl rfl
theorem w179_44 : RB d 179 44 [l0, l1] (.int x :: st) (S, I, R, z) Q = ((x = 0 → RB d 179 50 [l0, l1] st (S, I, R, z) Q) ∧ (¬ x = 0 → RB d 179 47 [l0, l1] st (S, I, R, z) Q)) := RB_eq0 rfl (by decide) rfl
theorem w179_47 : RB d 179 47 [l0, l1] st (S, I, R, z) Q = RB d 179 49 [l0, l1] (.int (-1000000002) :: st) (S, I, R, z) Q := RB_ldc rfl rfl
theorem w179_49 : RB d 179 49 [l0, l1] [.int x] (S, I, R, z) Q = Q (some (.int x)) (S, I, R, z) := RB_iret rfl rfl rfl
theorem w179_50 : RB d 179 50 [.ref a, l1] st (S, I, R, z) Q = RB d 179 51 [.ref a, l1] (.ref a :: st) (S, I, R, z) Q := RB_aloadn rfl rfl
theorem w179_51 : RB d 179 51 [l0, .int x] st (S, I, R, z) Q = RB d 179 52 [l0, .int x] (.int x :: st) (S, I, R, z) Q := RB_iloadn rfl rfl
set_option maxRecDepth 20000 in
theorem w179_52 : RB d 179 52 [l0, l1] [.int x0, .ref a] (S, I, R, z) Q = ((S a).1 = 7 ∧ RM d 178 [.ref a, .int x0] (S, I, R, z) (fun v τ => RB d 179 55 [l0, l1] (aPush v []) τ Q)) := RB_callV (n := 2) (t := 0) (k := 189) (ins := .invokevirtual 189) rfl rfl rfl (by decide) (Nat.le_of_ble_eq_true rfl) (Nat.le_of_ble_eq_true rfl) rfl rfl
theorem w179_55 : RB d 179 55 [l0, l1] [.int x] (S, I, R, z) Q = Q (some (.int x)) (S, I, R, z) := RB_iret rfl rfl rfl
/-! 180: HangedWordModel.plays -/
theorem w180_0 : RB d 180 0 [.ref a, l1, l2] st (S, I, R, z) Q = RB d 180 1 [.ref a, l1, l2] (.ref a :: st) (S, I, R, z) Q := RB_aloadn rfl rfl
theorem w180_1 : RB d 180 1 [l0, l1, l2] (.ref a :: st) (S, I, R, z) Q = ((S a).1 = 7 ∧ RB d 180 4 [l0, l1, l2] (va_rf (R a 0) :: st) (S, I, R, z) Q) := RB_getR rfl rfl
theorem w180_4 : RB d 180 4 [l0, l1, l2] st (S, I, R, z) Q = RB d 180 5 [l0, l1, l2] (.int 3 :: st) (S, I, R, z) Q := RB_iconst rfl ki3
theorem w180_5 : RB d 180 5 [l0, l1, l2] (.int i :: .ref a :: st) (S, I, R, z) Q = (((S a).1 = 9 ∧ aIx i (S a).2) ∧ RB d 180 6 [l0, l1, l2] (.int (I a i.toNatClampNeg) :: st) (S, I, R, z) Q) := RB_iald rfl
theorem w180_6 : RB d 180 6 [l0, l1, l2] (.int x :: st) (S, I, R, z) Q = ((x < 0 → RB d 180 46 [l0, l1, l2] st (S, I, R, z) Q) ∧ (¬ x < 0 → RB d 180 9 [l0, l1, l2] st (S, I, R, z) Q)) := RB_lt0 rfl (by decide) rfl
theorem w180_9 : RB d 180 9 [.ref a, l1, l2] st (S, I, R, z) Q = RB d 180 10 [.ref a, l1, l2] (.ref a :: st) (S, I, R, z) Q := RB_aloadn rfl rfl
set_option maxRecDepth 20000 in
theorem w180_10 : RB d 180 10 [l0, l1, l2] [.ref a] (S, I, R, z) Q = ((S a).1 = 7 ∧ RM d 176 [.ref a] (S, I, R, z) (fun v τ => RB d 180 13 [l0, l1, l2] (aPush v []) τ Q)) := RB_callV (n := 1) (t := 0) (k := 181) (ins := .invokevirtual 181) rfl rfl rfl (by decide) (Nat.le_of_ble_eq_true rfl) (Nat.le_of_ble_eq_true rfl) rfl rfl
theorem w180_13 : RB d 180 13 [l0, l1, l2] (.int x :: st) (S, I, R, z) Q = ((x = 0 → RB d 180 16 [l0, l1, l2] st (S, I, R, z) Q) ∧ (¬ x = 0 → RB d 180 46 [l0, l1, l2] st (S, I, R, z) Q)) := RB_ne0 rfl (by decide) rfl
theorem w180_16 : RB d 180 16 [.ref a, l1, l2] st (S, I, R, z) Q = RB d 180 17 [.ref a, l1, l2] (.ref a :: st) (S, I, R, z) Q := RB_aloadn rfl rfl
set_option maxRecDepth 20000 in
theorem w180_17 : RB d 180 17 [l0, l1, l2] [.ref a] (S, I, R, z) Q = ((S a).1 = 7 ∧ RM d 177 [.ref a] (S, I, R, z) (fun v τ => RB d 180 20 [l0, l1, l2] (aPush v []) τ Q)) := RB_callV (n := 1) (t := 0) (k := 185) (ins := .invokevirtual 185) rfl rfl rfl (by decide) (Nat.le_of_ble_eq_true rfl) (Nat.le_of_ble_eq_true rfl) rfl rfl
theorem w180_20 : RB d 180 20 [l0, l1, l2] (.int x :: st) (S, I, R, z) Q = ((x = 0 → RB d 180 23 [l0, l1, l2] st (S, I, R, z) Q) ∧ (¬ x = 0 → RB d 180 46 [l0, l1, l2] st (S, I, R, z) Q)) := RB_ne0 rfl (by decide) rfl
theorem w180_23 : RB d 180 23 [.ref a, l1, l2] st (S, I, R, z) Q = RB d 180 24 [.ref a, l1, l2] (.ref a :: st) (S, I, R, z) Q := RB_aloadn rfl rfl
theorem w180_24 : RB d 180 24 [.ref a, l1, l2] st (S, I, R, z) Q = RB d 180 25 [.ref a, l1, l2] (.ref a :: st) (S, I, R, z) Q := RB_aloadn rfl rfl
theorem w180_25 : RB d 180 25 [l0, .int x, l2] st (S, I, R, z) Q = RB d 180 26 [l0, .int x, l2] (.int x :: st) (S, I, R, z) Q := RB_iloadn rfl rfl
theorem w180_26 : RB d 180 26 [.ref a, l1, l2] st (S, I, R, z) Q = RB d 180 27 [.ref a, l1, l2] (.ref a :: st) (S, I, R, z) Q := RB_aloadn rfl rfl
theorem w180_27 : RB d 180 27 [l0, l1, l2] (.ref a :: st) (S, I, R, z) Q = ((S a).1 = 7 ∧ RB d 180 30 [l0, l1, l2] (va_rf (R a 0) :: st) (S, I, R, z) Q) := RB_getR rfl rfl
theorem w180_30 : RB d 180 30 [l0, l1, l2] st (S, I, R, z) Q = RB d 180 31 [l0, l1, l2] (.int 4 :: st) (S, I, R, z) Q := RB_iconst rfl ki4
theorem w180_31 : RB d 180 31 [l0, l1, l2] (.int i :: .ref a :: st) (S, I, R, z) Q = (((S a).1 = 9 ∧ aIx i (S a).2) ∧ RB d 180 32 [l0, l1, l2] (.int (I a i.toNatClampNeg) :: st) (S, I, R, z) Q) := RB_iald rfl
theorem w180_32 : RB d 180 32 [.ref a, l1, l2] st (S, I, R, z) Q = RB d 180 33 [.ref a, l1, l2] (.ref a :: st) (S, I, R, z) Q := RB_aloadn rfl rfl
set_option maxRecDepth 20000 in
theorem w180_33 : RB d 180 33 [l0, l1, l2] [.ref a, s0, s1, s2, s3] (S, I, R, z) Q = ((S a).1 = 7 ∧ RM d 149 [.ref a] (S, I, R, z) (fun v τ => RB d 180 36 [l0, l1, l2] (aPush v [s0, s1, s2, s3]) τ Q)) := RB_callV (n := 1) (t := 0) (k := 103) (ins := .invokevirtual 103) rfl rfl rfl (by decide) (Nat.le_of_ble_eq_true rfl) (Nat.le_of_ble_eq_true rfl) rfl rfl
set_option maxRecDepth 20000 in
theorem w180_36 : RB d 180 36 [l0, l1, l2] [.int x2, .int x1, .int x0, .ref a, s0] (S, I, R, z) Q = ((S a).1 = 7 ∧ RM d 163 [.ref a, .int x0, .int x1, .int x2] (S, I, R, z) (fun v τ => RB d 180 39 [l0, l1, l2] (aPush v [s0]) τ Q)) := RB_callV (n := 4) (t := 0) (k := 162) (ins := .invokevirtual 162) rfl rfl rfl (by decide) (Nat.le_of_ble_eq_true rfl) (Nat.le_of_ble_eq_true rfl) rfl rfl
set_option maxRecDepth 20000 in
theorem w180_39 : RB d 180 39 [l0, l1, l2] [.int x0, .ref a] (S, I, R, z) Q = ((S a).1 = 7 ∧ RM d 178 [.ref a, .int x0] (S, I, R, z) (fun v τ => RB d 180 42 [l0, l1, l2] (aPush v []) τ Q)) := RB_callV (n := 2) (t := 0) (k := 189) (ins := .invokevirtual 189) rfl rfl rfl (by decide) (Nat.le_of_ble_eq_true rfl) (Nat.le_of_ble_eq_true rfl) rfl rfl
theorem w180_42 : RB d 180 42 [l0, l1, l2] (.int x :: st) (S, I, R, z) Q = RB d 180 43 [l0, l1, .int x] st (S, I, R, z) Q := RB_istoren rfl (Nat.le_of_ble_eq_true rfl) rfl
theorem w180_43 : RB d 180 43 [l0, l1, l2] st (S, I, R, z) Q = RB d 180 0 [l0, l1, l2] st (S, I, R, z) Q := RB_goto rfl (by decide) rfl
theorem w180_46 : RB d 180 46 [l0, l1, l2] [] (S, I, R, z) Q = Q none (S, I, R, z) := RB_ret rfl rfl
/-! 181: HangedWordModel.play -/
theorem w181_0 : RB d 181 0 [.ref a, l1] st (S, I, R, z) Q = RB d 181 1 [.ref a, l1] (.ref a :: st) (S, I, R, z) Q := RB_aloadn rfl rfl
theorem w181_1 : RB d 181 1 [l0, .int x] st (S, I, R, z) Q = RB d 181 2 [l0, .int x] (.int x :: st) (S, I, R, z) Q := RB_iloadn rfl rfl
set_option maxRecDepth 20000 in
theorem w181_2 : RB d 181 2 [l0, l1] [.int x0, .ref a] (S, I, R, z) Q = ((S a).1 = 7 ∧ RM d 140 [.ref a, .int x0] (S, I, R, z) (fun v τ => RB d 181 5 [l0, l1] (aPush v []) τ Q)) := RB_callV (n := 2) (t := 0) (k := 156) (ins := .invokevirtual 156) rfl rfl rfl (by decide) (Nat.le_of_ble_eq_true rfl) (Nat.le_of_ble_eq_true rfl) rfl rfl
theorem w181_5 : RB d 181 5 [l0, l1] (.int x :: st) (S, I, R, z) Q = ((x = 0 → RB d 181 8 [l0, l1] st (S, I, R, z) Q) ∧ (¬ x = 0 → RB d 181 11 [l0, l1] st (S, I, R, z) Q)) := RB_ne0 rfl (by decide) rfl
theorem w181_8 : RB d 181 8 [l0, l1] st (S, I, R, z) Q = RB d 181 10 [l0, l1] (.int (-1000000001) :: st) (S, I, R, z) Q := RB_ldc rfl rfl
theorem w181_10 : RB d 181 10 [l0, l1] [.int x] (S, I, R, z) Q = Q (some (.int x)) (S, I, R, z) := RB_iret rfl rfl rfl
theorem w181_11 : RB d 181 11 [.ref a, l1] st (S, I, R, z) Q = RB d 181 12 [.ref a, l1] (.ref a :: st) (S, I, R, z) Q := RB_aloadn rfl rfl
theorem w181_12 : RB d 181 12 [l0, l1] (.ref a :: st) (S, I, R, z) Q = ((S a).1 = 7 ∧ RB d 181 15 [l0, l1] (va_rf (R a 0) :: st) (S, I, R, z) Q) := RB_getR rfl rfl
theorem w181_15 : RB d 181 15 [l0, l1] st (S, I, R, z) Q = RB d 181 16 [l0, l1] (.int 3 :: st) (S, I, R, z) Q := RB_iconst rfl ki3
theorem w181_16 : RB d 181 16 [l0, l1] (.int i :: .ref a :: st) (S, I, R, z) Q = (((S a).1 = 9 ∧ aIx i (S a).2) ∧ RB d 181 17 [l0, l1] (.int (I a i.toNatClampNeg) :: st) (S, I, R, z) Q) := RB_iald rfl
theorem w181_17 : RB d 181 17 [l0, l1] (.int x :: st) (S, I, R, z) Q = ((0 ≤ x → RB d 181 23 [l0, l1] st (S, I, R, z) Q) ∧ (¬ 0 ≤ x → RB d 181 20 [l0, l1] st (S, I, R, z) Q)) := RB_ge0 rfl (by decide) rfl
theorem w181_20 : RB d 181 20 [l0, l1] st (S, I, R, z) Q = RB d 181 22 [l0, l1] (.int (-1000000002) :: st) (S, I, R, z) Q := RB_ldc rfl rfl
theorem w181_22 : RB d 181 22 [l0, l1] [.int x] (S, I, R, z) Q = Q (some (.int x)) (S, I, R, z) := RB_iret rfl rfl rfl
theorem w181_23 : RB d 181 23 [.ref a, l1] st (S, I, R, z) Q = RB d 181 24 [.ref a, l1] (.ref a :: st) (S, I, R, z) Q := RB_aloadn rfl rfl
theorem w181_24 : RB d 181 24 [l0, .int x] st (S, I, R, z) Q = RB d 181 25 [l0, .int x] (.int x :: st) (S, I, R, z) Q := RB_iloadn rfl rfl
set_option maxRecDepth 20000 in
theorem w181_25 : RB d 181 25 [l0, l1] [.int x0, .ref a] (S, I, R, z) Q = ((S a).1 = 7 ∧ RM d 180 [.ref a, .int x0] (S, I, R, z) (fun v τ => RB d 181 28 [l0, l1] (aPush v []) τ Q)) := RB_callV (n := 2) (t := 0) (k := 192) (ins := .invokevirtual 192) rfl rfl rfl (by decide) (Nat.le_of_ble_eq_true rfl) (Nat.le_of_ble_eq_true rfl) rfl rfl
theorem w181_28 : RB d 181 28 [.ref a, l1] st (S, I, R, z) Q = RB d 181 29 [.ref a, l1] (.ref a :: st) (S, I, R, z) Q := RB_aloadn rfl rfl
theorem w181_29 : RB d 181 29 [l0, l1] (.ref a :: st) (S, I, R, z) Q = ((S a).1 = 7 ∧ RB d 181 32 [l0, l1] (va_rf (R a 0) :: st) (S, I, R, z) Q) := RB_getR rfl rfl
theorem w181_32 : RB d 181 32 [l0, l1] st (S, I, R, z) Q = RB d 181 33 [l0, l1] (.int 5 :: st) (S, I, R, z) Q := RB_iconst rfl ki5
theorem w181_33 : RB d 181 33 [l0, l1] (.int i :: .ref a :: st) (S, I, R, z) Q = (((S a).1 = 9 ∧ aIx i (S a).2) ∧ RB d 181 34 [l0, l1] (.int (I a i.toNatClampNeg) :: st) (S, I, R, z) Q) := RB_iald rfl
theorem w181_34 : RB d 181 34 [l0, l1] [.int x] (S, I, R, z) Q = Q (some (.int x)) (S, I, R, z) := RB_iret rfl rfl rfl
/-! 182: HangedWordModel.timesOf -/
theorem w182_0 : RB d 182 0 [.ref a, l1, l2] st (S, I, R, z) Q = RB d 182 1 [.ref a, l1, l2] (.ref a :: st) (S, I, R, z) Q := RB_aloadn rfl rfl
theorem w182_1 : RB d 182 1 [l0, l1, l2] st (S, I, R, z) Q = RB d 182 2 [l0, l1, l2] (.int 1 :: st) (S, I, R, z) Q := RB_iconst rfl ki1
set_option maxRecDepth 20000 in
theorem w182_2 : RB d 182 2 [l0, l1, l2] [.int x0, .ref a] (S, I, R, z) Q = ((S a).1 = 7 ∧ RM d 218 [.ref a, .int x0] (S, I, R, z) (fun v τ => RB d 182 5 [l0, l1, l2] (aPush v []) τ Q)) := RB_callV (n := 2) (t := 0) (k := 126) (ins := .invokevirtual 126) rfl rfl rfl (by decide) (Nat.le_of_ble_eq_true rfl) (Nat.le_of_ble_eq_true rfl) rfl rfl
theorem w182_5 : RB d 182 5 [l0, l1, l2] (.int x :: st) (S, I, R, z) Q = RB d 182 6 [l0, l1, .int x] st (S, I, R, z) Q := RB_istoren rfl (Nat.le_of_ble_eq_true rfl) rfl
theorem w182_6 : RB d 182 6 [.ref a, l1, l2] st (S, I, R, z) Q = RB d 182 7 [.ref a, l1, l2] (.ref a :: st) (S, I, R, z) Q := RB_aloadn rfl rfl
theorem w182_7 : RB d 182 7 [l0, l1, l2] (.ref a :: st) (S, I, R, z) Q = ((S a).1 = 7 ∧ RB d 182 10 [l0, l1, l2] (va_rf (R a 22) :: st) (S, I, R, z) Q) := RB_getR rfl rfl
theorem w182_10 : RB d 182 10 [l0, l1, l2] st (S, I, R, z) Q = RB d 182 11 [l0, l1, l2] (.int 0 :: st) (S, I, R, z) Q := RB_iconst rfl ki0
theorem w182_11 : RB d 182 11 [.ref a, l1, l2] st (S, I, R, z) Q = RB d 182 12 [.ref a, l1, l2] (.ref a :: st) (S, I, R, z) Q := RB_aloadn rfl rfl
theorem w182_12 : RB d 182 12 [l0, .int x, l2] st (S, I, R, z) Q = RB d 182 13 [l0, .int x, l2] (.int x :: st) (S, I, R, z) Q := RB_iloadn rfl rfl
set_option maxRecDepth 20000 in
theorem w182_13 : RB d 182 13 [l0, l1, l2] [.int x0, .ref a, s0, s1] (S, I, R, z) Q = ((S a).1 = 7 ∧ RM d 145 [.ref a, .int x0] (S, I, R, z) (fun v τ => RB d 182 16 [l0, l1, l2] (aPush v [s0, s1]) τ Q)) := RB_callV (n := 2) (t := 0) (k := 116) (ins := .invokevirtual 116) rfl rfl rfl (by decide) (Nat.le_of_ble_eq_true rfl) (Nat.le_of_ble_eq_true rfl) rfl rfl
theorem w182_16 : RB d 182 16 [l0, l1, l2] (.int x :: .int i :: .ref a :: st) (S, I, R, z) Q = (((S a).1 = 9 ∧ aIx i (S a).2 ∧ 16 ≤ a) ∧ RB d 182 17 [l0, l1, l2] st (S, aW I a i.toNatClampNeg x, R, z) Q) := RB_iast rfl
theorem w182_17 : RB d 182 17 [.ref a, l1, l2] st (S, I, R, z) Q = RB d 182 18 [.ref a, l1, l2] (.ref a :: st) (S, I, R, z) Q := RB_aloadn rfl rfl
theorem w182_18 : RB d 182 18 [l0, l1, l2] (.ref a :: st) (S, I, R, z) Q = ((S a).1 = 7 ∧ RB d 182 21 [l0, l1, l2] (va_rf (R a 22) :: st) (S, I, R, z) Q) := RB_getR rfl rfl
theorem w182_21 : RB d 182 21 [l0, l1, l2] st (S, I, R, z) Q = RB d 182 22 [l0, l1, l2] (.int 1 :: st) (S, I, R, z) Q := RB_iconst rfl ki1
theorem w182_22 : RB d 182 22 [l0, .int x, l2] st (S, I, R, z) Q = RB d 182 23 [l0, .int x, l2] (.int x :: st) (S, I, R, z) Q := RB_iloadn rfl rfl
theorem w182_23 : RB d 182 23 [l0, l1, l2] (.int x :: .int i :: .ref a :: st) (S, I, R, z) Q = (((S a).1 = 9 ∧ aIx i (S a).2 ∧ 16 ≤ a) ∧ RB d 182 24 [l0, l1, l2] st (S, aW I a i.toNatClampNeg x, R, z) Q) := RB_iast rfl
theorem w182_24 : RB d 182 24 [l0, l1, .int x] st (S, I, R, z) Q = RB d 182 25 [l0, l1, .int x] (.int x :: st) (S, I, R, z) Q := RB_iloadn rfl rfl
theorem w182_25 : RB d 182 25 [l0, l1, l2] (.int x :: st) (S, I, R, z) Q = ((0 ≤ x → RB d 182 36 [l0, l1, l2] st (S, I, R, z) Q) ∧ (¬ 0 ≤ x → RB d 182 28 [l0, l1, l2] st (S, I, R, z) Q)) := RB_ge0 rfl (by decide) rfl
theorem w182_28 : RB d 182 28 [.ref a, l1, l2] st (S, I, R, z) Q = RB d 182 29 [.ref a, l1, l2] (.ref a :: st) (S, I, R, z) Q := RB_aloadn rfl rfl
theorem w182_29 : RB d 182 29 [l0, .int x, l2] st (S, I, R, z) Q = RB d 182 30 [l0, .int x, l2] (.int x :: st) (S, I, R, z) Q := RB_iloadn rfl rfl
set_option maxRecDepth 20000 in
theorem w182_30 : RB d 182 30 [l0, l1, l2] [.int x0, .ref a] (S, I, R, z) Q = ((S a).1 = 7 ∧ RM d 145 [.ref a, .int x0] (S, I, R, z) (fun v τ => RB d 182 33 [l0, l1, l2] (aPush v []) τ Q)) := RB_callV (n := 2) (t := 0) (k := 116) (ins := .invokevirtual 116) rfl rfl rfl (by decide) (Nat.le_of_ble_eq_true rfl) (Nat.le_of_ble_eq_true rfl) rfl rfl
theorem w182_33 : RB d 182 33 [l0, l1, l2] st (S, I, R, z) Q = RB d 182 48 [l0, l1, l2] st (S, I, R, z) Q := RB_goto rfl (by decide) rfl
theorem w182_36 : RB d 182 36 [.ref a, l1, l2] st (S, I, R, z) Q = RB d 182 37 [.ref a, l1, l2] (.ref a :: st) (S, I, R, z) Q := RB_aloadn rfl rfl
theorem w182_37 : RB d 182 37 [l0, l1, .int x] st (S, I, R, z) Q = RB d 182 38 [l0, l1, .int x] (.int x :: st) (S, I, R, z) Q := RB_iloadn rfl rfl
set_option maxRecDepth 20000 in
theorem w182_38 : RB d 182 38 [l0, l1, l2] [.int x0, .ref a] (S, I, R, z) Q = ((S a).1 = 7 ∧ RM d 221 [.ref a, .int x0] (S, I, R, z) (fun v τ => RB d 182 41 [l0, l1, l2] (aPush v []) τ Q)) := RB_callV (n := 2) (t := 0) (k := 138) (ins := .invokevirtual 138) rfl rfl rfl (by decide) (Nat.le_of_ble_eq_true rfl) (Nat.le_of_ble_eq_true rfl) rfl rfl
theorem w182_41 : RB d 182 41 [l0, l1, l2] st (S, I, R, z) Q = RB d 182 42 [l0, l1, l2] (.int 0 :: st) (S, I, R, z) Q := RB_iconst rfl ki0
theorem w182_42 : RB d 182 42 [l0, l1, l2] st (S, I, R, z) Q = RB d 182 45 [l0, l1, l2] (.int 999 :: st) (S, I, R, z) Q := RB_sipush rfl ks999
set_option maxRecDepth 20000 in
theorem w182_45 : RB d 182 45 [l0, l1, l2] [.int x2, .int x1, .int x0] (S, I, R, z) Q = RM d 136 [.int x0, .int x1, .int x2] (S, I, R, z) (fun v τ => RB d 182 48 [l0, l1, l2] (aPush v []) τ Q) := RB_callS (n := 3) (t := 1) (k := 141) (ins := .invokestatic 141) rfl rfl rfl (Nat.le_of_ble_eq_true rfl) (Nat.le_of_ble_eq_true rfl) rfl rfl
theorem w182_48 : RB d 182 48 [l0, l1, l2] [.int x] (S, I, R, z) Q = Q (some (.int x)) (S, I, R, z) := RB_iret rfl rfl rfl
/-! 183: HangedWordModel.chooses -/
theorem w183_0 : RB d 183 0 [l0, l1, l2, l3] st (S, I, R, z) Q = RB d 183 1 [l0, l1, l2, l3] (.int 0 :: st) (S, I, R, z) Q := RB_iconst rfl ki0
theorem w183_1 : RB d 183 1 [l0, l1, l2, l3] (.int x :: st) (S, I, R, z) Q = RB d 183 2 [l0, .int x, l2, l3] st (S, I, R, z) Q := RB_istoren rfl (Nat.le_of_ble_eq_true rfl) rfl
theorem w183_2 : RB d 183 2 [l0, l1, l2, l3] st (S, I, R, z) Q = RB d 183 3 [l0, l1, l2, l3] (.int 0 :: st) (S, I, R, z) Q := RB_iconst rfl ki0
theorem w183_3 : RB d 183 3 [l0, l1, l2, l3] (.int x :: st) (S, I, R, z) Q = RB d 183 4 [l0, l1, .int x, l3] st (S, I, R, z) Q := RB_istoren rfl (Nat.le_of_ble_eq_true rfl) rfl
theorem w183_4 : RB d 183 4 [l0, l1, .int x, l3] st (S, I, R, z) Q = RB d 183 5 [l0, l1, .int x, l3] (.int x :: st) (S, I, R, z) Q := RB_iloadn rfl rfl
theorem w183_5 : RB d 183 5 [.ref a, l1, l2, l3] st (S, I, R, z) Q = RB d 183 6 [.ref a, l1, l2, l3] (.ref a :: st) (S, I, R, z) Q := RB_aloadn rfl rfl
theorem w183_6 : RB d 183 6 [l0, l1, l2, l3] (.ref a :: st) (S, I, R, z) Q = ((S a).1 = 7 ∧ RB d 183 9 [l0, l1, l2, l3] (va_rf (R a 0) :: st) (S, I, R, z) Q) := RB_getR rfl rfl
theorem w183_9 : RB d 183 9 [l0, l1, l2, l3] st (S, I, R, z) Q = RB d 183 10 [l0, l1, l2, l3] (.int 1 :: st) (S, I, R, z) Q := RB_iconst rfl ki1
theorem w183_10 : RB d 183 10 [l0, l1, l2, l3] (.int i :: .ref a :: st) (S, I, R, z) Q = (((S a).1 = 9 ∧ aIx i (S a).2) ∧ RB d 183 11 [l0, l1, l2, l3] (.int (I a i.toNatClampNeg) :: st) (S, I, R, z) Q) := RB_iald rfl
theorem w183_11 : RB d 183 11 [l0, l1, l2, l3] (.int y :: .int x :: st) (S, I, R, z) Q = ((y ≤ x → RB d 183 28 [l0, l1, l2, l3] st (S, I, R, z) Q) ∧ (¬ y ≤ x → RB d 183 14 [l0, l1, l2, l3] st (S, I, R, z) Q)) := RB_ige rfl (by decide) rfl
theorem w183_14 : RB d 183 14 [l0, .int x, l2, l3] st (S, I, R, z) Q = RB d 183 15 [l0, .int x, l2, l3] (.int x :: st) (S, I, R, z) Q := RB_iloadn rfl rfl
theorem w183_15 : RB d 183 15 [.ref a, l1, l2, l3] st (S, I, R, z) Q = RB d 183 16 [.ref a, l1, l2, l3] (.ref a :: st) (S, I, R, z) Q := RB_aloadn rfl rfl
theorem w183_16 : RB d 183 16 [l0, l1, .int x, l3] st (S, I, R, z) Q = RB d 183 17 [l0, l1, .int x, l3] (.int x :: st) (S, I, R, z) Q := RB_iloadn rfl rfl
set_option maxRecDepth 20000 in
theorem w183_17 : RB d 183 17 [l0, l1, l2, l3] [.int x0, .ref a, s0] (S, I, R, z) Q = ((S a).1 = 7 ∧ RM d 182 [.ref a, .int x0] (S, I, R, z) (fun v τ => RB d 183 20 [l0, l1, l2, l3] (aPush v [s0]) τ Q)) := RB_callV (n := 2) (t := 0) (k := 195) (ins := .invokevirtual 195) rfl rfl rfl (by decide) (Nat.le_of_ble_eq_true rfl) (Nat.le_of_ble_eq_true rfl) rfl rfl
theorem w183_20 : RB d 183 20 [l0, l1, l2, l3] (.int y :: .int x :: st) (S, I, R, z) Q = RB d 183 21 [l0, l1, l2, l3] (.int (x + y) :: st) (S, I, R, z) Q := RB_iadd rfl
theorem w183_21 : RB d 183 21 [l0, l1, l2, l3] (.int x :: st) (S, I, R, z) Q = RB d 183 22 [l0, .int x, l2, l3] st (S, I, R, z) Q := RB_istoren rfl (Nat.le_of_ble_eq_true rfl) rfl
theorem w183_22 : RB d 183 22 [l0, l1, .int x, l3] st (S, I, R, z) Q = RB d 183 25 [l0, l1, .int (x + 1), l3] st (S, I, R, z) Q := RB_iinc rfl rfl (Nat.le_of_ble_eq_true rfl) ki1 rfl
theorem w183_25 : RB d 183 25 [l0, l1, l2, l3] st (S, I, R, z) Q = RB d 183 4 [l0, l1, l2, l3] st (S, I, R, z) Q := RB_goto rfl (by decide) rfl
theorem w183_28 : RB d 183 28 [.ref a, l1, l2, l3] st (S, I, R, z) Q = RB d 183 29 [.ref a, l1, l2, l3] (.ref a :: st) (S, I, R, z) Q := RB_aloadn rfl rfl
theorem w183_29 : RB d 183 29 [l0, l1, l2, l3] st (S, I, R, z) Q = RB d 183 30 [l0, l1, l2, l3] (.int (-1) :: st) (S, I, R, z) Q := RB_iconst rfl kim1
set_option maxRecDepth 20000 in
theorem w183_30 : RB d 183 30 [l0, l1, l2, l3] [.int x0, .ref a] (S, I, R, z) Q = ((S a).1 = 7 ∧ RM d 174 [.ref a, .int x0] (S, I, R, z) (fun v τ => RB d 183 33 [l0, l1, l2, l3] (aPush v []) τ Q)) := RB_callV (n := 2) (t := 0) (k := 177) (ins := .invokevirtual 177) rfl rfl rfl (by decide) (Nat.le_of_ble_eq_true rfl) (Nat.le_of_ble_eq_true rfl) rfl rfl
theorem w183_33 : RB d 183 33 [l0, .int x, l2, l3] st (S, I, R, z) Q = RB d 183 34 [l0, .int x, l2, l3] (.int x :: st) (S, I, R, z) Q := RB_iloadn rfl rfl
theorem w183_34 : RB d 183 34 [l0, l1, l2, l3] (.int x :: st) (S, I, R, z) Q = ((x = 0 → RB d 183 37 [l0, l1, l2, l3] st (S, I, R, z) Q) ∧ (¬ x = 0 → RB d 183 38 [l0, l1, l2, l3] st (S, I, R, z) Q)) := RB_ne0 rfl (by decide) rfl
theorem w183_37 : RB d 183 37 [l0, l1, l2, l3] [] (S, I, R, z) Q = Q none (S, I, R, z) := RB_ret rfl rfl
theorem w183_38 : RB d 183 38 [.ref a, l1, l2, l3] st (S, I, R, z) Q = RB d 183 39 [.ref a, l1, l2, l3] (.ref a :: st) (S, I, R, z) Q := RB_aloadn rfl rfl
set_option maxRecDepth 20000 in
theorem w183_39 : RB d 183 39 [l0, l1, l2, l3] [.ref a] (S, I, R, z) Q = ((S a).1 = 7 ∧ RM d 171 [.ref a] (S, I, R, z) (fun v τ => RB d 183 42 [l0, l1, l2, l3] (aPush v []) τ Q)) := RB_callV (n := 1) (t := 0) (k := 174) (ins := .invokevirtual 174) rfl rfl rfl (by decide) (Nat.le_of_ble_eq_true rfl) (Nat.le_of_ble_eq_true rfl) rfl rfl
theorem w183_42 : RB d 183 42 [l0, .int x, l2, l3] st (S, I, R, z) Q = RB d 183 43 [l0, .int x, l2, l3] (.int x :: st) (S, I, R, z) Q := RB_iloadn rfl rfl
theorem w183_43 : RB d 183 43 [l0, l1, l2, l3] (.int y :: .int x :: st) (S, I, R, z) Q = (¬ y = 0 ∧ RB d 183 44 [l0, l1, l2, l3] (.int (x % y) :: st) (S, I, R, z) Q) := RB_irem rfl
theorem w183_44 : RB d 183 44 [l0, l1, l2, l3] (.int x :: st) (S, I, R, z) Q = RB d 183 45 [l0, l1, .int x, l3] st (S, I, R, z) Q := RB_istoren rfl (Nat.le_of_ble_eq_true rfl) rfl
theorem w183_45 : RB d 183 45 [l0, l1, l2, l3] st (S, I, R, z) Q = RB d 183 46 [l0, l1, l2, l3] (.int 0 :: st) (S, I, R, z) Q := RB_iconst rfl ki0
theorem w183_46 : RB d 183 46 [l0, l1, l2, l3] (.int x :: st) (S, I, R, z) Q = RB d 183 47 [l0, l1, l2, .int x] st (S, I, R, z) Q := RB_istoren rfl (Nat.le_of_ble_eq_true rfl) rfl
theorem w183_47 : RB d 183 47 [l0, l1, .int x, l3] st (S, I, R, z) Q = RB d 183 48 [l0, l1, .int x, l3] (.int x :: st) (S, I, R, z) Q := RB_iloadn rfl rfl
theorem w183_48 : RB d 183 48 [.ref a, l1, l2, l3] st (S, I, R, z) Q = RB d 183 49 [.ref a, l1, l2, l3] (.ref a :: st) (S, I, R, z) Q := RB_aloadn rfl rfl
theorem w183_49 : RB d 183 49 [l0, l1, l2, .int x] st (S, I, R, z) Q = RB d 183 50 [l0, l1, l2, .int x] (.int x :: st) (S, I, R, z) Q := RB_iloadn rfl rfl
set_option maxRecDepth 20000 in
theorem w183_50 : RB d 183 50 [l0, l1, l2, l3] [.int x0, .ref a, s0] (S, I, R, z) Q = ((S a).1 = 7 ∧ RM d 182 [.ref a, .int x0] (S, I, R, z) (fun v τ => RB d 183 53 [l0, l1, l2, l3] (aPush v [s0]) τ Q)) := RB_callV (n := 2) (t := 0) (k := 195) (ins := .invokevirtual 195) rfl rfl rfl (by decide) (Nat.le_of_ble_eq_true rfl) (Nat.le_of_ble_eq_true rfl) rfl rfl
theorem w183_53 : RB d 183 53 [l0, l1, l2, l3] (.int y :: .int x :: st) (S, I, R, z) Q = ((x < y → RB d 183 70 [l0, l1, l2, l3] st (S, I, R, z) Q) ∧ (¬ x < y → RB d 183 56 [l0, l1, l2, l3] st (S, I, R, z) Q)) := RB_ilt rfl (by decide) rfl
theorem w183_56 : RB d 183 56 [l0, l1, .int x, l3] st (S, I, R, z) Q = RB d 183 57 [l0, l1, .int x, l3] (.int x :: st) (S, I, R, z) Q := RB_iloadn rfl rfl
theorem w183_57 : RB d 183 57 [.ref a, l1, l2, l3] st (S, I, R, z) Q = RB d 183 58 [.ref a, l1, l2, l3] (.ref a :: st) (S, I, R, z) Q := RB_aloadn rfl rfl
theorem w183_58 : RB d 183 58 [l0, l1, l2, .int x] st (S, I, R, z) Q = RB d 183 59 [l0, l1, l2, .int x] (.int x :: st) (S, I, R, z) Q := RB_iloadn rfl rfl
set_option maxRecDepth 20000 in
theorem w183_59 : RB d 183 59 [l0, l1, l2, l3] [.int x0, .ref a, s0] (S, I, R, z) Q = ((S a).1 = 7 ∧ RM d 182 [.ref a, .int x0] (S, I, R, z) (fun v τ => RB d 183 62 [l0, l1, l2, l3] (aPush v [s0]) τ Q)) := RB_callV (n := 2) (t := 0) (k := 195) (ins := .invokevirtual 195) rfl rfl rfl (by decide) (Nat.le_of_ble_eq_true rfl) (Nat.le_of_ble_eq_true rfl) rfl rfl
theorem w183_62 : RB d 183 62 [l0, l1, l2, l3] (.int y :: .int x :: st) (S, I, R, z) Q = RB d 183 63 [l0, l1, l2, l3] (.int (x - y) :: st) (S, I, R, z) Q := RB_isub rfl
theorem w183_63 : RB d 183 63 [l0, l1, l2, l3] (.int x :: st) (S, I, R, z) Q = RB d 183 64 [l0, l1, .int x, l3] st (S, I, R, z) Q := RB_istoren rfl (Nat.le_of_ble_eq_true rfl) rfl
theorem w183_64 : RB d 183 64 [l0, l1, l2, .int x] st (S, I, R, z) Q = RB d 183 67 [l0, l1, l2, .int (x + 1)] st (S, I, R, z) Q := RB_iinc rfl rfl (Nat.le_of_ble_eq_true rfl) ki1 rfl
theorem w183_67 : RB d 183 67 [l0, l1, l2, l3] st (S, I, R, z) Q = RB d 183 47 [l0, l1, l2, l3] st (S, I, R, z) Q := RB_goto rfl (by decide) rfl
theorem w183_70 : RB d 183 70 [.ref a, l1, l2, l3] st (S, I, R, z) Q = RB d 183 71 [.ref a, l1, l2, l3] (.ref a :: st) (S, I, R, z) Q := RB_aloadn rfl rfl
theorem w183_71 : RB d 183 71 [l0, l1, l2, l3] (.ref a :: st) (S, I, R, z) Q = ((S a).1 = 7 ∧ RB d 183 74 [l0, l1, l2, l3] (va_rf (R a 0) :: st) (S, I, R, z) Q) := RB_getR rfl rfl
theorem w183_74 : RB d 183 74 [l0, l1, l2, l3] st (S, I, R, z) Q = RB d 183 75 [l0, l1, l2, l3] (.int 3 :: st) (S, I, R, z) Q := RB_iconst rfl ki3
theorem w183_75 : RB d 183 75 [l0, l1, l2, .int x] st (S, I, R, z) Q = RB d 183 76 [l0, l1, l2, .int x] (.int x :: st) (S, I, R, z) Q := RB_iloadn rfl rfl
theorem w183_76 : RB d 183 76 [l0, l1, l2, l3] (.int x :: .int i :: .ref a :: st) (S, I, R, z) Q = (((S a).1 = 9 ∧ aIx i (S a).2 ∧ 16 ≤ a) ∧ RB d 183 77 [l0, l1, l2, l3] st (S, aW I a i.toNatClampNeg x, R, z) Q) := RB_iast rfl
theorem w183_77 : RB d 183 77 [l0, l1, l2, l3] [] (S, I, R, z) Q = Q none (S, I, R, z) := RB_ret rfl rfl
/-! 184: HangedWordModel.choose -/
theorem w184_0 : RB d 184 0 [.ref a] st (S, I, R, z) Q = RB d 184 1 [.ref a] (.ref a :: st) (S, I, R, z) Q := RB_aloadn rfl rfl
set_option maxRecDepth 20000 in
theorem w184_1 : RB d 184 1 [l0] [.ref a] (S, I, R, z) Q = ((S a).1 = 7 ∧ RM d 183 [.ref a] (S, I, R, z) (fun v τ => RB d 184 4 [l0] (aPush v []) τ Q)) := RB_callV (n := 1) (t := 0) (k := 198) (ins := .invokevirtual 198) rfl rfl rfl (by decide) (Nat.le_of_ble_eq_true rfl) (Nat.le_of_ble_eq_true rfl) rfl rfl
theorem w184_4 : RB d 184 4 [.ref a] st (S, I, R, z) Q = RB d 184 5 [.ref a] (.ref a :: st) (S, I, R, z) Q := RB_aloadn rfl rfl
theorem w184_5 : RB d 184 5 [l0] (.ref a :: st) (S, I, R, z) Q = ((S a).1 = 7 ∧ RB d 184 8 [l0] (va_rf (R a 0) :: st) (S, I, R, z) Q) := RB_getR rfl rfl
theorem w184_8 : RB d 184 8 [l0] st (S, I, R, z) Q = RB d 184 9 [l0] (.int 3 :: st) (S, I, R, z) Q := RB_iconst rfl ki3
theorem w184_9 : RB d 184 9 [l0] (.int i :: .ref a :: st) (S, I, R, z) Q = (((S a).1 = 9 ∧ aIx i (S a).2) ∧ RB d 184 10 [l0] (.int (I a i.toNatClampNeg) :: st) (S, I, R, z) Q) := RB_iald rfl
set_option maxRecDepth 20000 in
theorem w184_10 : RB d 184 10 [l0] [.int x0] (S, I, R, z) Q = RM d 138 [.int x0] (S, I, R, z) (fun v τ => RB d 184 13 [l0] (aPush v []) τ Q) := RB_callS (n := 1) (t := 1) (k := 165) (ins := .invokestatic 165) rfl rfl rfl (Nat.le_of_ble_eq_true rfl) (Nat.le_of_ble_eq_true rfl) rfl rfl
theorem w184_13 : RB d 184 13 [l0] [.int x] (S, I, R, z) Q = Q (some (.int x)) (S, I, R, z) := RB_iret rfl rfl rfl
/-! 185: HangedWordModel.gallows -/
theorem w185_0 : RB d 185 0 [l0, .int x] st (S, I, R, z) Q = RB d 185 1 [l0, .int x] (.int x :: st) (S, I, R, z) Q := RB_iloadn rfl rfl
theorem w185_1 : RB d 185 1 [l0, l1] st (S, I, R, z) Q = RB d 185 2 [l0, l1] (.int 1 :: st) (S, I, R, z) Q := RB_iconst rfl ki1
theorem w185_2 : RB d 185 2 [l0, l1] st (S, I, R, z) Q = RB d 185 4 [l0, l1] (.int 9 :: st) (S, I, R, z) Q := RB_bipush rfl kb9
set_option maxRecDepth 20000 in
theorem w185_4 : RB d 185 4 [l0, l1] [.int x2, .int x1, .int x0] (S, I, R, z) Q = RM d 135 [.int x0, .int x1, .int x2] (S, I, R, z) (fun v τ => RB d 185 7 [l0, l1] (aPush v []) τ Q) := RB_callS (n := 3) (t := 1) (k := 76) (ins := .invokestatic 76) rfl rfl rfl (Nat.le_of_ble_eq_true rfl) (Nat.le_of_ble_eq_true rfl) rfl rfl
theorem w185_7 : RB d 185 7 [l0, l1] (.int x :: st) (S, I, R, z) Q = ((x = 0 → RB d 185 20 [l0, l1] st (S, I, R, z) Q) ∧ (¬ x = 0 → RB d 185 10 [l0, l1] st (S, I, R, z) Q)) := RB_eq0 rfl (by decide) rfl
theorem w185_10 : RB d 185 10 [.ref a, l1] st (S, I, R, z) Q = RB d 185 11 [.ref a, l1] (.ref a :: st) (S, I, R, z) Q := RB_aloadn rfl rfl
theorem w185_11 : RB d 185 11 [l0, l1] st (S, I, R, z) Q = RB d 185 13 [l0, l1] (.int 6 :: st) (S, I, R, z) Q := RB_bipush rfl kb6
theorem w185_13 : RB d 185 13 [l0, .int x] st (S, I, R, z) Q = RB d 185 14 [l0, .int x] (.int x :: st) (S, I, R, z) Q := RB_iloadn rfl rfl
set_option maxRecDepth 20000 in
theorem w185_14 : RB d 185 14 [l0, l1] [.int x1, .int x0, .ref a] (S, I, R, z) Q = ((S a).1 = 7 ∧ RM d 142 [.ref a, .int x0, .int x1] (S, I, R, z) (fun v τ => RB d 185 17 [l0, l1] (aPush v []) τ Q)) := RB_callV (n := 3) (t := 0) (k := 107) (ins := .invokevirtual 107) rfl rfl rfl (by decide) (Nat.le_of_ble_eq_true rfl) (Nat.le_of_ble_eq_true rfl) rfl rfl
theorem w185_17 : RB d 185 17 [l0, l1] st (S, I, R, z) Q = RB d 185 22 [l0, l1] st (S, I, R, z) Q := RB_goto rfl (by decide) rfl
theorem w185_20 : RB d 185 20 [l0, l1] st (S, I, R, z) Q = RB d 185 22 [l0, l1] (.int (-1000000001) :: st) (S, I, R, z) Q := RB_ldc rfl rfl
theorem w185_22 : RB d 185 22 [l0, l1] [.int x] (S, I, R, z) Q = Q (some (.int x)) (S, I, R, z) := RB_iret rfl rfl rfl
/-! 186: HangedWordModel.game -/
theorem w186_0 : RB d 186 0 [l0, .int x] st (S, I, R, z) Q = RB d 186 1 [l0, .int x] (.int x :: st) (S, I, R, z) Q := RB_iloadn rfl rfl
theorem w186_1 : RB d 186 1 [l0, l1] (.int x :: st) (S, I, R, z) Q = aTsR d 186 1 x 107 [l0, l1] st (S, I, R, z) Q [(0, 44), (1, 54), (2, 61), (3, 68), (4, 76), (5, 89), (6, 102)] := RB_ts rfl (by decide) (by decide) (by decide) (by decide +kernel) rfl
theorem w186_44 : RB d 186 44 [.ref a, l1] st (S, I, R, z) Q = RB d 186 45 [.ref a, l1] (.ref a :: st) (S, I, R, z) Q := RB_aloadn rfl rfl
theorem w186_45 : RB d 186 45 [l0, l1] (.ref a :: st) (S, I, R, z) Q = ((S a).1 = 7 ∧ RB d 186 48 [l0, l1] (va_rf (R a 0) :: st) (S, I, R, z) Q) := RB_getR rfl rfl
theorem w186_48 : RB d 186 48 [l0, l1] st (S, I, R, z) Q = RB d 186 49 [l0, l1] (.int 3 :: st) (S, I, R, z) Q := RB_iconst rfl ki3
theorem w186_49 : RB d 186 49 [l0, l1] (.int i :: .ref a :: st) (S, I, R, z) Q = (((S a).1 = 9 ∧ aIx i (S a).2) ∧ RB d 186 50 [l0, l1] (.int (I a i.toNatClampNeg) :: st) (S, I, R, z) Q) := RB_iald rfl
set_option maxRecDepth 20000 in
theorem w186_50 : RB d 186 50 [l0, l1] [.int x0] (S, I, R, z) Q = RM d 138 [.int x0] (S, I, R, z) (fun v τ => RB d 186 53 [l0, l1] (aPush v []) τ Q) := RB_callS (n := 1) (t := 1) (k := 165) (ins := .invokestatic 165) rfl rfl rfl (Nat.le_of_ble_eq_true rfl) (Nat.le_of_ble_eq_true rfl) rfl rfl
theorem w186_53 : RB d 186 53 [l0, l1] [.int x] (S, I, R, z) Q = Q (some (.int x)) (S, I, R, z) := RB_iret rfl rfl rfl
theorem w186_54 : RB d 186 54 [.ref a, l1] st (S, I, R, z) Q = RB d 186 55 [.ref a, l1] (.ref a :: st) (S, I, R, z) Q := RB_aloadn rfl rfl
theorem w186_55 : RB d 186 55 [l0, l1] (.ref a :: st) (S, I, R, z) Q = ((S a).1 = 7 ∧ RB d 186 58 [l0, l1] (va_rf (R a 0) :: st) (S, I, R, z) Q) := RB_getR rfl rfl
theorem w186_58 : RB d 186 58 [l0, l1] st (S, I, R, z) Q = RB d 186 59 [l0, l1] (.int 4 :: st) (S, I, R, z) Q := RB_iconst rfl ki4
theorem w186_59 : RB d 186 59 [l0, l1] (.int i :: .ref a :: st) (S, I, R, z) Q = (((S a).1 = 9 ∧ aIx i (S a).2) ∧ RB d 186 60 [l0, l1] (.int (I a i.toNatClampNeg) :: st) (S, I, R, z) Q) := RB_iald rfl
theorem w186_60 : RB d 186 60 [l0, l1] [.int x] (S, I, R, z) Q = Q (some (.int x)) (S, I, R, z) := RB_iret rfl rfl rfl
theorem w186_61 : RB d 186 61 [.ref a, l1] st (S, I, R, z) Q = RB d 186 62 [.ref a, l1] (.ref a :: st) (S, I, R, z) Q := RB_aloadn rfl rfl
theorem w186_62 : RB d 186 62 [l0, l1] (.ref a :: st) (S, I, R, z) Q = ((S a).1 = 7 ∧ RB d 186 65 [l0, l1] (va_rf (R a 0) :: st) (S, I, R, z) Q) := RB_getR rfl rfl
theorem w186_65 : RB d 186 65 [l0, l1] st (S, I, R, z) Q = RB d 186 66 [l0, l1] (.int 5 :: st) (S, I, R, z) Q := RB_iconst rfl ki5
theorem w186_66 : RB d 186 66 [l0, l1] (.int i :: .ref a :: st) (S, I, R, z) Q = (((S a).1 = 9 ∧ aIx i (S a).2) ∧ RB d 186 67 [l0, l1] (.int (I a i.toNatClampNeg) :: st) (S, I, R, z) Q) := RB_iald rfl
theorem w186_67 : RB d 186 67 [l0, l1] [.int x] (S, I, R, z) Q = Q (some (.int x)) (S, I, R, z) := RB_iret rfl rfl rfl
theorem w186_68 : RB d 186 68 [.ref a, l1] st (S, I, R, z) Q = RB d 186 69 [.ref a, l1] (.ref a :: st) (S, I, R, z) Q := RB_aloadn rfl rfl
set_option maxRecDepth 20000 in
theorem w186_69 : RB d 186 69 [l0, l1] [.ref a] (S, I, R, z) Q = ((S a).1 = 7 ∧ RM d 149 [.ref a] (S, I, R, z) (fun v τ => RB d 186 72 [l0, l1] (aPush v []) τ Q)) := RB_callV (n := 1) (t := 0) (k := 103) (ins := .invokevirtual 103) rfl rfl rfl (by decide) (Nat.le_of_ble_eq_true rfl) (Nat.le_of_ble_eq_true rfl) rfl rfl
set_option maxRecDepth 20000 in
theorem w186_72 : RB d 186 72 [l0, l1] [.int x0] (S, I, R, z) Q = RM d 143 [.int x0] (S, I, R, z) (fun v τ => RB d 186 75 [l0, l1] (aPush v []) τ Q) := RB_callS (n := 1) (t := 1) (k := 132) (ins := .invokestatic 132) rfl rfl rfl (Nat.le_of_ble_eq_true rfl) (Nat.le_of_ble_eq_true rfl) rfl rfl
theorem w186_75 : RB d 186 75 [l0, l1] [.int x] (S, I, R, z) Q = Q (some (.int x)) (S, I, R, z) := RB_iret rfl rfl rfl
theorem w186_76 : RB d 186 76 [.ref a, l1] st (S, I, R, z) Q = RB d 186 77 [.ref a, l1] (.ref a :: st) (S, I, R, z) Q := RB_aloadn rfl rfl
set_option maxRecDepth 20000 in
theorem w186_77 : RB d 186 77 [l0, l1] [.ref a] (S, I, R, z) Q = ((S a).1 = 7 ∧ RM d 176 [.ref a] (S, I, R, z) (fun v τ => RB d 186 80 [l0, l1] (aPush v []) τ Q)) := RB_callV (n := 1) (t := 0) (k := 181) (ins := .invokevirtual 181) rfl rfl rfl (by decide) (Nat.le_of_ble_eq_true rfl) (Nat.le_of_ble_eq_true rfl) rfl rfl
theorem w186_80 : RB d 186 80 [l0, l1] (.int x :: st) (S, I, R, z) Q = ((x = 0 → RB d 186 87 [l0, l1] st (S, I, R, z) Q) ∧ (¬ x = 0 → RB d 186 83 [l0, l1] st (S, I, R, z) Q)) := RB_eq0 rfl (by decide) rfl
theorem w186_83 : RB d 186 83 [l0, l1] st (S, I, R, z) Q = RB d 186 84 [l0, l1] (.int 1 :: st) (S, I, R, z) Q := RB_iconst rfl ki1
theorem w186_84 : RB d 186 84 [l0, l1] st (S, I, R, z) Q = RB d 186 88 [l0, l1] st (S, I, R, z) Q := RB_goto rfl (by decide) rfl
theorem w186_87 : RB d 186 87 [l0, l1] st (S, I, R, z) Q = RB d 186 88 [l0, l1] (.int 0 :: st) (S, I, R, z) Q := RB_iconst rfl ki0
theorem w186_88 : RB d 186 88 [l0, l1] [.int x] (S, I, R, z) Q = Q (some (.int x)) (S, I, R, z) := RB_iret rfl rfl rfl
theorem w186_89 : RB d 186 89 [.ref a, l1] st (S, I, R, z) Q = RB d 186 90 [.ref a, l1] (.ref a :: st) (S, I, R, z) Q := RB_aloadn rfl rfl
set_option maxRecDepth 20000 in
theorem w186_90 : RB d 186 90 [l0, l1] [.ref a] (S, I, R, z) Q = ((S a).1 = 7 ∧ RM d 177 [.ref a] (S, I, R, z) (fun v τ => RB d 186 93 [l0, l1] (aPush v []) τ Q)) := RB_callV (n := 1) (t := 0) (k := 185) (ins := .invokevirtual 185) rfl rfl rfl (by decide) (Nat.le_of_ble_eq_true rfl) (Nat.le_of_ble_eq_true rfl) rfl rfl
theorem w186_93 : RB d 186 93 [l0, l1] (.int x :: st) (S, I, R, z) Q = ((x = 0 → RB d 186 100 [l0, l1] st (S, I, R, z) Q) ∧ (¬ x = 0 → RB d 186 96 [l0, l1] st (S, I, R, z) Q)) := RB_eq0 rfl (by decide) rfl
theorem w186_96 : RB d 186 96 [l0, l1] st (S, I, R, z) Q = RB d 186 97 [l0, l1] (.int 1 :: st) (S, I, R, z) Q := RB_iconst rfl ki1
theorem w186_97 : RB d 186 97 [l0, l1] st (S, I, R, z) Q = RB d 186 101 [l0, l1] st (S, I, R, z) Q := RB_goto rfl (by decide) rfl
theorem w186_100 : RB d 186 100 [l0, l1] st (S, I, R, z) Q = RB d 186 101 [l0, l1] (.int 0 :: st) (S, I, R, z) Q := RB_iconst rfl ki0
theorem w186_101 : RB d 186 101 [l0, l1] [.int x] (S, I, R, z) Q = Q (some (.int x)) (S, I, R, z) := RB_iret rfl rfl rfl
theorem w186_102 : RB d 186 102 [.ref a, l1] st (S, I, R, z) Q = RB d 186 103 [.ref a, l1] (.ref a :: st) (S, I, R, z) Q := RB_aloadn rfl rfl
set_option maxRecDepth 20000 in
theorem w186_103 : RB d 186 103 [l0, l1] [.ref a] (S, I, R, z) Q = ((S a).1 = 7 ∧ RM d 149 [.ref a] (S, I, R, z) (fun v τ => RB d 186 106 [l0, l1] (aPush v []) τ Q)) := RB_callV (n := 1) (t := 0) (k := 103) (ins := .invokevirtual 103) rfl rfl rfl (by decide) (Nat.le_of_ble_eq_true rfl) (Nat.le_of_ble_eq_true rfl) rfl rfl
theorem w186_106 : RB d 186 106 [l0, l1] [.int x] (S, I, R, z) Q = Q (some (.int x)) (S, I, R, z) := RB_iret rfl rfl rfl
theorem w186_107 : RB d 186 107 [l0, l1] st (S, I, R, z) Q = RB d 186 109 [l0, l1] (.int (-1000000001) :: st) (S, I, R, z) Q := RB_ldc rfl rfl
theorem w186_109 : RB d 186 109 [l0, l1] [.int x] (S, I, R, z) Q = Q (some (.int x)) (S, I, R, z) := RB_iret rfl rfl rfl
/-! 187: HangedWordModel.linesOf -/
theorem w187_0 : RB d 187 0 [l0, l1, l2, l3, l4, l5] st (S, I, R, z) Q = RB d 187 1 [l0, l1, l2, l3, l4, l5] (.int 0 :: st) (S, I, R, z) Q := RB_iconst rfl ki0
theorem w187_1 : RB d 187 1 [l0, l1, l2, l3, l4, l5] (.int x :: st) (S, I, R, z) Q = RB d 187 2 [l0, l1, l2, .int x, l4, l5] st (S, I, R, z) Q := RB_istoren rfl (Nat.le_of_ble_eq_true rfl) rfl
theorem w187_2 : RB d 187 2 [l0, l1, l2, l3, l4, l5] st (S, I, R, z) Q = RB d 187 3 [l0, l1, l2, l3, l4, l5] (.int 0 :: st) (S, I, R, z) Q := RB_iconst rfl ki0
theorem w187_3 : RB d 187 3 [l0, l1, l2, l3, l4, l5] (.int x :: st) (S, I, R, z) Q = RB d 187 5 [l0, l1, l2, l3, .int x, l5] st (S, I, R, z) Q := RB_istore rfl (Nat.le_of_ble_eq_true rfl) rfl
theorem w187_5 : RB d 187 5 [.ref a, l1, l2, l3, l4, l5] st (S, I, R, z) Q = RB d 187 6 [.ref a, l1, l2, l3, l4, l5] (.ref a :: st) (S, I, R, z) Q := RB_aloadn rfl rfl
theorem w187_6 : RB d 187 6 [l0, .int x, l2, l3, l4, l5] st (S, I, R, z) Q = RB d 187 7 [l0, .int x, l2, l3, l4, l5] (.int x :: st) (S, I, R, z) Q := RB_iloadn rfl rfl
set_option maxRecDepth 20000 in
theorem w187_7 : RB d 187 7 [l0, l1, l2, l3, l4, l5] [.int x0, .ref a] (S, I, R, z) Q = ((S a).1 = 7 ∧ RM d 147 [.ref a, .int x0] (S, I, R, z) (fun v τ => RB d 187 10 [l0, l1, l2, l3, l4, l5] (aPush v []) τ Q)) := RB_callV (n := 2) (t := 0) (k := 99) (ins := .invokevirtual 99) rfl rfl rfl (by decide) (Nat.le_of_ble_eq_true rfl) (Nat.le_of_ble_eq_true rfl) rfl rfl
theorem w187_10 : RB d 187 10 [l0, l1, l2, .int x, l4, l5] st (S, I, R, z) Q = RB d 187 11 [l0, l1, l2, .int x, l4, l5] (.int x :: st) (S, I, R, z) Q := RB_iloadn rfl rfl
theorem w187_11 : RB d 187 11 [l0, l1, l2, l3, l4, l5] st (S, I, R, z) Q = RB d 187 12 [l0, l1, l2, l3, l4, l5] (.int (-1) :: st) (S, I, R, z) Q := RB_iconst rfl kim1
theorem w187_12 : RB d 187 12 [l0, l1, l2, l3, l4, l5] (.int y :: .int x :: st) (S, I, R, z) Q = RB d 187 13 [l0, l1, l2, l3, l4, l5] (.int (x ^^^ y) :: st) (S, I, R, z) Q := RB_ixor rfl
theorem w187_13 : RB d 187 13 [l0, l1, l2, l3, l4, l5] (.int y :: .int x :: st) (S, I, R, z) Q = RB d 187 14 [l0, l1, l2, l3, l4, l5] (.int (x &&& y) :: st) (S, I, R, z) Q := RB_iand rfl
theorem w187_14 : RB d 187 14 [l0, l1, l2, l3, l4, l5] (.int x :: st) (S, I, R, z) Q = ((x = 0 → RB d 187 61 [l0, l1, l2, l3, l4, l5] st (S, I, R, z) Q) ∧ (¬ x = 0 → RB d 187 17 [l0, l1, l2, l3, l4, l5] st (S, I, R, z) Q)) := RB_eq0 rfl (by decide) rfl
theorem w187_17 : RB d 187 17 [.ref a, l1, l2, l3, l4, l5] st (S, I, R, z) Q = RB d 187 18 [.ref a, l1, l2, l3, l4, l5] (.ref a :: st) (S, I, R, z) Q := RB_aloadn rfl rfl
theorem w187_18 : RB d 187 18 [l0, l1, .int x, l3, l4, l5] st (S, I, R, z) Q = RB d 187 19 [l0, l1, .int x, l3, l4, l5] (.int x :: st) (S, I, R, z) Q := RB_iloadn rfl rfl
theorem w187_19 : RB d 187 19 [l0, l1, l2, .int x, l4, l5] st (S, I, R, z) Q = RB d 187 20 [l0, l1, l2, .int x, l4, l5] (.int x :: st) (S, I, R, z) Q := RB_iloadn rfl rfl
theorem w187_20 : RB d 187 20 [.ref a, l1, l2, l3, l4, l5] st (S, I, R, z) Q = RB d 187 21 [.ref a, l1, l2, l3, l4, l5] (.ref a :: st) (S, I, R, z) Q := RB_aloadn rfl rfl
theorem w187_21 : RB d 187 21 [l0, .int x, l2, l3, l4, l5] st (S, I, R, z) Q = RB d 187 22 [l0, .int x, l2, l3, l4, l5] (.int x :: st) (S, I, R, z) Q := RB_iloadn rfl rfl
theorem w187_22 : RB d 187 22 [l0, l1, l2, .int x, l4, l5] st (S, I, R, z) Q = RB d 187 23 [l0, l1, l2, .int x, l4, l5] (.int x :: st) (S, I, R, z) Q := RB_iloadn rfl rfl
set_option maxRecDepth 20000 in
theorem w187_23 : RB d 187 23 [l0, l1, l2, l3, l4, l5] [.int x1, .int x0, .ref a, s0, s1, s2] (S, I, R, z) Q = ((S a).1 = 7 ∧ RM d 148 [.ref a, .int x0, .int x1] (S, I, R, z) (fun v τ => RB d 187 26 [l0, l1, l2, l3, l4, l5] (aPush v [s0, s1, s2]) τ Q)) := RB_callV (n := 3) (t := 0) (k := 87) (ins := .invokevirtual 87) rfl rfl rfl (by decide) (Nat.le_of_ble_eq_true rfl) (Nat.le_of_ble_eq_true rfl) rfl rfl
set_option maxRecDepth 20000 in
theorem w187_26 : RB d 187 26 [l0, l1, l2, l3, l4, l5] [.int x2, .int x1, .int x0, .ref a] (S, I, R, z) Q = ((S a).1 = 7 ∧ RM d 163 [.ref a, .int x0, .int x1, .int x2] (S, I, R, z) (fun v τ => RB d 187 29 [l0, l1, l2, l3, l4, l5] (aPush v []) τ Q)) := RB_callV (n := 4) (t := 0) (k := 162) (ins := .invokevirtual 162) rfl rfl rfl (by decide) (Nat.le_of_ble_eq_true rfl) (Nat.le_of_ble_eq_true rfl) rfl rfl
theorem w187_29 : RB d 187 29 [l0, l1, l2, l3, l4, l5] (.int x :: st) (S, I, R, z) Q = RB d 187 31 [l0, l1, l2, l3, l4, .int x] st (S, I, R, z) Q := RB_istore rfl (Nat.le_of_ble_eq_true rfl) rfl
theorem w187_31 : RB d 187 31 [l0, l1, l2, l3, .int x, l5] st (S, I, R, z) Q = RB d 187 33 [l0, l1, l2, l3, .int x, l5] (.int x :: st) (S, I, R, z) Q := RB_iload rfl rfl
theorem w187_33 : RB d 187 33 [.ref a, l1, l2, l3, l4, l5] st (S, I, R, z) Q = RB d 187 34 [.ref a, l1, l2, l3, l4, l5] (.ref a :: st) (S, I, R, z) Q := RB_aloadn rfl rfl
theorem w187_34 : RB d 187 34 [l0, .int x, l2, l3, l4, l5] st (S, I, R, z) Q = RB d 187 35 [l0, .int x, l2, l3, l4, l5] (.int x :: st) (S, I, R, z) Q := RB_iloadn rfl rfl
theorem w187_35 : RB d 187 35 [l0, l1, l2, l3, l4, .int x] st (S, I, R, z) Q = RB d 187 37 [l0, l1, l2, l3, l4, .int x] (.int x :: st) (S, I, R, z) Q := RB_iload rfl rfl
set_option maxRecDepth 20000 in
theorem w187_37 : RB d 187 37 [l0, l1, l2, l3, l4, l5] [.int x1, .int x0, .ref a, s0] (S, I, R, z) Q = ((S a).1 = 7 ∧ RM d 146 [.ref a, .int x0, .int x1] (S, I, R, z) (fun v τ => RB d 187 40 [l0, l1, l2, l3, l4, l5] (aPush v [s0]) τ Q)) := RB_callV (n := 3) (t := 0) (k := 113) (ins := .invokevirtual 113) rfl rfl rfl (by decide) (Nat.le_of_ble_eq_true rfl) (Nat.le_of_ble_eq_true rfl) rfl rfl
theorem w187_40 : RB d 187 40 [l0, l1, l2, l3, l4, l5] (.int x :: st) (S, I, R, z) Q = ((x = 0 → RB d 187 43 [l0, l1, l2, l3, l4, l5] st (S, I, R, z) Q) ∧ (¬ x = 0 → RB d 187 47 [l0, l1, l2, l3, l4, l5] st (S, I, R, z) Q)) := RB_ne0 rfl (by decide) rfl
theorem w187_43 : RB d 187 43 [l0, l1, l2, l3, l4, l5] st (S, I, R, z) Q = RB d 187 44 [l0, l1, l2, l3, l4, l5] (.int 1 :: st) (S, I, R, z) Q := RB_iconst rfl ki1
theorem w187_44 : RB d 187 44 [l0, l1, l2, l3, l4, l5] st (S, I, R, z) Q = RB d 187 48 [l0, l1, l2, l3, l4, l5] st (S, I, R, z) Q := RB_goto rfl (by decide) rfl
theorem w187_47 : RB d 187 47 [l0, l1, l2, l3, l4, l5] st (S, I, R, z) Q = RB d 187 48 [l0, l1, l2, l3, l4, l5] (.int 0 :: st) (S, I, R, z) Q := RB_iconst rfl ki0
theorem w187_48 : RB d 187 48 [l0, l1, l2, l3, l4, l5] (.int y :: .int x :: st) (S, I, R, z) Q = RB d 187 49 [l0, l1, l2, l3, l4, l5] (.int (x + y) :: st) (S, I, R, z) Q := RB_iadd rfl
theorem w187_49 : RB d 187 49 [l0, l1, l2, l3, l4, l5] (.int x :: st) (S, I, R, z) Q = RB d 187 51 [l0, l1, l2, l3, .int x, l5] st (S, I, R, z) Q := RB_istore rfl (Nat.le_of_ble_eq_true rfl) rfl
theorem w187_51 : RB d 187 51 [l0, l1, l2, .int x, l4, l5] st (S, I, R, z) Q = RB d 187 52 [l0, l1, l2, .int x, l4, l5] (.int x :: st) (S, I, R, z) Q := RB_iloadn rfl rfl
theorem w187_52 : RB d 187 52 [l0, l1, l2, l3, l4, l5] st (S, I, R, z) Q = RB d 187 53 [l0, l1, l2, l3, l4, l5] (.int 1 :: st) (S, I, R, z) Q := RB_iconst rfl ki1
theorem w187_53 : RB d 187 53 [l0, l1, l2, l3, l4, .int x] st (S, I, R, z) Q = RB d 187 55 [l0, l1, l2, l3, l4, .int x] (.int x :: st) (S, I, R, z) Q := RB_iload rfl rfl
theorem w187_55 : RB d 187 55 [l0, l1, l2, l3, l4, l5] (.int y :: .int x :: st) (S, I, R, z) Q = RB d 187 56 [l0, l1, l2, l3, l4, l5] (.int (x <<< (y &&& 31)) :: st) (S, I, R, z) Q := RB_ishl rfl
theorem w187_56 : RB d 187 56 [l0, l1, l2, l3, l4, l5] (.int y :: .int x :: st) (S, I, R, z) Q = RB d 187 57 [l0, l1, l2, l3, l4, l5] (.int (x ||| y) :: st) (S, I, R, z) Q := RB_ior rfl
theorem w187_57 : RB d 187 57 [l0, l1, l2, l3, l4, l5] (.int x :: st) (S, I, R, z) Q = RB d 187 58 [l0, l1, l2, .int x, l4, l5] st (S, I, R, z) Q := RB_istoren rfl (Nat.le_of_ble_eq_true rfl) rfl
theorem w187_58 : RB d 187 58 [l0, l1, l2, l3, l4, l5] st (S, I, R, z) Q = RB d 187 5 [l0, l1, l2, l3, l4, l5] st (S, I, R, z) Q := RB_goto rfl (by decide) rfl
theorem w187_61 : RB d 187 61 [l0, l1, l2, l3, .int x, l5] st (S, I, R, z) Q = RB d 187 63 [l0, l1, l2, l3, .int x, l5] (.int x :: st) (S, I, R, z) Q := RB_iload rfl rfl
theorem w187_63 : RB d 187 63 [l0, l1, l2, l3, l4, l5] [.int x] (S, I, R, z) Q = Q (some (.int x)) (S, I, R, z) := RB_iret rfl rfl rfl
/-! 188: HangedWordModel.lines -/
theorem w188_0 : RB d 188 0 [.ref a, l1, l2] st (S, I, R, z) Q = RB d 188 1 [.ref a, l1, l2] (.ref a :: st) (S, I, R, z) Q := RB_aloadn rfl rfl
theorem w188_1 : RB d 188 1 [l0, .int x, l2] st (S, I, R, z) Q = RB d 188 2 [l0, .int x, l2] (.int x :: st) (S, I, R, z) Q := RB_iloadn rfl rfl
set_option maxRecDepth 20000 in
theorem w188_2 : RB d 188 2 [l0, l1, l2] [.int x0, .ref a] (S, I, R, z) Q = ((S a).1 = 7 ∧ RM d 139 [.ref a, .int x0] (S, I, R, z) (fun v τ => RB d 188 5 [l0, l1, l2] (aPush v []) τ Q)) := RB_callV (n := 2) (t := 0) (k := 95) (ins := .invokevirtual 95) rfl rfl rfl (by decide) (Nat.le_of_ble_eq_true rfl) (Nat.le_of_ble_eq_true rfl) rfl rfl
theorem w188_5 : RB d 188 5 [l0, l1, l2] (.int x :: st) (S, I, R, z) Q = ((x = 0 → RB d 188 25 [l0, l1, l2] st (S, I, R, z) Q) ∧ (¬ x = 0 → RB d 188 8 [l0, l1, l2] st (S, I, R, z) Q)) := RB_eq0 rfl (by decide) rfl
theorem w188_8 : RB d 188 8 [.ref a, l1, l2] st (S, I, R, z) Q = RB d 188 9 [.ref a, l1, l2] (.ref a :: st) (S, I, R, z) Q := RB_aloadn rfl rfl
theorem w188_9 : RB d 188 9 [l0, l1, .int x] st (S, I, R, z) Q = RB d 188 10 [l0, l1, .int x] (.int x :: st) (S, I, R, z) Q := RB_iloadn rfl rfl
set_option maxRecDepth 20000 in
theorem w188_10 : RB d 188 10 [l0, l1, l2] [.int x0, .ref a] (S, I, R, z) Q = ((S a).1 = 7 ∧ RM d 140 [.ref a, .int x0] (S, I, R, z) (fun v τ => RB d 188 13 [l0, l1, l2] (aPush v []) τ Q)) := RB_callV (n := 2) (t := 0) (k := 156) (ins := .invokevirtual 156) rfl rfl rfl (by decide) (Nat.le_of_ble_eq_true rfl) (Nat.le_of_ble_eq_true rfl) rfl rfl
theorem w188_13 : RB d 188 13 [l0, l1, l2] (.int x :: st) (S, I, R, z) Q = ((x = 0 → RB d 188 25 [l0, l1, l2] st (S, I, R, z) Q) ∧ (¬ x = 0 → RB d 188 16 [l0, l1, l2] st (S, I, R, z) Q)) := RB_eq0 rfl (by decide) rfl
theorem w188_16 : RB d 188 16 [.ref a, l1, l2] st (S, I, R, z) Q = RB d 188 17 [.ref a, l1, l2] (.ref a :: st) (S, I, R, z) Q := RB_aloadn rfl rfl
theorem w188_17 : RB d 188 17 [l0, .int x, l2] st (S, I, R, z) Q = RB d 188 18 [l0, .int x, l2] (.int x :: st) (S, I, R, z) Q := RB_iloadn rfl rfl
theorem w188_18 : RB d 188 18 [l0, l1, .int x] st (S, I, R, z) Q = RB d 188 19 [l0, l1, .int x] (.int x :: st) (S, I, R, z) Q := RB_iloadn rfl rfl
set_option maxRecDepth 20000 in
theorem w188_19 : RB d 188 19 [l0, l1, l2] [.int x1, .int x0, .ref a] (S, I, R, z) Q = ((S a).1 = 7 ∧ RM d 187 [.ref a, .int x0, .int x1] (S, I, R, z) (fun v τ => RB d 188 22 [l0, l1, l2] (aPush v []) τ Q)) := RB_callV (n := 3) (t := 0) (k := 201) (ins := .invokevirtual 201) rfl rfl rfl (by decide) (Nat.le_of_ble_eq_true rfl) (Nat.le_of_ble_eq_true rfl) rfl rfl
theorem w188_22 : RB d 188 22 [l0, l1, l2] st (S, I, R, z) Q = RB d 188 27 [l0, l1, l2] st (S, I, R, z) Q := RB_goto rfl (by decide) rfl
theorem w188_25 : RB d 188 25 [l0, l1, l2] st (S, I, R, z) Q = RB d 188 27 [l0, l1, l2] (.int (-1000000001) :: st) (S, I, R, z) Q := RB_ldc rfl rfl
theorem w188_27 : RB d 188 27 [l0, l1, l2] [.int x] (S, I, R, z) Q = Q (some (.int x)) (S, I, R, z) := RB_iret rfl rfl rfl
/-! 189: HangedWordModel.worst -/
theorem w189_0 : RB d 189 0 [.ref a, l1, l2, l3, l4, l5, l6] st (S, I, R, z) Q = RB d 189 1 [.ref a, l1, l2, l3, l4, l5, l6] (.ref a :: st) (S, I, R, z) Q := RB_aloadn rfl rfl
theorem w189_1 : RB d 189 1 [l0, .int x, l2, l3, l4, l5, l6] st (S, I, R, z) Q = RB d 189 2 [l0, .int x, l2, l3, l4, l5, l6] (.int x :: st) (S, I, R, z) Q := RB_iloadn rfl rfl
set_option maxRecDepth 20000 in
theorem w189_2 : RB d 189 2 [l0, l1, l2, l3, l4, l5, l6] [.int x0, .ref a] (S, I, R, z) Q = ((S a).1 = 7 ∧ RM d 140 [.ref a, .int x0] (S, I, R, z) (fun v τ => RB d 189 5 [l0, l1, l2, l3, l4, l5, l6] (aPush v []) τ Q)) := RB_callV (n := 2) (t := 0) (k := 156) (ins := .invokevirtual 156) rfl rfl rfl (by decide) (Nat.le_of_ble_eq_true rfl) (Nat.le_of_ble_eq_true rfl) rfl rfl
theorem w189_5 : RB d 189 5 [l0, l1, l2, l3, l4, l5, l6] (.int x :: st) (S, I, R, z) Q = ((x = 0 → RB d 189 17 [l0, l1, l2, l3, l4, l5, l6] st (S, I, R, z) Q) ∧ (¬ x = 0 → RB d 189 8 [l0, l1, l2, l3, l4, l5, l6] st (S, I, R, z) Q)) := RB_eq0 rfl (by decide) rfl
theorem w189_8 : RB d 189 8 [l0, l1, .int x, l3, l4, l5, l6] st (S, I, R, z) Q = RB d 189 9 [l0, l1, .int x, l3, l4, l5, l6] (.int x :: st) (S, I, R, z) Q := RB_iloadn rfl rfl
theorem w189_9 : RB d 189 9 [l0, l1, l2, l3, l4, l5, l6] st (S, I, R, z) Q = RB d 189 10 [l0, l1, l2, l3, l4, l5, l6] (.int 0 :: st) (S, I, R, z) Q := RB_iconst rfl ki0
theorem w189_10 : RB d 189 10 [l0, l1, l2, l3, l4, l5, l6] st (S, I, R, z) Q = RB d 189 11 [l0, l1, l2, l3, l4, l5, l6] (.int 1 :: st) (S, I, R, z) Q := RB_iconst rfl ki1
set_option maxRecDepth 20000 in
theorem w189_11 : RB d 189 11 [l0, l1, l2, l3, l4, l5, l6] [.int x2, .int x1, .int x0] (S, I, R, z) Q = RM d 135 [.int x0, .int x1, .int x2] (S, I, R, z) (fun v τ => RB d 189 14 [l0, l1, l2, l3, l4, l5, l6] (aPush v []) τ Q) := RB_callS (n := 3) (t := 1) (k := 76) (ins := .invokestatic 76) rfl rfl rfl (Nat.le_of_ble_eq_true rfl) (Nat.le_of_ble_eq_true rfl) rfl rfl
theorem w189_14 : RB d 189 14 [l0, l1, l2, l3, l4, l5, l6] (.int x :: st) (S, I, R, z) Q = ((x = 0 → RB d 189 17 [l0, l1, l2, l3, l4, l5, l6] st (S, I, R, z) Q) ∧ (¬ x = 0 → RB d 189 20 [l0, l1, l2, l3, l4, l5, l6] st (S, I, R, z) Q)) := RB_ne0 rfl (by decide) rfl
theorem w189_17 : RB d 189 17 [l0, l1, l2, l3, l4, l5, l6] st (S, I, R, z) Q = RB d 189 19 [l0, l1, l2, l3, l4, l5, l6] (.int (-1000000001) :: st) (S, I, R, z) Q := RB_ldc rfl rfl
theorem w189_19 : RB d 189 19 [l0, l1, l2, l3, l4, l5, l6] [.int x] (S, I, R, z) Q = Q (some (.int x)) (S, I, R, z) := RB_iret rfl rfl rfl
theorem w189_20 : RB d 189 20 [l0, l1, l2, l3, l4, l5, l6] st (S, I, R, z) Q = RB d 189 22 [l0, l1, l2, l3, l4, l5, l6] (.int (-1000000005) :: st) (S, I, R, z) Q := RB_ldc rfl rfl
theorem w189_22 : RB d 189 22 [l0, l1, l2, l3, l4, l5, l6] (.int x :: st) (S, I, R, z) Q = RB d 189 23 [l0, l1, l2, .int x, l4, l5, l6] st (S, I, R, z) Q := RB_istoren rfl (Nat.le_of_ble_eq_true rfl) rfl
theorem w189_23 : RB d 189 23 [l0, l1, l2, l3, l4, l5, l6] st (S, I, R, z) Q = RB d 189 24 [l0, l1, l2, l3, l4, l5, l6] (.int (-1) :: st) (S, I, R, z) Q := RB_iconst rfl kim1
theorem w189_24 : RB d 189 24 [l0, l1, l2, l3, l4, l5, l6] (.int x :: st) (S, I, R, z) Q = RB d 189 26 [l0, l1, l2, l3, .int x, l5, l6] st (S, I, R, z) Q := RB_istore rfl (Nat.le_of_ble_eq_true rfl) rfl
theorem w189_26 : RB d 189 26 [l0, l1, l2, l3, l4, l5, l6] st (S, I, R, z) Q = RB d 189 27 [l0, l1, l2, l3, l4, l5, l6] (.int 0 :: st) (S, I, R, z) Q := RB_iconst rfl ki0
theorem w189_27 : RB d 189 27 [l0, l1, l2, l3, l4, l5, l6] (.int x :: st) (S, I, R, z) Q = RB d 189 29 [l0, l1, l2, l3, l4, .int x, l6] st (S, I, R, z) Q := RB_istore rfl (Nat.le_of_ble_eq_true rfl) rfl
theorem w189_29 : RB d 189 29 [l0, l1, l2, l3, l4, .int x, l6] st (S, I, R, z) Q = RB d 189 31 [l0, l1, l2, l3, l4, .int x, l6] (.int x :: st) (S, I, R, z) Q := RB_iload rfl rfl
theorem w189_31 : RB d 189 31 [.ref a, l1, l2, l3, l4, l5, l6] st (S, I, R, z) Q = RB d 189 32 [.ref a, l1, l2, l3, l4, l5, l6] (.ref a :: st) (S, I, R, z) Q := RB_aloadn rfl rfl
theorem w189_32 : RB d 189 32 [l0, l1, l2, l3, l4, l5, l6] (.ref a :: st) (S, I, R, z) Q = ((S a).1 = 7 ∧ RB d 189 35 [l0, l1, l2, l3, l4, l5, l6] (va_rf (R a 0) :: st) (S, I, R, z) Q) := RB_getR rfl rfl
theorem w189_35 : RB d 189 35 [l0, l1, l2, l3, l4, l5, l6] st (S, I, R, z) Q = RB d 189 36 [l0, l1, l2, l3, l4, l5, l6] (.int 1 :: st) (S, I, R, z) Q := RB_iconst rfl ki1
theorem w189_36 : RB d 189 36 [l0, l1, l2, l3, l4, l5, l6] (.int i :: .ref a :: st) (S, I, R, z) Q = (((S a).1 = 9 ∧ aIx i (S a).2) ∧ RB d 189 37 [l0, l1, l2, l3, l4, l5, l6] (.int (I a i.toNatClampNeg) :: st) (S, I, R, z) Q) := RB_iald rfl
theorem w189_37 : RB d 189 37 [l0, l1, l2, l3, l4, l5, l6] (.int y :: .int x :: st) (S, I, R, z) Q = ((y ≤ x → RB d 189 85 [l0, l1, l2, l3, l4, l5, l6] st (S, I, R, z) Q) ∧ (¬ y ≤ x → RB d 189 40 [l0, l1, l2, l3, l4, l5, l6] st (S, I, R, z) Q)) := RB_ige rfl (by decide) rfl
theorem w189_40 : RB d 189 40 [.ref a, l1, l2, l3, l4, l5, l6] st (S, I, R, z) Q = RB d 189 41 [.ref a, l1, l2, l3, l4, l5, l6] (.ref a :: st) (S, I, R, z) Q := RB_aloadn rfl rfl
theorem w189_41 : RB d 189 41 [l0, l1, l2, l3, l4, .int x, l6] st (S, I, R, z) Q = RB d 189 43 [l0, l1, l2, l3, l4, .int x, l6] (.int x :: st) (S, I, R, z) Q := RB_iload rfl rfl
theorem w189_43 : RB d 189 43 [l0, .int x, l2, l3, l4, l5, l6] st (S, I, R, z) Q = RB d 189 44 [l0, .int x, l2, l3, l4, l5, l6] (.int x :: st) (S, I, R, z) Q := RB_iloadn rfl rfl
set_option maxRecDepth 20000 in
theorem w189_44 : RB d 189 44 [l0, l1, l2, l3, l4, l5, l6] [.int x1, .int x0, .ref a] (S, I, R, z) Q = ((S a).1 = 7 ∧ RM d 187 [.ref a, .int x0, .int x1] (S, I, R, z) (fun v τ => RB d 189 47 [l0, l1, l2, l3, l4, l5, l6] (aPush v []) τ Q)) := RB_callV (n := 3) (t := 0) (k := 201) (ins := .invokevirtual 201) rfl rfl rfl (by decide) (Nat.le_of_ble_eq_true rfl) (Nat.le_of_ble_eq_true rfl) rfl rfl
theorem w189_47 : RB d 189 47 [l0, l1, l2, l3, l4, l5, l6] (.int x :: st) (S, I, R, z) Q = RB d 189 49 [l0, l1, l2, l3, l4, l5, .int x] st (S, I, R, z) Q := RB_istore rfl (Nat.le_of_ble_eq_true rfl) rfl
theorem w189_49 : RB d 189 49 [l0, l1, l2, l3, l4, l5, .int x] st (S, I, R, z) Q = RB d 189 51 [l0, l1, l2, l3, l4, l5, .int x] (.int x :: st) (S, I, R, z) Q := RB_iload rfl rfl
theorem w189_51 : RB d 189 51 [l0, l1, l2, l3, .int x, l5, l6] st (S, I, R, z) Q = RB d 189 53 [l0, l1, l2, l3, .int x, l5, l6] (.int x :: st) (S, I, R, z) Q := RB_iload rfl rfl
theorem w189_53 : RB d 189 53 [l0, l1, l2, l3, l4, l5, l6] (.int y :: .int x :: st) (S, I, R, z) Q = ((x ≤ y → RB d 189 61 [l0, l1, l2, l3, l4, l5, l6] st (S, I, R, z) Q) ∧ (¬ x ≤ y → RB d 189 56 [l0, l1, l2, l3, l4, l5, l6] st (S, I, R, z) Q)) := RB_ile rfl (by decide) rfl
theorem w189_56 : RB d 189 56 [l0, l1, l2, l3, l4, .int x, l6] st (S, I, R, z) Q = RB d 189 58 [l0, l1, l2, l3, l4, .int x, l6] (.int x :: st) (S, I, R, z) Q := RB_iload rfl rfl
theorem w189_58 : RB d 189 58 [l0, l1, l2, l3, l4, l5, l6] st (S, I, R, z) Q = RB d 189 62 [l0, l1, l2, l3, l4, l5, l6] st (S, I, R, z) Q := RB_goto rfl (by decide) rfl
theorem w189_61 : RB d 189 61 [l0, l1, l2, .int x, l4, l5, l6] st (S, I, R, z) Q = RB d 189 62 [l0, l1, l2, .int x, l4, l5, l6] (.int x :: st) (S, I, R, z) Q := RB_iloadn rfl rfl
theorem w189_62 : RB d 189 62 [l0, l1, l2, l3, l4, l5, l6] (.int x :: st) (S, I, R, z) Q = RB d 189 63 [l0, l1, l2, .int x, l4, l5, l6] st (S, I, R, z) Q := RB_istoren rfl (Nat.le_of_ble_eq_true rfl) rfl
theorem w189_63 : RB d 189 63 [l0, l1, l2, l3, l4, l5, .int x] st (S, I, R, z) Q = RB d 189 65 [l0, l1, l2, l3, l4, l5, .int x] (.int x :: st) (S, I, R, z) Q := RB_iload rfl rfl
theorem w189_65 : RB d 189 65 [l0, l1, l2, l3, .int x, l5, l6] st (S, I, R, z) Q = RB d 189 67 [l0, l1, l2, l3, .int x, l5, l6] (.int x :: st) (S, I, R, z) Q := RB_iload rfl rfl
theorem w189_67 : RB d 189 67 [l0, l1, l2, l3, l4, l5, l6] (.int y :: .int x :: st) (S, I, R, z) Q = ((x ≤ y → RB d 189 75 [l0, l1, l2, l3, l4, l5, l6] st (S, I, R, z) Q) ∧ (¬ x ≤ y → RB d 189 70 [l0, l1, l2, l3, l4, l5, l6] st (S, I, R, z) Q)) := RB_ile rfl (by decide) rfl
theorem w189_70 : RB d 189 70 [l0, l1, l2, l3, l4, l5, .int x] st (S, I, R, z) Q = RB d 189 72 [l0, l1, l2, l3, l4, l5, .int x] (.int x :: st) (S, I, R, z) Q := RB_iload rfl rfl
theorem w189_72 : RB d 189 72 [l0, l1, l2, l3, l4, l5, l6] st (S, I, R, z) Q = RB d 189 77 [l0, l1, l2, l3, l4, l5, l6] st (S, I, R, z) Q := RB_goto rfl (by decide) rfl
theorem w189_75 : RB d 189 75 [l0, l1, l2, l3, .int x, l5, l6] st (S, I, R, z) Q = RB d 189 77 [l0, l1, l2, l3, .int x, l5, l6] (.int x :: st) (S, I, R, z) Q := RB_iload rfl rfl
theorem w189_77 : RB d 189 77 [l0, l1, l2, l3, l4, l5, l6] (.int x :: st) (S, I, R, z) Q = RB d 189 79 [l0, l1, l2, l3, .int x, l5, l6] st (S, I, R, z) Q := RB_istore rfl (Nat.le_of_ble_eq_true rfl) rfl
theorem w189_79 : RB d 189 79 [l0, l1, l2, l3, l4, .int x, l6] st (S, I, R, z) Q = RB d 189 82 [l0, l1, l2, l3, l4, .int (x + 1), l6] st (S, I, R, z) Q := RB_iinc rfl rfl (Nat.le_of_ble_eq_true rfl) ki1 rfl
theorem w189_82 : RB d 189 82 [l0, l1, l2, l3, l4, l5, l6] st (S, I, R, z) Q = RB d 189 29 [l0, l1, l2, l3, l4, l5, l6] st (S, I, R, z) Q := RB_goto rfl (by decide) rfl
theorem w189_85 : RB d 189 85 [l0, l1, l2, .int x, l4, l5, l6] st (S, I, R, z) Q = RB d 189 86 [l0, l1, l2, .int x, l4, l5, l6] (.int x :: st) (S, I, R, z) Q := RB_iloadn rfl rfl
theorem w189_86 : RB d 189 86 [l0, l1, l2, l3, l4, l5, l6] st (S, I, R, z) Q = RB d 189 88 [l0, l1, l2, l3, l4, l5, l6] (.int (-1000000005) :: st) (S, I, R, z) Q := RB_ldc rfl rfl
theorem w189_88 : RB d 189 88 [l0, l1, l2, l3, l4, l5, l6] (.int y :: .int x :: st) (S, I, R, z) Q = ((x = y → RB d 189 95 [l0, l1, l2, l3, l4, l5, l6] st (S, I, R, z) Q) ∧ (¬ x = y → RB d 189 91 [l0, l1, l2, l3, l4, l5, l6] st (S, I, R, z) Q)) := RB_ieq rfl (by decide) rfl
theorem w189_91 : RB d 189 91 [l0, l1, .int x, l3, l4, l5, l6] st (S, I, R, z) Q = RB d 189 92 [l0, l1, .int x, l3, l4, l5, l6] (.int x :: st) (S, I, R, z) Q := RB_iloadn rfl rfl
theorem w189_92 : RB d 189 92 [l0, l1, l2, l3, l4, l5, l6] (.int x :: st) (S, I, R, z) Q = ((x = 0 → RB d 189 95 [l0, l1, l2, l3, l4, l5, l6] st (S, I, R, z) Q) ∧ (¬ x = 0 → RB d 189 99 [l0, l1, l2, l3, l4, l5, l6] st (S, I, R, z) Q)) := RB_ne0 rfl (by decide) rfl
theorem w189_95 : RB d 189 95 [l0, l1, l2, .int x, l4, l5, l6] st (S, I, R, z) Q = RB d 189 96 [l0, l1, l2, .int x, l4, l5, l6] (.int x :: st) (S, I, R, z) Q := RB_iloadn rfl rfl
theorem w189_96 : RB d 189 96 [l0, l1, l2, l3, l4, l5, l6] st (S, I, R, z) Q = RB d 189 101 [l0, l1, l2, l3, l4, l5, l6] st (S, I, R, z) Q := RB_goto rfl (by decide) rfl
theorem w189_99 : RB d 189 99 [l0, l1, l2, l3, .int x, l5, l6] st (S, I, R, z) Q = RB d 189 101 [l0, l1, l2, l3, .int x, l5, l6] (.int x :: st) (S, I, R, z) Q := RB_iload rfl rfl
theorem w189_101 : RB d 189 101 [l0, l1, l2, l3, l4, l5, l6] [.int x] (S, I, R, z) Q = Q (some (.int x)) (S, I, R, z) := RB_iret rfl rfl rfl
/-! 190: HangedWordModel.even -/
theorem w190_0 : RB d 190 0 [.ref a, l1, l2, l3, l4, l5] st (S, I, R, z) Q = RB d 190 1 [.ref a, l1, l2, l3, l4, l5] (.ref a :: st) (S, I, R, z) Q := RB_aloadn rfl rfl
theorem w190_1 : RB d 190 1 [l0, .int x, l2, l3, l4, l5] st (S, I, R, z) Q = RB d 190 2 [l0, .int x, l2, l3, l4, l5] (.int x :: st) (S, I, R, z) Q := RB_iloadn rfl rfl
set_option maxRecDepth 20000 in
theorem w190_2 : RB d 190 2 [l0, l1, l2, l3, l4, l5] [.int x0, .ref a] (S, I, R, z) Q = ((S a).1 = 7 ∧ RM d 140 [.ref a, .int x0] (S, I, R, z) (fun v τ => RB d 190 5 [l0, l1, l2, l3, l4, l5] (aPush v []) τ Q)) := RB_callV (n := 2) (t := 0) (k := 156) (ins := .invokevirtual 156) rfl rfl rfl (by decide) (Nat.le_of_ble_eq_true rfl) (Nat.le_of_ble_eq_true rfl) rfl rfl
theorem w190_5 : RB d 190 5 [l0, l1, l2, l3, l4, l5] (.int x :: st) (S, I, R, z) Q = ((x = 0 → RB d 190 8 [l0, l1, l2, l3, l4, l5] st (S, I, R, z) Q) ∧ (¬ x = 0 → RB d 190 11 [l0, l1, l2, l3, l4, l5] st (S, I, R, z) Q)) := RB_ne0 rfl (by decide) rfl
theorem w190_8 : RB d 190 8 [l0, l1, l2, l3, l4, l5] st (S, I, R, z) Q = RB d 190 10 [l0, l1, l2, l3, l4, l5] (.int (-1000000001) :: st) (S, I, R, z) Q := RB_ldc rfl rfl
theorem w190_10 : RB d 190 10 [l0, l1, l2, l3, l4, l5] [.int x] (S, I, R, z) Q = Q (some (.int x)) (S, I, R, z) := RB_iret rfl rfl rfl
theorem w190_11 : RB d 190 11 [.ref a, l1, l2, l3, l4, l5] st (S, I, R, z) Q = RB d 190 12 [.ref a, l1, l2, l3, l4, l5] (.ref a :: st) (S, I, R, z) Q := RB_aloadn rfl rfl
theorem w190_12 : RB d 190 12 [l0, l1, l2, l3, l4, l5] st (S, I, R, z) Q = RB d 190 13 [l0, l1, l2, l3, l4, l5] (.int 1 :: st) (S, I, R, z) Q := RB_iconst rfl ki1
theorem w190_13 : RB d 190 13 [.ref a, l1, l2, l3, l4, l5] st (S, I, R, z) Q = RB d 190 14 [.ref a, l1, l2, l3, l4, l5] (.ref a :: st) (S, I, R, z) Q := RB_aloadn rfl rfl
theorem w190_14 : RB d 190 14 [l0, l1, l2, l3, l4, l5] (.ref a :: st) (S, I, R, z) Q = ((S a).1 = 7 ∧ RB d 190 17 [l0, l1, l2, l3, l4, l5] (va_rf (R a 0) :: st) (S, I, R, z) Q) := RB_getR rfl rfl
theorem w190_17 : RB d 190 17 [l0, l1, l2, l3, l4, l5] st (S, I, R, z) Q = RB d 190 18 [l0, l1, l2, l3, l4, l5] (.int 1 :: st) (S, I, R, z) Q := RB_iconst rfl ki1
theorem w190_18 : RB d 190 18 [l0, l1, l2, l3, l4, l5] (.int i :: .ref a :: st) (S, I, R, z) Q = (((S a).1 = 9 ∧ aIx i (S a).2) ∧ RB d 190 19 [l0, l1, l2, l3, l4, l5] (.int (I a i.toNatClampNeg) :: st) (S, I, R, z) Q) := RB_iald rfl
theorem w190_19 : RB d 190 19 [l0, l1, l2, l3, l4, l5] (.int y :: .int x :: st) (S, I, R, z) Q = RB d 190 20 [l0, l1, l2, l3, l4, l5] (.int (x <<< (y &&& 31)) :: st) (S, I, R, z) Q := RB_ishl rfl
theorem w190_20 : RB d 190 20 [l0, l1, l2, l3, l4, l5] st (S, I, R, z) Q = RB d 190 21 [l0, l1, l2, l3, l4, l5] (.int 1 :: st) (S, I, R, z) Q := RB_iconst rfl ki1
theorem w190_21 : RB d 190 21 [l0, l1, l2, l3, l4, l5] (.int y :: .int x :: st) (S, I, R, z) Q = RB d 190 22 [l0, l1, l2, l3, l4, l5] (.int (x - y) :: st) (S, I, R, z) Q := RB_isub rfl
set_option maxRecDepth 20000 in
theorem w190_22 : RB d 190 22 [l0, l1, l2, l3, l4, l5] [.int x0, .ref a] (S, I, R, z) Q = ((S a).1 = 7 ∧ RM d 158 [.ref a, .int x0] (S, I, R, z) (fun v τ => RB d 190 25 [l0, l1, l2, l3, l4, l5] (aPush v []) τ Q)) := RB_callV (n := 2) (t := 0) (k := 123) (ins := .invokevirtual 123) rfl rfl rfl (by decide) (Nat.le_of_ble_eq_true rfl) (Nat.le_of_ble_eq_true rfl) rfl rfl
theorem w190_25 : RB d 190 25 [l0, l1, l2, l3, l4, l5] (.int x :: st) (S, I, R, z) Q = RB d 190 26 [l0, l1, .int x, l3, l4, l5] st (S, I, R, z) Q := RB_istoren rfl (Nat.le_of_ble_eq_true rfl) rfl
theorem w190_26 : RB d 190 26 [l0, l1, l2, l3, l4, l5] st (S, I, R, z) Q = RB d 190 27 [l0, l1, l2, l3, l4, l5] (.int 1 :: st) (S, I, R, z) Q := RB_iconst rfl ki1
theorem w190_27 : RB d 190 27 [l0, l1, l2, l3, l4, l5] (.int x :: st) (S, I, R, z) Q = RB d 190 28 [l0, l1, l2, .int x, l4, l5] st (S, I, R, z) Q := RB_istoren rfl (Nat.le_of_ble_eq_true rfl) rfl
theorem w190_28 : RB d 190 28 [l0, l1, l2, .int x, l4, l5] st (S, I, R, z) Q = RB d 190 29 [l0, l1, l2, .int x, l4, l5] (.int x :: st) (S, I, R, z) Q := RB_iloadn rfl rfl
theorem w190_29 : RB d 190 29 [l0, l1, l2, l3, l4, l5] st (S, I, R, z) Q = RB d 190 31 [l0, l1, l2, l3, l4, l5] (.int 10 :: st) (S, I, R, z) Q := RB_bipush rfl kb10
theorem w190_31 : RB d 190 31 [l0, l1, l2, l3, l4, l5] (.int y :: .int x :: st) (S, I, R, z) Q = ((y ≤ x → RB d 190 99 [l0, l1, l2, l3, l4, l5] st (S, I, R, z) Q) ∧ (¬ y ≤ x → RB d 190 34 [l0, l1, l2, l3, l4, l5] st (S, I, R, z) Q)) := RB_ige rfl (by decide) rfl
theorem w190_34 : RB d 190 34 [l0, l1, l2, l3, l4, l5] st (S, I, R, z) Q = RB d 190 35 [l0, l1, l2, l3, l4, l5] (.int 0 :: st) (S, I, R, z) Q := RB_iconst rfl ki0
theorem w190_35 : RB d 190 35 [l0, l1, l2, l3, l4, l5] (.int x :: st) (S, I, R, z) Q = RB d 190 37 [l0, l1, l2, l3, .int x, l5] st (S, I, R, z) Q := RB_istore rfl (Nat.le_of_ble_eq_true rfl) rfl
theorem w190_37 : RB d 190 37 [l0, l1, l2, l3, l4, l5] st (S, I, R, z) Q = RB d 190 38 [l0, l1, l2, l3, l4, l5] (.int 0 :: st) (S, I, R, z) Q := RB_iconst rfl ki0
theorem w190_38 : RB d 190 38 [l0, l1, l2, l3, l4, l5] (.int x :: st) (S, I, R, z) Q = RB d 190 40 [l0, l1, l2, l3, l4, .int x] st (S, I, R, z) Q := RB_istore rfl (Nat.le_of_ble_eq_true rfl) rfl
theorem w190_40 : RB d 190 40 [l0, l1, l2, l3, l4, .int x] st (S, I, R, z) Q = RB d 190 42 [l0, l1, l2, l3, l4, .int x] (.int x :: st) (S, I, R, z) Q := RB_iload rfl rfl
theorem w190_42 : RB d 190 42 [.ref a, l1, l2, l3, l4, l5] st (S, I, R, z) Q = RB d 190 43 [.ref a, l1, l2, l3, l4, l5] (.ref a :: st) (S, I, R, z) Q := RB_aloadn rfl rfl
theorem w190_43 : RB d 190 43 [l0, l1, l2, l3, l4, l5] (.ref a :: st) (S, I, R, z) Q = ((S a).1 = 7 ∧ RB d 190 46 [l0, l1, l2, l3, l4, l5] (va_rf (R a 0) :: st) (S, I, R, z) Q) := RB_getR rfl rfl
theorem w190_46 : RB d 190 46 [l0, l1, l2, l3, l4, l5] st (S, I, R, z) Q = RB d 190 47 [l0, l1, l2, l3, l4, l5] (.int 1 :: st) (S, I, R, z) Q := RB_iconst rfl ki1
theorem w190_47 : RB d 190 47 [l0, l1, l2, l3, l4, l5] (.int i :: .ref a :: st) (S, I, R, z) Q = (((S a).1 = 9 ∧ aIx i (S a).2) ∧ RB d 190 48 [l0, l1, l2, l3, l4, l5] (.int (I a i.toNatClampNeg) :: st) (S, I, R, z) Q) := RB_iald rfl
theorem w190_48 : RB d 190 48 [l0, l1, l2, l3, l4, l5] (.int y :: .int x :: st) (S, I, R, z) Q = ((y ≤ x → RB d 190 83 [l0, l1, l2, l3, l4, l5] st (S, I, R, z) Q) ∧ (¬ y ≤ x → RB d 190 51 [l0, l1, l2, l3, l4, l5] st (S, I, R, z) Q)) := RB_ige rfl (by decide) rfl
theorem w190_51 : RB d 190 51 [l0, l1, l2, l3, .int x, l5] st (S, I, R, z) Q = RB d 190 53 [l0, l1, l2, l3, .int x, l5] (.int x :: st) (S, I, R, z) Q := RB_iload rfl rfl
theorem w190_53 : RB d 190 53 [.ref a, l1, l2, l3, l4, l5] st (S, I, R, z) Q = RB d 190 54 [.ref a, l1, l2, l3, l4, l5] (.ref a :: st) (S, I, R, z) Q := RB_aloadn rfl rfl
theorem w190_54 : RB d 190 54 [l0, l1, l2, l3, l4, .int x] st (S, I, R, z) Q = RB d 190 56 [l0, l1, l2, l3, l4, .int x] (.int x :: st) (S, I, R, z) Q := RB_iload rfl rfl
theorem w190_56 : RB d 190 56 [l0, .int x, l2, l3, l4, l5] st (S, I, R, z) Q = RB d 190 57 [l0, .int x, l2, l3, l4, l5] (.int x :: st) (S, I, R, z) Q := RB_iloadn rfl rfl
set_option maxRecDepth 20000 in
theorem w190_57 : RB d 190 57 [l0, l1, l2, l3, l4, l5] [.int x1, .int x0, .ref a, s0] (S, I, R, z) Q = ((S a).1 = 7 ∧ RM d 187 [.ref a, .int x0, .int x1] (S, I, R, z) (fun v τ => RB d 190 60 [l0, l1, l2, l3, l4, l5] (aPush v [s0]) τ Q)) := RB_callV (n := 3) (t := 0) (k := 201) (ins := .invokevirtual 201) rfl rfl rfl (by decide) (Nat.le_of_ble_eq_true rfl) (Nat.le_of_ble_eq_true rfl) rfl rfl
theorem w190_60 : RB d 190 60 [l0, l1, l2, .int x, l4, l5] st (S, I, R, z) Q = RB d 190 61 [l0, l1, l2, .int x, l4, l5] (.int x :: st) (S, I, R, z) Q := RB_iloadn rfl rfl
theorem w190_61 : RB d 190 61 [l0, l1, l2, l3, l4, l5] (.int y :: .int x :: st) (S, I, R, z) Q = ((x < y → RB d 190 73 [l0, l1, l2, l3, l4, l5] st (S, I, R, z) Q) ∧ (¬ x < y → RB d 190 64 [l0, l1, l2, l3, l4, l5] st (S, I, R, z) Q)) := RB_ilt rfl (by decide) rfl
theorem w190_64 : RB d 190 64 [.ref a, l1, l2, l3, l4, l5] st (S, I, R, z) Q = RB d 190 65 [.ref a, l1, l2, l3, l4, l5] (.ref a :: st) (S, I, R, z) Q := RB_aloadn rfl rfl
theorem w190_65 : RB d 190 65 [l0, l1, l2, l3, l4, .int x] st (S, I, R, z) Q = RB d 190 67 [l0, l1, l2, l3, l4, .int x] (.int x :: st) (S, I, R, z) Q := RB_iload rfl rfl
set_option maxRecDepth 20000 in
theorem w190_67 : RB d 190 67 [l0, l1, l2, l3, l4, l5] [.int x0, .ref a, s0] (S, I, R, z) Q = ((S a).1 = 7 ∧ RM d 145 [.ref a, .int x0] (S, I, R, z) (fun v τ => RB d 190 70 [l0, l1, l2, l3, l4, l5] (aPush v [s0]) τ Q)) := RB_callV (n := 2) (t := 0) (k := 116) (ins := .invokevirtual 116) rfl rfl rfl (by decide) (Nat.le_of_ble_eq_true rfl) (Nat.le_of_ble_eq_true rfl) rfl rfl
theorem w190_70 : RB d 190 70 [l0, l1, l2, l3, l4, l5] st (S, I, R, z) Q = RB d 190 74 [l0, l1, l2, l3, l4, l5] st (S, I, R, z) Q := RB_goto rfl (by decide) rfl
theorem w190_73 : RB d 190 73 [l0, l1, l2, l3, l4, l5] st (S, I, R, z) Q = RB d 190 74 [l0, l1, l2, l3, l4, l5] (.int 0 :: st) (S, I, R, z) Q := RB_iconst rfl ki0
theorem w190_74 : RB d 190 74 [l0, l1, l2, l3, l4, l5] (.int y :: .int x :: st) (S, I, R, z) Q = RB d 190 75 [l0, l1, l2, l3, l4, l5] (.int (x + y) :: st) (S, I, R, z) Q := RB_iadd rfl
theorem w190_75 : RB d 190 75 [l0, l1, l2, l3, l4, l5] (.int x :: st) (S, I, R, z) Q = RB d 190 77 [l0, l1, l2, l3, .int x, l5] st (S, I, R, z) Q := RB_istore rfl (Nat.le_of_ble_eq_true rfl) rfl
theorem w190_77 : RB d 190 77 [l0, l1, l2, l3, l4, .int x] st (S, I, R, z) Q = RB d 190 80 [l0, l1, l2, l3, l4, .int (x + 1)] st (S, I, R, z) Q := RB_iinc rfl rfl (Nat.le_of_ble_eq_true rfl) ki1 rfl
theorem w190_80 : RB d 190 80 [l0, l1, l2, l3, l4, l5] st (S, I, R, z) Q = RB d 190 40 [l0, l1, l2, l3, l4, l5] st (S, I, R, z) Q := RB_goto rfl (by decide) rfl
theorem w190_83 : RB d 190 83 [l0, l1, l2, l3, l4, l5] st (S, I, R, z) Q = RB d 190 84 [l0, l1, l2, l3, l4, l5] (.int 2 :: st) (S, I, R, z) Q := RB_iconst rfl ki2
theorem w190_84 : RB d 190 84 [l0, l1, l2, l3, .int x, l5] st (S, I, R, z) Q = RB d 190 86 [l0, l1, l2, l3, .int x, l5] (.int x :: st) (S, I, R, z) Q := RB_iload rfl rfl
theorem w190_86 : RB d 190 86 [l0, l1, l2, l3, l4, l5] (.int y :: .int x :: st) (S, I, R, z) Q = RB d 190 87 [l0, l1, l2, l3, l4, l5] (.int (x * y) :: st) (S, I, R, z) Q := RB_imul rfl
theorem w190_87 : RB d 190 87 [l0, l1, .int x, l3, l4, l5] st (S, I, R, z) Q = RB d 190 88 [l0, l1, .int x, l3, l4, l5] (.int x :: st) (S, I, R, z) Q := RB_iloadn rfl rfl
theorem w190_88 : RB d 190 88 [l0, l1, l2, l3, l4, l5] (.int y :: .int x :: st) (S, I, R, z) Q = ((y < x → RB d 190 93 [l0, l1, l2, l3, l4, l5] st (S, I, R, z) Q) ∧ (¬ y < x → RB d 190 91 [l0, l1, l2, l3, l4, l5] st (S, I, R, z) Q)) := RB_igt rfl (by decide) rfl
theorem w190_91 : RB d 190 91 [l0, l1, l2, .int x, l4, l5] st (S, I, R, z) Q = RB d 190 92 [l0, l1, l2, .int x, l4, l5] (.int x :: st) (S, I, R, z) Q := RB_iloadn rfl rfl
theorem w190_92 : RB d 190 92 [l0, l1, l2, l3, l4, l5] [.int x] (S, I, R, z) Q = Q (some (.int x)) (S, I, R, z) := RB_iret rfl rfl rfl
theorem w190_93 : RB d 190 93 [l0, l1, l2, .int x, l4, l5] st (S, I, R, z) Q = RB d 190 96 [l0, l1, l2, .int (x + 1), l4, l5] st (S, I, R, z) Q := RB_iinc rfl rfl (Nat.le_of_ble_eq_true rfl) ki1 rfl
theorem w190_96 : RB d 190 96 [l0, l1, l2, l3, l4, l5] st (S, I, R, z) Q = RB d 190 28 [l0, l1, l2, l3, l4, l5] st (S, I, R, z) Q := RB_goto rfl (by decide) rfl
theorem w190_99 : RB d 190 99 [l0, l1, l2, l3, l4, l5] st (S, I, R, z) Q = RB d 190 101 [l0, l1, l2, l3, l4, l5] (.int (-1000000005) :: st) (S, I, R, z) Q := RB_ldc rfl rfl
theorem w190_101 : RB d 190 101 [l0, l1, l2, l3, l4, l5] [.int x] (S, I, R, z) Q = Q (some (.int x)) (S, I, R, z) := RB_iret rfl rfl rfl
/-! 191: HangedWordModel.areDone -/
theorem w191_0 : RB d 191 0 [l0, l1, l2, l3] st (S, I, R, z) Q = RB d 191 1 [l0, l1, l2, l3] (.int 0 :: st) (S, I, R, z) Q := RB_iconst rfl ki0
theorem w191_1 : RB d 191 1 [l0, l1, l2, l3] (.int x :: st) (S, I, R, z) Q = RB d 191 2 [l0, l1, l2, .int x] st (S, I, R, z) Q := RB_istoren rfl (Nat.le_of_ble_eq_true rfl) rfl
theorem w191_2 : RB d 191 2 [l0, l1, l2, .int x] st (S, I, R, z) Q = RB d 191 3 [l0, l1, l2, .int x] (.int x :: st) (S, I, R, z) Q := RB_iloadn rfl rfl
theorem w191_3 : RB d 191 3 [.ref a, l1, l2, l3] st (S, I, R, z) Q = RB d 191 4 [.ref a, l1, l2, l3] (.ref a :: st) (S, I, R, z) Q := RB_aloadn rfl rfl
theorem w191_4 : RB d 191 4 [l0, l1, l2, l3] (.ref a :: st) (S, I, R, z) Q = ((S a).1 = 7 ∧ RB d 191 7 [l0, l1, l2, l3] (va_rf (R a 0) :: st) (S, I, R, z) Q) := RB_getR rfl rfl
theorem w191_7 : RB d 191 7 [l0, l1, l2, l3] st (S, I, R, z) Q = RB d 191 8 [l0, l1, l2, l3] (.int 1 :: st) (S, I, R, z) Q := RB_iconst rfl ki1
theorem w191_8 : RB d 191 8 [l0, l1, l2, l3] (.int i :: .ref a :: st) (S, I, R, z) Q = (((S a).1 = 9 ∧ aIx i (S a).2) ∧ RB d 191 9 [l0, l1, l2, l3] (.int (I a i.toNatClampNeg) :: st) (S, I, R, z) Q) := RB_iald rfl
theorem w191_9 : RB d 191 9 [l0, l1, l2, l3] (.int y :: .int x :: st) (S, I, R, z) Q = ((y ≤ x → RB d 191 41 [l0, l1, l2, l3] st (S, I, R, z) Q) ∧ (¬ y ≤ x → RB d 191 12 [l0, l1, l2, l3] st (S, I, R, z) Q)) := RB_ige rfl (by decide) rfl
theorem w191_12 : RB d 191 12 [l0, .int x, l2, l3] st (S, I, R, z) Q = RB d 191 13 [l0, .int x, l2, l3] (.int x :: st) (S, I, R, z) Q := RB_iloadn rfl rfl
theorem w191_13 : RB d 191 13 [l0, l1, l2, .int x] st (S, I, R, z) Q = RB d 191 14 [l0, l1, l2, .int x] (.int x :: st) (S, I, R, z) Q := RB_iloadn rfl rfl
theorem w191_14 : RB d 191 14 [l0, l1, l2, l3] (.int y :: .int x :: st) (S, I, R, z) Q = RB d 191 15 [l0, l1, l2, l3] (.int (x >>> (y &&& 31)) :: st) (S, I, R, z) Q := RB_ishr rfl
theorem w191_15 : RB d 191 15 [l0, l1, l2, l3] st (S, I, R, z) Q = RB d 191 16 [l0, l1, l2, l3] (.int 1 :: st) (S, I, R, z) Q := RB_iconst rfl ki1
theorem w191_16 : RB d 191 16 [l0, l1, l2, l3] (.int y :: .int x :: st) (S, I, R, z) Q = RB d 191 17 [l0, l1, l2, l3] (.int (x &&& y) :: st) (S, I, R, z) Q := RB_iand rfl
theorem w191_17 : RB d 191 17 [l0, l1, l2, l3] st (S, I, R, z) Q = RB d 191 18 [l0, l1, l2, l3] (.int 1 :: st) (S, I, R, z) Q := RB_iconst rfl ki1
theorem w191_18 : RB d 191 18 [l0, l1, l2, l3] (.int y :: .int x :: st) (S, I, R, z) Q = ((x = y → RB d 191 21 [l0, l1, l2, l3] st (S, I, R, z) Q) ∧ (¬ x = y → RB d 191 35 [l0, l1, l2, l3] st (S, I, R, z) Q)) := RB_ine rfl (by decide) rfl
theorem w191_21 : RB d 191 21 [.ref a, l1, l2, l3] st (S, I, R, z) Q = RB d 191 22 [.ref a, l1, l2, l3] (.ref a :: st) (S, I, R, z) Q := RB_aloadn rfl rfl
theorem w191_22 : RB d 191 22 [l0, l1, l2, .int x] st (S, I, R, z) Q = RB d 191 23 [l0, l1, l2, .int x] (.int x :: st) (S, I, R, z) Q := RB_iloadn rfl rfl
set_option maxRecDepth 20000 in
theorem w191_23 : RB d 191 23 [l0, l1, l2, l3] [.int x0, .ref a] (S, I, R, z) Q = ((S a).1 = 7 ∧ RM d 147 [.ref a, .int x0] (S, I, R, z) (fun v τ => RB d 191 26 [l0, l1, l2, l3] (aPush v []) τ Q)) := RB_callV (n := 2) (t := 0) (k := 99) (ins := .invokevirtual 99) rfl rfl rfl (by decide) (Nat.le_of_ble_eq_true rfl) (Nat.le_of_ble_eq_true rfl) rfl rfl
theorem w191_26 : RB d 191 26 [l0, l1, .int x, l3] st (S, I, R, z) Q = RB d 191 27 [l0, l1, .int x, l3] (.int x :: st) (S, I, R, z) Q := RB_iloadn rfl rfl
theorem w191_27 : RB d 191 27 [l0, l1, l2, l3] st (S, I, R, z) Q = RB d 191 28 [l0, l1, l2, l3] (.int (-1) :: st) (S, I, R, z) Q := RB_iconst rfl kim1
theorem w191_28 : RB d 191 28 [l0, l1, l2, l3] (.int y :: .int x :: st) (S, I, R, z) Q = RB d 191 29 [l0, l1, l2, l3] (.int (x ^^^ y) :: st) (S, I, R, z) Q := RB_ixor rfl
theorem w191_29 : RB d 191 29 [l0, l1, l2, l3] (.int y :: .int x :: st) (S, I, R, z) Q = RB d 191 30 [l0, l1, l2, l3] (.int (x &&& y) :: st) (S, I, R, z) Q := RB_iand rfl
theorem w191_30 : RB d 191 30 [l0, l1, l2, l3] (.int x :: st) (S, I, R, z) Q = ((x = 0 → RB d 191 35 [l0, l1, l2, l3] st (S, I, R, z) Q) ∧ (¬ x = 0 → RB d 191 33 [l0, l1, l2, l3] st (S, I, R, z) Q)) := RB_eq0 rfl (by decide) rfl
theorem w191_33 : RB d 191 33 [l0, l1, l2, l3] st (S, I, R, z) Q = RB d 191 34 [l0, l1, l2, l3] (.int 0 :: st) (S, I, R, z) Q := RB_iconst rfl ki0
theorem w191_34 : RB d 191 34 [l0, l1, l2, l3] [.int x] (S, I, R, z) Q = (narrow .boolean (.int x) = .int x ∧ Q (some (.int x)) (S, I, R, z)) := RB_zret rfl rfl (Or.inl rfl)
theorem w191_35 : RB d 191 35 [l0, l1, l2, .int x] st (S, I, R, z) Q = RB d 191 38 [l0, l1, l2, .int (x + 1)] st (S, I, R, z) Q := RB_iinc rfl rfl (Nat.le_of_ble_eq_true rfl) ki1 rfl
theorem w191_38 : RB d 191 38 [l0, l1, l2, l3] st (S, I, R, z) Q = RB d 191 2 [l0, l1, l2, l3] st (S, I, R, z) Q := RB_goto rfl (by decide) rfl
theorem w191_41 : RB d 191 41 [l0, l1, l2, l3] st (S, I, R, z) Q = RB d 191 42 [l0, l1, l2, l3] (.int 1 :: st) (S, I, R, z) Q := RB_iconst rfl ki1
theorem w191_42 : RB d 191 42 [l0, l1, l2, l3] [.int x] (S, I, R, z) Q = (narrow .boolean (.int x) = .int x ∧ Q (some (.int x)) (S, I, R, z)) := RB_zret rfl rfl (Or.inl rfl)
end
