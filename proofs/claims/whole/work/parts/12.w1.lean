section
variable {d : Nat} {st : List Value} {S : Nat → Nat × Nat} {I : Nat → Nat → Int32} {R : Nat → Nat → Option Nat} {z : Nat × Nat} {σ : HS} {Q : Option Value → HS → Prop} {x y i : Int32} {a b : Nat} {v w : Value} {l0 l1 l2 l3 l4 l5 l6 l7 l8 l9 l10 l11 l12 l13 l14 l15 : Value} {x0 x1 x2 x3 x4 x5 : Int32} {v0 v1 v2 v3 v4 s0 s1 s2 s3 s4 s5 : Value}
/-! 45: HangedWord$Tape.<init> -/
theorem w45_0 : RB d 45 0 [.ref a] st (S, I, R, z) Q = RB d 45 1 [.ref a] (.ref a :: st) (S, I, R, z) Q := RB_aloadn rfl rfl
theorem w45_1 : RB d 45 1 [l0] [.ref a] (S, I, R, z) Q = RM d 1000 [.ref a] (S, I, R, z) (fun v τ => RB d 45 4 [l0] (aPush v []) τ Q) := RB_callS (n := 1) (t := 2) (k := 3) (ins := .invokespecial 3) rfl rfl rfl (Nat.le_of_ble_eq_true rfl) (Nat.le_of_ble_eq_true rfl) rfl rfl
theorem w45_4 : RB d 45 4 [.ref a] st (S, I, R, z) Q = RB d 45 5 [.ref a] (.ref a :: st) (S, I, R, z) Q := RB_aloadn rfl rfl
theorem w45_5 : RB d 45 5 [l0] st (S, I, R, z) Q = RB d 45 7 [l0] (.int 96 :: st) (S, I, R, z) Q := RB_bipush rfl kb96
theorem w45_7 : RB d 45 7 [l0] (.int i :: st) σ Q = ((¬ i < 0 ∧ i.toNatClampNeg ≤ 5000) ∧ RB d 45 9 [l0] (.ref σ.2.2.2.1 :: st) (aNc 9 i.toNatClampNeg σ) Q) := RB_newI rfl
theorem w45_9 : RB d 45 9 [l0] (.ref b :: .ref a :: st) (S, I, R, z) Q = (((S a).1 = 3 ∧ 3 < 8 ∧ 16 ≤ a) ∧ RB d 45 12 [l0] st (S, I, aR R a 0 (some b), z) Q) := RB_putR rfl rfl (Or.inr (by decide +kernel))
theorem w45_12 : RB d 45 12 [.ref a] st (S, I, R, z) Q = RB d 45 13 [.ref a] (.ref a :: st) (S, I, R, z) Q := RB_aloadn rfl rfl
theorem w45_13 : RB d 45 13 [l0] st (S, I, R, z) Q = RB d 45 14 [l0] (.int 0 :: st) (S, I, R, z) Q := RB_iconst rfl ki0
theorem w45_14 : RB d 45 14 [l0] (.int x :: .ref a :: st) (S, I, R, z) Q = (((S a).1 = 3 ∧ 3 < 8 ∧ 16 ≤ a) ∧ RB d 45 17 [l0] st (S, aW I a 1 x, R, z) Q) := RB_putI rfl rfl (Or.inl rfl)
theorem w45_17 : RB d 45 17 [.ref a] st (S, I, R, z) Q = RB d 45 18 [.ref a] (.ref a :: st) (S, I, R, z) Q := RB_aloadn rfl rfl
theorem w45_18 : RB d 45 18 [l0] st (S, I, R, z) Q = RB d 45 19 [l0] (.int 0 :: st) (S, I, R, z) Q := RB_iconst rfl ki0
theorem w45_19 : RB d 45 19 [l0] (.int x :: .ref a :: st) (S, I, R, z) Q = (((S a).1 = 3 ∧ 3 < 8 ∧ 16 ≤ a) ∧ RB d 45 22 [l0] st (S, aW I a 2 x, R, z) Q) := RB_putI rfl rfl (Or.inl rfl)
theorem w45_22 : RB d 45 22 [.ref a] st (S, I, R, z) Q = RB d 45 23 [.ref a] (.ref a :: st) (S, I, R, z) Q := RB_aloadn rfl rfl
theorem w45_23 : RB d 45 23 [l0] st (S, I, R, z) Q = RB d 45 24 [l0] (.int 0 :: st) (S, I, R, z) Q := RB_iconst rfl ki0
theorem w45_24 : RB d 45 24 [l0] (.int x :: .ref a :: st) (S, I, R, z) Q = (((S a).1 = 3 ∧ 3 < 8 ∧ 16 ≤ a) ∧ RB d 45 27 [l0] st (S, aW I a 3 x, R, z) Q) := RB_putI rfl rfl (Or.inl rfl)
theorem w45_27 : RB d 45 27 [.ref a] st (S, I, R, z) Q = RB d 45 28 [.ref a] (.ref a :: st) (S, I, R, z) Q := RB_aloadn rfl rfl
theorem w45_28 : RB d 45 28 [l0] st (S, I, R, z) Q = RB d 45 29 [l0] (.int 0 :: st) (S, I, R, z) Q := RB_iconst rfl ki0
theorem w45_29 : RB d 45 29 [l0] (.int x :: .ref a :: st) (S, I, R, z) Q = (((S a).1 = 3 ∧ 3 < 8 ∧ 16 ≤ a) ∧ RB d 45 32 [l0] st (S, aW I a 4 x, R, z) Q) := RB_putI rfl rfl (Or.inl rfl)
theorem w45_32 : RB d 45 32 [.ref a] st (S, I, R, z) Q = RB d 45 33 [.ref a] (.ref a :: st) (S, I, R, z) Q := RB_aloadn rfl rfl
theorem w45_33 : RB d 45 33 [l0] st (S, I, R, z) Q = RB d 45 34 [l0] (.int 0 :: st) (S, I, R, z) Q := RB_iconst rfl ki0
theorem w45_34 : RB d 45 34 [l0] (.int x :: .ref a :: st) (S, I, R, z) Q = (((S a).1 = 3 ∧ 3 < 8 ∧ 16 ≤ a) ∧ (x = 0 ∨ x = 1) ∧ RB d 45 37 [l0] st (S, aW I a 5 x, R, z) Q) := RB_putZ rfl rfl (Or.inl rfl)
theorem w45_37 : RB d 45 37 [.ref a] st (S, I, R, z) Q = RB d 45 38 [.ref a] (.ref a :: st) (S, I, R, z) Q := RB_aloadn rfl rfl
theorem w45_38 : RB d 45 38 [l0] st (S, I, R, z) Q = RB d 45 40 [l0] (.int 96 :: st) (S, I, R, z) Q := RB_bipush rfl kb96
theorem w45_40 : RB d 45 40 [l0] (.int i :: st) σ Q = ((¬ i < 0 ∧ i.toNatClampNeg ≤ 5000) ∧ RB d 45 42 [l0] (.ref σ.2.2.2.1 :: st) (aNc 9 i.toNatClampNeg σ) Q) := RB_newI rfl
theorem w45_42 : RB d 45 42 [l0] (.ref b :: .ref a :: st) (S, I, R, z) Q = (((S a).1 = 3 ∧ 3 < 8 ∧ 16 ≤ a) ∧ RB d 45 45 [l0] st (S, I, aR R a 6 (some b), z) Q) := RB_putR rfl rfl (Or.inr (by decide +kernel))
theorem w45_45 : RB d 45 45 [.ref a] st (S, I, R, z) Q = RB d 45 46 [.ref a] (.ref a :: st) (S, I, R, z) Q := RB_aloadn rfl rfl
theorem w45_46 : RB d 45 46 [l0] st (S, I, R, z) Q = RB d 45 47 [l0] (.int 0 :: st) (S, I, R, z) Q := RB_iconst rfl ki0
theorem w45_47 : RB d 45 47 [l0] (.int x :: .ref a :: st) (S, I, R, z) Q = (((S a).1 = 3 ∧ 3 < 8 ∧ 16 ≤ a) ∧ RB d 45 50 [l0] st (S, aW I a 7 x, R, z) Q) := RB_putI rfl rfl (Or.inl rfl)
theorem w45_50 : RB d 45 50 [.ref a] st (S, I, R, z) Q = RB d 45 51 [.ref a] (.ref a :: st) (S, I, R, z) Q := RB_aloadn rfl rfl
theorem w45_51 : RB d 45 51 [l0] st (S, I, R, z) Q = RB d 45 52 [l0] (.int (-1) :: st) (S, I, R, z) Q := RB_iconst rfl kim1
theorem w45_52 : RB d 45 52 [l0] (.int x :: .ref a :: st) (S, I, R, z) Q = (((S a).1 = 3 ∧ 3 < 8 ∧ 16 ≤ a) ∧ RB d 45 55 [l0] st (S, aW I a 8 x, R, z) Q) := RB_putI rfl rfl (Or.inl rfl)
theorem w45_55 : RB d 45 55 [.ref a] st (S, I, R, z) Q = RB d 45 56 [.ref a] (.ref a :: st) (S, I, R, z) Q := RB_aloadn rfl rfl
theorem w45_56 : RB d 45 56 [l0] st (S, I, R, z) Q = RB d 45 57 [l0] (.int 0 :: st) (S, I, R, z) Q := RB_iconst rfl ki0
theorem w45_57 : RB d 45 57 [l0] (.int x :: .ref a :: st) (S, I, R, z) Q = (((S a).1 = 3 ∧ 3 < 8 ∧ 16 ≤ a) ∧ RB d 45 60 [l0] st (S, aW I a 9 x, R, z) Q) := RB_putI rfl rfl (Or.inl rfl)
theorem w45_60 : RB d 45 60 [.ref a] st (S, I, R, z) Q = RB d 45 61 [.ref a] (.ref a :: st) (S, I, R, z) Q := RB_aloadn rfl rfl
theorem w45_61 : RB d 45 61 [l0] st (S, I, R, z) Q = RB d 45 62 [l0] (.int 0 :: st) (S, I, R, z) Q := RB_iconst rfl ki0
theorem w45_62 : RB d 45 62 [l0] (.int x :: .ref a :: st) (S, I, R, z) Q = (((S a).1 = 3 ∧ 3 < 8 ∧ 16 ≤ a) ∧ RB d 45 65 [l0] st (S, aW I a 10 x, R, z) Q) := RB_putI rfl rfl (Or.inl rfl)
theorem w45_65 : RB d 45 65 [.ref a] st (S, I, R, z) Q = RB d 45 66 [.ref a] (.ref a :: st) (S, I, R, z) Q := RB_aloadn rfl rfl
theorem w45_66 : RB d 45 66 [l0] st (S, I, R, z) Q = RB d 45 67 [l0] (.int 0 :: st) (S, I, R, z) Q := RB_iconst rfl ki0
theorem w45_67 : RB d 45 67 [l0] (.int x :: .ref a :: st) (S, I, R, z) Q = (((S a).1 = 3 ∧ 3 < 8 ∧ 16 ≤ a) ∧ RB d 45 70 [l0] st (S, aW I a 11 x, R, z) Q) := RB_putI rfl rfl (Or.inl rfl)
theorem w45_70 : RB d 45 70 [l0] [] (S, I, R, z) Q = Q none (S, I, R, z) := RB_ret rfl rfl
/-! 46: HangedWord$Tape.takeFour -/
theorem w46_0 : RB d 46 0 [l0, l1, l2] st (S, I, R, z) Q = RB d 46 2 [l0, l1, l2] (.int 24 :: st) (S, I, R, z) Q := RB_bipush rfl kb24
theorem w46_2 : RB d 46 2 [l0, l1, l2] (.int x :: st) (S, I, R, z) Q = RB d 46 3 [l0, l1, .int x] st (S, I, R, z) Q := RB_istoren rfl (Nat.le_of_ble_eq_true rfl) rfl
theorem w46_3 : RB d 46 3 [l0, l1, .int x] st (S, I, R, z) Q = RB d 46 4 [l0, l1, .int x] (.int x :: st) (S, I, R, z) Q := RB_iloadn rfl rfl
theorem w46_4 : RB d 46 4 [l0, l1, l2] (.int x :: st) (S, I, R, z) Q = ((x < 0 → RB d 46 48 [l0, l1, l2] st (S, I, R, z) Q) ∧ (¬ x < 0 → RB d 46 7 [l0, l1, l2] st (S, I, R, z) Q)) := RB_lt0 rfl (by decide) rfl
theorem w46_7 : RB d 46 7 [.ref a, l1, l2] st (S, I, R, z) Q = RB d 46 8 [.ref a, l1, l2] (.ref a :: st) (S, I, R, z) Q := RB_aloadn rfl rfl
theorem w46_8 : RB d 46 8 [l0, l1, l2] (.ref a :: st) (S, I, R, z) Q = ((S a).1 = 3 ∧ RB d 46 11 [l0, l1, l2] (.int (I a 1) :: st) (S, I, R, z) Q) := RB_getI rfl rfl
theorem w46_11 : RB d 46 11 [l0, l1, l2] st (S, I, R, z) Q = RB d 46 13 [l0, l1, l2] (.int 96 :: st) (S, I, R, z) Q := RB_bipush rfl kb96
theorem w46_13 : RB d 46 13 [l0, l1, l2] (.int y :: .int x :: st) (S, I, R, z) Q = ((y ≤ x → RB d 46 42 [l0, l1, l2] st (S, I, R, z) Q) ∧ (¬ y ≤ x → RB d 46 16 [l0, l1, l2] st (S, I, R, z) Q)) := RB_ige rfl (by decide) rfl
theorem w46_16 : RB d 46 16 [.ref a, l1, l2] st (S, I, R, z) Q = RB d 46 17 [.ref a, l1, l2] (.ref a :: st) (S, I, R, z) Q := RB_aloadn rfl rfl
theorem w46_17 : RB d 46 17 [l0, l1, l2] (.ref a :: st) (S, I, R, z) Q = ((S a).1 = 3 ∧ RB d 46 20 [l0, l1, l2] (va_rf (R a 0) :: st) (S, I, R, z) Q) := RB_getR rfl rfl
theorem w46_20 : RB d 46 20 [.ref a, l1, l2] st (S, I, R, z) Q = RB d 46 21 [.ref a, l1, l2] (.ref a :: st) (S, I, R, z) Q := RB_aloadn rfl rfl
theorem w46_21 : RB d 46 21 [l0, l1, l2] (.ref a :: st) (S, I, R, z) Q = ((S a).1 = 3 ∧ RB d 46 24 [l0, l1, l2] (.int (I a 1) :: st) (S, I, R, z) Q) := RB_getI rfl rfl
theorem w46_24 : RB d 46 24 [l0, .int x, l2] st (S, I, R, z) Q = RB d 46 25 [l0, .int x, l2] (.int x :: st) (S, I, R, z) Q := RB_iloadn rfl rfl
theorem w46_25 : RB d 46 25 [l0, l1, .int x] st (S, I, R, z) Q = RB d 46 26 [l0, l1, .int x] (.int x :: st) (S, I, R, z) Q := RB_iloadn rfl rfl
theorem w46_26 : RB d 46 26 [l0, l1, l2] (.int y :: .int x :: st) (S, I, R, z) Q = RB d 46 27 [l0, l1, l2] (.int ((x.toUInt32 >>> (y.toUInt32 &&& Int32.toUInt32 31)).toInt32) :: st) (S, I, R, z) Q := RB_iushr rfl
theorem w46_27 : RB d 46 27 [l0, l1, l2] st (S, I, R, z) Q = RB d 46 30 [l0, l1, l2] (.int 255 :: st) (S, I, R, z) Q := RB_sipush rfl ks255
theorem w46_30 : RB d 46 30 [l0, l1, l2] (.int y :: .int x :: st) (S, I, R, z) Q = RB d 46 31 [l0, l1, l2] (.int (x &&& y) :: st) (S, I, R, z) Q := RB_iand rfl
theorem w46_31 : RB d 46 31 [l0, l1, l2] (.int x :: .int i :: .ref a :: st) (S, I, R, z) Q = (((S a).1 = 9 ∧ aIx i (S a).2 ∧ 16 ≤ a) ∧ RB d 46 32 [l0, l1, l2] st (S, aW I a i.toNatClampNeg x, R, z) Q) := RB_iast rfl
theorem w46_32 : RB d 46 32 [.ref a, l1, l2] st (S, I, R, z) Q = RB d 46 33 [.ref a, l1, l2] (.ref a :: st) (S, I, R, z) Q := RB_aloadn rfl rfl
theorem w46_33 : RB d 46 33 [l0, l1, l2] (v :: st) (S, I, R, z) Q = RB d 46 34 [l0, l1, l2] (v :: v :: st) (S, I, R, z) Q := RB_dup rfl
theorem w46_34 : RB d 46 34 [l0, l1, l2] (.ref a :: st) (S, I, R, z) Q = ((S a).1 = 3 ∧ RB d 46 37 [l0, l1, l2] (.int (I a 1) :: st) (S, I, R, z) Q) := RB_getI rfl rfl
theorem w46_37 : RB d 46 37 [l0, l1, l2] st (S, I, R, z) Q = RB d 46 38 [l0, l1, l2] (.int 1 :: st) (S, I, R, z) Q := RB_iconst rfl ki1
theorem w46_38 : RB d 46 38 [l0, l1, l2] (.int y :: .int x :: st) (S, I, R, z) Q = RB d 46 39 [l0, l1, l2] (.int (x + y) :: st) (S, I, R, z) Q := RB_iadd rfl
theorem w46_39 : RB d 46 39 [l0, l1, l2] (.int x :: .ref a :: st) (S, I, R, z) Q = (((S a).1 = 3 ∧ 3 < 8 ∧ 16 ≤ a) ∧ RB d 46 42 [l0, l1, l2] st (S, aW I a 1 x, R, z) Q) := RB_putI rfl rfl (Or.inl rfl)
theorem w46_42 : RB d 46 42 [l0, l1, .int x] st (S, I, R, z) Q = RB d 46 45 [l0, l1, .int (x + (-8))] st (S, I, R, z) Q := RB_iinc rfl rfl (Nat.le_of_ble_eq_true rfl) kim8 rfl
theorem w46_45 : RB d 46 45 [l0, l1, l2] st (S, I, R, z) Q = RB d 46 3 [l0, l1, l2] st (S, I, R, z) Q := RB_goto rfl (by decide) rfl
theorem w46_48 : RB d 46 48 [l0, l1, l2] [] (S, I, R, z) Q = Q none (S, I, R, z) := RB_ret rfl rfl
/-! 47: HangedWord$Tape.isText -/
theorem w47_0 : RB d 47 0 [.ref a] st (S, I, R, z) Q = RB d 47 1 [.ref a] (.ref a :: st) (S, I, R, z) Q := RB_aloadn rfl rfl
theorem w47_1 : RB d 47 1 [l0] st (S, I, R, z) Q = RB d 47 2 [l0] (.int 0 :: st) (S, I, R, z) Q := RB_iconst rfl ki0
theorem w47_2 : RB d 47 2 [l0] (.int x :: .ref a :: st) (S, I, R, z) Q = (((S a).1 = 3 ∧ 3 < 8 ∧ 16 ≤ a) ∧ RB d 47 5 [l0] st (S, aW I a 3 x, R, z) Q) := RB_putI rfl rfl (Or.inl rfl)
theorem w47_5 : RB d 47 5 [.ref a] st (S, I, R, z) Q = RB d 47 6 [.ref a] (.ref a :: st) (S, I, R, z) Q := RB_aloadn rfl rfl
theorem w47_6 : RB d 47 6 [l0] st (S, I, R, z) Q = RB d 47 7 [l0] (.int 0 :: st) (S, I, R, z) Q := RB_iconst rfl ki0
theorem w47_7 : RB d 47 7 [l0] (.int x :: .ref a :: st) (S, I, R, z) Q = (((S a).1 = 3 ∧ 3 < 8 ∧ 16 ≤ a) ∧ RB d 47 10 [l0] st (S, aW I a 4 x, R, z) Q) := RB_putI rfl rfl (Or.inl rfl)
theorem w47_10 : RB d 47 10 [.ref a] st (S, I, R, z) Q = RB d 47 11 [.ref a] (.ref a :: st) (S, I, R, z) Q := RB_aloadn rfl rfl
theorem w47_11 : RB d 47 11 [l0] st (S, I, R, z) Q = RB d 47 12 [l0] (.int 0 :: st) (S, I, R, z) Q := RB_iconst rfl ki0
theorem w47_12 : RB d 47 12 [l0] (.int x :: .ref a :: st) (S, I, R, z) Q = (((S a).1 = 3 ∧ 3 < 8 ∧ 16 ≤ a) ∧ RB d 47 15 [l0] st (S, aW I a 7 x, R, z) Q) := RB_putI rfl rfl (Or.inl rfl)
theorem w47_15 : RB d 47 15 [.ref a] st (S, I, R, z) Q = RB d 47 16 [.ref a] (.ref a :: st) (S, I, R, z) Q := RB_aloadn rfl rfl
theorem w47_16 : RB d 47 16 [l0] st (S, I, R, z) Q = RB d 47 17 [l0] (.int 0 :: st) (S, I, R, z) Q := RB_iconst rfl ki0
theorem w47_17 : RB d 47 17 [l0] (.int x :: .ref a :: st) (S, I, R, z) Q = (((S a).1 = 3 ∧ 3 < 8 ∧ 16 ≤ a) ∧ RB d 47 20 [l0] st (S, aW I a 9 x, R, z) Q) := RB_putI rfl rfl (Or.inl rfl)
theorem w47_20 : RB d 47 20 [.ref a] st (S, I, R, z) Q = RB d 47 21 [.ref a] (.ref a :: st) (S, I, R, z) Q := RB_aloadn rfl rfl
theorem w47_21 : RB d 47 21 [l0] [.ref a] (S, I, R, z) Q = ((S a).1 = 3 ∧ RM d 51 [.ref a] (S, I, R, z) (fun v τ => RB d 47 24 [l0] (aPush v []) τ Q)) := RB_callV (n := 1) (t := 0) (k := 50) (ins := .invokevirtual 50) rfl rfl rfl (by decide) (Nat.le_of_ble_eq_true rfl) (Nat.le_of_ble_eq_true rfl) rfl rfl
theorem w47_24 : RB d 47 24 [.ref a] st (S, I, R, z) Q = RB d 47 25 [.ref a] (.ref a :: st) (S, I, R, z) Q := RB_aloadn rfl rfl
theorem w47_25 : RB d 47 25 [.ref a] st (S, I, R, z) Q = RB d 47 26 [.ref a] (.ref a :: st) (S, I, R, z) Q := RB_aloadn rfl rfl
theorem w47_26 : RB d 47 26 [l0] [.ref a, s0] (S, I, R, z) Q = ((S a).1 = 3 ∧ RM d 49 [.ref a] (S, I, R, z) (fun v τ => RB d 47 29 [l0] (aPush v [s0]) τ Q)) := RB_callV (n := 1) (t := 0) (k := 53) (ins := .invokevirtual 53) rfl rfl rfl (by decide) (Nat.le_of_ble_eq_true rfl) (Nat.le_of_ble_eq_true rfl) rfl rfl
theorem w47_29 : RB d 47 29 [l0] (.int x :: .ref a :: st) (S, I, R, z) Q = (((S a).1 = 3 ∧ 3 < 8 ∧ 16 ≤ a) ∧ RB d 47 32 [l0] st (S, aW I a 8 x, R, z) Q) := RB_putI rfl rfl (Or.inl rfl)
theorem w47_32 : RB d 47 32 [.ref a] st (S, I, R, z) Q = RB d 47 33 [.ref a] (.ref a :: st) (S, I, R, z) Q := RB_aloadn rfl rfl
theorem w47_33 : RB d 47 33 [l0] (.ref a :: st) (S, I, R, z) Q = ((S a).1 = 3 ∧ RB d 47 36 [l0] (.int (I a 8) :: st) (S, I, R, z) Q) := RB_getI rfl rfl
theorem w47_36 : RB d 47 36 [l0] (.int x :: st) (S, I, R, z) Q = ((0 ≤ x → RB d 47 41 [l0] st (S, I, R, z) Q) ∧ (¬ 0 ≤ x → RB d 47 39 [l0] st (S, I, R, z) Q)) := RB_ge0 rfl (by decide) rfl
theorem w47_39 : RB d 47 39 [l0] st (S, I, R, z) Q = RB d 47 40 [l0] (.int 0 :: st) (S, I, R, z) Q := RB_iconst rfl ki0
theorem w47_40 : RB d 47 40 [l0] [.int x] (S, I, R, z) Q = (narrow .boolean (.int x) = .int x ∧ Q (some (.int x)) (S, I, R, z)) := RB_zret rfl rfl (Or.inl rfl)
theorem w47_41 : RB d 47 41 [.ref a] st (S, I, R, z) Q = RB d 47 42 [.ref a] (.ref a :: st) (S, I, R, z) Q := RB_aloadn rfl rfl
theorem w47_42 : RB d 47 42 [l0] [.ref a] (S, I, R, z) Q = ((S a).1 = 3 ∧ RM d 51 [.ref a] (S, I, R, z) (fun v τ => RB d 47 45 [l0] (aPush v []) τ Q)) := RB_callV (n := 1) (t := 0) (k := 50) (ins := .invokevirtual 50) rfl rfl rfl (by decide) (Nat.le_of_ble_eq_true rfl) (Nat.le_of_ble_eq_true rfl) rfl rfl
theorem w47_45 : RB d 47 45 [.ref a] st (S, I, R, z) Q = RB d 47 46 [.ref a] (.ref a :: st) (S, I, R, z) Q := RB_aloadn rfl rfl
theorem w47_46 : RB d 47 46 [l0] [.ref a] (S, I, R, z) Q = ((S a).1 = 3 ∧ RM d 56 [.ref a] (S, I, R, z) (fun v τ => RB d 47 49 [l0] (aPush v []) τ Q)) := RB_callV (n := 1) (t := 0) (k := 57) (ins := .invokevirtual 57) rfl rfl rfl (by decide) (Nat.le_of_ble_eq_true rfl) (Nat.le_of_ble_eq_true rfl) rfl rfl
theorem w47_49 : RB d 47 49 [l0] (.int x :: st) (S, I, R, z) Q = ((x = 0 → RB d 47 63 [l0] st (S, I, R, z) Q) ∧ (¬ x = 0 → RB d 47 52 [l0] st (S, I, R, z) Q)) := RB_eq0 rfl (by decide) rfl
theorem w47_52 : RB d 47 52 [.ref a] st (S, I, R, z) Q = RB d 47 53 [.ref a] (.ref a :: st) (S, I, R, z) Q := RB_aloadn rfl rfl
theorem w47_53 : RB d 47 53 [l0] (.ref a :: st) (S, I, R, z) Q = ((S a).1 = 3 ∧ RB d 47 56 [l0] (.int (I a 4) :: st) (S, I, R, z) Q) := RB_getI rfl rfl
theorem w47_56 : RB d 47 56 [l0] (.int x :: st) (S, I, R, z) Q = ((x = 0 → RB d 47 59 [l0] st (S, I, R, z) Q) ∧ (¬ x = 0 → RB d 47 63 [l0] st (S, I, R, z) Q)) := RB_ne0 rfl (by decide) rfl
theorem w47_59 : RB d 47 59 [l0] st (S, I, R, z) Q = RB d 47 60 [l0] (.int 1 :: st) (S, I, R, z) Q := RB_iconst rfl ki1
theorem w47_60 : RB d 47 60 [l0] st (S, I, R, z) Q = RB d 47 64 [l0] st (S, I, R, z) Q := RB_goto rfl (by decide) rfl
theorem w47_63 : RB d 47 63 [l0] st (S, I, R, z) Q = RB d 47 64 [l0] (.int 0 :: st) (S, I, R, z) Q := RB_iconst rfl ki0
theorem w47_64 : RB d 47 64 [l0] [.int x] (S, I, R, z) Q = (narrow .boolean (.int x) = .int x ∧ Q (some (.int x)) (S, I, R, z)) := RB_zret rfl rfl (Or.inl rfl)
/-! 48: HangedWord$Tape.textRead -/
theorem w48_0 : RB d 48 0 [l0] st σ Q = RB d 48 3 [l0] (.ref σ.2.2.2.1 :: st) (aNc 4 3 σ) Q := RB_new rfl rfl rfl
theorem w48_3 : RB d 48 3 [l0] (v :: st) (S, I, R, z) Q = RB d 48 4 [l0] (v :: v :: st) (S, I, R, z) Q := RB_dup rfl
theorem w48_4 : RB d 48 4 [.ref a] st (S, I, R, z) Q = RB d 48 5 [.ref a] (.ref a :: st) (S, I, R, z) Q := RB_aloadn rfl rfl
theorem w48_5 : RB d 48 5 [l0] (.ref a :: st) (S, I, R, z) Q = ((S a).1 = 3 ∧ RB d 48 8 [l0] (.int (I a 8) :: st) (S, I, R, z) Q) := RB_getI rfl rfl
theorem w48_8 : RB d 48 8 [.ref a] st (S, I, R, z) Q = RB d 48 9 [.ref a] (.ref a :: st) (S, I, R, z) Q := RB_aloadn rfl rfl
theorem w48_9 : RB d 48 9 [l0] (.ref a :: st) (S, I, R, z) Q = ((S a).1 = 3 ∧ RB d 48 12 [l0] (.int (I a 9) :: st) (S, I, R, z) Q) := RB_getI rfl rfl
theorem w48_12 : RB d 48 12 [.ref a] st (S, I, R, z) Q = RB d 48 13 [.ref a] (.ref a :: st) (S, I, R, z) Q := RB_aloadn rfl rfl
theorem w48_13 : RB d 48 13 [l0] (.ref a :: st) (S, I, R, z) Q = ((S a).1 = 3 ∧ RB d 48 16 [l0] (va_rf (R a 6) :: st) (S, I, R, z) Q) := RB_getR rfl rfl
theorem w48_16 : RB d 48 16 [.ref a] st (S, I, R, z) Q = RB d 48 17 [.ref a] (.ref a :: st) (S, I, R, z) Q := RB_aloadn rfl rfl
theorem w48_17 : RB d 48 17 [l0] (.ref a :: st) (S, I, R, z) Q = ((S a).1 = 3 ∧ RB d 48 20 [l0] (.int (I a 7) :: st) (S, I, R, z) Q) := RB_getI rfl rfl
theorem w48_20 : RB d 48 20 [l0] [.int x3, v2, .int x1, .int x0, .ref a, s0] (S, I, R, z) Q = ((S a).1 = 4 ∧ RM d 66 [.ref a, .int x0, .int x1, v2, .int x3] (S, I, R, z) (fun v τ => RB d 48 23 [l0] (aPush v [s0]) τ Q)) := RB_callV (n := 5) (t := 2) (k := 63) (ins := .invokespecial 63) rfl rfl rfl (by decide) (Nat.le_of_ble_eq_true rfl) (Nat.le_of_ble_eq_true rfl) rfl rfl
theorem w48_23 : RB d 48 23 [l0] [.ref a] (S, I, R, z) Q = Q (some (.ref a)) (S, I, R, z) := RB_aret rfl rfl
theorem w48_23N : RB d 48 23 [l0] [.null] (S, I, R, z) Q = Q (some .null) (S, I, R, z) := RB_aretN rfl rfl
/-! 49: HangedWord$Tape.keyAtHand -/
theorem w49_0 : RB d 49 0 [.ref a] st (S, I, R, z) Q = RB d 49 1 [.ref a] (.ref a :: st) (S, I, R, z) Q := RB_aloadn rfl rfl
theorem w49_1 : RB d 49 1 [l0] st (S, I, R, z) Q = RB d 49 3 [l0] (.ref 2 :: st) (S, I, R, z) Q := RB_ldcS rfl rfl rfl
theorem w49_3 : RB d 49 3 [l0] [v0, .ref a] (S, I, R, z) Q = ((S a).1 = 3 ∧ RM d 54 [.ref a, v0] (S, I, R, z) (fun v τ => RB d 49 6 [l0] (aPush v []) τ Q)) := RB_callV (n := 2) (t := 0) (k := 68) (ins := .invokevirtual 68) rfl rfl rfl (by decide) (Nat.le_of_ble_eq_true rfl) (Nat.le_of_ble_eq_true rfl) rfl rfl
theorem w49_6 : RB d 49 6 [l0] (.int x :: st) (S, I, R, z) Q = ((x = 0 → RB d 49 13 [l0] st (S, I, R, z) Q) ∧ (¬ x = 0 → RB d 49 9 [l0] st (S, I, R, z) Q)) := RB_eq0 rfl (by decide) rfl
theorem w49_9 : RB d 49 9 [l0] st (S, I, R, z) Q = RB d 49 10 [l0] (.int 0 :: st) (S, I, R, z) Q := RB_iconst rfl ki0
theorem w49_10 : RB d 49 10 [l0] st (S, I, R, z) Q = RB d 49 40 [l0] st (S, I, R, z) Q := RB_goto rfl (by decide) rfl
theorem w49_13 : RB d 49 13 [.ref a] st (S, I, R, z) Q = RB d 49 14 [.ref a] (.ref a :: st) (S, I, R, z) Q := RB_aloadn rfl rfl
theorem w49_14 : RB d 49 14 [l0] st (S, I, R, z) Q = RB d 49 16 [l0] (.ref 3 :: st) (S, I, R, z) Q := RB_ldcS rfl rfl rfl
theorem w49_16 : RB d 49 16 [l0] [v0, .ref a] (S, I, R, z) Q = ((S a).1 = 3 ∧ RM d 54 [.ref a, v0] (S, I, R, z) (fun v τ => RB d 49 19 [l0] (aPush v []) τ Q)) := RB_callV (n := 2) (t := 0) (k := 68) (ins := .invokevirtual 68) rfl rfl rfl (by decide) (Nat.le_of_ble_eq_true rfl) (Nat.le_of_ble_eq_true rfl) rfl rfl
theorem w49_19 : RB d 49 19 [l0] (.int x :: st) (S, I, R, z) Q = ((x = 0 → RB d 49 26 [l0] st (S, I, R, z) Q) ∧ (¬ x = 0 → RB d 49 22 [l0] st (S, I, R, z) Q)) := RB_eq0 rfl (by decide) rfl
theorem w49_22 : RB d 49 22 [l0] st (S, I, R, z) Q = RB d 49 23 [l0] (.int 1 :: st) (S, I, R, z) Q := RB_iconst rfl ki1
theorem w49_23 : RB d 49 23 [l0] st (S, I, R, z) Q = RB d 49 40 [l0] st (S, I, R, z) Q := RB_goto rfl (by decide) rfl
theorem w49_26 : RB d 49 26 [.ref a] st (S, I, R, z) Q = RB d 49 27 [.ref a] (.ref a :: st) (S, I, R, z) Q := RB_aloadn rfl rfl
theorem w49_27 : RB d 49 27 [l0] st (S, I, R, z) Q = RB d 49 29 [l0] (.ref 4 :: st) (S, I, R, z) Q := RB_ldcS rfl rfl rfl
theorem w49_29 : RB d 49 29 [l0] [v0, .ref a] (S, I, R, z) Q = ((S a).1 = 3 ∧ RM d 54 [.ref a, v0] (S, I, R, z) (fun v τ => RB d 49 32 [l0] (aPush v []) τ Q)) := RB_callV (n := 2) (t := 0) (k := 68) (ins := .invokevirtual 68) rfl rfl rfl (by decide) (Nat.le_of_ble_eq_true rfl) (Nat.le_of_ble_eq_true rfl) rfl rfl
theorem w49_32 : RB d 49 32 [l0] (.int x :: st) (S, I, R, z) Q = ((x = 0 → RB d 49 39 [l0] st (S, I, R, z) Q) ∧ (¬ x = 0 → RB d 49 35 [l0] st (S, I, R, z) Q)) := RB_eq0 rfl (by decide) rfl
theorem w49_35 : RB d 49 35 [l0] st (S, I, R, z) Q = RB d 49 36 [l0] (.int 2 :: st) (S, I, R, z) Q := RB_iconst rfl ki2
theorem w49_36 : RB d 49 36 [l0] st (S, I, R, z) Q = RB d 49 40 [l0] st (S, I, R, z) Q := RB_goto rfl (by decide) rfl
theorem w49_39 : RB d 49 39 [l0] st (S, I, R, z) Q = RB d 49 40 [l0] (.int (-1) :: st) (S, I, R, z) Q := RB_iconst rfl kim1
theorem w49_40 : RB d 49 40 [l0] [.int x] (S, I, R, z) Q = Q (some (.int x)) (S, I, R, z) := RB_iret rfl rfl rfl
/-! 50: HangedWord$Tape.names -/
theorem w50_0 : RB d 50 0 [.ref a] st (S, I, R, z) Q = RB d 50 1 [.ref a] (.ref a :: st) (S, I, R, z) Q := RB_aloadn rfl rfl
theorem w50_1 : RB d 50 1 [l0] (.ref a :: st) (S, I, R, z) Q = ((S a).1 = 3 ∧ RB d 50 4 [l0] (.int (I a 8) :: st) (S, I, R, z) Q) := RB_getI rfl rfl
theorem w50_4 : RB d 50 4 [l0] (.int x :: st) (S, I, R, z) Q = ((x = 0 → RB d 50 7 [l0] st (S, I, R, z) Q) ∧ (¬ x = 0 → RB d 50 12 [l0] st (S, I, R, z) Q)) := RB_ne0 rfl (by decide) rfl
theorem w50_7 : RB d 50 7 [l0] st (S, I, R, z) Q = RB d 50 9 [l0] (.ref 5 :: st) (S, I, R, z) Q := RB_ldcS rfl rfl rfl
theorem w50_9 : RB d 50 9 [l0] st (S, I, R, z) Q = RB d 50 27 [l0] st (S, I, R, z) Q := RB_goto rfl (by decide) rfl
theorem w50_12 : RB d 50 12 [.ref a] st (S, I, R, z) Q = RB d 50 13 [.ref a] (.ref a :: st) (S, I, R, z) Q := RB_aloadn rfl rfl
theorem w50_13 : RB d 50 13 [l0] (.ref a :: st) (S, I, R, z) Q = ((S a).1 = 3 ∧ RB d 50 16 [l0] (.int (I a 8) :: st) (S, I, R, z) Q) := RB_getI rfl rfl
theorem w50_16 : RB d 50 16 [l0] st (S, I, R, z) Q = RB d 50 17 [l0] (.int 1 :: st) (S, I, R, z) Q := RB_iconst rfl ki1
theorem w50_17 : RB d 50 17 [l0] (.int y :: .int x :: st) (S, I, R, z) Q = ((x = y → RB d 50 20 [l0] st (S, I, R, z) Q) ∧ (¬ x = y → RB d 50 25 [l0] st (S, I, R, z) Q)) := RB_ine rfl (by decide) rfl
theorem w50_20 : RB d 50 20 [l0] st (S, I, R, z) Q = RB d 50 22 [l0] (.ref 6 :: st) (S, I, R, z) Q := RB_ldcS rfl rfl rfl
theorem w50_22 : RB d 50 22 [l0] st (S, I, R, z) Q = RB d 50 27 [l0] st (S, I, R, z) Q := RB_goto rfl (by decide) rfl
theorem w50_25 : RB d 50 25 [l0] st (S, I, R, z) Q = RB d 50 27 [l0] (.ref 7 :: st) (S, I, R, z) Q := RB_ldcS rfl rfl rfl
theorem w50_27 : RB d 50 27 [l0] [.ref a] (S, I, R, z) Q = Q (some (.ref a)) (S, I, R, z) := RB_aret rfl rfl
theorem w50_27N : RB d 50 27 [l0] [.null] (S, I, R, z) Q = Q (some .null) (S, I, R, z) := RB_aretN rfl rfl
/-! 51: HangedWord$Tape.goOn -/
theorem w51_0 : RB d 51 0 [.ref a, l1, l2] st (S, I, R, z) Q = RB d 51 1 [.ref a, l1, l2] (.ref a :: st) (S, I, R, z) Q := RB_aloadn rfl rfl
theorem w51_1 : RB d 51 1 [l0, l1, l2] (.ref a :: st) (S, I, R, z) Q = ((S a).1 = 3 ∧ RB d 51 4 [l0, l1, l2] (.int (I a 4) :: st) (S, I, R, z) Q) := RB_getI rfl rfl
theorem w51_4 : RB d 51 4 [l0, l1, l2] st (S, I, R, z) Q = RB d 51 5 [l0, l1, l2] (.int 1 :: st) (S, I, R, z) Q := RB_iconst rfl ki1
theorem w51_5 : RB d 51 5 [l0, l1, l2] (.int y :: .int x :: st) (S, I, R, z) Q = ((x = y → RB d 51 16 [l0, l1, l2] st (S, I, R, z) Q) ∧ (¬ x = y → RB d 51 8 [l0, l1, l2] st (S, I, R, z) Q)) := RB_ieq rfl (by decide) rfl
theorem w51_8 : RB d 51 8 [.ref a, l1, l2] st (S, I, R, z) Q = RB d 51 9 [.ref a, l1, l2] (.ref a :: st) (S, I, R, z) Q := RB_aloadn rfl rfl
theorem w51_9 : RB d 51 9 [l0, l1, l2] (.ref a :: st) (S, I, R, z) Q = ((S a).1 = 3 ∧ RB d 51 12 [l0, l1, l2] (.int (I a 4) :: st) (S, I, R, z) Q) := RB_getI rfl rfl
theorem w51_12 : RB d 51 12 [l0, l1, l2] st (S, I, R, z) Q = RB d 51 13 [l0, l1, l2] (.int 2 :: st) (S, I, R, z) Q := RB_iconst rfl ki2
theorem w51_13 : RB d 51 13 [l0, l1, l2] (.int y :: .int x :: st) (S, I, R, z) Q = ((x = y → RB d 51 16 [l0, l1, l2] st (S, I, R, z) Q) ∧ (¬ x = y → RB d 51 20 [l0, l1, l2] st (S, I, R, z) Q)) := RB_ine rfl (by decide) rfl
theorem w51_16 : RB d 51 16 [l0, l1, l2] st (S, I, R, z) Q = RB d 51 17 [l0, l1, l2] (.int 1 :: st) (S, I, R, z) Q := RB_iconst rfl ki1
theorem w51_17 : RB d 51 17 [l0, l1, l2] st (S, I, R, z) Q = RB d 51 21 [l0, l1, l2] st (S, I, R, z) Q := RB_goto rfl (by decide) rfl
theorem w51_20 : RB d 51 20 [l0, l1, l2] st (S, I, R, z) Q = RB d 51 21 [l0, l1, l2] (.int 0 :: st) (S, I, R, z) Q := RB_iconst rfl ki0
theorem w51_21 : RB d 51 21 [l0, l1, l2] (.int x :: st) (S, I, R, z) Q = RB d 51 22 [l0, .int x, l2] st (S, I, R, z) Q := RB_istoren rfl (Nat.le_of_ble_eq_true rfl) rfl
theorem w51_22 : RB d 51 22 [.ref a, l1, l2] st (S, I, R, z) Q = RB d 51 23 [.ref a, l1, l2] (.ref a :: st) (S, I, R, z) Q := RB_aloadn rfl rfl
theorem w51_23 : RB d 51 23 [l0, l1, l2] (.ref a :: st) (S, I, R, z) Q = ((S a).1 = 3 ∧ RB d 51 26 [l0, l1, l2] (.int (I a 3) :: st) (S, I, R, z) Q) := RB_getI rfl rfl
theorem w51_26 : RB d 51 26 [l0, l1, l2] (.int x :: st) (S, I, R, z) Q = RB d 51 27 [l0, l1, .int x] st (S, I, R, z) Q := RB_istoren rfl (Nat.le_of_ble_eq_true rfl) rfl
theorem w51_27 : RB d 51 27 [.ref a, l1, l2] st (S, I, R, z) Q = RB d 51 28 [.ref a, l1, l2] (.ref a :: st) (S, I, R, z) Q := RB_aloadn rfl rfl
theorem w51_28 : RB d 51 28 [l0, l1, .int x] st (S, I, R, z) Q = RB d 51 29 [l0, l1, .int x] (.int x :: st) (S, I, R, z) Q := RB_iloadn rfl rfl
theorem w51_29 : RB d 51 29 [l0, l1, l2] (.int x :: .ref a :: st) (S, I, R, z) Q = (((S a).1 = 3 ∧ 3 < 8 ∧ 16 ≤ a) ∧ RB d 51 32 [l0, l1, l2] st (S, aW I a 2 x, R, z) Q) := RB_putI rfl rfl (Or.inl rfl)
theorem w51_32 : RB d 51 32 [.ref a, l1, l2] st (S, I, R, z) Q = RB d 51 33 [.ref a, l1, l2] (.ref a :: st) (S, I, R, z) Q := RB_aloadn rfl rfl
theorem w51_33 : RB d 51 33 [l0, l1, l2] (.ref a :: st) (S, I, R, z) Q = ((S a).1 = 3 ∧ RB d 51 36 [l0, l1, l2] (.int (I a 2) :: st) (S, I, R, z) Q) := RB_getI rfl rfl
theorem w51_36 : RB d 51 36 [.ref a, l1, l2] st (S, I, R, z) Q = RB d 51 37 [.ref a, l1, l2] (.ref a :: st) (S, I, R, z) Q := RB_aloadn rfl rfl
theorem w51_37 : RB d 51 37 [l0, l1, l2] (.ref a :: st) (S, I, R, z) Q = ((S a).1 = 3 ∧ RB d 51 40 [l0, l1, l2] (.int (I a 1) :: st) (S, I, R, z) Q) := RB_getI rfl rfl
theorem w51_40 : RB d 51 40 [l0, l1, l2] (.int y :: .int x :: st) (S, I, R, z) Q = ((y ≤ x → RB d 51 70 [l0, l1, l2] st (S, I, R, z) Q) ∧ (¬ y ≤ x → RB d 51 43 [l0, l1, l2] st (S, I, R, z) Q)) := RB_ige rfl (by decide) rfl
theorem w51_43 : RB d 51 43 [.ref a, l1, l2] st (S, I, R, z) Q = RB d 51 44 [.ref a, l1, l2] (.ref a :: st) (S, I, R, z) Q := RB_aloadn rfl rfl
theorem w51_44 : RB d 51 44 [l0, l1, l2] (.ref a :: st) (S, I, R, z) Q = ((S a).1 = 3 ∧ RB d 51 47 [l0, l1, l2] (va_rf (R a 0) :: st) (S, I, R, z) Q) := RB_getR rfl rfl
theorem w51_47 : RB d 51 47 [.ref a, l1, l2] st (S, I, R, z) Q = RB d 51 48 [.ref a, l1, l2] (.ref a :: st) (S, I, R, z) Q := RB_aloadn rfl rfl
theorem w51_48 : RB d 51 48 [l0, l1, l2] (.ref a :: st) (S, I, R, z) Q = ((S a).1 = 3 ∧ RB d 51 51 [l0, l1, l2] (.int (I a 2) :: st) (S, I, R, z) Q) := RB_getI rfl rfl
theorem w51_51 : RB d 51 51 [l0, l1, l2] (.int i :: .ref a :: st) (S, I, R, z) Q = (((S a).1 = 9 ∧ aIx i (S a).2) ∧ RB d 51 52 [l0, l1, l2] (.int (I a i.toNatClampNeg) :: st) (S, I, R, z) Q) := RB_iald rfl
theorem w51_52 : RB d 51 52 [l0, l1, l2] st (S, I, R, z) Q = RB d 51 54 [l0, l1, l2] (.int 32 :: st) (S, I, R, z) Q := RB_bipush rfl kb32
theorem w51_54 : RB d 51 54 [l0, l1, l2] (.int y :: .int x :: st) (S, I, R, z) Q = ((x = y → RB d 51 57 [l0, l1, l2] st (S, I, R, z) Q) ∧ (¬ x = y → RB d 51 70 [l0, l1, l2] st (S, I, R, z) Q)) := RB_ine rfl (by decide) rfl
theorem w51_57 : RB d 51 57 [.ref a, l1, l2] st (S, I, R, z) Q = RB d 51 58 [.ref a, l1, l2] (.ref a :: st) (S, I, R, z) Q := RB_aloadn rfl rfl
theorem w51_58 : RB d 51 58 [l0, l1, l2] (v :: st) (S, I, R, z) Q = RB d 51 59 [l0, l1, l2] (v :: v :: st) (S, I, R, z) Q := RB_dup rfl
theorem w51_59 : RB d 51 59 [l0, l1, l2] (.ref a :: st) (S, I, R, z) Q = ((S a).1 = 3 ∧ RB d 51 62 [l0, l1, l2] (.int (I a 2) :: st) (S, I, R, z) Q) := RB_getI rfl rfl
theorem w51_62 : RB d 51 62 [l0, l1, l2] st (S, I, R, z) Q = RB d 51 63 [l0, l1, l2] (.int 1 :: st) (S, I, R, z) Q := RB_iconst rfl ki1
theorem w51_63 : RB d 51 63 [l0, l1, l2] (.int y :: .int x :: st) (S, I, R, z) Q = RB d 51 64 [l0, l1, l2] (.int (x + y) :: st) (S, I, R, z) Q := RB_iadd rfl
theorem w51_64 : RB d 51 64 [l0, l1, l2] (.int x :: .ref a :: st) (S, I, R, z) Q = (((S a).1 = 3 ∧ 3 < 8 ∧ 16 ≤ a) ∧ RB d 51 67 [l0, l1, l2] st (S, aW I a 2 x, R, z) Q) := RB_putI rfl rfl (Or.inl rfl)
theorem w51_67 : RB d 51 67 [l0, l1, l2] st (S, I, R, z) Q = RB d 51 32 [l0, l1, l2] st (S, I, R, z) Q := RB_goto rfl (by decide) rfl
theorem w51_70 : RB d 51 70 [.ref a, l1, l2] st (S, I, R, z) Q = RB d 51 71 [.ref a, l1, l2] (.ref a :: st) (S, I, R, z) Q := RB_aloadn rfl rfl
theorem w51_71 : RB d 51 71 [.ref a, l1, l2] st (S, I, R, z) Q = RB d 51 72 [.ref a, l1, l2] (.ref a :: st) (S, I, R, z) Q := RB_aloadn rfl rfl
theorem w51_72 : RB d 51 72 [.ref a, l1, l2] st (S, I, R, z) Q = RB d 51 73 [.ref a, l1, l2] (.ref a :: st) (S, I, R, z) Q := RB_aloadn rfl rfl
theorem w51_73 : RB d 51 73 [l0, l1, l2] (.ref a :: st) (S, I, R, z) Q = ((S a).1 = 3 ∧ RB d 51 76 [l0, l1, l2] (.int (I a 2) :: st) (S, I, R, z) Q) := RB_getI rfl rfl
theorem w51_76 : RB d 51 76 [l0, l1, l2] [.int x0, .ref a, s0] (S, I, R, z) Q = ((S a).1 = 3 ∧ RM d 52 [.ref a, .int x0] (S, I, R, z) (fun v τ => RB d 51 79 [l0, l1, l2] (aPush v [s0]) τ Q)) := RB_callV (n := 2) (t := 0) (k := 82) (ins := .invokevirtual 82) rfl rfl rfl (by decide) (Nat.le_of_ble_eq_true rfl) (Nat.le_of_ble_eq_true rfl) rfl rfl
theorem w51_79 : RB d 51 79 [l0, l1, l2] (.int x :: .ref a :: st) (S, I, R, z) Q = (((S a).1 = 3 ∧ 3 < 8 ∧ 16 ≤ a) ∧ RB d 51 82 [l0, l1, l2] st (S, aW I a 4 x, R, z) Q) := RB_putI rfl rfl (Or.inl rfl)
theorem w51_82 : RB d 51 82 [.ref a, l1, l2] st (S, I, R, z) Q = RB d 51 83 [.ref a, l1, l2] (.ref a :: st) (S, I, R, z) Q := RB_aloadn rfl rfl
theorem w51_83 : RB d 51 83 [l0, .int x, l2] st (S, I, R, z) Q = RB d 51 84 [l0, .int x, l2] (.int x :: st) (S, I, R, z) Q := RB_iloadn rfl rfl
theorem w51_84 : RB d 51 84 [l0, l1, l2] (.int x :: st) (S, I, R, z) Q = ((x = 0 → RB d 51 99 [l0, l1, l2] st (S, I, R, z) Q) ∧ (¬ x = 0 → RB d 51 87 [l0, l1, l2] st (S, I, R, z) Q)) := RB_eq0 rfl (by decide) rfl
theorem w51_87 : RB d 51 87 [.ref a, l1, l2] st (S, I, R, z) Q = RB d 51 88 [.ref a, l1, l2] (.ref a :: st) (S, I, R, z) Q := RB_aloadn rfl rfl
theorem w51_88 : RB d 51 88 [l0, l1, l2] (.ref a :: st) (S, I, R, z) Q = ((S a).1 = 3 ∧ RB d 51 91 [l0, l1, l2] (.int (I a 2) :: st) (S, I, R, z) Q) := RB_getI rfl rfl
theorem w51_91 : RB d 51 91 [l0, l1, .int x] st (S, I, R, z) Q = RB d 51 92 [l0, l1, .int x] (.int x :: st) (S, I, R, z) Q := RB_iloadn rfl rfl
theorem w51_92 : RB d 51 92 [l0, l1, l2] (.int y :: .int x :: st) (S, I, R, z) Q = ((x = y → RB d 51 95 [l0, l1, l2] st (S, I, R, z) Q) ∧ (¬ x = y → RB d 51 99 [l0, l1, l2] st (S, I, R, z) Q)) := RB_ine rfl (by decide) rfl
theorem w51_95 : RB d 51 95 [l0, l1, l2] st (S, I, R, z) Q = RB d 51 96 [l0, l1, l2] (.int 1 :: st) (S, I, R, z) Q := RB_iconst rfl ki1
theorem w51_96 : RB d 51 96 [l0, l1, l2] st (S, I, R, z) Q = RB d 51 100 [l0, l1, l2] st (S, I, R, z) Q := RB_goto rfl (by decide) rfl
theorem w51_99 : RB d 51 99 [l0, l1, l2] st (S, I, R, z) Q = RB d 51 100 [l0, l1, l2] (.int 0 :: st) (S, I, R, z) Q := RB_iconst rfl ki0
theorem w51_100 : RB d 51 100 [l0, l1, l2] (.int x :: .ref a :: st) (S, I, R, z) Q = (((S a).1 = 3 ∧ 3 < 8 ∧ 16 ≤ a) ∧ (x = 0 ∨ x = 1) ∧ RB d 51 103 [l0, l1, l2] st (S, aW I a 5 x, R, z) Q) := RB_putZ rfl rfl (Or.inl rfl)
theorem w51_103 : RB d 51 103 [.ref a, l1, l2] st (S, I, R, z) Q = RB d 51 104 [.ref a, l1, l2] (.ref a :: st) (S, I, R, z) Q := RB_aloadn rfl rfl
theorem w51_104 : RB d 51 104 [.ref a, l1, l2] st (S, I, R, z) Q = RB d 51 105 [.ref a, l1, l2] (.ref a :: st) (S, I, R, z) Q := RB_aloadn rfl rfl
theorem w51_105 : RB d 51 105 [l0, l1, l2] (.ref a :: st) (S, I, R, z) Q = ((S a).1 = 3 ∧ RB d 51 108 [l0, l1, l2] (.int (I a 4) :: st) (S, I, R, z) Q) := RB_getI rfl rfl
theorem w51_108 : RB d 51 108 [l0, l1, l2] (.int x :: st) (S, I, R, z) Q = ((x = 0 → RB d 51 111 [l0, l1, l2] st (S, I, R, z) Q) ∧ (¬ x = 0 → RB d 51 118 [l0, l1, l2] st (S, I, R, z) Q)) := RB_ne0 rfl (by decide) rfl
theorem w51_111 : RB d 51 111 [.ref a, l1, l2] st (S, I, R, z) Q = RB d 51 112 [.ref a, l1, l2] (.ref a :: st) (S, I, R, z) Q := RB_aloadn rfl rfl
theorem w51_112 : RB d 51 112 [l0, l1, l2] (.ref a :: st) (S, I, R, z) Q = ((S a).1 = 3 ∧ RB d 51 115 [l0, l1, l2] (.int (I a 2) :: st) (S, I, R, z) Q) := RB_getI rfl rfl
theorem w51_115 : RB d 51 115 [l0, l1, l2] st (S, I, R, z) Q = RB d 51 124 [l0, l1, l2] st (S, I, R, z) Q := RB_goto rfl (by decide) rfl
theorem w51_118 : RB d 51 118 [.ref a, l1, l2] st (S, I, R, z) Q = RB d 51 119 [.ref a, l1, l2] (.ref a :: st) (S, I, R, z) Q := RB_aloadn rfl rfl
theorem w51_119 : RB d 51 119 [l0, l1, l2] (.ref a :: st) (S, I, R, z) Q = ((S a).1 = 3 ∧ RB d 51 122 [l0, l1, l2] (.int (I a 2) :: st) (S, I, R, z) Q) := RB_getI rfl rfl
theorem w51_122 : RB d 51 122 [l0, l1, l2] st (S, I, R, z) Q = RB d 51 123 [l0, l1, l2] (.int 1 :: st) (S, I, R, z) Q := RB_iconst rfl ki1
theorem w51_123 : RB d 51 123 [l0, l1, l2] (.int y :: .int x :: st) (S, I, R, z) Q = RB d 51 124 [l0, l1, l2] (.int (x + y) :: st) (S, I, R, z) Q := RB_iadd rfl
theorem w51_124 : RB d 51 124 [l0, l1, l2] (.int x :: .ref a :: st) (S, I, R, z) Q = (((S a).1 = 3 ∧ 3 < 8 ∧ 16 ≤ a) ∧ RB d 51 127 [l0, l1, l2] st (S, aW I a 3 x, R, z) Q) := RB_putI rfl rfl (Or.inl rfl)
theorem w51_127 : RB d 51 127 [.ref a, l1, l2] st (S, I, R, z) Q = RB d 51 128 [.ref a, l1, l2] (.ref a :: st) (S, I, R, z) Q := RB_aloadn rfl rfl
theorem w51_128 : RB d 51 128 [l0, l1, l2] (.ref a :: st) (S, I, R, z) Q = ((S a).1 = 3 ∧ RB d 51 131 [l0, l1, l2] (.int (I a 4) :: st) (S, I, R, z) Q) := RB_getI rfl rfl
theorem w51_131 : RB d 51 131 [l0, l1, l2] st (S, I, R, z) Q = RB d 51 132 [l0, l1, l2] (.int 3 :: st) (S, I, R, z) Q := RB_iconst rfl ki3
theorem w51_132 : RB d 51 132 [l0, l1, l2] (.int y :: .int x :: st) (S, I, R, z) Q = ((x = y → RB d 51 174 [l0, l1, l2] st (S, I, R, z) Q) ∧ (¬ x = y → RB d 51 135 [l0, l1, l2] st (S, I, R, z) Q)) := RB_ieq rfl (by decide) rfl
theorem w51_135 : RB d 51 135 [.ref a, l1, l2] st (S, I, R, z) Q = RB d 51 136 [.ref a, l1, l2] (.ref a :: st) (S, I, R, z) Q := RB_aloadn rfl rfl
theorem w51_136 : RB d 51 136 [l0, l1, l2] (.ref a :: st) (S, I, R, z) Q = ((S a).1 = 3 ∧ RB d 51 139 [l0, l1, l2] (.int (I a 3) :: st) (S, I, R, z) Q) := RB_getI rfl rfl
theorem w51_139 : RB d 51 139 [.ref a, l1, l2] st (S, I, R, z) Q = RB d 51 140 [.ref a, l1, l2] (.ref a :: st) (S, I, R, z) Q := RB_aloadn rfl rfl
theorem w51_140 : RB d 51 140 [l0, l1, l2] (.ref a :: st) (S, I, R, z) Q = ((S a).1 = 3 ∧ RB d 51 143 [l0, l1, l2] (.int (I a 1) :: st) (S, I, R, z) Q) := RB_getI rfl rfl
theorem w51_143 : RB d 51 143 [l0, l1, l2] (.int y :: .int x :: st) (S, I, R, z) Q = ((y ≤ x → RB d 51 174 [l0, l1, l2] st (S, I, R, z) Q) ∧ (¬ y ≤ x → RB d 51 146 [l0, l1, l2] st (S, I, R, z) Q)) := RB_ige rfl (by decide) rfl
theorem w51_146 : RB d 51 146 [.ref a, l1, l2] st (S, I, R, z) Q = RB d 51 147 [.ref a, l1, l2] (.ref a :: st) (S, I, R, z) Q := RB_aloadn rfl rfl
theorem w51_147 : RB d 51 147 [.ref a, l1, l2] st (S, I, R, z) Q = RB d 51 148 [.ref a, l1, l2] (.ref a :: st) (S, I, R, z) Q := RB_aloadn rfl rfl
theorem w51_148 : RB d 51 148 [l0, l1, l2] (.ref a :: st) (S, I, R, z) Q = ((S a).1 = 3 ∧ RB d 51 151 [l0, l1, l2] (.int (I a 3) :: st) (S, I, R, z) Q) := RB_getI rfl rfl
theorem w51_151 : RB d 51 151 [l0, l1, l2] [.int x0, .ref a] (S, I, R, z) Q = ((S a).1 = 3 ∧ RM d 52 [.ref a, .int x0] (S, I, R, z) (fun v τ => RB d 51 154 [l0, l1, l2] (aPush v []) τ Q)) := RB_callV (n := 2) (t := 0) (k := 82) (ins := .invokevirtual 82) rfl rfl rfl (by decide) (Nat.le_of_ble_eq_true rfl) (Nat.le_of_ble_eq_true rfl) rfl rfl
theorem w51_154 : RB d 51 154 [.ref a, l1, l2] st (S, I, R, z) Q = RB d 51 155 [.ref a, l1, l2] (.ref a :: st) (S, I, R, z) Q := RB_aloadn rfl rfl
theorem w51_155 : RB d 51 155 [l0, l1, l2] (.ref a :: st) (S, I, R, z) Q = ((S a).1 = 3 ∧ RB d 51 158 [l0, l1, l2] (.int (I a 4) :: st) (S, I, R, z) Q) := RB_getI rfl rfl
theorem w51_158 : RB d 51 158 [l0, l1, l2] (.int y :: .int x :: st) (S, I, R, z) Q = ((x = y → RB d 51 161 [l0, l1, l2] st (S, I, R, z) Q) ∧ (¬ x = y → RB d 51 174 [l0, l1, l2] st (S, I, R, z) Q)) := RB_ine rfl (by decide) rfl
theorem w51_161 : RB d 51 161 [.ref a, l1, l2] st (S, I, R, z) Q = RB d 51 162 [.ref a, l1, l2] (.ref a :: st) (S, I, R, z) Q := RB_aloadn rfl rfl
theorem w51_162 : RB d 51 162 [l0, l1, l2] (v :: st) (S, I, R, z) Q = RB d 51 163 [l0, l1, l2] (v :: v :: st) (S, I, R, z) Q := RB_dup rfl
theorem w51_163 : RB d 51 163 [l0, l1, l2] (.ref a :: st) (S, I, R, z) Q = ((S a).1 = 3 ∧ RB d 51 166 [l0, l1, l2] (.int (I a 3) :: st) (S, I, R, z) Q) := RB_getI rfl rfl
theorem w51_166 : RB d 51 166 [l0, l1, l2] st (S, I, R, z) Q = RB d 51 167 [l0, l1, l2] (.int 1 :: st) (S, I, R, z) Q := RB_iconst rfl ki1
theorem w51_167 : RB d 51 167 [l0, l1, l2] (.int y :: .int x :: st) (S, I, R, z) Q = RB d 51 168 [l0, l1, l2] (.int (x + y) :: st) (S, I, R, z) Q := RB_iadd rfl
theorem w51_168 : RB d 51 168 [l0, l1, l2] (.int x :: .ref a :: st) (S, I, R, z) Q = (((S a).1 = 3 ∧ 3 < 8 ∧ 16 ≤ a) ∧ RB d 51 171 [l0, l1, l2] st (S, aW I a 3 x, R, z) Q) := RB_putI rfl rfl (Or.inl rfl)
theorem w51_171 : RB d 51 171 [l0, l1, l2] st (S, I, R, z) Q = RB d 51 127 [l0, l1, l2] st (S, I, R, z) Q := RB_goto rfl (by decide) rfl
theorem w51_174 : RB d 51 174 [l0, l1, l2] [] (S, I, R, z) Q = Q none (S, I, R, z) := RB_ret rfl rfl
/-! 52: HangedWord$Tape.sortAt -/
theorem w52_0 : RB d 52 0 [l0, .int x, l2] st (S, I, R, z) Q = RB d 52 1 [l0, .int x, l2] (.int x :: st) (S, I, R, z) Q := RB_iloadn rfl rfl
theorem w52_1 : RB d 52 1 [l0, l1, l2] (.int x :: st) (S, I, R, z) Q = ((x < 0 → RB d 52 12 [l0, l1, l2] st (S, I, R, z) Q) ∧ (¬ x < 0 → RB d 52 4 [l0, l1, l2] st (S, I, R, z) Q)) := RB_lt0 rfl (by decide) rfl
theorem w52_4 : RB d 52 4 [l0, .int x, l2] st (S, I, R, z) Q = RB d 52 5 [l0, .int x, l2] (.int x :: st) (S, I, R, z) Q := RB_iloadn rfl rfl
theorem w52_5 : RB d 52 5 [.ref a, l1, l2] st (S, I, R, z) Q = RB d 52 6 [.ref a, l1, l2] (.ref a :: st) (S, I, R, z) Q := RB_aloadn rfl rfl
theorem w52_6 : RB d 52 6 [l0, l1, l2] (.ref a :: st) (S, I, R, z) Q = ((S a).1 = 3 ∧ RB d 52 9 [l0, l1, l2] (.int (I a 1) :: st) (S, I, R, z) Q) := RB_getI rfl rfl
theorem w52_9 : RB d 52 9 [l0, l1, l2] (.int y :: .int x :: st) (S, I, R, z) Q = ((x < y → RB d 52 14 [l0, l1, l2] st (S, I, R, z) Q) ∧ (¬ x < y → RB d 52 12 [l0, l1, l2] st (S, I, R, z) Q)) := RB_ilt rfl (by decide) rfl
theorem w52_12 : RB d 52 12 [l0, l1, l2] st (S, I, R, z) Q = RB d 52 13 [l0, l1, l2] (.int 0 :: st) (S, I, R, z) Q := RB_iconst rfl ki0
theorem w52_13 : RB d 52 13 [l0, l1, l2] [.int x] (S, I, R, z) Q = Q (some (.int x)) (S, I, R, z) := RB_iret rfl rfl rfl
theorem w52_14 : RB d 52 14 [.ref a, l1, l2] st (S, I, R, z) Q = RB d 52 15 [.ref a, l1, l2] (.ref a :: st) (S, I, R, z) Q := RB_aloadn rfl rfl
theorem w52_15 : RB d 52 15 [l0, l1, l2] (.ref a :: st) (S, I, R, z) Q = ((S a).1 = 3 ∧ RB d 52 18 [l0, l1, l2] (va_rf (R a 0) :: st) (S, I, R, z) Q) := RB_getR rfl rfl
theorem w52_18 : RB d 52 18 [l0, .int x, l2] st (S, I, R, z) Q = RB d 52 19 [l0, .int x, l2] (.int x :: st) (S, I, R, z) Q := RB_iloadn rfl rfl
theorem w52_19 : RB d 52 19 [l0, l1, l2] (.int i :: .ref a :: st) (S, I, R, z) Q = (((S a).1 = 9 ∧ aIx i (S a).2) ∧ RB d 52 20 [l0, l1, l2] (.int (I a i.toNatClampNeg) :: st) (S, I, R, z) Q) := RB_iald rfl
theorem w52_20 : RB d 52 20 [l0, l1, l2] (.int x :: st) (S, I, R, z) Q = RB d 52 21 [l0, l1, .int x] st (S, I, R, z) Q := RB_istoren rfl (Nat.le_of_ble_eq_true rfl) rfl
theorem w52_21 : RB d 52 21 [l0, l1, .int x] st (S, I, R, z) Q = RB d 52 22 [l0, l1, .int x] (.int x :: st) (S, I, R, z) Q := RB_iloadn rfl rfl
theorem w52_22 : RB d 52 22 [l0, l1, l2] st (S, I, R, z) Q = RB d 52 24 [l0, l1, l2] (.int 97 :: st) (S, I, R, z) Q := RB_bipush rfl kb97
theorem w52_24 : RB d 52 24 [l0, l1, l2] (.int y :: .int x :: st) (S, I, R, z) Q = ((x < y → RB d 52 37 [l0, l1, l2] st (S, I, R, z) Q) ∧ (¬ x < y → RB d 52 27 [l0, l1, l2] st (S, I, R, z) Q)) := RB_ilt rfl (by decide) rfl
theorem w52_27 : RB d 52 27 [l0, l1, .int x] st (S, I, R, z) Q = RB d 52 28 [l0, l1, .int x] (.int x :: st) (S, I, R, z) Q := RB_iloadn rfl rfl
theorem w52_28 : RB d 52 28 [l0, l1, l2] st (S, I, R, z) Q = RB d 52 30 [l0, l1, l2] (.int 122 :: st) (S, I, R, z) Q := RB_bipush rfl kb122
theorem w52_30 : RB d 52 30 [l0, l1, l2] (.int y :: .int x :: st) (S, I, R, z) Q = ((y < x → RB d 52 37 [l0, l1, l2] st (S, I, R, z) Q) ∧ (¬ y < x → RB d 52 33 [l0, l1, l2] st (S, I, R, z) Q)) := RB_igt rfl (by decide) rfl
theorem w52_33 : RB d 52 33 [l0, l1, l2] st (S, I, R, z) Q = RB d 52 34 [l0, l1, l2] (.int 1 :: st) (S, I, R, z) Q := RB_iconst rfl ki1
theorem w52_34 : RB d 52 34 [l0, l1, l2] st (S, I, R, z) Q = RB d 52 54 [l0, l1, l2] st (S, I, R, z) Q := RB_goto rfl (by decide) rfl
theorem w52_37 : RB d 52 37 [l0, l1, .int x] st (S, I, R, z) Q = RB d 52 38 [l0, l1, .int x] (.int x :: st) (S, I, R, z) Q := RB_iloadn rfl rfl
theorem w52_38 : RB d 52 38 [l0, l1, l2] st (S, I, R, z) Q = RB d 52 40 [l0, l1, l2] (.int 48 :: st) (S, I, R, z) Q := RB_bipush rfl kb48
theorem w52_40 : RB d 52 40 [l0, l1, l2] (.int y :: .int x :: st) (S, I, R, z) Q = ((x < y → RB d 52 53 [l0, l1, l2] st (S, I, R, z) Q) ∧ (¬ x < y → RB d 52 43 [l0, l1, l2] st (S, I, R, z) Q)) := RB_ilt rfl (by decide) rfl
theorem w52_43 : RB d 52 43 [l0, l1, .int x] st (S, I, R, z) Q = RB d 52 44 [l0, l1, .int x] (.int x :: st) (S, I, R, z) Q := RB_iloadn rfl rfl
theorem w52_44 : RB d 52 44 [l0, l1, l2] st (S, I, R, z) Q = RB d 52 46 [l0, l1, l2] (.int 57 :: st) (S, I, R, z) Q := RB_bipush rfl kb57
theorem w52_46 : RB d 52 46 [l0, l1, l2] (.int y :: .int x :: st) (S, I, R, z) Q = ((y < x → RB d 52 53 [l0, l1, l2] st (S, I, R, z) Q) ∧ (¬ y < x → RB d 52 49 [l0, l1, l2] st (S, I, R, z) Q)) := RB_igt rfl (by decide) rfl
theorem w52_49 : RB d 52 49 [l0, l1, l2] st (S, I, R, z) Q = RB d 52 50 [l0, l1, l2] (.int 2 :: st) (S, I, R, z) Q := RB_iconst rfl ki2
theorem w52_50 : RB d 52 50 [l0, l1, l2] st (S, I, R, z) Q = RB d 52 54 [l0, l1, l2] st (S, I, R, z) Q := RB_goto rfl (by decide) rfl
theorem w52_53 : RB d 52 53 [l0, l1, l2] st (S, I, R, z) Q = RB d 52 54 [l0, l1, l2] (.int 3 :: st) (S, I, R, z) Q := RB_iconst rfl ki3
theorem w52_54 : RB d 52 54 [l0, l1, l2] [.int x] (S, I, R, z) Q = Q (some (.int x)) (S, I, R, z) := RB_iret rfl rfl rfl
/-! 53: HangedWord$Tape.isSign -/
theorem w53_0 : RB d 53 0 [.ref a, l1] st (S, I, R, z) Q = RB d 53 1 [.ref a, l1] (.ref a :: st) (S, I, R, z) Q := RB_aloadn rfl rfl
theorem w53_1 : RB d 53 1 [l0, l1] (.ref a :: st) (S, I, R, z) Q = ((S a).1 = 3 ∧ RB d 53 4 [l0, l1] (.int (I a 4) :: st) (S, I, R, z) Q) := RB_getI rfl rfl
theorem w53_4 : RB d 53 4 [l0, l1] st (S, I, R, z) Q = RB d 53 5 [l0, l1] (.int 3 :: st) (S, I, R, z) Q := RB_iconst rfl ki3
theorem w53_5 : RB d 53 5 [l0, l1] (.int y :: .int x :: st) (S, I, R, z) Q = ((x = y → RB d 53 8 [l0, l1] st (S, I, R, z) Q) ∧ (¬ x = y → RB d 53 36 [l0, l1] st (S, I, R, z) Q)) := RB_ine rfl (by decide) rfl
theorem w53_8 : RB d 53 8 [.ref a, l1] st (S, I, R, z) Q = RB d 53 9 [.ref a, l1] (.ref a :: st) (S, I, R, z) Q := RB_aloadn rfl rfl
theorem w53_9 : RB d 53 9 [l0, l1] (.ref a :: st) (S, I, R, z) Q = ((S a).1 = 3 ∧ RB d 53 12 [l0, l1] (.int (I a 2) :: st) (S, I, R, z) Q) := RB_getI rfl rfl
theorem w53_12 : RB d 53 12 [.ref a, l1] st (S, I, R, z) Q = RB d 53 13 [.ref a, l1] (.ref a :: st) (S, I, R, z) Q := RB_aloadn rfl rfl
theorem w53_13 : RB d 53 13 [l0, l1] (.ref a :: st) (S, I, R, z) Q = ((S a).1 = 3 ∧ RB d 53 16 [l0, l1] (.int (I a 1) :: st) (S, I, R, z) Q) := RB_getI rfl rfl
theorem w53_16 : RB d 53 16 [l0, l1] (.int y :: .int x :: st) (S, I, R, z) Q = ((y ≤ x → RB d 53 36 [l0, l1] st (S, I, R, z) Q) ∧ (¬ y ≤ x → RB d 53 19 [l0, l1] st (S, I, R, z) Q)) := RB_ige rfl (by decide) rfl
theorem w53_19 : RB d 53 19 [.ref a, l1] st (S, I, R, z) Q = RB d 53 20 [.ref a, l1] (.ref a :: st) (S, I, R, z) Q := RB_aloadn rfl rfl
theorem w53_20 : RB d 53 20 [l0, l1] (.ref a :: st) (S, I, R, z) Q = ((S a).1 = 3 ∧ RB d 53 23 [l0, l1] (va_rf (R a 0) :: st) (S, I, R, z) Q) := RB_getR rfl rfl
theorem w53_23 : RB d 53 23 [.ref a, l1] st (S, I, R, z) Q = RB d 53 24 [.ref a, l1] (.ref a :: st) (S, I, R, z) Q := RB_aloadn rfl rfl
theorem w53_24 : RB d 53 24 [l0, l1] (.ref a :: st) (S, I, R, z) Q = ((S a).1 = 3 ∧ RB d 53 27 [l0, l1] (.int (I a 2) :: st) (S, I, R, z) Q) := RB_getI rfl rfl
theorem w53_27 : RB d 53 27 [l0, l1] (.int i :: .ref a :: st) (S, I, R, z) Q = (((S a).1 = 9 ∧ aIx i (S a).2) ∧ RB d 53 28 [l0, l1] (.int (I a i.toNatClampNeg) :: st) (S, I, R, z) Q) := RB_iald rfl
theorem w53_28 : RB d 53 28 [l0, .int x] st (S, I, R, z) Q = RB d 53 29 [l0, .int x] (.int x :: st) (S, I, R, z) Q := RB_iloadn rfl rfl
theorem w53_29 : RB d 53 29 [l0, l1] (.int y :: .int x :: st) (S, I, R, z) Q = ((x = y → RB d 53 32 [l0, l1] st (S, I, R, z) Q) ∧ (¬ x = y → RB d 53 36 [l0, l1] st (S, I, R, z) Q)) := RB_ine rfl (by decide) rfl
theorem w53_32 : RB d 53 32 [l0, l1] st (S, I, R, z) Q = RB d 53 33 [l0, l1] (.int 1 :: st) (S, I, R, z) Q := RB_iconst rfl ki1
theorem w53_33 : RB d 53 33 [l0, l1] st (S, I, R, z) Q = RB d 53 37 [l0, l1] st (S, I, R, z) Q := RB_goto rfl (by decide) rfl
theorem w53_36 : RB d 53 36 [l0, l1] st (S, I, R, z) Q = RB d 53 37 [l0, l1] (.int 0 :: st) (S, I, R, z) Q := RB_iconst rfl ki0
theorem w53_37 : RB d 53 37 [l0, l1] [.int x] (S, I, R, z) Q = (narrow .boolean (.int x) = .int x ∧ Q (some (.int x)) (S, I, R, z)) := RB_zret rfl rfl (Or.inl rfl)
/-! 54: HangedWord$Tape.isAtHand -/
theorem w54_0 : RB d 54 0 [.ref a, l1, l2] st (S, I, R, z) Q = RB d 54 1 [.ref a, l1, l2] (.ref a :: st) (S, I, R, z) Q := RB_aloadn rfl rfl
theorem w54_1 : RB d 54 1 [l0, l1, l2] (.ref a :: st) (S, I, R, z) Q = ((S a).1 = 3 ∧ RB d 54 4 [l0, l1, l2] (.int (I a 4) :: st) (S, I, R, z) Q) := RB_getI rfl rfl
theorem w54_4 : RB d 54 4 [l0, l1, l2] st (S, I, R, z) Q = RB d 54 5 [l0, l1, l2] (.int 1 :: st) (S, I, R, z) Q := RB_iconst rfl ki1
theorem w54_5 : RB d 54 5 [l0, l1, l2] (.int y :: .int x :: st) (S, I, R, z) Q = ((x = y → RB d 54 8 [l0, l1, l2] st (S, I, R, z) Q) ∧ (¬ x = y → RB d 54 24 [l0, l1, l2] st (S, I, R, z) Q)) := RB_ine rfl (by decide) rfl
theorem w54_8 : RB d 54 8 [.ref a, l1, l2] st (S, I, R, z) Q = RB d 54 9 [.ref a, l1, l2] (.ref a :: st) (S, I, R, z) Q := RB_aloadn rfl rfl
theorem w54_9 : RB d 54 9 [l0, l1, l2] (.ref a :: st) (S, I, R, z) Q = ((S a).1 = 3 ∧ RB d 54 12 [l0, l1, l2] (.int (I a 3) :: st) (S, I, R, z) Q) := RB_getI rfl rfl
theorem w54_12 : RB d 54 12 [.ref a, l1, l2] st (S, I, R, z) Q = RB d 54 13 [.ref a, l1, l2] (.ref a :: st) (S, I, R, z) Q := RB_aloadn rfl rfl
theorem w54_13 : RB d 54 13 [l0, l1, l2] (.ref a :: st) (S, I, R, z) Q = ((S a).1 = 3 ∧ RB d 54 16 [l0, l1, l2] (.int (I a 2) :: st) (S, I, R, z) Q) := RB_getI rfl rfl
theorem w54_16 : RB d 54 16 [l0, l1, l2] (.int y :: .int x :: st) (S, I, R, z) Q = RB d 54 17 [l0, l1, l2] (.int (x - y) :: st) (S, I, R, z) Q := RB_isub rfl
theorem w54_17 : RB d 54 17 [l0, .ref a, l2] st (S, I, R, z) Q = RB d 54 18 [l0, .ref a, l2] (.ref a :: st) (S, I, R, z) Q := RB_aloadn rfl rfl
theorem w54_17N : RB d 54 17 [l0, .null, l2] st (S, I, R, z) Q = RB d 54 18 [l0, .null, l2] (.null :: st) (S, I, R, z) Q := RB_aloadnN rfl rfl
theorem w54_18 : RB d 54 18 [l0, l1, l2] [.ref a, s0] (S, I, R, z) Q = ((S a).1 = 14 ∧ RM d 238 [.ref a] (S, I, R, z) (fun v τ => RB d 54 21 [l0, l1, l2] (aPush v [s0]) τ Q)) := RB_callV (n := 1) (t := 0) (k := 86) (ins := .invokevirtual 86) rfl rfl rfl (by decide) (Nat.le_of_ble_eq_true rfl) (Nat.le_of_ble_eq_true rfl) rfl rfl
theorem w54_21 : RB d 54 21 [l0, l1, l2] (.int y :: .int x :: st) (S, I, R, z) Q = ((x = y → RB d 54 26 [l0, l1, l2] st (S, I, R, z) Q) ∧ (¬ x = y → RB d 54 24 [l0, l1, l2] st (S, I, R, z) Q)) := RB_ieq rfl (by decide) rfl
theorem w54_24 : RB d 54 24 [l0, l1, l2] st (S, I, R, z) Q = RB d 54 25 [l0, l1, l2] (.int 0 :: st) (S, I, R, z) Q := RB_iconst rfl ki0
theorem w54_25 : RB d 54 25 [l0, l1, l2] [.int x] (S, I, R, z) Q = (narrow .boolean (.int x) = .int x ∧ Q (some (.int x)) (S, I, R, z)) := RB_zret rfl rfl (Or.inl rfl)
theorem w54_26 : RB d 54 26 [l0, l1, l2] st (S, I, R, z) Q = RB d 54 27 [l0, l1, l2] (.int 0 :: st) (S, I, R, z) Q := RB_iconst rfl ki0
theorem w54_27 : RB d 54 27 [l0, l1, l2] (.int x :: st) (S, I, R, z) Q = RB d 54 28 [l0, l1, .int x] st (S, I, R, z) Q := RB_istoren rfl (Nat.le_of_ble_eq_true rfl) rfl
theorem w54_28 : RB d 54 28 [l0, l1, .int x] st (S, I, R, z) Q = RB d 54 29 [l0, l1, .int x] (.int x :: st) (S, I, R, z) Q := RB_iloadn rfl rfl
theorem w54_29 : RB d 54 29 [l0, .ref a, l2] st (S, I, R, z) Q = RB d 54 30 [l0, .ref a, l2] (.ref a :: st) (S, I, R, z) Q := RB_aloadn rfl rfl
theorem w54_29N : RB d 54 29 [l0, .null, l2] st (S, I, R, z) Q = RB d 54 30 [l0, .null, l2] (.null :: st) (S, I, R, z) Q := RB_aloadnN rfl rfl
theorem w54_30 : RB d 54 30 [l0, l1, l2] [.ref a, s0] (S, I, R, z) Q = ((S a).1 = 14 ∧ RM d 238 [.ref a] (S, I, R, z) (fun v τ => RB d 54 33 [l0, l1, l2] (aPush v [s0]) τ Q)) := RB_callV (n := 1) (t := 0) (k := 86) (ins := .invokevirtual 86) rfl rfl rfl (by decide) (Nat.le_of_ble_eq_true rfl) (Nat.le_of_ble_eq_true rfl) rfl rfl
theorem w54_33 : RB d 54 33 [l0, l1, l2] (.int y :: .int x :: st) (S, I, R, z) Q = ((y ≤ x → RB d 54 63 [l0, l1, l2] st (S, I, R, z) Q) ∧ (¬ y ≤ x → RB d 54 36 [l0, l1, l2] st (S, I, R, z) Q)) := RB_ige rfl (by decide) rfl
theorem w54_36 : RB d 54 36 [.ref a, l1, l2] st (S, I, R, z) Q = RB d 54 37 [.ref a, l1, l2] (.ref a :: st) (S, I, R, z) Q := RB_aloadn rfl rfl
theorem w54_37 : RB d 54 37 [l0, l1, l2] (.ref a :: st) (S, I, R, z) Q = ((S a).1 = 3 ∧ RB d 54 40 [l0, l1, l2] (va_rf (R a 0) :: st) (S, I, R, z) Q) := RB_getR rfl rfl
theorem w54_40 : RB d 54 40 [.ref a, l1, l2] st (S, I, R, z) Q = RB d 54 41 [.ref a, l1, l2] (.ref a :: st) (S, I, R, z) Q := RB_aloadn rfl rfl
theorem w54_41 : RB d 54 41 [l0, l1, l2] (.ref a :: st) (S, I, R, z) Q = ((S a).1 = 3 ∧ RB d 54 44 [l0, l1, l2] (.int (I a 2) :: st) (S, I, R, z) Q) := RB_getI rfl rfl
theorem w54_44 : RB d 54 44 [l0, l1, .int x] st (S, I, R, z) Q = RB d 54 45 [l0, l1, .int x] (.int x :: st) (S, I, R, z) Q := RB_iloadn rfl rfl
theorem w54_45 : RB d 54 45 [l0, l1, l2] (.int y :: .int x :: st) (S, I, R, z) Q = RB d 54 46 [l0, l1, l2] (.int (x + y) :: st) (S, I, R, z) Q := RB_iadd rfl
theorem w54_46 : RB d 54 46 [l0, l1, l2] (.int i :: .ref a :: st) (S, I, R, z) Q = (((S a).1 = 9 ∧ aIx i (S a).2) ∧ RB d 54 47 [l0, l1, l2] (.int (I a i.toNatClampNeg) :: st) (S, I, R, z) Q) := RB_iald rfl
theorem w54_47 : RB d 54 47 [l0, .ref a, l2] st (S, I, R, z) Q = RB d 54 48 [l0, .ref a, l2] (.ref a :: st) (S, I, R, z) Q := RB_aloadn rfl rfl
theorem w54_47N : RB d 54 47 [l0, .null, l2] st (S, I, R, z) Q = RB d 54 48 [l0, .null, l2] (.null :: st) (S, I, R, z) Q := RB_aloadnN rfl rfl
theorem w54_48 : RB d 54 48 [l0, l1, .int x] st (S, I, R, z) Q = RB d 54 49 [l0, l1, .int x] (.int x :: st) (S, I, R, z) Q := RB_iloadn rfl rfl
theorem w54_49 : RB d 54 49 [l0, l1, l2] [.int x0, .ref a, s0] (S, I, R, z) Q = ((S a).1 = 14 ∧ RM d 239 [.ref a, .int x0] (S, I, R, z) (fun v τ => RB d 54 52 [l0, l1, l2] (aPush v [s0]) τ Q)) := RB_callV (n := 2) (t := 0) (k := 90) (ins := .invokevirtual 90) rfl rfl rfl (by decide) (Nat.le_of_ble_eq_true rfl) (Nat.le_of_ble_eq_true rfl) rfl rfl
theorem w54_52 : RB d 54 52 [l0, l1, l2] (.int y :: .int x :: st) (S, I, R, z) Q = ((x = y → RB d 54 57 [l0, l1, l2] st (S, I, R, z) Q) ∧ (¬ x = y → RB d 54 55 [l0, l1, l2] st (S, I, R, z) Q)) := RB_ieq rfl (by decide) rfl
theorem w54_55 : RB d 54 55 [l0, l1, l2] st (S, I, R, z) Q = RB d 54 56 [l0, l1, l2] (.int 0 :: st) (S, I, R, z) Q := RB_iconst rfl ki0
theorem w54_56 : RB d 54 56 [l0, l1, l2] [.int x] (S, I, R, z) Q = (narrow .boolean (.int x) = .int x ∧ Q (some (.int x)) (S, I, R, z)) := RB_zret rfl rfl (Or.inl rfl)
theorem w54_57 : RB d 54 57 [l0, l1, .int x] st (S, I, R, z) Q = RB d 54 60 [l0, l1, .int (x + 1)] st (S, I, R, z) Q := RB_iinc rfl rfl (Nat.le_of_ble_eq_true rfl) ki1 rfl
theorem w54_60 : RB d 54 60 [l0, l1, l2] st (S, I, R, z) Q = RB d 54 28 [l0, l1, l2] st (S, I, R, z) Q := RB_goto rfl (by decide) rfl
theorem w54_63 : RB d 54 63 [l0, l1, l2] st (S, I, R, z) Q = RB d 54 64 [l0, l1, l2] (.int 1 :: st) (S, I, R, z) Q := RB_iconst rfl ki1
theorem w54_64 : RB d 54 64 [l0, l1, l2] [.int x] (S, I, R, z) Q = (narrow .boolean (.int x) = .int x ∧ Q (some (.int x)) (S, I, R, z)) := RB_zret rfl rfl (Or.inl rfl)
/-! 55: HangedWord$Tape.step -/
theorem w55_0 : RB d 55 0 [.ref a, l1] st (S, I, R, z) Q = RB d 55 1 [.ref a, l1] (.ref a :: st) (S, I, R, z) Q := RB_aloadn rfl rfl
theorem w55_1 : RB d 55 1 [l0, l1] (.ref a :: st) (S, I, R, z) Q = ((S a).1 = 3 ∧ RB d 55 4 [l0, l1] (.int (I a 7) :: st) (S, I, R, z) Q) := RB_getI rfl rfl
theorem w55_4 : RB d 55 4 [.ref a, l1] st (S, I, R, z) Q = RB d 55 5 [.ref a, l1] (.ref a :: st) (S, I, R, z) Q := RB_aloadn rfl rfl
theorem w55_5 : RB d 55 5 [l0, l1] (.ref a :: st) (S, I, R, z) Q = ((S a).1 = 3 ∧ RB d 55 8 [l0, l1] (va_rf (R a 6) :: st) (S, I, R, z) Q) := RB_getR rfl rfl
theorem w55_8 : RB d 55 8 [l0, l1] (.ref a :: st) (S, I, R, z) Q = (((8 ≤ (S a).1 ∧ (S a).1 ≤ 13) ∨ (S a).1 = 15) ∧ RB d 55 9 [l0, l1] (.int (Int32.ofNat (S a).2) :: st) (S, I, R, z) Q) := RB_alen rfl
theorem w55_9 : RB d 55 9 [l0, l1] (.int y :: .int x :: st) (S, I, R, z) Q = ((y ≤ x → RB d 55 32 [l0, l1] st (S, I, R, z) Q) ∧ (¬ y ≤ x → RB d 55 12 [l0, l1] st (S, I, R, z) Q)) := RB_ige rfl (by decide) rfl
theorem w55_12 : RB d 55 12 [.ref a, l1] st (S, I, R, z) Q = RB d 55 13 [.ref a, l1] (.ref a :: st) (S, I, R, z) Q := RB_aloadn rfl rfl
theorem w55_13 : RB d 55 13 [l0, l1] (.ref a :: st) (S, I, R, z) Q = ((S a).1 = 3 ∧ RB d 55 16 [l0, l1] (va_rf (R a 6) :: st) (S, I, R, z) Q) := RB_getR rfl rfl
theorem w55_16 : RB d 55 16 [.ref a, l1] st (S, I, R, z) Q = RB d 55 17 [.ref a, l1] (.ref a :: st) (S, I, R, z) Q := RB_aloadn rfl rfl
theorem w55_17 : RB d 55 17 [l0, l1] (.ref a :: st) (S, I, R, z) Q = ((S a).1 = 3 ∧ RB d 55 20 [l0, l1] (.int (I a 7) :: st) (S, I, R, z) Q) := RB_getI rfl rfl
theorem w55_20 : RB d 55 20 [l0, .int x] st (S, I, R, z) Q = RB d 55 21 [l0, .int x] (.int x :: st) (S, I, R, z) Q := RB_iloadn rfl rfl
theorem w55_21 : RB d 55 21 [l0, l1] (.int x :: .int i :: .ref a :: st) (S, I, R, z) Q = (((S a).1 = 9 ∧ aIx i (S a).2 ∧ 16 ≤ a) ∧ RB d 55 22 [l0, l1] st (S, aW I a i.toNatClampNeg x, R, z) Q) := RB_iast rfl
theorem w55_22 : RB d 55 22 [.ref a, l1] st (S, I, R, z) Q = RB d 55 23 [.ref a, l1] (.ref a :: st) (S, I, R, z) Q := RB_aloadn rfl rfl
theorem w55_23 : RB d 55 23 [l0, l1] (v :: st) (S, I, R, z) Q = RB d 55 24 [l0, l1] (v :: v :: st) (S, I, R, z) Q := RB_dup rfl
theorem w55_24 : RB d 55 24 [l0, l1] (.ref a :: st) (S, I, R, z) Q = ((S a).1 = 3 ∧ RB d 55 27 [l0, l1] (.int (I a 7) :: st) (S, I, R, z) Q) := RB_getI rfl rfl
theorem w55_27 : RB d 55 27 [l0, l1] st (S, I, R, z) Q = RB d 55 28 [l0, l1] (.int 1 :: st) (S, I, R, z) Q := RB_iconst rfl ki1
theorem w55_28 : RB d 55 28 [l0, l1] (.int y :: .int x :: st) (S, I, R, z) Q = RB d 55 29 [l0, l1] (.int (x + y) :: st) (S, I, R, z) Q := RB_iadd rfl
theorem w55_29 : RB d 55 29 [l0, l1] (.int x :: .ref a :: st) (S, I, R, z) Q = (((S a).1 = 3 ∧ 3 < 8 ∧ 16 ≤ a) ∧ RB d 55 32 [l0, l1] st (S, aW I a 7 x, R, z) Q) := RB_putI rfl rfl (Or.inl rfl)
theorem w55_32 : RB d 55 32 [l0, l1] [] (S, I, R, z) Q = Q none (S, I, R, z) := RB_ret rfl rfl
/-! 56: HangedWord$Tape.readEither -/
theorem w56_0 : RB d 56 0 [.ref a, l1, l2] st (S, I, R, z) Q = RB d 56 1 [.ref a, l1, l2] (.ref a :: st) (S, I, R, z) Q := RB_aloadn rfl rfl
theorem w56_1 : RB d 56 1 [l0, l1, l2] [.ref a] (S, I, R, z) Q = ((S a).1 = 3 ∧ RM d 57 [.ref a] (S, I, R, z) (fun v τ => RB d 56 4 [l0, l1, l2] (aPush v []) τ Q)) := RB_callV (n := 1) (t := 0) (k := 94) (ins := .invokevirtual 94) rfl rfl rfl (by decide) (Nat.le_of_ble_eq_true rfl) (Nat.le_of_ble_eq_true rfl) rfl rfl
theorem w56_4 : RB d 56 4 [l0, l1, l2] (.int x :: st) (S, I, R, z) Q = RB d 56 5 [l0, .int x, l2] st (S, I, R, z) Q := RB_istoren rfl (Nat.le_of_ble_eq_true rfl) rfl
theorem w56_5 : RB d 56 5 [l0, l1, l2] st (S, I, R, z) Q = RB d 56 6 [l0, l1, l2] (.int 0 :: st) (S, I, R, z) Q := RB_iconst rfl ki0
theorem w56_6 : RB d 56 6 [l0, l1, l2] (.int x :: st) (S, I, R, z) Q = RB d 56 7 [l0, l1, .int x] st (S, I, R, z) Q := RB_istoren rfl (Nat.le_of_ble_eq_true rfl) rfl
theorem w56_7 : RB d 56 7 [l0, l1, .int x] st (S, I, R, z) Q = RB d 56 8 [l0, l1, .int x] (.int x :: st) (S, I, R, z) Q := RB_iloadn rfl rfl
theorem w56_8 : RB d 56 8 [l0, l1, l2] st (S, I, R, z) Q = RB d 56 10 [l0, l1, l2] (.int 96 :: st) (S, I, R, z) Q := RB_bipush rfl kb96
theorem w56_10 : RB d 56 10 [l0, l1, l2] (.int y :: .int x :: st) (S, I, R, z) Q = ((y ≤ x → RB d 56 47 [l0, l1, l2] st (S, I, R, z) Q) ∧ (¬ y ≤ x → RB d 56 13 [l0, l1, l2] st (S, I, R, z) Q)) := RB_ige rfl (by decide) rfl
theorem w56_13 : RB d 56 13 [l0, .int x, l2] st (S, I, R, z) Q = RB d 56 14 [l0, .int x, l2] (.int x :: st) (S, I, R, z) Q := RB_iloadn rfl rfl
theorem w56_14 : RB d 56 14 [l0, l1, l2] (.int x :: st) (S, I, R, z) Q = ((x = 0 → RB d 56 47 [l0, l1, l2] st (S, I, R, z) Q) ∧ (¬ x = 0 → RB d 56 17 [l0, l1, l2] st (S, I, R, z) Q)) := RB_eq0 rfl (by decide) rfl
theorem w56_17 : RB d 56 17 [.ref a, l1, l2] st (S, I, R, z) Q = RB d 56 18 [.ref a, l1, l2] (.ref a :: st) (S, I, R, z) Q := RB_aloadn rfl rfl
theorem w56_18 : RB d 56 18 [l0, l1, l2] st (S, I, R, z) Q = RB d 56 20 [l0, l1, l2] (.int 124 :: st) (S, I, R, z) Q := RB_bipush rfl kb124
theorem w56_20 : RB d 56 20 [l0, l1, l2] [.int x0, .ref a] (S, I, R, z) Q = ((S a).1 = 3 ∧ RM d 53 [.ref a, .int x0] (S, I, R, z) (fun v τ => RB d 56 23 [l0, l1, l2] (aPush v []) τ Q)) := RB_callV (n := 2) (t := 0) (k := 97) (ins := .invokevirtual 97) rfl rfl rfl (by decide) (Nat.le_of_ble_eq_true rfl) (Nat.le_of_ble_eq_true rfl) rfl rfl
theorem w56_23 : RB d 56 23 [l0, l1, l2] (.int x :: st) (S, I, R, z) Q = ((x = 0 → RB d 56 47 [l0, l1, l2] st (S, I, R, z) Q) ∧ (¬ x = 0 → RB d 56 26 [l0, l1, l2] st (S, I, R, z) Q)) := RB_eq0 rfl (by decide) rfl
theorem w56_26 : RB d 56 26 [.ref a, l1, l2] st (S, I, R, z) Q = RB d 56 27 [.ref a, l1, l2] (.ref a :: st) (S, I, R, z) Q := RB_aloadn rfl rfl
theorem w56_27 : RB d 56 27 [l0, l1, l2] [.ref a] (S, I, R, z) Q = ((S a).1 = 3 ∧ RM d 51 [.ref a] (S, I, R, z) (fun v τ => RB d 56 30 [l0, l1, l2] (aPush v []) τ Q)) := RB_callV (n := 1) (t := 0) (k := 50) (ins := .invokevirtual 50) rfl rfl rfl (by decide) (Nat.le_of_ble_eq_true rfl) (Nat.le_of_ble_eq_true rfl) rfl rfl
theorem w56_30 : RB d 56 30 [.ref a, l1, l2] st (S, I, R, z) Q = RB d 56 31 [.ref a, l1, l2] (.ref a :: st) (S, I, R, z) Q := RB_aloadn rfl rfl
theorem w56_31 : RB d 56 31 [l0, l1, l2] [.ref a] (S, I, R, z) Q = ((S a).1 = 3 ∧ RM d 57 [.ref a] (S, I, R, z) (fun v τ => RB d 56 34 [l0, l1, l2] (aPush v []) τ Q)) := RB_callV (n := 1) (t := 0) (k := 94) (ins := .invokevirtual 94) rfl rfl rfl (by decide) (Nat.le_of_ble_eq_true rfl) (Nat.le_of_ble_eq_true rfl) rfl rfl
theorem w56_34 : RB d 56 34 [l0, l1, l2] (.int x :: st) (S, I, R, z) Q = RB d 56 35 [l0, .int x, l2] st (S, I, R, z) Q := RB_istoren rfl (Nat.le_of_ble_eq_true rfl) rfl
theorem w56_35 : RB d 56 35 [.ref a, l1, l2] st (S, I, R, z) Q = RB d 56 36 [.ref a, l1, l2] (.ref a :: st) (S, I, R, z) Q := RB_aloadn rfl rfl
theorem w56_36 : RB d 56 36 [l0, l1, l2] st (S, I, R, z) Q = RB d 56 38 [l0, l1, l2] (.int (-124) :: st) (S, I, R, z) Q := RB_bipush rfl kbm124
theorem w56_38 : RB d 56 38 [l0, l1, l2] [.int x0, .ref a] (S, I, R, z) Q = ((S a).1 = 3 ∧ RM d 55 [.ref a, .int x0] (S, I, R, z) (fun v τ => RB d 56 41 [l0, l1, l2] (aPush v []) τ Q)) := RB_callV (n := 2) (t := 0) (k := 101) (ins := .invokevirtual 101) rfl rfl rfl (by decide) (Nat.le_of_ble_eq_true rfl) (Nat.le_of_ble_eq_true rfl) rfl rfl
theorem w56_41 : RB d 56 41 [l0, l1, .int x] st (S, I, R, z) Q = RB d 56 44 [l0, l1, .int (x + 1)] st (S, I, R, z) Q := RB_iinc rfl rfl (Nat.le_of_ble_eq_true rfl) ki1 rfl
theorem w56_44 : RB d 56 44 [l0, l1, l2] st (S, I, R, z) Q = RB d 56 7 [l0, l1, l2] st (S, I, R, z) Q := RB_goto rfl (by decide) rfl
theorem w56_47 : RB d 56 47 [l0, .int x, l2] st (S, I, R, z) Q = RB d 56 48 [l0, .int x, l2] (.int x :: st) (S, I, R, z) Q := RB_iloadn rfl rfl
theorem w56_48 : RB d 56 48 [l0, l1, l2] [.int x] (S, I, R, z) Q = (narrow .boolean (.int x) = .int x ∧ Q (some (.int x)) (S, I, R, z)) := RB_zret rfl rfl (Or.inl rfl)
/-! 57: HangedWord$Tape.readBoth -/
theorem w57_0 : RB d 57 0 [.ref a, l1, l2] st (S, I, R, z) Q = RB d 57 1 [.ref a, l1, l2] (.ref a :: st) (S, I, R, z) Q := RB_aloadn rfl rfl
theorem w57_1 : RB d 57 1 [l0, l1, l2] [.ref a] (S, I, R, z) Q = ((S a).1 = 3 ∧ RM d 58 [.ref a] (S, I, R, z) (fun v τ => RB d 57 4 [l0, l1, l2] (aPush v []) τ Q)) := RB_callV (n := 1) (t := 0) (k := 105) (ins := .invokevirtual 105) rfl rfl rfl (by decide) (Nat.le_of_ble_eq_true rfl) (Nat.le_of_ble_eq_true rfl) rfl rfl
theorem w57_4 : RB d 57 4 [l0, l1, l2] (.int x :: st) (S, I, R, z) Q = RB d 57 5 [l0, .int x, l2] st (S, I, R, z) Q := RB_istoren rfl (Nat.le_of_ble_eq_true rfl) rfl
theorem w57_5 : RB d 57 5 [l0, l1, l2] st (S, I, R, z) Q = RB d 57 6 [l0, l1, l2] (.int 0 :: st) (S, I, R, z) Q := RB_iconst rfl ki0
theorem w57_6 : RB d 57 6 [l0, l1, l2] (.int x :: st) (S, I, R, z) Q = RB d 57 7 [l0, l1, .int x] st (S, I, R, z) Q := RB_istoren rfl (Nat.le_of_ble_eq_true rfl) rfl
theorem w57_7 : RB d 57 7 [l0, l1, .int x] st (S, I, R, z) Q = RB d 57 8 [l0, l1, .int x] (.int x :: st) (S, I, R, z) Q := RB_iloadn rfl rfl
theorem w57_8 : RB d 57 8 [l0, l1, l2] st (S, I, R, z) Q = RB d 57 10 [l0, l1, l2] (.int 96 :: st) (S, I, R, z) Q := RB_bipush rfl kb96
theorem w57_10 : RB d 57 10 [l0, l1, l2] (.int y :: .int x :: st) (S, I, R, z) Q = ((y ≤ x → RB d 57 47 [l0, l1, l2] st (S, I, R, z) Q) ∧ (¬ y ≤ x → RB d 57 13 [l0, l1, l2] st (S, I, R, z) Q)) := RB_ige rfl (by decide) rfl
theorem w57_13 : RB d 57 13 [l0, .int x, l2] st (S, I, R, z) Q = RB d 57 14 [l0, .int x, l2] (.int x :: st) (S, I, R, z) Q := RB_iloadn rfl rfl
theorem w57_14 : RB d 57 14 [l0, l1, l2] (.int x :: st) (S, I, R, z) Q = ((x = 0 → RB d 57 47 [l0, l1, l2] st (S, I, R, z) Q) ∧ (¬ x = 0 → RB d 57 17 [l0, l1, l2] st (S, I, R, z) Q)) := RB_eq0 rfl (by decide) rfl
theorem w57_17 : RB d 57 17 [.ref a, l1, l2] st (S, I, R, z) Q = RB d 57 18 [.ref a, l1, l2] (.ref a :: st) (S, I, R, z) Q := RB_aloadn rfl rfl
theorem w57_18 : RB d 57 18 [l0, l1, l2] st (S, I, R, z) Q = RB d 57 20 [l0, l1, l2] (.int 38 :: st) (S, I, R, z) Q := RB_bipush rfl kb38
theorem w57_20 : RB d 57 20 [l0, l1, l2] [.int x0, .ref a] (S, I, R, z) Q = ((S a).1 = 3 ∧ RM d 53 [.ref a, .int x0] (S, I, R, z) (fun v τ => RB d 57 23 [l0, l1, l2] (aPush v []) τ Q)) := RB_callV (n := 2) (t := 0) (k := 97) (ins := .invokevirtual 97) rfl rfl rfl (by decide) (Nat.le_of_ble_eq_true rfl) (Nat.le_of_ble_eq_true rfl) rfl rfl
theorem w57_23 : RB d 57 23 [l0, l1, l2] (.int x :: st) (S, I, R, z) Q = ((x = 0 → RB d 57 47 [l0, l1, l2] st (S, I, R, z) Q) ∧ (¬ x = 0 → RB d 57 26 [l0, l1, l2] st (S, I, R, z) Q)) := RB_eq0 rfl (by decide) rfl
theorem w57_26 : RB d 57 26 [.ref a, l1, l2] st (S, I, R, z) Q = RB d 57 27 [.ref a, l1, l2] (.ref a :: st) (S, I, R, z) Q := RB_aloadn rfl rfl
theorem w57_27 : RB d 57 27 [l0, l1, l2] [.ref a] (S, I, R, z) Q = ((S a).1 = 3 ∧ RM d 51 [.ref a] (S, I, R, z) (fun v τ => RB d 57 30 [l0, l1, l2] (aPush v []) τ Q)) := RB_callV (n := 1) (t := 0) (k := 50) (ins := .invokevirtual 50) rfl rfl rfl (by decide) (Nat.le_of_ble_eq_true rfl) (Nat.le_of_ble_eq_true rfl) rfl rfl
theorem w57_30 : RB d 57 30 [.ref a, l1, l2] st (S, I, R, z) Q = RB d 57 31 [.ref a, l1, l2] (.ref a :: st) (S, I, R, z) Q := RB_aloadn rfl rfl
theorem w57_31 : RB d 57 31 [l0, l1, l2] [.ref a] (S, I, R, z) Q = ((S a).1 = 3 ∧ RM d 58 [.ref a] (S, I, R, z) (fun v τ => RB d 57 34 [l0, l1, l2] (aPush v []) τ Q)) := RB_callV (n := 1) (t := 0) (k := 105) (ins := .invokevirtual 105) rfl rfl rfl (by decide) (Nat.le_of_ble_eq_true rfl) (Nat.le_of_ble_eq_true rfl) rfl rfl
theorem w57_34 : RB d 57 34 [l0, l1, l2] (.int x :: st) (S, I, R, z) Q = RB d 57 35 [l0, .int x, l2] st (S, I, R, z) Q := RB_istoren rfl (Nat.le_of_ble_eq_true rfl) rfl
theorem w57_35 : RB d 57 35 [.ref a, l1, l2] st (S, I, R, z) Q = RB d 57 36 [.ref a, l1, l2] (.ref a :: st) (S, I, R, z) Q := RB_aloadn rfl rfl
theorem w57_36 : RB d 57 36 [l0, l1, l2] st (S, I, R, z) Q = RB d 57 38 [l0, l1, l2] (.int (-38) :: st) (S, I, R, z) Q := RB_bipush rfl kbm38
theorem w57_38 : RB d 57 38 [l0, l1, l2] [.int x0, .ref a] (S, I, R, z) Q = ((S a).1 = 3 ∧ RM d 55 [.ref a, .int x0] (S, I, R, z) (fun v τ => RB d 57 41 [l0, l1, l2] (aPush v []) τ Q)) := RB_callV (n := 2) (t := 0) (k := 101) (ins := .invokevirtual 101) rfl rfl rfl (by decide) (Nat.le_of_ble_eq_true rfl) (Nat.le_of_ble_eq_true rfl) rfl rfl
theorem w57_41 : RB d 57 41 [l0, l1, .int x] st (S, I, R, z) Q = RB d 57 44 [l0, l1, .int (x + 1)] st (S, I, R, z) Q := RB_iinc rfl rfl (Nat.le_of_ble_eq_true rfl) ki1 rfl
theorem w57_44 : RB d 57 44 [l0, l1, l2] st (S, I, R, z) Q = RB d 57 7 [l0, l1, l2] st (S, I, R, z) Q := RB_goto rfl (by decide) rfl
theorem w57_47 : RB d 57 47 [l0, .int x, l2] st (S, I, R, z) Q = RB d 57 48 [l0, .int x, l2] (.int x :: st) (S, I, R, z) Q := RB_iloadn rfl rfl
theorem w57_48 : RB d 57 48 [l0, l1, l2] [.int x] (S, I, R, z) Q = (narrow .boolean (.int x) = .int x ∧ Q (some (.int x)) (S, I, R, z)) := RB_zret rfl rfl (Or.inl rfl)
/-! 58: HangedWord$Tape.readTest -/
theorem w58_0 : RB d 58 0 [.ref a, l1, l2] st (S, I, R, z) Q = RB d 58 1 [.ref a, l1, l2] (.ref a :: st) (S, I, R, z) Q := RB_aloadn rfl rfl
theorem w58_1 : RB d 58 1 [l0, l1, l2] [.ref a] (S, I, R, z) Q = ((S a).1 = 3 ∧ RM d 59 [.ref a] (S, I, R, z) (fun v τ => RB d 58 4 [l0, l1, l2] (aPush v []) τ Q)) := RB_callV (n := 1) (t := 0) (k := 108) (ins := .invokevirtual 108) rfl rfl rfl (by decide) (Nat.le_of_ble_eq_true rfl) (Nat.le_of_ble_eq_true rfl) rfl rfl
theorem w58_4 : RB d 58 4 [l0, l1, l2] (.int x :: st) (S, I, R, z) Q = ((x = 0 → RB d 58 7 [l0, l1, l2] st (S, I, R, z) Q) ∧ (¬ x = 0 → RB d 58 9 [l0, l1, l2] st (S, I, R, z) Q)) := RB_ne0 rfl (by decide) rfl
theorem w58_7 : RB d 58 7 [l0, l1, l2] st (S, I, R, z) Q = RB d 58 8 [l0, l1, l2] (.int 0 :: st) (S, I, R, z) Q := RB_iconst rfl ki0
theorem w58_8 : RB d 58 8 [l0, l1, l2] [.int x] (S, I, R, z) Q = (narrow .boolean (.int x) = .int x ∧ Q (some (.int x)) (S, I, R, z)) := RB_zret rfl rfl (Or.inl rfl)
theorem w58_9 : RB d 58 9 [.ref a, l1, l2] st (S, I, R, z) Q = RB d 58 10 [.ref a, l1, l2] (.ref a :: st) (S, I, R, z) Q := RB_aloadn rfl rfl
theorem w58_10 : RB d 58 10 [l0, l1, l2] st (S, I, R, z) Q = RB d 58 12 [l0, l1, l2] (.int 60 :: st) (S, I, R, z) Q := RB_bipush rfl kb60
theorem w58_12 : RB d 58 12 [l0, l1, l2] [.int x0, .ref a] (S, I, R, z) Q = ((S a).1 = 3 ∧ RM d 53 [.ref a, .int x0] (S, I, R, z) (fun v τ => RB d 58 15 [l0, l1, l2] (aPush v []) τ Q)) := RB_callV (n := 2) (t := 0) (k := 97) (ins := .invokevirtual 97) rfl rfl rfl (by decide) (Nat.le_of_ble_eq_true rfl) (Nat.le_of_ble_eq_true rfl) rfl rfl
theorem w58_15 : RB d 58 15 [l0, l1, l2] (.int x :: st) (S, I, R, z) Q = ((x = 0 → RB d 58 18 [l0, l1, l2] st (S, I, R, z) Q) ∧ (¬ x = 0 → RB d 58 38 [l0, l1, l2] st (S, I, R, z) Q)) := RB_ne0 rfl (by decide) rfl
theorem w58_18 : RB d 58 18 [.ref a, l1, l2] st (S, I, R, z) Q = RB d 58 19 [.ref a, l1, l2] (.ref a :: st) (S, I, R, z) Q := RB_aloadn rfl rfl
theorem w58_19 : RB d 58 19 [l0, l1, l2] st (S, I, R, z) Q = RB d 58 21 [l0, l1, l2] (.int 61 :: st) (S, I, R, z) Q := RB_bipush rfl kb61
theorem w58_21 : RB d 58 21 [l0, l1, l2] [.int x0, .ref a] (S, I, R, z) Q = ((S a).1 = 3 ∧ RM d 53 [.ref a, .int x0] (S, I, R, z) (fun v τ => RB d 58 24 [l0, l1, l2] (aPush v []) τ Q)) := RB_callV (n := 2) (t := 0) (k := 97) (ins := .invokevirtual 97) rfl rfl rfl (by decide) (Nat.le_of_ble_eq_true rfl) (Nat.le_of_ble_eq_true rfl) rfl rfl
theorem w58_24 : RB d 58 24 [l0, l1, l2] (.int x :: st) (S, I, R, z) Q = ((x = 0 → RB d 58 27 [l0, l1, l2] st (S, I, R, z) Q) ∧ (¬ x = 0 → RB d 58 38 [l0, l1, l2] st (S, I, R, z) Q)) := RB_ne0 rfl (by decide) rfl
theorem w58_27 : RB d 58 27 [.ref a, l1, l2] st (S, I, R, z) Q = RB d 58 28 [.ref a, l1, l2] (.ref a :: st) (S, I, R, z) Q := RB_aloadn rfl rfl
theorem w58_28 : RB d 58 28 [l0, l1, l2] st (S, I, R, z) Q = RB d 58 30 [l0, l1, l2] (.int 62 :: st) (S, I, R, z) Q := RB_bipush rfl kb62
theorem w58_30 : RB d 58 30 [l0, l1, l2] [.int x0, .ref a] (S, I, R, z) Q = ((S a).1 = 3 ∧ RM d 53 [.ref a, .int x0] (S, I, R, z) (fun v τ => RB d 58 33 [l0, l1, l2] (aPush v []) τ Q)) := RB_callV (n := 2) (t := 0) (k := 97) (ins := .invokevirtual 97) rfl rfl rfl (by decide) (Nat.le_of_ble_eq_true rfl) (Nat.le_of_ble_eq_true rfl) rfl rfl
theorem w58_33 : RB d 58 33 [l0, l1, l2] (.int x :: st) (S, I, R, z) Q = ((x = 0 → RB d 58 36 [l0, l1, l2] st (S, I, R, z) Q) ∧ (¬ x = 0 → RB d 58 38 [l0, l1, l2] st (S, I, R, z) Q)) := RB_ne0 rfl (by decide) rfl
theorem w58_36 : RB d 58 36 [l0, l1, l2] st (S, I, R, z) Q = RB d 58 37 [l0, l1, l2] (.int 1 :: st) (S, I, R, z) Q := RB_iconst rfl ki1
theorem w58_37 : RB d 58 37 [l0, l1, l2] [.int x] (S, I, R, z) Q = (narrow .boolean (.int x) = .int x ∧ Q (some (.int x)) (S, I, R, z)) := RB_zret rfl rfl (Or.inl rfl)
theorem w58_38 : RB d 58 38 [.ref a, l1, l2] st (S, I, R, z) Q = RB d 58 39 [.ref a, l1, l2] (.ref a :: st) (S, I, R, z) Q := RB_aloadn rfl rfl
theorem w58_39 : RB d 58 39 [l0, l1, l2] (.ref a :: st) (S, I, R, z) Q = ((S a).1 = 3 ∧ RB d 58 42 [l0, l1, l2] (va_rf (R a 0) :: st) (S, I, R, z) Q) := RB_getR rfl rfl
theorem w58_42 : RB d 58 42 [.ref a, l1, l2] st (S, I, R, z) Q = RB d 58 43 [.ref a, l1, l2] (.ref a :: st) (S, I, R, z) Q := RB_aloadn rfl rfl
theorem w58_43 : RB d 58 43 [l0, l1, l2] (.ref a :: st) (S, I, R, z) Q = ((S a).1 = 3 ∧ RB d 58 46 [l0, l1, l2] (.int (I a 2) :: st) (S, I, R, z) Q) := RB_getI rfl rfl
theorem w58_46 : RB d 58 46 [l0, l1, l2] (.int i :: .ref a :: st) (S, I, R, z) Q = (((S a).1 = 9 ∧ aIx i (S a).2) ∧ RB d 58 47 [l0, l1, l2] (.int (I a i.toNatClampNeg) :: st) (S, I, R, z) Q) := RB_iald rfl
theorem w58_47 : RB d 58 47 [l0, l1, l2] (.int x :: st) (S, I, R, z) Q = RB d 58 48 [l0, .int x, l2] st (S, I, R, z) Q := RB_istoren rfl (Nat.le_of_ble_eq_true rfl) rfl
theorem w58_48 : RB d 58 48 [.ref a, l1, l2] st (S, I, R, z) Q = RB d 58 49 [.ref a, l1, l2] (.ref a :: st) (S, I, R, z) Q := RB_aloadn rfl rfl
theorem w58_49 : RB d 58 49 [l0, l1, l2] [.ref a] (S, I, R, z) Q = ((S a).1 = 3 ∧ RM d 51 [.ref a] (S, I, R, z) (fun v τ => RB d 58 52 [l0, l1, l2] (aPush v []) τ Q)) := RB_callV (n := 1) (t := 0) (k := 50) (ins := .invokevirtual 50) rfl rfl rfl (by decide) (Nat.le_of_ble_eq_true rfl) (Nat.le_of_ble_eq_true rfl) rfl rfl
theorem w58_52 : RB d 58 52 [.ref a, l1, l2] st (S, I, R, z) Q = RB d 58 53 [.ref a, l1, l2] (.ref a :: st) (S, I, R, z) Q := RB_aloadn rfl rfl
theorem w58_53 : RB d 58 53 [l0, l1, l2] [.ref a] (S, I, R, z) Q = ((S a).1 = 3 ∧ RM d 59 [.ref a] (S, I, R, z) (fun v τ => RB d 58 56 [l0, l1, l2] (aPush v []) τ Q)) := RB_callV (n := 1) (t := 0) (k := 108) (ins := .invokevirtual 108) rfl rfl rfl (by decide) (Nat.le_of_ble_eq_true rfl) (Nat.le_of_ble_eq_true rfl) rfl rfl
theorem w58_56 : RB d 58 56 [l0, l1, l2] (.int x :: st) (S, I, R, z) Q = RB d 58 57 [l0, l1, .int x] st (S, I, R, z) Q := RB_istoren rfl (Nat.le_of_ble_eq_true rfl) rfl
theorem w58_57 : RB d 58 57 [.ref a, l1, l2] st (S, I, R, z) Q = RB d 58 58 [.ref a, l1, l2] (.ref a :: st) (S, I, R, z) Q := RB_aloadn rfl rfl
theorem w58_58 : RB d 58 58 [l0, .int x, l2] st (S, I, R, z) Q = RB d 58 59 [l0, .int x, l2] (.int x :: st) (S, I, R, z) Q := RB_iloadn rfl rfl
theorem w58_59 : RB d 58 59 [l0, l1, l2] (.int x :: st) (S, I, R, z) Q = RB d 58 60 [l0, l1, l2] (.int (-x) :: st) (S, I, R, z) Q := RB_ineg rfl
theorem w58_60 : RB d 58 60 [l0, l1, l2] [.int x0, .ref a] (S, I, R, z) Q = ((S a).1 = 3 ∧ RM d 55 [.ref a, .int x0] (S, I, R, z) (fun v τ => RB d 58 63 [l0, l1, l2] (aPush v []) τ Q)) := RB_callV (n := 2) (t := 0) (k := 101) (ins := .invokevirtual 101) rfl rfl rfl (by decide) (Nat.le_of_ble_eq_true rfl) (Nat.le_of_ble_eq_true rfl) rfl rfl
theorem w58_63 : RB d 58 63 [l0, l1, .int x] st (S, I, R, z) Q = RB d 58 64 [l0, l1, .int x] (.int x :: st) (S, I, R, z) Q := RB_iloadn rfl rfl
theorem w58_64 : RB d 58 64 [l0, l1, l2] [.int x] (S, I, R, z) Q = (narrow .boolean (.int x) = .int x ∧ Q (some (.int x)) (S, I, R, z)) := RB_zret rfl rfl (Or.inl rfl)
/-! 59: HangedWord$Tape.readSum -/
theorem w59_0 : RB d 59 0 [.ref a, l1, l2, l3] st (S, I, R, z) Q = RB d 59 1 [.ref a, l1, l2, l3] (.ref a :: st) (S, I, R, z) Q := RB_aloadn rfl rfl
theorem w59_1 : RB d 59 1 [l0, l1, l2, l3] [.ref a] (S, I, R, z) Q = ((S a).1 = 3 ∧ RM d 60 [.ref a] (S, I, R, z) (fun v τ => RB d 59 4 [l0, l1, l2, l3] (aPush v []) τ Q)) := RB_callV (n := 1) (t := 0) (k := 111) (ins := .invokevirtual 111) rfl rfl rfl (by decide) (Nat.le_of_ble_eq_true rfl) (Nat.le_of_ble_eq_true rfl) rfl rfl
theorem w59_4 : RB d 59 4 [l0, l1, l2, l3] (.int x :: st) (S, I, R, z) Q = RB d 59 5 [l0, .int x, l2, l3] st (S, I, R, z) Q := RB_istoren rfl (Nat.le_of_ble_eq_true rfl) rfl
theorem w59_5 : RB d 59 5 [l0, l1, l2, l3] st (S, I, R, z) Q = RB d 59 6 [l0, l1, l2, l3] (.int 0 :: st) (S, I, R, z) Q := RB_iconst rfl ki0
theorem w59_6 : RB d 59 6 [l0, l1, l2, l3] (.int x :: st) (S, I, R, z) Q = RB d 59 7 [l0, l1, .int x, l3] st (S, I, R, z) Q := RB_istoren rfl (Nat.le_of_ble_eq_true rfl) rfl
theorem w59_7 : RB d 59 7 [l0, l1, .int x, l3] st (S, I, R, z) Q = RB d 59 8 [l0, l1, .int x, l3] (.int x :: st) (S, I, R, z) Q := RB_iloadn rfl rfl
theorem w59_8 : RB d 59 8 [l0, l1, l2, l3] st (S, I, R, z) Q = RB d 59 10 [l0, l1, l2, l3] (.int 96 :: st) (S, I, R, z) Q := RB_bipush rfl kb96
theorem w59_10 : RB d 59 10 [l0, l1, l2, l3] (.int y :: .int x :: st) (S, I, R, z) Q = ((y ≤ x → RB d 59 66 [l0, l1, l2, l3] st (S, I, R, z) Q) ∧ (¬ y ≤ x → RB d 59 13 [l0, l1, l2, l3] st (S, I, R, z) Q)) := RB_ige rfl (by decide) rfl
theorem w59_13 : RB d 59 13 [l0, .int x, l2, l3] st (S, I, R, z) Q = RB d 59 14 [l0, .int x, l2, l3] (.int x :: st) (S, I, R, z) Q := RB_iloadn rfl rfl
theorem w59_14 : RB d 59 14 [l0, l1, l2, l3] (.int x :: st) (S, I, R, z) Q = ((x = 0 → RB d 59 66 [l0, l1, l2, l3] st (S, I, R, z) Q) ∧ (¬ x = 0 → RB d 59 17 [l0, l1, l2, l3] st (S, I, R, z) Q)) := RB_eq0 rfl (by decide) rfl
theorem w59_17 : RB d 59 17 [.ref a, l1, l2, l3] st (S, I, R, z) Q = RB d 59 18 [.ref a, l1, l2, l3] (.ref a :: st) (S, I, R, z) Q := RB_aloadn rfl rfl
theorem w59_18 : RB d 59 18 [l0, l1, l2, l3] st (S, I, R, z) Q = RB d 59 20 [l0, l1, l2, l3] (.int 43 :: st) (S, I, R, z) Q := RB_bipush rfl kb43
theorem w59_20 : RB d 59 20 [l0, l1, l2, l3] [.int x0, .ref a] (S, I, R, z) Q = ((S a).1 = 3 ∧ RM d 53 [.ref a, .int x0] (S, I, R, z) (fun v τ => RB d 59 23 [l0, l1, l2, l3] (aPush v []) τ Q)) := RB_callV (n := 2) (t := 0) (k := 97) (ins := .invokevirtual 97) rfl rfl rfl (by decide) (Nat.le_of_ble_eq_true rfl) (Nat.le_of_ble_eq_true rfl) rfl rfl
theorem w59_23 : RB d 59 23 [l0, l1, l2, l3] (.int x :: st) (S, I, R, z) Q = ((x = 0 → RB d 59 26 [l0, l1, l2, l3] st (S, I, R, z) Q) ∧ (¬ x = 0 → RB d 59 35 [l0, l1, l2, l3] st (S, I, R, z) Q)) := RB_ne0 rfl (by decide) rfl
theorem w59_26 : RB d 59 26 [.ref a, l1, l2, l3] st (S, I, R, z) Q = RB d 59 27 [.ref a, l1, l2, l3] (.ref a :: st) (S, I, R, z) Q := RB_aloadn rfl rfl
theorem w59_27 : RB d 59 27 [l0, l1, l2, l3] st (S, I, R, z) Q = RB d 59 29 [l0, l1, l2, l3] (.int 45 :: st) (S, I, R, z) Q := RB_bipush rfl kb45
theorem w59_29 : RB d 59 29 [l0, l1, l2, l3] [.int x0, .ref a] (S, I, R, z) Q = ((S a).1 = 3 ∧ RM d 53 [.ref a, .int x0] (S, I, R, z) (fun v τ => RB d 59 32 [l0, l1, l2, l3] (aPush v []) τ Q)) := RB_callV (n := 2) (t := 0) (k := 97) (ins := .invokevirtual 97) rfl rfl rfl (by decide) (Nat.le_of_ble_eq_true rfl) (Nat.le_of_ble_eq_true rfl) rfl rfl
theorem w59_32 : RB d 59 32 [l0, l1, l2, l3] (.int x :: st) (S, I, R, z) Q = ((x = 0 → RB d 59 66 [l0, l1, l2, l3] st (S, I, R, z) Q) ∧ (¬ x = 0 → RB d 59 35 [l0, l1, l2, l3] st (S, I, R, z) Q)) := RB_eq0 rfl (by decide) rfl
theorem w59_35 : RB d 59 35 [.ref a, l1, l2, l3] st (S, I, R, z) Q = RB d 59 36 [.ref a, l1, l2, l3] (.ref a :: st) (S, I, R, z) Q := RB_aloadn rfl rfl
theorem w59_36 : RB d 59 36 [l0, l1, l2, l3] (.ref a :: st) (S, I, R, z) Q = ((S a).1 = 3 ∧ RB d 59 39 [l0, l1, l2, l3] (va_rf (R a 0) :: st) (S, I, R, z) Q) := RB_getR rfl rfl
theorem w59_39 : RB d 59 39 [.ref a, l1, l2, l3] st (S, I, R, z) Q = RB d 59 40 [.ref a, l1, l2, l3] (.ref a :: st) (S, I, R, z) Q := RB_aloadn rfl rfl
theorem w59_40 : RB d 59 40 [l0, l1, l2, l3] (.ref a :: st) (S, I, R, z) Q = ((S a).1 = 3 ∧ RB d 59 43 [l0, l1, l2, l3] (.int (I a 2) :: st) (S, I, R, z) Q) := RB_getI rfl rfl
theorem w59_43 : RB d 59 43 [l0, l1, l2, l3] (.int i :: .ref a :: st) (S, I, R, z) Q = (((S a).1 = 9 ∧ aIx i (S a).2) ∧ RB d 59 44 [l0, l1, l2, l3] (.int (I a i.toNatClampNeg) :: st) (S, I, R, z) Q) := RB_iald rfl
theorem w59_44 : RB d 59 44 [l0, l1, l2, l3] (.int x :: st) (S, I, R, z) Q = RB d 59 45 [l0, l1, l2, .int x] st (S, I, R, z) Q := RB_istoren rfl (Nat.le_of_ble_eq_true rfl) rfl
theorem w59_45 : RB d 59 45 [.ref a, l1, l2, l3] st (S, I, R, z) Q = RB d 59 46 [.ref a, l1, l2, l3] (.ref a :: st) (S, I, R, z) Q := RB_aloadn rfl rfl
theorem w59_46 : RB d 59 46 [l0, l1, l2, l3] [.ref a] (S, I, R, z) Q = ((S a).1 = 3 ∧ RM d 51 [.ref a] (S, I, R, z) (fun v τ => RB d 59 49 [l0, l1, l2, l3] (aPush v []) τ Q)) := RB_callV (n := 1) (t := 0) (k := 50) (ins := .invokevirtual 50) rfl rfl rfl (by decide) (Nat.le_of_ble_eq_true rfl) (Nat.le_of_ble_eq_true rfl) rfl rfl
theorem w59_49 : RB d 59 49 [.ref a, l1, l2, l3] st (S, I, R, z) Q = RB d 59 50 [.ref a, l1, l2, l3] (.ref a :: st) (S, I, R, z) Q := RB_aloadn rfl rfl
theorem w59_50 : RB d 59 50 [l0, l1, l2, l3] [.ref a] (S, I, R, z) Q = ((S a).1 = 3 ∧ RM d 60 [.ref a] (S, I, R, z) (fun v τ => RB d 59 53 [l0, l1, l2, l3] (aPush v []) τ Q)) := RB_callV (n := 1) (t := 0) (k := 111) (ins := .invokevirtual 111) rfl rfl rfl (by decide) (Nat.le_of_ble_eq_true rfl) (Nat.le_of_ble_eq_true rfl) rfl rfl
theorem w59_53 : RB d 59 53 [l0, l1, l2, l3] (.int x :: st) (S, I, R, z) Q = RB d 59 54 [l0, .int x, l2, l3] st (S, I, R, z) Q := RB_istoren rfl (Nat.le_of_ble_eq_true rfl) rfl
theorem w59_54 : RB d 59 54 [.ref a, l1, l2, l3] st (S, I, R, z) Q = RB d 59 55 [.ref a, l1, l2, l3] (.ref a :: st) (S, I, R, z) Q := RB_aloadn rfl rfl
theorem w59_55 : RB d 59 55 [l0, l1, l2, .int x] st (S, I, R, z) Q = RB d 59 56 [l0, l1, l2, .int x] (.int x :: st) (S, I, R, z) Q := RB_iloadn rfl rfl
theorem w59_56 : RB d 59 56 [l0, l1, l2, l3] (.int x :: st) (S, I, R, z) Q = RB d 59 57 [l0, l1, l2, l3] (.int (-x) :: st) (S, I, R, z) Q := RB_ineg rfl
theorem w59_57 : RB d 59 57 [l0, l1, l2, l3] [.int x0, .ref a] (S, I, R, z) Q = ((S a).1 = 3 ∧ RM d 55 [.ref a, .int x0] (S, I, R, z) (fun v τ => RB d 59 60 [l0, l1, l2, l3] (aPush v []) τ Q)) := RB_callV (n := 2) (t := 0) (k := 101) (ins := .invokevirtual 101) rfl rfl rfl (by decide) (Nat.le_of_ble_eq_true rfl) (Nat.le_of_ble_eq_true rfl) rfl rfl
theorem w59_60 : RB d 59 60 [l0, l1, .int x, l3] st (S, I, R, z) Q = RB d 59 63 [l0, l1, .int (x + 1), l3] st (S, I, R, z) Q := RB_iinc rfl rfl (Nat.le_of_ble_eq_true rfl) ki1 rfl
theorem w59_63 : RB d 59 63 [l0, l1, l2, l3] st (S, I, R, z) Q = RB d 59 7 [l0, l1, l2, l3] st (S, I, R, z) Q := RB_goto rfl (by decide) rfl
theorem w59_66 : RB d 59 66 [l0, .int x, l2, l3] st (S, I, R, z) Q = RB d 59 67 [l0, .int x, l2, l3] (.int x :: st) (S, I, R, z) Q := RB_iloadn rfl rfl
theorem w59_67 : RB d 59 67 [l0, l1, l2, l3] [.int x] (S, I, R, z) Q = (narrow .boolean (.int x) = .int x ∧ Q (some (.int x)) (S, I, R, z)) := RB_zret rfl rfl (Or.inl rfl)
/-! 60: HangedWord$Tape.readTerm -/
theorem w60_0 : RB d 60 0 [.ref a, l1, l2, l3] st (S, I, R, z) Q = RB d 60 1 [.ref a, l1, l2, l3] (.ref a :: st) (S, I, R, z) Q := RB_aloadn rfl rfl
theorem w60_1 : RB d 60 1 [l0, l1, l2, l3] [.ref a] (S, I, R, z) Q = ((S a).1 = 3 ∧ RM d 61 [.ref a] (S, I, R, z) (fun v τ => RB d 60 4 [l0, l1, l2, l3] (aPush v []) τ Q)) := RB_callV (n := 1) (t := 0) (k := 114) (ins := .invokevirtual 114) rfl rfl rfl (by decide) (Nat.le_of_ble_eq_true rfl) (Nat.le_of_ble_eq_true rfl) rfl rfl
theorem w60_4 : RB d 60 4 [l0, l1, l2, l3] (.int x :: st) (S, I, R, z) Q = RB d 60 5 [l0, .int x, l2, l3] st (S, I, R, z) Q := RB_istoren rfl (Nat.le_of_ble_eq_true rfl) rfl
theorem w60_5 : RB d 60 5 [l0, l1, l2, l3] st (S, I, R, z) Q = RB d 60 6 [l0, l1, l2, l3] (.int 0 :: st) (S, I, R, z) Q := RB_iconst rfl ki0
theorem w60_6 : RB d 60 6 [l0, l1, l2, l3] (.int x :: st) (S, I, R, z) Q = RB d 60 7 [l0, l1, .int x, l3] st (S, I, R, z) Q := RB_istoren rfl (Nat.le_of_ble_eq_true rfl) rfl
theorem w60_7 : RB d 60 7 [l0, l1, .int x, l3] st (S, I, R, z) Q = RB d 60 8 [l0, l1, .int x, l3] (.int x :: st) (S, I, R, z) Q := RB_iloadn rfl rfl
theorem w60_8 : RB d 60 8 [l0, l1, l2, l3] st (S, I, R, z) Q = RB d 60 10 [l0, l1, l2, l3] (.int 96 :: st) (S, I, R, z) Q := RB_bipush rfl kb96
theorem w60_10 : RB d 60 10 [l0, l1, l2, l3] (.int y :: .int x :: st) (S, I, R, z) Q = ((y ≤ x → RB d 60 66 [l0, l1, l2, l3] st (S, I, R, z) Q) ∧ (¬ y ≤ x → RB d 60 13 [l0, l1, l2, l3] st (S, I, R, z) Q)) := RB_ige rfl (by decide) rfl
theorem w60_13 : RB d 60 13 [l0, .int x, l2, l3] st (S, I, R, z) Q = RB d 60 14 [l0, .int x, l2, l3] (.int x :: st) (S, I, R, z) Q := RB_iloadn rfl rfl
theorem w60_14 : RB d 60 14 [l0, l1, l2, l3] (.int x :: st) (S, I, R, z) Q = ((x = 0 → RB d 60 66 [l0, l1, l2, l3] st (S, I, R, z) Q) ∧ (¬ x = 0 → RB d 60 17 [l0, l1, l2, l3] st (S, I, R, z) Q)) := RB_eq0 rfl (by decide) rfl
theorem w60_17 : RB d 60 17 [.ref a, l1, l2, l3] st (S, I, R, z) Q = RB d 60 18 [.ref a, l1, l2, l3] (.ref a :: st) (S, I, R, z) Q := RB_aloadn rfl rfl
theorem w60_18 : RB d 60 18 [l0, l1, l2, l3] st (S, I, R, z) Q = RB d 60 20 [l0, l1, l2, l3] (.int 42 :: st) (S, I, R, z) Q := RB_bipush rfl kb42
theorem w60_20 : RB d 60 20 [l0, l1, l2, l3] [.int x0, .ref a] (S, I, R, z) Q = ((S a).1 = 3 ∧ RM d 53 [.ref a, .int x0] (S, I, R, z) (fun v τ => RB d 60 23 [l0, l1, l2, l3] (aPush v []) τ Q)) := RB_callV (n := 2) (t := 0) (k := 97) (ins := .invokevirtual 97) rfl rfl rfl (by decide) (Nat.le_of_ble_eq_true rfl) (Nat.le_of_ble_eq_true rfl) rfl rfl
theorem w60_23 : RB d 60 23 [l0, l1, l2, l3] (.int x :: st) (S, I, R, z) Q = ((x = 0 → RB d 60 26 [l0, l1, l2, l3] st (S, I, R, z) Q) ∧ (¬ x = 0 → RB d 60 35 [l0, l1, l2, l3] st (S, I, R, z) Q)) := RB_ne0 rfl (by decide) rfl
theorem w60_26 : RB d 60 26 [.ref a, l1, l2, l3] st (S, I, R, z) Q = RB d 60 27 [.ref a, l1, l2, l3] (.ref a :: st) (S, I, R, z) Q := RB_aloadn rfl rfl
theorem w60_27 : RB d 60 27 [l0, l1, l2, l3] st (S, I, R, z) Q = RB d 60 29 [l0, l1, l2, l3] (.int 47 :: st) (S, I, R, z) Q := RB_bipush rfl kb47
theorem w60_29 : RB d 60 29 [l0, l1, l2, l3] [.int x0, .ref a] (S, I, R, z) Q = ((S a).1 = 3 ∧ RM d 53 [.ref a, .int x0] (S, I, R, z) (fun v τ => RB d 60 32 [l0, l1, l2, l3] (aPush v []) τ Q)) := RB_callV (n := 2) (t := 0) (k := 97) (ins := .invokevirtual 97) rfl rfl rfl (by decide) (Nat.le_of_ble_eq_true rfl) (Nat.le_of_ble_eq_true rfl) rfl rfl
theorem w60_32 : RB d 60 32 [l0, l1, l2, l3] (.int x :: st) (S, I, R, z) Q = ((x = 0 → RB d 60 66 [l0, l1, l2, l3] st (S, I, R, z) Q) ∧ (¬ x = 0 → RB d 60 35 [l0, l1, l2, l3] st (S, I, R, z) Q)) := RB_eq0 rfl (by decide) rfl
theorem w60_35 : RB d 60 35 [.ref a, l1, l2, l3] st (S, I, R, z) Q = RB d 60 36 [.ref a, l1, l2, l3] (.ref a :: st) (S, I, R, z) Q := RB_aloadn rfl rfl
theorem w60_36 : RB d 60 36 [l0, l1, l2, l3] (.ref a :: st) (S, I, R, z) Q = ((S a).1 = 3 ∧ RB d 60 39 [l0, l1, l2, l3] (va_rf (R a 0) :: st) (S, I, R, z) Q) := RB_getR rfl rfl
theorem w60_39 : RB d 60 39 [.ref a, l1, l2, l3] st (S, I, R, z) Q = RB d 60 40 [.ref a, l1, l2, l3] (.ref a :: st) (S, I, R, z) Q := RB_aloadn rfl rfl
theorem w60_40 : RB d 60 40 [l0, l1, l2, l3] (.ref a :: st) (S, I, R, z) Q = ((S a).1 = 3 ∧ RB d 60 43 [l0, l1, l2, l3] (.int (I a 2) :: st) (S, I, R, z) Q) := RB_getI rfl rfl
theorem w60_43 : RB d 60 43 [l0, l1, l2, l3] (.int i :: .ref a :: st) (S, I, R, z) Q = (((S a).1 = 9 ∧ aIx i (S a).2) ∧ RB d 60 44 [l0, l1, l2, l3] (.int (I a i.toNatClampNeg) :: st) (S, I, R, z) Q) := RB_iald rfl
theorem w60_44 : RB d 60 44 [l0, l1, l2, l3] (.int x :: st) (S, I, R, z) Q = RB d 60 45 [l0, l1, l2, .int x] st (S, I, R, z) Q := RB_istoren rfl (Nat.le_of_ble_eq_true rfl) rfl
theorem w60_45 : RB d 60 45 [.ref a, l1, l2, l3] st (S, I, R, z) Q = RB d 60 46 [.ref a, l1, l2, l3] (.ref a :: st) (S, I, R, z) Q := RB_aloadn rfl rfl
theorem w60_46 : RB d 60 46 [l0, l1, l2, l3] [.ref a] (S, I, R, z) Q = ((S a).1 = 3 ∧ RM d 51 [.ref a] (S, I, R, z) (fun v τ => RB d 60 49 [l0, l1, l2, l3] (aPush v []) τ Q)) := RB_callV (n := 1) (t := 0) (k := 50) (ins := .invokevirtual 50) rfl rfl rfl (by decide) (Nat.le_of_ble_eq_true rfl) (Nat.le_of_ble_eq_true rfl) rfl rfl
theorem w60_49 : RB d 60 49 [.ref a, l1, l2, l3] st (S, I, R, z) Q = RB d 60 50 [.ref a, l1, l2, l3] (.ref a :: st) (S, I, R, z) Q := RB_aloadn rfl rfl
theorem w60_50 : RB d 60 50 [l0, l1, l2, l3] [.ref a] (S, I, R, z) Q = ((S a).1 = 3 ∧ RM d 61 [.ref a] (S, I, R, z) (fun v τ => RB d 60 53 [l0, l1, l2, l3] (aPush v []) τ Q)) := RB_callV (n := 1) (t := 0) (k := 114) (ins := .invokevirtual 114) rfl rfl rfl (by decide) (Nat.le_of_ble_eq_true rfl) (Nat.le_of_ble_eq_true rfl) rfl rfl
theorem w60_53 : RB d 60 53 [l0, l1, l2, l3] (.int x :: st) (S, I, R, z) Q = RB d 60 54 [l0, .int x, l2, l3] st (S, I, R, z) Q := RB_istoren rfl (Nat.le_of_ble_eq_true rfl) rfl
theorem w60_54 : RB d 60 54 [.ref a, l1, l2, l3] st (S, I, R, z) Q = RB d 60 55 [.ref a, l1, l2, l3] (.ref a :: st) (S, I, R, z) Q := RB_aloadn rfl rfl
theorem w60_55 : RB d 60 55 [l0, l1, l2, .int x] st (S, I, R, z) Q = RB d 60 56 [l0, l1, l2, .int x] (.int x :: st) (S, I, R, z) Q := RB_iloadn rfl rfl
theorem w60_56 : RB d 60 56 [l0, l1, l2, l3] (.int x :: st) (S, I, R, z) Q = RB d 60 57 [l0, l1, l2, l3] (.int (-x) :: st) (S, I, R, z) Q := RB_ineg rfl
theorem w60_57 : RB d 60 57 [l0, l1, l2, l3] [.int x0, .ref a] (S, I, R, z) Q = ((S a).1 = 3 ∧ RM d 55 [.ref a, .int x0] (S, I, R, z) (fun v τ => RB d 60 60 [l0, l1, l2, l3] (aPush v []) τ Q)) := RB_callV (n := 2) (t := 0) (k := 101) (ins := .invokevirtual 101) rfl rfl rfl (by decide) (Nat.le_of_ble_eq_true rfl) (Nat.le_of_ble_eq_true rfl) rfl rfl
theorem w60_60 : RB d 60 60 [l0, l1, .int x, l3] st (S, I, R, z) Q = RB d 60 63 [l0, l1, .int (x + 1), l3] st (S, I, R, z) Q := RB_iinc rfl rfl (Nat.le_of_ble_eq_true rfl) ki1 rfl
theorem w60_63 : RB d 60 63 [l0, l1, l2, l3] st (S, I, R, z) Q = RB d 60 7 [l0, l1, l2, l3] st (S, I, R, z) Q := RB_goto rfl (by decide) rfl
theorem w60_66 : RB d 60 66 [l0, .int x, l2, l3] st (S, I, R, z) Q = RB d 60 67 [l0, .int x, l2, l3] (.int x :: st) (S, I, R, z) Q := RB_iloadn rfl rfl
theorem w60_67 : RB d 60 67 [l0, l1, l2, l3] [.int x] (S, I, R, z) Q = (narrow .boolean (.int x) = .int x ∧ Q (some (.int x)) (S, I, R, z)) := RB_zret rfl rfl (Or.inl rfl)
/-! 61: HangedWord$Tape.readPiece -/
theorem w61_0 : RB d 61 0 [.ref a] st (S, I, R, z) Q = RB d 61 1 [.ref a] (.ref a :: st) (S, I, R, z) Q := RB_aloadn rfl rfl
theorem w61_1 : RB d 61 1 [l0] (.ref a :: st) (S, I, R, z) Q = ((S a).1 = 3 ∧ RB d 61 4 [l0] (.int (I a 4) :: st) (S, I, R, z) Q) := RB_getI rfl rfl
theorem w61_4 : RB d 61 4 [l0] st (S, I, R, z) Q = RB d 61 5 [l0] (.int 2 :: st) (S, I, R, z) Q := RB_iconst rfl ki2
theorem w61_5 : RB d 61 5 [l0] (.int y :: .int x :: st) (S, I, R, z) Q = ((x = y → RB d 61 8 [l0] st (S, I, R, z) Q) ∧ (¬ x = y → RB d 61 13 [l0] st (S, I, R, z) Q)) := RB_ine rfl (by decide) rfl
theorem w61_8 : RB d 61 8 [.ref a] st (S, I, R, z) Q = RB d 61 9 [.ref a] (.ref a :: st) (S, I, R, z) Q := RB_aloadn rfl rfl
theorem w61_9 : RB d 61 9 [l0] [.ref a] (S, I, R, z) Q = ((S a).1 = 3 ∧ RM d 62 [.ref a] (S, I, R, z) (fun v τ => RB d 61 12 [l0] (aPush v []) τ Q)) := RB_callV (n := 1) (t := 0) (k := 117) (ins := .invokevirtual 117) rfl rfl rfl (by decide) (Nat.le_of_ble_eq_true rfl) (Nat.le_of_ble_eq_true rfl) rfl rfl
theorem w61_12 : RB d 61 12 [l0] [.int x] (S, I, R, z) Q = (narrow .boolean (.int x) = .int x ∧ Q (some (.int x)) (S, I, R, z)) := RB_zret rfl rfl (Or.inl rfl)
theorem w61_13 : RB d 61 13 [.ref a] st (S, I, R, z) Q = RB d 61 14 [.ref a] (.ref a :: st) (S, I, R, z) Q := RB_aloadn rfl rfl
theorem w61_14 : RB d 61 14 [l0] (.ref a :: st) (S, I, R, z) Q = ((S a).1 = 3 ∧ RB d 61 17 [l0] (.int (I a 4) :: st) (S, I, R, z) Q) := RB_getI rfl rfl
theorem w61_17 : RB d 61 17 [l0] st (S, I, R, z) Q = RB d 61 18 [l0] (.int 1 :: st) (S, I, R, z) Q := RB_iconst rfl ki1
theorem w61_18 : RB d 61 18 [l0] (.int y :: .int x :: st) (S, I, R, z) Q = ((x = y → RB d 61 21 [l0] st (S, I, R, z) Q) ∧ (¬ x = y → RB d 61 26 [l0] st (S, I, R, z) Q)) := RB_ine rfl (by decide) rfl
theorem w61_21 : RB d 61 21 [.ref a] st (S, I, R, z) Q = RB d 61 22 [.ref a] (.ref a :: st) (S, I, R, z) Q := RB_aloadn rfl rfl
theorem w61_22 : RB d 61 22 [l0] [.ref a] (S, I, R, z) Q = ((S a).1 = 3 ∧ RM d 63 [.ref a] (S, I, R, z) (fun v τ => RB d 61 25 [l0] (aPush v []) τ Q)) := RB_callV (n := 1) (t := 0) (k := 120) (ins := .invokevirtual 120) rfl rfl rfl (by decide) (Nat.le_of_ble_eq_true rfl) (Nat.le_of_ble_eq_true rfl) rfl rfl
theorem w61_25 : RB d 61 25 [l0] [.int x] (S, I, R, z) Q = (narrow .boolean (.int x) = .int x ∧ Q (some (.int x)) (S, I, R, z)) := RB_zret rfl rfl (Or.inl rfl)
theorem w61_26 : RB d 61 26 [.ref a] st (S, I, R, z) Q = RB d 61 27 [.ref a] (.ref a :: st) (S, I, R, z) Q := RB_aloadn rfl rfl
theorem w61_27 : RB d 61 27 [l0] st (S, I, R, z) Q = RB d 61 29 [l0] (.int 33 :: st) (S, I, R, z) Q := RB_bipush rfl kb33
theorem w61_29 : RB d 61 29 [l0] [.int x0, .ref a] (S, I, R, z) Q = ((S a).1 = 3 ∧ RM d 53 [.ref a, .int x0] (S, I, R, z) (fun v τ => RB d 61 32 [l0] (aPush v []) τ Q)) := RB_callV (n := 2) (t := 0) (k := 97) (ins := .invokevirtual 97) rfl rfl rfl (by decide) (Nat.le_of_ble_eq_true rfl) (Nat.le_of_ble_eq_true rfl) rfl rfl
theorem w61_32 : RB d 61 32 [l0] (.int x :: st) (S, I, R, z) Q = ((x = 0 → RB d 61 42 [l0] st (S, I, R, z) Q) ∧ (¬ x = 0 → RB d 61 35 [l0] st (S, I, R, z) Q)) := RB_eq0 rfl (by decide) rfl
theorem w61_35 : RB d 61 35 [.ref a] st (S, I, R, z) Q = RB d 61 36 [.ref a] (.ref a :: st) (S, I, R, z) Q := RB_aloadn rfl rfl
theorem w61_36 : RB d 61 36 [l0] [.ref a] (S, I, R, z) Q = ((S a).1 = 3 ∧ RM d 64 [.ref a] (S, I, R, z) (fun v τ => RB d 61 39 [l0] (aPush v []) τ Q)) := RB_callV (n := 1) (t := 0) (k := 123) (ins := .invokevirtual 123) rfl rfl rfl (by decide) (Nat.le_of_ble_eq_true rfl) (Nat.le_of_ble_eq_true rfl) rfl rfl
theorem w61_39 : RB d 61 39 [l0] st (S, I, R, z) Q = RB d 61 63 [l0] st (S, I, R, z) Q := RB_goto rfl (by decide) rfl
theorem w61_42 : RB d 61 42 [.ref a] st (S, I, R, z) Q = RB d 61 43 [.ref a] (.ref a :: st) (S, I, R, z) Q := RB_aloadn rfl rfl
theorem w61_43 : RB d 61 43 [l0] st (S, I, R, z) Q = RB d 61 45 [l0] (.int 40 :: st) (S, I, R, z) Q := RB_bipush rfl kb40
theorem w61_45 : RB d 61 45 [l0] [.int x0, .ref a] (S, I, R, z) Q = ((S a).1 = 3 ∧ RM d 53 [.ref a, .int x0] (S, I, R, z) (fun v τ => RB d 61 48 [l0] (aPush v []) τ Q)) := RB_callV (n := 2) (t := 0) (k := 97) (ins := .invokevirtual 97) rfl rfl rfl (by decide) (Nat.le_of_ble_eq_true rfl) (Nat.le_of_ble_eq_true rfl) rfl rfl
theorem w61_48 : RB d 61 48 [l0] (.int x :: st) (S, I, R, z) Q = ((x = 0 → RB d 61 62 [l0] st (S, I, R, z) Q) ∧ (¬ x = 0 → RB d 61 51 [l0] st (S, I, R, z) Q)) := RB_eq0 rfl (by decide) rfl
theorem w61_51 : RB d 61 51 [.ref a] st (S, I, R, z) Q = RB d 61 52 [.ref a] (.ref a :: st) (S, I, R, z) Q := RB_aloadn rfl rfl
theorem w61_52 : RB d 61 52 [l0] [.ref a] (S, I, R, z) Q = ((S a).1 = 3 ∧ RM d 65 [.ref a] (S, I, R, z) (fun v τ => RB d 61 55 [l0] (aPush v []) τ Q)) := RB_callV (n := 1) (t := 0) (k := 126) (ins := .invokevirtual 126) rfl rfl rfl (by decide) (Nat.le_of_ble_eq_true rfl) (Nat.le_of_ble_eq_true rfl) rfl rfl
theorem w61_55 : RB d 61 55 [l0] (.int x :: st) (S, I, R, z) Q = ((x = 0 → RB d 61 62 [l0] st (S, I, R, z) Q) ∧ (¬ x = 0 → RB d 61 58 [l0] st (S, I, R, z) Q)) := RB_eq0 rfl (by decide) rfl
theorem w61_58 : RB d 61 58 [l0] st (S, I, R, z) Q = RB d 61 59 [l0] (.int 1 :: st) (S, I, R, z) Q := RB_iconst rfl ki1
theorem w61_59 : RB d 61 59 [l0] st (S, I, R, z) Q = RB d 61 63 [l0] st (S, I, R, z) Q := RB_goto rfl (by decide) rfl
theorem w61_62 : RB d 61 62 [l0] st (S, I, R, z) Q = RB d 61 63 [l0] (.int 0 :: st) (S, I, R, z) Q := RB_iconst rfl ki0
theorem w61_63 : RB d 61 63 [l0] [.int x] (S, I, R, z) Q = (narrow .boolean (.int x) = .int x ∧ Q (some (.int x)) (S, I, R, z)) := RB_zret rfl rfl (Or.inl rfl)
/-! 62: HangedWord$Tape.readNumber -/
theorem w62_0 : RB d 62 0 [.ref a, l1, l2] st (S, I, R, z) Q = RB d 62 1 [.ref a, l1, l2] (.ref a :: st) (S, I, R, z) Q := RB_aloadn rfl rfl
theorem w62_1 : RB d 62 1 [l0, l1, l2] (.ref a :: st) (S, I, R, z) Q = ((S a).1 = 3 ∧ RB d 62 4 [l0, l1, l2] (.int (I a 5) :: st) (S, I, R, z) Q) := RB_getZ rfl rfl
theorem w62_4 : RB d 62 4 [l0, l1, l2] (.int x :: st) (S, I, R, z) Q = ((x = 0 → RB d 62 7 [l0, l1, l2] st (S, I, R, z) Q) ∧ (¬ x = 0 → RB d 62 20 [l0, l1, l2] st (S, I, R, z) Q)) := RB_ne0 rfl (by decide) rfl
theorem w62_7 : RB d 62 7 [.ref a, l1, l2] st (S, I, R, z) Q = RB d 62 8 [.ref a, l1, l2] (.ref a :: st) (S, I, R, z) Q := RB_aloadn rfl rfl
theorem w62_8 : RB d 62 8 [l0, l1, l2] (.ref a :: st) (S, I, R, z) Q = ((S a).1 = 3 ∧ RB d 62 11 [l0, l1, l2] (.int (I a 3) :: st) (S, I, R, z) Q) := RB_getI rfl rfl
theorem w62_11 : RB d 62 11 [.ref a, l1, l2] st (S, I, R, z) Q = RB d 62 12 [.ref a, l1, l2] (.ref a :: st) (S, I, R, z) Q := RB_aloadn rfl rfl
theorem w62_12 : RB d 62 12 [l0, l1, l2] (.ref a :: st) (S, I, R, z) Q = ((S a).1 = 3 ∧ RB d 62 15 [l0, l1, l2] (.int (I a 2) :: st) (S, I, R, z) Q) := RB_getI rfl rfl
theorem w62_15 : RB d 62 15 [l0, l1, l2] (.int y :: .int x :: st) (S, I, R, z) Q = RB d 62 16 [l0, l1, l2] (.int (x - y) :: st) (S, I, R, z) Q := RB_isub rfl
theorem w62_16 : RB d 62 16 [l0, l1, l2] st (S, I, R, z) Q = RB d 62 17 [l0, l1, l2] (.int 4 :: st) (S, I, R, z) Q := RB_iconst rfl ki4
theorem w62_17 : RB d 62 17 [l0, l1, l2] (.int y :: .int x :: st) (S, I, R, z) Q = ((x ≤ y → RB d 62 22 [l0, l1, l2] st (S, I, R, z) Q) ∧ (¬ x ≤ y → RB d 62 20 [l0, l1, l2] st (S, I, R, z) Q)) := RB_ile rfl (by decide) rfl
theorem w62_20 : RB d 62 20 [l0, l1, l2] st (S, I, R, z) Q = RB d 62 21 [l0, l1, l2] (.int 0 :: st) (S, I, R, z) Q := RB_iconst rfl ki0
theorem w62_21 : RB d 62 21 [l0, l1, l2] [.int x] (S, I, R, z) Q = (narrow .boolean (.int x) = .int x ∧ Q (some (.int x)) (S, I, R, z)) := RB_zret rfl rfl (Or.inl rfl)
theorem w62_22 : RB d 62 22 [l0, l1, l2] st (S, I, R, z) Q = RB d 62 23 [l0, l1, l2] (.int 0 :: st) (S, I, R, z) Q := RB_iconst rfl ki0
theorem w62_23 : RB d 62 23 [l0, l1, l2] (.int x :: st) (S, I, R, z) Q = RB d 62 24 [l0, .int x, l2] st (S, I, R, z) Q := RB_istoren rfl (Nat.le_of_ble_eq_true rfl) rfl
theorem w62_24 : RB d 62 24 [.ref a, l1, l2] st (S, I, R, z) Q = RB d 62 25 [.ref a, l1, l2] (.ref a :: st) (S, I, R, z) Q := RB_aloadn rfl rfl
theorem w62_25 : RB d 62 25 [l0, l1, l2] (.ref a :: st) (S, I, R, z) Q = ((S a).1 = 3 ∧ RB d 62 28 [l0, l1, l2] (.int (I a 2) :: st) (S, I, R, z) Q) := RB_getI rfl rfl
theorem w62_28 : RB d 62 28 [l0, l1, l2] (.int x :: st) (S, I, R, z) Q = RB d 62 29 [l0, l1, .int x] st (S, I, R, z) Q := RB_istoren rfl (Nat.le_of_ble_eq_true rfl) rfl
theorem w62_29 : RB d 62 29 [l0, l1, .int x] st (S, I, R, z) Q = RB d 62 30 [l0, l1, .int x] (.int x :: st) (S, I, R, z) Q := RB_iloadn rfl rfl
theorem w62_30 : RB d 62 30 [.ref a, l1, l2] st (S, I, R, z) Q = RB d 62 31 [.ref a, l1, l2] (.ref a :: st) (S, I, R, z) Q := RB_aloadn rfl rfl
theorem w62_31 : RB d 62 31 [l0, l1, l2] (.ref a :: st) (S, I, R, z) Q = ((S a).1 = 3 ∧ RB d 62 34 [l0, l1, l2] (.int (I a 3) :: st) (S, I, R, z) Q) := RB_getI rfl rfl
theorem w62_34 : RB d 62 34 [l0, l1, l2] (.int y :: .int x :: st) (S, I, R, z) Q = ((y ≤ x → RB d 62 58 [l0, l1, l2] st (S, I, R, z) Q) ∧ (¬ y ≤ x → RB d 62 37 [l0, l1, l2] st (S, I, R, z) Q)) := RB_ige rfl (by decide) rfl
theorem w62_37 : RB d 62 37 [l0, .int x, l2] st (S, I, R, z) Q = RB d 62 38 [l0, .int x, l2] (.int x :: st) (S, I, R, z) Q := RB_iloadn rfl rfl
theorem w62_38 : RB d 62 38 [l0, l1, l2] st (S, I, R, z) Q = RB d 62 40 [l0, l1, l2] (.int 10 :: st) (S, I, R, z) Q := RB_bipush rfl kb10
theorem w62_40 : RB d 62 40 [l0, l1, l2] (.int y :: .int x :: st) (S, I, R, z) Q = RB d 62 41 [l0, l1, l2] (.int (x * y) :: st) (S, I, R, z) Q := RB_imul rfl
theorem w62_41 : RB d 62 41 [.ref a, l1, l2] st (S, I, R, z) Q = RB d 62 42 [.ref a, l1, l2] (.ref a :: st) (S, I, R, z) Q := RB_aloadn rfl rfl
theorem w62_42 : RB d 62 42 [l0, l1, l2] (.ref a :: st) (S, I, R, z) Q = ((S a).1 = 3 ∧ RB d 62 45 [l0, l1, l2] (va_rf (R a 0) :: st) (S, I, R, z) Q) := RB_getR rfl rfl
theorem w62_45 : RB d 62 45 [l0, l1, .int x] st (S, I, R, z) Q = RB d 62 46 [l0, l1, .int x] (.int x :: st) (S, I, R, z) Q := RB_iloadn rfl rfl
theorem w62_46 : RB d 62 46 [l0, l1, l2] (.int i :: .ref a :: st) (S, I, R, z) Q = (((S a).1 = 9 ∧ aIx i (S a).2) ∧ RB d 62 47 [l0, l1, l2] (.int (I a i.toNatClampNeg) :: st) (S, I, R, z) Q) := RB_iald rfl
theorem w62_47 : RB d 62 47 [l0, l1, l2] (.int y :: .int x :: st) (S, I, R, z) Q = RB d 62 48 [l0, l1, l2] (.int (x + y) :: st) (S, I, R, z) Q := RB_iadd rfl
theorem w62_48 : RB d 62 48 [l0, l1, l2] st (S, I, R, z) Q = RB d 62 50 [l0, l1, l2] (.int 48 :: st) (S, I, R, z) Q := RB_bipush rfl kb48
theorem w62_50 : RB d 62 50 [l0, l1, l2] (.int y :: .int x :: st) (S, I, R, z) Q = RB d 62 51 [l0, l1, l2] (.int (x - y) :: st) (S, I, R, z) Q := RB_isub rfl
theorem w62_51 : RB d 62 51 [l0, l1, l2] (.int x :: st) (S, I, R, z) Q = RB d 62 52 [l0, .int x, l2] st (S, I, R, z) Q := RB_istoren rfl (Nat.le_of_ble_eq_true rfl) rfl
theorem w62_52 : RB d 62 52 [l0, l1, .int x] st (S, I, R, z) Q = RB d 62 55 [l0, l1, .int (x + 1)] st (S, I, R, z) Q := RB_iinc rfl rfl (Nat.le_of_ble_eq_true rfl) ki1 rfl
theorem w62_55 : RB d 62 55 [l0, l1, l2] st (S, I, R, z) Q = RB d 62 29 [l0, l1, l2] st (S, I, R, z) Q := RB_goto rfl (by decide) rfl
theorem w62_58 : RB d 62 58 [.ref a, l1, l2] st (S, I, R, z) Q = RB d 62 59 [.ref a, l1, l2] (.ref a :: st) (S, I, R, z) Q := RB_aloadn rfl rfl
theorem w62_59 : RB d 62 59 [l0, .int x, l2] st (S, I, R, z) Q = RB d 62 60 [l0, .int x, l2] (.int x :: st) (S, I, R, z) Q := RB_iloadn rfl rfl
theorem w62_60 : RB d 62 60 [l0, l1, l2] [.int x0, .ref a] (S, I, R, z) Q = ((S a).1 = 3 ∧ RM d 55 [.ref a, .int x0] (S, I, R, z) (fun v τ => RB d 62 63 [l0, l1, l2] (aPush v []) τ Q)) := RB_callV (n := 2) (t := 0) (k := 101) (ins := .invokevirtual 101) rfl rfl rfl (by decide) (Nat.le_of_ble_eq_true rfl) (Nat.le_of_ble_eq_true rfl) rfl rfl
theorem w62_63 : RB d 62 63 [.ref a, l1, l2] st (S, I, R, z) Q = RB d 62 64 [.ref a, l1, l2] (.ref a :: st) (S, I, R, z) Q := RB_aloadn rfl rfl
theorem w62_64 : RB d 62 64 [l0, l1, l2] (v :: st) (S, I, R, z) Q = RB d 62 65 [l0, l1, l2] (v :: v :: st) (S, I, R, z) Q := RB_dup rfl
theorem w62_65 : RB d 62 65 [l0, l1, l2] (.ref a :: st) (S, I, R, z) Q = ((S a).1 = 3 ∧ RB d 62 68 [l0, l1, l2] (.int (I a 9) :: st) (S, I, R, z) Q) := RB_getI rfl rfl
theorem w62_68 : RB d 62 68 [l0, l1, l2] st (S, I, R, z) Q = RB d 62 69 [l0, l1, l2] (.int 1 :: st) (S, I, R, z) Q := RB_iconst rfl ki1
theorem w62_69 : RB d 62 69 [l0, l1, l2] (.int y :: .int x :: st) (S, I, R, z) Q = RB d 62 70 [l0, l1, l2] (.int (x + y) :: st) (S, I, R, z) Q := RB_iadd rfl
theorem w62_70 : RB d 62 70 [l0, l1, l2] (.int x :: .ref a :: st) (S, I, R, z) Q = (((S a).1 = 3 ∧ 3 < 8 ∧ 16 ≤ a) ∧ RB d 62 73 [l0, l1, l2] st (S, aW I a 9 x, R, z) Q) := RB_putI rfl rfl (Or.inl rfl)
theorem w62_73 : RB d 62 73 [.ref a, l1, l2] st (S, I, R, z) Q = RB d 62 74 [.ref a, l1, l2] (.ref a :: st) (S, I, R, z) Q := RB_aloadn rfl rfl
theorem w62_74 : RB d 62 74 [l0, l1, l2] [.ref a] (S, I, R, z) Q = ((S a).1 = 3 ∧ RM d 51 [.ref a] (S, I, R, z) (fun v τ => RB d 62 77 [l0, l1, l2] (aPush v []) τ Q)) := RB_callV (n := 1) (t := 0) (k := 50) (ins := .invokevirtual 50) rfl rfl rfl (by decide) (Nat.le_of_ble_eq_true rfl) (Nat.le_of_ble_eq_true rfl) rfl rfl
theorem w62_77 : RB d 62 77 [l0, l1, l2] st (S, I, R, z) Q = RB d 62 78 [l0, l1, l2] (.int 1 :: st) (S, I, R, z) Q := RB_iconst rfl ki1
theorem w62_78 : RB d 62 78 [l0, l1, l2] [.int x] (S, I, R, z) Q = (narrow .boolean (.int x) = .int x ∧ Q (some (.int x)) (S, I, R, z)) := RB_zret rfl rfl (Or.inl rfl)
/-! 63: HangedWord$Tape.readName -/
theorem w63_0 : RB d 63 0 [.ref a, l1] st (S, I, R, z) Q = RB d 63 1 [.ref a, l1] (.ref a :: st) (S, I, R, z) Q := RB_aloadn rfl rfl
theorem w63_1 : RB d 63 1 [l0, l1] [.ref a] (S, I, R, z) Q = ((S a).1 = 3 ∧ RM d 50 [.ref a] (S, I, R, z) (fun v τ => RB d 63 4 [l0, l1] (aPush v []) τ Q)) := RB_callV (n := 1) (t := 0) (k := 129) (ins := .invokevirtual 129) rfl rfl rfl (by decide) (Nat.le_of_ble_eq_true rfl) (Nat.le_of_ble_eq_true rfl) rfl rfl
theorem w63_4 : RB d 63 4 [.ref a, l1] st (S, I, R, z) Q = RB d 63 5 [.ref a, l1] (.ref a :: st) (S, I, R, z) Q := RB_aloadn rfl rfl
theorem w63_5 : RB d 63 5 [l0, l1] (.ref a :: st) (S, I, R, z) Q = ((S a).1 = 3 ∧ RB d 63 8 [l0, l1] (va_rf (R a 0) :: st) (S, I, R, z) Q) := RB_getR rfl rfl
theorem w63_8 : RB d 63 8 [.ref a, l1] st (S, I, R, z) Q = RB d 63 9 [.ref a, l1] (.ref a :: st) (S, I, R, z) Q := RB_aloadn rfl rfl
theorem w63_9 : RB d 63 9 [l0, l1] (.ref a :: st) (S, I, R, z) Q = ((S a).1 = 3 ∧ RB d 63 12 [l0, l1] (.int (I a 2) :: st) (S, I, R, z) Q) := RB_getI rfl rfl
theorem w63_12 : RB d 63 12 [l0, l1] (.int i :: .ref a :: st) (S, I, R, z) Q = (((S a).1 = 9 ∧ aIx i (S a).2) ∧ RB d 63 13 [l0, l1] (.int (I a i.toNatClampNeg) :: st) (S, I, R, z) Q) := RB_iald rfl
theorem w63_13 : RB d 63 13 [l0, l1] (.int x :: st) (S, I, R, z) Q = RB d 63 14 [l0, l1] (.int ((x.toUInt32 % 65536).toInt32) :: st) (S, I, R, z) Q := RB_i2c rfl
theorem w63_14 : RB d 63 14 [l0, l1] [.int x0, .ref a] (S, I, R, z) Q = ((S a).1 = 14 ∧ RM d 240 [.ref a, .int x0] (S, I, R, z) (fun v τ => RB d 63 17 [l0, l1] (aPush v []) τ Q)) := RB_callV (n := 2) (t := 0) (k := 133) (ins := .invokevirtual 133) rfl rfl rfl (by decide) (Nat.le_of_ble_eq_true rfl) (Nat.le_of_ble_eq_true rfl) rfl rfl
theorem w63_17 : RB d 63 17 [l0, l1] (.int x :: st) (S, I, R, z) Q = RB d 63 18 [l0, .int x] st (S, I, R, z) Q := RB_istoren rfl (Nat.le_of_ble_eq_true rfl) rfl
theorem w63_18 : RB d 63 18 [.ref a, l1] st (S, I, R, z) Q = RB d 63 19 [.ref a, l1] (.ref a :: st) (S, I, R, z) Q := RB_aloadn rfl rfl
theorem w63_19 : RB d 63 19 [l0, l1] (.ref a :: st) (S, I, R, z) Q = ((S a).1 = 3 ∧ RB d 63 22 [l0, l1] (.int (I a 5) :: st) (S, I, R, z) Q) := RB_getZ rfl rfl
theorem w63_22 : RB d 63 22 [l0, l1] (.int x :: st) (S, I, R, z) Q = ((x = 0 → RB d 63 25 [l0, l1] st (S, I, R, z) Q) ∧ (¬ x = 0 → RB d 63 42 [l0, l1] st (S, I, R, z) Q)) := RB_ne0 rfl (by decide) rfl
theorem w63_25 : RB d 63 25 [.ref a, l1] st (S, I, R, z) Q = RB d 63 26 [.ref a, l1] (.ref a :: st) (S, I, R, z) Q := RB_aloadn rfl rfl
theorem w63_26 : RB d 63 26 [l0, l1] (.ref a :: st) (S, I, R, z) Q = ((S a).1 = 3 ∧ RB d 63 29 [l0, l1] (.int (I a 3) :: st) (S, I, R, z) Q) := RB_getI rfl rfl
theorem w63_29 : RB d 63 29 [.ref a, l1] st (S, I, R, z) Q = RB d 63 30 [.ref a, l1] (.ref a :: st) (S, I, R, z) Q := RB_aloadn rfl rfl
theorem w63_30 : RB d 63 30 [l0, l1] (.ref a :: st) (S, I, R, z) Q = ((S a).1 = 3 ∧ RB d 63 33 [l0, l1] (.int (I a 2) :: st) (S, I, R, z) Q) := RB_getI rfl rfl
theorem w63_33 : RB d 63 33 [l0, l1] (.int y :: .int x :: st) (S, I, R, z) Q = RB d 63 34 [l0, l1] (.int (x - y) :: st) (S, I, R, z) Q := RB_isub rfl
theorem w63_34 : RB d 63 34 [l0, l1] st (S, I, R, z) Q = RB d 63 35 [l0, l1] (.int 1 :: st) (S, I, R, z) Q := RB_iconst rfl ki1
theorem w63_35 : RB d 63 35 [l0, l1] (.int y :: .int x :: st) (S, I, R, z) Q = ((x = y → RB d 63 38 [l0, l1] st (S, I, R, z) Q) ∧ (¬ x = y → RB d 63 42 [l0, l1] st (S, I, R, z) Q)) := RB_ine rfl (by decide) rfl
theorem w63_38 : RB d 63 38 [l0, .int x] st (S, I, R, z) Q = RB d 63 39 [l0, .int x] (.int x :: st) (S, I, R, z) Q := RB_iloadn rfl rfl
theorem w63_39 : RB d 63 39 [l0, l1] (.int x :: st) (S, I, R, z) Q = ((0 ≤ x → RB d 63 44 [l0, l1] st (S, I, R, z) Q) ∧ (¬ 0 ≤ x → RB d 63 42 [l0, l1] st (S, I, R, z) Q)) := RB_ge0 rfl (by decide) rfl
theorem w63_42 : RB d 63 42 [l0, l1] st (S, I, R, z) Q = RB d 63 43 [l0, l1] (.int 0 :: st) (S, I, R, z) Q := RB_iconst rfl ki0
theorem w63_43 : RB d 63 43 [l0, l1] [.int x] (S, I, R, z) Q = (narrow .boolean (.int x) = .int x ∧ Q (some (.int x)) (S, I, R, z)) := RB_zret rfl rfl (Or.inl rfl)
theorem w63_44 : RB d 63 44 [.ref a, l1] st (S, I, R, z) Q = RB d 63 45 [.ref a, l1] (.ref a :: st) (S, I, R, z) Q := RB_aloadn rfl rfl
theorem w63_45 : RB d 63 45 [l0, l1] st (S, I, R, z) Q = RB d 63 46 [l0, l1] (.int (-1) :: st) (S, I, R, z) Q := RB_iconst rfl kim1
theorem w63_46 : RB d 63 46 [l0, .int x] st (S, I, R, z) Q = RB d 63 47 [l0, .int x] (.int x :: st) (S, I, R, z) Q := RB_iloadn rfl rfl
theorem w63_47 : RB d 63 47 [l0, l1] (.int y :: .int x :: st) (S, I, R, z) Q = RB d 63 48 [l0, l1] (.int (x - y) :: st) (S, I, R, z) Q := RB_isub rfl
theorem w63_48 : RB d 63 48 [l0, l1] [.int x0, .ref a] (S, I, R, z) Q = ((S a).1 = 3 ∧ RM d 55 [.ref a, .int x0] (S, I, R, z) (fun v τ => RB d 63 51 [l0, l1] (aPush v []) τ Q)) := RB_callV (n := 2) (t := 0) (k := 101) (ins := .invokevirtual 101) rfl rfl rfl (by decide) (Nat.le_of_ble_eq_true rfl) (Nat.le_of_ble_eq_true rfl) rfl rfl
theorem w63_51 : RB d 63 51 [.ref a, l1] st (S, I, R, z) Q = RB d 63 52 [.ref a, l1] (.ref a :: st) (S, I, R, z) Q := RB_aloadn rfl rfl
theorem w63_52 : RB d 63 52 [l0, l1] (v :: st) (S, I, R, z) Q = RB d 63 53 [l0, l1] (v :: v :: st) (S, I, R, z) Q := RB_dup rfl
theorem w63_53 : RB d 63 53 [l0, l1] (.ref a :: st) (S, I, R, z) Q = ((S a).1 = 3 ∧ RB d 63 56 [l0, l1] (.int (I a 9) :: st) (S, I, R, z) Q) := RB_getI rfl rfl
theorem w63_56 : RB d 63 56 [l0, l1] st (S, I, R, z) Q = RB d 63 57 [l0, l1] (.int 1 :: st) (S, I, R, z) Q := RB_iconst rfl ki1
theorem w63_57 : RB d 63 57 [l0, l1] (.int y :: .int x :: st) (S, I, R, z) Q = RB d 63 58 [l0, l1] (.int (x + y) :: st) (S, I, R, z) Q := RB_iadd rfl
theorem w63_58 : RB d 63 58 [l0, l1] (.int x :: .ref a :: st) (S, I, R, z) Q = (((S a).1 = 3 ∧ 3 < 8 ∧ 16 ≤ a) ∧ RB d 63 61 [l0, l1] st (S, aW I a 9 x, R, z) Q) := RB_putI rfl rfl (Or.inl rfl)
theorem w63_61 : RB d 63 61 [.ref a, l1] st (S, I, R, z) Q = RB d 63 62 [.ref a, l1] (.ref a :: st) (S, I, R, z) Q := RB_aloadn rfl rfl
theorem w63_62 : RB d 63 62 [l0, l1] [.ref a] (S, I, R, z) Q = ((S a).1 = 3 ∧ RM d 51 [.ref a] (S, I, R, z) (fun v τ => RB d 63 65 [l0, l1] (aPush v []) τ Q)) := RB_callV (n := 1) (t := 0) (k := 50) (ins := .invokevirtual 50) rfl rfl rfl (by decide) (Nat.le_of_ble_eq_true rfl) (Nat.le_of_ble_eq_true rfl) rfl rfl
theorem w63_65 : RB d 63 65 [l0, l1] st (S, I, R, z) Q = RB d 63 66 [l0, l1] (.int 1 :: st) (S, I, R, z) Q := RB_iconst rfl ki1
theorem w63_66 : RB d 63 66 [l0, l1] [.int x] (S, I, R, z) Q = (narrow .boolean (.int x) = .int x ∧ Q (some (.int x)) (S, I, R, z)) := RB_zret rfl rfl (Or.inl rfl)
/-! 64: HangedWord$Tape.readNot -/
theorem w64_0 : RB d 64 0 [.ref a, l1] st (S, I, R, z) Q = RB d 64 1 [.ref a, l1] (.ref a :: st) (S, I, R, z) Q := RB_aloadn rfl rfl
theorem w64_1 : RB d 64 1 [l0, l1] (.ref a :: st) (S, I, R, z) Q = ((S a).1 = 3 ∧ RB d 64 4 [l0, l1] (.int (I a 11) :: st) (S, I, R, z) Q) := RB_getI rfl rfl
theorem w64_4 : RB d 64 4 [l0, l1] st (S, I, R, z) Q = RB d 64 6 [l0, l1] (.int 8 :: st) (S, I, R, z) Q := RB_bipush rfl kb8
theorem w64_6 : RB d 64 6 [l0, l1] (.int y :: .int x :: st) (S, I, R, z) Q = ((x < y → RB d 64 11 [l0, l1] st (S, I, R, z) Q) ∧ (¬ x < y → RB d 64 9 [l0, l1] st (S, I, R, z) Q)) := RB_ilt rfl (by decide) rfl
theorem w64_9 : RB d 64 9 [l0, l1] st (S, I, R, z) Q = RB d 64 10 [l0, l1] (.int 0 :: st) (S, I, R, z) Q := RB_iconst rfl ki0
theorem w64_10 : RB d 64 10 [l0, l1] [.int x] (S, I, R, z) Q = (narrow .boolean (.int x) = .int x ∧ Q (some (.int x)) (S, I, R, z)) := RB_zret rfl rfl (Or.inl rfl)
theorem w64_11 : RB d 64 11 [.ref a, l1] st (S, I, R, z) Q = RB d 64 12 [.ref a, l1] (.ref a :: st) (S, I, R, z) Q := RB_aloadn rfl rfl
theorem w64_12 : RB d 64 12 [l0, l1] (v :: st) (S, I, R, z) Q = RB d 64 13 [l0, l1] (v :: v :: st) (S, I, R, z) Q := RB_dup rfl
theorem w64_13 : RB d 64 13 [l0, l1] (.ref a :: st) (S, I, R, z) Q = ((S a).1 = 3 ∧ RB d 64 16 [l0, l1] (.int (I a 11) :: st) (S, I, R, z) Q) := RB_getI rfl rfl
theorem w64_16 : RB d 64 16 [l0, l1] st (S, I, R, z) Q = RB d 64 17 [l0, l1] (.int 1 :: st) (S, I, R, z) Q := RB_iconst rfl ki1
theorem w64_17 : RB d 64 17 [l0, l1] (.int y :: .int x :: st) (S, I, R, z) Q = RB d 64 18 [l0, l1] (.int (x + y) :: st) (S, I, R, z) Q := RB_iadd rfl
theorem w64_18 : RB d 64 18 [l0, l1] (.int x :: .ref a :: st) (S, I, R, z) Q = (((S a).1 = 3 ∧ 3 < 8 ∧ 16 ≤ a) ∧ RB d 64 21 [l0, l1] st (S, aW I a 11 x, R, z) Q) := RB_putI rfl rfl (Or.inl rfl)
theorem w64_21 : RB d 64 21 [.ref a, l1] st (S, I, R, z) Q = RB d 64 22 [.ref a, l1] (.ref a :: st) (S, I, R, z) Q := RB_aloadn rfl rfl
theorem w64_22 : RB d 64 22 [l0, l1] [.ref a] (S, I, R, z) Q = ((S a).1 = 3 ∧ RM d 51 [.ref a] (S, I, R, z) (fun v τ => RB d 64 25 [l0, l1] (aPush v []) τ Q)) := RB_callV (n := 1) (t := 0) (k := 50) (ins := .invokevirtual 50) rfl rfl rfl (by decide) (Nat.le_of_ble_eq_true rfl) (Nat.le_of_ble_eq_true rfl) rfl rfl
theorem w64_25 : RB d 64 25 [.ref a, l1] st (S, I, R, z) Q = RB d 64 26 [.ref a, l1] (.ref a :: st) (S, I, R, z) Q := RB_aloadn rfl rfl
theorem w64_26 : RB d 64 26 [l0, l1] [.ref a] (S, I, R, z) Q = ((S a).1 = 3 ∧ RM d 61 [.ref a] (S, I, R, z) (fun v τ => RB d 64 29 [l0, l1] (aPush v []) τ Q)) := RB_callV (n := 1) (t := 0) (k := 114) (ins := .invokevirtual 114) rfl rfl rfl (by decide) (Nat.le_of_ble_eq_true rfl) (Nat.le_of_ble_eq_true rfl) rfl rfl
theorem w64_29 : RB d 64 29 [l0, l1] (.int x :: st) (S, I, R, z) Q = RB d 64 30 [l0, .int x] st (S, I, R, z) Q := RB_istoren rfl (Nat.le_of_ble_eq_true rfl) rfl
theorem w64_30 : RB d 64 30 [.ref a, l1] st (S, I, R, z) Q = RB d 64 31 [.ref a, l1] (.ref a :: st) (S, I, R, z) Q := RB_aloadn rfl rfl
theorem w64_31 : RB d 64 31 [l0, l1] (v :: st) (S, I, R, z) Q = RB d 64 32 [l0, l1] (v :: v :: st) (S, I, R, z) Q := RB_dup rfl
theorem w64_32 : RB d 64 32 [l0, l1] (.ref a :: st) (S, I, R, z) Q = ((S a).1 = 3 ∧ RB d 64 35 [l0, l1] (.int (I a 11) :: st) (S, I, R, z) Q) := RB_getI rfl rfl
theorem w64_35 : RB d 64 35 [l0, l1] st (S, I, R, z) Q = RB d 64 36 [l0, l1] (.int 1 :: st) (S, I, R, z) Q := RB_iconst rfl ki1
theorem w64_36 : RB d 64 36 [l0, l1] (.int y :: .int x :: st) (S, I, R, z) Q = RB d 64 37 [l0, l1] (.int (x - y) :: st) (S, I, R, z) Q := RB_isub rfl
theorem w64_37 : RB d 64 37 [l0, l1] (.int x :: .ref a :: st) (S, I, R, z) Q = (((S a).1 = 3 ∧ 3 < 8 ∧ 16 ≤ a) ∧ RB d 64 40 [l0, l1] st (S, aW I a 11 x, R, z) Q) := RB_putI rfl rfl (Or.inl rfl)
theorem w64_40 : RB d 64 40 [.ref a, l1] st (S, I, R, z) Q = RB d 64 41 [.ref a, l1] (.ref a :: st) (S, I, R, z) Q := RB_aloadn rfl rfl
theorem w64_41 : RB d 64 41 [l0, l1] st (S, I, R, z) Q = RB d 64 43 [l0, l1] (.int (-33) :: st) (S, I, R, z) Q := RB_bipush rfl kbm33
theorem w64_43 : RB d 64 43 [l0, l1] [.int x0, .ref a] (S, I, R, z) Q = ((S a).1 = 3 ∧ RM d 55 [.ref a, .int x0] (S, I, R, z) (fun v τ => RB d 64 46 [l0, l1] (aPush v []) τ Q)) := RB_callV (n := 2) (t := 0) (k := 101) (ins := .invokevirtual 101) rfl rfl rfl (by decide) (Nat.le_of_ble_eq_true rfl) (Nat.le_of_ble_eq_true rfl) rfl rfl
theorem w64_46 : RB d 64 46 [l0, .int x] st (S, I, R, z) Q = RB d 64 47 [l0, .int x] (.int x :: st) (S, I, R, z) Q := RB_iloadn rfl rfl
theorem w64_47 : RB d 64 47 [l0, l1] [.int x] (S, I, R, z) Q = (narrow .boolean (.int x) = .int x ∧ Q (some (.int x)) (S, I, R, z)) := RB_zret rfl rfl (Or.inl rfl)
/-! 65: HangedWord$Tape.readBracket -/
theorem w65_0 : RB d 65 0 [.ref a, l1] st (S, I, R, z) Q = RB d 65 1 [.ref a, l1] (.ref a :: st) (S, I, R, z) Q := RB_aloadn rfl rfl
theorem w65_1 : RB d 65 1 [l0, l1] (.ref a :: st) (S, I, R, z) Q = ((S a).1 = 3 ∧ RB d 65 4 [l0, l1] (.int (I a 10) :: st) (S, I, R, z) Q) := RB_getI rfl rfl
theorem w65_4 : RB d 65 4 [l0, l1] st (S, I, R, z) Q = RB d 65 6 [l0, l1] (.int 8 :: st) (S, I, R, z) Q := RB_bipush rfl kb8
theorem w65_6 : RB d 65 6 [l0, l1] (.int y :: .int x :: st) (S, I, R, z) Q = ((x < y → RB d 65 11 [l0, l1] st (S, I, R, z) Q) ∧ (¬ x < y → RB d 65 9 [l0, l1] st (S, I, R, z) Q)) := RB_ilt rfl (by decide) rfl
theorem w65_9 : RB d 65 9 [l0, l1] st (S, I, R, z) Q = RB d 65 10 [l0, l1] (.int 0 :: st) (S, I, R, z) Q := RB_iconst rfl ki0
theorem w65_10 : RB d 65 10 [l0, l1] [.int x] (S, I, R, z) Q = (narrow .boolean (.int x) = .int x ∧ Q (some (.int x)) (S, I, R, z)) := RB_zret rfl rfl (Or.inl rfl)
theorem w65_11 : RB d 65 11 [.ref a, l1] st (S, I, R, z) Q = RB d 65 12 [.ref a, l1] (.ref a :: st) (S, I, R, z) Q := RB_aloadn rfl rfl
theorem w65_12 : RB d 65 12 [l0, l1] (v :: st) (S, I, R, z) Q = RB d 65 13 [l0, l1] (v :: v :: st) (S, I, R, z) Q := RB_dup rfl
theorem w65_13 : RB d 65 13 [l0, l1] (.ref a :: st) (S, I, R, z) Q = ((S a).1 = 3 ∧ RB d 65 16 [l0, l1] (.int (I a 10) :: st) (S, I, R, z) Q) := RB_getI rfl rfl
theorem w65_16 : RB d 65 16 [l0, l1] st (S, I, R, z) Q = RB d 65 17 [l0, l1] (.int 1 :: st) (S, I, R, z) Q := RB_iconst rfl ki1
theorem w65_17 : RB d 65 17 [l0, l1] (.int y :: .int x :: st) (S, I, R, z) Q = RB d 65 18 [l0, l1] (.int (x + y) :: st) (S, I, R, z) Q := RB_iadd rfl
theorem w65_18 : RB d 65 18 [l0, l1] (.int x :: .ref a :: st) (S, I, R, z) Q = (((S a).1 = 3 ∧ 3 < 8 ∧ 16 ≤ a) ∧ RB d 65 21 [l0, l1] st (S, aW I a 10 x, R, z) Q) := RB_putI rfl rfl (Or.inl rfl)
theorem w65_21 : RB d 65 21 [.ref a, l1] st (S, I, R, z) Q = RB d 65 22 [.ref a, l1] (.ref a :: st) (S, I, R, z) Q := RB_aloadn rfl rfl
theorem w65_22 : RB d 65 22 [l0, l1] [.ref a] (S, I, R, z) Q = ((S a).1 = 3 ∧ RM d 51 [.ref a] (S, I, R, z) (fun v τ => RB d 65 25 [l0, l1] (aPush v []) τ Q)) := RB_callV (n := 1) (t := 0) (k := 50) (ins := .invokevirtual 50) rfl rfl rfl (by decide) (Nat.le_of_ble_eq_true rfl) (Nat.le_of_ble_eq_true rfl) rfl rfl
theorem w65_25 : RB d 65 25 [.ref a, l1] st (S, I, R, z) Q = RB d 65 26 [.ref a, l1] (.ref a :: st) (S, I, R, z) Q := RB_aloadn rfl rfl
theorem w65_26 : RB d 65 26 [l0, l1] [.ref a] (S, I, R, z) Q = ((S a).1 = 3 ∧ RM d 56 [.ref a] (S, I, R, z) (fun v τ => RB d 65 29 [l0, l1] (aPush v []) τ Q)) := RB_callV (n := 1) (t := 0) (k := 57) (ins := .invokevirtual 57) rfl rfl rfl (by decide) (Nat.le_of_ble_eq_true rfl) (Nat.le_of_ble_eq_true rfl) rfl rfl
theorem w65_29 : RB d 65 29 [l0, l1] (.int x :: st) (S, I, R, z) Q = ((x = 0 → RB d 65 45 [l0, l1] st (S, I, R, z) Q) ∧ (¬ x = 0 → RB d 65 32 [l0, l1] st (S, I, R, z) Q)) := RB_eq0 rfl (by decide) rfl
theorem w65_32 : RB d 65 32 [.ref a, l1] st (S, I, R, z) Q = RB d 65 33 [.ref a, l1] (.ref a :: st) (S, I, R, z) Q := RB_aloadn rfl rfl
theorem w65_33 : RB d 65 33 [l0, l1] st (S, I, R, z) Q = RB d 65 35 [l0, l1] (.int 41 :: st) (S, I, R, z) Q := RB_bipush rfl kb41
theorem w65_35 : RB d 65 35 [l0, l1] [.int x0, .ref a] (S, I, R, z) Q = ((S a).1 = 3 ∧ RM d 53 [.ref a, .int x0] (S, I, R, z) (fun v τ => RB d 65 38 [l0, l1] (aPush v []) τ Q)) := RB_callV (n := 2) (t := 0) (k := 97) (ins := .invokevirtual 97) rfl rfl rfl (by decide) (Nat.le_of_ble_eq_true rfl) (Nat.le_of_ble_eq_true rfl) rfl rfl
theorem w65_38 : RB d 65 38 [l0, l1] (.int x :: st) (S, I, R, z) Q = ((x = 0 → RB d 65 45 [l0, l1] st (S, I, R, z) Q) ∧ (¬ x = 0 → RB d 65 41 [l0, l1] st (S, I, R, z) Q)) := RB_eq0 rfl (by decide) rfl
theorem w65_41 : RB d 65 41 [l0, l1] st (S, I, R, z) Q = RB d 65 42 [l0, l1] (.int 1 :: st) (S, I, R, z) Q := RB_iconst rfl ki1
theorem w65_42 : RB d 65 42 [l0, l1] st (S, I, R, z) Q = RB d 65 46 [l0, l1] st (S, I, R, z) Q := RB_goto rfl (by decide) rfl
theorem w65_45 : RB d 65 45 [l0, l1] st (S, I, R, z) Q = RB d 65 46 [l0, l1] (.int 0 :: st) (S, I, R, z) Q := RB_iconst rfl ki0
theorem w65_46 : RB d 65 46 [l0, l1] (.int x :: st) (S, I, R, z) Q = RB d 65 47 [l0, .int x] st (S, I, R, z) Q := RB_istoren rfl (Nat.le_of_ble_eq_true rfl) rfl
theorem w65_47 : RB d 65 47 [.ref a, l1] st (S, I, R, z) Q = RB d 65 48 [.ref a, l1] (.ref a :: st) (S, I, R, z) Q := RB_aloadn rfl rfl
theorem w65_48 : RB d 65 48 [l0, l1] (v :: st) (S, I, R, z) Q = RB d 65 49 [l0, l1] (v :: v :: st) (S, I, R, z) Q := RB_dup rfl
theorem w65_49 : RB d 65 49 [l0, l1] (.ref a :: st) (S, I, R, z) Q = ((S a).1 = 3 ∧ RB d 65 52 [l0, l1] (.int (I a 10) :: st) (S, I, R, z) Q) := RB_getI rfl rfl
theorem w65_52 : RB d 65 52 [l0, l1] st (S, I, R, z) Q = RB d 65 53 [l0, l1] (.int 1 :: st) (S, I, R, z) Q := RB_iconst rfl ki1
theorem w65_53 : RB d 65 53 [l0, l1] (.int y :: .int x :: st) (S, I, R, z) Q = RB d 65 54 [l0, l1] (.int (x - y) :: st) (S, I, R, z) Q := RB_isub rfl
theorem w65_54 : RB d 65 54 [l0, l1] (.int x :: .ref a :: st) (S, I, R, z) Q = (((S a).1 = 3 ∧ 3 < 8 ∧ 16 ≤ a) ∧ RB d 65 57 [l0, l1] st (S, aW I a 10 x, R, z) Q) := RB_putI rfl rfl (Or.inl rfl)
theorem w65_57 : RB d 65 57 [l0, .int x] st (S, I, R, z) Q = RB d 65 58 [l0, .int x] (.int x :: st) (S, I, R, z) Q := RB_iloadn rfl rfl
theorem w65_58 : RB d 65 58 [l0, l1] (.int x :: st) (S, I, R, z) Q = ((x = 0 → RB d 65 65 [l0, l1] st (S, I, R, z) Q) ∧ (¬ x = 0 → RB d 65 61 [l0, l1] st (S, I, R, z) Q)) := RB_eq0 rfl (by decide) rfl
theorem w65_61 : RB d 65 61 [.ref a, l1] st (S, I, R, z) Q = RB d 65 62 [.ref a, l1] (.ref a :: st) (S, I, R, z) Q := RB_aloadn rfl rfl
theorem w65_62 : RB d 65 62 [l0, l1] [.ref a] (S, I, R, z) Q = ((S a).1 = 3 ∧ RM d 51 [.ref a] (S, I, R, z) (fun v τ => RB d 65 65 [l0, l1] (aPush v []) τ Q)) := RB_callV (n := 1) (t := 0) (k := 50) (ins := .invokevirtual 50) rfl rfl rfl (by decide) (Nat.le_of_ble_eq_true rfl) (Nat.le_of_ble_eq_true rfl) rfl rfl
theorem w65_65 : RB d 65 65 [l0, .int x] st (S, I, R, z) Q = RB d 65 66 [l0, .int x] (.int x :: st) (S, I, R, z) Q := RB_iloadn rfl rfl
theorem w65_66 : RB d 65 66 [l0, l1] [.int x] (S, I, R, z) Q = (narrow .boolean (.int x) = .int x ∧ Q (some (.int x)) (S, I, R, z)) := RB_zret rfl rfl (Or.inl rfl)
/-! 66: HangedWord$Text.<init> -/
theorem w66_0 : RB d 66 0 [.ref a, l1, l2, l3, l4] st (S, I, R, z) Q = RB d 66 1 [.ref a, l1, l2, l3, l4] (.ref a :: st) (S, I, R, z) Q := RB_aloadn rfl rfl
theorem w66_1 : RB d 66 1 [l0, l1, l2, l3, l4] [.ref a] (S, I, R, z) Q = RM d 1000 [.ref a] (S, I, R, z) (fun v τ => RB d 66 4 [l0, l1, l2, l3, l4] (aPush v []) τ Q) := RB_callS (n := 1) (t := 2) (k := 1) (ins := .invokespecial 1) rfl rfl rfl (Nat.le_of_ble_eq_true rfl) (Nat.le_of_ble_eq_true rfl) rfl rfl
theorem w66_4 : RB d 66 4 [.ref a, l1, l2, l3, l4] st (S, I, R, z) Q = RB d 66 5 [.ref a, l1, l2, l3, l4] (.ref a :: st) (S, I, R, z) Q := RB_aloadn rfl rfl
theorem w66_5 : RB d 66 5 [l0, .int x, l2, l3, l4] st (S, I, R, z) Q = RB d 66 6 [l0, .int x, l2, l3, l4] (.int x :: st) (S, I, R, z) Q := RB_iloadn rfl rfl
theorem w66_6 : RB d 66 6 [l0, l1, l2, l3, l4] (.int x :: .ref a :: st) (S, I, R, z) Q = (((S a).1 = 4 ∧ 4 < 8 ∧ 16 ≤ a) ∧ RB d 66 9 [l0, l1, l2, l3, l4] st (S, aW I a 0 x, R, z) Q) := RB_putI rfl rfl (Or.inr (by decide +kernel))
theorem w66_9 : RB d 66 9 [.ref a, l1, l2, l3, l4] st (S, I, R, z) Q = RB d 66 10 [.ref a, l1, l2, l3, l4] (.ref a :: st) (S, I, R, z) Q := RB_aloadn rfl rfl
theorem w66_10 : RB d 66 10 [l0, l1, .int x, l3, l4] st (S, I, R, z) Q = RB d 66 11 [l0, l1, .int x, l3, l4] (.int x :: st) (S, I, R, z) Q := RB_iloadn rfl rfl
theorem w66_11 : RB d 66 11 [l0, l1, l2, l3, l4] (.int x :: .ref a :: st) (S, I, R, z) Q = (((S a).1 = 4 ∧ 4 < 8 ∧ 16 ≤ a) ∧ RB d 66 14 [l0, l1, l2, l3, l4] st (S, aW I a 1 x, R, z) Q) := RB_putI rfl rfl (Or.inr (by decide +kernel))
theorem w66_14 : RB d 66 14 [.ref a, l1, l2, l3, l4] st (S, I, R, z) Q = RB d 66 15 [.ref a, l1, l2, l3, l4] (.ref a :: st) (S, I, R, z) Q := RB_aloadn rfl rfl
theorem w66_15 : RB d 66 15 [l0, l1, l2, l3, .int x] st (S, I, R, z) Q = RB d 66 17 [l0, l1, l2, l3, .int x] (.int x :: st) (S, I, R, z) Q := RB_iload rfl rfl
theorem w66_17 : RB d 66 17 [l0, l1, l2, l3, l4] (.int i :: st) σ Q = ((¬ i < 0 ∧ i.toNatClampNeg ≤ 5000) ∧ RB d 66 19 [l0, l1, l2, l3, l4] (.ref σ.2.2.2.1 :: st) (aNc 9 i.toNatClampNeg σ) Q) := RB_newI rfl
theorem w66_19 : RB d 66 19 [l0, l1, l2, l3, l4] (.ref b :: .ref a :: st) (S, I, R, z) Q = (((S a).1 = 4 ∧ 4 < 8 ∧ 16 ≤ a) ∧ RB d 66 22 [l0, l1, l2, l3, l4] st (S, I, aR R a 2 (some b), z) Q) := RB_putR rfl rfl (Or.inr (by decide +kernel))
theorem w66_22 : RB d 66 22 [l0, l1, l2, .ref a, l4] st (S, I, R, z) Q = RB d 66 23 [l0, l1, l2, .ref a, l4] (.ref a :: st) (S, I, R, z) Q := RB_aloadn rfl rfl
theorem w66_22N : RB d 66 22 [l0, l1, l2, .null, l4] st (S, I, R, z) Q = RB d 66 23 [l0, l1, l2, .null, l4] (.null :: st) (S, I, R, z) Q := RB_aloadnN rfl rfl
theorem w66_23 : RB d 66 23 [l0, l1, l2, l3, l4] st (S, I, R, z) Q = RB d 66 24 [l0, l1, l2, l3, l4] (.int 0 :: st) (S, I, R, z) Q := RB_iconst rfl ki0
theorem w66_24 : RB d 66 24 [.ref a, l1, l2, l3, l4] st (S, I, R, z) Q = RB d 66 25 [.ref a, l1, l2, l3, l4] (.ref a :: st) (S, I, R, z) Q := RB_aloadn rfl rfl
theorem w66_25 : RB d 66 25 [l0, l1, l2, l3, l4] (.ref a :: st) (S, I, R, z) Q = ((S a).1 = 4 ∧ RB d 66 28 [l0, l1, l2, l3, l4] (va_rf (R a 2) :: st) (S, I, R, z) Q) := RB_getR rfl rfl
theorem w66_28 : RB d 66 28 [l0, l1, l2, l3, l4] st (S, I, R, z) Q = RB d 66 29 [l0, l1, l2, l3, l4] (.int 0 :: st) (S, I, R, z) Q := RB_iconst rfl ki0
theorem w66_29 : RB d 66 29 [l0, l1, l2, l3, .int x] st (S, I, R, z) Q = RB d 66 31 [l0, l1, l2, l3, .int x] (.int x :: st) (S, I, R, z) Q := RB_iload rfl rfl
theorem w66_31 : RB d 66 31 [l0, l1, l2, l3, l4] [.int x4, .int x3, v2, .int x1, v0] (S, I, R, z) Q = RM d 1001 [v0, .int x1, v2, .int x3, .int x4] (S, I, R, z) (fun v τ => RB d 66 34 [l0, l1, l2, l3, l4] (aPush v []) τ Q) := RB_callS (n := 5) (t := 1) (k := 20) (ins := .invokestatic 20) rfl rfl rfl (Nat.le_of_ble_eq_true rfl) (Nat.le_of_ble_eq_true rfl) rfl rfl
theorem w66_34 : RB d 66 34 [l0, l1, l2, l3, l4] [] (S, I, R, z) Q = Q none (S, I, R, z) := RB_ret rfl rfl
/-! 67: HangedWord$Text.value -/
theorem w67_0 : RB d 67 0 [l0, l1, l2, l3, l4, l5, l6, l7] st (S, I, R, z) Q = RB d 67 1 [l0, l1, l2, l3, l4, l5, l6, l7] (.int (-1) :: st) (S, I, R, z) Q := RB_iconst rfl kim1
theorem w67_1 : RB d 67 1 [l0, l1, l2, l3, l4, l5, l6, l7] (.int x :: st) (S, I, R, z) Q = RB d 67 3 [l0, l1, l2, l3, l4, .int x, l6, l7] st (S, I, R, z) Q := RB_istore rfl (Nat.le_of_ble_eq_true rfl) rfl
theorem w67_3 : RB d 67 3 [l0, l1, l2, l3, l4, l5, l6, l7] st (S, I, R, z) Q = RB d 67 4 [l0, l1, l2, l3, l4, l5, l6, l7] (.int 0 :: st) (S, I, R, z) Q := RB_iconst rfl ki0
theorem w67_4 : RB d 67 4 [l0, l1, l2, l3, l4, l5, l6, l7] (.int x :: st) (S, I, R, z) Q = RB d 67 6 [l0, l1, l2, l3, l4, l5, .int x, l7] st (S, I, R, z) Q := RB_istore rfl (Nat.le_of_ble_eq_true rfl) rfl
theorem w67_6 : RB d 67 6 [l0, l1, l2, l3, l4, l5, .int x, l7] st (S, I, R, z) Q = RB d 67 8 [l0, l1, l2, l3, l4, l5, .int x, l7] (.int x :: st) (S, I, R, z) Q := RB_iload rfl rfl
theorem w67_8 : RB d 67 8 [.ref a, l1, l2, l3, l4, l5, l6, l7] st (S, I, R, z) Q = RB d 67 9 [.ref a, l1, l2, l3, l4, l5, l6, l7] (.ref a :: st) (S, I, R, z) Q := RB_aloadn rfl rfl
theorem w67_9 : RB d 67 9 [l0, l1, l2, l3, l4, l5, l6, l7] (.ref a :: st) (S, I, R, z) Q = ((S a).1 = 4 ∧ RB d 67 12 [l0, l1, l2, l3, l4, l5, l6, l7] (va_rf (R a 2) :: st) (S, I, R, z) Q) := RB_getR rfl rfl
theorem w67_12 : RB d 67 12 [l0, l1, l2, l3, l4, l5, l6, l7] (.ref a :: st) (S, I, R, z) Q = (((8 ≤ (S a).1 ∧ (S a).1 ≤ 13) ∨ (S a).1 = 15) ∧ RB d 67 13 [l0, l1, l2, l3, l4, l5, l6, l7] (.int (Int32.ofNat (S a).2) :: st) (S, I, R, z) Q) := RB_alen rfl
theorem w67_13 : RB d 67 13 [l0, l1, l2, l3, l4, l5, l6, l7] (.int y :: .int x :: st) (S, I, R, z) Q = ((y ≤ x → RB d 67 132 [l0, l1, l2, l3, l4, l5, l6, l7] st (S, I, R, z) Q) ∧ (¬ y ≤ x → RB d 67 16 [l0, l1, l2, l3, l4, l5, l6, l7] st (S, I, R, z) Q)) := RB_ige rfl (by decide) rfl
theorem w67_16 : RB d 67 16 [.ref a, l1, l2, l3, l4, l5, l6, l7] st (S, I, R, z) Q = RB d 67 17 [.ref a, l1, l2, l3, l4, l5, l6, l7] (.ref a :: st) (S, I, R, z) Q := RB_aloadn rfl rfl
theorem w67_17 : RB d 67 17 [l0, l1, l2, l3, l4, l5, l6, l7] (.ref a :: st) (S, I, R, z) Q = ((S a).1 = 4 ∧ RB d 67 20 [l0, l1, l2, l3, l4, l5, l6, l7] (va_rf (R a 2) :: st) (S, I, R, z) Q) := RB_getR rfl rfl
theorem w67_20 : RB d 67 20 [l0, l1, l2, l3, l4, l5, .int x, l7] st (S, I, R, z) Q = RB d 67 22 [l0, l1, l2, l3, l4, l5, .int x, l7] (.int x :: st) (S, I, R, z) Q := RB_iload rfl rfl
theorem w67_22 : RB d 67 22 [l0, l1, l2, l3, l4, l5, l6, l7] (.int i :: .ref a :: st) (S, I, R, z) Q = (((S a).1 = 9 ∧ aIx i (S a).2) ∧ RB d 67 23 [l0, l1, l2, l3, l4, l5, l6, l7] (.int (I a i.toNatClampNeg) :: st) (S, I, R, z) Q) := RB_iald rfl
theorem w67_23 : RB d 67 23 [l0, l1, l2, l3, l4, l5, l6, l7] (.int x :: st) (S, I, R, z) Q = RB d 67 25 [l0, l1, l2, l3, l4, l5, l6, .int x] st (S, I, R, z) Q := RB_istore rfl (Nat.le_of_ble_eq_true rfl) rfl
theorem w67_25 : RB d 67 25 [l0, l1, l2, l3, l4, l5, l6, .int x] st (S, I, R, z) Q = RB d 67 27 [l0, l1, l2, l3, l4, l5, l6, .int x] (.int x :: st) (S, I, R, z) Q := RB_iload rfl rfl
theorem w67_27 : RB d 67 27 [l0, l1, l2, l3, l4, l5, l6, l7] st (S, I, R, z) Q = RB d 67 29 [l0, l1, l2, l3, l4, l5, l6, l7] (.int (-3) :: st) (S, I, R, z) Q := RB_bipush rfl kbm3
theorem w67_29 : RB d 67 29 [l0, l1, l2, l3, l4, l5, l6, l7] (.int y :: .int x :: st) (S, I, R, z) Q = ((x < y → RB d 67 61 [l0, l1, l2, l3, l4, l5, l6, l7] st (S, I, R, z) Q) ∧ (¬ x < y → RB d 67 32 [l0, l1, l2, l3, l4, l5, l6, l7] st (S, I, R, z) Q)) := RB_ilt rfl (by decide) rfl
theorem w67_32 : RB d 67 32 [l0, l1, l2, l3, l4, .int x, l6, l7] st (S, I, R, z) Q = RB d 67 34 [l0, l1, l2, l3, l4, .int x, l6, l7] (.int x :: st) (S, I, R, z) Q := RB_iload rfl rfl
theorem w67_34 : RB d 67 34 [l0, l1, l2, l3, l4, l5, l6, l7] st (S, I, R, z) Q = RB d 67 35 [l0, l1, l2, l3, l4, l5, l6, l7] (.int 1 :: st) (S, I, R, z) Q := RB_iconst rfl ki1
theorem w67_35 : RB d 67 35 [l0, l1, l2, l3, l4, l5, l6, l7] (.int y :: .int x :: st) (S, I, R, z) Q = RB d 67 36 [l0, l1, l2, l3, l4, l5, l6, l7] (.int (x + y) :: st) (S, I, R, z) Q := RB_iadd rfl
theorem w67_36 : RB d 67 36 [l0, l1, l2, l3, .ref a, l5, l6, l7] st (S, I, R, z) Q = RB d 67 38 [l0, l1, l2, l3, .ref a, l5, l6, l7] (.ref a :: st) (S, I, R, z) Q := RB_aload rfl rfl
theorem w67_36N : RB d 67 36 [l0, l1, l2, l3, .null, l5, l6, l7] st (S, I, R, z) Q = RB d 67 38 [l0, l1, l2, l3, .null, l5, l6, l7] (.null :: st) (S, I, R, z) Q := RB_aloadN rfl rfl
theorem w67_38 : RB d 67 38 [l0, l1, l2, l3, l4, l5, l6, l7] (.ref a :: st) (S, I, R, z) Q = (((8 ≤ (S a).1 ∧ (S a).1 ≤ 13) ∨ (S a).1 = 15) ∧ RB d 67 39 [l0, l1, l2, l3, l4, l5, l6, l7] (.int (Int32.ofNat (S a).2) :: st) (S, I, R, z) Q) := RB_alen rfl
theorem w67_39 : RB d 67 39 [l0, l1, l2, l3, l4, l5, l6, l7] (.int y :: .int x :: st) (S, I, R, z) Q = ((y ≤ x → RB d 67 61 [l0, l1, l2, l3, l4, l5, l6, l7] st (S, I, R, z) Q) ∧ (¬ y ≤ x → RB d 67 42 [l0, l1, l2, l3, l4, l5, l6, l7] st (S, I, R, z) Q)) := RB_ige rfl (by decide) rfl
theorem w67_42 : RB d 67 42 [l0, l1, l2, l3, l4, .int x, l6, l7] st (S, I, R, z) Q = RB d 67 45 [l0, l1, l2, l3, l4, .int (x + 1), l6, l7] st (S, I, R, z) Q := RB_iinc rfl rfl (Nat.le_of_ble_eq_true rfl) ki1 rfl
theorem w67_45 : RB d 67 45 [l0, l1, l2, l3, .ref a, l5, l6, l7] st (S, I, R, z) Q = RB d 67 47 [l0, l1, l2, l3, .ref a, l5, l6, l7] (.ref a :: st) (S, I, R, z) Q := RB_aload rfl rfl
theorem w67_45N : RB d 67 45 [l0, l1, l2, l3, .null, l5, l6, l7] st (S, I, R, z) Q = RB d 67 47 [l0, l1, l2, l3, .null, l5, l6, l7] (.null :: st) (S, I, R, z) Q := RB_aloadN rfl rfl
theorem w67_47 : RB d 67 47 [l0, l1, l2, l3, l4, .int x, l6, l7] st (S, I, R, z) Q = RB d 67 49 [l0, l1, l2, l3, l4, .int x, l6, l7] (.int x :: st) (S, I, R, z) Q := RB_iload rfl rfl
theorem w67_49 : RB d 67 49 [l0, l1, l2, l3, l4, l5, l6, .int x] st (S, I, R, z) Q = RB d 67 51 [l0, l1, l2, l3, l4, l5, l6, .int x] (.int x :: st) (S, I, R, z) Q := RB_iload rfl rfl
theorem w67_51 : RB d 67 51 [l0, .int x, l2, l3, l4, l5, l6, l7] st (S, I, R, z) Q = RB d 67 52 [l0, .int x, l2, l3, l4, l5, l6, l7] (.int x :: st) (S, I, R, z) Q := RB_iloadn rfl rfl
theorem w67_52 : RB d 67 52 [l0, l1, .int x, l3, l4, l5, l6, l7] st (S, I, R, z) Q = RB d 67 53 [l0, l1, .int x, l3, l4, l5, l6, l7] (.int x :: st) (S, I, R, z) Q := RB_iloadn rfl rfl
theorem w67_53 : RB d 67 53 [l0, l1, l2, .int x, l4, l5, l6, l7] st (S, I, R, z) Q = RB d 67 54 [l0, l1, l2, .int x, l4, l5, l6, l7] (.int x :: st) (S, I, R, z) Q := RB_iloadn rfl rfl
theorem w67_54 : RB d 67 54 [l0, l1, l2, l3, l4, l5, l6, l7] [.int x3, .int x2, .int x1, .int x0, s0, s1] (S, I, R, z) Q = RM d 68 [.int x0, .int x1, .int x2, .int x3] (S, I, R, z) (fun v τ => RB d 67 57 [l0, l1, l2, l3, l4, l5, l6, l7] (aPush v [s0, s1]) τ Q) := RB_callS (n := 4) (t := 1) (k := 26) (ins := .invokestatic 26) rfl rfl rfl (Nat.le_of_ble_eq_true rfl) (Nat.le_of_ble_eq_true rfl) rfl rfl
theorem w67_57 : RB d 67 57 [l0, l1, l2, l3, l4, l5, l6, l7] (.int x :: .int i :: .ref a :: st) (S, I, R, z) Q = (((S a).1 = 9 ∧ aIx i (S a).2 ∧ 16 ≤ a) ∧ RB d 67 58 [l0, l1, l2, l3, l4, l5, l6, l7] st (S, aW I a i.toNatClampNeg x, R, z) Q) := RB_iast rfl
theorem w67_58 : RB d 67 58 [l0, l1, l2, l3, l4, l5, l6, l7] st (S, I, R, z) Q = RB d 67 126 [l0, l1, l2, l3, l4, l5, l6, l7] st (S, I, R, z) Q := RB_goto rfl (by decide) rfl
theorem w67_61 : RB d 67 61 [l0, l1, l2, l3, l4, l5, l6, .int x] st (S, I, R, z) Q = RB d 67 63 [l0, l1, l2, l3, l4, l5, l6, .int x] (.int x :: st) (S, I, R, z) Q := RB_iload rfl rfl
theorem w67_63 : RB d 67 63 [l0, l1, l2, l3, l4, l5, l6, l7] st (S, I, R, z) Q = RB d 67 65 [l0, l1, l2, l3, l4, l5, l6, l7] (.int (-33) :: st) (S, I, R, z) Q := RB_bipush rfl kbm33
theorem w67_65 : RB d 67 65 [l0, l1, l2, l3, l4, l5, l6, l7] (.int y :: .int x :: st) (S, I, R, z) Q = ((x = y → RB d 67 68 [l0, l1, l2, l3, l4, l5, l6, l7] st (S, I, R, z) Q) ∧ (¬ x = y → RB d 67 94 [l0, l1, l2, l3, l4, l5, l6, l7] st (S, I, R, z) Q)) := RB_ine rfl (by decide) rfl
theorem w67_68 : RB d 67 68 [l0, l1, l2, l3, l4, .int x, l6, l7] st (S, I, R, z) Q = RB d 67 70 [l0, l1, l2, l3, l4, .int x, l6, l7] (.int x :: st) (S, I, R, z) Q := RB_iload rfl rfl
theorem w67_70 : RB d 67 70 [l0, l1, l2, l3, l4, l5, l6, l7] (.int x :: st) (S, I, R, z) Q = ((x < 0 → RB d 67 94 [l0, l1, l2, l3, l4, l5, l6, l7] st (S, I, R, z) Q) ∧ (¬ x < 0 → RB d 67 73 [l0, l1, l2, l3, l4, l5, l6, l7] st (S, I, R, z) Q)) := RB_lt0 rfl (by decide) rfl
theorem w67_73 : RB d 67 73 [l0, l1, l2, l3, .ref a, l5, l6, l7] st (S, I, R, z) Q = RB d 67 75 [l0, l1, l2, l3, .ref a, l5, l6, l7] (.ref a :: st) (S, I, R, z) Q := RB_aload rfl rfl
theorem w67_73N : RB d 67 73 [l0, l1, l2, l3, .null, l5, l6, l7] st (S, I, R, z) Q = RB d 67 75 [l0, l1, l2, l3, .null, l5, l6, l7] (.null :: st) (S, I, R, z) Q := RB_aloadN rfl rfl
theorem w67_75 : RB d 67 75 [l0, l1, l2, l3, l4, .int x, l6, l7] st (S, I, R, z) Q = RB d 67 77 [l0, l1, l2, l3, l4, .int x, l6, l7] (.int x :: st) (S, I, R, z) Q := RB_iload rfl rfl
theorem w67_77 : RB d 67 77 [l0, l1, l2, l3, .ref a, l5, l6, l7] st (S, I, R, z) Q = RB d 67 79 [l0, l1, l2, l3, .ref a, l5, l6, l7] (.ref a :: st) (S, I, R, z) Q := RB_aload rfl rfl
theorem w67_77N : RB d 67 77 [l0, l1, l2, l3, .null, l5, l6, l7] st (S, I, R, z) Q = RB d 67 79 [l0, l1, l2, l3, .null, l5, l6, l7] (.null :: st) (S, I, R, z) Q := RB_aloadN rfl rfl
theorem w67_79 : RB d 67 79 [l0, l1, l2, l3, l4, .int x, l6, l7] st (S, I, R, z) Q = RB d 67 81 [l0, l1, l2, l3, l4, .int x, l6, l7] (.int x :: st) (S, I, R, z) Q := RB_iload rfl rfl
theorem w67_81 : RB d 67 81 [l0, l1, l2, l3, l4, l5, l6, l7] (.int i :: .ref a :: st) (S, I, R, z) Q = (((S a).1 = 9 ∧ aIx i (S a).2) ∧ RB d 67 82 [l0, l1, l2, l3, l4, l5, l6, l7] (.int (I a i.toNatClampNeg) :: st) (S, I, R, z) Q) := RB_iald rfl
theorem w67_82 : RB d 67 82 [l0, l1, l2, l3, l4, l5, l6, l7] (.int x :: st) (S, I, R, z) Q = ((x = 0 → RB d 67 85 [l0, l1, l2, l3, l4, l5, l6, l7] st (S, I, R, z) Q) ∧ (¬ x = 0 → RB d 67 89 [l0, l1, l2, l3, l4, l5, l6, l7] st (S, I, R, z) Q)) := RB_ne0 rfl (by decide) rfl
theorem w67_85 : RB d 67 85 [l0, l1, l2, l3, l4, l5, l6, l7] st (S, I, R, z) Q = RB d 67 86 [l0, l1, l2, l3, l4, l5, l6, l7] (.int 1 :: st) (S, I, R, z) Q := RB_iconst rfl ki1
theorem w67_86 : RB d 67 86 [l0, l1, l2, l3, l4, l5, l6, l7] st (S, I, R, z) Q = RB d 67 90 [l0, l1, l2, l3, l4, l5, l6, l7] st (S, I, R, z) Q := RB_goto rfl (by decide) rfl
theorem w67_89 : RB d 67 89 [l0, l1, l2, l3, l4, l5, l6, l7] st (S, I, R, z) Q = RB d 67 90 [l0, l1, l2, l3, l4, l5, l6, l7] (.int 0 :: st) (S, I, R, z) Q := RB_iconst rfl ki0
theorem w67_90 : RB d 67 90 [l0, l1, l2, l3, l4, l5, l6, l7] (.int x :: .int i :: .ref a :: st) (S, I, R, z) Q = (((S a).1 = 9 ∧ aIx i (S a).2 ∧ 16 ≤ a) ∧ RB d 67 91 [l0, l1, l2, l3, l4, l5, l6, l7] st (S, aW I a i.toNatClampNeg x, R, z) Q) := RB_iast rfl
theorem w67_91 : RB d 67 91 [l0, l1, l2, l3, l4, l5, l6, l7] st (S, I, R, z) Q = RB d 67 126 [l0, l1, l2, l3, l4, l5, l6, l7] st (S, I, R, z) Q := RB_goto rfl (by decide) rfl
theorem w67_94 : RB d 67 94 [l0, l1, l2, l3, l4, .int x, l6, l7] st (S, I, R, z) Q = RB d 67 96 [l0, l1, l2, l3, l4, .int x, l6, l7] (.int x :: st) (S, I, R, z) Q := RB_iload rfl rfl
theorem w67_96 : RB d 67 96 [l0, l1, l2, l3, l4, l5, l6, l7] st (S, I, R, z) Q = RB d 67 97 [l0, l1, l2, l3, l4, l5, l6, l7] (.int 1 :: st) (S, I, R, z) Q := RB_iconst rfl ki1
theorem w67_97 : RB d 67 97 [l0, l1, l2, l3, l4, l5, l6, l7] (.int y :: .int x :: st) (S, I, R, z) Q = ((x < y → RB d 67 126 [l0, l1, l2, l3, l4, l5, l6, l7] st (S, I, R, z) Q) ∧ (¬ x < y → RB d 67 100 [l0, l1, l2, l3, l4, l5, l6, l7] st (S, I, R, z) Q)) := RB_ilt rfl (by decide) rfl
theorem w67_100 : RB d 67 100 [l0, l1, l2, l3, l4, .int x, l6, l7] st (S, I, R, z) Q = RB d 67 103 [l0, l1, l2, l3, l4, .int (x + (-1)), l6, l7] st (S, I, R, z) Q := RB_iinc rfl rfl (Nat.le_of_ble_eq_true rfl) kim1 rfl
theorem w67_103 : RB d 67 103 [l0, l1, l2, l3, .ref a, l5, l6, l7] st (S, I, R, z) Q = RB d 67 105 [l0, l1, l2, l3, .ref a, l5, l6, l7] (.ref a :: st) (S, I, R, z) Q := RB_aload rfl rfl
theorem w67_103N : RB d 67 103 [l0, l1, l2, l3, .null, l5, l6, l7] st (S, I, R, z) Q = RB d 67 105 [l0, l1, l2, l3, .null, l5, l6, l7] (.null :: st) (S, I, R, z) Q := RB_aloadN rfl rfl
theorem w67_105 : RB d 67 105 [l0, l1, l2, l3, l4, .int x, l6, l7] st (S, I, R, z) Q = RB d 67 107 [l0, l1, l2, l3, l4, .int x, l6, l7] (.int x :: st) (S, I, R, z) Q := RB_iload rfl rfl
theorem w67_107 : RB d 67 107 [l0, l1, l2, l3, l4, l5, l6, .int x] st (S, I, R, z) Q = RB d 67 109 [l0, l1, l2, l3, l4, l5, l6, .int x] (.int x :: st) (S, I, R, z) Q := RB_iload rfl rfl
theorem w67_109 : RB d 67 109 [l0, l1, l2, l3, l4, l5, l6, l7] (.int x :: st) (S, I, R, z) Q = RB d 67 110 [l0, l1, l2, l3, l4, l5, l6, l7] (.int (-x) :: st) (S, I, R, z) Q := RB_ineg rfl
theorem w67_110 : RB d 67 110 [l0, l1, l2, l3, .ref a, l5, l6, l7] st (S, I, R, z) Q = RB d 67 112 [l0, l1, l2, l3, .ref a, l5, l6, l7] (.ref a :: st) (S, I, R, z) Q := RB_aload rfl rfl
theorem w67_110N : RB d 67 110 [l0, l1, l2, l3, .null, l5, l6, l7] st (S, I, R, z) Q = RB d 67 112 [l0, l1, l2, l3, .null, l5, l6, l7] (.null :: st) (S, I, R, z) Q := RB_aloadN rfl rfl
theorem w67_112 : RB d 67 112 [l0, l1, l2, l3, l4, .int x, l6, l7] st (S, I, R, z) Q = RB d 67 114 [l0, l1, l2, l3, l4, .int x, l6, l7] (.int x :: st) (S, I, R, z) Q := RB_iload rfl rfl
theorem w67_114 : RB d 67 114 [l0, l1, l2, l3, l4, l5, l6, l7] (.int i :: .ref a :: st) (S, I, R, z) Q = (((S a).1 = 9 ∧ aIx i (S a).2) ∧ RB d 67 115 [l0, l1, l2, l3, l4, l5, l6, l7] (.int (I a i.toNatClampNeg) :: st) (S, I, R, z) Q) := RB_iald rfl
theorem w67_115 : RB d 67 115 [l0, l1, l2, l3, .ref a, l5, l6, l7] st (S, I, R, z) Q = RB d 67 117 [l0, l1, l2, l3, .ref a, l5, l6, l7] (.ref a :: st) (S, I, R, z) Q := RB_aload rfl rfl
theorem w67_115N : RB d 67 115 [l0, l1, l2, l3, .null, l5, l6, l7] st (S, I, R, z) Q = RB d 67 117 [l0, l1, l2, l3, .null, l5, l6, l7] (.null :: st) (S, I, R, z) Q := RB_aloadN rfl rfl
theorem w67_117 : RB d 67 117 [l0, l1, l2, l3, l4, .int x, l6, l7] st (S, I, R, z) Q = RB d 67 119 [l0, l1, l2, l3, l4, .int x, l6, l7] (.int x :: st) (S, I, R, z) Q := RB_iload rfl rfl
theorem w67_119 : RB d 67 119 [l0, l1, l2, l3, l4, l5, l6, l7] st (S, I, R, z) Q = RB d 67 120 [l0, l1, l2, l3, l4, l5, l6, l7] (.int 1 :: st) (S, I, R, z) Q := RB_iconst rfl ki1
theorem w67_120 : RB d 67 120 [l0, l1, l2, l3, l4, l5, l6, l7] (.int y :: .int x :: st) (S, I, R, z) Q = RB d 67 121 [l0, l1, l2, l3, l4, l5, l6, l7] (.int (x + y) :: st) (S, I, R, z) Q := RB_iadd rfl
theorem w67_121 : RB d 67 121 [l0, l1, l2, l3, l4, l5, l6, l7] (.int i :: .ref a :: st) (S, I, R, z) Q = (((S a).1 = 9 ∧ aIx i (S a).2) ∧ RB d 67 122 [l0, l1, l2, l3, l4, l5, l6, l7] (.int (I a i.toNatClampNeg) :: st) (S, I, R, z) Q) := RB_iald rfl
theorem w67_122 : RB d 67 122 [l0, l1, l2, l3, l4, l5, l6, l7] [.int x2, .int x1, .int x0, s0, s1] (S, I, R, z) Q = RM d 69 [.int x0, .int x1, .int x2] (S, I, R, z) (fun v τ => RB d 67 125 [l0, l1, l2, l3, l4, l5, l6, l7] (aPush v [s0, s1]) τ Q) := RB_callS (n := 3) (t := 1) (k := 30) (ins := .invokestatic 30) rfl rfl rfl (Nat.le_of_ble_eq_true rfl) (Nat.le_of_ble_eq_true rfl) rfl rfl
theorem w67_125 : RB d 67 125 [l0, l1, l2, l3, l4, l5, l6, l7] (.int x :: .int i :: .ref a :: st) (S, I, R, z) Q = (((S a).1 = 9 ∧ aIx i (S a).2 ∧ 16 ≤ a) ∧ RB d 67 126 [l0, l1, l2, l3, l4, l5, l6, l7] st (S, aW I a i.toNatClampNeg x, R, z) Q) := RB_iast rfl
theorem w67_126 : RB d 67 126 [l0, l1, l2, l3, l4, l5, .int x, l7] st (S, I, R, z) Q = RB d 67 129 [l0, l1, l2, l3, l4, l5, .int (x + 1), l7] st (S, I, R, z) Q := RB_iinc rfl rfl (Nat.le_of_ble_eq_true rfl) ki1 rfl
theorem w67_129 : RB d 67 129 [l0, l1, l2, l3, l4, l5, l6, l7] st (S, I, R, z) Q = RB d 67 6 [l0, l1, l2, l3, l4, l5, l6, l7] st (S, I, R, z) Q := RB_goto rfl (by decide) rfl
theorem w67_132 : RB d 67 132 [l0, l1, l2, l3, l4, .int x, l6, l7] st (S, I, R, z) Q = RB d 67 134 [l0, l1, l2, l3, l4, .int x, l6, l7] (.int x :: st) (S, I, R, z) Q := RB_iload rfl rfl
theorem w67_134 : RB d 67 134 [l0, l1, l2, l3, l4, l5, l6, l7] (.int x :: st) (S, I, R, z) Q = ((x < 0 → RB d 67 145 [l0, l1, l2, l3, l4, l5, l6, l7] st (S, I, R, z) Q) ∧ (¬ x < 0 → RB d 67 137 [l0, l1, l2, l3, l4, l5, l6, l7] st (S, I, R, z) Q)) := RB_lt0 rfl (by decide) rfl
theorem w67_137 : RB d 67 137 [l0, l1, l2, l3, .ref a, l5, l6, l7] st (S, I, R, z) Q = RB d 67 139 [l0, l1, l2, l3, .ref a, l5, l6, l7] (.ref a :: st) (S, I, R, z) Q := RB_aload rfl rfl
theorem w67_137N : RB d 67 137 [l0, l1, l2, l3, .null, l5, l6, l7] st (S, I, R, z) Q = RB d 67 139 [l0, l1, l2, l3, .null, l5, l6, l7] (.null :: st) (S, I, R, z) Q := RB_aloadN rfl rfl
theorem w67_139 : RB d 67 139 [l0, l1, l2, l3, l4, .int x, l6, l7] st (S, I, R, z) Q = RB d 67 141 [l0, l1, l2, l3, l4, .int x, l6, l7] (.int x :: st) (S, I, R, z) Q := RB_iload rfl rfl
theorem w67_141 : RB d 67 141 [l0, l1, l2, l3, l4, l5, l6, l7] (.int i :: .ref a :: st) (S, I, R, z) Q = (((S a).1 = 9 ∧ aIx i (S a).2) ∧ RB d 67 142 [l0, l1, l2, l3, l4, l5, l6, l7] (.int (I a i.toNatClampNeg) :: st) (S, I, R, z) Q) := RB_iald rfl
theorem w67_142 : RB d 67 142 [l0, l1, l2, l3, l4, l5, l6, l7] st (S, I, R, z) Q = RB d 67 146 [l0, l1, l2, l3, l4, l5, l6, l7] st (S, I, R, z) Q := RB_goto rfl (by decide) rfl
theorem w67_145 : RB d 67 145 [l0, l1, l2, l3, l4, l5, l6, l7] st (S, I, R, z) Q = RB d 67 146 [l0, l1, l2, l3, l4, l5, l6, l7] (.int 0 :: st) (S, I, R, z) Q := RB_iconst rfl ki0
theorem w67_146 : RB d 67 146 [l0, l1, l2, l3, l4, l5, l6, l7] [.int x] (S, I, R, z) Q = Q (some (.int x)) (S, I, R, z) := RB_iret rfl rfl rfl
/-! 68: HangedWord$Text.valueOf -/
theorem w68_0 : RB d 68 0 [.int x, l1, l2, l3] st (S, I, R, z) Q = RB d 68 1 [.int x, l1, l2, l3] (.int x :: st) (S, I, R, z) Q := RB_iloadn rfl rfl
theorem w68_1 : RB d 68 1 [l0, l1, l2, l3] (.int x :: st) (S, I, R, z) Q = ((x < 0 → RB d 68 6 [l0, l1, l2, l3] st (S, I, R, z) Q) ∧ (¬ x < 0 → RB d 68 4 [l0, l1, l2, l3] st (S, I, R, z) Q)) := RB_lt0 rfl (by decide) rfl
theorem w68_4 : RB d 68 4 [.int x, l1, l2, l3] st (S, I, R, z) Q = RB d 68 5 [.int x, l1, l2, l3] (.int x :: st) (S, I, R, z) Q := RB_iloadn rfl rfl
theorem w68_5 : RB d 68 5 [l0, l1, l2, l3] [.int x] (S, I, R, z) Q = Q (some (.int x)) (S, I, R, z) := RB_iret rfl rfl rfl
theorem w68_6 : RB d 68 6 [.int x, l1, l2, l3] st (S, I, R, z) Q = RB d 68 7 [.int x, l1, l2, l3] (.int x :: st) (S, I, R, z) Q := RB_iloadn rfl rfl
theorem w68_7 : RB d 68 7 [l0, l1, l2, l3] st (S, I, R, z) Q = RB d 68 8 [l0, l1, l2, l3] (.int (-1) :: st) (S, I, R, z) Q := RB_iconst rfl kim1
theorem w68_8 : RB d 68 8 [l0, l1, l2, l3] (.int y :: .int x :: st) (S, I, R, z) Q = ((x = y → RB d 68 11 [l0, l1, l2, l3] st (S, I, R, z) Q) ∧ (¬ x = y → RB d 68 15 [l0, l1, l2, l3] st (S, I, R, z) Q)) := RB_ine rfl (by decide) rfl
theorem w68_11 : RB d 68 11 [l0, .int x, l2, l3] st (S, I, R, z) Q = RB d 68 12 [l0, .int x, l2, l3] (.int x :: st) (S, I, R, z) Q := RB_iloadn rfl rfl
theorem w68_12 : RB d 68 12 [l0, l1, l2, l3] st (S, I, R, z) Q = RB d 68 26 [l0, l1, l2, l3] st (S, I, R, z) Q := RB_goto rfl (by decide) rfl
theorem w68_15 : RB d 68 15 [.int x, l1, l2, l3] st (S, I, R, z) Q = RB d 68 16 [.int x, l1, l2, l3] (.int x :: st) (S, I, R, z) Q := RB_iloadn rfl rfl
theorem w68_16 : RB d 68 16 [l0, l1, l2, l3] st (S, I, R, z) Q = RB d 68 18 [l0, l1, l2, l3] (.int (-3) :: st) (S, I, R, z) Q := RB_bipush rfl kbm3
theorem w68_18 : RB d 68 18 [l0, l1, l2, l3] (.int y :: .int x :: st) (S, I, R, z) Q = ((x = y → RB d 68 21 [l0, l1, l2, l3] st (S, I, R, z) Q) ∧ (¬ x = y → RB d 68 25 [l0, l1, l2, l3] st (S, I, R, z) Q)) := RB_ine rfl (by decide) rfl
theorem w68_21 : RB d 68 21 [l0, l1, l2, .int x] st (S, I, R, z) Q = RB d 68 22 [l0, l1, l2, .int x] (.int x :: st) (S, I, R, z) Q := RB_iloadn rfl rfl
theorem w68_22 : RB d 68 22 [l0, l1, l2, l3] st (S, I, R, z) Q = RB d 68 26 [l0, l1, l2, l3] st (S, I, R, z) Q := RB_goto rfl (by decide) rfl
theorem w68_25 : RB d 68 25 [l0, l1, .int x, l3] st (S, I, R, z) Q = RB d 68 26 [l0, l1, .int x, l3] (.int x :: st) (S, I, R, z) Q := RB_iloadn rfl rfl
theorem w68_26 : RB d 68 26 [l0, l1, l2, l3] [.int x] (S, I, R, z) Q = Q (some (.int x)) (S, I, R, z) := RB_iret rfl rfl rfl
/-! 69: HangedWord$Text.joined -/
theorem w69_0 : RB d 69 0 [.int x, l1, l2] st (S, I, R, z) Q = RB d 69 1 [.int x, l1, l2] (.int x :: st) (S, I, R, z) Q := RB_iloadn rfl rfl
theorem w69_1 : RB d 69 1 [l0, l1, l2] (.int x :: st) (S, I, R, z) Q = aTsR d 69 1 x 149 [l0, l1, l2] st (S, I, R, z) Q [(38, 90), (42, 145), (43, 137), (45, 141), (60, 104), (61, 115), (62, 126), (124, 76)] := RB_tl rfl (by decide) (by decide) (by decide) (by decide +kernel) rfl
theorem w69_76 : RB d 69 76 [l0, .int x, l2] st (S, I, R, z) Q = RB d 69 77 [l0, .int x, l2] (.int x :: st) (S, I, R, z) Q := RB_iloadn rfl rfl
theorem w69_77 : RB d 69 77 [l0, l1, l2] (.int x :: st) (S, I, R, z) Q = ((x = 0 → RB d 69 80 [l0, l1, l2] st (S, I, R, z) Q) ∧ (¬ x = 0 → RB d 69 84 [l0, l1, l2] st (S, I, R, z) Q)) := RB_ne0 rfl (by decide) rfl
theorem w69_80 : RB d 69 80 [l0, l1, .int x] st (S, I, R, z) Q = RB d 69 81 [l0, l1, .int x] (.int x :: st) (S, I, R, z) Q := RB_iloadn rfl rfl
theorem w69_81 : RB d 69 81 [l0, l1, l2] (.int x :: st) (S, I, R, z) Q = ((x = 0 → RB d 69 88 [l0, l1, l2] st (S, I, R, z) Q) ∧ (¬ x = 0 → RB d 69 84 [l0, l1, l2] st (S, I, R, z) Q)) := RB_eq0 rfl (by decide) rfl
theorem w69_84 : RB d 69 84 [l0, l1, l2] st (S, I, R, z) Q = RB d 69 85 [l0, l1, l2] (.int 1 :: st) (S, I, R, z) Q := RB_iconst rfl ki1
theorem w69_85 : RB d 69 85 [l0, l1, l2] st (S, I, R, z) Q = RB d 69 89 [l0, l1, l2] st (S, I, R, z) Q := RB_goto rfl (by decide) rfl
theorem w69_88 : RB d 69 88 [l0, l1, l2] st (S, I, R, z) Q = RB d 69 89 [l0, l1, l2] (.int 0 :: st) (S, I, R, z) Q := RB_iconst rfl ki0
theorem w69_89 : RB d 69 89 [l0, l1, l2] [.int x] (S, I, R, z) Q = Q (some (.int x)) (S, I, R, z) := RB_iret rfl rfl rfl
theorem w69_90 : RB d 69 90 [l0, .int x, l2] st (S, I, R, z) Q = RB d 69 91 [l0, .int x, l2] (.int x :: st) (S, I, R, z) Q := RB_iloadn rfl rfl
theorem w69_91 : RB d 69 91 [l0, l1, l2] (.int x :: st) (S, I, R, z) Q = ((x = 0 → RB d 69 102 [l0, l1, l2] st (S, I, R, z) Q) ∧ (¬ x = 0 → RB d 69 94 [l0, l1, l2] st (S, I, R, z) Q)) := RB_eq0 rfl (by decide) rfl
theorem w69_94 : RB d 69 94 [l0, l1, .int x] st (S, I, R, z) Q = RB d 69 95 [l0, l1, .int x] (.int x :: st) (S, I, R, z) Q := RB_iloadn rfl rfl
theorem w69_95 : RB d 69 95 [l0, l1, l2] (.int x :: st) (S, I, R, z) Q = ((x = 0 → RB d 69 102 [l0, l1, l2] st (S, I, R, z) Q) ∧ (¬ x = 0 → RB d 69 98 [l0, l1, l2] st (S, I, R, z) Q)) := RB_eq0 rfl (by decide) rfl
theorem w69_98 : RB d 69 98 [l0, l1, l2] st (S, I, R, z) Q = RB d 69 99 [l0, l1, l2] (.int 1 :: st) (S, I, R, z) Q := RB_iconst rfl ki1
theorem w69_99 : RB d 69 99 [l0, l1, l2] st (S, I, R, z) Q = RB d 69 103 [l0, l1, l2] st (S, I, R, z) Q := RB_goto rfl (by decide) rfl
theorem w69_102 : RB d 69 102 [l0, l1, l2] st (S, I, R, z) Q = RB d 69 103 [l0, l1, l2] (.int 0 :: st) (S, I, R, z) Q := RB_iconst rfl ki0
theorem w69_103 : RB d 69 103 [l0, l1, l2] [.int x] (S, I, R, z) Q = Q (some (.int x)) (S, I, R, z) := RB_iret rfl rfl rfl
theorem w69_104 : RB d 69 104 [l0, .int x, l2] st (S, I, R, z) Q = RB d 69 105 [l0, .int x, l2] (.int x :: st) (S, I, R, z) Q := RB_iloadn rfl rfl
theorem w69_105 : RB d 69 105 [l0, l1, .int x] st (S, I, R, z) Q = RB d 69 106 [l0, l1, .int x] (.int x :: st) (S, I, R, z) Q := RB_iloadn rfl rfl
theorem w69_106 : RB d 69 106 [l0, l1, l2] (.int y :: .int x :: st) (S, I, R, z) Q = ((y ≤ x → RB d 69 113 [l0, l1, l2] st (S, I, R, z) Q) ∧ (¬ y ≤ x → RB d 69 109 [l0, l1, l2] st (S, I, R, z) Q)) := RB_ige rfl (by decide) rfl
theorem w69_109 : RB d 69 109 [l0, l1, l2] st (S, I, R, z) Q = RB d 69 110 [l0, l1, l2] (.int 1 :: st) (S, I, R, z) Q := RB_iconst rfl ki1
theorem w69_110 : RB d 69 110 [l0, l1, l2] st (S, I, R, z) Q = RB d 69 114 [l0, l1, l2] st (S, I, R, z) Q := RB_goto rfl (by decide) rfl
theorem w69_113 : RB d 69 113 [l0, l1, l2] st (S, I, R, z) Q = RB d 69 114 [l0, l1, l2] (.int 0 :: st) (S, I, R, z) Q := RB_iconst rfl ki0
theorem w69_114 : RB d 69 114 [l0, l1, l2] [.int x] (S, I, R, z) Q = Q (some (.int x)) (S, I, R, z) := RB_iret rfl rfl rfl
theorem w69_115 : RB d 69 115 [l0, .int x, l2] st (S, I, R, z) Q = RB d 69 116 [l0, .int x, l2] (.int x :: st) (S, I, R, z) Q := RB_iloadn rfl rfl
theorem w69_116 : RB d 69 116 [l0, l1, .int x] st (S, I, R, z) Q = RB d 69 117 [l0, l1, .int x] (.int x :: st) (S, I, R, z) Q := RB_iloadn rfl rfl
theorem w69_117 : RB d 69 117 [l0, l1, l2] (.int y :: .int x :: st) (S, I, R, z) Q = ((x = y → RB d 69 120 [l0, l1, l2] st (S, I, R, z) Q) ∧ (¬ x = y → RB d 69 124 [l0, l1, l2] st (S, I, R, z) Q)) := RB_ine rfl (by decide) rfl
theorem w69_120 : RB d 69 120 [l0, l1, l2] st (S, I, R, z) Q = RB d 69 121 [l0, l1, l2] (.int 1 :: st) (S, I, R, z) Q := RB_iconst rfl ki1
theorem w69_121 : RB d 69 121 [l0, l1, l2] st (S, I, R, z) Q = RB d 69 125 [l0, l1, l2] st (S, I, R, z) Q := RB_goto rfl (by decide) rfl
theorem w69_124 : RB d 69 124 [l0, l1, l2] st (S, I, R, z) Q = RB d 69 125 [l0, l1, l2] (.int 0 :: st) (S, I, R, z) Q := RB_iconst rfl ki0
theorem w69_125 : RB d 69 125 [l0, l1, l2] [.int x] (S, I, R, z) Q = Q (some (.int x)) (S, I, R, z) := RB_iret rfl rfl rfl
theorem w69_126 : RB d 69 126 [l0, .int x, l2] st (S, I, R, z) Q = RB d 69 127 [l0, .int x, l2] (.int x :: st) (S, I, R, z) Q := RB_iloadn rfl rfl
theorem w69_127 : RB d 69 127 [l0, l1, .int x] st (S, I, R, z) Q = RB d 69 128 [l0, l1, .int x] (.int x :: st) (S, I, R, z) Q := RB_iloadn rfl rfl
theorem w69_128 : RB d 69 128 [l0, l1, l2] (.int y :: .int x :: st) (S, I, R, z) Q = ((x ≤ y → RB d 69 135 [l0, l1, l2] st (S, I, R, z) Q) ∧ (¬ x ≤ y → RB d 69 131 [l0, l1, l2] st (S, I, R, z) Q)) := RB_ile rfl (by decide) rfl
theorem w69_131 : RB d 69 131 [l0, l1, l2] st (S, I, R, z) Q = RB d 69 132 [l0, l1, l2] (.int 1 :: st) (S, I, R, z) Q := RB_iconst rfl ki1
theorem w69_132 : RB d 69 132 [l0, l1, l2] st (S, I, R, z) Q = RB d 69 136 [l0, l1, l2] st (S, I, R, z) Q := RB_goto rfl (by decide) rfl
theorem w69_135 : RB d 69 135 [l0, l1, l2] st (S, I, R, z) Q = RB d 69 136 [l0, l1, l2] (.int 0 :: st) (S, I, R, z) Q := RB_iconst rfl ki0
theorem w69_136 : RB d 69 136 [l0, l1, l2] [.int x] (S, I, R, z) Q = Q (some (.int x)) (S, I, R, z) := RB_iret rfl rfl rfl
theorem w69_137 : RB d 69 137 [l0, .int x, l2] st (S, I, R, z) Q = RB d 69 138 [l0, .int x, l2] (.int x :: st) (S, I, R, z) Q := RB_iloadn rfl rfl
theorem w69_138 : RB d 69 138 [l0, l1, .int x] st (S, I, R, z) Q = RB d 69 139 [l0, l1, .int x] (.int x :: st) (S, I, R, z) Q := RB_iloadn rfl rfl
theorem w69_139 : RB d 69 139 [l0, l1, l2] (.int y :: .int x :: st) (S, I, R, z) Q = RB d 69 140 [l0, l1, l2] (.int (x + y) :: st) (S, I, R, z) Q := RB_iadd rfl
theorem w69_140 : RB d 69 140 [l0, l1, l2] [.int x] (S, I, R, z) Q = Q (some (.int x)) (S, I, R, z) := RB_iret rfl rfl rfl
theorem w69_141 : RB d 69 141 [l0, .int x, l2] st (S, I, R, z) Q = RB d 69 142 [l0, .int x, l2] (.int x :: st) (S, I, R, z) Q := RB_iloadn rfl rfl
theorem w69_142 : RB d 69 142 [l0, l1, .int x] st (S, I, R, z) Q = RB d 69 143 [l0, l1, .int x] (.int x :: st) (S, I, R, z) Q := RB_iloadn rfl rfl
theorem w69_143 : RB d 69 143 [l0, l1, l2] (.int y :: .int x :: st) (S, I, R, z) Q = RB d 69 144 [l0, l1, l2] (.int (x - y) :: st) (S, I, R, z) Q := RB_isub rfl
theorem w69_144 : RB d 69 144 [l0, l1, l2] [.int x] (S, I, R, z) Q = Q (some (.int x)) (S, I, R, z) := RB_iret rfl rfl rfl
theorem w69_145 : RB d 69 145 [l0, .int x, l2] st (S, I, R, z) Q = RB d 69 146 [l0, .int x, l2] (.int x :: st) (S, I, R, z) Q := RB_iloadn rfl rfl
theorem w69_146 : RB d 69 146 [l0, l1, .int x] st (S, I, R, z) Q = RB d 69 147 [l0, l1, .int x] (.int x :: st) (S, I, R, z) Q := RB_iloadn rfl rfl
theorem w69_147 : RB d 69 147 [l0, l1, l2] (.int y :: .int x :: st) (S, I, R, z) Q = RB d 69 148 [l0, l1, l2] (.int (x * y) :: st) (S, I, R, z) Q := RB_imul rfl
theorem w69_148 : RB d 69 148 [l0, l1, l2] [.int x] (S, I, R, z) Q = Q (some (.int x)) (S, I, R, z) := RB_iret rfl rfl rfl
theorem w69_149 : RB d 69 149 [l0, l1, .int x] st (S, I, R, z) Q = RB d 69 150 [l0, l1, .int x] (.int x :: st) (S, I, R, z) Q := RB_iloadn rfl rfl
theorem w69_150 : RB d 69 150 [l0, l1, l2] (.int x :: st) (S, I, R, z) Q = ((x = 0 → RB d 69 153 [l0, l1, l2] st (S, I, R, z) Q) ∧ (¬ x = 0 → RB d 69 157 [l0, l1, l2] st (S, I, R, z) Q)) := RB_ne0 rfl (by decide) rfl
theorem w69_153 : RB d 69 153 [l0, l1, l2] st (S, I, R, z) Q = RB d 69 154 [l0, l1, l2] (.int 0 :: st) (S, I, R, z) Q := RB_iconst rfl ki0
theorem w69_154 : RB d 69 154 [l0, l1, l2] st (S, I, R, z) Q = RB d 69 160 [l0, l1, l2] st (S, I, R, z) Q := RB_goto rfl (by decide) rfl
theorem w69_157 : RB d 69 157 [l0, .int x, l2] st (S, I, R, z) Q = RB d 69 158 [l0, .int x, l2] (.int x :: st) (S, I, R, z) Q := RB_iloadn rfl rfl
theorem w69_158 : RB d 69 158 [l0, l1, .int x] st (S, I, R, z) Q = RB d 69 159 [l0, l1, .int x] (.int x :: st) (S, I, R, z) Q := RB_iloadn rfl rfl
theorem w69_159 : RB d 69 159 [l0, l1, l2] (.int y :: .int x :: st) (S, I, R, z) Q = (¬ y = 0 ∧ RB d 69 160 [l0, l1, l2] (.int (x / y) :: st) (S, I, R, z) Q) := RB_idiv rfl
theorem w69_160 : RB d 69 160 [l0, l1, l2] [.int x] (S, I, R, z) Q = Q (some (.int x)) (S, I, R, z) := RB_iret rfl rfl rfl
/-! 70: HangedWord$Ways.<init> -/
theorem w70_0 : RB d 70 0 [.ref a] st (S, I, R, z) Q = RB d 70 1 [.ref a] (.ref a :: st) (S, I, R, z) Q := RB_aloadn rfl rfl
theorem w70_1 : RB d 70 1 [l0] [.ref a] (S, I, R, z) Q = RM d 1000 [.ref a] (S, I, R, z) (fun v τ => RB d 70 4 [l0] (aPush v []) τ Q) := RB_callS (n := 1) (t := 2) (k := 3) (ins := .invokespecial 3) rfl rfl rfl (Nat.le_of_ble_eq_true rfl) (Nat.le_of_ble_eq_true rfl) rfl rfl
theorem w70_4 : RB d 70 4 [.ref a] st (S, I, R, z) Q = RB d 70 5 [.ref a] (.ref a :: st) (S, I, R, z) Q := RB_aloadn rfl rfl
theorem w70_5 : RB d 70 5 [l0] st (S, I, R, z) Q = RB d 70 8 [l0] (.int 768 :: st) (S, I, R, z) Q := RB_sipush rfl ks768
theorem w70_8 : RB d 70 8 [l0] (.int i :: st) σ Q = ((¬ i < 0 ∧ i.toNatClampNeg ≤ 5000) ∧ RB d 70 10 [l0] (.ref σ.2.2.2.1 :: st) (aNc 9 i.toNatClampNeg σ) Q) := RB_newI rfl
theorem w70_10 : RB d 70 10 [l0] (.ref b :: .ref a :: st) (S, I, R, z) Q = (((S a).1 = 5 ∧ 5 < 8 ∧ 16 ≤ a) ∧ RB d 70 13 [l0] st (S, I, aR R a 0 (some b), z) Q) := RB_putR rfl rfl (Or.inr (by decide +kernel))
theorem w70_13 : RB d 70 13 [.ref a] st (S, I, R, z) Q = RB d 70 14 [.ref a] (.ref a :: st) (S, I, R, z) Q := RB_aloadn rfl rfl
theorem w70_14 : RB d 70 14 [l0] st (S, I, R, z) Q = RB d 70 15 [l0] (.int 0 :: st) (S, I, R, z) Q := RB_iconst rfl ki0
theorem w70_15 : RB d 70 15 [l0] (.int x :: .ref a :: st) (S, I, R, z) Q = (((S a).1 = 5 ∧ 5 < 8 ∧ 16 ≤ a) ∧ RB d 70 18 [l0] st (S, aW I a 1 x, R, z) Q) := RB_putI rfl rfl (Or.inl rfl)
theorem w70_18 : RB d 70 18 [.ref a] st (S, I, R, z) Q = RB d 70 19 [.ref a] (.ref a :: st) (S, I, R, z) Q := RB_aloadn rfl rfl
theorem w70_19 : RB d 70 19 [l0] st (S, I, R, z) Q = RB d 70 21 [l0] (.int (-1000000005) :: st) (S, I, R, z) Q := RB_ldc rfl rfl
theorem w70_21 : RB d 70 21 [l0] (.int x :: .ref a :: st) (S, I, R, z) Q = (((S a).1 = 5 ∧ 5 < 8 ∧ 16 ≤ a) ∧ RB d 70 24 [l0] st (S, aW I a 2 x, R, z) Q) := RB_putI rfl rfl (Or.inl rfl)
theorem w70_24 : RB d 70 24 [l0] [] (S, I, R, z) Q = Q none (S, I, R, z) := RB_ret rfl rfl
/-! 71: HangedWord$Ways.foresee -/
theorem w71_0 : RB d 71 0 [.ref a, l1, l2, l3] st (S, I, R, z) Q = RB d 71 1 [.ref a, l1, l2, l3] (.ref a :: st) (S, I, R, z) Q := RB_aloadn rfl rfl
theorem w71_1 : RB d 71 1 [l0, l1, l2, l3] st (S, I, R, z) Q = RB d 71 2 [l0, l1, l2, l3] (.int 0 :: st) (S, I, R, z) Q := RB_iconst rfl ki0
theorem w71_2 : RB d 71 2 [l0, l1, l2, l3] (.int x :: .ref a :: st) (S, I, R, z) Q = (((S a).1 = 5 ∧ 5 < 8 ∧ 16 ≤ a) ∧ RB d 71 5 [l0, l1, l2, l3] st (S, aW I a 1 x, R, z) Q) := RB_putI rfl rfl (Or.inl rfl)
theorem w71_5 : RB d 71 5 [.ref a, l1, l2, l3] st (S, I, R, z) Q = RB d 71 6 [.ref a, l1, l2, l3] (.ref a :: st) (S, I, R, z) Q := RB_aloadn rfl rfl
theorem w71_6 : RB d 71 6 [l0, l1, l2, l3] st (S, I, R, z) Q = RB d 71 8 [l0, l1, l2, l3] (.int (-1000000005) :: st) (S, I, R, z) Q := RB_ldc rfl rfl
theorem w71_8 : RB d 71 8 [l0, l1, l2, l3] (.int x :: .ref a :: st) (S, I, R, z) Q = (((S a).1 = 5 ∧ 5 < 8 ∧ 16 ≤ a) ∧ RB d 71 11 [l0, l1, l2, l3] st (S, aW I a 2 x, R, z) Q) := RB_putI rfl rfl (Or.inl rfl)
theorem w71_11 : RB d 71 11 [l0, .ref a, l2, l3] st (S, I, R, z) Q = RB d 71 12 [l0, .ref a, l2, l3] (.ref a :: st) (S, I, R, z) Q := RB_aloadn rfl rfl
theorem w71_11N : RB d 71 11 [l0, .null, l2, l3] st (S, I, R, z) Q = RB d 71 12 [l0, .null, l2, l3] (.null :: st) (S, I, R, z) Q := RB_aloadnN rfl rfl
theorem w71_12 : RB d 71 12 [l0, l1, l2, l3] [.ref a] (S, I, R, z) Q = ((S a).1 = 2 ∧ RM d 21 [.ref a] (S, I, R, z) (fun v τ => RB d 71 15 [l0, l1, l2, l3] (aPush v []) τ Q)) := RB_callV (n := 1) (t := 0) (k := 23) (ins := .invokevirtual 23) rfl rfl rfl (by decide) (Nat.le_of_ble_eq_true rfl) (Nat.le_of_ble_eq_true rfl) rfl rfl
theorem w71_15 : RB d 71 15 [l0, l1, l2, l3] (.int x :: st) (S, I, R, z) Q = RB d 71 16 [l0, l1, .int x, l3] st (S, I, R, z) Q := RB_istoren rfl (Nat.le_of_ble_eq_true rfl) rfl
theorem w71_16 : RB d 71 16 [l0, .ref a, l2, l3] st (S, I, R, z) Q = RB d 71 17 [l0, .ref a, l2, l3] (.ref a :: st) (S, I, R, z) Q := RB_aloadn rfl rfl
theorem w71_16N : RB d 71 16 [l0, .null, l2, l3] st (S, I, R, z) Q = RB d 71 17 [l0, .null, l2, l3] (.null :: st) (S, I, R, z) Q := RB_aloadnN rfl rfl
theorem w71_17 : RB d 71 17 [l0, l1, l2, l3] (.ref a :: st) (S, I, R, z) Q = ((S a).1 = 2 ∧ RB d 71 20 [l0, l1, l2, l3] (.int (I a 7) :: st) (S, I, R, z) Q) := RB_getI rfl rfl
theorem w71_20 : RB d 71 20 [l0, l1, l2, l3] (.int x :: st) (S, I, R, z) Q = ((0 ≤ x → RB d 71 24 [l0, l1, l2, l3] st (S, I, R, z) Q) ∧ (¬ 0 ≤ x → RB d 71 23 [l0, l1, l2, l3] st (S, I, R, z) Q)) := RB_ge0 rfl (by decide) rfl
theorem w71_23 : RB d 71 23 [l0, l1, l2, l3] [] (S, I, R, z) Q = Q none (S, I, R, z) := RB_ret rfl rfl
theorem w71_24 : RB d 71 24 [l0, l1, l2, l3] st (S, I, R, z) Q = RB d 71 26 [l0, l1, l2, l3] (.int 63 :: st) (S, I, R, z) Q := RB_bipush rfl kb63
theorem w71_26 : RB d 71 26 [l0, l1, l2, l3] (.int x :: st) (S, I, R, z) Q = RB d 71 27 [l0, l1, l2, .int x] st (S, I, R, z) Q := RB_istoren rfl (Nat.le_of_ble_eq_true rfl) rfl
theorem w71_27 : RB d 71 27 [l0, l1, l2, .int x] st (S, I, R, z) Q = RB d 71 28 [l0, l1, l2, .int x] (.int x :: st) (S, I, R, z) Q := RB_iloadn rfl rfl
theorem w71_28 : RB d 71 28 [l0, .ref a, l2, l3] st (S, I, R, z) Q = RB d 71 29 [l0, .ref a, l2, l3] (.ref a :: st) (S, I, R, z) Q := RB_aloadn rfl rfl
theorem w71_28N : RB d 71 28 [l0, .null, l2, l3] st (S, I, R, z) Q = RB d 71 29 [l0, .null, l2, l3] (.null :: st) (S, I, R, z) Q := RB_aloadnN rfl rfl
theorem w71_29 : RB d 71 29 [l0, l1, l2, l3] (.ref a :: st) (S, I, R, z) Q = ((S a).1 = 2 ∧ RB d 71 32 [l0, l1, l2, l3] (.int (I a 8) :: st) (S, I, R, z) Q) := RB_getI rfl rfl
theorem w71_32 : RB d 71 32 [l0, l1, l2, l3] (.int y :: .int x :: st) (S, I, R, z) Q = ((x < y → RB d 71 61 [l0, l1, l2, l3] st (S, I, R, z) Q) ∧ (¬ x < y → RB d 71 35 [l0, l1, l2, l3] st (S, I, R, z) Q)) := RB_ilt rfl (by decide) rfl
theorem w71_35 : RB d 71 35 [l0, l1, l2, .int x] st (S, I, R, z) Q = RB d 71 36 [l0, l1, l2, .int x] (.int x :: st) (S, I, R, z) Q := RB_iloadn rfl rfl
theorem w71_36 : RB d 71 36 [l0, .ref a, l2, l3] st (S, I, R, z) Q = RB d 71 37 [l0, .ref a, l2, l3] (.ref a :: st) (S, I, R, z) Q := RB_aloadn rfl rfl
theorem w71_36N : RB d 71 36 [l0, .null, l2, l3] st (S, I, R, z) Q = RB d 71 37 [l0, .null, l2, l3] (.null :: st) (S, I, R, z) Q := RB_aloadnN rfl rfl
theorem w71_37 : RB d 71 37 [l0, l1, l2, l3] (.ref a :: st) (S, I, R, z) Q = ((S a).1 = 2 ∧ RB d 71 40 [l0, l1, l2, l3] (.int (I a 8) :: st) (S, I, R, z) Q) := RB_getI rfl rfl
theorem w71_40 : RB d 71 40 [l0, l1, l2, l3] (.int y :: .int x :: st) (S, I, R, z) Q = RB d 71 41 [l0, l1, l2, l3] (.int (x &&& y) :: st) (S, I, R, z) Q := RB_iand rfl
theorem w71_41 : RB d 71 41 [l0, .ref a, l2, l3] st (S, I, R, z) Q = RB d 71 42 [l0, .ref a, l2, l3] (.ref a :: st) (S, I, R, z) Q := RB_aloadn rfl rfl
theorem w71_41N : RB d 71 41 [l0, .null, l2, l3] st (S, I, R, z) Q = RB d 71 42 [l0, .null, l2, l3] (.null :: st) (S, I, R, z) Q := RB_aloadnN rfl rfl
theorem w71_42 : RB d 71 42 [l0, l1, l2, l3] (.ref a :: st) (S, I, R, z) Q = ((S a).1 = 2 ∧ RB d 71 45 [l0, l1, l2, l3] (.int (I a 8) :: st) (S, I, R, z) Q) := RB_getI rfl rfl
theorem w71_45 : RB d 71 45 [l0, l1, l2, l3] (.int y :: .int x :: st) (S, I, R, z) Q = ((x = y → RB d 71 48 [l0, l1, l2, l3] st (S, I, R, z) Q) ∧ (¬ x = y → RB d 71 55 [l0, l1, l2, l3] st (S, I, R, z) Q)) := RB_ine rfl (by decide) rfl
theorem w71_48 : RB d 71 48 [.ref a, l1, l2, l3] st (S, I, R, z) Q = RB d 71 49 [.ref a, l1, l2, l3] (.ref a :: st) (S, I, R, z) Q := RB_aloadn rfl rfl
theorem w71_49 : RB d 71 49 [l0, .ref a, l2, l3] st (S, I, R, z) Q = RB d 71 50 [l0, .ref a, l2, l3] (.ref a :: st) (S, I, R, z) Q := RB_aloadn rfl rfl
theorem w71_49N : RB d 71 49 [l0, .null, l2, l3] st (S, I, R, z) Q = RB d 71 50 [l0, .null, l2, l3] (.null :: st) (S, I, R, z) Q := RB_aloadnN rfl rfl
theorem w71_50 : RB d 71 50 [l0, l1, l2, .int x] st (S, I, R, z) Q = RB d 71 51 [l0, l1, l2, .int x] (.int x :: st) (S, I, R, z) Q := RB_iloadn rfl rfl
theorem w71_51 : RB d 71 51 [l0, l1, .int x, l3] st (S, I, R, z) Q = RB d 71 52 [l0, l1, .int x, l3] (.int x :: st) (S, I, R, z) Q := RB_iloadn rfl rfl
theorem w71_52 : RB d 71 52 [l0, l1, l2, l3] [.int x2, .int x1, v0, .ref a] (S, I, R, z) Q = ((S a).1 = 5 ∧ RM d 72 [.ref a, v0, .int x1, .int x2] (S, I, R, z) (fun v τ => RB d 71 55 [l0, l1, l2, l3] (aPush v []) τ Q)) := RB_callV (n := 4) (t := 0) (k := 35) (ins := .invokevirtual 35) rfl rfl rfl (by decide) (Nat.le_of_ble_eq_true rfl) (Nat.le_of_ble_eq_true rfl) rfl rfl
theorem w71_55 : RB d 71 55 [l0, l1, l2, .int x] st (S, I, R, z) Q = RB d 71 58 [l0, l1, l2, .int (x + (-1))] st (S, I, R, z) Q := RB_iinc rfl rfl (Nat.le_of_ble_eq_true rfl) kim1 rfl
theorem w71_58 : RB d 71 58 [l0, l1, l2, l3] st (S, I, R, z) Q = RB d 71 27 [l0, l1, l2, l3] st (S, I, R, z) Q := RB_goto rfl (by decide) rfl
theorem w71_61 : RB d 71 61 [.ref a, l1, l2, l3] st (S, I, R, z) Q = RB d 71 62 [.ref a, l1, l2, l3] (.ref a :: st) (S, I, R, z) Q := RB_aloadn rfl rfl
theorem w71_62 : RB d 71 62 [.ref a, l1, l2, l3] st (S, I, R, z) Q = RB d 71 63 [.ref a, l1, l2, l3] (.ref a :: st) (S, I, R, z) Q := RB_aloadn rfl rfl
theorem w71_63 : RB d 71 63 [l0, l1, l2, l3] (.ref a :: st) (S, I, R, z) Q = ((S a).1 = 5 ∧ RB d 71 66 [l0, l1, l2, l3] (va_rf (R a 0) :: st) (S, I, R, z) Q) := RB_getR rfl rfl
theorem w71_66 : RB d 71 66 [l0, .ref a, l2, l3] st (S, I, R, z) Q = RB d 71 67 [l0, .ref a, l2, l3] (.ref a :: st) (S, I, R, z) Q := RB_aloadn rfl rfl
theorem w71_66N : RB d 71 66 [l0, .null, l2, l3] st (S, I, R, z) Q = RB d 71 67 [l0, .null, l2, l3] (.null :: st) (S, I, R, z) Q := RB_aloadnN rfl rfl
theorem w71_67 : RB d 71 67 [l0, l1, l2, l3] (.ref a :: st) (S, I, R, z) Q = ((S a).1 = 2 ∧ RB d 71 70 [l0, l1, l2, l3] (.int (I a 8) :: st) (S, I, R, z) Q) := RB_getI rfl rfl
theorem w71_70 : RB d 71 70 [l0, l1, l2, l3] st (S, I, R, z) Q = RB d 71 72 [l0, l1, l2, l3] (.int 12 :: st) (S, I, R, z) Q := RB_bipush rfl kb12
theorem w71_72 : RB d 71 72 [l0, l1, l2, l3] (.int y :: .int x :: st) (S, I, R, z) Q = RB d 71 73 [l0, l1, l2, l3] (.int (x * y) :: st) (S, I, R, z) Q := RB_imul rfl
theorem w71_73 : RB d 71 73 [l0, .ref a, l2, l3] st (S, I, R, z) Q = RB d 71 74 [l0, .ref a, l2, l3] (.ref a :: st) (S, I, R, z) Q := RB_aloadn rfl rfl
theorem w71_73N : RB d 71 73 [l0, .null, l2, l3] st (S, I, R, z) Q = RB d 71 74 [l0, .null, l2, l3] (.null :: st) (S, I, R, z) Q := RB_aloadnN rfl rfl
theorem w71_74 : RB d 71 74 [l0, l1, l2, l3] (.ref a :: st) (S, I, R, z) Q = ((S a).1 = 2 ∧ RB d 71 77 [l0, l1, l2, l3] (.int (I a 7) :: st) (S, I, R, z) Q) := RB_getI rfl rfl
theorem w71_77 : RB d 71 77 [l0, l1, l2, l3] (.int y :: .int x :: st) (S, I, R, z) Q = RB d 71 78 [l0, l1, l2, l3] (.int (x + y) :: st) (S, I, R, z) Q := RB_iadd rfl
theorem w71_78 : RB d 71 78 [l0, l1, l2, l3] (.int i :: .ref a :: st) (S, I, R, z) Q = (((S a).1 = 9 ∧ aIx i (S a).2) ∧ RB d 71 79 [l0, l1, l2, l3] (.int (I a i.toNatClampNeg) :: st) (S, I, R, z) Q) := RB_iald rfl
theorem w71_79 : RB d 71 79 [l0, l1, l2, l3] (.int x :: .ref a :: st) (S, I, R, z) Q = (((S a).1 = 5 ∧ 5 < 8 ∧ 16 ≤ a) ∧ RB d 71 82 [l0, l1, l2, l3] st (S, aW I a 1 x, R, z) Q) := RB_putI rfl rfl (Or.inl rfl)
theorem w71_82 : RB d 71 82 [.ref a, l1, l2, l3] st (S, I, R, z) Q = RB d 71 83 [.ref a, l1, l2, l3] (.ref a :: st) (S, I, R, z) Q := RB_aloadn rfl rfl
theorem w71_83 : RB d 71 83 [.ref a, l1, l2, l3] st (S, I, R, z) Q = RB d 71 84 [.ref a, l1, l2, l3] (.ref a :: st) (S, I, R, z) Q := RB_aloadn rfl rfl
theorem w71_84 : RB d 71 84 [l0, .ref a, l2, l3] st (S, I, R, z) Q = RB d 71 85 [l0, .ref a, l2, l3] (.ref a :: st) (S, I, R, z) Q := RB_aloadn rfl rfl
theorem w71_84N : RB d 71 84 [l0, .null, l2, l3] st (S, I, R, z) Q = RB d 71 85 [l0, .null, l2, l3] (.null :: st) (S, I, R, z) Q := RB_aloadnN rfl rfl
theorem w71_85 : RB d 71 85 [l0, l1, .int x, l3] st (S, I, R, z) Q = RB d 71 86 [l0, l1, .int x, l3] (.int x :: st) (S, I, R, z) Q := RB_iloadn rfl rfl
theorem w71_86 : RB d 71 86 [l0, l1, l2, l3] [.int x1, v0, .ref a, s0] (S, I, R, z) Q = ((S a).1 = 5 ∧ RM d 75 [.ref a, v0, .int x1] (S, I, R, z) (fun v τ => RB d 71 89 [l0, l1, l2, l3] (aPush v [s0]) τ Q)) := RB_callV (n := 3) (t := 0) (k := 39) (ins := .invokevirtual 39) rfl rfl rfl (by decide) (Nat.le_of_ble_eq_true rfl) (Nat.le_of_ble_eq_true rfl) rfl rfl
theorem w71_89 : RB d 71 89 [l0, l1, l2, l3] (.int x :: .ref a :: st) (S, I, R, z) Q = (((S a).1 = 5 ∧ 5 < 8 ∧ 16 ≤ a) ∧ RB d 71 92 [l0, l1, l2, l3] st (S, aW I a 2 x, R, z) Q) := RB_putI rfl rfl (Or.inl rfl)
theorem w71_92 : RB d 71 92 [l0, l1, l2, l3] [] (S, I, R, z) Q = Q none (S, I, R, z) := RB_ret rfl rfl
/-! 72: HangedWord$Ways.foreseeFrom -/
theorem w72_0 : RB d 72 0 [l0, l1, l2, l3, l4] st (S, I, R, z) Q = RB d 72 1 [l0, l1, l2, l3, l4] (.int 0 :: st) (S, I, R, z) Q := RB_iconst rfl ki0
theorem w72_1 : RB d 72 1 [l0, l1, l2, l3, l4] (.int x :: st) (S, I, R, z) Q = RB d 72 3 [l0, l1, l2, l3, .int x] st (S, I, R, z) Q := RB_istore rfl (Nat.le_of_ble_eq_true rfl) rfl
theorem w72_3 : RB d 72 3 [l0, l1, l2, l3, .int x] st (S, I, R, z) Q = RB d 72 5 [l0, l1, l2, l3, .int x] (.int x :: st) (S, I, R, z) Q := RB_iload rfl rfl
theorem w72_5 : RB d 72 5 [l0, .ref a, l2, l3, l4] st (S, I, R, z) Q = RB d 72 6 [l0, .ref a, l2, l3, l4] (.ref a :: st) (S, I, R, z) Q := RB_aloadn rfl rfl
theorem w72_5N : RB d 72 5 [l0, .null, l2, l3, l4] st (S, I, R, z) Q = RB d 72 6 [l0, .null, l2, l3, l4] (.null :: st) (S, I, R, z) Q := RB_aloadnN rfl rfl
theorem w72_6 : RB d 72 6 [l0, l1, l2, l3, l4] (.ref a :: st) (S, I, R, z) Q = ((S a).1 = 2 ∧ RB d 72 9 [l0, l1, l2, l3, l4] (.int (I a 3) :: st) (S, I, R, z) Q) := RB_getI rfl rfl
theorem w72_9 : RB d 72 9 [l0, l1, l2, l3, l4] (.int y :: .int x :: st) (S, I, R, z) Q = ((y ≤ x → RB d 72 47 [l0, l1, l2, l3, l4] st (S, I, R, z) Q) ∧ (¬ y ≤ x → RB d 72 12 [l0, l1, l2, l3, l4] st (S, I, R, z) Q)) := RB_ige rfl (by decide) rfl
theorem w72_12 : RB d 72 12 [l0, l1, l2, .int x, l4] st (S, I, R, z) Q = RB d 72 13 [l0, l1, l2, .int x, l4] (.int x :: st) (S, I, R, z) Q := RB_iloadn rfl rfl
theorem w72_13 : RB d 72 13 [l0, l1, l2, l3, .int x] st (S, I, R, z) Q = RB d 72 15 [l0, l1, l2, l3, .int x] (.int x :: st) (S, I, R, z) Q := RB_iload rfl rfl
theorem w72_15 : RB d 72 15 [l0, l1, l2, l3, l4] [.int x1, .int x0] (S, I, R, z) Q = RM d 129 [.int x0, .int x1] (S, I, R, z) (fun v τ => RB d 72 18 [l0, l1, l2, l3, l4] (aPush v []) τ Q) := RB_callS (n := 2) (t := 1) (k := 46) (ins := .invokestatic 46) rfl rfl rfl (Nat.le_of_ble_eq_true rfl) (Nat.le_of_ble_eq_true rfl) rfl rfl
theorem w72_18 : RB d 72 18 [l0, l1, l2, l3, l4] (.int x :: st) (S, I, R, z) Q = ((x = 0 → RB d 72 41 [l0, l1, l2, l3, l4] st (S, I, R, z) Q) ∧ (¬ x = 0 → RB d 72 21 [l0, l1, l2, l3, l4] st (S, I, R, z) Q)) := RB_eq0 rfl (by decide) rfl
theorem w72_21 : RB d 72 21 [.ref a, l1, l2, l3, l4] st (S, I, R, z) Q = RB d 72 22 [.ref a, l1, l2, l3, l4] (.ref a :: st) (S, I, R, z) Q := RB_aloadn rfl rfl
theorem w72_22 : RB d 72 22 [l0, l1, l2, l3, l4] (.ref a :: st) (S, I, R, z) Q = ((S a).1 = 5 ∧ RB d 72 25 [l0, l1, l2, l3, l4] (va_rf (R a 0) :: st) (S, I, R, z) Q) := RB_getR rfl rfl
theorem w72_25 : RB d 72 25 [l0, l1, .int x, l3, l4] st (S, I, R, z) Q = RB d 72 26 [l0, l1, .int x, l3, l4] (.int x :: st) (S, I, R, z) Q := RB_iloadn rfl rfl
theorem w72_26 : RB d 72 26 [l0, l1, l2, l3, l4] st (S, I, R, z) Q = RB d 72 28 [l0, l1, l2, l3, l4] (.int 12 :: st) (S, I, R, z) Q := RB_bipush rfl kb12
theorem w72_28 : RB d 72 28 [l0, l1, l2, l3, l4] (.int y :: .int x :: st) (S, I, R, z) Q = RB d 72 29 [l0, l1, l2, l3, l4] (.int (x * y) :: st) (S, I, R, z) Q := RB_imul rfl
theorem w72_29 : RB d 72 29 [l0, l1, l2, l3, .int x] st (S, I, R, z) Q = RB d 72 31 [l0, l1, l2, l3, .int x] (.int x :: st) (S, I, R, z) Q := RB_iload rfl rfl
theorem w72_31 : RB d 72 31 [l0, l1, l2, l3, l4] (.int y :: .int x :: st) (S, I, R, z) Q = RB d 72 32 [l0, l1, l2, l3, l4] (.int (x + y) :: st) (S, I, R, z) Q := RB_iadd rfl
theorem w72_32 : RB d 72 32 [.ref a, l1, l2, l3, l4] st (S, I, R, z) Q = RB d 72 33 [.ref a, l1, l2, l3, l4] (.ref a :: st) (S, I, R, z) Q := RB_aloadn rfl rfl
theorem w72_33 : RB d 72 33 [l0, .ref a, l2, l3, l4] st (S, I, R, z) Q = RB d 72 34 [l0, .ref a, l2, l3, l4] (.ref a :: st) (S, I, R, z) Q := RB_aloadn rfl rfl
theorem w72_33N : RB d 72 33 [l0, .null, l2, l3, l4] st (S, I, R, z) Q = RB d 72 34 [l0, .null, l2, l3, l4] (.null :: st) (S, I, R, z) Q := RB_aloadnN rfl rfl
theorem w72_34 : RB d 72 34 [l0, l1, .int x, l3, l4] st (S, I, R, z) Q = RB d 72 35 [l0, l1, .int x, l3, l4] (.int x :: st) (S, I, R, z) Q := RB_iloadn rfl rfl
theorem w72_35 : RB d 72 35 [l0, l1, l2, l3, .int x] st (S, I, R, z) Q = RB d 72 37 [l0, l1, l2, l3, .int x] (.int x :: st) (S, I, R, z) Q := RB_iload rfl rfl
theorem w72_37 : RB d 72 37 [l0, l1, l2, l3, l4] [.int x2, .int x1, v0, .ref a, s0, s1] (S, I, R, z) Q = ((S a).1 = 5 ∧ RM d 73 [.ref a, v0, .int x1, .int x2] (S, I, R, z) (fun v τ => RB d 72 40 [l0, l1, l2, l3, l4] (aPush v [s0, s1]) τ Q)) := RB_callV (n := 4) (t := 0) (k := 50) (ins := .invokevirtual 50) rfl rfl rfl (by decide) (Nat.le_of_ble_eq_true rfl) (Nat.le_of_ble_eq_true rfl) rfl rfl
theorem w72_40 : RB d 72 40 [l0, l1, l2, l3, l4] (.int x :: .int i :: .ref a :: st) (S, I, R, z) Q = (((S a).1 = 9 ∧ aIx i (S a).2 ∧ 16 ≤ a) ∧ RB d 72 41 [l0, l1, l2, l3, l4] st (S, aW I a i.toNatClampNeg x, R, z) Q) := RB_iast rfl
theorem w72_41 : RB d 72 41 [l0, l1, l2, l3, .int x] st (S, I, R, z) Q = RB d 72 44 [l0, l1, l2, l3, .int (x + 1)] st (S, I, R, z) Q := RB_iinc rfl rfl (Nat.le_of_ble_eq_true rfl) ki1 rfl
theorem w72_44 : RB d 72 44 [l0, l1, l2, l3, l4] st (S, I, R, z) Q = RB d 72 3 [l0, l1, l2, l3, l4] st (S, I, R, z) Q := RB_goto rfl (by decide) rfl
theorem w72_47 : RB d 72 47 [l0, l1, l2, l3, l4] [] (S, I, R, z) Q = Q none (S, I, R, z) := RB_ret rfl rfl
/-! 73: HangedWord$Ways.leastFor -/
theorem w73_0 : RB d 73 0 [l0, .ref a, l2, l3, l4, l5, l6] st (S, I, R, z) Q = RB d 73 1 [l0, .ref a, l2, l3, l4, l5, l6] (.ref a :: st) (S, I, R, z) Q := RB_aloadn rfl rfl
theorem w73_0N : RB d 73 0 [l0, .null, l2, l3, l4, l5, l6] st (S, I, R, z) Q = RB d 73 1 [l0, .null, l2, l3, l4, l5, l6] (.null :: st) (S, I, R, z) Q := RB_aloadnN rfl rfl
theorem w73_1 : RB d 73 1 [l0, l1, l2, .int x, l4, l5, l6] st (S, I, R, z) Q = RB d 73 2 [l0, l1, l2, .int x, l4, l5, l6] (.int x :: st) (S, I, R, z) Q := RB_iloadn rfl rfl
theorem w73_2 : RB d 73 2 [l0, l1, l2, l3, l4, l5, l6] [.int x0, .ref a] (S, I, R, z) Q = ((S a).1 = 2 ∧ RM d 15 [.ref a, .int x0] (S, I, R, z) (fun v τ => RB d 73 5 [l0, l1, l2, l3, l4, l5, l6] (aPush v []) τ Q)) := RB_callV (n := 2) (t := 0) (k := 54) (ins := .invokevirtual 54) rfl rfl rfl (by decide) (Nat.le_of_ble_eq_true rfl) (Nat.le_of_ble_eq_true rfl) rfl rfl
theorem w73_5 : RB d 73 5 [l0, l1, .int x, l3, l4, l5, l6] st (S, I, R, z) Q = RB d 73 6 [l0, l1, .int x, l3, l4, l5, l6] (.int x :: st) (S, I, R, z) Q := RB_iloadn rfl rfl
theorem w73_6 : RB d 73 6 [l0, l1, l2, l3, l4, l5, l6] st (S, I, R, z) Q = RB d 73 7 [l0, l1, l2, l3, l4, l5, l6] (.int (-1) :: st) (S, I, R, z) Q := RB_iconst rfl kim1
theorem w73_7 : RB d 73 7 [l0, l1, l2, l3, l4, l5, l6] (.int y :: .int x :: st) (S, I, R, z) Q = RB d 73 8 [l0, l1, l2, l3, l4, l5, l6] (.int (x ^^^ y) :: st) (S, I, R, z) Q := RB_ixor rfl
theorem w73_8 : RB d 73 8 [l0, l1, l2, l3, l4, l5, l6] (.int y :: .int x :: st) (S, I, R, z) Q = RB d 73 9 [l0, l1, l2, l3, l4, l5, l6] (.int (x &&& y) :: st) (S, I, R, z) Q := RB_iand rfl
theorem w73_9 : RB d 73 9 [l0, l1, l2, l3, l4, l5, l6] (.int x :: st) (S, I, R, z) Q = ((x = 0 → RB d 73 12 [l0, l1, l2, l3, l4, l5, l6] st (S, I, R, z) Q) ∧ (¬ x = 0 → RB d 73 14 [l0, l1, l2, l3, l4, l5, l6] st (S, I, R, z) Q)) := RB_ne0 rfl (by decide) rfl
theorem w73_12 : RB d 73 12 [l0, l1, l2, l3, l4, l5, l6] st (S, I, R, z) Q = RB d 73 13 [l0, l1, l2, l3, l4, l5, l6] (.int 0 :: st) (S, I, R, z) Q := RB_iconst rfl ki0
theorem w73_13 : RB d 73 13 [l0, l1, l2, l3, l4, l5, l6] [.int x] (S, I, R, z) Q = Q (some (.int x)) (S, I, R, z) := RB_iret rfl rfl rfl
theorem w73_14 : RB d 73 14 [l0, .ref a, l2, l3, l4, l5, l6] st (S, I, R, z) Q = RB d 73 15 [l0, .ref a, l2, l3, l4, l5, l6] (.ref a :: st) (S, I, R, z) Q := RB_aloadn rfl rfl
theorem w73_14N : RB d 73 14 [l0, .null, l2, l3, l4, l5, l6] st (S, I, R, z) Q = RB d 73 15 [l0, .null, l2, l3, l4, l5, l6] (.null :: st) (S, I, R, z) Q := RB_aloadnN rfl rfl
theorem w73_15 : RB d 73 15 [l0, l1, l2, .int x, l4, l5, l6] st (S, I, R, z) Q = RB d 73 16 [l0, l1, l2, .int x, l4, l5, l6] (.int x :: st) (S, I, R, z) Q := RB_iloadn rfl rfl
theorem w73_16 : RB d 73 16 [l0, l1, .int x, l3, l4, l5, l6] st (S, I, R, z) Q = RB d 73 17 [l0, l1, .int x, l3, l4, l5, l6] (.int x :: st) (S, I, R, z) Q := RB_iloadn rfl rfl
theorem w73_17 : RB d 73 17 [l0, l1, l2, l3, l4, l5, l6] [.int x1, .int x0, .ref a] (S, I, R, z) Q = ((S a).1 = 2 ∧ RM d 19 [.ref a, .int x0, .int x1] (S, I, R, z) (fun v τ => RB d 73 20 [l0, l1, l2, l3, l4, l5, l6] (aPush v []) τ Q)) := RB_callV (n := 3) (t := 0) (k := 58) (ins := .invokevirtual 58) rfl rfl rfl (by decide) (Nat.le_of_ble_eq_true rfl) (Nat.le_of_ble_eq_true rfl) rfl rfl
theorem w73_20 : RB d 73 20 [l0, l1, l2, l3, l4, l5, l6] (.int x :: st) (S, I, R, z) Q = RB d 73 22 [l0, l1, l2, l3, .int x, l5, l6] st (S, I, R, z) Q := RB_istore rfl (Nat.le_of_ble_eq_true rfl) rfl
theorem w73_22 : RB d 73 22 [l0, l1, l2, l3, l4, l5, l6] st (S, I, R, z) Q = RB d 73 24 [l0, l1, l2, l3, l4, l5, l6] (.int 6 :: st) (S, I, R, z) Q := RB_bipush rfl kb6
theorem w73_24 : RB d 73 24 [l0, l1, l2, l3, l4, l5, l6] (.int x :: st) (S, I, R, z) Q = RB d 73 26 [l0, l1, l2, l3, l4, .int x, l6] st (S, I, R, z) Q := RB_istore rfl (Nat.le_of_ble_eq_true rfl) rfl
theorem w73_26 : RB d 73 26 [l0, l1, l2, l3, l4, l5, l6] st (S, I, R, z) Q = RB d 73 27 [l0, l1, l2, l3, l4, l5, l6] (.int 0 :: st) (S, I, R, z) Q := RB_iconst rfl ki0
theorem w73_27 : RB d 73 27 [l0, l1, l2, l3, l4, l5, l6] (.int x :: st) (S, I, R, z) Q = RB d 73 29 [l0, l1, l2, l3, l4, l5, .int x] st (S, I, R, z) Q := RB_istore rfl (Nat.le_of_ble_eq_true rfl) rfl
theorem w73_29 : RB d 73 29 [l0, l1, l2, l3, l4, l5, .int x] st (S, I, R, z) Q = RB d 73 31 [l0, l1, l2, l3, l4, l5, .int x] (.int x :: st) (S, I, R, z) Q := RB_iload rfl rfl
theorem w73_31 : RB d 73 31 [l0, l1, l2, l3, l4, l5, l6] st (S, I, R, z) Q = RB d 73 33 [l0, l1, l2, l3, l4, l5, l6] (.int 6 :: st) (S, I, R, z) Q := RB_bipush rfl kb6
theorem w73_33 : RB d 73 33 [l0, l1, l2, l3, l4, l5, l6] (.int y :: .int x :: st) (S, I, R, z) Q = ((y ≤ x → RB d 73 68 [l0, l1, l2, l3, l4, l5, l6] st (S, I, R, z) Q) ∧ (¬ y ≤ x → RB d 73 36 [l0, l1, l2, l3, l4, l5, l6] st (S, I, R, z) Q)) := RB_ige rfl (by decide) rfl
theorem w73_36 : RB d 73 36 [l0, l1, .int x, l3, l4, l5, l6] st (S, I, R, z) Q = RB d 73 37 [l0, l1, .int x, l3, l4, l5, l6] (.int x :: st) (S, I, R, z) Q := RB_iloadn rfl rfl
theorem w73_37 : RB d 73 37 [l0, l1, l2, l3, l4, l5, .int x] st (S, I, R, z) Q = RB d 73 39 [l0, l1, l2, l3, l4, l5, .int x] (.int x :: st) (S, I, R, z) Q := RB_iload rfl rfl
theorem w73_39 : RB d 73 39 [l0, l1, l2, l3, l4, l5, l6] [.int x1, .int x0] (S, I, R, z) Q = RM d 129 [.int x0, .int x1] (S, I, R, z) (fun v τ => RB d 73 42 [l0, l1, l2, l3, l4, l5, l6] (aPush v []) τ Q) := RB_callS (n := 2) (t := 1) (k := 46) (ins := .invokestatic 46) rfl rfl rfl (Nat.le_of_ble_eq_true rfl) (Nat.le_of_ble_eq_true rfl) rfl rfl
theorem w73_42 : RB d 73 42 [l0, l1, l2, l3, l4, l5, l6] (.int x :: st) (S, I, R, z) Q = ((x = 0 → RB d 73 45 [l0, l1, l2, l3, l4, l5, l6] st (S, I, R, z) Q) ∧ (¬ x = 0 → RB d 73 62 [l0, l1, l2, l3, l4, l5, l6] st (S, I, R, z) Q)) := RB_ne0 rfl (by decide) rfl
theorem w73_45 : RB d 73 45 [l0, l1, l2, l3, l4, .int x, l6] st (S, I, R, z) Q = RB d 73 47 [l0, l1, l2, l3, l4, .int x, l6] (.int x :: st) (S, I, R, z) Q := RB_iload rfl rfl
theorem w73_47 : RB d 73 47 [.ref a, l1, l2, l3, l4, l5, l6] st (S, I, R, z) Q = RB d 73 48 [.ref a, l1, l2, l3, l4, l5, l6] (.ref a :: st) (S, I, R, z) Q := RB_aloadn rfl rfl
theorem w73_48 : RB d 73 48 [l0, .ref a, l2, l3, l4, l5, l6] st (S, I, R, z) Q = RB d 73 49 [l0, .ref a, l2, l3, l4, l5, l6] (.ref a :: st) (S, I, R, z) Q := RB_aloadn rfl rfl
theorem w73_48N : RB d 73 48 [l0, .null, l2, l3, l4, l5, l6] st (S, I, R, z) Q = RB d 73 49 [l0, .null, l2, l3, l4, l5, l6] (.null :: st) (S, I, R, z) Q := RB_aloadnN rfl rfl
theorem w73_49 : RB d 73 49 [l0, l1, .int x, l3, l4, l5, l6] st (S, I, R, z) Q = RB d 73 50 [l0, l1, .int x, l3, l4, l5, l6] (.int x :: st) (S, I, R, z) Q := RB_iloadn rfl rfl
theorem w73_50 : RB d 73 50 [l0, l1, l2, l3, l4, l5, .int x] st (S, I, R, z) Q = RB d 73 52 [l0, l1, l2, l3, l4, l5, .int x] (.int x :: st) (S, I, R, z) Q := RB_iload rfl rfl
theorem w73_52 : RB d 73 52 [l0, l1, l2, l3, .int x, l5, l6] st (S, I, R, z) Q = RB d 73 54 [l0, l1, l2, l3, .int x, l5, l6] (.int x :: st) (S, I, R, z) Q := RB_iload rfl rfl
theorem w73_54 : RB d 73 54 [l0, l1, l2, l3, l4, l5, l6] [.int x3, .int x2, .int x1, v0, .ref a, s0] (S, I, R, z) Q = ((S a).1 = 5 ∧ RM d 74 [.ref a, v0, .int x1, .int x2, .int x3] (S, I, R, z) (fun v τ => RB d 73 57 [l0, l1, l2, l3, l4, l5, l6] (aPush v [s0]) τ Q)) := RB_callV (n := 5) (t := 0) (k := 62) (ins := .invokevirtual 62) rfl rfl rfl (by decide) (Nat.le_of_ble_eq_true rfl) (Nat.le_of_ble_eq_true rfl) rfl rfl
theorem w73_57 : RB d 73 57 [l0, l1, l2, l3, l4, l5, l6] [.int x1, .int x0] (S, I, R, z) Q = RM d 1003 [.int x0, .int x1] (S, I, R, z) (fun v τ => RB d 73 60 [l0, l1, l2, l3, l4, l5, l6] (aPush v []) τ Q) := RB_callS (n := 2) (t := 1) (k := 66) (ins := .invokestatic 66) rfl rfl rfl (Nat.le_of_ble_eq_true rfl) (Nat.le_of_ble_eq_true rfl) rfl rfl
theorem w73_60 : RB d 73 60 [l0, l1, l2, l3, l4, l5, l6] (.int x :: st) (S, I, R, z) Q = RB d 73 62 [l0, l1, l2, l3, l4, .int x, l6] st (S, I, R, z) Q := RB_istore rfl (Nat.le_of_ble_eq_true rfl) rfl
theorem w73_62 : RB d 73 62 [l0, l1, l2, l3, l4, l5, .int x] st (S, I, R, z) Q = RB d 73 65 [l0, l1, l2, l3, l4, l5, .int (x + 1)] st (S, I, R, z) Q := RB_iinc rfl rfl (Nat.le_of_ble_eq_true rfl) ki1 rfl
theorem w73_65 : RB d 73 65 [l0, l1, l2, l3, l4, l5, l6] st (S, I, R, z) Q = RB d 73 29 [l0, l1, l2, l3, l4, l5, l6] st (S, I, R, z) Q := RB_goto rfl (by decide) rfl
theorem w73_68 : RB d 73 68 [l0, l1, l2, l3, l4, .int x, l6] st (S, I, R, z) Q = RB d 73 70 [l0, l1, l2, l3, l4, .int x, l6] (.int x :: st) (S, I, R, z) Q := RB_iload rfl rfl
theorem w73_70 : RB d 73 70 [l0, l1, l2, l3, l4, l5, l6] [.int x] (S, I, R, z) Q = Q (some (.int x)) (S, I, R, z) := RB_iret rfl rfl rfl
/-! 74: HangedWord$Ways.atWorst -/
theorem w74_0 : RB d 74 0 [l0, l1, l2, l3, l4, l5, l6, l7] st (S, I, R, z) Q = RB d 74 1 [l0, l1, l2, l3, l4, l5, l6, l7] (.int 0 :: st) (S, I, R, z) Q := RB_iconst rfl ki0
theorem w74_1 : RB d 74 1 [l0, l1, l2, l3, l4, l5, l6, l7] (.int x :: st) (S, I, R, z) Q = RB d 74 3 [l0, l1, l2, l3, l4, .int x, l6, l7] st (S, I, R, z) Q := RB_istore rfl (Nat.le_of_ble_eq_true rfl) rfl
theorem w74_3 : RB d 74 3 [l0, l1, l2, l3, l4, l5, l6, l7] st (S, I, R, z) Q = RB d 74 4 [l0, l1, l2, l3, l4, l5, l6, l7] (.int 0 :: st) (S, I, R, z) Q := RB_iconst rfl ki0
theorem w74_4 : RB d 74 4 [l0, l1, l2, l3, l4, l5, l6, l7] (.int x :: st) (S, I, R, z) Q = RB d 74 6 [l0, l1, l2, l3, l4, l5, .int x, l7] st (S, I, R, z) Q := RB_istore rfl (Nat.le_of_ble_eq_true rfl) rfl
theorem w74_6 : RB d 74 6 [l0, l1, l2, l3, l4, l5, .int x, l7] st (S, I, R, z) Q = RB d 74 8 [l0, l1, l2, l3, l4, l5, .int x, l7] (.int x :: st) (S, I, R, z) Q := RB_iload rfl rfl
theorem w74_8 : RB d 74 8 [l0, .ref a, l2, l3, l4, l5, l6, l7] st (S, I, R, z) Q = RB d 74 9 [l0, .ref a, l2, l3, l4, l5, l6, l7] (.ref a :: st) (S, I, R, z) Q := RB_aloadn rfl rfl
theorem w74_8N : RB d 74 8 [l0, .null, l2, l3, l4, l5, l6, l7] st (S, I, R, z) Q = RB d 74 9 [l0, .null, l2, l3, l4, l5, l6, l7] (.null :: st) (S, I, R, z) Q := RB_aloadnN rfl rfl
theorem w74_9 : RB d 74 9 [l0, l1, l2, l3, l4, l5, l6, l7] (.ref a :: st) (S, I, R, z) Q = ((S a).1 = 2 ∧ RB d 74 12 [l0, l1, l2, l3, l4, l5, l6, l7] (.int (I a 3) :: st) (S, I, R, z) Q) := RB_getI rfl rfl
theorem w74_12 : RB d 74 12 [l0, l1, l2, l3, l4, l5, l6, l7] (.int y :: .int x :: st) (S, I, R, z) Q = ((y ≤ x → RB d 74 74 [l0, l1, l2, l3, l4, l5, l6, l7] st (S, I, R, z) Q) ∧ (¬ y ≤ x → RB d 74 15 [l0, l1, l2, l3, l4, l5, l6, l7] st (S, I, R, z) Q)) := RB_ige rfl (by decide) rfl
theorem w74_15 : RB d 74 15 [l0, l1, l2, l3, .int x, l5, l6, l7] st (S, I, R, z) Q = RB d 74 17 [l0, l1, l2, l3, .int x, l5, l6, l7] (.int x :: st) (S, I, R, z) Q := RB_iload rfl rfl
theorem w74_17 : RB d 74 17 [l0, l1, l2, l3, l4, l5, .int x, l7] st (S, I, R, z) Q = RB d 74 19 [l0, l1, l2, l3, l4, l5, .int x, l7] (.int x :: st) (S, I, R, z) Q := RB_iload rfl rfl
theorem w74_19 : RB d 74 19 [l0, l1, l2, l3, l4, l5, l6, l7] [.int x1, .int x0] (S, I, R, z) Q = RM d 129 [.int x0, .int x1] (S, I, R, z) (fun v τ => RB d 74 22 [l0, l1, l2, l3, l4, l5, l6, l7] (aPush v []) τ Q) := RB_callS (n := 2) (t := 1) (k := 46) (ins := .invokestatic 46) rfl rfl rfl (Nat.le_of_ble_eq_true rfl) (Nat.le_of_ble_eq_true rfl) rfl rfl
theorem w74_22 : RB d 74 22 [l0, l1, l2, l3, l4, l5, l6, l7] (.int x :: st) (S, I, R, z) Q = ((x = 0 → RB d 74 68 [l0, l1, l2, l3, l4, l5, l6, l7] st (S, I, R, z) Q) ∧ (¬ x = 0 → RB d 74 25 [l0, l1, l2, l3, l4, l5, l6, l7] st (S, I, R, z) Q)) := RB_eq0 rfl (by decide) rfl
theorem w74_25 : RB d 74 25 [l0, .ref a, l2, l3, l4, l5, l6, l7] st (S, I, R, z) Q = RB d 74 26 [l0, .ref a, l2, l3, l4, l5, l6, l7] (.ref a :: st) (S, I, R, z) Q := RB_aloadn rfl rfl
theorem w74_25N : RB d 74 25 [l0, .null, l2, l3, l4, l5, l6, l7] st (S, I, R, z) Q = RB d 74 26 [l0, .null, l2, l3, l4, l5, l6, l7] (.null :: st) (S, I, R, z) Q := RB_aloadnN rfl rfl
theorem w74_26 : RB d 74 26 [l0, l1, l2, l3, l4, l5, .int x, l7] st (S, I, R, z) Q = RB d 74 28 [l0, l1, l2, l3, l4, l5, .int x, l7] (.int x :: st) (S, I, R, z) Q := RB_iload rfl rfl
theorem w74_28 : RB d 74 28 [l0, l1, l2, .int x, l4, l5, l6, l7] st (S, I, R, z) Q = RB d 74 29 [l0, l1, l2, .int x, l4, l5, l6, l7] (.int x :: st) (S, I, R, z) Q := RB_iloadn rfl rfl
theorem w74_29 : RB d 74 29 [l0, l1, l2, l3, l4, l5, l6, l7] [.int x1, .int x0, .ref a] (S, I, R, z) Q = ((S a).1 = 2 ∧ RM d 14 [.ref a, .int x0, .int x1] (S, I, R, z) (fun v τ => RB d 74 32 [l0, l1, l2, l3, l4, l5, l6, l7] (aPush v []) τ Q)) := RB_callV (n := 3) (t := 0) (k := 71) (ins := .invokevirtual 71) rfl rfl rfl (by decide) (Nat.le_of_ble_eq_true rfl) (Nat.le_of_ble_eq_true rfl) rfl rfl
theorem w74_32 : RB d 74 32 [l0, l1, l2, l3, l4, l5, l6, l7] (.int x :: st) (S, I, R, z) Q = ((x = 0 → RB d 74 35 [l0, l1, l2, l3, l4, l5, l6, l7] st (S, I, R, z) Q) ∧ (¬ x = 0 → RB d 74 39 [l0, l1, l2, l3, l4, l5, l6, l7] st (S, I, R, z) Q)) := RB_ne0 rfl (by decide) rfl
theorem w74_35 : RB d 74 35 [l0, l1, l2, l3, l4, l5, l6, l7] st (S, I, R, z) Q = RB d 74 36 [l0, l1, l2, l3, l4, l5, l6, l7] (.int 1 :: st) (S, I, R, z) Q := RB_iconst rfl ki1
theorem w74_36 : RB d 74 36 [l0, l1, l2, l3, l4, l5, l6, l7] st (S, I, R, z) Q = RB d 74 40 [l0, l1, l2, l3, l4, l5, l6, l7] st (S, I, R, z) Q := RB_goto rfl (by decide) rfl
theorem w74_39 : RB d 74 39 [l0, l1, l2, l3, l4, l5, l6, l7] st (S, I, R, z) Q = RB d 74 40 [l0, l1, l2, l3, l4, l5, l6, l7] (.int 0 :: st) (S, I, R, z) Q := RB_iconst rfl ki0
theorem w74_40 : RB d 74 40 [l0, l1, l2, l3, l4, l5, l6, l7] (.int x :: st) (S, I, R, z) Q = RB d 74 42 [l0, l1, l2, l3, l4, l5, l6, .int x] st (S, I, R, z) Q := RB_istore rfl (Nat.le_of_ble_eq_true rfl) rfl
theorem w74_42 : RB d 74 42 [l0, l1, l2, l3, l4, .int x, l6, l7] st (S, I, R, z) Q = RB d 74 44 [l0, l1, l2, l3, l4, .int x, l6, l7] (.int x :: st) (S, I, R, z) Q := RB_iload rfl rfl
theorem w74_44 : RB d 74 44 [l0, l1, l2, l3, l4, l5, l6, .int x] st (S, I, R, z) Q = RB d 74 46 [l0, l1, l2, l3, l4, l5, l6, .int x] (.int x :: st) (S, I, R, z) Q := RB_iload rfl rfl
theorem w74_46 : RB d 74 46 [.ref a, l1, l2, l3, l4, l5, l6, l7] st (S, I, R, z) Q = RB d 74 47 [.ref a, l1, l2, l3, l4, l5, l6, l7] (.ref a :: st) (S, I, R, z) Q := RB_aloadn rfl rfl
theorem w74_47 : RB d 74 47 [l0, l1, l2, l3, l4, l5, l6, l7] (.ref a :: st) (S, I, R, z) Q = ((S a).1 = 5 ∧ RB d 74 50 [l0, l1, l2, l3, l4, l5, l6, l7] (va_rf (R a 0) :: st) (S, I, R, z) Q) := RB_getR rfl rfl
theorem w74_50 : RB d 74 50 [l0, l1, .int x, l3, l4, l5, l6, l7] st (S, I, R, z) Q = RB d 74 51 [l0, l1, .int x, l3, l4, l5, l6, l7] (.int x :: st) (S, I, R, z) Q := RB_iloadn rfl rfl
theorem w74_51 : RB d 74 51 [l0, l1, l2, l3, l4, l5, l6, l7] st (S, I, R, z) Q = RB d 74 52 [l0, l1, l2, l3, l4, l5, l6, l7] (.int 1 :: st) (S, I, R, z) Q := RB_iconst rfl ki1
theorem w74_52 : RB d 74 52 [l0, l1, l2, .int x, l4, l5, l6, l7] st (S, I, R, z) Q = RB d 74 53 [l0, l1, l2, .int x, l4, l5, l6, l7] (.int x :: st) (S, I, R, z) Q := RB_iloadn rfl rfl
theorem w74_53 : RB d 74 53 [l0, l1, l2, l3, l4, l5, l6, l7] (.int y :: .int x :: st) (S, I, R, z) Q = RB d 74 54 [l0, l1, l2, l3, l4, l5, l6, l7] (.int (x <<< (y &&& 31)) :: st) (S, I, R, z) Q := RB_ishl rfl
theorem w74_54 : RB d 74 54 [l0, l1, l2, l3, l4, l5, l6, l7] (.int y :: .int x :: st) (S, I, R, z) Q = RB d 74 55 [l0, l1, l2, l3, l4, l5, l6, l7] (.int (x ||| y) :: st) (S, I, R, z) Q := RB_ior rfl
theorem w74_55 : RB d 74 55 [l0, l1, l2, l3, l4, l5, l6, l7] st (S, I, R, z) Q = RB d 74 57 [l0, l1, l2, l3, l4, l5, l6, l7] (.int 12 :: st) (S, I, R, z) Q := RB_bipush rfl kb12
theorem w74_57 : RB d 74 57 [l0, l1, l2, l3, l4, l5, l6, l7] (.int y :: .int x :: st) (S, I, R, z) Q = RB d 74 58 [l0, l1, l2, l3, l4, l5, l6, l7] (.int (x * y) :: st) (S, I, R, z) Q := RB_imul rfl
theorem w74_58 : RB d 74 58 [l0, l1, l2, l3, l4, l5, .int x, l7] st (S, I, R, z) Q = RB d 74 60 [l0, l1, l2, l3, l4, l5, .int x, l7] (.int x :: st) (S, I, R, z) Q := RB_iload rfl rfl
theorem w74_60 : RB d 74 60 [l0, l1, l2, l3, l4, l5, l6, l7] (.int y :: .int x :: st) (S, I, R, z) Q = RB d 74 61 [l0, l1, l2, l3, l4, l5, l6, l7] (.int (x + y) :: st) (S, I, R, z) Q := RB_iadd rfl
theorem w74_61 : RB d 74 61 [l0, l1, l2, l3, l4, l5, l6, l7] (.int i :: .ref a :: st) (S, I, R, z) Q = (((S a).1 = 9 ∧ aIx i (S a).2) ∧ RB d 74 62 [l0, l1, l2, l3, l4, l5, l6, l7] (.int (I a i.toNatClampNeg) :: st) (S, I, R, z) Q) := RB_iald rfl
theorem w74_62 : RB d 74 62 [l0, l1, l2, l3, l4, l5, l6, l7] (.int y :: .int x :: st) (S, I, R, z) Q = RB d 74 63 [l0, l1, l2, l3, l4, l5, l6, l7] (.int (x + y) :: st) (S, I, R, z) Q := RB_iadd rfl
theorem w74_63 : RB d 74 63 [l0, l1, l2, l3, l4, l5, l6, l7] [.int x1, .int x0] (S, I, R, z) Q = RM d 1002 [.int x0, .int x1] (S, I, R, z) (fun v τ => RB d 74 66 [l0, l1, l2, l3, l4, l5, l6, l7] (aPush v []) τ Q) := RB_callS (n := 2) (t := 1) (k := 74) (ins := .invokestatic 74) rfl rfl rfl (Nat.le_of_ble_eq_true rfl) (Nat.le_of_ble_eq_true rfl) rfl rfl
theorem w74_66 : RB d 74 66 [l0, l1, l2, l3, l4, l5, l6, l7] (.int x :: st) (S, I, R, z) Q = RB d 74 68 [l0, l1, l2, l3, l4, .int x, l6, l7] st (S, I, R, z) Q := RB_istore rfl (Nat.le_of_ble_eq_true rfl) rfl
theorem w74_68 : RB d 74 68 [l0, l1, l2, l3, l4, l5, .int x, l7] st (S, I, R, z) Q = RB d 74 71 [l0, l1, l2, l3, l4, l5, .int (x + 1), l7] st (S, I, R, z) Q := RB_iinc rfl rfl (Nat.le_of_ble_eq_true rfl) ki1 rfl
theorem w74_71 : RB d 74 71 [l0, l1, l2, l3, l4, l5, l6, l7] st (S, I, R, z) Q = RB d 74 6 [l0, l1, l2, l3, l4, l5, l6, l7] st (S, I, R, z) Q := RB_goto rfl (by decide) rfl
theorem w74_74 : RB d 74 74 [l0, l1, l2, l3, l4, .int x, l6, l7] st (S, I, R, z) Q = RB d 74 76 [l0, l1, l2, l3, l4, .int x, l6, l7] (.int x :: st) (S, I, R, z) Q := RB_iload rfl rfl
theorem w74_76 : RB d 74 76 [l0, l1, l2, l3, l4, l5, l6, l7] [.int x] (S, I, R, z) Q = Q (some (.int x)) (S, I, R, z) := RB_iret rfl rfl rfl
/-! 75: HangedWord$Ways.beginning -/
theorem w75_0 : RB d 75 0 [l0, .ref a, l2, l3] st (S, I, R, z) Q = RB d 75 1 [l0, .ref a, l2, l3] (.ref a :: st) (S, I, R, z) Q := RB_aloadn rfl rfl
theorem w75_0N : RB d 75 0 [l0, .null, l2, l3] st (S, I, R, z) Q = RB d 75 1 [l0, .null, l2, l3] (.null :: st) (S, I, R, z) Q := RB_aloadnN rfl rfl
theorem w75_1 : RB d 75 1 [l0, l1, .int x, l3] st (S, I, R, z) Q = RB d 75 2 [l0, l1, .int x, l3] (.int x :: st) (S, I, R, z) Q := RB_iloadn rfl rfl
theorem w75_2 : RB d 75 2 [l0, .ref a, l2, l3] st (S, I, R, z) Q = RB d 75 3 [l0, .ref a, l2, l3] (.ref a :: st) (S, I, R, z) Q := RB_aloadn rfl rfl
theorem w75_2N : RB d 75 2 [l0, .null, l2, l3] st (S, I, R, z) Q = RB d 75 3 [l0, .null, l2, l3] (.null :: st) (S, I, R, z) Q := RB_aloadnN rfl rfl
theorem w75_3 : RB d 75 3 [l0, l1, l2, l3] (.ref a :: st) (S, I, R, z) Q = ((S a).1 = 2 ∧ RB d 75 6 [l0, l1, l2, l3] (.int (I a 8) :: st) (S, I, R, z) Q) := RB_getI rfl rfl
theorem w75_6 : RB d 75 6 [l0, l1, l2, l3] [.int x1, .int x0, .ref a] (S, I, R, z) Q = ((S a).1 = 2 ∧ RM d 22 [.ref a, .int x0, .int x1] (S, I, R, z) (fun v τ => RB d 75 9 [l0, l1, l2, l3] (aPush v []) τ Q)) := RB_callV (n := 3) (t := 0) (k := 77) (ins := .invokevirtual 77) rfl rfl rfl (by decide) (Nat.le_of_ble_eq_true rfl) (Nat.le_of_ble_eq_true rfl) rfl rfl
theorem w75_9 : RB d 75 9 [l0, l1, l2, l3] (.int x :: st) (S, I, R, z) Q = ((x = 0 → RB d 75 15 [l0, l1, l2, l3] st (S, I, R, z) Q) ∧ (¬ x = 0 → RB d 75 12 [l0, l1, l2, l3] st (S, I, R, z) Q)) := RB_eq0 rfl (by decide) rfl
theorem w75_12 : RB d 75 12 [l0, l1, l2, l3] st (S, I, R, z) Q = RB d 75 14 [l0, l1, l2, l3] (.int (-1000000005) :: st) (S, I, R, z) Q := RB_ldc rfl rfl
theorem w75_14 : RB d 75 14 [l0, l1, l2, l3] [.int x] (S, I, R, z) Q = Q (some (.int x)) (S, I, R, z) := RB_iret rfl rfl rfl
theorem w75_15 : RB d 75 15 [l0, l1, l2, l3] st (S, I, R, z) Q = RB d 75 16 [l0, l1, l2, l3] (.int 0 :: st) (S, I, R, z) Q := RB_iconst rfl ki0
theorem w75_16 : RB d 75 16 [l0, l1, l2, l3] (.int x :: st) (S, I, R, z) Q = RB d 75 17 [l0, l1, l2, .int x] st (S, I, R, z) Q := RB_istoren rfl (Nat.le_of_ble_eq_true rfl) rfl
theorem w75_17 : RB d 75 17 [l0, l1, l2, .int x] st (S, I, R, z) Q = RB d 75 18 [l0, l1, l2, .int x] (.int x :: st) (S, I, R, z) Q := RB_iloadn rfl rfl
theorem w75_18 : RB d 75 18 [l0, l1, l2, l3] st (S, I, R, z) Q = RB d 75 20 [l0, l1, l2, l3] (.int 6 :: st) (S, I, R, z) Q := RB_bipush rfl kb6
theorem w75_20 : RB d 75 20 [l0, l1, l2, l3] (.int y :: .int x :: st) (S, I, R, z) Q = ((y ≤ x → RB d 75 60 [l0, l1, l2, l3] st (S, I, R, z) Q) ∧ (¬ y ≤ x → RB d 75 23 [l0, l1, l2, l3] st (S, I, R, z) Q)) := RB_ige rfl (by decide) rfl
theorem w75_23 : RB d 75 23 [l0, .ref a, l2, l3] st (S, I, R, z) Q = RB d 75 24 [l0, .ref a, l2, l3] (.ref a :: st) (S, I, R, z) Q := RB_aloadn rfl rfl
theorem w75_23N : RB d 75 23 [l0, .null, l2, l3] st (S, I, R, z) Q = RB d 75 24 [l0, .null, l2, l3] (.null :: st) (S, I, R, z) Q := RB_aloadnN rfl rfl
theorem w75_24 : RB d 75 24 [l0, l1, l2, l3] (.ref a :: st) (S, I, R, z) Q = ((S a).1 = 2 ∧ RB d 75 27 [l0, l1, l2, l3] (.int (I a 8) :: st) (S, I, R, z) Q) := RB_getI rfl rfl
theorem w75_27 : RB d 75 27 [l0, l1, l2, .int x] st (S, I, R, z) Q = RB d 75 28 [l0, l1, l2, .int x] (.int x :: st) (S, I, R, z) Q := RB_iloadn rfl rfl
theorem w75_28 : RB d 75 28 [l0, l1, l2, l3] [.int x1, .int x0] (S, I, R, z) Q = RM d 129 [.int x0, .int x1] (S, I, R, z) (fun v τ => RB d 75 31 [l0, l1, l2, l3] (aPush v []) τ Q) := RB_callS (n := 2) (t := 1) (k := 46) (ins := .invokestatic 46) rfl rfl rfl (Nat.le_of_ble_eq_true rfl) (Nat.le_of_ble_eq_true rfl) rfl rfl
theorem w75_31 : RB d 75 31 [l0, l1, l2, l3] (.int x :: st) (S, I, R, z) Q = ((x = 0 → RB d 75 34 [l0, l1, l2, l3] st (S, I, R, z) Q) ∧ (¬ x = 0 → RB d 75 54 [l0, l1, l2, l3] st (S, I, R, z) Q)) := RB_ne0 rfl (by decide) rfl
theorem w75_34 : RB d 75 34 [.ref a, l1, l2, l3] st (S, I, R, z) Q = RB d 75 35 [.ref a, l1, l2, l3] (.ref a :: st) (S, I, R, z) Q := RB_aloadn rfl rfl
theorem w75_35 : RB d 75 35 [l0, .ref a, l2, l3] st (S, I, R, z) Q = RB d 75 36 [l0, .ref a, l2, l3] (.ref a :: st) (S, I, R, z) Q := RB_aloadn rfl rfl
theorem w75_35N : RB d 75 35 [l0, .null, l2, l3] st (S, I, R, z) Q = RB d 75 36 [l0, .null, l2, l3] (.null :: st) (S, I, R, z) Q := RB_aloadnN rfl rfl
theorem w75_36 : RB d 75 36 [l0, .ref a, l2, l3] st (S, I, R, z) Q = RB d 75 37 [l0, .ref a, l2, l3] (.ref a :: st) (S, I, R, z) Q := RB_aloadn rfl rfl
theorem w75_36N : RB d 75 36 [l0, .null, l2, l3] st (S, I, R, z) Q = RB d 75 37 [l0, .null, l2, l3] (.null :: st) (S, I, R, z) Q := RB_aloadnN rfl rfl
theorem w75_37 : RB d 75 37 [l0, l1, l2, l3] (.ref a :: st) (S, I, R, z) Q = ((S a).1 = 2 ∧ RB d 75 40 [l0, l1, l2, l3] (.int (I a 8) :: st) (S, I, R, z) Q) := RB_getI rfl rfl
theorem w75_40 : RB d 75 40 [l0, l1, l2, .int x] st (S, I, R, z) Q = RB d 75 41 [l0, l1, l2, .int x] (.int x :: st) (S, I, R, z) Q := RB_iloadn rfl rfl
theorem w75_41 : RB d 75 41 [l0, l1, .int x, l3] st (S, I, R, z) Q = RB d 75 42 [l0, l1, .int x, l3] (.int x :: st) (S, I, R, z) Q := RB_iloadn rfl rfl
theorem w75_42 : RB d 75 42 [l0, l1, l2, l3] [.int x3, .int x2, .int x1, v0, .ref a] (S, I, R, z) Q = ((S a).1 = 5 ∧ RM d 74 [.ref a, v0, .int x1, .int x2, .int x3] (S, I, R, z) (fun v τ => RB d 75 45 [l0, l1, l2, l3] (aPush v []) τ Q)) := RB_callV (n := 5) (t := 0) (k := 62) (ins := .invokevirtual 62) rfl rfl rfl (by decide) (Nat.le_of_ble_eq_true rfl) (Nat.le_of_ble_eq_true rfl) rfl rfl
theorem w75_45 : RB d 75 45 [.ref a, l1, l2, l3] st (S, I, R, z) Q = RB d 75 46 [.ref a, l1, l2, l3] (.ref a :: st) (S, I, R, z) Q := RB_aloadn rfl rfl
theorem w75_46 : RB d 75 46 [l0, l1, l2, l3] (.ref a :: st) (S, I, R, z) Q = ((S a).1 = 5 ∧ RB d 75 49 [l0, l1, l2, l3] (.int (I a 1) :: st) (S, I, R, z) Q) := RB_getI rfl rfl
theorem w75_49 : RB d 75 49 [l0, l1, l2, l3] (.int y :: .int x :: st) (S, I, R, z) Q = ((x = y → RB d 75 52 [l0, l1, l2, l3] st (S, I, R, z) Q) ∧ (¬ x = y → RB d 75 54 [l0, l1, l2, l3] st (S, I, R, z) Q)) := RB_ine rfl (by decide) rfl
theorem w75_52 : RB d 75 52 [l0, l1, l2, .int x] st (S, I, R, z) Q = RB d 75 53 [l0, l1, l2, .int x] (.int x :: st) (S, I, R, z) Q := RB_iloadn rfl rfl
theorem w75_53 : RB d 75 53 [l0, l1, l2, l3] [.int x] (S, I, R, z) Q = Q (some (.int x)) (S, I, R, z) := RB_iret rfl rfl rfl
theorem w75_54 : RB d 75 54 [l0, l1, l2, .int x] st (S, I, R, z) Q = RB d 75 57 [l0, l1, l2, .int (x + 1)] st (S, I, R, z) Q := RB_iinc rfl rfl (Nat.le_of_ble_eq_true rfl) ki1 rfl
theorem w75_57 : RB d 75 57 [l0, l1, l2, l3] st (S, I, R, z) Q = RB d 75 17 [l0, l1, l2, l3] st (S, I, R, z) Q := RB_goto rfl (by decide) rfl
theorem w75_60 : RB d 75 60 [l0, l1, l2, l3] st (S, I, R, z) Q = RB d 75 62 [l0, l1, l2, l3] (.int (-1000000005) :: st) (S, I, R, z) Q := RB_ldc rfl rfl
theorem w75_62 : RB d 75 62 [l0, l1, l2, l3] [.int x] (S, I, R, z) Q = Q (some (.int x)) (S, I, R, z) := RB_iret rfl rfl rfl
/-! 76: HangedWord.<init> -/
theorem w76_0 : RB d 76 0 [.ref a, l1] st (S, I, R, z) Q = RB d 76 1 [.ref a, l1] (.ref a :: st) (S, I, R, z) Q := RB_aloadn rfl rfl
theorem w76_1 : RB d 76 1 [l0, l1] [.ref a] (S, I, R, z) Q = RM d 1000 [.ref a] (S, I, R, z) (fun v τ => RB d 76 4 [l0, l1] (aPush v []) τ Q) := RB_callS (n := 1) (t := 2) (k := 1) (ins := .invokespecial 1) rfl rfl rfl (Nat.le_of_ble_eq_true rfl) (Nat.le_of_ble_eq_true rfl) rfl rfl
theorem w76_4 : RB d 76 4 [.ref a, l1] st (S, I, R, z) Q = RB d 76 5 [.ref a, l1] (.ref a :: st) (S, I, R, z) Q := RB_aloadn rfl rfl
theorem w76_5 : RB d 76 5 [l0, l1] st σ Q = RB d 76 8 [l0, l1] (.ref σ.2.2.2.1 :: st) (aNc 2 18 σ) Q := RB_new rfl rfl rfl
theorem w76_8 : RB d 76 8 [l0, l1] (v :: st) (S, I, R, z) Q = RB d 76 9 [l0, l1] (v :: v :: st) (S, I, R, z) Q := RB_dup rfl
theorem w76_9 : RB d 76 9 [l0, l1] [.ref a, s0, s1] (S, I, R, z) Q = ((S a).1 = 2 ∧ RM d 8 [.ref a] (S, I, R, z) (fun v τ => RB d 76 12 [l0, l1] (aPush v [s0, s1]) τ Q)) := RB_callV (n := 1) (t := 2) (k := 9) (ins := .invokespecial 9) rfl rfl rfl (by decide) (Nat.le_of_ble_eq_true rfl) (Nat.le_of_ble_eq_true rfl) rfl rfl
theorem w76_12 : RB d 76 12 [l0, l1] (.ref b :: .ref a :: st) (S, I, R, z) Q = (((S a).1 = 6 ∧ 6 < 8 ∧ 16 ≤ a) ∧ RB d 76 15 [l0, l1] st (S, I, aR R a 0 (some b), z) Q) := RB_putR rfl rfl (Or.inr (by decide +kernel))
theorem w76_15 : RB d 76 15 [.ref a, l1] st (S, I, R, z) Q = RB d 76 16 [.ref a, l1] (.ref a :: st) (S, I, R, z) Q := RB_aloadn rfl rfl
theorem w76_16 : RB d 76 16 [l0, l1] st σ Q = RB d 76 19 [l0, l1] (.ref σ.2.2.2.1 :: st) (aNc 2 18 σ) Q := RB_new rfl rfl rfl
theorem w76_19 : RB d 76 19 [l0, l1] (v :: st) (S, I, R, z) Q = RB d 76 20 [l0, l1] (v :: v :: st) (S, I, R, z) Q := RB_dup rfl
theorem w76_20 : RB d 76 20 [l0, l1] [.ref a, s0, s1] (S, I, R, z) Q = ((S a).1 = 2 ∧ RM d 8 [.ref a] (S, I, R, z) (fun v τ => RB d 76 23 [l0, l1] (aPush v [s0, s1]) τ Q)) := RB_callV (n := 1) (t := 2) (k := 9) (ins := .invokespecial 9) rfl rfl rfl (by decide) (Nat.le_of_ble_eq_true rfl) (Nat.le_of_ble_eq_true rfl) rfl rfl
theorem w76_23 : RB d 76 23 [l0, l1] (.ref b :: .ref a :: st) (S, I, R, z) Q = (((S a).1 = 6 ∧ 6 < 8 ∧ 16 ≤ a) ∧ RB d 76 26 [l0, l1] st (S, I, aR R a 1 (some b), z) Q) := RB_putR rfl rfl (Or.inr (by decide +kernel))
theorem w76_26 : RB d 76 26 [.ref a, l1] st (S, I, R, z) Q = RB d 76 27 [.ref a, l1] (.ref a :: st) (S, I, R, z) Q := RB_aloadn rfl rfl
theorem w76_27 : RB d 76 27 [l0, l1] st σ Q = RB d 76 30 [l0, l1] (.ref σ.2.2.2.1 :: st) (aNc 2 18 σ) Q := RB_new rfl rfl rfl
theorem w76_30 : RB d 76 30 [l0, l1] (v :: st) (S, I, R, z) Q = RB d 76 31 [l0, l1] (v :: v :: st) (S, I, R, z) Q := RB_dup rfl
theorem w76_31 : RB d 76 31 [l0, l1] [.ref a, s0, s1] (S, I, R, z) Q = ((S a).1 = 2 ∧ RM d 8 [.ref a] (S, I, R, z) (fun v τ => RB d 76 34 [l0, l1] (aPush v [s0, s1]) τ Q)) := RB_callV (n := 1) (t := 2) (k := 9) (ins := .invokespecial 9) rfl rfl rfl (by decide) (Nat.le_of_ble_eq_true rfl) (Nat.le_of_ble_eq_true rfl) rfl rfl
theorem w76_34 : RB d 76 34 [l0, l1] (.ref b :: .ref a :: st) (S, I, R, z) Q = (((S a).1 = 6 ∧ 6 < 8 ∧ 16 ≤ a) ∧ RB d 76 37 [l0, l1] st (S, I, aR R a 2 (some b), z) Q) := RB_putR rfl rfl (Or.inr (by decide +kernel))
theorem w76_37 : RB d 76 37 [.ref a, l1] st (S, I, R, z) Q = RB d 76 38 [.ref a, l1] (.ref a :: st) (S, I, R, z) Q := RB_aloadn rfl rfl
theorem w76_38 : RB d 76 38 [l0, l1] st σ Q = RB d 76 41 [l0, l1] (.ref σ.2.2.2.1 :: st) (aNc 5 3 σ) Q := RB_new rfl rfl rfl
theorem w76_41 : RB d 76 41 [l0, l1] (v :: st) (S, I, R, z) Q = RB d 76 42 [l0, l1] (v :: v :: st) (S, I, R, z) Q := RB_dup rfl
theorem w76_42 : RB d 76 42 [l0, l1] [.ref a, s0, s1] (S, I, R, z) Q = ((S a).1 = 5 ∧ RM d 70 [.ref a] (S, I, R, z) (fun v τ => RB d 76 45 [l0, l1] (aPush v [s0, s1]) τ Q)) := RB_callV (n := 1) (t := 2) (k := 24) (ins := .invokespecial 24) rfl rfl rfl (by decide) (Nat.le_of_ble_eq_true rfl) (Nat.le_of_ble_eq_true rfl) rfl rfl
theorem w76_45 : RB d 76 45 [l0, l1] (.ref b :: .ref a :: st) (S, I, R, z) Q = (((S a).1 = 6 ∧ 6 < 8 ∧ 16 ≤ a) ∧ RB d 76 48 [l0, l1] st (S, I, aR R a 3 (some b), z) Q) := RB_putR rfl rfl (Or.inr (by decide +kernel))
theorem w76_48 : RB d 76 48 [.ref a, l1] st (S, I, R, z) Q = RB d 76 49 [.ref a, l1] (.ref a :: st) (S, I, R, z) Q := RB_aloadn rfl rfl
theorem w76_49 : RB d 76 49 [l0, l1] st (S, I, R, z) Q = RB d 76 50 [l0, l1] (.int 4 :: st) (S, I, R, z) Q := RB_iconst rfl ki4
theorem w76_50 : RB d 76 50 [l0, l1] (.int i :: st) σ Q = ((¬ i < 0 ∧ i.toNatClampNeg ≤ 5000) ∧ RB d 76 53 [l0, l1] (.ref σ.2.2.2.1 :: st) (aNc 11 i.toNatClampNeg σ) Q) := RB_newQ rfl rfl
theorem w76_53 : RB d 76 53 [l0, l1] (.ref b :: .ref a :: st) (S, I, R, z) Q = (((S a).1 = 6 ∧ 6 < 8 ∧ 16 ≤ a) ∧ RB d 76 56 [l0, l1] st (S, I, aR R a 4 (some b), z) Q) := RB_putR rfl rfl (Or.inr (by decide +kernel))
theorem w76_56 : RB d 76 56 [.ref a, l1] st (S, I, R, z) Q = RB d 76 57 [.ref a, l1] (.ref a :: st) (S, I, R, z) Q := RB_aloadn rfl rfl
theorem w76_57 : RB d 76 57 [l0, l1] st (S, I, R, z) Q = RB d 76 58 [l0, l1] (.int 5 :: st) (S, I, R, z) Q := RB_iconst rfl ki5
theorem w76_58 : RB d 76 58 [l0, l1] (.int i :: st) σ Q = ((¬ i < 0 ∧ i.toNatClampNeg ≤ 5000) ∧ RB d 76 61 [l0, l1] (.ref σ.2.2.2.1 :: st) (aNc 12 i.toNatClampNeg σ) Q) := RB_newQ rfl rfl
theorem w76_61 : RB d 76 61 [l0, l1] (.ref b :: .ref a :: st) (S, I, R, z) Q = (((S a).1 = 6 ∧ 6 < 8 ∧ 16 ≤ a) ∧ RB d 76 64 [l0, l1] st (S, I, aR R a 5 (some b), z) Q) := RB_putR rfl rfl (Or.inr (by decide +kernel))
theorem w76_64 : RB d 76 64 [.ref a, l1] st (S, I, R, z) Q = RB d 76 65 [.ref a, l1] (.ref a :: st) (S, I, R, z) Q := RB_aloadn rfl rfl
theorem w76_65 : RB d 76 65 [l0, l1] st σ Q = RB d 76 68 [l0, l1] (.ref σ.2.2.2.1 :: st) (aNc 3 12 σ) Q := RB_new rfl rfl rfl
theorem w76_68 : RB d 76 68 [l0, l1] (v :: st) (S, I, R, z) Q = RB d 76 69 [l0, l1] (v :: v :: st) (S, I, R, z) Q := RB_dup rfl
theorem w76_69 : RB d 76 69 [l0, l1] [.ref a, s0, s1] (S, I, R, z) Q = ((S a).1 = 3 ∧ RM d 45 [.ref a] (S, I, R, z) (fun v τ => RB d 76 72 [l0, l1] (aPush v [s0, s1]) τ Q)) := RB_callV (n := 1) (t := 2) (k := 43) (ins := .invokespecial 43) rfl rfl rfl (by decide) (Nat.le_of_ble_eq_true rfl) (Nat.le_of_ble_eq_true rfl) rfl rfl
theorem w76_72 : RB d 76 72 [l0, l1] (.ref b :: .ref a :: st) (S, I, R, z) Q = (((S a).1 = 6 ∧ 6 < 8 ∧ 16 ≤ a) ∧ RB d 76 75 [l0, l1] st (S, I, aR R a 6 (some b), z) Q) := RB_putR rfl rfl (Or.inr (by decide +kernel))
theorem w76_75 : RB d 76 75 [.ref a, l1] st (S, I, R, z) Q = RB d 76 76 [.ref a, l1] (.ref a :: st) (S, I, R, z) Q := RB_aloadn rfl rfl
theorem w76_76 : RB d 76 76 [l0, l1] st (S, I, R, z) Q = RB d 76 78 [l0, l1] (.int 60 :: st) (S, I, R, z) Q := RB_bipush rfl kb60
theorem w76_78 : RB d 76 78 [l0, l1] (.int i :: st) σ Q = ((¬ i < 0 ∧ i.toNatClampNeg ≤ 5000) ∧ RB d 76 80 [l0, l1] (.ref σ.2.2.2.1 :: st) (aNc 9 i.toNatClampNeg σ) Q) := RB_newI rfl
theorem w76_80 : RB d 76 80 [l0, l1] (.ref b :: .ref a :: st) (S, I, R, z) Q = (((S a).1 = 6 ∧ 6 < 8 ∧ 16 ≤ a) ∧ RB d 76 83 [l0, l1] st (S, I, aR R a 7 (some b), z) Q) := RB_putR rfl rfl (Or.inr (by decide +kernel))
theorem w76_83 : RB d 76 83 [.ref a, l1] st (S, I, R, z) Q = RB d 76 84 [.ref a, l1] (.ref a :: st) (S, I, R, z) Q := RB_aloadn rfl rfl
theorem w76_84 : RB d 76 84 [l0, l1] st (S, I, R, z) Q = RB d 76 85 [l0, l1] (.int 0 :: st) (S, I, R, z) Q := RB_iconst rfl ki0
theorem w76_85 : RB d 76 85 [l0, l1] (.int x :: .ref a :: st) (S, I, R, z) Q = (((S a).1 = 6 ∧ 6 < 8 ∧ 16 ≤ a) ∧ (x = 0 ∨ x = 1) ∧ RB d 76 88 [l0, l1] st (S, aW I a 8 x, R, z) Q) := RB_putZ rfl rfl (Or.inl rfl)
theorem w76_88 : RB d 76 88 [.ref a, l1] st (S, I, R, z) Q = RB d 76 89 [.ref a, l1] (.ref a :: st) (S, I, R, z) Q := RB_aloadn rfl rfl
theorem w76_89 : RB d 76 89 [l0, l1] st (S, I, R, z) Q = RB d 76 90 [l0, l1] (.int 0 :: st) (S, I, R, z) Q := RB_iconst rfl ki0
theorem w76_90 : RB d 76 90 [l0, l1] (.int x :: .ref a :: st) (S, I, R, z) Q = (((S a).1 = 6 ∧ 6 < 8 ∧ 16 ≤ a) ∧ RB d 76 93 [l0, l1] st (S, aW I a 9 x, R, z) Q) := RB_putI rfl rfl (Or.inl rfl)
theorem w76_93 : RB d 76 93 [l0, l1] st (S, I, R, z) Q = RB d 76 94 [l0, l1] (.int 0 :: st) (S, I, R, z) Q := RB_iconst rfl ki0
theorem w76_94 : RB d 76 94 [l0, l1] (.int x :: st) (S, I, R, z) Q = RB d 76 95 [l0, .int x] st (S, I, R, z) Q := RB_istoren rfl (Nat.le_of_ble_eq_true rfl) rfl
theorem w76_95 : RB d 76 95 [l0, .int x] st (S, I, R, z) Q = RB d 76 96 [l0, .int x] (.int x :: st) (S, I, R, z) Q := RB_iloadn rfl rfl
theorem w76_96 : RB d 76 96 [l0, l1] st (S, I, R, z) Q = RB d 76 97 [l0, l1] (.int 4 :: st) (S, I, R, z) Q := RB_iconst rfl ki4
theorem w76_97 : RB d 76 97 [l0, l1] (.int y :: .int x :: st) (S, I, R, z) Q = ((y ≤ x → RB d 76 119 [l0, l1] st (S, I, R, z) Q) ∧ (¬ y ≤ x → RB d 76 100 [l0, l1] st (S, I, R, z) Q)) := RB_ige rfl (by decide) rfl
theorem w76_100 : RB d 76 100 [.ref a, l1] st (S, I, R, z) Q = RB d 76 101 [.ref a, l1] (.ref a :: st) (S, I, R, z) Q := RB_aloadn rfl rfl
theorem w76_101 : RB d 76 101 [l0, l1] (.ref a :: st) (S, I, R, z) Q = ((S a).1 = 6 ∧ RB d 76 104 [l0, l1] (va_rf (R a 4) :: st) (S, I, R, z) Q) := RB_getR rfl rfl
theorem w76_104 : RB d 76 104 [l0, .int x] st (S, I, R, z) Q = RB d 76 105 [l0, .int x] (.int x :: st) (S, I, R, z) Q := RB_iloadn rfl rfl
theorem w76_105 : RB d 76 105 [l0, l1] st σ Q = RB d 76 108 [l0, l1] (.ref σ.2.2.2.1 :: st) (aNc 0 3 σ) Q := RB_new rfl rfl rfl
theorem w76_108 : RB d 76 108 [l0, l1] (v :: st) (S, I, R, z) Q = RB d 76 109 [l0, l1] (v :: v :: st) (S, I, R, z) Q := RB_dup rfl
theorem w76_109 : RB d 76 109 [l0, l1] [.ref a, s0, s1, s2] (S, I, R, z) Q = ((S a).1 = 0 ∧ RM d 0 [.ref a] (S, I, R, z) (fun v τ => RB d 76 112 [l0, l1] (aPush v [s0, s1, s2]) τ Q)) := RB_callV (n := 1) (t := 2) (k := 60) (ins := .invokespecial 60) rfl rfl rfl (by decide) (Nat.le_of_ble_eq_true rfl) (Nat.le_of_ble_eq_true rfl) rfl rfl
theorem w76_112 : RB d 76 112 [l0, l1] (.ref b :: .int i :: .ref a :: st) (S, I, R, z) Q = (((11 ≤ (S a).1 ∧ (S a).1 ≤ 13) ∧ aIx i (S a).2 ∧ (S b).1 = aOfK (S a).1) ∧ RB d 76 113 [l0, l1] st (S, I, aR R a i.toNatClampNeg (some b), z) Q) := RB_aast rfl
theorem w76_112N : RB d 76 112 [l0, l1] (.null :: .int i :: .ref a :: st) (S, I, R, z) Q = (((11 ≤ (S a).1 ∧ (S a).1 ≤ 13) ∧ aIx i (S a).2) ∧ RB d 76 113 [l0, l1] st (S, I, aR R a i.toNatClampNeg none, z) Q) := RB_aastN rfl
theorem w76_113 : RB d 76 113 [l0, .int x] st (S, I, R, z) Q = RB d 76 116 [l0, .int (x + 1)] st (S, I, R, z) Q := RB_iinc rfl rfl (Nat.le_of_ble_eq_true rfl) ki1 rfl
theorem w76_116 : RB d 76 116 [l0, l1] st (S, I, R, z) Q = RB d 76 95 [l0, l1] st (S, I, R, z) Q := RB_goto rfl (by decide) rfl
theorem w76_119 : RB d 76 119 [l0, l1] st (S, I, R, z) Q = RB d 76 120 [l0, l1] (.int 0 :: st) (S, I, R, z) Q := RB_iconst rfl ki0
theorem w76_120 : RB d 76 120 [l0, l1] (.int x :: st) (S, I, R, z) Q = RB d 76 121 [l0, .int x] st (S, I, R, z) Q := RB_istoren rfl (Nat.le_of_ble_eq_true rfl) rfl
theorem w76_121 : RB d 76 121 [l0, .int x] st (S, I, R, z) Q = RB d 76 122 [l0, .int x] (.int x :: st) (S, I, R, z) Q := RB_iloadn rfl rfl
theorem w76_122 : RB d 76 122 [l0, l1] st (S, I, R, z) Q = RB d 76 123 [l0, l1] (.int 5 :: st) (S, I, R, z) Q := RB_iconst rfl ki5
theorem w76_123 : RB d 76 123 [l0, l1] (.int y :: .int x :: st) (S, I, R, z) Q = ((y ≤ x → RB d 76 145 [l0, l1] st (S, I, R, z) Q) ∧ (¬ y ≤ x → RB d 76 126 [l0, l1] st (S, I, R, z) Q)) := RB_ige rfl (by decide) rfl
theorem w76_126 : RB d 76 126 [.ref a, l1] st (S, I, R, z) Q = RB d 76 127 [.ref a, l1] (.ref a :: st) (S, I, R, z) Q := RB_aloadn rfl rfl
theorem w76_127 : RB d 76 127 [l0, l1] (.ref a :: st) (S, I, R, z) Q = ((S a).1 = 6 ∧ RB d 76 130 [l0, l1] (va_rf (R a 5) :: st) (S, I, R, z) Q) := RB_getR rfl rfl
theorem w76_130 : RB d 76 130 [l0, .int x] st (S, I, R, z) Q = RB d 76 131 [l0, .int x] (.int x :: st) (S, I, R, z) Q := RB_iloadn rfl rfl
theorem w76_131 : RB d 76 131 [l0, l1] st σ Q = RB d 76 134 [l0, l1] (.ref σ.2.2.2.1 :: st) (aNc 1 5 σ) Q := RB_new rfl rfl rfl
theorem w76_134 : RB d 76 134 [l0, l1] (v :: st) (S, I, R, z) Q = RB d 76 135 [l0, l1] (v :: v :: st) (S, I, R, z) Q := RB_dup rfl
theorem w76_135 : RB d 76 135 [l0, l1] [.ref a, s0, s1, s2] (S, I, R, z) Q = ((S a).1 = 1 ∧ RM d 7 [.ref a] (S, I, R, z) (fun v τ => RB d 76 138 [l0, l1] (aPush v [s0, s1, s2]) τ Q)) := RB_callV (n := 1) (t := 2) (k := 61) (ins := .invokespecial 61) rfl rfl rfl (by decide) (Nat.le_of_ble_eq_true rfl) (Nat.le_of_ble_eq_true rfl) rfl rfl
theorem w76_138 : RB d 76 138 [l0, l1] (.ref b :: .int i :: .ref a :: st) (S, I, R, z) Q = (((11 ≤ (S a).1 ∧ (S a).1 ≤ 13) ∧ aIx i (S a).2 ∧ (S b).1 = aOfK (S a).1) ∧ RB d 76 139 [l0, l1] st (S, I, aR R a i.toNatClampNeg (some b), z) Q) := RB_aast rfl
theorem w76_138N : RB d 76 138 [l0, l1] (.null :: .int i :: .ref a :: st) (S, I, R, z) Q = (((11 ≤ (S a).1 ∧ (S a).1 ≤ 13) ∧ aIx i (S a).2) ∧ RB d 76 139 [l0, l1] st (S, I, aR R a i.toNatClampNeg none, z) Q) := RB_aastN rfl
theorem w76_139 : RB d 76 139 [l0, .int x] st (S, I, R, z) Q = RB d 76 142 [l0, .int (x + 1)] st (S, I, R, z) Q := RB_iinc rfl rfl (Nat.le_of_ble_eq_true rfl) ki1 rfl
theorem w76_142 : RB d 76 142 [l0, l1] st (S, I, R, z) Q = RB d 76 121 [l0, l1] st (S, I, R, z) Q := RB_goto rfl (by decide) rfl
theorem w76_145 : RB d 76 145 [l0, l1] [] (S, I, R, z) Q = Q none (S, I, R, z) := RB_ret rfl rfl
/-! 77: HangedWord.word -/
theorem w77_0 : RB d 77 0 [l0, .int x, l2] st (S, I, R, z) Q = RB d 77 1 [l0, .int x, l2] (.int x :: st) (S, I, R, z) Q := RB_iloadn rfl rfl
theorem w77_1 : RB d 77 1 [l0, l1, l2] (.int x :: st) (S, I, R, z) Q = ((x < 0 → RB d 77 18 [l0, l1, l2] st (S, I, R, z) Q) ∧ (¬ x < 0 → RB d 77 4 [l0, l1, l2] st (S, I, R, z) Q)) := RB_lt0 rfl (by decide) rfl
theorem w77_4 : RB d 77 4 [l0, .int x, l2] st (S, I, R, z) Q = RB d 77 5 [l0, .int x, l2] (.int x :: st) (S, I, R, z) Q := RB_iloadn rfl rfl
theorem w77_5 : RB d 77 5 [l0, l1, l2] st (S, I, R, z) Q = RB d 77 8 [l0, l1, l2] (.int 1296 :: st) (S, I, R, z) Q := RB_sipush rfl ks1296
theorem w77_8 : RB d 77 8 [l0, l1, l2] (.int y :: .int x :: st) (S, I, R, z) Q = ((y ≤ x → RB d 77 18 [l0, l1, l2] st (S, I, R, z) Q) ∧ (¬ y ≤ x → RB d 77 11 [l0, l1, l2] st (S, I, R, z) Q)) := RB_ige rfl (by decide) rfl
theorem w77_11 : RB d 77 11 [l0, l1, .int x] st (S, I, R, z) Q = RB d 77 12 [l0, l1, .int x] (.int x :: st) (S, I, R, z) Q := RB_iloadn rfl rfl
theorem w77_12 : RB d 77 12 [l0, l1, l2] [.int x0] (S, I, R, z) Q = RM d 125 [.int x0] (S, I, R, z) (fun v τ => RB d 77 15 [l0, l1, l2] (aPush v []) τ Q) := RB_callS (n := 1) (t := 1) (k := 62) (ins := .invokestatic 62) rfl rfl rfl (Nat.le_of_ble_eq_true rfl) (Nat.le_of_ble_eq_true rfl) rfl rfl
theorem w77_15 : RB d 77 15 [l0, l1, l2] (.int x :: st) (S, I, R, z) Q = ((x = 0 → RB d 77 18 [l0, l1, l2] st (S, I, R, z) Q) ∧ (¬ x = 0 → RB d 77 21 [l0, l1, l2] st (S, I, R, z) Q)) := RB_ne0 rfl (by decide) rfl
theorem w77_18 : RB d 77 18 [l0, l1, l2] st (S, I, R, z) Q = RB d 77 20 [l0, l1, l2] (.int (-1000000001) :: st) (S, I, R, z) Q := RB_ldc rfl rfl
theorem w77_20 : RB d 77 20 [l0, l1, l2] [.int x] (S, I, R, z) Q = Q (some (.int x)) (S, I, R, z) := RB_iret rfl rfl rfl
theorem w77_21 : RB d 77 21 [.ref a, l1, l2] st (S, I, R, z) Q = RB d 77 22 [.ref a, l1, l2] (.ref a :: st) (S, I, R, z) Q := RB_aloadn rfl rfl
theorem w77_22 : RB d 77 22 [l0, l1, l2] (.ref a :: st) (S, I, R, z) Q = ((S a).1 = 6 ∧ RB d 77 25 [l0, l1, l2] (va_rf (R a 0) :: st) (S, I, R, z) Q) := RB_getR rfl rfl
theorem w77_25 : RB d 77 25 [l0, .int x, l2] st (S, I, R, z) Q = RB d 77 26 [l0, .int x, l2] (.int x :: st) (S, I, R, z) Q := RB_iloadn rfl rfl
theorem w77_26 : RB d 77 26 [l0, l1, .int x] st (S, I, R, z) Q = RB d 77 27 [l0, l1, .int x] (.int x :: st) (S, I, R, z) Q := RB_iloadn rfl rfl
theorem w77_27 : RB d 77 27 [l0, l1, l2] [.int x1, .int x0, .ref a] (S, I, R, z) Q = ((S a).1 = 2 ∧ RM d 10 [.ref a, .int x0, .int x1] (S, I, R, z) (fun v τ => RB d 77 30 [l0, l1, l2] (aPush v []) τ Q)) := RB_callV (n := 3) (t := 0) (k := 67) (ins := .invokevirtual 67) rfl rfl rfl (by decide) (Nat.le_of_ble_eq_true rfl) (Nat.le_of_ble_eq_true rfl) rfl rfl
theorem w77_30 : RB d 77 30 [l0, l1, l2] [.int x] (S, I, R, z) Q = Q (some (.int x)) (S, I, R, z) := RB_iret rfl rfl rfl
/-! 78: HangedWord.wordTold -/
theorem w78_0 : RB d 78 0 [.ref a, l1, l2] st (S, I, R, z) Q = RB d 78 1 [.ref a, l1, l2] (.ref a :: st) (S, I, R, z) Q := RB_aloadn rfl rfl
theorem w78_1 : RB d 78 1 [l0, .int x, l2] st (S, I, R, z) Q = RB d 78 2 [l0, .int x, l2] (.int x :: st) (S, I, R, z) Q := RB_iloadn rfl rfl
theorem w78_2 : RB d 78 2 [l0, l1, l2] [.int x0, .ref a] (S, I, R, z) Q = ((S a).1 = 6 ∧ RM d 122 [.ref a, .int x0] (S, I, R, z) (fun v τ => RB d 78 5 [l0, l1, l2] (aPush v []) τ Q)) := RB_callV (n := 2) (t := 0) (k := 71) (ins := .invokevirtual 71) rfl rfl rfl (by decide) (Nat.le_of_ble_eq_true rfl) (Nat.le_of_ble_eq_true rfl) rfl rfl
theorem w78_5 : RB d 78 5 [l0, l1, l2] (.int x :: st) (S, I, R, z) Q = ((x = 0 → RB d 78 8 [l0, l1, l2] st (S, I, R, z) Q) ∧ (¬ x = 0 → RB d 78 11 [l0, l1, l2] st (S, I, R, z) Q)) := RB_ne0 rfl (by decide) rfl
theorem w78_8 : RB d 78 8 [l0, l1, l2] st (S, I, R, z) Q = RB d 78 10 [l0, l1, l2] (.int (-1000000001) :: st) (S, I, R, z) Q := RB_ldc rfl rfl
theorem w78_10 : RB d 78 10 [l0, l1, l2] [.int x] (S, I, R, z) Q = Q (some (.int x)) (S, I, R, z) := RB_iret rfl rfl rfl
theorem w78_11 : RB d 78 11 [l0, l1, .int x] st (S, I, R, z) Q = RB d 78 12 [l0, l1, .int x] (.int x :: st) (S, I, R, z) Q := RB_iloadn rfl rfl
theorem w78_12 : RB d 78 12 [l0, l1, l2] (.int x :: st) (S, I, R, z) Q = aTsR d 78 12 x 85 [l0, l1, l2] st (S, I, R, z) Q [(0, 44), (1, 54), (2, 64), (3, 73)] := RB_ts rfl (by decide) (by decide) (by decide) (by decide +kernel) rfl
theorem w78_44 : RB d 78 44 [.ref a, l1, l2] st (S, I, R, z) Q = RB d 78 45 [.ref a, l1, l2] (.ref a :: st) (S, I, R, z) Q := RB_aloadn rfl rfl
theorem w78_45 : RB d 78 45 [l0, l1, l2] (.ref a :: st) (S, I, R, z) Q = ((S a).1 = 6 ∧ RB d 78 48 [l0, l1, l2] (va_rf (R a 0) :: st) (S, I, R, z) Q) := RB_getR rfl rfl
theorem w78_48 : RB d 78 48 [l0, l1, l2] (.ref a :: st) (S, I, R, z) Q = ((S a).1 = 2 ∧ RB d 78 51 [l0, l1, l2] (va_rf (R a 0) :: st) (S, I, R, z) Q) := RB_getR rfl rfl
theorem w78_51 : RB d 78 51 [l0, .int x, l2] st (S, I, R, z) Q = RB d 78 52 [l0, .int x, l2] (.int x :: st) (S, I, R, z) Q := RB_iloadn rfl rfl
theorem w78_52 : RB d 78 52 [l0, l1, l2] (.int i :: .ref a :: st) (S, I, R, z) Q = (((S a).1 = 9 ∧ aIx i (S a).2) ∧ RB d 78 53 [l0, l1, l2] (.int (I a i.toNatClampNeg) :: st) (S, I, R, z) Q) := RB_iald rfl
theorem w78_53 : RB d 78 53 [l0, l1, l2] [.int x] (S, I, R, z) Q = Q (some (.int x)) (S, I, R, z) := RB_iret rfl rfl rfl
theorem w78_54 : RB d 78 54 [.ref a, l1, l2] st (S, I, R, z) Q = RB d 78 55 [.ref a, l1, l2] (.ref a :: st) (S, I, R, z) Q := RB_aloadn rfl rfl
theorem w78_55 : RB d 78 55 [l0, l1, l2] (.ref a :: st) (S, I, R, z) Q = ((S a).1 = 6 ∧ RB d 78 58 [l0, l1, l2] (va_rf (R a 0) :: st) (S, I, R, z) Q) := RB_getR rfl rfl
theorem w78_58 : RB d 78 58 [l0, l1, l2] (.ref a :: st) (S, I, R, z) Q = ((S a).1 = 2 ∧ RB d 78 61 [l0, l1, l2] (va_rf (R a 1) :: st) (S, I, R, z) Q) := RB_getR rfl rfl
theorem w78_61 : RB d 78 61 [l0, .int x, l2] st (S, I, R, z) Q = RB d 78 62 [l0, .int x, l2] (.int x :: st) (S, I, R, z) Q := RB_iloadn rfl rfl
theorem w78_62 : RB d 78 62 [l0, l1, l2] (.int i :: .ref a :: st) (S, I, R, z) Q = (((S a).1 = 9 ∧ aIx i (S a).2) ∧ RB d 78 63 [l0, l1, l2] (.int (I a i.toNatClampNeg) :: st) (S, I, R, z) Q) := RB_iald rfl
theorem w78_63 : RB d 78 63 [l0, l1, l2] [.int x] (S, I, R, z) Q = Q (some (.int x)) (S, I, R, z) := RB_iret rfl rfl rfl
theorem w78_64 : RB d 78 64 [.ref a, l1, l2] st (S, I, R, z) Q = RB d 78 65 [.ref a, l1, l2] (.ref a :: st) (S, I, R, z) Q := RB_aloadn rfl rfl
theorem w78_65 : RB d 78 65 [l0, l1, l2] (.ref a :: st) (S, I, R, z) Q = ((S a).1 = 6 ∧ RB d 78 68 [l0, l1, l2] (va_rf (R a 0) :: st) (S, I, R, z) Q) := RB_getR rfl rfl
theorem w78_68 : RB d 78 68 [l0, .int x, l2] st (S, I, R, z) Q = RB d 78 69 [l0, .int x, l2] (.int x :: st) (S, I, R, z) Q := RB_iloadn rfl rfl
theorem w78_69 : RB d 78 69 [l0, l1, l2] [.int x0, .ref a] (S, I, R, z) Q = ((S a).1 = 2 ∧ RM d 15 [.ref a, .int x0] (S, I, R, z) (fun v τ => RB d 78 72 [l0, l1, l2] (aPush v []) τ Q)) := RB_callV (n := 2) (t := 0) (k := 80) (ins := .invokevirtual 80) rfl rfl rfl (by decide) (Nat.le_of_ble_eq_true rfl) (Nat.le_of_ble_eq_true rfl) rfl rfl
theorem w78_72 : RB d 78 72 [l0, l1, l2] [.int x] (S, I, R, z) Q = Q (some (.int x)) (S, I, R, z) := RB_iret rfl rfl rfl
theorem w78_73 : RB d 78 73 [.ref a, l1, l2] st (S, I, R, z) Q = RB d 78 74 [.ref a, l1, l2] (.ref a :: st) (S, I, R, z) Q := RB_aloadn rfl rfl
theorem w78_74 : RB d 78 74 [l0, l1, l2] (.ref a :: st) (S, I, R, z) Q = ((S a).1 = 6 ∧ RB d 78 77 [l0, l1, l2] (va_rf (R a 0) :: st) (S, I, R, z) Q) := RB_getR rfl rfl
theorem w78_77 : RB d 78 77 [l0, l1, l2] [.ref a] (S, I, R, z) Q = ((S a).1 = 2 ∧ RM d 21 [.ref a] (S, I, R, z) (fun v τ => RB d 78 80 [l0, l1, l2] (aPush v []) τ Q)) := RB_callV (n := 1) (t := 0) (k := 84) (ins := .invokevirtual 84) rfl rfl rfl (by decide) (Nat.le_of_ble_eq_true rfl) (Nat.le_of_ble_eq_true rfl) rfl rfl
theorem w78_80 : RB d 78 80 [l0, .int x, l2] st (S, I, R, z) Q = RB d 78 81 [l0, .int x, l2] (.int x :: st) (S, I, R, z) Q := RB_iloadn rfl rfl
theorem w78_81 : RB d 78 81 [l0, l1, l2] (.int y :: .int x :: st) (S, I, R, z) Q = RB d 78 82 [l0, l1, l2] (.int (x >>> (y &&& 31)) :: st) (S, I, R, z) Q := RB_ishr rfl
theorem w78_82 : RB d 78 82 [l0, l1, l2] st (S, I, R, z) Q = RB d 78 83 [l0, l1, l2] (.int 1 :: st) (S, I, R, z) Q := RB_iconst rfl ki1
theorem w78_83 : RB d 78 83 [l0, l1, l2] (.int y :: .int x :: st) (S, I, R, z) Q = RB d 78 84 [l0, l1, l2] (.int (x &&& y) :: st) (S, I, R, z) Q := RB_iand rfl
theorem w78_84 : RB d 78 84 [l0, l1, l2] [.int x] (S, I, R, z) Q = Q (some (.int x)) (S, I, R, z) := RB_iret rfl rfl rfl
theorem w78_85 : RB d 78 85 [l0, l1, l2] st (S, I, R, z) Q = RB d 78 87 [l0, l1, l2] (.int (-1000000001) :: st) (S, I, R, z) Q := RB_ldc rfl rfl
theorem w78_87 : RB d 78 87 [l0, l1, l2] [.int x] (S, I, R, z) Q = Q (some (.int x)) (S, I, R, z) := RB_iret rfl rfl rfl
/-! 79: HangedWord.weigh -/
theorem w79_0 : RB d 79 0 [.ref a, l1, l2, l3] st (S, I, R, z) Q = RB d 79 1 [.ref a, l1, l2, l3] (.ref a :: st) (S, I, R, z) Q := RB_aloadn rfl rfl
theorem w79_1 : RB d 79 1 [l0, .int x, l2, l3] st (S, I, R, z) Q = RB d 79 2 [l0, .int x, l2, l3] (.int x :: st) (S, I, R, z) Q := RB_iloadn rfl rfl
theorem w79_2 : RB d 79 2 [l0, l1, l2, l3] [.int x0, .ref a] (S, I, R, z) Q = ((S a).1 = 6 ∧ RM d 122 [.ref a, .int x0] (S, I, R, z) (fun v τ => RB d 79 5 [l0, l1, l2, l3] (aPush v []) τ Q)) := RB_callV (n := 2) (t := 0) (k := 71) (ins := .invokevirtual 71) rfl rfl rfl (by decide) (Nat.le_of_ble_eq_true rfl) (Nat.le_of_ble_eq_true rfl) rfl rfl
theorem w79_5 : RB d 79 5 [l0, l1, l2, l3] (.int x :: st) (S, I, R, z) Q = ((x = 0 → RB d 79 15 [l0, l1, l2, l3] st (S, I, R, z) Q) ∧ (¬ x = 0 → RB d 79 8 [l0, l1, l2, l3] st (S, I, R, z) Q)) := RB_eq0 rfl (by decide) rfl
theorem w79_8 : RB d 79 8 [l0, l1, .int x, l3] st (S, I, R, z) Q = RB d 79 9 [l0, l1, .int x, l3] (.int x :: st) (S, I, R, z) Q := RB_iloadn rfl rfl
theorem w79_9 : RB d 79 9 [l0, l1, l2, l3] [.int x0] (S, I, R, z) Q = RM d 125 [.int x0] (S, I, R, z) (fun v τ => RB d 79 12 [l0, l1, l2, l3] (aPush v []) τ Q) := RB_callS (n := 1) (t := 1) (k := 62) (ins := .invokestatic 62) rfl rfl rfl (Nat.le_of_ble_eq_true rfl) (Nat.le_of_ble_eq_true rfl) rfl rfl
theorem w79_12 : RB d 79 12 [l0, l1, l2, l3] (.int x :: st) (S, I, R, z) Q = ((x = 0 → RB d 79 15 [l0, l1, l2, l3] st (S, I, R, z) Q) ∧ (¬ x = 0 → RB d 79 18 [l0, l1, l2, l3] st (S, I, R, z) Q)) := RB_ne0 rfl (by decide) rfl
theorem w79_15 : RB d 79 15 [l0, l1, l2, l3] st (S, I, R, z) Q = RB d 79 17 [l0, l1, l2, l3] (.int (-1000000001) :: st) (S, I, R, z) Q := RB_ldc rfl rfl
theorem w79_17 : RB d 79 17 [l0, l1, l2, l3] [.int x] (S, I, R, z) Q = Q (some (.int x)) (S, I, R, z) := RB_iret rfl rfl rfl
theorem w79_18 : RB d 79 18 [.ref a, l1, l2, l3] st (S, I, R, z) Q = RB d 79 19 [.ref a, l1, l2, l3] (.ref a :: st) (S, I, R, z) Q := RB_aloadn rfl rfl
theorem w79_19 : RB d 79 19 [l0, l1, l2, l3] (.ref a :: st) (S, I, R, z) Q = ((S a).1 = 6 ∧ RB d 79 22 [l0, l1, l2, l3] (va_rf (R a 0) :: st) (S, I, R, z) Q) := RB_getR rfl rfl
theorem w79_22 : RB d 79 22 [l0, l1, l2, l3] (.ref a :: st) (S, I, R, z) Q = ((S a).1 = 2 ∧ RB d 79 25 [l0, l1, l2, l3] (va_rf (R a 1) :: st) (S, I, R, z) Q) := RB_getR rfl rfl
theorem w79_25 : RB d 79 25 [l0, .int x, l2, l3] st (S, I, R, z) Q = RB d 79 26 [l0, .int x, l2, l3] (.int x :: st) (S, I, R, z) Q := RB_iloadn rfl rfl
theorem w79_26 : RB d 79 26 [l0, l1, l2, l3] (.int i :: .ref a :: st) (S, I, R, z) Q = (((S a).1 = 9 ∧ aIx i (S a).2) ∧ RB d 79 27 [l0, l1, l2, l3] (.int (I a i.toNatClampNeg) :: st) (S, I, R, z) Q) := RB_iald rfl
theorem w79_27 : RB d 79 27 [l0, l1, l2, l3] (.int x :: st) (S, I, R, z) Q = RB d 79 28 [l0, l1, l2, .int x] st (S, I, R, z) Q := RB_istoren rfl (Nat.le_of_ble_eq_true rfl) rfl
theorem w79_28 : RB d 79 28 [.ref a, l1, l2, l3] st (S, I, R, z) Q = RB d 79 29 [.ref a, l1, l2, l3] (.ref a :: st) (S, I, R, z) Q := RB_aloadn rfl rfl
theorem w79_29 : RB d 79 29 [l0, l1, l2, l3] (.ref a :: st) (S, I, R, z) Q = ((S a).1 = 6 ∧ RB d 79 32 [l0, l1, l2, l3] (va_rf (R a 0) :: st) (S, I, R, z) Q) := RB_getR rfl rfl
theorem w79_32 : RB d 79 32 [l0, l1, l2, l3] (.ref a :: st) (S, I, R, z) Q = ((S a).1 = 2 ∧ RB d 79 35 [l0, l1, l2, l3] (va_rf (R a 1) :: st) (S, I, R, z) Q) := RB_getR rfl rfl
theorem w79_35 : RB d 79 35 [l0, .int x, l2, l3] st (S, I, R, z) Q = RB d 79 36 [l0, .int x, l2, l3] (.int x :: st) (S, I, R, z) Q := RB_iloadn rfl rfl
theorem w79_36 : RB d 79 36 [l0, l1, .int x, l3] st (S, I, R, z) Q = RB d 79 37 [l0, l1, .int x, l3] (.int x :: st) (S, I, R, z) Q := RB_iloadn rfl rfl
theorem w79_37 : RB d 79 37 [l0, l1, l2, l3] (.int x :: .int i :: .ref a :: st) (S, I, R, z) Q = (((S a).1 = 9 ∧ aIx i (S a).2 ∧ 16 ≤ a) ∧ RB d 79 38 [l0, l1, l2, l3] st (S, aW I a i.toNatClampNeg x, R, z) Q) := RB_iast rfl
theorem w79_38 : RB d 79 38 [l0, l1, l2, .int x] st (S, I, R, z) Q = RB d 79 39 [l0, l1, l2, .int x] (.int x :: st) (S, I, R, z) Q := RB_iloadn rfl rfl
theorem w79_39 : RB d 79 39 [l0, l1, l2, l3] [.int x] (S, I, R, z) Q = Q (some (.int x)) (S, I, R, z) := RB_iret rfl rfl rfl
/-! 80: HangedWord.asker -/
theorem w80_0 : RB d 80 0 [l0, .int x, l2] st (S, I, R, z) Q = RB d 80 1 [l0, .int x, l2] (.int x :: st) (S, I, R, z) Q := RB_iloadn rfl rfl
theorem w80_1 : RB d 80 1 [l0, l1, l2] [.int x0] (S, I, R, z) Q = RM d 126 [.int x0] (S, I, R, z) (fun v τ => RB d 80 4 [l0, l1, l2] (aPush v []) τ Q) := RB_callS (n := 1) (t := 1) (k := 88) (ins := .invokestatic 88) rfl rfl rfl (Nat.le_of_ble_eq_true rfl) (Nat.le_of_ble_eq_true rfl) rfl rfl
theorem w80_4 : RB d 80 4 [l0, l1, l2] (.int x :: st) (S, I, R, z) Q = ((x = 0 → RB d 80 14 [l0, l1, l2] st (S, I, R, z) Q) ∧ (¬ x = 0 → RB d 80 7 [l0, l1, l2] st (S, I, R, z) Q)) := RB_eq0 rfl (by decide) rfl
theorem w80_7 : RB d 80 7 [l0, l1, .int x] st (S, I, R, z) Q = RB d 80 8 [l0, l1, .int x] (.int x :: st) (S, I, R, z) Q := RB_iloadn rfl rfl
theorem w80_8 : RB d 80 8 [l0, l1, l2] [.int x0] (S, I, R, z) Q = RM d 124 [.int x0] (S, I, R, z) (fun v τ => RB d 80 11 [l0, l1, l2] (aPush v []) τ Q) := RB_callS (n := 1) (t := 1) (k := 91) (ins := .invokestatic 91) rfl rfl rfl (Nat.le_of_ble_eq_true rfl) (Nat.le_of_ble_eq_true rfl) rfl rfl
theorem w80_11 : RB d 80 11 [l0, l1, l2] (.int x :: st) (S, I, R, z) Q = ((x = 0 → RB d 80 14 [l0, l1, l2] st (S, I, R, z) Q) ∧ (¬ x = 0 → RB d 80 17 [l0, l1, l2] st (S, I, R, z) Q)) := RB_ne0 rfl (by decide) rfl
theorem w80_14 : RB d 80 14 [l0, l1, l2] st (S, I, R, z) Q = RB d 80 16 [l0, l1, l2] (.int (-1000000001) :: st) (S, I, R, z) Q := RB_ldc rfl rfl
theorem w80_16 : RB d 80 16 [l0, l1, l2] [.int x] (S, I, R, z) Q = Q (some (.int x)) (S, I, R, z) := RB_iret rfl rfl rfl
theorem w80_17 : RB d 80 17 [.ref a, l1, l2] st (S, I, R, z) Q = RB d 80 18 [.ref a, l1, l2] (.ref a :: st) (S, I, R, z) Q := RB_aloadn rfl rfl
theorem w80_18 : RB d 80 18 [l0, l1, l2] (.ref a :: st) (S, I, R, z) Q = ((S a).1 = 6 ∧ RB d 80 21 [l0, l1, l2] (va_rf (R a 0) :: st) (S, I, R, z) Q) := RB_getR rfl rfl
theorem w80_21 : RB d 80 21 [l0, .int x, l2] st (S, I, R, z) Q = RB d 80 22 [l0, .int x, l2] (.int x :: st) (S, I, R, z) Q := RB_iloadn rfl rfl
theorem w80_22 : RB d 80 22 [l0, l1, .int x] st (S, I, R, z) Q = RB d 80 23 [l0, l1, .int x] (.int x :: st) (S, I, R, z) Q := RB_iloadn rfl rfl
theorem w80_23 : RB d 80 23 [l0, l1, l2] [.int x1, .int x0, .ref a] (S, I, R, z) Q = ((S a).1 = 2 ∧ RM d 11 [.ref a, .int x0, .int x1] (S, I, R, z) (fun v τ => RB d 80 26 [l0, l1, l2] (aPush v []) τ Q)) := RB_callV (n := 3) (t := 0) (k := 94) (ins := .invokevirtual 94) rfl rfl rfl (by decide) (Nat.le_of_ble_eq_true rfl) (Nat.le_of_ble_eq_true rfl) rfl rfl
theorem w80_26 : RB d 80 26 [l0, l1, l2] [.int x] (S, I, R, z) Q = Q (some (.int x)) (S, I, R, z) := RB_iret rfl rfl rfl
/-! 81: HangedWord.told -/
theorem w81_0 : RB d 81 0 [.ref a, l1, l2] st (S, I, R, z) Q = RB d 81 1 [.ref a, l1, l2] (.ref a :: st) (S, I, R, z) Q := RB_aloadn rfl rfl
theorem w81_1 : RB d 81 1 [l0, .int x, l2] st (S, I, R, z) Q = RB d 81 2 [l0, .int x, l2] (.int x :: st) (S, I, R, z) Q := RB_iloadn rfl rfl
theorem w81_2 : RB d 81 2 [l0, l1, l2] [.int x0, .ref a] (S, I, R, z) Q = ((S a).1 = 6 ∧ RM d 123 [.ref a, .int x0] (S, I, R, z) (fun v τ => RB d 81 5 [l0, l1, l2] (aPush v []) τ Q)) := RB_callV (n := 2) (t := 0) (k := 97) (ins := .invokevirtual 97) rfl rfl rfl (by decide) (Nat.le_of_ble_eq_true rfl) (Nat.le_of_ble_eq_true rfl) rfl rfl
theorem w81_5 : RB d 81 5 [l0, l1, l2] (.int x :: st) (S, I, R, z) Q = ((x = 0 → RB d 81 8 [l0, l1, l2] st (S, I, R, z) Q) ∧ (¬ x = 0 → RB d 81 11 [l0, l1, l2] st (S, I, R, z) Q)) := RB_ne0 rfl (by decide) rfl
theorem w81_8 : RB d 81 8 [l0, l1, l2] st (S, I, R, z) Q = RB d 81 10 [l0, l1, l2] (.int (-1000000001) :: st) (S, I, R, z) Q := RB_ldc rfl rfl
theorem w81_10 : RB d 81 10 [l0, l1, l2] [.int x] (S, I, R, z) Q = Q (some (.int x)) (S, I, R, z) := RB_iret rfl rfl rfl
theorem w81_11 : RB d 81 11 [l0, l1, .int x] st (S, I, R, z) Q = RB d 81 12 [l0, l1, .int x] (.int x :: st) (S, I, R, z) Q := RB_iloadn rfl rfl
theorem w81_12 : RB d 81 12 [l0, l1, l2] (.int x :: st) (S, I, R, z) Q = aTsR d 81 12 x 92 [l0, l1, l2] st (S, I, R, z) Q [(0, 44), (1, 54), (2, 64), (3, 70)] := RB_ts rfl (by decide) (by decide) (by decide) (by decide +kernel) rfl
theorem w81_44 : RB d 81 44 [.ref a, l1, l2] st (S, I, R, z) Q = RB d 81 45 [.ref a, l1, l2] (.ref a :: st) (S, I, R, z) Q := RB_aloadn rfl rfl
theorem w81_45 : RB d 81 45 [l0, l1, l2] (.ref a :: st) (S, I, R, z) Q = ((S a).1 = 6 ∧ RB d 81 48 [l0, l1, l2] (va_rf (R a 0) :: st) (S, I, R, z) Q) := RB_getR rfl rfl
theorem w81_48 : RB d 81 48 [l0, l1, l2] (.ref a :: st) (S, I, R, z) Q = ((S a).1 = 2 ∧ RB d 81 51 [l0, l1, l2] (va_rf (R a 4) :: st) (S, I, R, z) Q) := RB_getR rfl rfl
theorem w81_51 : RB d 81 51 [l0, .int x, l2] st (S, I, R, z) Q = RB d 81 52 [l0, .int x, l2] (.int x :: st) (S, I, R, z) Q := RB_iloadn rfl rfl
theorem w81_52 : RB d 81 52 [l0, l1, l2] (.int i :: .ref a :: st) (S, I, R, z) Q = (((S a).1 = 9 ∧ aIx i (S a).2) ∧ RB d 81 53 [l0, l1, l2] (.int (I a i.toNatClampNeg) :: st) (S, I, R, z) Q) := RB_iald rfl
theorem w81_53 : RB d 81 53 [l0, l1, l2] [.int x] (S, I, R, z) Q = Q (some (.int x)) (S, I, R, z) := RB_iret rfl rfl rfl
theorem w81_54 : RB d 81 54 [.ref a, l1, l2] st (S, I, R, z) Q = RB d 81 55 [.ref a, l1, l2] (.ref a :: st) (S, I, R, z) Q := RB_aloadn rfl rfl
theorem w81_55 : RB d 81 55 [l0, l1, l2] (.ref a :: st) (S, I, R, z) Q = ((S a).1 = 6 ∧ RB d 81 58 [l0, l1, l2] (va_rf (R a 0) :: st) (S, I, R, z) Q) := RB_getR rfl rfl
theorem w81_58 : RB d 81 58 [l0, l1, l2] (.ref a :: st) (S, I, R, z) Q = ((S a).1 = 2 ∧ RB d 81 61 [l0, l1, l2] (va_rf (R a 5) :: st) (S, I, R, z) Q) := RB_getR rfl rfl
theorem w81_61 : RB d 81 61 [l0, .int x, l2] st (S, I, R, z) Q = RB d 81 62 [l0, .int x, l2] (.int x :: st) (S, I, R, z) Q := RB_iloadn rfl rfl
theorem w81_62 : RB d 81 62 [l0, l1, l2] (.int i :: .ref a :: st) (S, I, R, z) Q = (((S a).1 = 9 ∧ aIx i (S a).2) ∧ RB d 81 63 [l0, l1, l2] (.int (I a i.toNatClampNeg) :: st) (S, I, R, z) Q) := RB_iald rfl
theorem w81_63 : RB d 81 63 [l0, l1, l2] [.int x] (S, I, R, z) Q = Q (some (.int x)) (S, I, R, z) := RB_iret rfl rfl rfl
theorem w81_64 : RB d 81 64 [.ref a, l1, l2] st (S, I, R, z) Q = RB d 81 65 [.ref a, l1, l2] (.ref a :: st) (S, I, R, z) Q := RB_aloadn rfl rfl
theorem w81_65 : RB d 81 65 [l0, .int x, l2] st (S, I, R, z) Q = RB d 81 66 [l0, .int x, l2] (.int x :: st) (S, I, R, z) Q := RB_iloadn rfl rfl
theorem w81_66 : RB d 81 66 [l0, l1, l2] [.int x0, .ref a] (S, I, R, z) Q = ((S a).1 = 6 ∧ RM d 133 [.ref a, .int x0] (S, I, R, z) (fun v τ => RB d 81 69 [l0, l1, l2] (aPush v []) τ Q)) := RB_callV (n := 2) (t := 0) (k := 106) (ins := .invokevirtual 106) rfl rfl rfl (by decide) (Nat.le_of_ble_eq_true rfl) (Nat.le_of_ble_eq_true rfl) rfl rfl
theorem w81_69 : RB d 81 69 [l0, l1, l2] [.int x] (S, I, R, z) Q = Q (some (.int x)) (S, I, R, z) := RB_iret rfl rfl rfl
theorem w81_70 : RB d 81 70 [.ref a, l1, l2] st (S, I, R, z) Q = RB d 81 71 [.ref a, l1, l2] (.ref a :: st) (S, I, R, z) Q := RB_aloadn rfl rfl
theorem w81_71 : RB d 81 71 [l0, l1, l2] (.ref a :: st) (S, I, R, z) Q = ((S a).1 = 6 ∧ RB d 81 74 [l0, l1, l2] (va_rf (R a 0) :: st) (S, I, R, z) Q) := RB_getR rfl rfl
theorem w81_74 : RB d 81 74 [l0, l1, l2] (.ref a :: st) (S, I, R, z) Q = ((S a).1 = 2 ∧ RB d 81 77 [l0, l1, l2] (va_rf (R a 4) :: st) (S, I, R, z) Q) := RB_getR rfl rfl
theorem w81_77 : RB d 81 77 [l0, .int x, l2] st (S, I, R, z) Q = RB d 81 78 [l0, .int x, l2] (.int x :: st) (S, I, R, z) Q := RB_iloadn rfl rfl
theorem w81_78 : RB d 81 78 [l0, l1, l2] (.int i :: .ref a :: st) (S, I, R, z) Q = (((S a).1 = 9 ∧ aIx i (S a).2) ∧ RB d 81 79 [l0, l1, l2] (.int (I a i.toNatClampNeg) :: st) (S, I, R, z) Q) := RB_iald rfl
theorem w81_79 : RB d 81 79 [.ref a, l1, l2] st (S, I, R, z) Q = RB d 81 80 [.ref a, l1, l2] (.ref a :: st) (S, I, R, z) Q := RB_aloadn rfl rfl
theorem w81_80 : RB d 81 80 [l0, l1, l2] (.ref a :: st) (S, I, R, z) Q = ((S a).1 = 6 ∧ RB d 81 83 [l0, l1, l2] (va_rf (R a 0) :: st) (S, I, R, z) Q) := RB_getR rfl rfl
theorem w81_83 : RB d 81 83 [l0, l1, l2] (.ref a :: st) (S, I, R, z) Q = ((S a).1 = 2 ∧ RB d 81 86 [l0, l1, l2] (va_rf (R a 5) :: st) (S, I, R, z) Q) := RB_getR rfl rfl
theorem w81_86 : RB d 81 86 [l0, .int x, l2] st (S, I, R, z) Q = RB d 81 87 [l0, .int x, l2] (.int x :: st) (S, I, R, z) Q := RB_iloadn rfl rfl
theorem w81_87 : RB d 81 87 [l0, l1, l2] (.int i :: .ref a :: st) (S, I, R, z) Q = (((S a).1 = 9 ∧ aIx i (S a).2) ∧ RB d 81 88 [l0, l1, l2] (.int (I a i.toNatClampNeg) :: st) (S, I, R, z) Q) := RB_iald rfl
theorem w81_88 : RB d 81 88 [l0, l1, l2] [.int x1, .int x0] (S, I, R, z) Q = RM d 132 [.int x0, .int x1] (S, I, R, z) (fun v τ => RB d 81 91 [l0, l1, l2] (aPush v []) τ Q) := RB_callS (n := 2) (t := 1) (k := 109) (ins := .invokestatic 109) rfl rfl rfl (Nat.le_of_ble_eq_true rfl) (Nat.le_of_ble_eq_true rfl) rfl rfl
theorem w81_91 : RB d 81 91 [l0, l1, l2] [.int x] (S, I, R, z) Q = Q (some (.int x)) (S, I, R, z) := RB_iret rfl rfl rfl
theorem w81_92 : RB d 81 92 [l0, l1, l2] st (S, I, R, z) Q = RB d 81 94 [l0, l1, l2] (.int (-1000000001) :: st) (S, I, R, z) Q := RB_ldc rfl rfl
theorem w81_94 : RB d 81 94 [l0, l1, l2] [.int x] (S, I, R, z) Q = Q (some (.int x)) (S, I, R, z) := RB_iret rfl rfl rfl
/-! 82: HangedWord.score -/
theorem w82_0 : RB d 82 0 [.ref a, l1, l2] st (S, I, R, z) Q = RB d 82 1 [.ref a, l1, l2] (.ref a :: st) (S, I, R, z) Q := RB_aloadn rfl rfl
theorem w82_1 : RB d 82 1 [l0, .int x, l2] st (S, I, R, z) Q = RB d 82 2 [l0, .int x, l2] (.int x :: st) (S, I, R, z) Q := RB_iloadn rfl rfl
theorem w82_2 : RB d 82 2 [l0, l1, l2] [.int x0, .ref a] (S, I, R, z) Q = ((S a).1 = 6 ∧ RM d 123 [.ref a, .int x0] (S, I, R, z) (fun v τ => RB d 82 5 [l0, l1, l2] (aPush v []) τ Q)) := RB_callV (n := 2) (t := 0) (k := 97) (ins := .invokevirtual 97) rfl rfl rfl (by decide) (Nat.le_of_ble_eq_true rfl) (Nat.le_of_ble_eq_true rfl) rfl rfl
theorem w82_5 : RB d 82 5 [l0, l1, l2] (.int x :: st) (S, I, R, z) Q = ((x = 0 → RB d 82 29 [l0, l1, l2] st (S, I, R, z) Q) ∧ (¬ x = 0 → RB d 82 8 [l0, l1, l2] st (S, I, R, z) Q)) := RB_eq0 rfl (by decide) rfl
theorem w82_8 : RB d 82 8 [l0, l1, .int x] st (S, I, R, z) Q = RB d 82 9 [l0, l1, .int x] (.int x :: st) (S, I, R, z) Q := RB_iloadn rfl rfl
theorem w82_9 : RB d 82 9 [l0, l1, l2] [.int x0] (S, I, R, z) Q = RM d 124 [.int x0] (S, I, R, z) (fun v τ => RB d 82 12 [l0, l1, l2] (aPush v []) τ Q) := RB_callS (n := 1) (t := 1) (k := 91) (ins := .invokestatic 91) rfl rfl rfl (Nat.le_of_ble_eq_true rfl) (Nat.le_of_ble_eq_true rfl) rfl rfl
theorem w82_12 : RB d 82 12 [l0, l1, l2] (.int x :: st) (S, I, R, z) Q = ((x = 0 → RB d 82 29 [l0, l1, l2] st (S, I, R, z) Q) ∧ (¬ x = 0 → RB d 82 15 [l0, l1, l2] st (S, I, R, z) Q)) := RB_eq0 rfl (by decide) rfl
theorem w82_15 : RB d 82 15 [.ref a, l1, l2] st (S, I, R, z) Q = RB d 82 16 [.ref a, l1, l2] (.ref a :: st) (S, I, R, z) Q := RB_aloadn rfl rfl
theorem w82_16 : RB d 82 16 [l0, l1, l2] (.ref a :: st) (S, I, R, z) Q = ((S a).1 = 6 ∧ RB d 82 19 [l0, l1, l2] (va_rf (R a 0) :: st) (S, I, R, z) Q) := RB_getR rfl rfl
theorem w82_19 : RB d 82 19 [l0, l1, l2] (.ref a :: st) (S, I, R, z) Q = ((S a).1 = 2 ∧ RB d 82 22 [l0, l1, l2] (.int (I a 8) :: st) (S, I, R, z) Q) := RB_getI rfl rfl
theorem w82_22 : RB d 82 22 [l0, l1, .int x] st (S, I, R, z) Q = RB d 82 23 [l0, l1, .int x] (.int x :: st) (S, I, R, z) Q := RB_iloadn rfl rfl
theorem w82_23 : RB d 82 23 [l0, l1, l2] [.int x1, .int x0] (S, I, R, z) Q = RM d 129 [.int x0, .int x1] (S, I, R, z) (fun v τ => RB d 82 26 [l0, l1, l2] (aPush v []) τ Q) := RB_callS (n := 2) (t := 1) (k := 115) (ins := .invokestatic 115) rfl rfl rfl (Nat.le_of_ble_eq_true rfl) (Nat.le_of_ble_eq_true rfl) rfl rfl
theorem w82_26 : RB d 82 26 [l0, l1, l2] (.int x :: st) (S, I, R, z) Q = ((x = 0 → RB d 82 32 [l0, l1, l2] st (S, I, R, z) Q) ∧ (¬ x = 0 → RB d 82 29 [l0, l1, l2] st (S, I, R, z) Q)) := RB_eq0 rfl (by decide) rfl
theorem w82_29 : RB d 82 29 [l0, l1, l2] st (S, I, R, z) Q = RB d 82 31 [l0, l1, l2] (.int (-1000000001) :: st) (S, I, R, z) Q := RB_ldc rfl rfl
theorem w82_31 : RB d 82 31 [l0, l1, l2] [.int x] (S, I, R, z) Q = Q (some (.int x)) (S, I, R, z) := RB_iret rfl rfl rfl
theorem w82_32 : RB d 82 32 [.ref a, l1, l2] st (S, I, R, z) Q = RB d 82 33 [.ref a, l1, l2] (.ref a :: st) (S, I, R, z) Q := RB_aloadn rfl rfl
theorem w82_33 : RB d 82 33 [l0, l1, l2] (.ref a :: st) (S, I, R, z) Q = ((S a).1 = 6 ∧ RB d 82 36 [l0, l1, l2] (va_rf (R a 0) :: st) (S, I, R, z) Q) := RB_getR rfl rfl
theorem w82_36 : RB d 82 36 [l0, .int x, l2] st (S, I, R, z) Q = RB d 82 37 [l0, .int x, l2] (.int x :: st) (S, I, R, z) Q := RB_iloadn rfl rfl
theorem w82_37 : RB d 82 37 [l0, l1, .int x] st (S, I, R, z) Q = RB d 82 38 [l0, l1, .int x] (.int x :: st) (S, I, R, z) Q := RB_iloadn rfl rfl
theorem w82_38 : RB d 82 38 [.ref a, l1, l2] st (S, I, R, z) Q = RB d 82 39 [.ref a, l1, l2] (.ref a :: st) (S, I, R, z) Q := RB_aloadn rfl rfl
theorem w82_39 : RB d 82 39 [l0, l1, l2] (.ref a :: st) (S, I, R, z) Q = ((S a).1 = 6 ∧ RB d 82 42 [l0, l1, l2] (va_rf (R a 0) :: st) (S, I, R, z) Q) := RB_getR rfl rfl
theorem w82_42 : RB d 82 42 [l0, l1, l2] [.ref a, s0, s1, s2] (S, I, R, z) Q = ((S a).1 = 2 ∧ RM d 21 [.ref a] (S, I, R, z) (fun v τ => RB d 82 45 [l0, l1, l2] (aPush v [s0, s1, s2]) τ Q)) := RB_callV (n := 1) (t := 0) (k := 84) (ins := .invokevirtual 84) rfl rfl rfl (by decide) (Nat.le_of_ble_eq_true rfl) (Nat.le_of_ble_eq_true rfl) rfl rfl
theorem w82_45 : RB d 82 45 [l0, l1, l2] [.int x2, .int x1, .int x0, .ref a] (S, I, R, z) Q = ((S a).1 = 2 ∧ RM d 24 [.ref a, .int x0, .int x1, .int x2] (S, I, R, z) (fun v τ => RB d 82 48 [l0, l1, l2] (aPush v []) τ Q)) := RB_callV (n := 4) (t := 0) (k := 119) (ins := .invokevirtual 119) rfl rfl rfl (by decide) (Nat.le_of_ble_eq_true rfl) (Nat.le_of_ble_eq_true rfl) rfl rfl
theorem w82_48 : RB d 82 48 [l0, l1, l2] [.int x] (S, I, R, z) Q = Q (some (.int x)) (S, I, R, z) := RB_iret rfl rfl rfl
/-! 83: HangedWord.as -/
theorem w83_0 : RB d 83 0 [.ref a, l1, l2] st (S, I, R, z) Q = RB d 83 1 [.ref a, l1, l2] (.ref a :: st) (S, I, R, z) Q := RB_aloadn rfl rfl
theorem w83_1 : RB d 83 1 [l0, .int x, l2] st (S, I, R, z) Q = RB d 83 2 [l0, .int x, l2] (.int x :: st) (S, I, R, z) Q := RB_iloadn rfl rfl
theorem w83_2 : RB d 83 2 [l0, l1, l2] [.int x0, .ref a] (S, I, R, z) Q = ((S a).1 = 6 ∧ RM d 123 [.ref a, .int x0] (S, I, R, z) (fun v τ => RB d 83 5 [l0, l1, l2] (aPush v []) τ Q)) := RB_callV (n := 2) (t := 0) (k := 97) (ins := .invokevirtual 97) rfl rfl rfl (by decide) (Nat.le_of_ble_eq_true rfl) (Nat.le_of_ble_eq_true rfl) rfl rfl
theorem w83_5 : RB d 83 5 [l0, l1, l2] (.int x :: st) (S, I, R, z) Q = ((x = 0 → RB d 83 15 [l0, l1, l2] st (S, I, R, z) Q) ∧ (¬ x = 0 → RB d 83 8 [l0, l1, l2] st (S, I, R, z) Q)) := RB_eq0 rfl (by decide) rfl
theorem w83_8 : RB d 83 8 [l0, l1, .int x] st (S, I, R, z) Q = RB d 83 9 [l0, l1, .int x] (.int x :: st) (S, I, R, z) Q := RB_iloadn rfl rfl
theorem w83_9 : RB d 83 9 [l0, l1, l2] [.int x0] (S, I, R, z) Q = RM d 126 [.int x0] (S, I, R, z) (fun v τ => RB d 83 12 [l0, l1, l2] (aPush v []) τ Q) := RB_callS (n := 1) (t := 1) (k := 88) (ins := .invokestatic 88) rfl rfl rfl (Nat.le_of_ble_eq_true rfl) (Nat.le_of_ble_eq_true rfl) rfl rfl
theorem w83_12 : RB d 83 12 [l0, l1, l2] (.int x :: st) (S, I, R, z) Q = ((x = 0 → RB d 83 15 [l0, l1, l2] st (S, I, R, z) Q) ∧ (¬ x = 0 → RB d 83 18 [l0, l1, l2] st (S, I, R, z) Q)) := RB_ne0 rfl (by decide) rfl
theorem w83_15 : RB d 83 15 [l0, l1, l2] st (S, I, R, z) Q = RB d 83 17 [l0, l1, l2] (.int (-1000000001) :: st) (S, I, R, z) Q := RB_ldc rfl rfl
theorem w83_17 : RB d 83 17 [l0, l1, l2] [.int x] (S, I, R, z) Q = Q (some (.int x)) (S, I, R, z) := RB_iret rfl rfl rfl
theorem w83_18 : RB d 83 18 [.ref a, l1, l2] st (S, I, R, z) Q = RB d 83 19 [.ref a, l1, l2] (.ref a :: st) (S, I, R, z) Q := RB_aloadn rfl rfl
theorem w83_19 : RB d 83 19 [l0, l1, l2] (.ref a :: st) (S, I, R, z) Q = ((S a).1 = 6 ∧ RB d 83 22 [l0, l1, l2] (va_rf (R a 0) :: st) (S, I, R, z) Q) := RB_getR rfl rfl
theorem w83_22 : RB d 83 22 [l0, l1, l2] (.ref a :: st) (S, I, R, z) Q = ((S a).1 = 2 ∧ RB d 83 25 [l0, l1, l2] (va_rf (R a 4) :: st) (S, I, R, z) Q) := RB_getR rfl rfl
theorem w83_25 : RB d 83 25 [l0, .int x, l2] st (S, I, R, z) Q = RB d 83 26 [l0, .int x, l2] (.int x :: st) (S, I, R, z) Q := RB_iloadn rfl rfl
theorem w83_26 : RB d 83 26 [l0, l1, l2] (.int i :: .ref a :: st) (S, I, R, z) Q = (((S a).1 = 9 ∧ aIx i (S a).2) ∧ RB d 83 27 [l0, l1, l2] (.int (I a i.toNatClampNeg) :: st) (S, I, R, z) Q) := RB_iald rfl
theorem w83_27 : RB d 83 27 [l0, l1, .int x] st (S, I, R, z) Q = RB d 83 28 [l0, l1, .int x] (.int x :: st) (S, I, R, z) Q := RB_iloadn rfl rfl
theorem w83_28 : RB d 83 28 [l0, l1, l2] [.int x1, .int x0] (S, I, R, z) Q = RM d 131 [.int x0, .int x1] (S, I, R, z) (fun v τ => RB d 83 31 [l0, l1, l2] (aPush v []) τ Q) := RB_callS (n := 2) (t := 1) (k := 123) (ins := .invokestatic 123) rfl rfl rfl (Nat.le_of_ble_eq_true rfl) (Nat.le_of_ble_eq_true rfl) rfl rfl
theorem w83_31 : RB d 83 31 [l0, l1, l2] (.int x :: st) (S, I, R, z) Q = ((x = 0 → RB d 83 46 [l0, l1, l2] st (S, I, R, z) Q) ∧ (¬ x = 0 → RB d 83 34 [l0, l1, l2] st (S, I, R, z) Q)) := RB_eq0 rfl (by decide) rfl
theorem w83_34 : RB d 83 34 [.ref a, l1, l2] st (S, I, R, z) Q = RB d 83 35 [.ref a, l1, l2] (.ref a :: st) (S, I, R, z) Q := RB_aloadn rfl rfl
theorem w83_35 : RB d 83 35 [l0, l1, l2] (.ref a :: st) (S, I, R, z) Q = ((S a).1 = 6 ∧ RB d 83 38 [l0, l1, l2] (va_rf (R a 0) :: st) (S, I, R, z) Q) := RB_getR rfl rfl
theorem w83_38 : RB d 83 38 [l0, l1, l2] (.ref a :: st) (S, I, R, z) Q = ((S a).1 = 2 ∧ RB d 83 41 [l0, l1, l2] (va_rf (R a 5) :: st) (S, I, R, z) Q) := RB_getR rfl rfl
theorem w83_41 : RB d 83 41 [l0, .int x, l2] st (S, I, R, z) Q = RB d 83 42 [l0, .int x, l2] (.int x :: st) (S, I, R, z) Q := RB_iloadn rfl rfl
theorem w83_42 : RB d 83 42 [l0, l1, l2] (.int i :: .ref a :: st) (S, I, R, z) Q = (((S a).1 = 9 ∧ aIx i (S a).2) ∧ RB d 83 43 [l0, l1, l2] (.int (I a i.toNatClampNeg) :: st) (S, I, R, z) Q) := RB_iald rfl
theorem w83_43 : RB d 83 43 [l0, l1, l2] st (S, I, R, z) Q = RB d 83 48 [l0, l1, l2] st (S, I, R, z) Q := RB_goto rfl (by decide) rfl
theorem w83_46 : RB d 83 46 [l0, l1, l2] st (S, I, R, z) Q = RB d 83 48 [l0, l1, l2] (.int (-1000000012) :: st) (S, I, R, z) Q := RB_ldc rfl rfl
theorem w83_48 : RB d 83 48 [l0, l1, l2] [.int x] (S, I, R, z) Q = Q (some (.int x)) (S, I, R, z) := RB_iret rfl rfl rfl
/-! 84: HangedWord.turns -/
theorem w84_0 : RB d 84 0 [.ref a, l1, l2, l3] st (S, I, R, z) Q = RB d 84 1 [.ref a, l1, l2, l3] (.ref a :: st) (S, I, R, z) Q := RB_aloadn rfl rfl
theorem w84_1 : RB d 84 1 [l0, .int x, l2, l3] st (S, I, R, z) Q = RB d 84 2 [l0, .int x, l2, l3] (.int x :: st) (S, I, R, z) Q := RB_iloadn rfl rfl
theorem w84_2 : RB d 84 2 [l0, l1, l2, l3] [.int x0, .ref a] (S, I, R, z) Q = ((S a).1 = 6 ∧ RM d 123 [.ref a, .int x0] (S, I, R, z) (fun v τ => RB d 84 5 [l0, l1, l2, l3] (aPush v []) τ Q)) := RB_callV (n := 2) (t := 0) (k := 97) (ins := .invokevirtual 97) rfl rfl rfl (by decide) (Nat.le_of_ble_eq_true rfl) (Nat.le_of_ble_eq_true rfl) rfl rfl
theorem w84_5 : RB d 84 5 [l0, l1, l2, l3] (.int x :: st) (S, I, R, z) Q = ((x = 0 → RB d 84 15 [l0, l1, l2, l3] st (S, I, R, z) Q) ∧ (¬ x = 0 → RB d 84 8 [l0, l1, l2, l3] st (S, I, R, z) Q)) := RB_eq0 rfl (by decide) rfl
theorem w84_8 : RB d 84 8 [l0, l1, .int x, l3] st (S, I, R, z) Q = RB d 84 9 [l0, l1, .int x, l3] (.int x :: st) (S, I, R, z) Q := RB_iloadn rfl rfl
theorem w84_9 : RB d 84 9 [l0, l1, l2, l3] [.int x0] (S, I, R, z) Q = RM d 126 [.int x0] (S, I, R, z) (fun v τ => RB d 84 12 [l0, l1, l2, l3] (aPush v []) τ Q) := RB_callS (n := 1) (t := 1) (k := 88) (ins := .invokestatic 88) rfl rfl rfl (Nat.le_of_ble_eq_true rfl) (Nat.le_of_ble_eq_true rfl) rfl rfl
theorem w84_12 : RB d 84 12 [l0, l1, l2, l3] (.int x :: st) (S, I, R, z) Q = ((x = 0 → RB d 84 15 [l0, l1, l2, l3] st (S, I, R, z) Q) ∧ (¬ x = 0 → RB d 84 18 [l0, l1, l2, l3] st (S, I, R, z) Q)) := RB_ne0 rfl (by decide) rfl
theorem w84_15 : RB d 84 15 [l0, l1, l2, l3] st (S, I, R, z) Q = RB d 84 17 [l0, l1, l2, l3] (.int (-1000000001) :: st) (S, I, R, z) Q := RB_ldc rfl rfl
theorem w84_17 : RB d 84 17 [l0, l1, l2, l3] [.int x] (S, I, R, z) Q = Q (some (.int x)) (S, I, R, z) := RB_iret rfl rfl rfl
theorem w84_18 : RB d 84 18 [.ref a, l1, l2, l3] st (S, I, R, z) Q = RB d 84 19 [.ref a, l1, l2, l3] (.ref a :: st) (S, I, R, z) Q := RB_aloadn rfl rfl
theorem w84_19 : RB d 84 19 [l0, l1, l2, l3] (.ref a :: st) (S, I, R, z) Q = ((S a).1 = 6 ∧ RB d 84 22 [l0, l1, l2, l3] (va_rf (R a 0) :: st) (S, I, R, z) Q) := RB_getR rfl rfl
theorem w84_22 : RB d 84 22 [l0, l1, l2, l3] (.ref a :: st) (S, I, R, z) Q = ((S a).1 = 2 ∧ RB d 84 25 [l0, l1, l2, l3] (va_rf (R a 4) :: st) (S, I, R, z) Q) := RB_getR rfl rfl
theorem w84_25 : RB d 84 25 [l0, .int x, l2, l3] st (S, I, R, z) Q = RB d 84 26 [l0, .int x, l2, l3] (.int x :: st) (S, I, R, z) Q := RB_iloadn rfl rfl
theorem w84_26 : RB d 84 26 [l0, l1, l2, l3] (.int i :: .ref a :: st) (S, I, R, z) Q = (((S a).1 = 9 ∧ aIx i (S a).2) ∧ RB d 84 27 [l0, l1, l2, l3] (.int (I a i.toNatClampNeg) :: st) (S, I, R, z) Q) := RB_iald rfl
theorem w84_27 : RB d 84 27 [l0, l1, l2, l3] (.int x :: st) (S, I, R, z) Q = RB d 84 28 [l0, l1, l2, .int x] st (S, I, R, z) Q := RB_istoren rfl (Nat.le_of_ble_eq_true rfl) rfl
theorem w84_28 : RB d 84 28 [.ref a, l1, l2, l3] st (S, I, R, z) Q = RB d 84 29 [.ref a, l1, l2, l3] (.ref a :: st) (S, I, R, z) Q := RB_aloadn rfl rfl
theorem w84_29 : RB d 84 29 [l0, l1, l2, l3] (.ref a :: st) (S, I, R, z) Q = ((S a).1 = 6 ∧ RB d 84 32 [l0, l1, l2, l3] (va_rf (R a 0) :: st) (S, I, R, z) Q) := RB_getR rfl rfl
theorem w84_32 : RB d 84 32 [l0, l1, l2, l3] (.ref a :: st) (S, I, R, z) Q = ((S a).1 = 2 ∧ RB d 84 35 [l0, l1, l2, l3] (va_rf (R a 4) :: st) (S, I, R, z) Q) := RB_getR rfl rfl
theorem w84_35 : RB d 84 35 [l0, .int x, l2, l3] st (S, I, R, z) Q = RB d 84 36 [l0, .int x, l2, l3] (.int x :: st) (S, I, R, z) Q := RB_iloadn rfl rfl
theorem w84_36 : RB d 84 36 [l0, l1, .int x, l3] st (S, I, R, z) Q = RB d 84 37 [l0, l1, .int x, l3] (.int x :: st) (S, I, R, z) Q := RB_iloadn rfl rfl
theorem w84_37 : RB d 84 37 [l0, l1, l2, l3] (.int x :: .int i :: .ref a :: st) (S, I, R, z) Q = (((S a).1 = 9 ∧ aIx i (S a).2 ∧ 16 ≤ a) ∧ RB d 84 38 [l0, l1, l2, l3] st (S, aW I a i.toNatClampNeg x, R, z) Q) := RB_iast rfl
theorem w84_38 : RB d 84 38 [l0, l1, l2, .int x] st (S, I, R, z) Q = RB d 84 39 [l0, l1, l2, .int x] (.int x :: st) (S, I, R, z) Q := RB_iloadn rfl rfl
theorem w84_39 : RB d 84 39 [l0, l1, l2, l3] [.int x] (S, I, R, z) Q = Q (some (.int x)) (S, I, R, z) := RB_iret rfl rfl rfl
/-! 85: HangedWord.first -/
theorem w85_0 : RB d 85 0 [.ref a, l1, l2, l3] st (S, I, R, z) Q = RB d 85 1 [.ref a, l1, l2, l3] (.ref a :: st) (S, I, R, z) Q := RB_aloadn rfl rfl
theorem w85_1 : RB d 85 1 [l0, .int x, l2, l3] st (S, I, R, z) Q = RB d 85 2 [l0, .int x, l2, l3] (.int x :: st) (S, I, R, z) Q := RB_iloadn rfl rfl
theorem w85_2 : RB d 85 2 [l0, l1, l2, l3] [.int x0, .ref a] (S, I, R, z) Q = ((S a).1 = 6 ∧ RM d 123 [.ref a, .int x0] (S, I, R, z) (fun v τ => RB d 85 5 [l0, l1, l2, l3] (aPush v []) τ Q)) := RB_callV (n := 2) (t := 0) (k := 97) (ins := .invokevirtual 97) rfl rfl rfl (by decide) (Nat.le_of_ble_eq_true rfl) (Nat.le_of_ble_eq_true rfl) rfl rfl
theorem w85_5 : RB d 85 5 [l0, l1, l2, l3] (.int x :: st) (S, I, R, z) Q = ((x = 0 → RB d 85 15 [l0, l1, l2, l3] st (S, I, R, z) Q) ∧ (¬ x = 0 → RB d 85 8 [l0, l1, l2, l3] st (S, I, R, z) Q)) := RB_eq0 rfl (by decide) rfl
theorem w85_8 : RB d 85 8 [l0, l1, .int x, l3] st (S, I, R, z) Q = RB d 85 9 [l0, l1, .int x, l3] (.int x :: st) (S, I, R, z) Q := RB_iloadn rfl rfl
theorem w85_9 : RB d 85 9 [l0, l1, l2, l3] [.int x0] (S, I, R, z) Q = RM d 124 [.int x0] (S, I, R, z) (fun v τ => RB d 85 12 [l0, l1, l2, l3] (aPush v []) τ Q) := RB_callS (n := 1) (t := 1) (k := 91) (ins := .invokestatic 91) rfl rfl rfl (Nat.le_of_ble_eq_true rfl) (Nat.le_of_ble_eq_true rfl) rfl rfl
theorem w85_12 : RB d 85 12 [l0, l1, l2, l3] (.int x :: st) (S, I, R, z) Q = ((x = 0 → RB d 85 15 [l0, l1, l2, l3] st (S, I, R, z) Q) ∧ (¬ x = 0 → RB d 85 18 [l0, l1, l2, l3] st (S, I, R, z) Q)) := RB_ne0 rfl (by decide) rfl
theorem w85_15 : RB d 85 15 [l0, l1, l2, l3] st (S, I, R, z) Q = RB d 85 17 [l0, l1, l2, l3] (.int (-1000000001) :: st) (S, I, R, z) Q := RB_ldc rfl rfl
theorem w85_17 : RB d 85 17 [l0, l1, l2, l3] [.int x] (S, I, R, z) Q = Q (some (.int x)) (S, I, R, z) := RB_iret rfl rfl rfl
theorem w85_18 : RB d 85 18 [.ref a, l1, l2, l3] st (S, I, R, z) Q = RB d 85 19 [.ref a, l1, l2, l3] (.ref a :: st) (S, I, R, z) Q := RB_aloadn rfl rfl
theorem w85_19 : RB d 85 19 [l0, l1, l2, l3] (.ref a :: st) (S, I, R, z) Q = ((S a).1 = 6 ∧ RB d 85 22 [l0, l1, l2, l3] (va_rf (R a 0) :: st) (S, I, R, z) Q) := RB_getR rfl rfl
theorem w85_22 : RB d 85 22 [l0, l1, l2, l3] (.ref a :: st) (S, I, R, z) Q = ((S a).1 = 2 ∧ RB d 85 25 [l0, l1, l2, l3] (va_rf (R a 5) :: st) (S, I, R, z) Q) := RB_getR rfl rfl
theorem w85_25 : RB d 85 25 [l0, .int x, l2, l3] st (S, I, R, z) Q = RB d 85 26 [l0, .int x, l2, l3] (.int x :: st) (S, I, R, z) Q := RB_iloadn rfl rfl
theorem w85_26 : RB d 85 26 [l0, l1, l2, l3] (.int i :: .ref a :: st) (S, I, R, z) Q = (((S a).1 = 9 ∧ aIx i (S a).2) ∧ RB d 85 27 [l0, l1, l2, l3] (.int (I a i.toNatClampNeg) :: st) (S, I, R, z) Q) := RB_iald rfl
theorem w85_27 : RB d 85 27 [l0, l1, l2, l3] (.int x :: st) (S, I, R, z) Q = RB d 85 28 [l0, l1, l2, .int x] st (S, I, R, z) Q := RB_istoren rfl (Nat.le_of_ble_eq_true rfl) rfl
theorem w85_28 : RB d 85 28 [.ref a, l1, l2, l3] st (S, I, R, z) Q = RB d 85 29 [.ref a, l1, l2, l3] (.ref a :: st) (S, I, R, z) Q := RB_aloadn rfl rfl
theorem w85_29 : RB d 85 29 [l0, l1, l2, l3] (.ref a :: st) (S, I, R, z) Q = ((S a).1 = 6 ∧ RB d 85 32 [l0, l1, l2, l3] (va_rf (R a 0) :: st) (S, I, R, z) Q) := RB_getR rfl rfl
theorem w85_32 : RB d 85 32 [l0, l1, l2, l3] (.ref a :: st) (S, I, R, z) Q = ((S a).1 = 2 ∧ RB d 85 35 [l0, l1, l2, l3] (va_rf (R a 5) :: st) (S, I, R, z) Q) := RB_getR rfl rfl
theorem w85_35 : RB d 85 35 [l0, .int x, l2, l3] st (S, I, R, z) Q = RB d 85 36 [l0, .int x, l2, l3] (.int x :: st) (S, I, R, z) Q := RB_iloadn rfl rfl
theorem w85_36 : RB d 85 36 [l0, l1, .int x, l3] st (S, I, R, z) Q = RB d 85 37 [l0, l1, .int x, l3] (.int x :: st) (S, I, R, z) Q := RB_iloadn rfl rfl
theorem w85_37 : RB d 85 37 [l0, l1, l2, l3] (.int x :: .int i :: .ref a :: st) (S, I, R, z) Q = (((S a).1 = 9 ∧ aIx i (S a).2 ∧ 16 ≤ a) ∧ RB d 85 38 [l0, l1, l2, l3] st (S, aW I a i.toNatClampNeg x, R, z) Q) := RB_iast rfl
theorem w85_38 : RB d 85 38 [l0, l1, l2, .int x] st (S, I, R, z) Q = RB d 85 39 [l0, l1, l2, .int x] (.int x :: st) (S, I, R, z) Q := RB_iloadn rfl rfl
theorem w85_39 : RB d 85 39 [l0, l1, l2, l3] [.int x] (S, I, R, z) Q = Q (some (.int x)) (S, I, R, z) := RB_iret rfl rfl rfl
/-! 86: HangedWord.deal -/
theorem w86_0 : RB d 86 0 [l0, .int x, l2, l3, l4] st (S, I, R, z) Q = RB d 86 1 [l0, .int x, l2, l3, l4] (.int x :: st) (S, I, R, z) Q := RB_iloadn rfl rfl
theorem w86_1 : RB d 86 1 [l0, l1, l2, l3, l4] st (S, I, R, z) Q = RB d 86 2 [l0, l1, l2, l3, l4] (.int 1 :: st) (S, I, R, z) Q := RB_iconst rfl ki1
theorem w86_2 : RB d 86 2 [l0, l1, l2, l3, l4] (.int y :: .int x :: st) (S, I, R, z) Q = ((x < y → RB d 86 11 [l0, l1, l2, l3, l4] st (S, I, R, z) Q) ∧ (¬ x < y → RB d 86 5 [l0, l1, l2, l3, l4] st (S, I, R, z) Q)) := RB_ilt rfl (by decide) rfl
theorem w86_5 : RB d 86 5 [l0, .int x, l2, l3, l4] st (S, I, R, z) Q = RB d 86 6 [l0, .int x, l2, l3, l4] (.int x :: st) (S, I, R, z) Q := RB_iloadn rfl rfl
theorem w86_6 : RB d 86 6 [l0, l1, l2, l3, l4] st (S, I, R, z) Q = RB d 86 8 [l0, l1, l2, l3, l4] (.int 12 :: st) (S, I, R, z) Q := RB_bipush rfl kb12
theorem w86_8 : RB d 86 8 [l0, l1, l2, l3, l4] (.int y :: .int x :: st) (S, I, R, z) Q = ((x ≤ y → RB d 86 14 [l0, l1, l2, l3, l4] st (S, I, R, z) Q) ∧ (¬ x ≤ y → RB d 86 11 [l0, l1, l2, l3, l4] st (S, I, R, z) Q)) := RB_ile rfl (by decide) rfl
theorem w86_11 : RB d 86 11 [l0, l1, l2, l3, l4] st (S, I, R, z) Q = RB d 86 13 [l0, l1, l2, l3, l4] (.int (-1000000001) :: st) (S, I, R, z) Q := RB_ldc rfl rfl
theorem w86_13 : RB d 86 13 [l0, l1, l2, l3, l4] [.int x] (S, I, R, z) Q = Q (some (.int x)) (S, I, R, z) := RB_iret rfl rfl rfl
theorem w86_14 : RB d 86 14 [l0, .int x, l2, l3, l4] st (S, I, R, z) Q = RB d 86 15 [l0, .int x, l2, l3, l4] (.int x :: st) (S, I, R, z) Q := RB_iloadn rfl rfl
theorem w86_15 : RB d 86 15 [l0, l1, l2, l3, l4] st (S, I, R, z) Q = RB d 86 17 [l0, l1, l2, l3, l4] (.int 12 :: st) (S, I, R, z) Q := RB_bipush rfl kb12
theorem w86_17 : RB d 86 17 [.ref a, l1, l2, l3, l4] st (S, I, R, z) Q = RB d 86 18 [.ref a, l1, l2, l3, l4] (.ref a :: st) (S, I, R, z) Q := RB_aloadn rfl rfl
theorem w86_18 : RB d 86 18 [l0, l1, l2, l3, l4] (.ref a :: st) (S, I, R, z) Q = ((S a).1 = 6 ∧ RB d 86 21 [l0, l1, l2, l3, l4] (va_rf (R a 0) :: st) (S, I, R, z) Q) := RB_getR rfl rfl
theorem w86_21 : RB d 86 21 [l0, l1, l2, l3, l4] (.ref a :: st) (S, I, R, z) Q = ((S a).1 = 2 ∧ RB d 86 24 [l0, l1, l2, l3, l4] (.int (I a 3) :: st) (S, I, R, z) Q) := RB_getI rfl rfl
theorem w86_24 : RB d 86 24 [l0, l1, l2, l3, l4] (.int y :: .int x :: st) (S, I, R, z) Q = RB d 86 25 [l0, l1, l2, l3, l4] (.int (x - y) :: st) (S, I, R, z) Q := RB_isub rfl
theorem w86_25 : RB d 86 25 [l0, l1, l2, l3, l4] [.int x1, .int x0] (S, I, R, z) Q = RM d 1003 [.int x0, .int x1] (S, I, R, z) (fun v τ => RB d 86 28 [l0, l1, l2, l3, l4] (aPush v []) τ Q) := RB_callS (n := 2) (t := 1) (k := 130) (ins := .invokestatic 130) rfl rfl rfl (Nat.le_of_ble_eq_true rfl) (Nat.le_of_ble_eq_true rfl) rfl rfl
theorem w86_28 : RB d 86 28 [l0, l1, l2, l3, l4] (.int x :: st) (S, I, R, z) Q = RB d 86 29 [l0, l1, .int x, l3, l4] st (S, I, R, z) Q := RB_istoren rfl (Nat.le_of_ble_eq_true rfl) rfl
theorem w86_29 : RB d 86 29 [l0, l1, l2, l3, l4] st (S, I, R, z) Q = RB d 86 30 [l0, l1, l2, l3, l4] (.int 0 :: st) (S, I, R, z) Q := RB_iconst rfl ki0
theorem w86_30 : RB d 86 30 [l0, l1, l2, l3, l4] (.int x :: st) (S, I, R, z) Q = RB d 86 31 [l0, l1, l2, .int x, l4] st (S, I, R, z) Q := RB_istoren rfl (Nat.le_of_ble_eq_true rfl) rfl
theorem w86_31 : RB d 86 31 [l0, l1, l2, .int x, l4] st (S, I, R, z) Q = RB d 86 32 [l0, l1, l2, .int x, l4] (.int x :: st) (S, I, R, z) Q := RB_iloadn rfl rfl
theorem w86_32 : RB d 86 32 [l0, l1, .int x, l3, l4] st (S, I, R, z) Q = RB d 86 33 [l0, l1, .int x, l3, l4] (.int x :: st) (S, I, R, z) Q := RB_iloadn rfl rfl
theorem w86_33 : RB d 86 33 [l0, l1, l2, l3, l4] (.int y :: .int x :: st) (S, I, R, z) Q = ((y ≤ x → RB d 86 77 [l0, l1, l2, l3, l4] st (S, I, R, z) Q) ∧ (¬ y ≤ x → RB d 86 36 [l0, l1, l2, l3, l4] st (S, I, R, z) Q)) := RB_ige rfl (by decide) rfl
theorem w86_36 : RB d 86 36 [.ref a, l1, l2, l3, l4] st (S, I, R, z) Q = RB d 86 37 [.ref a, l1, l2, l3, l4] (.ref a :: st) (S, I, R, z) Q := RB_aloadn rfl rfl
theorem w86_37 : RB d 86 37 [l0, l1, l2, l3, l4] (.ref a :: st) (S, I, R, z) Q = ((S a).1 = 6 ∧ RB d 86 40 [l0, l1, l2, l3, l4] (va_rf (R a 0) :: st) (S, I, R, z) Q) := RB_getR rfl rfl
theorem w86_40 : RB d 86 40 [l0, l1, l2, l3, l4] [.ref a] (S, I, R, z) Q = ((S a).1 = 2 ∧ RM d 13 [.ref a] (S, I, R, z) (fun v τ => RB d 86 43 [l0, l1, l2, l3, l4] (aPush v []) τ Q)) := RB_callV (n := 1) (t := 0) (k := 135) (ins := .invokevirtual 135) rfl rfl rfl (by decide) (Nat.le_of_ble_eq_true rfl) (Nat.le_of_ble_eq_true rfl) rfl rfl
theorem w86_43 : RB d 86 43 [l0, l1, l2, l3, l4] st (S, I, R, z) Q = RB d 86 46 [l0, l1, l2, l3, l4] (.int 1296 :: st) (S, I, R, z) Q := RB_sipush rfl ks1296
theorem w86_46 : RB d 86 46 [l0, l1, l2, l3, l4] (.int y :: .int x :: st) (S, I, R, z) Q = (¬ y = 0 ∧ RB d 86 47 [l0, l1, l2, l3, l4] (.int (x % y) :: st) (S, I, R, z) Q) := RB_irem rfl
theorem w86_47 : RB d 86 47 [l0, l1, l2, l3, l4] (.int x :: st) (S, I, R, z) Q = RB d 86 49 [l0, l1, l2, l3, .int x] st (S, I, R, z) Q := RB_istore rfl (Nat.le_of_ble_eq_true rfl) rfl
theorem w86_49 : RB d 86 49 [.ref a, l1, l2, l3, l4] st (S, I, R, z) Q = RB d 86 50 [.ref a, l1, l2, l3, l4] (.ref a :: st) (S, I, R, z) Q := RB_aloadn rfl rfl
theorem w86_50 : RB d 86 50 [l0, l1, l2, l3, l4] (.ref a :: st) (S, I, R, z) Q = ((S a).1 = 6 ∧ RB d 86 53 [l0, l1, l2, l3, l4] (va_rf (R a 0) :: st) (S, I, R, z) Q) := RB_getR rfl rfl
theorem w86_53 : RB d 86 53 [l0, l1, l2, l3, .int x] st (S, I, R, z) Q = RB d 86 55 [l0, l1, l2, l3, .int x] (.int x :: st) (S, I, R, z) Q := RB_iload rfl rfl
theorem w86_55 : RB d 86 55 [l0, l1, l2, l3, l4] st (S, I, R, z) Q = RB d 86 56 [l0, l1, l2, l3, l4] (.int 1 :: st) (S, I, R, z) Q := RB_iconst rfl ki1
theorem w86_56 : RB d 86 56 [.ref a, l1, l2, l3, l4] st (S, I, R, z) Q = RB d 86 57 [.ref a, l1, l2, l3, l4] (.ref a :: st) (S, I, R, z) Q := RB_aloadn rfl rfl
theorem w86_57 : RB d 86 57 [l0, l1, l2, l3, l4] (.ref a :: st) (S, I, R, z) Q = ((S a).1 = 6 ∧ RB d 86 60 [l0, l1, l2, l3, l4] (va_rf (R a 0) :: st) (S, I, R, z) Q) := RB_getR rfl rfl
theorem w86_60 : RB d 86 60 [l0, l1, l2, l3, l4] [.ref a, s0, s1, s2] (S, I, R, z) Q = ((S a).1 = 2 ∧ RM d 13 [.ref a] (S, I, R, z) (fun v τ => RB d 86 63 [l0, l1, l2, l3, l4] (aPush v [s0, s1, s2]) τ Q)) := RB_callV (n := 1) (t := 0) (k := 135) (ins := .invokevirtual 135) rfl rfl rfl (by decide) (Nat.le_of_ble_eq_true rfl) (Nat.le_of_ble_eq_true rfl) rfl rfl
theorem w86_63 : RB d 86 63 [l0, l1, l2, l3, l4] st (S, I, R, z) Q = RB d 86 65 [l0, l1, l2, l3, l4] (.int 20 :: st) (S, I, R, z) Q := RB_bipush rfl kb20
theorem w86_65 : RB d 86 65 [l0, l1, l2, l3, l4] (.int y :: .int x :: st) (S, I, R, z) Q = (¬ y = 0 ∧ RB d 86 66 [l0, l1, l2, l3, l4] (.int (x % y) :: st) (S, I, R, z) Q) := RB_irem rfl
theorem w86_66 : RB d 86 66 [l0, l1, l2, l3, l4] (.int y :: .int x :: st) (S, I, R, z) Q = RB d 86 67 [l0, l1, l2, l3, l4] (.int (x + y) :: st) (S, I, R, z) Q := RB_iadd rfl
theorem w86_67 : RB d 86 67 [l0, l1, l2, l3, l4] [.int x1, .int x0, .ref a] (S, I, R, z) Q = ((S a).1 = 2 ∧ RM d 10 [.ref a, .int x0, .int x1] (S, I, R, z) (fun v τ => RB d 86 70 [l0, l1, l2, l3, l4] (aPush v []) τ Q)) := RB_callV (n := 3) (t := 0) (k := 67) (ins := .invokevirtual 67) rfl rfl rfl (by decide) (Nat.le_of_ble_eq_true rfl) (Nat.le_of_ble_eq_true rfl) rfl rfl
theorem w86_70 : RB d 86 70 [l0, l1, l2, l3, l4] (v :: st) (S, I, R, z) Q = RB d 86 71 [l0, l1, l2, l3, l4] st (S, I, R, z) Q := RB_pop rfl
theorem w86_71 : RB d 86 71 [l0, l1, l2, .int x, l4] st (S, I, R, z) Q = RB d 86 74 [l0, l1, l2, .int (x + 1), l4] st (S, I, R, z) Q := RB_iinc rfl rfl (Nat.le_of_ble_eq_true rfl) ki1 rfl
theorem w86_74 : RB d 86 74 [l0, l1, l2, l3, l4] st (S, I, R, z) Q = RB d 86 31 [l0, l1, l2, l3, l4] st (S, I, R, z) Q := RB_goto rfl (by decide) rfl
theorem w86_77 : RB d 86 77 [l0, l1, .int x, l3, l4] st (S, I, R, z) Q = RB d 86 78 [l0, l1, .int x, l3, l4] (.int x :: st) (S, I, R, z) Q := RB_iloadn rfl rfl
theorem w86_78 : RB d 86 78 [l0, l1, l2, l3, l4] [.int x] (S, I, R, z) Q = Q (some (.int x)) (S, I, R, z) := RB_iret rfl rfl rfl
/-! 87: HangedWord.seed -/
theorem w87_0 : RB d 87 0 [.ref a, l1, l2] st (S, I, R, z) Q = RB d 87 1 [.ref a, l1, l2] (.ref a :: st) (S, I, R, z) Q := RB_aloadn rfl rfl
theorem w87_1 : RB d 87 1 [l0, l1, l2] (.ref a :: st) (S, I, R, z) Q = ((S a).1 = 6 ∧ RB d 87 4 [l0, l1, l2] (va_rf (R a 0) :: st) (S, I, R, z) Q) := RB_getR rfl rfl
theorem w87_4 : RB d 87 4 [l0, l1, l2] (.ref a :: st) (S, I, R, z) Q = ((S a).1 = 2 ∧ RB d 87 7 [l0, l1, l2] (.int (I a 11) :: st) (S, I, R, z) Q) := RB_getI rfl rfl
theorem w87_7 : RB d 87 7 [l0, l1, l2] (.int x :: st) (S, I, R, z) Q = RB d 87 8 [l0, l1, .int x] st (S, I, R, z) Q := RB_istoren rfl (Nat.le_of_ble_eq_true rfl) rfl
theorem w87_8 : RB d 87 8 [.ref a, l1, l2] st (S, I, R, z) Q = RB d 87 9 [.ref a, l1, l2] (.ref a :: st) (S, I, R, z) Q := RB_aloadn rfl rfl
theorem w87_9 : RB d 87 9 [l0, l1, l2] (.ref a :: st) (S, I, R, z) Q = ((S a).1 = 6 ∧ RB d 87 12 [l0, l1, l2] (va_rf (R a 0) :: st) (S, I, R, z) Q) := RB_getR rfl rfl
theorem w87_12 : RB d 87 12 [l0, .int x, l2] st (S, I, R, z) Q = RB d 87 13 [l0, .int x, l2] (.int x :: st) (S, I, R, z) Q := RB_iloadn rfl rfl
theorem w87_13 : RB d 87 13 [l0, l1, l2] (.int x :: .ref a :: st) (S, I, R, z) Q = (((S a).1 = 2 ∧ 2 < 8 ∧ 16 ≤ a) ∧ RB d 87 16 [l0, l1, l2] st (S, aW I a 11 x, R, z) Q) := RB_putI rfl rfl (Or.inl rfl)
theorem w87_16 : RB d 87 16 [l0, l1, .int x] st (S, I, R, z) Q = RB d 87 17 [l0, l1, .int x] (.int x :: st) (S, I, R, z) Q := RB_iloadn rfl rfl
theorem w87_17 : RB d 87 17 [l0, l1, l2] [.int x] (S, I, R, z) Q = Q (some (.int x)) (S, I, R, z) := RB_iret rfl rfl rfl
/-! 88: HangedWord.hide -/
theorem w88_0 : RB d 88 0 [.ref a, l1] st (S, I, R, z) Q = RB d 88 1 [.ref a, l1] (.ref a :: st) (S, I, R, z) Q := RB_aloadn rfl rfl
theorem w88_1 : RB d 88 1 [l0, .int x] st (S, I, R, z) Q = RB d 88 2 [l0, .int x] (.int x :: st) (S, I, R, z) Q := RB_iloadn rfl rfl
theorem w88_2 : RB d 88 2 [l0, l1] [.int x0, .ref a] (S, I, R, z) Q = ((S a).1 = 6 ∧ RM d 122 [.ref a, .int x0] (S, I, R, z) (fun v τ => RB d 88 5 [l0, l1] (aPush v []) τ Q)) := RB_callV (n := 2) (t := 0) (k := 71) (ins := .invokevirtual 71) rfl rfl rfl (by decide) (Nat.le_of_ble_eq_true rfl) (Nat.le_of_ble_eq_true rfl) rfl rfl
theorem w88_5 : RB d 88 5 [l0, l1] (.int x :: st) (S, I, R, z) Q = ((x = 0 → RB d 88 8 [l0, l1] st (S, I, R, z) Q) ∧ (¬ x = 0 → RB d 88 11 [l0, l1] st (S, I, R, z) Q)) := RB_ne0 rfl (by decide) rfl
theorem w88_8 : RB d 88 8 [l0, l1] st (S, I, R, z) Q = RB d 88 10 [l0, l1] (.int (-1000000001) :: st) (S, I, R, z) Q := RB_ldc rfl rfl
theorem w88_10 : RB d 88 10 [l0, l1] [.int x] (S, I, R, z) Q = Q (some (.int x)) (S, I, R, z) := RB_iret rfl rfl rfl
theorem w88_11 : RB d 88 11 [.ref a, l1] st (S, I, R, z) Q = RB d 88 12 [.ref a, l1] (.ref a :: st) (S, I, R, z) Q := RB_aloadn rfl rfl
theorem w88_12 : RB d 88 12 [l0, l1] (.ref a :: st) (S, I, R, z) Q = ((S a).1 = 6 ∧ RB d 88 15 [l0, l1] (va_rf (R a 0) :: st) (S, I, R, z) Q) := RB_getR rfl rfl
theorem w88_15 : RB d 88 15 [l0, .int x] st (S, I, R, z) Q = RB d 88 16 [l0, .int x] (.int x :: st) (S, I, R, z) Q := RB_iloadn rfl rfl
theorem w88_16 : RB d 88 16 [l0, l1] [.int x0, .ref a] (S, I, R, z) Q = ((S a).1 = 2 ∧ RM d 29 [.ref a, .int x0] (S, I, R, z) (fun v τ => RB d 88 19 [l0, l1] (aPush v []) τ Q)) := RB_callV (n := 2) (t := 0) (k := 141) (ins := .invokevirtual 141) rfl rfl rfl (by decide) (Nat.le_of_ble_eq_true rfl) (Nat.le_of_ble_eq_true rfl) rfl rfl
theorem w88_19 : RB d 88 19 [.ref a, l1] st (S, I, R, z) Q = RB d 88 20 [.ref a, l1] (.ref a :: st) (S, I, R, z) Q := RB_aloadn rfl rfl
theorem w88_20 : RB d 88 20 [l0, l1] (.ref a :: st) (S, I, R, z) Q = ((S a).1 = 6 ∧ RB d 88 23 [l0, l1] (va_rf (R a 0) :: st) (S, I, R, z) Q) := RB_getR rfl rfl
theorem w88_23 : RB d 88 23 [l0, l1] [.ref a] (S, I, R, z) Q = ((S a).1 = 2 ∧ RM d 21 [.ref a] (S, I, R, z) (fun v τ => RB d 88 26 [l0, l1] (aPush v []) τ Q)) := RB_callV (n := 1) (t := 0) (k := 84) (ins := .invokevirtual 84) rfl rfl rfl (by decide) (Nat.le_of_ble_eq_true rfl) (Nat.le_of_ble_eq_true rfl) rfl rfl
theorem w88_26 : RB d 88 26 [l0, l1] [.int x0] (S, I, R, z) Q = RM d 250 [.int x0] (S, I, R, z) (fun v τ => RB d 88 29 [l0, l1] (aPush v []) τ Q) := RB_callS (n := 1) (t := 1) (k := 145) (ins := .invokestatic 145) rfl rfl rfl (Nat.le_of_ble_eq_true rfl) (Nat.le_of_ble_eq_true rfl) rfl rfl
theorem w88_29 : RB d 88 29 [l0, l1] [.int x] (S, I, R, z) Q = Q (some (.int x)) (S, I, R, z) := RB_iret rfl rfl rfl
/-! 89: HangedWord.asks -/
theorem w89_0 : RB d 89 0 [l0, .int x] st (S, I, R, z) Q = RB d 89 1 [l0, .int x] (.int x :: st) (S, I, R, z) Q := RB_iloadn rfl rfl
theorem w89_1 : RB d 89 1 [l0, l1] [.int x0] (S, I, R, z) Q = RM d 124 [.int x0] (S, I, R, z) (fun v τ => RB d 89 4 [l0, l1] (aPush v []) τ Q) := RB_callS (n := 1) (t := 1) (k := 91) (ins := .invokestatic 91) rfl rfl rfl (Nat.le_of_ble_eq_true rfl) (Nat.le_of_ble_eq_true rfl) rfl rfl
theorem w89_4 : RB d 89 4 [l0, l1] (.int x :: st) (S, I, R, z) Q = ((x = 0 → RB d 89 7 [l0, l1] st (S, I, R, z) Q) ∧ (¬ x = 0 → RB d 89 10 [l0, l1] st (S, I, R, z) Q)) := RB_ne0 rfl (by decide) rfl
theorem w89_7 : RB d 89 7 [l0, l1] st (S, I, R, z) Q = RB d 89 9 [l0, l1] (.int (-1000000001) :: st) (S, I, R, z) Q := RB_ldc rfl rfl
theorem w89_9 : RB d 89 9 [l0, l1] [.int x] (S, I, R, z) Q = Q (some (.int x)) (S, I, R, z) := RB_iret rfl rfl rfl
theorem w89_10 : RB d 89 10 [.ref a, l1] st (S, I, R, z) Q = RB d 89 11 [.ref a, l1] (.ref a :: st) (S, I, R, z) Q := RB_aloadn rfl rfl
theorem w89_11 : RB d 89 11 [l0, l1] (.ref a :: st) (S, I, R, z) Q = ((S a).1 = 6 ∧ RB d 89 14 [l0, l1] (va_rf (R a 0) :: st) (S, I, R, z) Q) := RB_getR rfl rfl
theorem w89_14 : RB d 89 14 [l0, .int x] st (S, I, R, z) Q = RB d 89 15 [l0, .int x] (.int x :: st) (S, I, R, z) Q := RB_iloadn rfl rfl
theorem w89_15 : RB d 89 15 [l0, l1] [.int x0, .ref a] (S, I, R, z) Q = ((S a).1 = 2 ∧ RM d 32 [.ref a, .int x0] (S, I, R, z) (fun v τ => RB d 89 18 [l0, l1] (aPush v []) τ Q)) := RB_callV (n := 2) (t := 0) (k := 150) (ins := .invokevirtual 150) rfl rfl rfl (by decide) (Nat.le_of_ble_eq_true rfl) (Nat.le_of_ble_eq_true rfl) rfl rfl
theorem w89_18 : RB d 89 18 [l0, l1] (.int x :: st) (S, I, R, z) Q = ((x = 0 → RB d 89 32 [l0, l1] st (S, I, R, z) Q) ∧ (¬ x = 0 → RB d 89 21 [l0, l1] st (S, I, R, z) Q)) := RB_eq0 rfl (by decide) rfl
theorem w89_21 : RB d 89 21 [.ref a, l1] st (S, I, R, z) Q = RB d 89 22 [.ref a, l1] (.ref a :: st) (S, I, R, z) Q := RB_aloadn rfl rfl
theorem w89_22 : RB d 89 22 [l0, l1] (.ref a :: st) (S, I, R, z) Q = ((S a).1 = 6 ∧ RB d 89 25 [l0, l1] (va_rf (R a 0) :: st) (S, I, R, z) Q) := RB_getR rfl rfl
theorem w89_25 : RB d 89 25 [l0, .int x] st (S, I, R, z) Q = RB d 89 26 [l0, .int x] (.int x :: st) (S, I, R, z) Q := RB_iloadn rfl rfl
theorem w89_26 : RB d 89 26 [l0, l1] [.int x0, .ref a] (S, I, R, z) Q = ((S a).1 = 2 ∧ RM d 33 [.ref a, .int x0] (S, I, R, z) (fun v τ => RB d 89 29 [l0, l1] (aPush v []) τ Q)) := RB_callV (n := 2) (t := 0) (k := 153) (ins := .invokevirtual 153) rfl rfl rfl (by decide) (Nat.le_of_ble_eq_true rfl) (Nat.le_of_ble_eq_true rfl) rfl rfl
theorem w89_29 : RB d 89 29 [l0, l1] st (S, I, R, z) Q = RB d 89 34 [l0, l1] st (S, I, R, z) Q := RB_goto rfl (by decide) rfl
theorem w89_32 : RB d 89 32 [l0, l1] st (S, I, R, z) Q = RB d 89 34 [l0, l1] (.int (-1000000002) :: st) (S, I, R, z) Q := RB_ldc rfl rfl
theorem w89_34 : RB d 89 34 [l0, l1] [.int x] (S, I, R, z) Q = Q (some (.int x)) (S, I, R, z) := RB_iret rfl rfl rfl
/-! 90: HangedWord.play -/
theorem w90_0 : RB d 90 0 [.ref a, l1] st (S, I, R, z) Q = RB d 90 1 [.ref a, l1] (.ref a :: st) (S, I, R, z) Q := RB_aloadn rfl rfl
theorem w90_1 : RB d 90 1 [l0, .int x] st (S, I, R, z) Q = RB d 90 2 [l0, .int x] (.int x :: st) (S, I, R, z) Q := RB_iloadn rfl rfl
theorem w90_2 : RB d 90 2 [l0, l1] [.int x0, .ref a] (S, I, R, z) Q = ((S a).1 = 6 ∧ RM d 123 [.ref a, .int x0] (S, I, R, z) (fun v τ => RB d 90 5 [l0, l1] (aPush v []) τ Q)) := RB_callV (n := 2) (t := 0) (k := 97) (ins := .invokevirtual 97) rfl rfl rfl (by decide) (Nat.le_of_ble_eq_true rfl) (Nat.le_of_ble_eq_true rfl) rfl rfl
theorem w90_5 : RB d 90 5 [l0, l1] (.int x :: st) (S, I, R, z) Q = ((x = 0 → RB d 90 8 [l0, l1] st (S, I, R, z) Q) ∧ (¬ x = 0 → RB d 90 11 [l0, l1] st (S, I, R, z) Q)) := RB_ne0 rfl (by decide) rfl
theorem w90_8 : RB d 90 8 [l0, l1] st (S, I, R, z) Q = RB d 90 10 [l0, l1] (.int (-1000000001) :: st) (S, I, R, z) Q := RB_ldc rfl rfl
theorem w90_10 : RB d 90 10 [l0, l1] [.int x] (S, I, R, z) Q = Q (some (.int x)) (S, I, R, z) := RB_iret rfl rfl rfl
theorem w90_11 : RB d 90 11 [.ref a, l1] st (S, I, R, z) Q = RB d 90 12 [.ref a, l1] (.ref a :: st) (S, I, R, z) Q := RB_aloadn rfl rfl
theorem w90_12 : RB d 90 12 [l0, l1] (.ref a :: st) (S, I, R, z) Q = ((S a).1 = 6 ∧ RB d 90 15 [l0, l1] (va_rf (R a 0) :: st) (S, I, R, z) Q) := RB_getR rfl rfl
theorem w90_15 : RB d 90 15 [l0, l1] (.ref a :: st) (S, I, R, z) Q = ((S a).1 = 2 ∧ RB d 90 18 [l0, l1] (.int (I a 7) :: st) (S, I, R, z) Q) := RB_getI rfl rfl
theorem w90_18 : RB d 90 18 [l0, l1] (.int x :: st) (S, I, R, z) Q = ((0 ≤ x → RB d 90 24 [l0, l1] st (S, I, R, z) Q) ∧ (¬ 0 ≤ x → RB d 90 21 [l0, l1] st (S, I, R, z) Q)) := RB_ge0 rfl (by decide) rfl
theorem w90_21 : RB d 90 21 [l0, l1] st (S, I, R, z) Q = RB d 90 23 [l0, l1] (.int (-1000000002) :: st) (S, I, R, z) Q := RB_ldc rfl rfl
theorem w90_23 : RB d 90 23 [l0, l1] [.int x] (S, I, R, z) Q = Q (some (.int x)) (S, I, R, z) := RB_iret rfl rfl rfl
theorem w90_24 : RB d 90 24 [.ref a, l1] st (S, I, R, z) Q = RB d 90 25 [.ref a, l1] (.ref a :: st) (S, I, R, z) Q := RB_aloadn rfl rfl
theorem w90_25 : RB d 90 25 [l0, l1] (.ref a :: st) (S, I, R, z) Q = ((S a).1 = 6 ∧ RB d 90 28 [l0, l1] (va_rf (R a 0) :: st) (S, I, R, z) Q) := RB_getR rfl rfl
theorem w90_28 : RB d 90 28 [l0, .int x] st (S, I, R, z) Q = RB d 90 29 [l0, .int x] (.int x :: st) (S, I, R, z) Q := RB_iloadn rfl rfl
theorem w90_29 : RB d 90 29 [l0, l1] [.int x0, .ref a] (S, I, R, z) Q = ((S a).1 = 2 ∧ RM d 34 [.ref a, .int x0] (S, I, R, z) (fun v τ => RB d 90 32 [l0, l1] (aPush v []) τ Q)) := RB_callV (n := 2) (t := 0) (k := 160) (ins := .invokevirtual 160) rfl rfl rfl (by decide) (Nat.le_of_ble_eq_true rfl) (Nat.le_of_ble_eq_true rfl) rfl rfl
theorem w90_32 : RB d 90 32 [.ref a, l1] st (S, I, R, z) Q = RB d 90 33 [.ref a, l1] (.ref a :: st) (S, I, R, z) Q := RB_aloadn rfl rfl
theorem w90_33 : RB d 90 33 [l0, l1] (.ref a :: st) (S, I, R, z) Q = ((S a).1 = 6 ∧ RB d 90 36 [l0, l1] (va_rf (R a 0) :: st) (S, I, R, z) Q) := RB_getR rfl rfl
theorem w90_36 : RB d 90 36 [l0, l1] (.ref a :: st) (S, I, R, z) Q = ((S a).1 = 2 ∧ RB d 90 39 [l0, l1] (.int (I a 9) :: st) (S, I, R, z) Q) := RB_getI rfl rfl
theorem w90_39 : RB d 90 39 [l0, l1] [.int x] (S, I, R, z) Q = Q (some (.int x)) (S, I, R, z) := RB_iret rfl rfl rfl
/-! 91: HangedWord.choose -/
theorem w91_0 : RB d 91 0 [.ref a] st (S, I, R, z) Q = RB d 91 1 [.ref a] (.ref a :: st) (S, I, R, z) Q := RB_aloadn rfl rfl
theorem w91_1 : RB d 91 1 [l0] (.ref a :: st) (S, I, R, z) Q = ((S a).1 = 6 ∧ RB d 91 4 [l0] (va_rf (R a 0) :: st) (S, I, R, z) Q) := RB_getR rfl rfl
theorem w91_4 : RB d 91 4 [l0] [.ref a] (S, I, R, z) Q = ((S a).1 = 2 ∧ RM d 35 [.ref a] (S, I, R, z) (fun v τ => RB d 91 7 [l0] (aPush v []) τ Q)) := RB_callV (n := 1) (t := 0) (k := 166) (ins := .invokevirtual 166) rfl rfl rfl (by decide) (Nat.le_of_ble_eq_true rfl) (Nat.le_of_ble_eq_true rfl) rfl rfl
theorem w91_7 : RB d 91 7 [.ref a] st (S, I, R, z) Q = RB d 91 8 [.ref a] (.ref a :: st) (S, I, R, z) Q := RB_aloadn rfl rfl
theorem w91_8 : RB d 91 8 [l0] (.ref a :: st) (S, I, R, z) Q = ((S a).1 = 6 ∧ RB d 91 11 [l0] (va_rf (R a 0) :: st) (S, I, R, z) Q) := RB_getR rfl rfl
theorem w91_11 : RB d 91 11 [l0] (.ref a :: st) (S, I, R, z) Q = ((S a).1 = 2 ∧ RB d 91 14 [l0] (.int (I a 7) :: st) (S, I, R, z) Q) := RB_getI rfl rfl
theorem w91_14 : RB d 91 14 [l0] (.int x :: st) (S, I, R, z) Q = ((0 ≤ x → RB d 91 22 [l0] st (S, I, R, z) Q) ∧ (¬ 0 ≤ x → RB d 91 17 [l0] st (S, I, R, z) Q)) := RB_ge0 rfl (by decide) rfl
theorem w91_17 : RB d 91 17 [l0] st (S, I, R, z) Q = RB d 91 19 [l0] (.int (-1000000005) :: st) (S, I, R, z) Q := RB_ldc rfl rfl
theorem w91_19 : RB d 91 19 [l0] st (S, I, R, z) Q = RB d 91 29 [l0] st (S, I, R, z) Q := RB_goto rfl (by decide) rfl
theorem w91_22 : RB d 91 22 [.ref a] st (S, I, R, z) Q = RB d 91 23 [.ref a] (.ref a :: st) (S, I, R, z) Q := RB_aloadn rfl rfl
theorem w91_23 : RB d 91 23 [l0] (.ref a :: st) (S, I, R, z) Q = ((S a).1 = 6 ∧ RB d 91 26 [l0] (va_rf (R a 0) :: st) (S, I, R, z) Q) := RB_getR rfl rfl
theorem w91_26 : RB d 91 26 [l0] (.ref a :: st) (S, I, R, z) Q = ((S a).1 = 2 ∧ RB d 91 29 [l0] (.int (I a 7) :: st) (S, I, R, z) Q) := RB_getI rfl rfl
theorem w91_29 : RB d 91 29 [l0] [.int x] (S, I, R, z) Q = Q (some (.int x)) (S, I, R, z) := RB_iret rfl rfl rfl
end
