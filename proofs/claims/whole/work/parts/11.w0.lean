section
variable {d : Nat} {st : List Value} {S : Nat → Nat × Nat} {I : Nat → Nat → Int32} {R : Nat → Nat → Option Nat} {z : Nat × Nat} {σ : HS} {Q : Option Value → HS → Prop} {x y i : Int32} {a b : Nat} {v w : Value} {l0 l1 l2 l3 l4 l5 l6 l7 l8 l9 l10 l11 l12 l13 l14 l15 : Value} {x0 x1 x2 x3 x4 x5 : Int32} {v0 v1 v2 v3 v4 s0 s1 s2 s3 s4 s5 : Value}
/-! 0: HangedWord$Sheet.<init> -/
theorem w0_0 : RB d 0 0 [.ref a] st (S, I, R, z) Q = RB d 0 1 [.ref a] (.ref a :: st) (S, I, R, z) Q := RB_aloadn rfl rfl
theorem w0_1 : RB d 0 1 [l0] [.ref a] (S, I, R, z) Q = RM d 1000 [.ref a] (S, I, R, z) (fun v τ => RB d 0 4 [l0] (aPush v []) τ Q) := RB_callS (n := 1) (t := 2) (k := 3) (ins := .invokespecial 3) rfl rfl rfl (Nat.le_of_ble_eq_true rfl) (Nat.le_of_ble_eq_true rfl) rfl rfl
theorem w0_4 : RB d 0 4 [.ref a] st (S, I, R, z) Q = RB d 0 5 [.ref a] (.ref a :: st) (S, I, R, z) Q := RB_aloadn rfl rfl
theorem w0_5 : RB d 0 5 [l0] st (S, I, R, z) Q = RB d 0 7 [l0] (.int 24 :: st) (S, I, R, z) Q := RB_bipush rfl kb24
theorem w0_7 : RB d 0 7 [l0] (.int i :: st) σ Q = ((¬ i < 0 ∧ i.toNatClampNeg ≤ 5000) ∧ RB d 0 9 [l0] (.ref σ.2.2.2.1 :: st) (aNc 9 i.toNatClampNeg σ) Q) := RB_newI rfl
theorem w0_9 : RB d 0 9 [l0] (.ref b :: .ref a :: st) (S, I, R, z) Q = (((S a).1 = 0 ∧ 0 < 8 ∧ 16 ≤ a) ∧ RB d 0 12 [l0] st (S, I, aR R a 0 (some b), z) Q) := RB_putR rfl rfl (Or.inr (by decide +kernel))
theorem w0_12 : RB d 0 12 [.ref a] st (S, I, R, z) Q = RB d 0 13 [.ref a] (.ref a :: st) (S, I, R, z) Q := RB_aloadn rfl rfl
theorem w0_13 : RB d 0 13 [l0] st (S, I, R, z) Q = RB d 0 14 [l0] (.int (-1) :: st) (S, I, R, z) Q := RB_iconst rfl kim1
theorem w0_14 : RB d 0 14 [l0] (.int x :: .ref a :: st) (S, I, R, z) Q = (((S a).1 = 0 ∧ 0 < 8 ∧ 16 ≤ a) ∧ RB d 0 17 [l0] st (S, aW I a 1 x, R, z) Q) := RB_putI rfl rfl (Or.inl rfl)
theorem w0_17 : RB d 0 17 [.ref a] st (S, I, R, z) Q = RB d 0 18 [.ref a] (.ref a :: st) (S, I, R, z) Q := RB_aloadn rfl rfl
theorem w0_18 : RB d 0 18 [l0] st (S, I, R, z) Q = RB d 0 19 [l0] (.int 0 :: st) (S, I, R, z) Q := RB_iconst rfl ki0
theorem w0_19 : RB d 0 19 [l0] (.int x :: .ref a :: st) (S, I, R, z) Q = (((S a).1 = 0 ∧ 0 < 8 ∧ 16 ≤ a) ∧ RB d 0 22 [l0] st (S, aW I a 2 x, R, z) Q) := RB_putI rfl rfl (Or.inl rfl)
theorem w0_22 : RB d 0 22 [l0] [] (S, I, R, z) Q = Q none (S, I, R, z) := RB_ret rfl rfl
/-! 1: HangedWord$Sheet.isMissing -/
theorem w1_0 : RB d 1 0 [.ref a] st (S, I, R, z) Q = RB d 1 1 [.ref a] (.ref a :: st) (S, I, R, z) Q := RB_aloadn rfl rfl
theorem w1_1 : RB d 1 1 [l0] (.ref a :: st) (S, I, R, z) Q = ((S a).1 = 0 ∧ RB d 1 4 [l0] (.int (I a 1) :: st) (S, I, R, z) Q) := RB_getI rfl rfl
theorem w1_4 : RB d 1 4 [l0] st (S, I, R, z) Q = RB d 1 5 [l0] (.int (-1) :: st) (S, I, R, z) Q := RB_iconst rfl kim1
theorem w1_5 : RB d 1 5 [l0] (.int y :: .int x :: st) (S, I, R, z) Q = ((x = y → RB d 1 8 [l0] st (S, I, R, z) Q) ∧ (¬ x = y → RB d 1 12 [l0] st (S, I, R, z) Q)) := RB_ine rfl (by decide) rfl
theorem w1_8 : RB d 1 8 [l0] st (S, I, R, z) Q = RB d 1 9 [l0] (.int 1 :: st) (S, I, R, z) Q := RB_iconst rfl ki1
theorem w1_9 : RB d 1 9 [l0] st (S, I, R, z) Q = RB d 1 13 [l0] st (S, I, R, z) Q := RB_goto rfl (by decide) rfl
theorem w1_12 : RB d 1 12 [l0] st (S, I, R, z) Q = RB d 1 13 [l0] (.int 0 :: st) (S, I, R, z) Q := RB_iconst rfl ki0
theorem w1_13 : RB d 1 13 [l0] [.int x] (S, I, R, z) Q = (narrow .boolean (.int x) = .int x ∧ Q (some (.int x)) (S, I, R, z)) := RB_zret rfl rfl (Or.inl rfl)
/-! 2: HangedWord$Sheet.hasPlace -/
theorem w2_0 : RB d 2 0 [l0, .int x] st (S, I, R, z) Q = RB d 2 1 [l0, .int x] (.int x :: st) (S, I, R, z) Q := RB_iloadn rfl rfl
theorem w2_1 : RB d 2 1 [l0, l1] (.int x :: st) (S, I, R, z) Q = ((x < 0 → RB d 2 16 [l0, l1] st (S, I, R, z) Q) ∧ (¬ x < 0 → RB d 2 4 [l0, l1] st (S, I, R, z) Q)) := RB_lt0 rfl (by decide) rfl
theorem w2_4 : RB d 2 4 [l0, .int x] st (S, I, R, z) Q = RB d 2 5 [l0, .int x] (.int x :: st) (S, I, R, z) Q := RB_iloadn rfl rfl
theorem w2_5 : RB d 2 5 [.ref a, l1] st (S, I, R, z) Q = RB d 2 6 [.ref a, l1] (.ref a :: st) (S, I, R, z) Q := RB_aloadn rfl rfl
theorem w2_6 : RB d 2 6 [l0, l1] (.ref a :: st) (S, I, R, z) Q = ((S a).1 = 0 ∧ RB d 2 9 [l0, l1] (.int (I a 2) :: st) (S, I, R, z) Q) := RB_getI rfl rfl
theorem w2_9 : RB d 2 9 [l0, l1] (.int y :: .int x :: st) (S, I, R, z) Q = ((y ≤ x → RB d 2 16 [l0, l1] st (S, I, R, z) Q) ∧ (¬ y ≤ x → RB d 2 12 [l0, l1] st (S, I, R, z) Q)) := RB_ige rfl (by decide) rfl
theorem w2_12 : RB d 2 12 [l0, l1] st (S, I, R, z) Q = RB d 2 13 [l0, l1] (.int 1 :: st) (S, I, R, z) Q := RB_iconst rfl ki1
theorem w2_13 : RB d 2 13 [l0, l1] st (S, I, R, z) Q = RB d 2 17 [l0, l1] st (S, I, R, z) Q := RB_goto rfl (by decide) rfl
theorem w2_16 : RB d 2 16 [l0, l1] st (S, I, R, z) Q = RB d 2 17 [l0, l1] (.int 0 :: st) (S, I, R, z) Q := RB_iconst rfl ki0
theorem w2_17 : RB d 2 17 [l0, l1] [.int x] (S, I, R, z) Q = (narrow .boolean (.int x) = .int x ∧ Q (some (.int x)) (S, I, R, z)) := RB_zret rfl rfl (Or.inl rfl)
/-! 3: HangedWord$Sheet.hasPlaces -/
theorem w3_0 : RB d 3 0 [l0, .int x, l2] st (S, I, R, z) Q = RB d 3 1 [l0, .int x, l2] (.int x :: st) (S, I, R, z) Q := RB_iloadn rfl rfl
theorem w3_1 : RB d 3 1 [l0, l1, l2] (.int x :: st) (S, I, R, z) Q = ((x < 0 → RB d 3 30 [l0, l1, l2] st (S, I, R, z) Q) ∧ (¬ x < 0 → RB d 3 4 [l0, l1, l2] st (S, I, R, z) Q)) := RB_lt0 rfl (by decide) rfl
theorem w3_4 : RB d 3 4 [l0, l1, .int x] st (S, I, R, z) Q = RB d 3 5 [l0, l1, .int x] (.int x :: st) (S, I, R, z) Q := RB_iloadn rfl rfl
theorem w3_5 : RB d 3 5 [l0, l1, l2] (.int x :: st) (S, I, R, z) Q = ((x < 0 → RB d 3 30 [l0, l1, l2] st (S, I, R, z) Q) ∧ (¬ x < 0 → RB d 3 8 [l0, l1, l2] st (S, I, R, z) Q)) := RB_lt0 rfl (by decide) rfl
theorem w3_8 : RB d 3 8 [l0, .int x, l2] st (S, I, R, z) Q = RB d 3 9 [l0, .int x, l2] (.int x :: st) (S, I, R, z) Q := RB_iloadn rfl rfl
theorem w3_9 : RB d 3 9 [.ref a, l1, l2] st (S, I, R, z) Q = RB d 3 10 [.ref a, l1, l2] (.ref a :: st) (S, I, R, z) Q := RB_aloadn rfl rfl
theorem w3_10 : RB d 3 10 [l0, l1, l2] (.ref a :: st) (S, I, R, z) Q = ((S a).1 = 0 ∧ RB d 3 13 [l0, l1, l2] (.int (I a 2) :: st) (S, I, R, z) Q) := RB_getI rfl rfl
theorem w3_13 : RB d 3 13 [l0, l1, l2] (.int y :: .int x :: st) (S, I, R, z) Q = ((y < x → RB d 3 30 [l0, l1, l2] st (S, I, R, z) Q) ∧ (¬ y < x → RB d 3 16 [l0, l1, l2] st (S, I, R, z) Q)) := RB_igt rfl (by decide) rfl
theorem w3_16 : RB d 3 16 [l0, l1, .int x] st (S, I, R, z) Q = RB d 3 17 [l0, l1, .int x] (.int x :: st) (S, I, R, z) Q := RB_iloadn rfl rfl
theorem w3_17 : RB d 3 17 [.ref a, l1, l2] st (S, I, R, z) Q = RB d 3 18 [.ref a, l1, l2] (.ref a :: st) (S, I, R, z) Q := RB_aloadn rfl rfl
theorem w3_18 : RB d 3 18 [l0, l1, l2] (.ref a :: st) (S, I, R, z) Q = ((S a).1 = 0 ∧ RB d 3 21 [l0, l1, l2] (.int (I a 2) :: st) (S, I, R, z) Q) := RB_getI rfl rfl
theorem w3_21 : RB d 3 21 [l0, .int x, l2] st (S, I, R, z) Q = RB d 3 22 [l0, .int x, l2] (.int x :: st) (S, I, R, z) Q := RB_iloadn rfl rfl
theorem w3_22 : RB d 3 22 [l0, l1, l2] (.int y :: .int x :: st) (S, I, R, z) Q = RB d 3 23 [l0, l1, l2] (.int (x - y) :: st) (S, I, R, z) Q := RB_isub rfl
theorem w3_23 : RB d 3 23 [l0, l1, l2] (.int y :: .int x :: st) (S, I, R, z) Q = ((y < x → RB d 3 30 [l0, l1, l2] st (S, I, R, z) Q) ∧ (¬ y < x → RB d 3 26 [l0, l1, l2] st (S, I, R, z) Q)) := RB_igt rfl (by decide) rfl
theorem w3_26 : RB d 3 26 [l0, l1, l2] st (S, I, R, z) Q = RB d 3 27 [l0, l1, l2] (.int 1 :: st) (S, I, R, z) Q := RB_iconst rfl ki1
theorem w3_27 : RB d 3 27 [l0, l1, l2] st (S, I, R, z) Q = RB d 3 31 [l0, l1, l2] st (S, I, R, z) Q := RB_goto rfl (by decide) rfl
theorem w3_30 : RB d 3 30 [l0, l1, l2] st (S, I, R, z) Q = RB d 3 31 [l0, l1, l2] (.int 0 :: st) (S, I, R, z) Q := RB_iconst rfl ki0
theorem w3_31 : RB d 3 31 [l0, l1, l2] [.int x] (S, I, R, z) Q = (narrow .boolean (.int x) = .int x ∧ Q (some (.int x)) (S, I, R, z)) := RB_zret rfl rfl (Or.inl rfl)
/-! 4: HangedWord$Sheet.hasNumber -/
theorem w4_0 : RB d 4 0 [.ref a, l1] st (S, I, R, z) Q = RB d 4 1 [.ref a, l1] (.ref a :: st) (S, I, R, z) Q := RB_aloadn rfl rfl
theorem w4_1 : RB d 4 1 [l0, .int x] st (S, I, R, z) Q = RB d 4 2 [l0, .int x] (.int x :: st) (S, I, R, z) Q := RB_iloadn rfl rfl
theorem w4_2 : RB d 4 2 [l0, l1] [.int x0, .ref a] (S, I, R, z) Q = ((S a).1 = 0 ∧ RM d 2 [.ref a, .int x0] (S, I, R, z) (fun v τ => RB d 4 5 [l0, l1] (aPush v []) τ Q)) := RB_callV (n := 2) (t := 0) (k := 22) (ins := .invokevirtual 22) rfl rfl rfl (by decide) (Nat.le_of_ble_eq_true rfl) (Nat.le_of_ble_eq_true rfl) rfl rfl
theorem w4_5 : RB d 4 5 [l0, l1] (.int x :: st) (S, I, R, z) Q = ((x = 0 → RB d 4 23 [l0, l1] st (S, I, R, z) Q) ∧ (¬ x = 0 → RB d 4 8 [l0, l1] st (S, I, R, z) Q)) := RB_eq0 rfl (by decide) rfl
theorem w4_8 : RB d 4 8 [.ref a, l1] st (S, I, R, z) Q = RB d 4 9 [.ref a, l1] (.ref a :: st) (S, I, R, z) Q := RB_aloadn rfl rfl
theorem w4_9 : RB d 4 9 [l0, l1] (.ref a :: st) (S, I, R, z) Q = ((S a).1 = 0 ∧ RB d 4 12 [l0, l1] (va_rf (R a 0) :: st) (S, I, R, z) Q) := RB_getR rfl rfl
theorem w4_12 : RB d 4 12 [l0, .int x] st (S, I, R, z) Q = RB d 4 13 [l0, .int x] (.int x :: st) (S, I, R, z) Q := RB_iloadn rfl rfl
theorem w4_13 : RB d 4 13 [l0, l1] (.int i :: .ref a :: st) (S, I, R, z) Q = (((S a).1 = 9 ∧ aIx i (S a).2) ∧ RB d 4 14 [l0, l1] (.int (I a i.toNatClampNeg) :: st) (S, I, R, z) Q) := RB_iald rfl
theorem w4_14 : RB d 4 14 [l0, l1] st (S, I, R, z) Q = RB d 4 16 [l0, l1] (.int (-1000000005) :: st) (S, I, R, z) Q := RB_ldc rfl rfl
theorem w4_16 : RB d 4 16 [l0, l1] (.int y :: .int x :: st) (S, I, R, z) Q = ((x = y → RB d 4 23 [l0, l1] st (S, I, R, z) Q) ∧ (¬ x = y → RB d 4 19 [l0, l1] st (S, I, R, z) Q)) := RB_ieq rfl (by decide) rfl
theorem w4_19 : RB d 4 19 [l0, l1] st (S, I, R, z) Q = RB d 4 20 [l0, l1] (.int 1 :: st) (S, I, R, z) Q := RB_iconst rfl ki1
theorem w4_20 : RB d 4 20 [l0, l1] st (S, I, R, z) Q = RB d 4 24 [l0, l1] st (S, I, R, z) Q := RB_goto rfl (by decide) rfl
theorem w4_23 : RB d 4 23 [l0, l1] st (S, I, R, z) Q = RB d 4 24 [l0, l1] (.int 0 :: st) (S, I, R, z) Q := RB_iconst rfl ki0
theorem w4_24 : RB d 4 24 [l0, l1] [.int x] (S, I, R, z) Q = (narrow .boolean (.int x) = .int x ∧ Q (some (.int x)) (S, I, R, z)) := RB_zret rfl rfl (Or.inl rfl)
/-! 5: HangedWord$Sheet.clear -/
theorem w5_0 : RB d 5 0 [.ref a, l1, l2, l3] st (S, I, R, z) Q = RB d 5 1 [.ref a, l1, l2, l3] (.ref a :: st) (S, I, R, z) Q := RB_aloadn rfl rfl
theorem w5_1 : RB d 5 1 [l0, .int x, l2, l3] st (S, I, R, z) Q = RB d 5 2 [l0, .int x, l2, l3] (.int x :: st) (S, I, R, z) Q := RB_iloadn rfl rfl
theorem w5_2 : RB d 5 2 [l0, l1, l2, l3] (.int x :: .ref a :: st) (S, I, R, z) Q = (((S a).1 = 0 ∧ 0 < 8 ∧ 16 ≤ a) ∧ RB d 5 5 [l0, l1, l2, l3] st (S, aW I a 1 x, R, z) Q) := RB_putI rfl rfl (Or.inl rfl)
theorem w5_5 : RB d 5 5 [.ref a, l1, l2, l3] st (S, I, R, z) Q = RB d 5 6 [.ref a, l1, l2, l3] (.ref a :: st) (S, I, R, z) Q := RB_aloadn rfl rfl
theorem w5_6 : RB d 5 6 [l0, l1, .int x, l3] st (S, I, R, z) Q = RB d 5 7 [l0, l1, .int x, l3] (.int x :: st) (S, I, R, z) Q := RB_iloadn rfl rfl
theorem w5_7 : RB d 5 7 [l0, l1, l2, l3] (.int x :: .ref a :: st) (S, I, R, z) Q = (((S a).1 = 0 ∧ 0 < 8 ∧ 16 ≤ a) ∧ RB d 5 10 [l0, l1, l2, l3] st (S, aW I a 2 x, R, z) Q) := RB_putI rfl rfl (Or.inl rfl)
theorem w5_10 : RB d 5 10 [l0, l1, l2, l3] st (S, I, R, z) Q = RB d 5 11 [l0, l1, l2, l3] (.int 0 :: st) (S, I, R, z) Q := RB_iconst rfl ki0
theorem w5_11 : RB d 5 11 [l0, l1, l2, l3] (.int x :: st) (S, I, R, z) Q = RB d 5 12 [l0, l1, l2, .int x] st (S, I, R, z) Q := RB_istoren rfl (Nat.le_of_ble_eq_true rfl) rfl
theorem w5_12 : RB d 5 12 [l0, l1, l2, .int x] st (S, I, R, z) Q = RB d 5 13 [l0, l1, l2, .int x] (.int x :: st) (S, I, R, z) Q := RB_iloadn rfl rfl
theorem w5_13 : RB d 5 13 [l0, l1, l2, l3] st (S, I, R, z) Q = RB d 5 15 [l0, l1, l2, l3] (.int 24 :: st) (S, I, R, z) Q := RB_bipush rfl kb24
theorem w5_15 : RB d 5 15 [l0, l1, l2, l3] (.int y :: .int x :: st) (S, I, R, z) Q = ((y ≤ x → RB d 5 31 [l0, l1, l2, l3] st (S, I, R, z) Q) ∧ (¬ y ≤ x → RB d 5 18 [l0, l1, l2, l3] st (S, I, R, z) Q)) := RB_ige rfl (by decide) rfl
theorem w5_18 : RB d 5 18 [.ref a, l1, l2, l3] st (S, I, R, z) Q = RB d 5 19 [.ref a, l1, l2, l3] (.ref a :: st) (S, I, R, z) Q := RB_aloadn rfl rfl
theorem w5_19 : RB d 5 19 [l0, l1, l2, l3] (.ref a :: st) (S, I, R, z) Q = ((S a).1 = 0 ∧ RB d 5 22 [l0, l1, l2, l3] (va_rf (R a 0) :: st) (S, I, R, z) Q) := RB_getR rfl rfl
theorem w5_22 : RB d 5 22 [l0, l1, l2, .int x] st (S, I, R, z) Q = RB d 5 23 [l0, l1, l2, .int x] (.int x :: st) (S, I, R, z) Q := RB_iloadn rfl rfl
theorem w5_23 : RB d 5 23 [l0, l1, l2, l3] st (S, I, R, z) Q = RB d 5 24 [l0, l1, l2, l3] (.int 0 :: st) (S, I, R, z) Q := RB_iconst rfl ki0
theorem w5_24 : RB d 5 24 [l0, l1, l2, l3] (.int x :: .int i :: .ref a :: st) (S, I, R, z) Q = (((S a).1 = 9 ∧ aIx i (S a).2 ∧ 16 ≤ a) ∧ RB d 5 25 [l0, l1, l2, l3] st (S, aW I a i.toNatClampNeg x, R, z) Q) := RB_iast rfl
theorem w5_25 : RB d 5 25 [l0, l1, l2, .int x] st (S, I, R, z) Q = RB d 5 28 [l0, l1, l2, .int (x + 1)] st (S, I, R, z) Q := RB_iinc rfl rfl (Nat.le_of_ble_eq_true rfl) ki1 rfl
theorem w5_28 : RB d 5 28 [l0, l1, l2, l3] st (S, I, R, z) Q = RB d 5 12 [l0, l1, l2, l3] st (S, I, R, z) Q := RB_goto rfl (by decide) rfl
theorem w5_31 : RB d 5 31 [l0, l1, l2, l3] [] (S, I, R, z) Q = Q none (S, I, R, z) := RB_ret rfl rfl
/-! 6: HangedWord$Sheet.become -/
theorem w6_0 : RB d 6 0 [.ref a, l1] st (S, I, R, z) Q = RB d 6 1 [.ref a, l1] (.ref a :: st) (S, I, R, z) Q := RB_aloadn rfl rfl
theorem w6_1 : RB d 6 1 [l0, .ref a] st (S, I, R, z) Q = RB d 6 2 [l0, .ref a] (.ref a :: st) (S, I, R, z) Q := RB_aloadn rfl rfl
theorem w6_1N : RB d 6 1 [l0, .null] st (S, I, R, z) Q = RB d 6 2 [l0, .null] (.null :: st) (S, I, R, z) Q := RB_aloadnN rfl rfl
theorem w6_2 : RB d 6 2 [l0, l1] (.ref a :: st) (S, I, R, z) Q = ((S a).1 = 0 ∧ RB d 6 5 [l0, l1] (.int (I a 1) :: st) (S, I, R, z) Q) := RB_getI rfl rfl
theorem w6_5 : RB d 6 5 [l0, l1] (.int x :: .ref a :: st) (S, I, R, z) Q = (((S a).1 = 0 ∧ 0 < 8 ∧ 16 ≤ a) ∧ RB d 6 8 [l0, l1] st (S, aW I a 1 x, R, z) Q) := RB_putI rfl rfl (Or.inl rfl)
theorem w6_8 : RB d 6 8 [.ref a, l1] st (S, I, R, z) Q = RB d 6 9 [.ref a, l1] (.ref a :: st) (S, I, R, z) Q := RB_aloadn rfl rfl
theorem w6_9 : RB d 6 9 [l0, .ref a] st (S, I, R, z) Q = RB d 6 10 [l0, .ref a] (.ref a :: st) (S, I, R, z) Q := RB_aloadn rfl rfl
theorem w6_9N : RB d 6 9 [l0, .null] st (S, I, R, z) Q = RB d 6 10 [l0, .null] (.null :: st) (S, I, R, z) Q := RB_aloadnN rfl rfl
theorem w6_10 : RB d 6 10 [l0, l1] (.ref a :: st) (S, I, R, z) Q = ((S a).1 = 0 ∧ RB d 6 13 [l0, l1] (.int (I a 2) :: st) (S, I, R, z) Q) := RB_getI rfl rfl
theorem w6_13 : RB d 6 13 [l0, l1] (.int x :: .ref a :: st) (S, I, R, z) Q = (((S a).1 = 0 ∧ 0 < 8 ∧ 16 ≤ a) ∧ RB d 6 16 [l0, l1] st (S, aW I a 2 x, R, z) Q) := RB_putI rfl rfl (Or.inl rfl)
theorem w6_16 : RB d 6 16 [l0, .ref a] st (S, I, R, z) Q = RB d 6 17 [l0, .ref a] (.ref a :: st) (S, I, R, z) Q := RB_aloadn rfl rfl
theorem w6_16N : RB d 6 16 [l0, .null] st (S, I, R, z) Q = RB d 6 17 [l0, .null] (.null :: st) (S, I, R, z) Q := RB_aloadnN rfl rfl
theorem w6_17 : RB d 6 17 [l0, l1] (.ref a :: st) (S, I, R, z) Q = ((S a).1 = 0 ∧ RB d 6 20 [l0, l1] (va_rf (R a 0) :: st) (S, I, R, z) Q) := RB_getR rfl rfl
theorem w6_20 : RB d 6 20 [l0, l1] st (S, I, R, z) Q = RB d 6 21 [l0, l1] (.int 0 :: st) (S, I, R, z) Q := RB_iconst rfl ki0
theorem w6_21 : RB d 6 21 [.ref a, l1] st (S, I, R, z) Q = RB d 6 22 [.ref a, l1] (.ref a :: st) (S, I, R, z) Q := RB_aloadn rfl rfl
theorem w6_22 : RB d 6 22 [l0, l1] (.ref a :: st) (S, I, R, z) Q = ((S a).1 = 0 ∧ RB d 6 25 [l0, l1] (va_rf (R a 0) :: st) (S, I, R, z) Q) := RB_getR rfl rfl
theorem w6_25 : RB d 6 25 [l0, l1] st (S, I, R, z) Q = RB d 6 26 [l0, l1] (.int 0 :: st) (S, I, R, z) Q := RB_iconst rfl ki0
theorem w6_26 : RB d 6 26 [l0, l1] st (S, I, R, z) Q = RB d 6 28 [l0, l1] (.int 24 :: st) (S, I, R, z) Q := RB_bipush rfl kb24
theorem w6_28 : RB d 6 28 [l0, l1] [.int x4, .int x3, v2, .int x1, v0] (S, I, R, z) Q = RM d 1001 [v0, .int x1, v2, .int x3, .int x4] (S, I, R, z) (fun v τ => RB d 6 31 [l0, l1] (aPush v []) τ Q) := RB_callS (n := 5) (t := 1) (k := 27) (ins := .invokestatic 27) rfl rfl rfl (Nat.le_of_ble_eq_true rfl) (Nat.le_of_ble_eq_true rfl) rfl rfl
theorem w6_31 : RB d 6 31 [l0, l1] [] (S, I, R, z) Q = Q none (S, I, R, z) := RB_ret rfl rfl
/-! 7: HangedWord$Slot.<init> -/
theorem w7_0 : RB d 7 0 [.ref a] st (S, I, R, z) Q = RB d 7 1 [.ref a] (.ref a :: st) (S, I, R, z) Q := RB_aloadn rfl rfl
theorem w7_1 : RB d 7 1 [l0] [.ref a] (S, I, R, z) Q = RM d 1000 [.ref a] (S, I, R, z) (fun v τ => RB d 7 4 [l0] (aPush v []) τ Q) := RB_callS (n := 1) (t := 2) (k := 3) (ins := .invokespecial 3) rfl rfl rfl (Nat.le_of_ble_eq_true rfl) (Nat.le_of_ble_eq_true rfl) rfl rfl
theorem w7_4 : RB d 7 4 [.ref a] st (S, I, R, z) Q = RB d 7 5 [.ref a] (.ref a :: st) (S, I, R, z) Q := RB_aloadn rfl rfl
theorem w7_5 : RB d 7 5 [l0] st (S, I, R, z) Q = RB d 7 6 [l0] (.int 0 :: st) (S, I, R, z) Q := RB_iconst rfl ki0
theorem w7_6 : RB d 7 6 [l0] (.int x :: .ref a :: st) (S, I, R, z) Q = (((S a).1 = 1 ∧ 1 < 8 ∧ 16 ≤ a) ∧ RB d 7 9 [l0] st (S, aW I a 0 x, R, z) Q) := RB_putI rfl rfl (Or.inl rfl)
theorem w7_9 : RB d 7 9 [.ref a] st (S, I, R, z) Q = RB d 7 10 [.ref a] (.ref a :: st) (S, I, R, z) Q := RB_aloadn rfl rfl
theorem w7_10 : RB d 7 10 [l0] st (S, I, R, z) Q = RB d 7 11 [l0] (.int 0 :: st) (S, I, R, z) Q := RB_iconst rfl ki0
theorem w7_11 : RB d 7 11 [l0] (.int x :: .ref a :: st) (S, I, R, z) Q = (((S a).1 = 1 ∧ 1 < 8 ∧ 16 ≤ a) ∧ RB d 7 14 [l0] st (S, aW I a 1 x, R, z) Q) := RB_putI rfl rfl (Or.inl rfl)
theorem w7_14 : RB d 7 14 [.ref a] st (S, I, R, z) Q = RB d 7 15 [.ref a] (.ref a :: st) (S, I, R, z) Q := RB_aloadn rfl rfl
theorem w7_15 : RB d 7 15 [l0] st (S, I, R, z) Q = RB d 7 16 [l0] (.int 0 :: st) (S, I, R, z) Q := RB_iconst rfl ki0
theorem w7_16 : RB d 7 16 [l0] (.int x :: .ref a :: st) (S, I, R, z) Q = (((S a).1 = 1 ∧ 1 < 8 ∧ 16 ≤ a) ∧ RB d 7 19 [l0] st (S, aW I a 2 x, R, z) Q) := RB_putI rfl rfl (Or.inl rfl)
theorem w7_19 : RB d 7 19 [.ref a] st (S, I, R, z) Q = RB d 7 20 [.ref a] (.ref a :: st) (S, I, R, z) Q := RB_aloadn rfl rfl
theorem w7_20 : RB d 7 20 [l0] st (S, I, R, z) Q = RB d 7 21 [l0] (.int 0 :: st) (S, I, R, z) Q := RB_iconst rfl ki0
theorem w7_21 : RB d 7 21 [l0] (.int x :: .ref a :: st) (S, I, R, z) Q = (((S a).1 = 1 ∧ 1 < 8 ∧ 16 ≤ a) ∧ RB d 7 24 [l0] st (S, aW I a 3 x, R, z) Q) := RB_putI rfl rfl (Or.inl rfl)
theorem w7_24 : RB d 7 24 [.ref a] st (S, I, R, z) Q = RB d 7 25 [.ref a] (.ref a :: st) (S, I, R, z) Q := RB_aloadn rfl rfl
theorem w7_25 : RB d 7 25 [l0] st σ Q = RB d 7 28 [l0] (.ref σ.2.2.2.1 :: st) (aNc 0 3 σ) Q := RB_new rfl rfl rfl
theorem w7_28 : RB d 7 28 [l0] (v :: st) (S, I, R, z) Q = RB d 7 29 [l0] (v :: v :: st) (S, I, R, z) Q := RB_dup rfl
theorem w7_29 : RB d 7 29 [l0] [.ref a, s0, s1] (S, I, R, z) Q = ((S a).1 = 0 ∧ RM d 0 [.ref a] (S, I, R, z) (fun v τ => RB d 7 32 [l0] (aPush v [s0, s1]) τ Q)) := RB_callV (n := 1) (t := 2) (k := 26) (ins := .invokespecial 26) rfl rfl rfl (by decide) (Nat.le_of_ble_eq_true rfl) (Nat.le_of_ble_eq_true rfl) rfl rfl
theorem w7_32 : RB d 7 32 [l0] (.ref b :: .ref a :: st) (S, I, R, z) Q = (((S a).1 = 1 ∧ 1 < 8 ∧ 16 ≤ a) ∧ RB d 7 35 [l0] st (S, I, aR R a 4 (some b), z) Q) := RB_putR rfl rfl (Or.inr (by decide +kernel))
theorem w7_35 : RB d 7 35 [l0] [] (S, I, R, z) Q = Q none (S, I, R, z) := RB_ret rfl rfl
/-! 8: HangedWord$State.<init> -/
theorem w8_0 : RB d 8 0 [.ref a] st (S, I, R, z) Q = RB d 8 1 [.ref a] (.ref a :: st) (S, I, R, z) Q := RB_aloadn rfl rfl
theorem w8_1 : RB d 8 1 [l0] [.ref a] (S, I, R, z) Q = RM d 1000 [.ref a] (S, I, R, z) (fun v τ => RB d 8 4 [l0] (aPush v []) τ Q) := RB_callS (n := 1) (t := 2) (k := 3) (ins := .invokespecial 3) rfl rfl rfl (Nat.le_of_ble_eq_true rfl) (Nat.le_of_ble_eq_true rfl) rfl rfl
theorem w8_4 : RB d 8 4 [.ref a] st (S, I, R, z) Q = RB d 8 5 [.ref a] (.ref a :: st) (S, I, R, z) Q := RB_aloadn rfl rfl
theorem w8_5 : RB d 8 5 [l0] st (S, I, R, z) Q = RB d 8 7 [l0] (.int 12 :: st) (S, I, R, z) Q := RB_bipush rfl kb12
theorem w8_7 : RB d 8 7 [l0] (.int i :: st) σ Q = ((¬ i < 0 ∧ i.toNatClampNeg ≤ 5000) ∧ RB d 8 9 [l0] (.ref σ.2.2.2.1 :: st) (aNc 9 i.toNatClampNeg σ) Q) := RB_newI rfl
theorem w8_9 : RB d 8 9 [l0] (.ref b :: .ref a :: st) (S, I, R, z) Q = (((S a).1 = 2 ∧ 2 < 8 ∧ 16 ≤ a) ∧ RB d 8 12 [l0] st (S, I, aR R a 0 (some b), z) Q) := RB_putR rfl rfl (Or.inr (by decide +kernel))
theorem w8_12 : RB d 8 12 [.ref a] st (S, I, R, z) Q = RB d 8 13 [.ref a] (.ref a :: st) (S, I, R, z) Q := RB_aloadn rfl rfl
theorem w8_13 : RB d 8 13 [l0] st (S, I, R, z) Q = RB d 8 15 [l0] (.int 12 :: st) (S, I, R, z) Q := RB_bipush rfl kb12
theorem w8_15 : RB d 8 15 [l0] (.int i :: st) σ Q = ((¬ i < 0 ∧ i.toNatClampNeg ≤ 5000) ∧ RB d 8 17 [l0] (.ref σ.2.2.2.1 :: st) (aNc 9 i.toNatClampNeg σ) Q) := RB_newI rfl
theorem w8_17 : RB d 8 17 [l0] (.ref b :: .ref a :: st) (S, I, R, z) Q = (((S a).1 = 2 ∧ 2 < 8 ∧ 16 ≤ a) ∧ RB d 8 20 [l0] st (S, I, aR R a 1 (some b), z) Q) := RB_putR rfl rfl (Or.inr (by decide +kernel))
theorem w8_20 : RB d 8 20 [.ref a] st (S, I, R, z) Q = RB d 8 21 [.ref a] (.ref a :: st) (S, I, R, z) Q := RB_aloadn rfl rfl
theorem w8_21 : RB d 8 21 [l0] st (S, I, R, z) Q = RB d 8 23 [l0] (.int 72 :: st) (S, I, R, z) Q := RB_bipush rfl kb72
theorem w8_23 : RB d 8 23 [l0] (.int i :: st) σ Q = ((¬ i < 0 ∧ i.toNatClampNeg ≤ 5000) ∧ RB d 8 25 [l0] (.ref σ.2.2.2.1 :: st) (aNc 9 i.toNatClampNeg σ) Q) := RB_newI rfl
theorem w8_25 : RB d 8 25 [l0] (.ref b :: .ref a :: st) (S, I, R, z) Q = (((S a).1 = 2 ∧ 2 < 8 ∧ 16 ≤ a) ∧ RB d 8 28 [l0] st (S, I, aR R a 2 (some b), z) Q) := RB_putR rfl rfl (Or.inr (by decide +kernel))
theorem w8_28 : RB d 8 28 [.ref a] st (S, I, R, z) Q = RB d 8 29 [.ref a] (.ref a :: st) (S, I, R, z) Q := RB_aloadn rfl rfl
theorem w8_29 : RB d 8 29 [l0] st (S, I, R, z) Q = RB d 8 30 [l0] (.int 0 :: st) (S, I, R, z) Q := RB_iconst rfl ki0
theorem w8_30 : RB d 8 30 [l0] (.int x :: .ref a :: st) (S, I, R, z) Q = (((S a).1 = 2 ∧ 2 < 8 ∧ 16 ≤ a) ∧ RB d 8 33 [l0] st (S, aW I a 3 x, R, z) Q) := RB_putI rfl rfl (Or.inl rfl)
theorem w8_33 : RB d 8 33 [.ref a] st (S, I, R, z) Q = RB d 8 34 [.ref a] (.ref a :: st) (S, I, R, z) Q := RB_aloadn rfl rfl
theorem w8_34 : RB d 8 34 [l0] st (S, I, R, z) Q = RB d 8 36 [l0] (.int 8 :: st) (S, I, R, z) Q := RB_bipush rfl kb8
theorem w8_36 : RB d 8 36 [l0] (.int i :: st) σ Q = ((¬ i < 0 ∧ i.toNatClampNeg ≤ 5000) ∧ RB d 8 38 [l0] (.ref σ.2.2.2.1 :: st) (aNc 9 i.toNatClampNeg σ) Q) := RB_newI rfl
theorem w8_38 : RB d 8 38 [l0] (.ref b :: .ref a :: st) (S, I, R, z) Q = (((S a).1 = 2 ∧ 2 < 8 ∧ 16 ≤ a) ∧ RB d 8 41 [l0] st (S, I, aR R a 4 (some b), z) Q) := RB_putR rfl rfl (Or.inr (by decide +kernel))
theorem w8_41 : RB d 8 41 [.ref a] st (S, I, R, z) Q = RB d 8 42 [.ref a] (.ref a :: st) (S, I, R, z) Q := RB_aloadn rfl rfl
theorem w8_42 : RB d 8 42 [l0] st (S, I, R, z) Q = RB d 8 44 [l0] (.int 8 :: st) (S, I, R, z) Q := RB_bipush rfl kb8
theorem w8_44 : RB d 8 44 [l0] (.int i :: st) σ Q = ((¬ i < 0 ∧ i.toNatClampNeg ≤ 5000) ∧ RB d 8 46 [l0] (.ref σ.2.2.2.1 :: st) (aNc 9 i.toNatClampNeg σ) Q) := RB_newI rfl
theorem w8_46 : RB d 8 46 [l0] (.ref b :: .ref a :: st) (S, I, R, z) Q = (((S a).1 = 2 ∧ 2 < 8 ∧ 16 ≤ a) ∧ RB d 8 49 [l0] st (S, I, aR R a 5 (some b), z) Q) := RB_putR rfl rfl (Or.inr (by decide +kernel))
theorem w8_49 : RB d 8 49 [.ref a] st (S, I, R, z) Q = RB d 8 50 [.ref a] (.ref a :: st) (S, I, R, z) Q := RB_aloadn rfl rfl
theorem w8_50 : RB d 8 50 [l0] st (S, I, R, z) Q = RB d 8 51 [l0] (.int 0 :: st) (S, I, R, z) Q := RB_iconst rfl ki0
theorem w8_51 : RB d 8 51 [l0] (.int x :: .ref a :: st) (S, I, R, z) Q = (((S a).1 = 2 ∧ 2 < 8 ∧ 16 ≤ a) ∧ RB d 8 54 [l0] st (S, aW I a 6 x, R, z) Q) := RB_putI rfl rfl (Or.inl rfl)
theorem w8_54 : RB d 8 54 [.ref a] st (S, I, R, z) Q = RB d 8 55 [.ref a] (.ref a :: st) (S, I, R, z) Q := RB_aloadn rfl rfl
theorem w8_55 : RB d 8 55 [l0] st (S, I, R, z) Q = RB d 8 56 [l0] (.int (-1) :: st) (S, I, R, z) Q := RB_iconst rfl kim1
theorem w8_56 : RB d 8 56 [l0] (.int x :: .ref a :: st) (S, I, R, z) Q = (((S a).1 = 2 ∧ 2 < 8 ∧ 16 ≤ a) ∧ RB d 8 59 [l0] st (S, aW I a 7 x, R, z) Q) := RB_putI rfl rfl (Or.inl rfl)
theorem w8_59 : RB d 8 59 [.ref a] st (S, I, R, z) Q = RB d 8 60 [.ref a] (.ref a :: st) (S, I, R, z) Q := RB_aloadn rfl rfl
theorem w8_60 : RB d 8 60 [l0] st (S, I, R, z) Q = RB d 8 61 [l0] (.int 0 :: st) (S, I, R, z) Q := RB_iconst rfl ki0
theorem w8_61 : RB d 8 61 [l0] (.int x :: .ref a :: st) (S, I, R, z) Q = (((S a).1 = 2 ∧ 2 < 8 ∧ 16 ≤ a) ∧ RB d 8 64 [l0] st (S, aW I a 8 x, R, z) Q) := RB_putI rfl rfl (Or.inl rfl)
theorem w8_64 : RB d 8 64 [.ref a] st (S, I, R, z) Q = RB d 8 65 [.ref a] (.ref a :: st) (S, I, R, z) Q := RB_aloadn rfl rfl
theorem w8_65 : RB d 8 65 [l0] st (S, I, R, z) Q = RB d 8 66 [l0] (.int 0 :: st) (S, I, R, z) Q := RB_iconst rfl ki0
theorem w8_66 : RB d 8 66 [l0] (.int x :: .ref a :: st) (S, I, R, z) Q = (((S a).1 = 2 ∧ 2 < 8 ∧ 16 ≤ a) ∧ RB d 8 69 [l0] st (S, aW I a 9 x, R, z) Q) := RB_putI rfl rfl (Or.inl rfl)
theorem w8_69 : RB d 8 69 [.ref a] st (S, I, R, z) Q = RB d 8 70 [.ref a] (.ref a :: st) (S, I, R, z) Q := RB_aloadn rfl rfl
theorem w8_70 : RB d 8 70 [l0] st (S, I, R, z) Q = RB d 8 72 [l0] (.int 6 :: st) (S, I, R, z) Q := RB_bipush rfl kb6
theorem w8_72 : RB d 8 72 [l0] (.int x :: .ref a :: st) (S, I, R, z) Q = (((S a).1 = 2 ∧ 2 < 8 ∧ 16 ≤ a) ∧ RB d 8 75 [l0] st (S, aW I a 10 x, R, z) Q) := RB_putI rfl rfl (Or.inl rfl)
theorem w8_75 : RB d 8 75 [.ref a] st (S, I, R, z) Q = RB d 8 76 [.ref a] (.ref a :: st) (S, I, R, z) Q := RB_aloadn rfl rfl
theorem w8_76 : RB d 8 76 [l0] st (S, I, R, z) Q = RB d 8 77 [l0] (.int 1 :: st) (S, I, R, z) Q := RB_iconst rfl ki1
theorem w8_77 : RB d 8 77 [l0] (.int x :: .ref a :: st) (S, I, R, z) Q = (((S a).1 = 2 ∧ 2 < 8 ∧ 16 ≤ a) ∧ RB d 8 80 [l0] st (S, aW I a 11 x, R, z) Q) := RB_putI rfl rfl (Or.inl rfl)
theorem w8_80 : RB d 8 80 [.ref a] st (S, I, R, z) Q = RB d 8 81 [.ref a] (.ref a :: st) (S, I, R, z) Q := RB_aloadn rfl rfl
theorem w8_81 : RB d 8 81 [l0] st (S, I, R, z) Q = RB d 8 83 [l0] (.int 14 :: st) (S, I, R, z) Q := RB_bipush rfl kb14
theorem w8_83 : RB d 8 83 [l0] (.int i :: st) σ Q = ((¬ i < 0 ∧ i.toNatClampNeg ≤ 5000) ∧ RB d 8 86 [l0] (.ref σ.2.2.2.1 :: st) (aNc 13 i.toNatClampNeg σ) Q) := RB_newQ rfl rfl
theorem w8_86 : RB d 8 86 [l0] (.ref b :: .ref a :: st) (S, I, R, z) Q = (((S a).1 = 2 ∧ 2 < 8 ∧ 16 ≤ a) ∧ RB d 8 89 [l0] st (S, I, aR R a 12 (some b), z) Q) := RB_putR rfl rfl (Or.inr (by decide +kernel))
theorem w8_89 : RB d 8 89 [.ref a] st (S, I, R, z) Q = RB d 8 90 [.ref a] (.ref a :: st) (S, I, R, z) Q := RB_aloadn rfl rfl
theorem w8_90 : RB d 8 90 [l0] st (S, I, R, z) Q = RB d 8 91 [l0] (.int 0 :: st) (S, I, R, z) Q := RB_iconst rfl ki0
theorem w8_91 : RB d 8 91 [l0] (.int x :: .ref a :: st) (S, I, R, z) Q = (((S a).1 = 2 ∧ 2 < 8 ∧ 16 ≤ a) ∧ RB d 8 94 [l0] st (S, aW I a 13 x, R, z) Q) := RB_putI rfl rfl (Or.inl rfl)
theorem w8_94 : RB d 8 94 [.ref a] st (S, I, R, z) Q = RB d 8 95 [.ref a] (.ref a :: st) (S, I, R, z) Q := RB_aloadn rfl rfl
theorem w8_95 : RB d 8 95 [l0] st (S, I, R, z) Q = RB d 8 96 [l0] (.int 3 :: st) (S, I, R, z) Q := RB_iconst rfl ki3
theorem w8_96 : RB d 8 96 [l0] (.int i :: st) σ Q = ((¬ i < 0 ∧ i.toNatClampNeg ≤ 5000) ∧ RB d 8 98 [l0] (.ref σ.2.2.2.1 :: st) (aNc 9 i.toNatClampNeg σ) Q) := RB_newI rfl
theorem w8_98 : RB d 8 98 [l0] (v :: st) (S, I, R, z) Q = RB d 8 99 [l0] (v :: v :: st) (S, I, R, z) Q := RB_dup rfl
theorem w8_99 : RB d 8 99 [l0] st (S, I, R, z) Q = RB d 8 100 [l0] (.int 0 :: st) (S, I, R, z) Q := RB_iconst rfl ki0
theorem w8_100 : RB d 8 100 [l0] st (S, I, R, z) Q = RB d 8 101 [l0] (.int (-1) :: st) (S, I, R, z) Q := RB_iconst rfl kim1
theorem w8_101 : RB d 8 101 [l0] (.int x :: .int i :: .ref a :: st) (S, I, R, z) Q = (((S a).1 = 9 ∧ aIx i (S a).2 ∧ 16 ≤ a) ∧ RB d 8 102 [l0] st (S, aW I a i.toNatClampNeg x, R, z) Q) := RB_iast rfl
theorem w8_102 : RB d 8 102 [l0] (v :: st) (S, I, R, z) Q = RB d 8 103 [l0] (v :: v :: st) (S, I, R, z) Q := RB_dup rfl
theorem w8_103 : RB d 8 103 [l0] st (S, I, R, z) Q = RB d 8 104 [l0] (.int 1 :: st) (S, I, R, z) Q := RB_iconst rfl ki1
theorem w8_104 : RB d 8 104 [l0] st (S, I, R, z) Q = RB d 8 105 [l0] (.int (-1) :: st) (S, I, R, z) Q := RB_iconst rfl kim1
theorem w8_105 : RB d 8 105 [l0] (.int x :: .int i :: .ref a :: st) (S, I, R, z) Q = (((S a).1 = 9 ∧ aIx i (S a).2 ∧ 16 ≤ a) ∧ RB d 8 106 [l0] st (S, aW I a i.toNatClampNeg x, R, z) Q) := RB_iast rfl
theorem w8_106 : RB d 8 106 [l0] (v :: st) (S, I, R, z) Q = RB d 8 107 [l0] (v :: v :: st) (S, I, R, z) Q := RB_dup rfl
theorem w8_107 : RB d 8 107 [l0] st (S, I, R, z) Q = RB d 8 108 [l0] (.int 2 :: st) (S, I, R, z) Q := RB_iconst rfl ki2
theorem w8_108 : RB d 8 108 [l0] st (S, I, R, z) Q = RB d 8 109 [l0] (.int (-1) :: st) (S, I, R, z) Q := RB_iconst rfl kim1
theorem w8_109 : RB d 8 109 [l0] (.int x :: .int i :: .ref a :: st) (S, I, R, z) Q = (((S a).1 = 9 ∧ aIx i (S a).2 ∧ 16 ≤ a) ∧ RB d 8 110 [l0] st (S, aW I a i.toNatClampNeg x, R, z) Q) := RB_iast rfl
theorem w8_110 : RB d 8 110 [l0] (.ref b :: .ref a :: st) (S, I, R, z) Q = (((S a).1 = 2 ∧ 2 < 8 ∧ 16 ≤ a) ∧ RB d 8 113 [l0] st (S, I, aR R a 14 (some b), z) Q) := RB_putR rfl rfl (Or.inr (by decide +kernel))
theorem w8_113 : RB d 8 113 [.ref a] st (S, I, R, z) Q = RB d 8 114 [.ref a] (.ref a :: st) (S, I, R, z) Q := RB_aloadn rfl rfl
theorem w8_114 : RB d 8 114 [l0] st (S, I, R, z) Q = RB d 8 116 [l0] (.int 96 :: st) (S, I, R, z) Q := RB_bipush rfl kb96
theorem w8_116 : RB d 8 116 [l0] (.int i :: st) σ Q = ((¬ i < 0 ∧ i.toNatClampNeg ≤ 5000) ∧ RB d 8 118 [l0] (.ref σ.2.2.2.1 :: st) (aNc 9 i.toNatClampNeg σ) Q) := RB_newI rfl
theorem w8_118 : RB d 8 118 [l0] (.ref b :: .ref a :: st) (S, I, R, z) Q = (((S a).1 = 2 ∧ 2 < 8 ∧ 16 ≤ a) ∧ RB d 8 121 [l0] st (S, I, aR R a 15 (some b), z) Q) := RB_putR rfl rfl (Or.inr (by decide +kernel))
theorem w8_121 : RB d 8 121 [.ref a] st (S, I, R, z) Q = RB d 8 122 [.ref a] (.ref a :: st) (S, I, R, z) Q := RB_aloadn rfl rfl
theorem w8_122 : RB d 8 122 [l0] st (S, I, R, z) Q = RB d 8 124 [l0] (.int 16 :: st) (S, I, R, z) Q := RB_bipush rfl kb16
theorem w8_124 : RB d 8 124 [l0] (.int i :: st) σ Q = ((¬ i < 0 ∧ i.toNatClampNeg ≤ 5000) ∧ RB d 8 126 [l0] (.ref σ.2.2.2.1 :: st) (aNc 9 i.toNatClampNeg σ) Q) := RB_newI rfl
theorem w8_126 : RB d 8 126 [l0] (.ref b :: .ref a :: st) (S, I, R, z) Q = (((S a).1 = 2 ∧ 2 < 8 ∧ 16 ≤ a) ∧ RB d 8 129 [l0] st (S, I, aR R a 16 (some b), z) Q) := RB_putR rfl rfl (Or.inr (by decide +kernel))
theorem w8_129 : RB d 8 129 [.ref a] st (S, I, R, z) Q = RB d 8 130 [.ref a] (.ref a :: st) (S, I, R, z) Q := RB_aloadn rfl rfl
theorem w8_130 : RB d 8 130 [l0] st (S, I, R, z) Q = RB d 8 132 [l0] (.int 7 :: st) (S, I, R, z) Q := RB_bipush rfl kb7
theorem w8_132 : RB d 8 132 [l0] (.int i :: st) σ Q = ((¬ i < 0 ∧ i.toNatClampNeg ≤ 5000) ∧ RB d 8 134 [l0] (.ref σ.2.2.2.1 :: st) (aNc 9 i.toNatClampNeg σ) Q) := RB_newI rfl
theorem w8_134 : RB d 8 134 [l0] (.ref b :: .ref a :: st) (S, I, R, z) Q = (((S a).1 = 2 ∧ 2 < 8 ∧ 16 ≤ a) ∧ RB d 8 137 [l0] st (S, I, aR R a 17 (some b), z) Q) := RB_putR rfl rfl (Or.inr (by decide +kernel))
theorem w8_137 : RB d 8 137 [l0] [] (S, I, R, z) Q = Q none (S, I, R, z) := RB_ret rfl rfl
/-! 9: HangedWord$State.become -/
theorem w9_0 : RB d 9 0 [l0, .ref a, l2] st (S, I, R, z) Q = RB d 9 1 [l0, .ref a, l2] (.ref a :: st) (S, I, R, z) Q := RB_aloadn rfl rfl
theorem w9_0N : RB d 9 0 [l0, .null, l2] st (S, I, R, z) Q = RB d 9 1 [l0, .null, l2] (.null :: st) (S, I, R, z) Q := RB_aloadnN rfl rfl
theorem w9_1 : RB d 9 1 [l0, l1, l2] (.ref a :: st) (S, I, R, z) Q = ((S a).1 = 2 ∧ RB d 9 4 [l0, l1, l2] (va_rf (R a 0) :: st) (S, I, R, z) Q) := RB_getR rfl rfl
theorem w9_4 : RB d 9 4 [l0, l1, l2] st (S, I, R, z) Q = RB d 9 5 [l0, l1, l2] (.int 0 :: st) (S, I, R, z) Q := RB_iconst rfl ki0
theorem w9_5 : RB d 9 5 [.ref a, l1, l2] st (S, I, R, z) Q = RB d 9 6 [.ref a, l1, l2] (.ref a :: st) (S, I, R, z) Q := RB_aloadn rfl rfl
theorem w9_6 : RB d 9 6 [l0, l1, l2] (.ref a :: st) (S, I, R, z) Q = ((S a).1 = 2 ∧ RB d 9 9 [l0, l1, l2] (va_rf (R a 0) :: st) (S, I, R, z) Q) := RB_getR rfl rfl
theorem w9_9 : RB d 9 9 [l0, l1, l2] st (S, I, R, z) Q = RB d 9 10 [l0, l1, l2] (.int 0 :: st) (S, I, R, z) Q := RB_iconst rfl ki0
theorem w9_10 : RB d 9 10 [l0, l1, l2] st (S, I, R, z) Q = RB d 9 12 [l0, l1, l2] (.int 12 :: st) (S, I, R, z) Q := RB_bipush rfl kb12
theorem w9_12 : RB d 9 12 [l0, l1, l2] [.int x4, .int x3, v2, .int x1, v0] (S, I, R, z) Q = RM d 1001 [v0, .int x1, v2, .int x3, .int x4] (S, I, R, z) (fun v τ => RB d 9 15 [l0, l1, l2] (aPush v []) τ Q) := RB_callS (n := 5) (t := 1) (k := 70) (ins := .invokestatic 70) rfl rfl rfl (Nat.le_of_ble_eq_true rfl) (Nat.le_of_ble_eq_true rfl) rfl rfl
theorem w9_15 : RB d 9 15 [l0, .ref a, l2] st (S, I, R, z) Q = RB d 9 16 [l0, .ref a, l2] (.ref a :: st) (S, I, R, z) Q := RB_aloadn rfl rfl
theorem w9_15N : RB d 9 15 [l0, .null, l2] st (S, I, R, z) Q = RB d 9 16 [l0, .null, l2] (.null :: st) (S, I, R, z) Q := RB_aloadnN rfl rfl
theorem w9_16 : RB d 9 16 [l0, l1, l2] (.ref a :: st) (S, I, R, z) Q = ((S a).1 = 2 ∧ RB d 9 19 [l0, l1, l2] (va_rf (R a 1) :: st) (S, I, R, z) Q) := RB_getR rfl rfl
theorem w9_19 : RB d 9 19 [l0, l1, l2] st (S, I, R, z) Q = RB d 9 20 [l0, l1, l2] (.int 0 :: st) (S, I, R, z) Q := RB_iconst rfl ki0
theorem w9_20 : RB d 9 20 [.ref a, l1, l2] st (S, I, R, z) Q = RB d 9 21 [.ref a, l1, l2] (.ref a :: st) (S, I, R, z) Q := RB_aloadn rfl rfl
theorem w9_21 : RB d 9 21 [l0, l1, l2] (.ref a :: st) (S, I, R, z) Q = ((S a).1 = 2 ∧ RB d 9 24 [l0, l1, l2] (va_rf (R a 1) :: st) (S, I, R, z) Q) := RB_getR rfl rfl
theorem w9_24 : RB d 9 24 [l0, l1, l2] st (S, I, R, z) Q = RB d 9 25 [l0, l1, l2] (.int 0 :: st) (S, I, R, z) Q := RB_iconst rfl ki0
theorem w9_25 : RB d 9 25 [l0, l1, l2] st (S, I, R, z) Q = RB d 9 27 [l0, l1, l2] (.int 12 :: st) (S, I, R, z) Q := RB_bipush rfl kb12
theorem w9_27 : RB d 9 27 [l0, l1, l2] [.int x4, .int x3, v2, .int x1, v0] (S, I, R, z) Q = RM d 1001 [v0, .int x1, v2, .int x3, .int x4] (S, I, R, z) (fun v τ => RB d 9 30 [l0, l1, l2] (aPush v []) τ Q) := RB_callS (n := 5) (t := 1) (k := 70) (ins := .invokestatic 70) rfl rfl rfl (Nat.le_of_ble_eq_true rfl) (Nat.le_of_ble_eq_true rfl) rfl rfl
theorem w9_30 : RB d 9 30 [l0, .ref a, l2] st (S, I, R, z) Q = RB d 9 31 [l0, .ref a, l2] (.ref a :: st) (S, I, R, z) Q := RB_aloadn rfl rfl
theorem w9_30N : RB d 9 30 [l0, .null, l2] st (S, I, R, z) Q = RB d 9 31 [l0, .null, l2] (.null :: st) (S, I, R, z) Q := RB_aloadnN rfl rfl
theorem w9_31 : RB d 9 31 [l0, l1, l2] (.ref a :: st) (S, I, R, z) Q = ((S a).1 = 2 ∧ RB d 9 34 [l0, l1, l2] (va_rf (R a 2) :: st) (S, I, R, z) Q) := RB_getR rfl rfl
theorem w9_34 : RB d 9 34 [l0, l1, l2] st (S, I, R, z) Q = RB d 9 35 [l0, l1, l2] (.int 0 :: st) (S, I, R, z) Q := RB_iconst rfl ki0
theorem w9_35 : RB d 9 35 [.ref a, l1, l2] st (S, I, R, z) Q = RB d 9 36 [.ref a, l1, l2] (.ref a :: st) (S, I, R, z) Q := RB_aloadn rfl rfl
theorem w9_36 : RB d 9 36 [l0, l1, l2] (.ref a :: st) (S, I, R, z) Q = ((S a).1 = 2 ∧ RB d 9 39 [l0, l1, l2] (va_rf (R a 2) :: st) (S, I, R, z) Q) := RB_getR rfl rfl
theorem w9_39 : RB d 9 39 [l0, l1, l2] st (S, I, R, z) Q = RB d 9 40 [l0, l1, l2] (.int 0 :: st) (S, I, R, z) Q := RB_iconst rfl ki0
theorem w9_40 : RB d 9 40 [l0, l1, l2] st (S, I, R, z) Q = RB d 9 42 [l0, l1, l2] (.int 72 :: st) (S, I, R, z) Q := RB_bipush rfl kb72
theorem w9_42 : RB d 9 42 [l0, l1, l2] [.int x4, .int x3, v2, .int x1, v0] (S, I, R, z) Q = RM d 1001 [v0, .int x1, v2, .int x3, .int x4] (S, I, R, z) (fun v τ => RB d 9 45 [l0, l1, l2] (aPush v []) τ Q) := RB_callS (n := 5) (t := 1) (k := 70) (ins := .invokestatic 70) rfl rfl rfl (Nat.le_of_ble_eq_true rfl) (Nat.le_of_ble_eq_true rfl) rfl rfl
theorem w9_45 : RB d 9 45 [l0, .ref a, l2] st (S, I, R, z) Q = RB d 9 46 [l0, .ref a, l2] (.ref a :: st) (S, I, R, z) Q := RB_aloadn rfl rfl
theorem w9_45N : RB d 9 45 [l0, .null, l2] st (S, I, R, z) Q = RB d 9 46 [l0, .null, l2] (.null :: st) (S, I, R, z) Q := RB_aloadnN rfl rfl
theorem w9_46 : RB d 9 46 [l0, l1, l2] (.ref a :: st) (S, I, R, z) Q = ((S a).1 = 2 ∧ RB d 9 49 [l0, l1, l2] (va_rf (R a 4) :: st) (S, I, R, z) Q) := RB_getR rfl rfl
theorem w9_49 : RB d 9 49 [l0, l1, l2] st (S, I, R, z) Q = RB d 9 50 [l0, l1, l2] (.int 0 :: st) (S, I, R, z) Q := RB_iconst rfl ki0
theorem w9_50 : RB d 9 50 [.ref a, l1, l2] st (S, I, R, z) Q = RB d 9 51 [.ref a, l1, l2] (.ref a :: st) (S, I, R, z) Q := RB_aloadn rfl rfl
theorem w9_51 : RB d 9 51 [l0, l1, l2] (.ref a :: st) (S, I, R, z) Q = ((S a).1 = 2 ∧ RB d 9 54 [l0, l1, l2] (va_rf (R a 4) :: st) (S, I, R, z) Q) := RB_getR rfl rfl
theorem w9_54 : RB d 9 54 [l0, l1, l2] st (S, I, R, z) Q = RB d 9 55 [l0, l1, l2] (.int 0 :: st) (S, I, R, z) Q := RB_iconst rfl ki0
theorem w9_55 : RB d 9 55 [l0, l1, l2] st (S, I, R, z) Q = RB d 9 57 [l0, l1, l2] (.int 8 :: st) (S, I, R, z) Q := RB_bipush rfl kb8
theorem w9_57 : RB d 9 57 [l0, l1, l2] [.int x4, .int x3, v2, .int x1, v0] (S, I, R, z) Q = RM d 1001 [v0, .int x1, v2, .int x3, .int x4] (S, I, R, z) (fun v τ => RB d 9 60 [l0, l1, l2] (aPush v []) τ Q) := RB_callS (n := 5) (t := 1) (k := 70) (ins := .invokestatic 70) rfl rfl rfl (Nat.le_of_ble_eq_true rfl) (Nat.le_of_ble_eq_true rfl) rfl rfl
theorem w9_60 : RB d 9 60 [l0, .ref a, l2] st (S, I, R, z) Q = RB d 9 61 [l0, .ref a, l2] (.ref a :: st) (S, I, R, z) Q := RB_aloadn rfl rfl
theorem w9_60N : RB d 9 60 [l0, .null, l2] st (S, I, R, z) Q = RB d 9 61 [l0, .null, l2] (.null :: st) (S, I, R, z) Q := RB_aloadnN rfl rfl
theorem w9_61 : RB d 9 61 [l0, l1, l2] (.ref a :: st) (S, I, R, z) Q = ((S a).1 = 2 ∧ RB d 9 64 [l0, l1, l2] (va_rf (R a 5) :: st) (S, I, R, z) Q) := RB_getR rfl rfl
theorem w9_64 : RB d 9 64 [l0, l1, l2] st (S, I, R, z) Q = RB d 9 65 [l0, l1, l2] (.int 0 :: st) (S, I, R, z) Q := RB_iconst rfl ki0
theorem w9_65 : RB d 9 65 [.ref a, l1, l2] st (S, I, R, z) Q = RB d 9 66 [.ref a, l1, l2] (.ref a :: st) (S, I, R, z) Q := RB_aloadn rfl rfl
theorem w9_66 : RB d 9 66 [l0, l1, l2] (.ref a :: st) (S, I, R, z) Q = ((S a).1 = 2 ∧ RB d 9 69 [l0, l1, l2] (va_rf (R a 5) :: st) (S, I, R, z) Q) := RB_getR rfl rfl
theorem w9_69 : RB d 9 69 [l0, l1, l2] st (S, I, R, z) Q = RB d 9 70 [l0, l1, l2] (.int 0 :: st) (S, I, R, z) Q := RB_iconst rfl ki0
theorem w9_70 : RB d 9 70 [l0, l1, l2] st (S, I, R, z) Q = RB d 9 72 [l0, l1, l2] (.int 8 :: st) (S, I, R, z) Q := RB_bipush rfl kb8
theorem w9_72 : RB d 9 72 [l0, l1, l2] [.int x4, .int x3, v2, .int x1, v0] (S, I, R, z) Q = RM d 1001 [v0, .int x1, v2, .int x3, .int x4] (S, I, R, z) (fun v τ => RB d 9 75 [l0, l1, l2] (aPush v []) τ Q) := RB_callS (n := 5) (t := 1) (k := 70) (ins := .invokestatic 70) rfl rfl rfl (Nat.le_of_ble_eq_true rfl) (Nat.le_of_ble_eq_true rfl) rfl rfl
theorem w9_75 : RB d 9 75 [l0, .ref a, l2] st (S, I, R, z) Q = RB d 9 76 [l0, .ref a, l2] (.ref a :: st) (S, I, R, z) Q := RB_aloadn rfl rfl
theorem w9_75N : RB d 9 75 [l0, .null, l2] st (S, I, R, z) Q = RB d 9 76 [l0, .null, l2] (.null :: st) (S, I, R, z) Q := RB_aloadnN rfl rfl
theorem w9_76 : RB d 9 76 [l0, l1, l2] (.ref a :: st) (S, I, R, z) Q = ((S a).1 = 2 ∧ RB d 9 79 [l0, l1, l2] (va_rf (R a 14) :: st) (S, I, R, z) Q) := RB_getR rfl rfl
theorem w9_79 : RB d 9 79 [l0, l1, l2] st (S, I, R, z) Q = RB d 9 80 [l0, l1, l2] (.int 0 :: st) (S, I, R, z) Q := RB_iconst rfl ki0
theorem w9_80 : RB d 9 80 [.ref a, l1, l2] st (S, I, R, z) Q = RB d 9 81 [.ref a, l1, l2] (.ref a :: st) (S, I, R, z) Q := RB_aloadn rfl rfl
theorem w9_81 : RB d 9 81 [l0, l1, l2] (.ref a :: st) (S, I, R, z) Q = ((S a).1 = 2 ∧ RB d 9 84 [l0, l1, l2] (va_rf (R a 14) :: st) (S, I, R, z) Q) := RB_getR rfl rfl
theorem w9_84 : RB d 9 84 [l0, l1, l2] st (S, I, R, z) Q = RB d 9 85 [l0, l1, l2] (.int 0 :: st) (S, I, R, z) Q := RB_iconst rfl ki0
theorem w9_85 : RB d 9 85 [l0, l1, l2] st (S, I, R, z) Q = RB d 9 86 [l0, l1, l2] (.int 3 :: st) (S, I, R, z) Q := RB_iconst rfl ki3
theorem w9_86 : RB d 9 86 [l0, l1, l2] [.int x4, .int x3, v2, .int x1, v0] (S, I, R, z) Q = RM d 1001 [v0, .int x1, v2, .int x3, .int x4] (S, I, R, z) (fun v τ => RB d 9 89 [l0, l1, l2] (aPush v []) τ Q) := RB_callS (n := 5) (t := 1) (k := 70) (ins := .invokestatic 70) rfl rfl rfl (Nat.le_of_ble_eq_true rfl) (Nat.le_of_ble_eq_true rfl) rfl rfl
theorem w9_89 : RB d 9 89 [l0, l1, l2] st (S, I, R, z) Q = RB d 9 90 [l0, l1, l2] (.int 0 :: st) (S, I, R, z) Q := RB_iconst rfl ki0
theorem w9_90 : RB d 9 90 [l0, l1, l2] (.int x :: st) (S, I, R, z) Q = RB d 9 91 [l0, l1, .int x] st (S, I, R, z) Q := RB_istoren rfl (Nat.le_of_ble_eq_true rfl) rfl
theorem w9_91 : RB d 9 91 [l0, l1, .int x] st (S, I, R, z) Q = RB d 9 92 [l0, l1, .int x] (.int x :: st) (S, I, R, z) Q := RB_iloadn rfl rfl
theorem w9_92 : RB d 9 92 [l0, l1, l2] st (S, I, R, z) Q = RB d 9 94 [l0, l1, l2] (.int 14 :: st) (S, I, R, z) Q := RB_bipush rfl kb14
theorem w9_94 : RB d 9 94 [l0, l1, l2] (.int y :: .int x :: st) (S, I, R, z) Q = ((y ≤ x → RB d 9 115 [l0, l1, l2] st (S, I, R, z) Q) ∧ (¬ y ≤ x → RB d 9 97 [l0, l1, l2] st (S, I, R, z) Q)) := RB_ige rfl (by decide) rfl
theorem w9_97 : RB d 9 97 [.ref a, l1, l2] st (S, I, R, z) Q = RB d 9 98 [.ref a, l1, l2] (.ref a :: st) (S, I, R, z) Q := RB_aloadn rfl rfl
theorem w9_98 : RB d 9 98 [l0, l1, l2] (.ref a :: st) (S, I, R, z) Q = ((S a).1 = 2 ∧ RB d 9 101 [l0, l1, l2] (va_rf (R a 12) :: st) (S, I, R, z) Q) := RB_getR rfl rfl
theorem w9_101 : RB d 9 101 [l0, l1, .int x] st (S, I, R, z) Q = RB d 9 102 [l0, l1, .int x] (.int x :: st) (S, I, R, z) Q := RB_iloadn rfl rfl
theorem w9_102 : RB d 9 102 [l0, .ref a, l2] st (S, I, R, z) Q = RB d 9 103 [l0, .ref a, l2] (.ref a :: st) (S, I, R, z) Q := RB_aloadn rfl rfl
theorem w9_102N : RB d 9 102 [l0, .null, l2] st (S, I, R, z) Q = RB d 9 103 [l0, .null, l2] (.null :: st) (S, I, R, z) Q := RB_aloadnN rfl rfl
theorem w9_103 : RB d 9 103 [l0, l1, l2] (.ref a :: st) (S, I, R, z) Q = ((S a).1 = 2 ∧ RB d 9 106 [l0, l1, l2] (va_rf (R a 12) :: st) (S, I, R, z) Q) := RB_getR rfl rfl
theorem w9_106 : RB d 9 106 [l0, l1, .int x] st (S, I, R, z) Q = RB d 9 107 [l0, l1, .int x] (.int x :: st) (S, I, R, z) Q := RB_iloadn rfl rfl
theorem w9_107 : RB d 9 107 [l0, l1, l2] (.int i :: .ref a :: st) (S, I, R, z) Q = (((11 ≤ (S a).1 ∧ (S a).1 ≤ 13) ∧ aIx i (S a).2) ∧ RB d 9 108 [l0, l1, l2] (va_rf (R a i.toNatClampNeg) :: st) (S, I, R, z) Q) := RB_aald rfl
theorem w9_108 : RB d 9 108 [l0, l1, l2] (.ref b :: .int i :: .ref a :: st) (S, I, R, z) Q = (((11 ≤ (S a).1 ∧ (S a).1 ≤ 13) ∧ aIx i (S a).2 ∧ (S b).1 = aOfK (S a).1) ∧ RB d 9 109 [l0, l1, l2] st (S, I, aR R a i.toNatClampNeg (some b), z) Q) := RB_aast rfl
theorem w9_108N : RB d 9 108 [l0, l1, l2] (.null :: .int i :: .ref a :: st) (S, I, R, z) Q = (((11 ≤ (S a).1 ∧ (S a).1 ≤ 13) ∧ aIx i (S a).2) ∧ RB d 9 109 [l0, l1, l2] st (S, I, aR R a i.toNatClampNeg none, z) Q) := RB_aastN rfl
theorem w9_109 : RB d 9 109 [l0, l1, .int x] st (S, I, R, z) Q = RB d 9 112 [l0, l1, .int (x + 1)] st (S, I, R, z) Q := RB_iinc rfl rfl (Nat.le_of_ble_eq_true rfl) ki1 rfl
theorem w9_112 : RB d 9 112 [l0, l1, l2] st (S, I, R, z) Q = RB d 9 91 [l0, l1, l2] st (S, I, R, z) Q := RB_goto rfl (by decide) rfl
theorem w9_115 : RB d 9 115 [.ref a, l1, l2] st (S, I, R, z) Q = RB d 9 116 [.ref a, l1, l2] (.ref a :: st) (S, I, R, z) Q := RB_aloadn rfl rfl
theorem w9_116 : RB d 9 116 [l0, .ref a, l2] st (S, I, R, z) Q = RB d 9 117 [l0, .ref a, l2] (.ref a :: st) (S, I, R, z) Q := RB_aloadn rfl rfl
theorem w9_116N : RB d 9 116 [l0, .null, l2] st (S, I, R, z) Q = RB d 9 117 [l0, .null, l2] (.null :: st) (S, I, R, z) Q := RB_aloadnN rfl rfl
theorem w9_117 : RB d 9 117 [l0, l1, l2] (.ref a :: st) (S, I, R, z) Q = ((S a).1 = 2 ∧ RB d 9 120 [l0, l1, l2] (.int (I a 3) :: st) (S, I, R, z) Q) := RB_getI rfl rfl
theorem w9_120 : RB d 9 120 [l0, l1, l2] (.int x :: .ref a :: st) (S, I, R, z) Q = (((S a).1 = 2 ∧ 2 < 8 ∧ 16 ≤ a) ∧ RB d 9 123 [l0, l1, l2] st (S, aW I a 3 x, R, z) Q) := RB_putI rfl rfl (Or.inl rfl)
theorem w9_123 : RB d 9 123 [.ref a, l1, l2] st (S, I, R, z) Q = RB d 9 124 [.ref a, l1, l2] (.ref a :: st) (S, I, R, z) Q := RB_aloadn rfl rfl
theorem w9_124 : RB d 9 124 [l0, .ref a, l2] st (S, I, R, z) Q = RB d 9 125 [l0, .ref a, l2] (.ref a :: st) (S, I, R, z) Q := RB_aloadn rfl rfl
theorem w9_124N : RB d 9 124 [l0, .null, l2] st (S, I, R, z) Q = RB d 9 125 [l0, .null, l2] (.null :: st) (S, I, R, z) Q := RB_aloadnN rfl rfl
theorem w9_125 : RB d 9 125 [l0, l1, l2] (.ref a :: st) (S, I, R, z) Q = ((S a).1 = 2 ∧ RB d 9 128 [l0, l1, l2] (.int (I a 6) :: st) (S, I, R, z) Q) := RB_getI rfl rfl
theorem w9_128 : RB d 9 128 [l0, l1, l2] (.int x :: .ref a :: st) (S, I, R, z) Q = (((S a).1 = 2 ∧ 2 < 8 ∧ 16 ≤ a) ∧ RB d 9 131 [l0, l1, l2] st (S, aW I a 6 x, R, z) Q) := RB_putI rfl rfl (Or.inl rfl)
theorem w9_131 : RB d 9 131 [.ref a, l1, l2] st (S, I, R, z) Q = RB d 9 132 [.ref a, l1, l2] (.ref a :: st) (S, I, R, z) Q := RB_aloadn rfl rfl
theorem w9_132 : RB d 9 132 [l0, .ref a, l2] st (S, I, R, z) Q = RB d 9 133 [l0, .ref a, l2] (.ref a :: st) (S, I, R, z) Q := RB_aloadn rfl rfl
theorem w9_132N : RB d 9 132 [l0, .null, l2] st (S, I, R, z) Q = RB d 9 133 [l0, .null, l2] (.null :: st) (S, I, R, z) Q := RB_aloadnN rfl rfl
theorem w9_133 : RB d 9 133 [l0, l1, l2] (.ref a :: st) (S, I, R, z) Q = ((S a).1 = 2 ∧ RB d 9 136 [l0, l1, l2] (.int (I a 13) :: st) (S, I, R, z) Q) := RB_getI rfl rfl
theorem w9_136 : RB d 9 136 [l0, l1, l2] (.int x :: .ref a :: st) (S, I, R, z) Q = (((S a).1 = 2 ∧ 2 < 8 ∧ 16 ≤ a) ∧ RB d 9 139 [l0, l1, l2] st (S, aW I a 13 x, R, z) Q) := RB_putI rfl rfl (Or.inl rfl)
theorem w9_139 : RB d 9 139 [.ref a, l1, l2] st (S, I, R, z) Q = RB d 9 140 [.ref a, l1, l2] (.ref a :: st) (S, I, R, z) Q := RB_aloadn rfl rfl
theorem w9_140 : RB d 9 140 [l0, .ref a, l2] st (S, I, R, z) Q = RB d 9 141 [l0, .ref a, l2] (.ref a :: st) (S, I, R, z) Q := RB_aloadn rfl rfl
theorem w9_140N : RB d 9 140 [l0, .null, l2] st (S, I, R, z) Q = RB d 9 141 [l0, .null, l2] (.null :: st) (S, I, R, z) Q := RB_aloadnN rfl rfl
theorem w9_141 : RB d 9 141 [l0, l1, l2] (.ref a :: st) (S, I, R, z) Q = ((S a).1 = 2 ∧ RB d 9 144 [l0, l1, l2] (.int (I a 7) :: st) (S, I, R, z) Q) := RB_getI rfl rfl
theorem w9_144 : RB d 9 144 [l0, l1, l2] (.int x :: .ref a :: st) (S, I, R, z) Q = (((S a).1 = 2 ∧ 2 < 8 ∧ 16 ≤ a) ∧ RB d 9 147 [l0, l1, l2] st (S, aW I a 7 x, R, z) Q) := RB_putI rfl rfl (Or.inl rfl)
theorem w9_147 : RB d 9 147 [.ref a, l1, l2] st (S, I, R, z) Q = RB d 9 148 [.ref a, l1, l2] (.ref a :: st) (S, I, R, z) Q := RB_aloadn rfl rfl
theorem w9_148 : RB d 9 148 [l0, .ref a, l2] st (S, I, R, z) Q = RB d 9 149 [l0, .ref a, l2] (.ref a :: st) (S, I, R, z) Q := RB_aloadn rfl rfl
theorem w9_148N : RB d 9 148 [l0, .null, l2] st (S, I, R, z) Q = RB d 9 149 [l0, .null, l2] (.null :: st) (S, I, R, z) Q := RB_aloadnN rfl rfl
theorem w9_149 : RB d 9 149 [l0, l1, l2] (.ref a :: st) (S, I, R, z) Q = ((S a).1 = 2 ∧ RB d 9 152 [l0, l1, l2] (.int (I a 8) :: st) (S, I, R, z) Q) := RB_getI rfl rfl
theorem w9_152 : RB d 9 152 [l0, l1, l2] (.int x :: .ref a :: st) (S, I, R, z) Q = (((S a).1 = 2 ∧ 2 < 8 ∧ 16 ≤ a) ∧ RB d 9 155 [l0, l1, l2] st (S, aW I a 8 x, R, z) Q) := RB_putI rfl rfl (Or.inl rfl)
theorem w9_155 : RB d 9 155 [.ref a, l1, l2] st (S, I, R, z) Q = RB d 9 156 [.ref a, l1, l2] (.ref a :: st) (S, I, R, z) Q := RB_aloadn rfl rfl
theorem w9_156 : RB d 9 156 [l0, .ref a, l2] st (S, I, R, z) Q = RB d 9 157 [l0, .ref a, l2] (.ref a :: st) (S, I, R, z) Q := RB_aloadn rfl rfl
theorem w9_156N : RB d 9 156 [l0, .null, l2] st (S, I, R, z) Q = RB d 9 157 [l0, .null, l2] (.null :: st) (S, I, R, z) Q := RB_aloadnN rfl rfl
theorem w9_157 : RB d 9 157 [l0, l1, l2] (.ref a :: st) (S, I, R, z) Q = ((S a).1 = 2 ∧ RB d 9 160 [l0, l1, l2] (.int (I a 9) :: st) (S, I, R, z) Q) := RB_getI rfl rfl
theorem w9_160 : RB d 9 160 [l0, l1, l2] (.int x :: .ref a :: st) (S, I, R, z) Q = (((S a).1 = 2 ∧ 2 < 8 ∧ 16 ≤ a) ∧ RB d 9 163 [l0, l1, l2] st (S, aW I a 9 x, R, z) Q) := RB_putI rfl rfl (Or.inl rfl)
theorem w9_163 : RB d 9 163 [.ref a, l1, l2] st (S, I, R, z) Q = RB d 9 164 [.ref a, l1, l2] (.ref a :: st) (S, I, R, z) Q := RB_aloadn rfl rfl
theorem w9_164 : RB d 9 164 [l0, .ref a, l2] st (S, I, R, z) Q = RB d 9 165 [l0, .ref a, l2] (.ref a :: st) (S, I, R, z) Q := RB_aloadn rfl rfl
theorem w9_164N : RB d 9 164 [l0, .null, l2] st (S, I, R, z) Q = RB d 9 165 [l0, .null, l2] (.null :: st) (S, I, R, z) Q := RB_aloadnN rfl rfl
theorem w9_165 : RB d 9 165 [l0, l1, l2] (.ref a :: st) (S, I, R, z) Q = ((S a).1 = 2 ∧ RB d 9 168 [l0, l1, l2] (.int (I a 10) :: st) (S, I, R, z) Q) := RB_getI rfl rfl
theorem w9_168 : RB d 9 168 [l0, l1, l2] (.int x :: .ref a :: st) (S, I, R, z) Q = (((S a).1 = 2 ∧ 2 < 8 ∧ 16 ≤ a) ∧ RB d 9 171 [l0, l1, l2] st (S, aW I a 10 x, R, z) Q) := RB_putI rfl rfl (Or.inl rfl)
theorem w9_171 : RB d 9 171 [.ref a, l1, l2] st (S, I, R, z) Q = RB d 9 172 [.ref a, l1, l2] (.ref a :: st) (S, I, R, z) Q := RB_aloadn rfl rfl
theorem w9_172 : RB d 9 172 [l0, .ref a, l2] st (S, I, R, z) Q = RB d 9 173 [l0, .ref a, l2] (.ref a :: st) (S, I, R, z) Q := RB_aloadn rfl rfl
theorem w9_172N : RB d 9 172 [l0, .null, l2] st (S, I, R, z) Q = RB d 9 173 [l0, .null, l2] (.null :: st) (S, I, R, z) Q := RB_aloadnN rfl rfl
theorem w9_173 : RB d 9 173 [l0, l1, l2] (.ref a :: st) (S, I, R, z) Q = ((S a).1 = 2 ∧ RB d 9 176 [l0, l1, l2] (.int (I a 11) :: st) (S, I, R, z) Q) := RB_getI rfl rfl
theorem w9_176 : RB d 9 176 [l0, l1, l2] (.int x :: .ref a :: st) (S, I, R, z) Q = (((S a).1 = 2 ∧ 2 < 8 ∧ 16 ≤ a) ∧ RB d 9 179 [l0, l1, l2] st (S, aW I a 11 x, R, z) Q) := RB_putI rfl rfl (Or.inl rfl)
theorem w9_179 : RB d 9 179 [l0, l1, l2] [] (S, I, R, z) Q = Q none (S, I, R, z) := RB_ret rfl rfl
/-! 10: HangedWord$State.addWord -/
theorem w10_0 : RB d 10 0 [.ref a, l1, l2, l3, l4, l5] st (S, I, R, z) Q = RB d 10 1 [.ref a, l1, l2, l3, l4, l5] (.ref a :: st) (S, I, R, z) Q := RB_aloadn rfl rfl
theorem w10_1 : RB d 10 1 [l0, l1, l2, l3, l4, l5] (.ref a :: st) (S, I, R, z) Q = ((S a).1 = 2 ∧ RB d 10 4 [l0, l1, l2, l3, l4, l5] (.int (I a 3) :: st) (S, I, R, z) Q) := RB_getI rfl rfl
theorem w10_4 : RB d 10 4 [l0, l1, l2, l3, l4, l5] st (S, I, R, z) Q = RB d 10 6 [l0, l1, l2, l3, l4, l5] (.int 12 :: st) (S, I, R, z) Q := RB_bipush rfl kb12
theorem w10_6 : RB d 10 6 [l0, l1, l2, l3, l4, l5] (.int y :: .int x :: st) (S, I, R, z) Q = ((x < y → RB d 10 12 [l0, l1, l2, l3, l4, l5] st (S, I, R, z) Q) ∧ (¬ x < y → RB d 10 9 [l0, l1, l2, l3, l4, l5] st (S, I, R, z) Q)) := RB_ilt rfl (by decide) rfl
theorem w10_9 : RB d 10 9 [l0, l1, l2, l3, l4, l5] st (S, I, R, z) Q = RB d 10 11 [l0, l1, l2, l3, l4, l5] (.int (-1000000003) :: st) (S, I, R, z) Q := RB_ldc rfl rfl
theorem w10_11 : RB d 10 11 [l0, l1, l2, l3, l4, l5] [.int x] (S, I, R, z) Q = Q (some (.int x)) (S, I, R, z) := RB_iret rfl rfl rfl
theorem w10_12 : RB d 10 12 [.ref a, l1, l2, l3, l4, l5] st (S, I, R, z) Q = RB d 10 13 [.ref a, l1, l2, l3, l4, l5] (.ref a :: st) (S, I, R, z) Q := RB_aloadn rfl rfl
theorem w10_13 : RB d 10 13 [l0, l1, l2, l3, l4, l5] (.ref a :: st) (S, I, R, z) Q = ((S a).1 = 2 ∧ RB d 10 16 [l0, l1, l2, l3, l4, l5] (.int (I a 3) :: st) (S, I, R, z) Q) := RB_getI rfl rfl
theorem w10_16 : RB d 10 16 [l0, l1, l2, l3, l4, l5] (.int x :: st) (S, I, R, z) Q = RB d 10 17 [l0, l1, l2, .int x, l4, l5] st (S, I, R, z) Q := RB_istoren rfl (Nat.le_of_ble_eq_true rfl) rfl
theorem w10_17 : RB d 10 17 [.ref a, l1, l2, l3, l4, l5] st (S, I, R, z) Q = RB d 10 18 [.ref a, l1, l2, l3, l4, l5] (.ref a :: st) (S, I, R, z) Q := RB_aloadn rfl rfl
theorem w10_18 : RB d 10 18 [l0, l1, l2, l3, l4, l5] (.ref a :: st) (S, I, R, z) Q = ((S a).1 = 2 ∧ RB d 10 21 [l0, l1, l2, l3, l4, l5] (va_rf (R a 0) :: st) (S, I, R, z) Q) := RB_getR rfl rfl
theorem w10_21 : RB d 10 21 [l0, l1, l2, .int x, l4, l5] st (S, I, R, z) Q = RB d 10 22 [l0, l1, l2, .int x, l4, l5] (.int x :: st) (S, I, R, z) Q := RB_iloadn rfl rfl
theorem w10_22 : RB d 10 22 [l0, .int x, l2, l3, l4, l5] st (S, I, R, z) Q = RB d 10 23 [l0, .int x, l2, l3, l4, l5] (.int x :: st) (S, I, R, z) Q := RB_iloadn rfl rfl
theorem w10_23 : RB d 10 23 [l0, l1, l2, l3, l4, l5] (.int x :: .int i :: .ref a :: st) (S, I, R, z) Q = (((S a).1 = 9 ∧ aIx i (S a).2 ∧ 16 ≤ a) ∧ RB d 10 24 [l0, l1, l2, l3, l4, l5] st (S, aW I a i.toNatClampNeg x, R, z) Q) := RB_iast rfl
theorem w10_24 : RB d 10 24 [.ref a, l1, l2, l3, l4, l5] st (S, I, R, z) Q = RB d 10 25 [.ref a, l1, l2, l3, l4, l5] (.ref a :: st) (S, I, R, z) Q := RB_aloadn rfl rfl
theorem w10_25 : RB d 10 25 [l0, l1, l2, l3, l4, l5] (.ref a :: st) (S, I, R, z) Q = ((S a).1 = 2 ∧ RB d 10 28 [l0, l1, l2, l3, l4, l5] (va_rf (R a 1) :: st) (S, I, R, z) Q) := RB_getR rfl rfl
theorem w10_28 : RB d 10 28 [l0, l1, l2, .int x, l4, l5] st (S, I, R, z) Q = RB d 10 29 [l0, l1, l2, .int x, l4, l5] (.int x :: st) (S, I, R, z) Q := RB_iloadn rfl rfl
theorem w10_29 : RB d 10 29 [l0, l1, .int x, l3, l4, l5] st (S, I, R, z) Q = RB d 10 30 [l0, l1, .int x, l3, l4, l5] (.int x :: st) (S, I, R, z) Q := RB_iloadn rfl rfl
theorem w10_30 : RB d 10 30 [l0, l1, l2, l3, l4, l5] (.int x :: .int i :: .ref a :: st) (S, I, R, z) Q = (((S a).1 = 9 ∧ aIx i (S a).2 ∧ 16 ≤ a) ∧ RB d 10 31 [l0, l1, l2, l3, l4, l5] st (S, aW I a i.toNatClampNeg x, R, z) Q) := RB_iast rfl
theorem w10_31 : RB d 10 31 [l0, l1, l2, l3, l4, l5] st (S, I, R, z) Q = RB d 10 32 [l0, l1, l2, l3, l4, l5] (.int 0 :: st) (S, I, R, z) Q := RB_iconst rfl ki0
theorem w10_32 : RB d 10 32 [l0, l1, l2, l3, l4, l5] (.int x :: st) (S, I, R, z) Q = RB d 10 34 [l0, l1, l2, l3, .int x, l5] st (S, I, R, z) Q := RB_istore rfl (Nat.le_of_ble_eq_true rfl) rfl
theorem w10_34 : RB d 10 34 [l0, l1, l2, l3, .int x, l5] st (S, I, R, z) Q = RB d 10 36 [l0, l1, l2, l3, .int x, l5] (.int x :: st) (S, I, R, z) Q := RB_iload rfl rfl
theorem w10_36 : RB d 10 36 [l0, l1, l2, l3, l4, l5] st (S, I, R, z) Q = RB d 10 38 [l0, l1, l2, l3, l4, l5] (.int 6 :: st) (S, I, R, z) Q := RB_bipush rfl kb6
theorem w10_38 : RB d 10 38 [l0, l1, l2, l3, l4, l5] (.int y :: .int x :: st) (S, I, R, z) Q = ((y ≤ x → RB d 10 60 [l0, l1, l2, l3, l4, l5] st (S, I, R, z) Q) ∧ (¬ y ≤ x → RB d 10 41 [l0, l1, l2, l3, l4, l5] st (S, I, R, z) Q)) := RB_ige rfl (by decide) rfl
theorem w10_41 : RB d 10 41 [.ref a, l1, l2, l3, l4, l5] st (S, I, R, z) Q = RB d 10 42 [.ref a, l1, l2, l3, l4, l5] (.ref a :: st) (S, I, R, z) Q := RB_aloadn rfl rfl
theorem w10_42 : RB d 10 42 [l0, l1, l2, l3, l4, l5] (.ref a :: st) (S, I, R, z) Q = ((S a).1 = 2 ∧ RB d 10 45 [l0, l1, l2, l3, l4, l5] (va_rf (R a 2) :: st) (S, I, R, z) Q) := RB_getR rfl rfl
theorem w10_45 : RB d 10 45 [l0, l1, l2, .int x, l4, l5] st (S, I, R, z) Q = RB d 10 46 [l0, l1, l2, .int x, l4, l5] (.int x :: st) (S, I, R, z) Q := RB_iloadn rfl rfl
theorem w10_46 : RB d 10 46 [l0, l1, l2, l3, l4, l5] st (S, I, R, z) Q = RB d 10 48 [l0, l1, l2, l3, l4, l5] (.int 6 :: st) (S, I, R, z) Q := RB_bipush rfl kb6
theorem w10_48 : RB d 10 48 [l0, l1, l2, l3, l4, l5] (.int y :: .int x :: st) (S, I, R, z) Q = RB d 10 49 [l0, l1, l2, l3, l4, l5] (.int (x * y) :: st) (S, I, R, z) Q := RB_imul rfl
theorem w10_49 : RB d 10 49 [l0, l1, l2, l3, .int x, l5] st (S, I, R, z) Q = RB d 10 51 [l0, l1, l2, l3, .int x, l5] (.int x :: st) (S, I, R, z) Q := RB_iload rfl rfl
theorem w10_51 : RB d 10 51 [l0, l1, l2, l3, l4, l5] (.int y :: .int x :: st) (S, I, R, z) Q = RB d 10 52 [l0, l1, l2, l3, l4, l5] (.int (x + y) :: st) (S, I, R, z) Q := RB_iadd rfl
theorem w10_52 : RB d 10 52 [l0, l1, l2, l3, l4, l5] st (S, I, R, z) Q = RB d 10 53 [l0, l1, l2, l3, l4, l5] (.int 0 :: st) (S, I, R, z) Q := RB_iconst rfl ki0
theorem w10_53 : RB d 10 53 [l0, l1, l2, l3, l4, l5] (.int x :: .int i :: .ref a :: st) (S, I, R, z) Q = (((S a).1 = 9 ∧ aIx i (S a).2 ∧ 16 ≤ a) ∧ RB d 10 54 [l0, l1, l2, l3, l4, l5] st (S, aW I a i.toNatClampNeg x, R, z) Q) := RB_iast rfl
theorem w10_54 : RB d 10 54 [l0, l1, l2, l3, .int x, l5] st (S, I, R, z) Q = RB d 10 57 [l0, l1, l2, l3, .int (x + 1), l5] st (S, I, R, z) Q := RB_iinc rfl rfl (Nat.le_of_ble_eq_true rfl) ki1 rfl
theorem w10_57 : RB d 10 57 [l0, l1, l2, l3, l4, l5] st (S, I, R, z) Q = RB d 10 34 [l0, l1, l2, l3, l4, l5] st (S, I, R, z) Q := RB_goto rfl (by decide) rfl
theorem w10_60 : RB d 10 60 [l0, .int x, l2, l3, l4, l5] st (S, I, R, z) Q = RB d 10 61 [l0, .int x, l2, l3, l4, l5] (.int x :: st) (S, I, R, z) Q := RB_iloadn rfl rfl
theorem w10_61 : RB d 10 61 [l0, l1, l2, l3, l4, l5] (.int x :: st) (S, I, R, z) Q = RB d 10 63 [l0, l1, l2, l3, .int x, l5] st (S, I, R, z) Q := RB_istore rfl (Nat.le_of_ble_eq_true rfl) rfl
theorem w10_63 : RB d 10 63 [l0, l1, l2, l3, l4, l5] st (S, I, R, z) Q = RB d 10 64 [l0, l1, l2, l3, l4, l5] (.int 3 :: st) (S, I, R, z) Q := RB_iconst rfl ki3
theorem w10_64 : RB d 10 64 [l0, l1, l2, l3, l4, l5] (.int x :: st) (S, I, R, z) Q = RB d 10 66 [l0, l1, l2, l3, l4, .int x] st (S, I, R, z) Q := RB_istore rfl (Nat.le_of_ble_eq_true rfl) rfl
theorem w10_66 : RB d 10 66 [l0, l1, l2, l3, l4, .int x] st (S, I, R, z) Q = RB d 10 68 [l0, l1, l2, l3, l4, .int x] (.int x :: st) (S, I, R, z) Q := RB_iload rfl rfl
theorem w10_68 : RB d 10 68 [l0, l1, l2, l3, l4, l5] (.int x :: st) (S, I, R, z) Q = ((x < 0 → RB d 10 106 [l0, l1, l2, l3, l4, l5] st (S, I, R, z) Q) ∧ (¬ x < 0 → RB d 10 71 [l0, l1, l2, l3, l4, l5] st (S, I, R, z) Q)) := RB_lt0 rfl (by decide) rfl
theorem w10_71 : RB d 10 71 [.ref a, l1, l2, l3, l4, l5] st (S, I, R, z) Q = RB d 10 72 [.ref a, l1, l2, l3, l4, l5] (.ref a :: st) (S, I, R, z) Q := RB_aloadn rfl rfl
theorem w10_72 : RB d 10 72 [l0, l1, l2, l3, l4, l5] (.ref a :: st) (S, I, R, z) Q = ((S a).1 = 2 ∧ RB d 10 75 [l0, l1, l2, l3, l4, l5] (va_rf (R a 2) :: st) (S, I, R, z) Q) := RB_getR rfl rfl
theorem w10_75 : RB d 10 75 [l0, l1, l2, .int x, l4, l5] st (S, I, R, z) Q = RB d 10 76 [l0, l1, l2, .int x, l4, l5] (.int x :: st) (S, I, R, z) Q := RB_iloadn rfl rfl
theorem w10_76 : RB d 10 76 [l0, l1, l2, l3, l4, l5] st (S, I, R, z) Q = RB d 10 78 [l0, l1, l2, l3, l4, l5] (.int 6 :: st) (S, I, R, z) Q := RB_bipush rfl kb6
theorem w10_78 : RB d 10 78 [l0, l1, l2, l3, l4, l5] (.int y :: .int x :: st) (S, I, R, z) Q = RB d 10 79 [l0, l1, l2, l3, l4, l5] (.int (x * y) :: st) (S, I, R, z) Q := RB_imul rfl
theorem w10_79 : RB d 10 79 [l0, l1, l2, l3, .int x, l5] st (S, I, R, z) Q = RB d 10 81 [l0, l1, l2, l3, .int x, l5] (.int x :: st) (S, I, R, z) Q := RB_iload rfl rfl
theorem w10_81 : RB d 10 81 [l0, l1, l2, l3, l4, l5] st (S, I, R, z) Q = RB d 10 83 [l0, l1, l2, l3, l4, l5] (.int 6 :: st) (S, I, R, z) Q := RB_bipush rfl kb6
theorem w10_83 : RB d 10 83 [l0, l1, l2, l3, l4, l5] (.int y :: .int x :: st) (S, I, R, z) Q = (¬ y = 0 ∧ RB d 10 84 [l0, l1, l2, l3, l4, l5] (.int (x % y) :: st) (S, I, R, z) Q) := RB_irem rfl
theorem w10_84 : RB d 10 84 [l0, l1, l2, l3, l4, l5] (.int y :: .int x :: st) (S, I, R, z) Q = RB d 10 85 [l0, l1, l2, l3, l4, l5] (.int (x + y) :: st) (S, I, R, z) Q := RB_iadd rfl
theorem w10_85 : RB d 10 85 [l0, l1, l2, l3, l4, l5] (v :: w :: st) (S, I, R, z) Q = RB d 10 86 [l0, l1, l2, l3, l4, l5] (v :: w :: v :: w :: st) (S, I, R, z) Q := RB_dup2 rfl
theorem w10_86 : RB d 10 86 [l0, l1, l2, l3, l4, l5] (.int i :: .ref a :: st) (S, I, R, z) Q = (((S a).1 = 9 ∧ aIx i (S a).2) ∧ RB d 10 87 [l0, l1, l2, l3, l4, l5] (.int (I a i.toNatClampNeg) :: st) (S, I, R, z) Q) := RB_iald rfl
theorem w10_87 : RB d 10 87 [l0, l1, l2, l3, l4, l5] st (S, I, R, z) Q = RB d 10 88 [l0, l1, l2, l3, l4, l5] (.int 1 :: st) (S, I, R, z) Q := RB_iconst rfl ki1
theorem w10_88 : RB d 10 88 [l0, l1, l2, l3, l4, .int x] st (S, I, R, z) Q = RB d 10 90 [l0, l1, l2, l3, l4, .int x] (.int x :: st) (S, I, R, z) Q := RB_iload rfl rfl
theorem w10_90 : RB d 10 90 [l0, l1, l2, l3, l4, l5] (.int y :: .int x :: st) (S, I, R, z) Q = RB d 10 91 [l0, l1, l2, l3, l4, l5] (.int (x <<< (y &&& 31)) :: st) (S, I, R, z) Q := RB_ishl rfl
theorem w10_91 : RB d 10 91 [l0, l1, l2, l3, l4, l5] (.int y :: .int x :: st) (S, I, R, z) Q = RB d 10 92 [l0, l1, l2, l3, l4, l5] (.int (x ||| y) :: st) (S, I, R, z) Q := RB_ior rfl
theorem w10_92 : RB d 10 92 [l0, l1, l2, l3, l4, l5] (.int x :: .int i :: .ref a :: st) (S, I, R, z) Q = (((S a).1 = 9 ∧ aIx i (S a).2 ∧ 16 ≤ a) ∧ RB d 10 93 [l0, l1, l2, l3, l4, l5] st (S, aW I a i.toNatClampNeg x, R, z) Q) := RB_iast rfl
theorem w10_93 : RB d 10 93 [l0, l1, l2, l3, .int x, l5] st (S, I, R, z) Q = RB d 10 95 [l0, l1, l2, l3, .int x, l5] (.int x :: st) (S, I, R, z) Q := RB_iload rfl rfl
theorem w10_95 : RB d 10 95 [l0, l1, l2, l3, l4, l5] st (S, I, R, z) Q = RB d 10 97 [l0, l1, l2, l3, l4, l5] (.int 6 :: st) (S, I, R, z) Q := RB_bipush rfl kb6
theorem w10_97 : RB d 10 97 [l0, l1, l2, l3, l4, l5] (.int y :: .int x :: st) (S, I, R, z) Q = (¬ y = 0 ∧ RB d 10 98 [l0, l1, l2, l3, l4, l5] (.int (x / y) :: st) (S, I, R, z) Q) := RB_idiv rfl
theorem w10_98 : RB d 10 98 [l0, l1, l2, l3, l4, l5] (.int x :: st) (S, I, R, z) Q = RB d 10 100 [l0, l1, l2, l3, .int x, l5] st (S, I, R, z) Q := RB_istore rfl (Nat.le_of_ble_eq_true rfl) rfl
theorem w10_100 : RB d 10 100 [l0, l1, l2, l3, l4, .int x] st (S, I, R, z) Q = RB d 10 103 [l0, l1, l2, l3, l4, .int (x + (-1))] st (S, I, R, z) Q := RB_iinc rfl rfl (Nat.le_of_ble_eq_true rfl) kim1 rfl
theorem w10_103 : RB d 10 103 [l0, l1, l2, l3, l4, l5] st (S, I, R, z) Q = RB d 10 66 [l0, l1, l2, l3, l4, l5] st (S, I, R, z) Q := RB_goto rfl (by decide) rfl
theorem w10_106 : RB d 10 106 [.ref a, l1, l2, l3, l4, l5] st (S, I, R, z) Q = RB d 10 107 [.ref a, l1, l2, l3, l4, l5] (.ref a :: st) (S, I, R, z) Q := RB_aloadn rfl rfl
theorem w10_107 : RB d 10 107 [l0, l1, l2, l3, l4, l5] (v :: st) (S, I, R, z) Q = RB d 10 108 [l0, l1, l2, l3, l4, l5] (v :: v :: st) (S, I, R, z) Q := RB_dup rfl
theorem w10_108 : RB d 10 108 [l0, l1, l2, l3, l4, l5] (.ref a :: st) (S, I, R, z) Q = ((S a).1 = 2 ∧ RB d 10 111 [l0, l1, l2, l3, l4, l5] (.int (I a 3) :: st) (S, I, R, z) Q) := RB_getI rfl rfl
theorem w10_111 : RB d 10 111 [l0, l1, l2, l3, l4, l5] st (S, I, R, z) Q = RB d 10 112 [l0, l1, l2, l3, l4, l5] (.int 1 :: st) (S, I, R, z) Q := RB_iconst rfl ki1
theorem w10_112 : RB d 10 112 [l0, l1, l2, l3, l4, l5] (.int y :: .int x :: st) (S, I, R, z) Q = RB d 10 113 [l0, l1, l2, l3, l4, l5] (.int (x + y) :: st) (S, I, R, z) Q := RB_iadd rfl
theorem w10_113 : RB d 10 113 [l0, l1, l2, l3, l4, l5] (.int x :: .ref a :: st) (S, I, R, z) Q = (((S a).1 = 2 ∧ 2 < 8 ∧ 16 ≤ a) ∧ RB d 10 116 [l0, l1, l2, l3, l4, l5] st (S, aW I a 3 x, R, z) Q) := RB_putI rfl rfl (Or.inl rfl)
theorem w10_116 : RB d 10 116 [l0, l1, l2, .int x, l4, l5] st (S, I, R, z) Q = RB d 10 117 [l0, l1, l2, .int x, l4, l5] (.int x :: st) (S, I, R, z) Q := RB_iloadn rfl rfl
theorem w10_117 : RB d 10 117 [l0, l1, l2, l3, l4, l5] [.int x] (S, I, R, z) Q = Q (some (.int x)) (S, I, R, z) := RB_iret rfl rfl rfl
/-! 11: HangedWord$State.addAsker -/
theorem w11_0 : RB d 11 0 [.ref a, l1, l2] st (S, I, R, z) Q = RB d 11 1 [.ref a, l1, l2] (.ref a :: st) (S, I, R, z) Q := RB_aloadn rfl rfl
theorem w11_1 : RB d 11 1 [l0, l1, l2] (.ref a :: st) (S, I, R, z) Q = ((S a).1 = 2 ∧ RB d 11 4 [l0, l1, l2] (.int (I a 6) :: st) (S, I, R, z) Q) := RB_getI rfl rfl
theorem w11_4 : RB d 11 4 [l0, l1, l2] st (S, I, R, z) Q = RB d 11 6 [l0, l1, l2] (.int 8 :: st) (S, I, R, z) Q := RB_bipush rfl kb8
theorem w11_6 : RB d 11 6 [l0, l1, l2] (.int y :: .int x :: st) (S, I, R, z) Q = ((x < y → RB d 11 12 [l0, l1, l2] st (S, I, R, z) Q) ∧ (¬ x < y → RB d 11 9 [l0, l1, l2] st (S, I, R, z) Q)) := RB_ilt rfl (by decide) rfl
theorem w11_9 : RB d 11 9 [l0, l1, l2] st (S, I, R, z) Q = RB d 11 11 [l0, l1, l2] (.int (-1000000003) :: st) (S, I, R, z) Q := RB_ldc rfl rfl
theorem w11_11 : RB d 11 11 [l0, l1, l2] [.int x] (S, I, R, z) Q = Q (some (.int x)) (S, I, R, z) := RB_iret rfl rfl rfl
theorem w11_12 : RB d 11 12 [.ref a, l1, l2] st (S, I, R, z) Q = RB d 11 13 [.ref a, l1, l2] (.ref a :: st) (S, I, R, z) Q := RB_aloadn rfl rfl
theorem w11_13 : RB d 11 13 [l0, l1, l2] (.ref a :: st) (S, I, R, z) Q = ((S a).1 = 2 ∧ RB d 11 16 [l0, l1, l2] (va_rf (R a 4) :: st) (S, I, R, z) Q) := RB_getR rfl rfl
theorem w11_16 : RB d 11 16 [.ref a, l1, l2] st (S, I, R, z) Q = RB d 11 17 [.ref a, l1, l2] (.ref a :: st) (S, I, R, z) Q := RB_aloadn rfl rfl
theorem w11_17 : RB d 11 17 [l0, l1, l2] (.ref a :: st) (S, I, R, z) Q = ((S a).1 = 2 ∧ RB d 11 20 [l0, l1, l2] (.int (I a 6) :: st) (S, I, R, z) Q) := RB_getI rfl rfl
theorem w11_20 : RB d 11 20 [l0, .int x, l2] st (S, I, R, z) Q = RB d 11 21 [l0, .int x, l2] (.int x :: st) (S, I, R, z) Q := RB_iloadn rfl rfl
theorem w11_21 : RB d 11 21 [l0, l1, l2] (.int x :: .int i :: .ref a :: st) (S, I, R, z) Q = (((S a).1 = 9 ∧ aIx i (S a).2 ∧ 16 ≤ a) ∧ RB d 11 22 [l0, l1, l2] st (S, aW I a i.toNatClampNeg x, R, z) Q) := RB_iast rfl
theorem w11_22 : RB d 11 22 [.ref a, l1, l2] st (S, I, R, z) Q = RB d 11 23 [.ref a, l1, l2] (.ref a :: st) (S, I, R, z) Q := RB_aloadn rfl rfl
theorem w11_23 : RB d 11 23 [l0, l1, l2] (.ref a :: st) (S, I, R, z) Q = ((S a).1 = 2 ∧ RB d 11 26 [l0, l1, l2] (va_rf (R a 5) :: st) (S, I, R, z) Q) := RB_getR rfl rfl
theorem w11_26 : RB d 11 26 [.ref a, l1, l2] st (S, I, R, z) Q = RB d 11 27 [.ref a, l1, l2] (.ref a :: st) (S, I, R, z) Q := RB_aloadn rfl rfl
theorem w11_27 : RB d 11 27 [l0, l1, l2] (.ref a :: st) (S, I, R, z) Q = ((S a).1 = 2 ∧ RB d 11 30 [l0, l1, l2] (.int (I a 6) :: st) (S, I, R, z) Q) := RB_getI rfl rfl
theorem w11_30 : RB d 11 30 [l0, l1, .int x] st (S, I, R, z) Q = RB d 11 31 [l0, l1, .int x] (.int x :: st) (S, I, R, z) Q := RB_iloadn rfl rfl
theorem w11_31 : RB d 11 31 [l0, l1, l2] (.int x :: .int i :: .ref a :: st) (S, I, R, z) Q = (((S a).1 = 9 ∧ aIx i (S a).2 ∧ 16 ≤ a) ∧ RB d 11 32 [l0, l1, l2] st (S, aW I a i.toNatClampNeg x, R, z) Q) := RB_iast rfl
theorem w11_32 : RB d 11 32 [.ref a, l1, l2] st (S, I, R, z) Q = RB d 11 33 [.ref a, l1, l2] (.ref a :: st) (S, I, R, z) Q := RB_aloadn rfl rfl
theorem w11_33 : RB d 11 33 [l0, l1, l2] (v :: st) (S, I, R, z) Q = RB d 11 34 [l0, l1, l2] (v :: v :: st) (S, I, R, z) Q := RB_dup rfl
theorem w11_34 : RB d 11 34 [l0, l1, l2] (.ref a :: st) (S, I, R, z) Q = ((S a).1 = 2 ∧ RB d 11 37 [l0, l1, l2] (.int (I a 6) :: st) (S, I, R, z) Q) := RB_getI rfl rfl
theorem w11_37 : RB d 11 37 [l0, l1, l2] st (S, I, R, z) Q = RB d 11 38 [l0, l1, l2] (.int 1 :: st) (S, I, R, z) Q := RB_iconst rfl ki1
theorem w11_38 : RB d 11 38 [l0, l1, l2] (.int y :: .int x :: st) (S, I, R, z) Q = RB d 11 39 [l0, l1, l2] (.int (x + y) :: st) (S, I, R, z) Q := RB_iadd rfl
theorem w11_39 : RB d 11 39 [l0, l1, l2] (.int x :: .ref a :: st) (S, I, R, z) Q = (((S a).1 = 2 ∧ 2 < 8 ∧ 16 ≤ a) ∧ RB d 11 42 [l0, l1, l2] st (S, aW I a 6 x, R, z) Q) := RB_putI rfl rfl (Or.inl rfl)
theorem w11_42 : RB d 11 42 [.ref a, l1, l2] st (S, I, R, z) Q = RB d 11 43 [.ref a, l1, l2] (.ref a :: st) (S, I, R, z) Q := RB_aloadn rfl rfl
theorem w11_43 : RB d 11 43 [l0, l1, l2] (.ref a :: st) (S, I, R, z) Q = ((S a).1 = 2 ∧ RB d 11 46 [l0, l1, l2] (.int (I a 6) :: st) (S, I, R, z) Q) := RB_getI rfl rfl
theorem w11_46 : RB d 11 46 [l0, l1, l2] st (S, I, R, z) Q = RB d 11 47 [l0, l1, l2] (.int 1 :: st) (S, I, R, z) Q := RB_iconst rfl ki1
theorem w11_47 : RB d 11 47 [l0, l1, l2] (.int y :: .int x :: st) (S, I, R, z) Q = RB d 11 48 [l0, l1, l2] (.int (x - y) :: st) (S, I, R, z) Q := RB_isub rfl
theorem w11_48 : RB d 11 48 [l0, l1, l2] [.int x] (S, I, R, z) Q = Q (some (.int x)) (S, I, R, z) := RB_iret rfl rfl rfl
/-! 12: HangedWord$State.addText -/
theorem w12_0 : RB d 12 0 [.ref a, l1] st (S, I, R, z) Q = RB d 12 1 [.ref a, l1] (.ref a :: st) (S, I, R, z) Q := RB_aloadn rfl rfl
theorem w12_1 : RB d 12 1 [l0, l1] (.ref a :: st) (S, I, R, z) Q = ((S a).1 = 2 ∧ RB d 12 4 [l0, l1] (.int (I a 13) :: st) (S, I, R, z) Q) := RB_getI rfl rfl
theorem w12_4 : RB d 12 4 [l0, l1] st (S, I, R, z) Q = RB d 12 6 [l0, l1] (.int 14 :: st) (S, I, R, z) Q := RB_bipush rfl kb14
theorem w12_6 : RB d 12 6 [l0, l1] (.int y :: .int x :: st) (S, I, R, z) Q = ((x < y → RB d 12 12 [l0, l1] st (S, I, R, z) Q) ∧ (¬ x < y → RB d 12 9 [l0, l1] st (S, I, R, z) Q)) := RB_ilt rfl (by decide) rfl
theorem w12_9 : RB d 12 9 [l0, l1] st (S, I, R, z) Q = RB d 12 11 [l0, l1] (.int (-1000000003) :: st) (S, I, R, z) Q := RB_ldc rfl rfl
theorem w12_11 : RB d 12 11 [l0, l1] [.int x] (S, I, R, z) Q = Q (some (.int x)) (S, I, R, z) := RB_iret rfl rfl rfl
theorem w12_12 : RB d 12 12 [.ref a, l1] st (S, I, R, z) Q = RB d 12 13 [.ref a, l1] (.ref a :: st) (S, I, R, z) Q := RB_aloadn rfl rfl
theorem w12_13 : RB d 12 13 [l0, l1] (.ref a :: st) (S, I, R, z) Q = ((S a).1 = 2 ∧ RB d 12 16 [l0, l1] (va_rf (R a 12) :: st) (S, I, R, z) Q) := RB_getR rfl rfl
theorem w12_16 : RB d 12 16 [.ref a, l1] st (S, I, R, z) Q = RB d 12 17 [.ref a, l1] (.ref a :: st) (S, I, R, z) Q := RB_aloadn rfl rfl
theorem w12_17 : RB d 12 17 [l0, l1] (.ref a :: st) (S, I, R, z) Q = ((S a).1 = 2 ∧ RB d 12 20 [l0, l1] (.int (I a 13) :: st) (S, I, R, z) Q) := RB_getI rfl rfl
theorem w12_20 : RB d 12 20 [l0, .ref a] st (S, I, R, z) Q = RB d 12 21 [l0, .ref a] (.ref a :: st) (S, I, R, z) Q := RB_aloadn rfl rfl
theorem w12_20N : RB d 12 20 [l0, .null] st (S, I, R, z) Q = RB d 12 21 [l0, .null] (.null :: st) (S, I, R, z) Q := RB_aloadnN rfl rfl
theorem w12_21 : RB d 12 21 [l0, l1] (.ref b :: .int i :: .ref a :: st) (S, I, R, z) Q = (((11 ≤ (S a).1 ∧ (S a).1 ≤ 13) ∧ aIx i (S a).2 ∧ (S b).1 = aOfK (S a).1) ∧ RB d 12 22 [l0, l1] st (S, I, aR R a i.toNatClampNeg (some b), z) Q) := RB_aast rfl
theorem w12_21N : RB d 12 21 [l0, l1] (.null :: .int i :: .ref a :: st) (S, I, R, z) Q = (((11 ≤ (S a).1 ∧ (S a).1 ≤ 13) ∧ aIx i (S a).2) ∧ RB d 12 22 [l0, l1] st (S, I, aR R a i.toNatClampNeg none, z) Q) := RB_aastN rfl
theorem w12_22 : RB d 12 22 [.ref a, l1] st (S, I, R, z) Q = RB d 12 23 [.ref a, l1] (.ref a :: st) (S, I, R, z) Q := RB_aloadn rfl rfl
theorem w12_23 : RB d 12 23 [l0, l1] (.ref a :: st) (S, I, R, z) Q = ((S a).1 = 2 ∧ RB d 12 26 [l0, l1] (va_rf (R a 14) :: st) (S, I, R, z) Q) := RB_getR rfl rfl
theorem w12_26 : RB d 12 26 [l0, .ref a] st (S, I, R, z) Q = RB d 12 27 [l0, .ref a] (.ref a :: st) (S, I, R, z) Q := RB_aloadn rfl rfl
theorem w12_26N : RB d 12 26 [l0, .null] st (S, I, R, z) Q = RB d 12 27 [l0, .null] (.null :: st) (S, I, R, z) Q := RB_aloadnN rfl rfl
theorem w12_27 : RB d 12 27 [l0, l1] (.ref a :: st) (S, I, R, z) Q = ((S a).1 = 4 ∧ RB d 12 30 [l0, l1] (.int (I a 0) :: st) (S, I, R, z) Q) := RB_getI rfl rfl
theorem w12_30 : RB d 12 30 [.ref a, l1] st (S, I, R, z) Q = RB d 12 31 [.ref a, l1] (.ref a :: st) (S, I, R, z) Q := RB_aloadn rfl rfl
theorem w12_31 : RB d 12 31 [l0, l1] (.ref a :: st) (S, I, R, z) Q = ((S a).1 = 2 ∧ RB d 12 34 [l0, l1] (.int (I a 13) :: st) (S, I, R, z) Q) := RB_getI rfl rfl
theorem w12_34 : RB d 12 34 [l0, l1] (.int x :: .int i :: .ref a :: st) (S, I, R, z) Q = (((S a).1 = 9 ∧ aIx i (S a).2 ∧ 16 ≤ a) ∧ RB d 12 35 [l0, l1] st (S, aW I a i.toNatClampNeg x, R, z) Q) := RB_iast rfl
theorem w12_35 : RB d 12 35 [.ref a, l1] st (S, I, R, z) Q = RB d 12 36 [.ref a, l1] (.ref a :: st) (S, I, R, z) Q := RB_aloadn rfl rfl
theorem w12_36 : RB d 12 36 [l0, l1] (v :: st) (S, I, R, z) Q = RB d 12 37 [l0, l1] (v :: v :: st) (S, I, R, z) Q := RB_dup rfl
theorem w12_37 : RB d 12 37 [l0, l1] (.ref a :: st) (S, I, R, z) Q = ((S a).1 = 2 ∧ RB d 12 40 [l0, l1] (.int (I a 13) :: st) (S, I, R, z) Q) := RB_getI rfl rfl
theorem w12_40 : RB d 12 40 [l0, l1] st (S, I, R, z) Q = RB d 12 41 [l0, l1] (.int 1 :: st) (S, I, R, z) Q := RB_iconst rfl ki1
theorem w12_41 : RB d 12 41 [l0, l1] (.int y :: .int x :: st) (S, I, R, z) Q = RB d 12 42 [l0, l1] (.int (x + y) :: st) (S, I, R, z) Q := RB_iadd rfl
theorem w12_42 : RB d 12 42 [l0, l1] (.int x :: .ref a :: st) (S, I, R, z) Q = (((S a).1 = 2 ∧ 2 < 8 ∧ 16 ≤ a) ∧ RB d 12 45 [l0, l1] st (S, aW I a 13 x, R, z) Q) := RB_putI rfl rfl (Or.inl rfl)
theorem w12_45 : RB d 12 45 [.ref a, l1] st (S, I, R, z) Q = RB d 12 46 [.ref a, l1] (.ref a :: st) (S, I, R, z) Q := RB_aloadn rfl rfl
theorem w12_46 : RB d 12 46 [l0, l1] (.ref a :: st) (S, I, R, z) Q = ((S a).1 = 2 ∧ RB d 12 49 [l0, l1] (.int (I a 13) :: st) (S, I, R, z) Q) := RB_getI rfl rfl
theorem w12_49 : RB d 12 49 [l0, l1] st (S, I, R, z) Q = RB d 12 50 [l0, l1] (.int 1 :: st) (S, I, R, z) Q := RB_iconst rfl ki1
theorem w12_50 : RB d 12 50 [l0, l1] (.int y :: .int x :: st) (S, I, R, z) Q = RB d 12 51 [l0, l1] (.int (x - y) :: st) (S, I, R, z) Q := RB_isub rfl
theorem w12_51 : RB d 12 51 [l0, l1] [.int x] (S, I, R, z) Q = Q (some (.int x)) (S, I, R, z) := RB_iret rfl rfl rfl
/-! 13: HangedWord$State.draws -/
theorem w13_0 : RB d 13 0 [.ref a] st (S, I, R, z) Q = RB d 13 1 [.ref a] (.ref a :: st) (S, I, R, z) Q := RB_aloadn rfl rfl
theorem w13_1 : RB d 13 1 [.ref a] st (S, I, R, z) Q = RB d 13 2 [.ref a] (.ref a :: st) (S, I, R, z) Q := RB_aloadn rfl rfl
theorem w13_2 : RB d 13 2 [l0] (.ref a :: st) (S, I, R, z) Q = ((S a).1 = 2 ∧ RB d 13 5 [l0] (.int (I a 11) :: st) (S, I, R, z) Q) := RB_getI rfl rfl
theorem w13_5 : RB d 13 5 [l0] st (S, I, R, z) Q = RB d 13 7 [l0] (.int 1103515245 :: st) (S, I, R, z) Q := RB_ldc rfl rfl
theorem w13_7 : RB d 13 7 [l0] (.int y :: .int x :: st) (S, I, R, z) Q = RB d 13 8 [l0] (.int (x * y) :: st) (S, I, R, z) Q := RB_imul rfl
theorem w13_8 : RB d 13 8 [l0] st (S, I, R, z) Q = RB d 13 11 [l0] (.int 12345 :: st) (S, I, R, z) Q := RB_sipush rfl ks12345
theorem w13_11 : RB d 13 11 [l0] (.int y :: .int x :: st) (S, I, R, z) Q = RB d 13 12 [l0] (.int (x + y) :: st) (S, I, R, z) Q := RB_iadd rfl
theorem w13_12 : RB d 13 12 [l0] (.int x :: .ref a :: st) (S, I, R, z) Q = (((S a).1 = 2 ∧ 2 < 8 ∧ 16 ≤ a) ∧ RB d 13 15 [l0] st (S, aW I a 11 x, R, z) Q) := RB_putI rfl rfl (Or.inl rfl)
theorem w13_15 : RB d 13 15 [.ref a] st (S, I, R, z) Q = RB d 13 16 [.ref a] (.ref a :: st) (S, I, R, z) Q := RB_aloadn rfl rfl
theorem w13_16 : RB d 13 16 [l0] (.ref a :: st) (S, I, R, z) Q = ((S a).1 = 2 ∧ RB d 13 19 [l0] (.int (I a 11) :: st) (S, I, R, z) Q) := RB_getI rfl rfl
theorem w13_19 : RB d 13 19 [l0] st (S, I, R, z) Q = RB d 13 21 [l0] (.int 8 :: st) (S, I, R, z) Q := RB_bipush rfl kb8
theorem w13_21 : RB d 13 21 [l0] (.int y :: .int x :: st) (S, I, R, z) Q = RB d 13 22 [l0] (.int ((x.toUInt32 >>> (y.toUInt32 &&& Int32.toUInt32 31)).toInt32) :: st) (S, I, R, z) Q := RB_iushr rfl
theorem w13_22 : RB d 13 22 [l0] [.int x] (S, I, R, z) Q = Q (some (.int x)) (S, I, R, z) := RB_iret rfl rfl rfl
/-! 14: HangedWord$State.placesOf -/
theorem w14_0 : RB d 14 0 [l0, .int x, l2, l3] st (S, I, R, z) Q = RB d 14 1 [l0, .int x, l2, l3] (.int x :: st) (S, I, R, z) Q := RB_iloadn rfl rfl
theorem w14_1 : RB d 14 1 [l0, l1, l2, l3] st (S, I, R, z) Q = RB d 14 3 [l0, l1, l2, l3] (.int 6 :: st) (S, I, R, z) Q := RB_bipush rfl kb6
theorem w14_3 : RB d 14 3 [l0, l1, l2, l3] (.int y :: .int x :: st) (S, I, R, z) Q = RB d 14 4 [l0, l1, l2, l3] (.int (x * y) :: st) (S, I, R, z) Q := RB_imul rfl
theorem w14_4 : RB d 14 4 [l0, l1, .int x, l3] st (S, I, R, z) Q = RB d 14 5 [l0, l1, .int x, l3] (.int x :: st) (S, I, R, z) Q := RB_iloadn rfl rfl
theorem w14_5 : RB d 14 5 [l0, l1, l2, l3] (.int y :: .int x :: st) (S, I, R, z) Q = RB d 14 6 [l0, l1, l2, l3] (.int (x + y) :: st) (S, I, R, z) Q := RB_iadd rfl
theorem w14_6 : RB d 14 6 [l0, l1, l2, l3] (.int x :: st) (S, I, R, z) Q = RB d 14 7 [l0, l1, l2, .int x] st (S, I, R, z) Q := RB_istoren rfl (Nat.le_of_ble_eq_true rfl) rfl
theorem w14_7 : RB d 14 7 [l0, l1, l2, .int x] st (S, I, R, z) Q = RB d 14 8 [l0, l1, l2, .int x] (.int x :: st) (S, I, R, z) Q := RB_iloadn rfl rfl
theorem w14_8 : RB d 14 8 [l0, l1, l2, l3] (.int x :: st) (S, I, R, z) Q = ((x < 0 → RB d 14 29 [l0, l1, l2, l3] st (S, I, R, z) Q) ∧ (¬ x < 0 → RB d 14 11 [l0, l1, l2, l3] st (S, I, R, z) Q)) := RB_lt0 rfl (by decide) rfl
theorem w14_11 : RB d 14 11 [l0, l1, l2, .int x] st (S, I, R, z) Q = RB d 14 12 [l0, l1, l2, .int x] (.int x :: st) (S, I, R, z) Q := RB_iloadn rfl rfl
theorem w14_12 : RB d 14 12 [.ref a, l1, l2, l3] st (S, I, R, z) Q = RB d 14 13 [.ref a, l1, l2, l3] (.ref a :: st) (S, I, R, z) Q := RB_aloadn rfl rfl
theorem w14_13 : RB d 14 13 [l0, l1, l2, l3] (.ref a :: st) (S, I, R, z) Q = ((S a).1 = 2 ∧ RB d 14 16 [l0, l1, l2, l3] (va_rf (R a 2) :: st) (S, I, R, z) Q) := RB_getR rfl rfl
theorem w14_16 : RB d 14 16 [l0, l1, l2, l3] (.ref a :: st) (S, I, R, z) Q = (((8 ≤ (S a).1 ∧ (S a).1 ≤ 13) ∨ (S a).1 = 15) ∧ RB d 14 17 [l0, l1, l2, l3] (.int (Int32.ofNat (S a).2) :: st) (S, I, R, z) Q) := RB_alen rfl
theorem w14_17 : RB d 14 17 [l0, l1, l2, l3] (.int y :: .int x :: st) (S, I, R, z) Q = ((y ≤ x → RB d 14 29 [l0, l1, l2, l3] st (S, I, R, z) Q) ∧ (¬ y ≤ x → RB d 14 20 [l0, l1, l2, l3] st (S, I, R, z) Q)) := RB_ige rfl (by decide) rfl
theorem w14_20 : RB d 14 20 [.ref a, l1, l2, l3] st (S, I, R, z) Q = RB d 14 21 [.ref a, l1, l2, l3] (.ref a :: st) (S, I, R, z) Q := RB_aloadn rfl rfl
theorem w14_21 : RB d 14 21 [l0, l1, l2, l3] (.ref a :: st) (S, I, R, z) Q = ((S a).1 = 2 ∧ RB d 14 24 [l0, l1, l2, l3] (va_rf (R a 2) :: st) (S, I, R, z) Q) := RB_getR rfl rfl
theorem w14_24 : RB d 14 24 [l0, l1, l2, .int x] st (S, I, R, z) Q = RB d 14 25 [l0, l1, l2, .int x] (.int x :: st) (S, I, R, z) Q := RB_iloadn rfl rfl
theorem w14_25 : RB d 14 25 [l0, l1, l2, l3] (.int i :: .ref a :: st) (S, I, R, z) Q = (((S a).1 = 9 ∧ aIx i (S a).2) ∧ RB d 14 26 [l0, l1, l2, l3] (.int (I a i.toNatClampNeg) :: st) (S, I, R, z) Q) := RB_iald rfl
theorem w14_26 : RB d 14 26 [l0, l1, l2, l3] st (S, I, R, z) Q = RB d 14 30 [l0, l1, l2, l3] st (S, I, R, z) Q := RB_goto rfl (by decide) rfl
theorem w14_29 : RB d 14 29 [l0, l1, l2, l3] st (S, I, R, z) Q = RB d 14 30 [l0, l1, l2, l3] (.int 0 :: st) (S, I, R, z) Q := RB_iconst rfl ki0
theorem w14_30 : RB d 14 30 [l0, l1, l2, l3] [.int x] (S, I, R, z) Q = Q (some (.int x)) (S, I, R, z) := RB_iret rfl rfl rfl
/-! 15: HangedWord$State.lettersOf -/
theorem w15_0 : RB d 15 0 [l0, l1, l2, l3] st (S, I, R, z) Q = RB d 15 1 [l0, l1, l2, l3] (.int 0 :: st) (S, I, R, z) Q := RB_iconst rfl ki0
theorem w15_1 : RB d 15 1 [l0, l1, l2, l3] (.int x :: st) (S, I, R, z) Q = RB d 15 2 [l0, l1, .int x, l3] st (S, I, R, z) Q := RB_istoren rfl (Nat.le_of_ble_eq_true rfl) rfl
theorem w15_2 : RB d 15 2 [l0, l1, l2, l3] st (S, I, R, z) Q = RB d 15 3 [l0, l1, l2, l3] (.int 0 :: st) (S, I, R, z) Q := RB_iconst rfl ki0
theorem w15_3 : RB d 15 3 [l0, l1, l2, l3] (.int x :: st) (S, I, R, z) Q = RB d 15 4 [l0, l1, l2, .int x] st (S, I, R, z) Q := RB_istoren rfl (Nat.le_of_ble_eq_true rfl) rfl
theorem w15_4 : RB d 15 4 [l0, l1, l2, .int x] st (S, I, R, z) Q = RB d 15 5 [l0, l1, l2, .int x] (.int x :: st) (S, I, R, z) Q := RB_iloadn rfl rfl
theorem w15_5 : RB d 15 5 [l0, l1, l2, l3] st (S, I, R, z) Q = RB d 15 7 [l0, l1, l2, l3] (.int 6 :: st) (S, I, R, z) Q := RB_bipush rfl kb6
theorem w15_7 : RB d 15 7 [l0, l1, l2, l3] (.int y :: .int x :: st) (S, I, R, z) Q = ((y ≤ x → RB d 15 35 [l0, l1, l2, l3] st (S, I, R, z) Q) ∧ (¬ y ≤ x → RB d 15 10 [l0, l1, l2, l3] st (S, I, R, z) Q)) := RB_ige rfl (by decide) rfl
theorem w15_10 : RB d 15 10 [l0, l1, .int x, l3] st (S, I, R, z) Q = RB d 15 11 [l0, l1, .int x, l3] (.int x :: st) (S, I, R, z) Q := RB_iloadn rfl rfl
theorem w15_11 : RB d 15 11 [.ref a, l1, l2, l3] st (S, I, R, z) Q = RB d 15 12 [.ref a, l1, l2, l3] (.ref a :: st) (S, I, R, z) Q := RB_aloadn rfl rfl
theorem w15_12 : RB d 15 12 [l0, .int x, l2, l3] st (S, I, R, z) Q = RB d 15 13 [l0, .int x, l2, l3] (.int x :: st) (S, I, R, z) Q := RB_iloadn rfl rfl
theorem w15_13 : RB d 15 13 [l0, l1, l2, .int x] st (S, I, R, z) Q = RB d 15 14 [l0, l1, l2, .int x] (.int x :: st) (S, I, R, z) Q := RB_iloadn rfl rfl
theorem w15_14 : RB d 15 14 [l0, l1, l2, l3] [.int x1, .int x0, .ref a, s0] (S, I, R, z) Q = ((S a).1 = 2 ∧ RM d 14 [.ref a, .int x0, .int x1] (S, I, R, z) (fun v τ => RB d 15 17 [l0, l1, l2, l3] (aPush v [s0]) τ Q)) := RB_callV (n := 3) (t := 0) (k := 81) (ins := .invokevirtual 81) rfl rfl rfl (by decide) (Nat.le_of_ble_eq_true rfl) (Nat.le_of_ble_eq_true rfl) rfl rfl
theorem w15_17 : RB d 15 17 [l0, l1, l2, l3] (.int x :: st) (S, I, R, z) Q = ((x = 0 → RB d 15 26 [l0, l1, l2, l3] st (S, I, R, z) Q) ∧ (¬ x = 0 → RB d 15 20 [l0, l1, l2, l3] st (S, I, R, z) Q)) := RB_eq0 rfl (by decide) rfl
theorem w15_20 : RB d 15 20 [l0, l1, l2, l3] st (S, I, R, z) Q = RB d 15 21 [l0, l1, l2, l3] (.int 1 :: st) (S, I, R, z) Q := RB_iconst rfl ki1
theorem w15_21 : RB d 15 21 [l0, l1, l2, .int x] st (S, I, R, z) Q = RB d 15 22 [l0, l1, l2, .int x] (.int x :: st) (S, I, R, z) Q := RB_iloadn rfl rfl
theorem w15_22 : RB d 15 22 [l0, l1, l2, l3] (.int y :: .int x :: st) (S, I, R, z) Q = RB d 15 23 [l0, l1, l2, l3] (.int (x <<< (y &&& 31)) :: st) (S, I, R, z) Q := RB_ishl rfl
theorem w15_23 : RB d 15 23 [l0, l1, l2, l3] st (S, I, R, z) Q = RB d 15 27 [l0, l1, l2, l3] st (S, I, R, z) Q := RB_goto rfl (by decide) rfl
theorem w15_26 : RB d 15 26 [l0, l1, l2, l3] st (S, I, R, z) Q = RB d 15 27 [l0, l1, l2, l3] (.int 0 :: st) (S, I, R, z) Q := RB_iconst rfl ki0
theorem w15_27 : RB d 15 27 [l0, l1, l2, l3] (.int y :: .int x :: st) (S, I, R, z) Q = RB d 15 28 [l0, l1, l2, l3] (.int (x ||| y) :: st) (S, I, R, z) Q := RB_ior rfl
theorem w15_28 : RB d 15 28 [l0, l1, l2, l3] (.int x :: st) (S, I, R, z) Q = RB d 15 29 [l0, l1, .int x, l3] st (S, I, R, z) Q := RB_istoren rfl (Nat.le_of_ble_eq_true rfl) rfl
theorem w15_29 : RB d 15 29 [l0, l1, l2, .int x] st (S, I, R, z) Q = RB d 15 32 [l0, l1, l2, .int (x + 1)] st (S, I, R, z) Q := RB_iinc rfl rfl (Nat.le_of_ble_eq_true rfl) ki1 rfl
theorem w15_32 : RB d 15 32 [l0, l1, l2, l3] st (S, I, R, z) Q = RB d 15 4 [l0, l1, l2, l3] st (S, I, R, z) Q := RB_goto rfl (by decide) rfl
theorem w15_35 : RB d 15 35 [l0, l1, .int x, l3] st (S, I, R, z) Q = RB d 15 36 [l0, l1, .int x, l3] (.int x :: st) (S, I, R, z) Q := RB_iloadn rfl rfl
theorem w15_36 : RB d 15 36 [l0, l1, l2, l3] [.int x] (S, I, R, z) Q = Q (some (.int x)) (S, I, R, z) := RB_iret rfl rfl rfl
/-! 16: HangedWord$State.allWords -/
theorem w16_0 : RB d 16 0 [l0] st (S, I, R, z) Q = RB d 16 1 [l0] (.int 1 :: st) (S, I, R, z) Q := RB_iconst rfl ki1
theorem w16_1 : RB d 16 1 [.ref a] st (S, I, R, z) Q = RB d 16 2 [.ref a] (.ref a :: st) (S, I, R, z) Q := RB_aloadn rfl rfl
theorem w16_2 : RB d 16 2 [l0] (.ref a :: st) (S, I, R, z) Q = ((S a).1 = 2 ∧ RB d 16 5 [l0] (.int (I a 3) :: st) (S, I, R, z) Q) := RB_getI rfl rfl
theorem w16_5 : RB d 16 5 [l0] (.int y :: .int x :: st) (S, I, R, z) Q = RB d 16 6 [l0] (.int (x <<< (y &&& 31)) :: st) (S, I, R, z) Q := RB_ishl rfl
theorem w16_6 : RB d 16 6 [l0] st (S, I, R, z) Q = RB d 16 7 [l0] (.int 1 :: st) (S, I, R, z) Q := RB_iconst rfl ki1
theorem w16_7 : RB d 16 7 [l0] (.int y :: .int x :: st) (S, I, R, z) Q = RB d 16 8 [l0] (.int (x - y) :: st) (S, I, R, z) Q := RB_isub rfl
theorem w16_8 : RB d 16 8 [l0] [.int x] (S, I, R, z) Q = Q (some (.int x)) (S, I, R, z) := RB_iret rfl rfl rfl
/-! 17: HangedWord$State.weightOf -/
theorem w17_0 : RB d 17 0 [l0, l1, l2, l3] st (S, I, R, z) Q = RB d 17 1 [l0, l1, l2, l3] (.int 0 :: st) (S, I, R, z) Q := RB_iconst rfl ki0
theorem w17_1 : RB d 17 1 [l0, l1, l2, l3] (.int x :: st) (S, I, R, z) Q = RB d 17 2 [l0, l1, .int x, l3] st (S, I, R, z) Q := RB_istoren rfl (Nat.le_of_ble_eq_true rfl) rfl
theorem w17_2 : RB d 17 2 [l0, l1, l2, l3] st (S, I, R, z) Q = RB d 17 3 [l0, l1, l2, l3] (.int 0 :: st) (S, I, R, z) Q := RB_iconst rfl ki0
theorem w17_3 : RB d 17 3 [l0, l1, l2, l3] (.int x :: st) (S, I, R, z) Q = RB d 17 4 [l0, l1, l2, .int x] st (S, I, R, z) Q := RB_istoren rfl (Nat.le_of_ble_eq_true rfl) rfl
theorem w17_4 : RB d 17 4 [l0, l1, l2, .int x] st (S, I, R, z) Q = RB d 17 5 [l0, l1, l2, .int x] (.int x :: st) (S, I, R, z) Q := RB_iloadn rfl rfl
theorem w17_5 : RB d 17 5 [.ref a, l1, l2, l3] st (S, I, R, z) Q = RB d 17 6 [.ref a, l1, l2, l3] (.ref a :: st) (S, I, R, z) Q := RB_aloadn rfl rfl
theorem w17_6 : RB d 17 6 [l0, l1, l2, l3] (.ref a :: st) (S, I, R, z) Q = ((S a).1 = 2 ∧ RB d 17 9 [l0, l1, l2, l3] (.int (I a 3) :: st) (S, I, R, z) Q) := RB_getI rfl rfl
theorem w17_9 : RB d 17 9 [l0, l1, l2, l3] (.int y :: .int x :: st) (S, I, R, z) Q = ((y ≤ x → RB d 17 39 [l0, l1, l2, l3] st (S, I, R, z) Q) ∧ (¬ y ≤ x → RB d 17 12 [l0, l1, l2, l3] st (S, I, R, z) Q)) := RB_ige rfl (by decide) rfl
theorem w17_12 : RB d 17 12 [l0, l1, .int x, l3] st (S, I, R, z) Q = RB d 17 13 [l0, l1, .int x, l3] (.int x :: st) (S, I, R, z) Q := RB_iloadn rfl rfl
theorem w17_13 : RB d 17 13 [l0, .int x, l2, l3] st (S, I, R, z) Q = RB d 17 14 [l0, .int x, l2, l3] (.int x :: st) (S, I, R, z) Q := RB_iloadn rfl rfl
theorem w17_14 : RB d 17 14 [l0, l1, l2, .int x] st (S, I, R, z) Q = RB d 17 15 [l0, l1, l2, .int x] (.int x :: st) (S, I, R, z) Q := RB_iloadn rfl rfl
theorem w17_15 : RB d 17 15 [l0, l1, l2, l3] [.int x1, .int x0, s0] (S, I, R, z) Q = RM d 129 [.int x0, .int x1] (S, I, R, z) (fun v τ => RB d 17 18 [l0, l1, l2, l3] (aPush v [s0]) τ Q) := RB_callS (n := 2) (t := 1) (k := 85) (ins := .invokestatic 85) rfl rfl rfl (Nat.le_of_ble_eq_true rfl) (Nat.le_of_ble_eq_true rfl) rfl rfl
theorem w17_18 : RB d 17 18 [l0, l1, l2, l3] (.int x :: st) (S, I, R, z) Q = ((x = 0 → RB d 17 30 [l0, l1, l2, l3] st (S, I, R, z) Q) ∧ (¬ x = 0 → RB d 17 21 [l0, l1, l2, l3] st (S, I, R, z) Q)) := RB_eq0 rfl (by decide) rfl
theorem w17_21 : RB d 17 21 [.ref a, l1, l2, l3] st (S, I, R, z) Q = RB d 17 22 [.ref a, l1, l2, l3] (.ref a :: st) (S, I, R, z) Q := RB_aloadn rfl rfl
theorem w17_22 : RB d 17 22 [l0, l1, l2, l3] (.ref a :: st) (S, I, R, z) Q = ((S a).1 = 2 ∧ RB d 17 25 [l0, l1, l2, l3] (va_rf (R a 1) :: st) (S, I, R, z) Q) := RB_getR rfl rfl
theorem w17_25 : RB d 17 25 [l0, l1, l2, .int x] st (S, I, R, z) Q = RB d 17 26 [l0, l1, l2, .int x] (.int x :: st) (S, I, R, z) Q := RB_iloadn rfl rfl
theorem w17_26 : RB d 17 26 [l0, l1, l2, l3] (.int i :: .ref a :: st) (S, I, R, z) Q = (((S a).1 = 9 ∧ aIx i (S a).2) ∧ RB d 17 27 [l0, l1, l2, l3] (.int (I a i.toNatClampNeg) :: st) (S, I, R, z) Q) := RB_iald rfl
theorem w17_27 : RB d 17 27 [l0, l1, l2, l3] st (S, I, R, z) Q = RB d 17 31 [l0, l1, l2, l3] st (S, I, R, z) Q := RB_goto rfl (by decide) rfl
theorem w17_30 : RB d 17 30 [l0, l1, l2, l3] st (S, I, R, z) Q = RB d 17 31 [l0, l1, l2, l3] (.int 0 :: st) (S, I, R, z) Q := RB_iconst rfl ki0
theorem w17_31 : RB d 17 31 [l0, l1, l2, l3] (.int y :: .int x :: st) (S, I, R, z) Q = RB d 17 32 [l0, l1, l2, l3] (.int (x + y) :: st) (S, I, R, z) Q := RB_iadd rfl
theorem w17_32 : RB d 17 32 [l0, l1, l2, l3] (.int x :: st) (S, I, R, z) Q = RB d 17 33 [l0, l1, .int x, l3] st (S, I, R, z) Q := RB_istoren rfl (Nat.le_of_ble_eq_true rfl) rfl
theorem w17_33 : RB d 17 33 [l0, l1, l2, .int x] st (S, I, R, z) Q = RB d 17 36 [l0, l1, l2, .int (x + 1)] st (S, I, R, z) Q := RB_iinc rfl rfl (Nat.le_of_ble_eq_true rfl) ki1 rfl
theorem w17_36 : RB d 17 36 [l0, l1, l2, l3] st (S, I, R, z) Q = RB d 17 4 [l0, l1, l2, l3] st (S, I, R, z) Q := RB_goto rfl (by decide) rfl
theorem w17_39 : RB d 17 39 [l0, l1, .int x, l3] st (S, I, R, z) Q = RB d 17 40 [l0, l1, .int x, l3] (.int x :: st) (S, I, R, z) Q := RB_iloadn rfl rfl
theorem w17_40 : RB d 17 40 [l0, l1, l2, l3] [.int x] (S, I, R, z) Q = Q (some (.int x)) (S, I, R, z) := RB_iret rfl rfl rfl
/-! 18: HangedWord$State.having -/
theorem w18_0 : RB d 18 0 [l0, l1, l2, l3, l4] st (S, I, R, z) Q = RB d 18 1 [l0, l1, l2, l3, l4] (.int 0 :: st) (S, I, R, z) Q := RB_iconst rfl ki0
theorem w18_1 : RB d 18 1 [l0, l1, l2, l3, l4] (.int x :: st) (S, I, R, z) Q = RB d 18 2 [l0, l1, l2, .int x, l4] st (S, I, R, z) Q := RB_istoren rfl (Nat.le_of_ble_eq_true rfl) rfl
theorem w18_2 : RB d 18 2 [l0, l1, l2, l3, l4] st (S, I, R, z) Q = RB d 18 3 [l0, l1, l2, l3, l4] (.int 0 :: st) (S, I, R, z) Q := RB_iconst rfl ki0
theorem w18_3 : RB d 18 3 [l0, l1, l2, l3, l4] (.int x :: st) (S, I, R, z) Q = RB d 18 5 [l0, l1, l2, l3, .int x] st (S, I, R, z) Q := RB_istore rfl (Nat.le_of_ble_eq_true rfl) rfl
theorem w18_5 : RB d 18 5 [l0, l1, l2, l3, .int x] st (S, I, R, z) Q = RB d 18 7 [l0, l1, l2, l3, .int x] (.int x :: st) (S, I, R, z) Q := RB_iload rfl rfl
theorem w18_7 : RB d 18 7 [.ref a, l1, l2, l3, l4] st (S, I, R, z) Q = RB d 18 8 [.ref a, l1, l2, l3, l4] (.ref a :: st) (S, I, R, z) Q := RB_aloadn rfl rfl
theorem w18_8 : RB d 18 8 [l0, l1, l2, l3, l4] (.ref a :: st) (S, I, R, z) Q = ((S a).1 = 2 ∧ RB d 18 11 [l0, l1, l2, l3, l4] (.int (I a 3) :: st) (S, I, R, z) Q) := RB_getI rfl rfl
theorem w18_11 : RB d 18 11 [l0, l1, l2, l3, l4] (.int y :: .int x :: st) (S, I, R, z) Q = ((y ≤ x → RB d 18 50 [l0, l1, l2, l3, l4] st (S, I, R, z) Q) ∧ (¬ y ≤ x → RB d 18 14 [l0, l1, l2, l3, l4] st (S, I, R, z) Q)) := RB_ige rfl (by decide) rfl
theorem w18_14 : RB d 18 14 [l0, l1, l2, .int x, l4] st (S, I, R, z) Q = RB d 18 15 [l0, l1, l2, .int x, l4] (.int x :: st) (S, I, R, z) Q := RB_iloadn rfl rfl
theorem w18_15 : RB d 18 15 [l0, l1, .int x, l3, l4] st (S, I, R, z) Q = RB d 18 16 [l0, l1, .int x, l3, l4] (.int x :: st) (S, I, R, z) Q := RB_iloadn rfl rfl
theorem w18_16 : RB d 18 16 [l0, l1, l2, l3, .int x] st (S, I, R, z) Q = RB d 18 18 [l0, l1, l2, l3, .int x] (.int x :: st) (S, I, R, z) Q := RB_iload rfl rfl
theorem w18_18 : RB d 18 18 [l0, l1, l2, l3, l4] [.int x1, .int x0, s0] (S, I, R, z) Q = RM d 129 [.int x0, .int x1] (S, I, R, z) (fun v τ => RB d 18 21 [l0, l1, l2, l3, l4] (aPush v [s0]) τ Q) := RB_callS (n := 2) (t := 1) (k := 85) (ins := .invokestatic 85) rfl rfl rfl (Nat.le_of_ble_eq_true rfl) (Nat.le_of_ble_eq_true rfl) rfl rfl
theorem w18_21 : RB d 18 21 [l0, l1, l2, l3, l4] (.int x :: st) (S, I, R, z) Q = ((x = 0 → RB d 18 41 [l0, l1, l2, l3, l4] st (S, I, R, z) Q) ∧ (¬ x = 0 → RB d 18 24 [l0, l1, l2, l3, l4] st (S, I, R, z) Q)) := RB_eq0 rfl (by decide) rfl
theorem w18_24 : RB d 18 24 [.ref a, l1, l2, l3, l4] st (S, I, R, z) Q = RB d 18 25 [.ref a, l1, l2, l3, l4] (.ref a :: st) (S, I, R, z) Q := RB_aloadn rfl rfl
theorem w18_25 : RB d 18 25 [l0, l1, l2, l3, .int x] st (S, I, R, z) Q = RB d 18 27 [l0, l1, l2, l3, .int x] (.int x :: st) (S, I, R, z) Q := RB_iload rfl rfl
theorem w18_27 : RB d 18 27 [l0, .int x, l2, l3, l4] st (S, I, R, z) Q = RB d 18 28 [l0, .int x, l2, l3, l4] (.int x :: st) (S, I, R, z) Q := RB_iloadn rfl rfl
theorem w18_28 : RB d 18 28 [l0, l1, l2, l3, l4] [.int x1, .int x0, .ref a, s0] (S, I, R, z) Q = ((S a).1 = 2 ∧ RM d 14 [.ref a, .int x0, .int x1] (S, I, R, z) (fun v τ => RB d 18 31 [l0, l1, l2, l3, l4] (aPush v [s0]) τ Q)) := RB_callV (n := 3) (t := 0) (k := 81) (ins := .invokevirtual 81) rfl rfl rfl (by decide) (Nat.le_of_ble_eq_true rfl) (Nat.le_of_ble_eq_true rfl) rfl rfl
theorem w18_31 : RB d 18 31 [l0, l1, l2, l3, l4] (.int x :: st) (S, I, R, z) Q = ((x = 0 → RB d 18 41 [l0, l1, l2, l3, l4] st (S, I, R, z) Q) ∧ (¬ x = 0 → RB d 18 34 [l0, l1, l2, l3, l4] st (S, I, R, z) Q)) := RB_eq0 rfl (by decide) rfl
theorem w18_34 : RB d 18 34 [l0, l1, l2, l3, l4] st (S, I, R, z) Q = RB d 18 35 [l0, l1, l2, l3, l4] (.int 1 :: st) (S, I, R, z) Q := RB_iconst rfl ki1
theorem w18_35 : RB d 18 35 [l0, l1, l2, l3, .int x] st (S, I, R, z) Q = RB d 18 37 [l0, l1, l2, l3, .int x] (.int x :: st) (S, I, R, z) Q := RB_iload rfl rfl
theorem w18_37 : RB d 18 37 [l0, l1, l2, l3, l4] (.int y :: .int x :: st) (S, I, R, z) Q = RB d 18 38 [l0, l1, l2, l3, l4] (.int (x <<< (y &&& 31)) :: st) (S, I, R, z) Q := RB_ishl rfl
theorem w18_38 : RB d 18 38 [l0, l1, l2, l3, l4] st (S, I, R, z) Q = RB d 18 42 [l0, l1, l2, l3, l4] st (S, I, R, z) Q := RB_goto rfl (by decide) rfl
theorem w18_41 : RB d 18 41 [l0, l1, l2, l3, l4] st (S, I, R, z) Q = RB d 18 42 [l0, l1, l2, l3, l4] (.int 0 :: st) (S, I, R, z) Q := RB_iconst rfl ki0
theorem w18_42 : RB d 18 42 [l0, l1, l2, l3, l4] (.int y :: .int x :: st) (S, I, R, z) Q = RB d 18 43 [l0, l1, l2, l3, l4] (.int (x ||| y) :: st) (S, I, R, z) Q := RB_ior rfl
theorem w18_43 : RB d 18 43 [l0, l1, l2, l3, l4] (.int x :: st) (S, I, R, z) Q = RB d 18 44 [l0, l1, l2, .int x, l4] st (S, I, R, z) Q := RB_istoren rfl (Nat.le_of_ble_eq_true rfl) rfl
theorem w18_44 : RB d 18 44 [l0, l1, l2, l3, .int x] st (S, I, R, z) Q = RB d 18 47 [l0, l1, l2, l3, .int (x + 1)] st (S, I, R, z) Q := RB_iinc rfl rfl (Nat.le_of_ble_eq_true rfl) ki1 rfl
theorem w18_47 : RB d 18 47 [l0, l1, l2, l3, l4] st (S, I, R, z) Q = RB d 18 5 [l0, l1, l2, l3, l4] st (S, I, R, z) Q := RB_goto rfl (by decide) rfl
theorem w18_50 : RB d 18 50 [l0, l1, l2, .int x, l4] st (S, I, R, z) Q = RB d 18 51 [l0, l1, l2, .int x, l4] (.int x :: st) (S, I, R, z) Q := RB_iloadn rfl rfl
theorem w18_51 : RB d 18 51 [l0, l1, l2, l3, l4] [.int x] (S, I, R, z) Q = Q (some (.int x)) (S, I, R, z) := RB_iret rfl rfl rfl
/-! 19: HangedWord$State.fittingWith -/
theorem w19_0 : RB d 19 0 [l0, l1, l2, l3, l4] st (S, I, R, z) Q = RB d 19 1 [l0, l1, l2, l3, l4] (.int 0 :: st) (S, I, R, z) Q := RB_iconst rfl ki0
theorem w19_1 : RB d 19 1 [l0, l1, l2, l3, l4] (.int x :: st) (S, I, R, z) Q = RB d 19 2 [l0, l1, l2, .int x, l4] st (S, I, R, z) Q := RB_istoren rfl (Nat.le_of_ble_eq_true rfl) rfl
theorem w19_2 : RB d 19 2 [l0, l1, l2, l3, l4] st (S, I, R, z) Q = RB d 19 3 [l0, l1, l2, l3, l4] (.int 0 :: st) (S, I, R, z) Q := RB_iconst rfl ki0
theorem w19_3 : RB d 19 3 [l0, l1, l2, l3, l4] (.int x :: st) (S, I, R, z) Q = RB d 19 5 [l0, l1, l2, l3, .int x] st (S, I, R, z) Q := RB_istore rfl (Nat.le_of_ble_eq_true rfl) rfl
theorem w19_5 : RB d 19 5 [l0, l1, l2, l3, .int x] st (S, I, R, z) Q = RB d 19 7 [l0, l1, l2, l3, .int x] (.int x :: st) (S, I, R, z) Q := RB_iload rfl rfl
theorem w19_7 : RB d 19 7 [.ref a, l1, l2, l3, l4] st (S, I, R, z) Q = RB d 19 8 [.ref a, l1, l2, l3, l4] (.ref a :: st) (S, I, R, z) Q := RB_aloadn rfl rfl
theorem w19_8 : RB d 19 8 [l0, l1, l2, l3, l4] (.ref a :: st) (S, I, R, z) Q = ((S a).1 = 2 ∧ RB d 19 11 [l0, l1, l2, l3, l4] (.int (I a 3) :: st) (S, I, R, z) Q) := RB_getI rfl rfl
theorem w19_11 : RB d 19 11 [l0, l1, l2, l3, l4] (.int y :: .int x :: st) (S, I, R, z) Q = ((y ≤ x → RB d 19 42 [l0, l1, l2, l3, l4] st (S, I, R, z) Q) ∧ (¬ y ≤ x → RB d 19 14 [l0, l1, l2, l3, l4] st (S, I, R, z) Q)) := RB_ige rfl (by decide) rfl
theorem w19_14 : RB d 19 14 [l0, l1, l2, .int x, l4] st (S, I, R, z) Q = RB d 19 15 [l0, l1, l2, .int x, l4] (.int x :: st) (S, I, R, z) Q := RB_iloadn rfl rfl
theorem w19_15 : RB d 19 15 [.ref a, l1, l2, l3, l4] st (S, I, R, z) Q = RB d 19 16 [.ref a, l1, l2, l3, l4] (.ref a :: st) (S, I, R, z) Q := RB_aloadn rfl rfl
theorem w19_16 : RB d 19 16 [l0, .int x, l2, l3, l4] st (S, I, R, z) Q = RB d 19 17 [l0, .int x, l2, l3, l4] (.int x :: st) (S, I, R, z) Q := RB_iloadn rfl rfl
theorem w19_17 : RB d 19 17 [l0, l1, l2, l3, .int x] st (S, I, R, z) Q = RB d 19 19 [l0, l1, l2, l3, .int x] (.int x :: st) (S, I, R, z) Q := RB_iload rfl rfl
theorem w19_19 : RB d 19 19 [l0, l1, .int x, l3, l4] st (S, I, R, z) Q = RB d 19 20 [l0, l1, .int x, l3, l4] (.int x :: st) (S, I, R, z) Q := RB_iloadn rfl rfl
theorem w19_20 : RB d 19 20 [l0, l1, l2, l3, l4] [.int x2, .int x1, .int x0, .ref a, s0] (S, I, R, z) Q = ((S a).1 = 2 ∧ RM d 20 [.ref a, .int x0, .int x1, .int x2] (S, I, R, z) (fun v τ => RB d 19 23 [l0, l1, l2, l3, l4] (aPush v [s0]) τ Q)) := RB_callV (n := 4) (t := 0) (k := 89) (ins := .invokevirtual 89) rfl rfl rfl (by decide) (Nat.le_of_ble_eq_true rfl) (Nat.le_of_ble_eq_true rfl) rfl rfl
theorem w19_23 : RB d 19 23 [l0, l1, l2, l3, l4] (.int x :: st) (S, I, R, z) Q = ((x = 0 → RB d 19 33 [l0, l1, l2, l3, l4] st (S, I, R, z) Q) ∧ (¬ x = 0 → RB d 19 26 [l0, l1, l2, l3, l4] st (S, I, R, z) Q)) := RB_eq0 rfl (by decide) rfl
theorem w19_26 : RB d 19 26 [l0, l1, l2, l3, l4] st (S, I, R, z) Q = RB d 19 27 [l0, l1, l2, l3, l4] (.int 1 :: st) (S, I, R, z) Q := RB_iconst rfl ki1
theorem w19_27 : RB d 19 27 [l0, l1, l2, l3, .int x] st (S, I, R, z) Q = RB d 19 29 [l0, l1, l2, l3, .int x] (.int x :: st) (S, I, R, z) Q := RB_iload rfl rfl
theorem w19_29 : RB d 19 29 [l0, l1, l2, l3, l4] (.int y :: .int x :: st) (S, I, R, z) Q = RB d 19 30 [l0, l1, l2, l3, l4] (.int (x <<< (y &&& 31)) :: st) (S, I, R, z) Q := RB_ishl rfl
theorem w19_30 : RB d 19 30 [l0, l1, l2, l3, l4] st (S, I, R, z) Q = RB d 19 34 [l0, l1, l2, l3, l4] st (S, I, R, z) Q := RB_goto rfl (by decide) rfl
theorem w19_33 : RB d 19 33 [l0, l1, l2, l3, l4] st (S, I, R, z) Q = RB d 19 34 [l0, l1, l2, l3, l4] (.int 0 :: st) (S, I, R, z) Q := RB_iconst rfl ki0
theorem w19_34 : RB d 19 34 [l0, l1, l2, l3, l4] (.int y :: .int x :: st) (S, I, R, z) Q = RB d 19 35 [l0, l1, l2, l3, l4] (.int (x ||| y) :: st) (S, I, R, z) Q := RB_ior rfl
theorem w19_35 : RB d 19 35 [l0, l1, l2, l3, l4] (.int x :: st) (S, I, R, z) Q = RB d 19 36 [l0, l1, l2, .int x, l4] st (S, I, R, z) Q := RB_istoren rfl (Nat.le_of_ble_eq_true rfl) rfl
theorem w19_36 : RB d 19 36 [l0, l1, l2, l3, .int x] st (S, I, R, z) Q = RB d 19 39 [l0, l1, l2, l3, .int (x + 1)] st (S, I, R, z) Q := RB_iinc rfl rfl (Nat.le_of_ble_eq_true rfl) ki1 rfl
theorem w19_39 : RB d 19 39 [l0, l1, l2, l3, l4] st (S, I, R, z) Q = RB d 19 5 [l0, l1, l2, l3, l4] st (S, I, R, z) Q := RB_goto rfl (by decide) rfl
theorem w19_42 : RB d 19 42 [l0, l1, l2, .int x, l4] st (S, I, R, z) Q = RB d 19 43 [l0, l1, l2, .int x, l4] (.int x :: st) (S, I, R, z) Q := RB_iloadn rfl rfl
theorem w19_43 : RB d 19 43 [l0, l1, l2, l3, l4] [.int x] (S, I, R, z) Q = Q (some (.int x)) (S, I, R, z) := RB_iret rfl rfl rfl
/-! 20: HangedWord$State.fitTogether -/
theorem w20_0 : RB d 20 0 [l0, l1, l2, l3, l4] st (S, I, R, z) Q = RB d 20 1 [l0, l1, l2, l3, l4] (.int 0 :: st) (S, I, R, z) Q := RB_iconst rfl ki0
theorem w20_1 : RB d 20 1 [l0, l1, l2, l3, l4] (.int x :: st) (S, I, R, z) Q = RB d 20 3 [l0, l1, l2, l3, .int x] st (S, I, R, z) Q := RB_istore rfl (Nat.le_of_ble_eq_true rfl) rfl
theorem w20_3 : RB d 20 3 [l0, l1, l2, l3, .int x] st (S, I, R, z) Q = RB d 20 5 [l0, l1, l2, l3, .int x] (.int x :: st) (S, I, R, z) Q := RB_iload rfl rfl
theorem w20_5 : RB d 20 5 [l0, l1, l2, l3, l4] st (S, I, R, z) Q = RB d 20 7 [l0, l1, l2, l3, l4] (.int 6 :: st) (S, I, R, z) Q := RB_bipush rfl kb6
theorem w20_7 : RB d 20 7 [l0, l1, l2, l3, l4] (.int y :: .int x :: st) (S, I, R, z) Q = ((y ≤ x → RB d 20 44 [l0, l1, l2, l3, l4] st (S, I, R, z) Q) ∧ (¬ y ≤ x → RB d 20 10 [l0, l1, l2, l3, l4] st (S, I, R, z) Q)) := RB_ige rfl (by decide) rfl
theorem w20_10 : RB d 20 10 [l0, l1, l2, .int x, l4] st (S, I, R, z) Q = RB d 20 11 [l0, l1, l2, .int x, l4] (.int x :: st) (S, I, R, z) Q := RB_iloadn rfl rfl
theorem w20_11 : RB d 20 11 [l0, l1, l2, l3, .int x] st (S, I, R, z) Q = RB d 20 13 [l0, l1, l2, l3, .int x] (.int x :: st) (S, I, R, z) Q := RB_iload rfl rfl
theorem w20_13 : RB d 20 13 [l0, l1, l2, l3, l4] [.int x1, .int x0] (S, I, R, z) Q = RM d 129 [.int x0, .int x1] (S, I, R, z) (fun v τ => RB d 20 16 [l0, l1, l2, l3, l4] (aPush v []) τ Q) := RB_callS (n := 2) (t := 1) (k := 85) (ins := .invokestatic 85) rfl rfl rfl (Nat.le_of_ble_eq_true rfl) (Nat.le_of_ble_eq_true rfl) rfl rfl
theorem w20_16 : RB d 20 16 [l0, l1, l2, l3, l4] (.int x :: st) (S, I, R, z) Q = ((x = 0 → RB d 20 38 [l0, l1, l2, l3, l4] st (S, I, R, z) Q) ∧ (¬ x = 0 → RB d 20 19 [l0, l1, l2, l3, l4] st (S, I, R, z) Q)) := RB_eq0 rfl (by decide) rfl
theorem w20_19 : RB d 20 19 [.ref a, l1, l2, l3, l4] st (S, I, R, z) Q = RB d 20 20 [.ref a, l1, l2, l3, l4] (.ref a :: st) (S, I, R, z) Q := RB_aloadn rfl rfl
theorem w20_20 : RB d 20 20 [l0, .int x, l2, l3, l4] st (S, I, R, z) Q = RB d 20 21 [l0, .int x, l2, l3, l4] (.int x :: st) (S, I, R, z) Q := RB_iloadn rfl rfl
theorem w20_21 : RB d 20 21 [l0, l1, l2, l3, .int x] st (S, I, R, z) Q = RB d 20 23 [l0, l1, l2, l3, .int x] (.int x :: st) (S, I, R, z) Q := RB_iload rfl rfl
theorem w20_23 : RB d 20 23 [l0, l1, l2, l3, l4] [.int x1, .int x0, .ref a] (S, I, R, z) Q = ((S a).1 = 2 ∧ RM d 14 [.ref a, .int x0, .int x1] (S, I, R, z) (fun v τ => RB d 20 26 [l0, l1, l2, l3, l4] (aPush v []) τ Q)) := RB_callV (n := 3) (t := 0) (k := 81) (ins := .invokevirtual 81) rfl rfl rfl (by decide) (Nat.le_of_ble_eq_true rfl) (Nat.le_of_ble_eq_true rfl) rfl rfl
theorem w20_26 : RB d 20 26 [.ref a, l1, l2, l3, l4] st (S, I, R, z) Q = RB d 20 27 [.ref a, l1, l2, l3, l4] (.ref a :: st) (S, I, R, z) Q := RB_aloadn rfl rfl
theorem w20_27 : RB d 20 27 [l0, l1, .int x, l3, l4] st (S, I, R, z) Q = RB d 20 28 [l0, l1, .int x, l3, l4] (.int x :: st) (S, I, R, z) Q := RB_iloadn rfl rfl
theorem w20_28 : RB d 20 28 [l0, l1, l2, l3, .int x] st (S, I, R, z) Q = RB d 20 30 [l0, l1, l2, l3, .int x] (.int x :: st) (S, I, R, z) Q := RB_iload rfl rfl
theorem w20_30 : RB d 20 30 [l0, l1, l2, l3, l4] [.int x1, .int x0, .ref a, s0] (S, I, R, z) Q = ((S a).1 = 2 ∧ RM d 14 [.ref a, .int x0, .int x1] (S, I, R, z) (fun v τ => RB d 20 33 [l0, l1, l2, l3, l4] (aPush v [s0]) τ Q)) := RB_callV (n := 3) (t := 0) (k := 81) (ins := .invokevirtual 81) rfl rfl rfl (by decide) (Nat.le_of_ble_eq_true rfl) (Nat.le_of_ble_eq_true rfl) rfl rfl
theorem w20_33 : RB d 20 33 [l0, l1, l2, l3, l4] (.int y :: .int x :: st) (S, I, R, z) Q = ((x = y → RB d 20 38 [l0, l1, l2, l3, l4] st (S, I, R, z) Q) ∧ (¬ x = y → RB d 20 36 [l0, l1, l2, l3, l4] st (S, I, R, z) Q)) := RB_ieq rfl (by decide) rfl
theorem w20_36 : RB d 20 36 [l0, l1, l2, l3, l4] st (S, I, R, z) Q = RB d 20 37 [l0, l1, l2, l3, l4] (.int 0 :: st) (S, I, R, z) Q := RB_iconst rfl ki0
theorem w20_37 : RB d 20 37 [l0, l1, l2, l3, l4] [.int x] (S, I, R, z) Q = (narrow .boolean (.int x) = .int x ∧ Q (some (.int x)) (S, I, R, z)) := RB_zret rfl rfl (Or.inl rfl)
theorem w20_38 : RB d 20 38 [l0, l1, l2, l3, .int x] st (S, I, R, z) Q = RB d 20 41 [l0, l1, l2, l3, .int (x + 1)] st (S, I, R, z) Q := RB_iinc rfl rfl (Nat.le_of_ble_eq_true rfl) ki1 rfl
theorem w20_41 : RB d 20 41 [l0, l1, l2, l3, l4] st (S, I, R, z) Q = RB d 20 3 [l0, l1, l2, l3, l4] st (S, I, R, z) Q := RB_goto rfl (by decide) rfl
theorem w20_44 : RB d 20 44 [l0, l1, l2, l3, l4] st (S, I, R, z) Q = RB d 20 45 [l0, l1, l2, l3, l4] (.int 1 :: st) (S, I, R, z) Q := RB_iconst rfl ki1
theorem w20_45 : RB d 20 45 [l0, l1, l2, l3, l4] [.int x] (S, I, R, z) Q = (narrow .boolean (.int x) = .int x ∧ Q (some (.int x)) (S, I, R, z)) := RB_zret rfl rfl (Or.inl rfl)
/-! 21: HangedWord$State.fitting -/
theorem w21_0 : RB d 21 0 [.ref a] st (S, I, R, z) Q = RB d 21 1 [.ref a] (.ref a :: st) (S, I, R, z) Q := RB_aloadn rfl rfl
theorem w21_1 : RB d 21 1 [l0] (.ref a :: st) (S, I, R, z) Q = ((S a).1 = 2 ∧ RB d 21 4 [l0] (.int (I a 7) :: st) (S, I, R, z) Q) := RB_getI rfl rfl
theorem w21_4 : RB d 21 4 [l0] (.int x :: st) (S, I, R, z) Q = ((0 ≤ x → RB d 21 11 [l0] st (S, I, R, z) Q) ∧ (¬ 0 ≤ x → RB d 21 7 [l0] st (S, I, R, z) Q)) := RB_ge0 rfl (by decide) rfl
theorem w21_7 : RB d 21 7 [l0] st (S, I, R, z) Q = RB d 21 8 [l0] (.int 0 :: st) (S, I, R, z) Q := RB_iconst rfl ki0
theorem w21_8 : RB d 21 8 [l0] st (S, I, R, z) Q = RB d 21 23 [l0] st (S, I, R, z) Q := RB_goto rfl (by decide) rfl
theorem w21_11 : RB d 21 11 [.ref a] st (S, I, R, z) Q = RB d 21 12 [.ref a] (.ref a :: st) (S, I, R, z) Q := RB_aloadn rfl rfl
theorem w21_12 : RB d 21 12 [.ref a] st (S, I, R, z) Q = RB d 21 13 [.ref a] (.ref a :: st) (S, I, R, z) Q := RB_aloadn rfl rfl
theorem w21_13 : RB d 21 13 [l0] (.ref a :: st) (S, I, R, z) Q = ((S a).1 = 2 ∧ RB d 21 16 [l0] (.int (I a 7) :: st) (S, I, R, z) Q) := RB_getI rfl rfl
theorem w21_16 : RB d 21 16 [.ref a] st (S, I, R, z) Q = RB d 21 17 [.ref a] (.ref a :: st) (S, I, R, z) Q := RB_aloadn rfl rfl
theorem w21_17 : RB d 21 17 [l0] (.ref a :: st) (S, I, R, z) Q = ((S a).1 = 2 ∧ RB d 21 20 [l0] (.int (I a 8) :: st) (S, I, R, z) Q) := RB_getI rfl rfl
theorem w21_20 : RB d 21 20 [l0] [.int x1, .int x0, .ref a] (S, I, R, z) Q = ((S a).1 = 2 ∧ RM d 19 [.ref a, .int x0, .int x1] (S, I, R, z) (fun v τ => RB d 21 23 [l0] (aPush v []) τ Q)) := RB_callV (n := 3) (t := 0) (k := 93) (ins := .invokevirtual 93) rfl rfl rfl (by decide) (Nat.le_of_ble_eq_true rfl) (Nat.le_of_ble_eq_true rfl) rfl rfl
theorem w21_23 : RB d 21 23 [l0] [.int x] (S, I, R, z) Q = Q (some (.int x)) (S, I, R, z) := RB_iret rfl rfl rfl
/-! 22: HangedWord$State.allAreAsked -/
theorem w22_0 : RB d 22 0 [l0, l1, l2, l3] st (S, I, R, z) Q = RB d 22 1 [l0, l1, l2, l3] (.int 0 :: st) (S, I, R, z) Q := RB_iconst rfl ki0
theorem w22_1 : RB d 22 1 [l0, l1, l2, l3] (.int x :: st) (S, I, R, z) Q = RB d 22 2 [l0, l1, l2, .int x] st (S, I, R, z) Q := RB_istoren rfl (Nat.le_of_ble_eq_true rfl) rfl
theorem w22_2 : RB d 22 2 [l0, l1, l2, .int x] st (S, I, R, z) Q = RB d 22 3 [l0, l1, l2, .int x] (.int x :: st) (S, I, R, z) Q := RB_iloadn rfl rfl
theorem w22_3 : RB d 22 3 [.ref a, l1, l2, l3] st (S, I, R, z) Q = RB d 22 4 [.ref a, l1, l2, l3] (.ref a :: st) (S, I, R, z) Q := RB_aloadn rfl rfl
theorem w22_4 : RB d 22 4 [l0, l1, l2, l3] (.ref a :: st) (S, I, R, z) Q = ((S a).1 = 2 ∧ RB d 22 7 [l0, l1, l2, l3] (.int (I a 3) :: st) (S, I, R, z) Q) := RB_getI rfl rfl
theorem w22_7 : RB d 22 7 [l0, l1, l2, l3] (.int y :: .int x :: st) (S, I, R, z) Q = ((y ≤ x → RB d 22 38 [l0, l1, l2, l3] st (S, I, R, z) Q) ∧ (¬ y ≤ x → RB d 22 10 [l0, l1, l2, l3] st (S, I, R, z) Q)) := RB_ige rfl (by decide) rfl
theorem w22_10 : RB d 22 10 [l0, .int x, l2, l3] st (S, I, R, z) Q = RB d 22 11 [l0, .int x, l2, l3] (.int x :: st) (S, I, R, z) Q := RB_iloadn rfl rfl
theorem w22_11 : RB d 22 11 [l0, l1, l2, .int x] st (S, I, R, z) Q = RB d 22 12 [l0, l1, l2, .int x] (.int x :: st) (S, I, R, z) Q := RB_iloadn rfl rfl
theorem w22_12 : RB d 22 12 [l0, l1, l2, l3] [.int x1, .int x0] (S, I, R, z) Q = RM d 129 [.int x0, .int x1] (S, I, R, z) (fun v τ => RB d 22 15 [l0, l1, l2, l3] (aPush v []) τ Q) := RB_callS (n := 2) (t := 1) (k := 85) (ins := .invokestatic 85) rfl rfl rfl (Nat.le_of_ble_eq_true rfl) (Nat.le_of_ble_eq_true rfl) rfl rfl
theorem w22_15 : RB d 22 15 [l0, l1, l2, l3] (.int x :: st) (S, I, R, z) Q = ((x = 0 → RB d 22 32 [l0, l1, l2, l3] st (S, I, R, z) Q) ∧ (¬ x = 0 → RB d 22 18 [l0, l1, l2, l3] st (S, I, R, z) Q)) := RB_eq0 rfl (by decide) rfl
theorem w22_18 : RB d 22 18 [.ref a, l1, l2, l3] st (S, I, R, z) Q = RB d 22 19 [.ref a, l1, l2, l3] (.ref a :: st) (S, I, R, z) Q := RB_aloadn rfl rfl
theorem w22_19 : RB d 22 19 [l0, l1, l2, .int x] st (S, I, R, z) Q = RB d 22 20 [l0, l1, l2, .int x] (.int x :: st) (S, I, R, z) Q := RB_iloadn rfl rfl
theorem w22_20 : RB d 22 20 [l0, l1, l2, l3] [.int x0, .ref a] (S, I, R, z) Q = ((S a).1 = 2 ∧ RM d 15 [.ref a, .int x0] (S, I, R, z) (fun v τ => RB d 22 23 [l0, l1, l2, l3] (aPush v []) τ Q)) := RB_callV (n := 2) (t := 0) (k := 96) (ins := .invokevirtual 96) rfl rfl rfl (by decide) (Nat.le_of_ble_eq_true rfl) (Nat.le_of_ble_eq_true rfl) rfl rfl
theorem w22_23 : RB d 22 23 [l0, l1, .int x, l3] st (S, I, R, z) Q = RB d 22 24 [l0, l1, .int x, l3] (.int x :: st) (S, I, R, z) Q := RB_iloadn rfl rfl
theorem w22_24 : RB d 22 24 [l0, l1, l2, l3] st (S, I, R, z) Q = RB d 22 25 [l0, l1, l2, l3] (.int (-1) :: st) (S, I, R, z) Q := RB_iconst rfl kim1
theorem w22_25 : RB d 22 25 [l0, l1, l2, l3] (.int y :: .int x :: st) (S, I, R, z) Q = RB d 22 26 [l0, l1, l2, l3] (.int (x ^^^ y) :: st) (S, I, R, z) Q := RB_ixor rfl
theorem w22_26 : RB d 22 26 [l0, l1, l2, l3] (.int y :: .int x :: st) (S, I, R, z) Q = RB d 22 27 [l0, l1, l2, l3] (.int (x &&& y) :: st) (S, I, R, z) Q := RB_iand rfl
theorem w22_27 : RB d 22 27 [l0, l1, l2, l3] (.int x :: st) (S, I, R, z) Q = ((x = 0 → RB d 22 32 [l0, l1, l2, l3] st (S, I, R, z) Q) ∧ (¬ x = 0 → RB d 22 30 [l0, l1, l2, l3] st (S, I, R, z) Q)) := RB_eq0 rfl (by decide) rfl
theorem w22_30 : RB d 22 30 [l0, l1, l2, l3] st (S, I, R, z) Q = RB d 22 31 [l0, l1, l2, l3] (.int 0 :: st) (S, I, R, z) Q := RB_iconst rfl ki0
theorem w22_31 : RB d 22 31 [l0, l1, l2, l3] [.int x] (S, I, R, z) Q = (narrow .boolean (.int x) = .int x ∧ Q (some (.int x)) (S, I, R, z)) := RB_zret rfl rfl (Or.inl rfl)
theorem w22_32 : RB d 22 32 [l0, l1, l2, .int x] st (S, I, R, z) Q = RB d 22 35 [l0, l1, l2, .int (x + 1)] st (S, I, R, z) Q := RB_iinc rfl rfl (Nat.le_of_ble_eq_true rfl) ki1 rfl
theorem w22_35 : RB d 22 35 [l0, l1, l2, l3] st (S, I, R, z) Q = RB d 22 2 [l0, l1, l2, l3] st (S, I, R, z) Q := RB_goto rfl (by decide) rfl
theorem w22_38 : RB d 22 38 [l0, l1, l2, l3] st (S, I, R, z) Q = RB d 22 39 [l0, l1, l2, l3] (.int 1 :: st) (S, I, R, z) Q := RB_iconst rfl ki1
theorem w22_39 : RB d 22 39 [l0, l1, l2, l3] [.int x] (S, I, R, z) Q = (narrow .boolean (.int x) = .int x ∧ Q (some (.int x)) (S, I, R, z)) := RB_zret rfl rfl (Or.inl rfl)
/-! 23: HangedWord$State.sureLetters -/
theorem w23_0 : RB d 23 0 [.ref a, l1, l2, l3] st (S, I, R, z) Q = RB d 23 1 [.ref a, l1, l2, l3] (.ref a :: st) (S, I, R, z) Q := RB_aloadn rfl rfl
theorem w23_1 : RB d 23 1 [l0, l1, l2, l3] [.ref a] (S, I, R, z) Q = ((S a).1 = 2 ∧ RM d 21 [.ref a] (S, I, R, z) (fun v τ => RB d 23 4 [l0, l1, l2, l3] (aPush v []) τ Q)) := RB_callV (n := 1) (t := 0) (k := 100) (ins := .invokevirtual 100) rfl rfl rfl (by decide) (Nat.le_of_ble_eq_true rfl) (Nat.le_of_ble_eq_true rfl) rfl rfl
theorem w23_4 : RB d 23 4 [l0, l1, l2, l3] (.int x :: st) (S, I, R, z) Q = RB d 23 5 [l0, .int x, l2, l3] st (S, I, R, z) Q := RB_istoren rfl (Nat.le_of_ble_eq_true rfl) rfl
theorem w23_5 : RB d 23 5 [l0, .int x, l2, l3] st (S, I, R, z) Q = RB d 23 6 [l0, .int x, l2, l3] (.int x :: st) (S, I, R, z) Q := RB_iloadn rfl rfl
theorem w23_6 : RB d 23 6 [l0, l1, l2, l3] (.int x :: st) (S, I, R, z) Q = ((x = 0 → RB d 23 9 [l0, l1, l2, l3] st (S, I, R, z) Q) ∧ (¬ x = 0 → RB d 23 11 [l0, l1, l2, l3] st (S, I, R, z) Q)) := RB_ne0 rfl (by decide) rfl
theorem w23_9 : RB d 23 9 [l0, l1, l2, l3] st (S, I, R, z) Q = RB d 23 10 [l0, l1, l2, l3] (.int 0 :: st) (S, I, R, z) Q := RB_iconst rfl ki0
theorem w23_10 : RB d 23 10 [l0, l1, l2, l3] [.int x] (S, I, R, z) Q = Q (some (.int x)) (S, I, R, z) := RB_iret rfl rfl rfl
theorem w23_11 : RB d 23 11 [l0, l1, l2, l3] st (S, I, R, z) Q = RB d 23 13 [l0, l1, l2, l3] (.int 63 :: st) (S, I, R, z) Q := RB_bipush rfl kb63
theorem w23_13 : RB d 23 13 [.ref a, l1, l2, l3] st (S, I, R, z) Q = RB d 23 14 [.ref a, l1, l2, l3] (.ref a :: st) (S, I, R, z) Q := RB_aloadn rfl rfl
theorem w23_14 : RB d 23 14 [l0, l1, l2, l3] (.ref a :: st) (S, I, R, z) Q = ((S a).1 = 2 ∧ RB d 23 17 [l0, l1, l2, l3] (.int (I a 8) :: st) (S, I, R, z) Q) := RB_getI rfl rfl
theorem w23_17 : RB d 23 17 [l0, l1, l2, l3] st (S, I, R, z) Q = RB d 23 18 [l0, l1, l2, l3] (.int (-1) :: st) (S, I, R, z) Q := RB_iconst rfl kim1
theorem w23_18 : RB d 23 18 [l0, l1, l2, l3] (.int y :: .int x :: st) (S, I, R, z) Q = RB d 23 19 [l0, l1, l2, l3] (.int (x ^^^ y) :: st) (S, I, R, z) Q := RB_ixor rfl
theorem w23_19 : RB d 23 19 [l0, l1, l2, l3] (.int y :: .int x :: st) (S, I, R, z) Q = RB d 23 20 [l0, l1, l2, l3] (.int (x &&& y) :: st) (S, I, R, z) Q := RB_iand rfl
theorem w23_20 : RB d 23 20 [l0, l1, l2, l3] (.int x :: st) (S, I, R, z) Q = RB d 23 21 [l0, l1, .int x, l3] st (S, I, R, z) Q := RB_istoren rfl (Nat.le_of_ble_eq_true rfl) rfl
theorem w23_21 : RB d 23 21 [l0, l1, l2, l3] st (S, I, R, z) Q = RB d 23 22 [l0, l1, l2, l3] (.int 0 :: st) (S, I, R, z) Q := RB_iconst rfl ki0
theorem w23_22 : RB d 23 22 [l0, l1, l2, l3] (.int x :: st) (S, I, R, z) Q = RB d 23 23 [l0, l1, l2, .int x] st (S, I, R, z) Q := RB_istoren rfl (Nat.le_of_ble_eq_true rfl) rfl
theorem w23_23 : RB d 23 23 [l0, l1, l2, .int x] st (S, I, R, z) Q = RB d 23 24 [l0, l1, l2, .int x] (.int x :: st) (S, I, R, z) Q := RB_iloadn rfl rfl
theorem w23_24 : RB d 23 24 [.ref a, l1, l2, l3] st (S, I, R, z) Q = RB d 23 25 [.ref a, l1, l2, l3] (.ref a :: st) (S, I, R, z) Q := RB_aloadn rfl rfl
theorem w23_25 : RB d 23 25 [l0, l1, l2, l3] (.ref a :: st) (S, I, R, z) Q = ((S a).1 = 2 ∧ RB d 23 28 [l0, l1, l2, l3] (.int (I a 3) :: st) (S, I, R, z) Q) := RB_getI rfl rfl
theorem w23_28 : RB d 23 28 [l0, l1, l2, l3] (.int y :: .int x :: st) (S, I, R, z) Q = ((y ≤ x → RB d 23 58 [l0, l1, l2, l3] st (S, I, R, z) Q) ∧ (¬ y ≤ x → RB d 23 31 [l0, l1, l2, l3] st (S, I, R, z) Q)) := RB_ige rfl (by decide) rfl
theorem w23_31 : RB d 23 31 [l0, l1, .int x, l3] st (S, I, R, z) Q = RB d 23 32 [l0, l1, .int x, l3] (.int x :: st) (S, I, R, z) Q := RB_iloadn rfl rfl
theorem w23_32 : RB d 23 32 [l0, .int x, l2, l3] st (S, I, R, z) Q = RB d 23 33 [l0, .int x, l2, l3] (.int x :: st) (S, I, R, z) Q := RB_iloadn rfl rfl
theorem w23_33 : RB d 23 33 [l0, l1, l2, .int x] st (S, I, R, z) Q = RB d 23 34 [l0, l1, l2, .int x] (.int x :: st) (S, I, R, z) Q := RB_iloadn rfl rfl
theorem w23_34 : RB d 23 34 [l0, l1, l2, l3] [.int x1, .int x0, s0] (S, I, R, z) Q = RM d 129 [.int x0, .int x1] (S, I, R, z) (fun v τ => RB d 23 37 [l0, l1, l2, l3] (aPush v [s0]) τ Q) := RB_callS (n := 2) (t := 1) (k := 85) (ins := .invokestatic 85) rfl rfl rfl (Nat.le_of_ble_eq_true rfl) (Nat.le_of_ble_eq_true rfl) rfl rfl
theorem w23_37 : RB d 23 37 [l0, l1, l2, l3] (.int x :: st) (S, I, R, z) Q = ((x = 0 → RB d 23 48 [l0, l1, l2, l3] st (S, I, R, z) Q) ∧ (¬ x = 0 → RB d 23 40 [l0, l1, l2, l3] st (S, I, R, z) Q)) := RB_eq0 rfl (by decide) rfl
theorem w23_40 : RB d 23 40 [.ref a, l1, l2, l3] st (S, I, R, z) Q = RB d 23 41 [.ref a, l1, l2, l3] (.ref a :: st) (S, I, R, z) Q := RB_aloadn rfl rfl
theorem w23_41 : RB d 23 41 [l0, l1, l2, .int x] st (S, I, R, z) Q = RB d 23 42 [l0, l1, l2, .int x] (.int x :: st) (S, I, R, z) Q := RB_iloadn rfl rfl
theorem w23_42 : RB d 23 42 [l0, l1, l2, l3] [.int x0, .ref a, s0] (S, I, R, z) Q = ((S a).1 = 2 ∧ RM d 15 [.ref a, .int x0] (S, I, R, z) (fun v τ => RB d 23 45 [l0, l1, l2, l3] (aPush v [s0]) τ Q)) := RB_callV (n := 2) (t := 0) (k := 96) (ins := .invokevirtual 96) rfl rfl rfl (by decide) (Nat.le_of_ble_eq_true rfl) (Nat.le_of_ble_eq_true rfl) rfl rfl
theorem w23_45 : RB d 23 45 [l0, l1, l2, l3] st (S, I, R, z) Q = RB d 23 50 [l0, l1, l2, l3] st (S, I, R, z) Q := RB_goto rfl (by decide) rfl
theorem w23_48 : RB d 23 48 [l0, l1, l2, l3] st (S, I, R, z) Q = RB d 23 50 [l0, l1, l2, l3] (.int 63 :: st) (S, I, R, z) Q := RB_bipush rfl kb63
theorem w23_50 : RB d 23 50 [l0, l1, l2, l3] (.int y :: .int x :: st) (S, I, R, z) Q = RB d 23 51 [l0, l1, l2, l3] (.int (x &&& y) :: st) (S, I, R, z) Q := RB_iand rfl
theorem w23_51 : RB d 23 51 [l0, l1, l2, l3] (.int x :: st) (S, I, R, z) Q = RB d 23 52 [l0, l1, .int x, l3] st (S, I, R, z) Q := RB_istoren rfl (Nat.le_of_ble_eq_true rfl) rfl
theorem w23_52 : RB d 23 52 [l0, l1, l2, .int x] st (S, I, R, z) Q = RB d 23 55 [l0, l1, l2, .int (x + 1)] st (S, I, R, z) Q := RB_iinc rfl rfl (Nat.le_of_ble_eq_true rfl) ki1 rfl
theorem w23_55 : RB d 23 55 [l0, l1, l2, l3] st (S, I, R, z) Q = RB d 23 23 [l0, l1, l2, l3] st (S, I, R, z) Q := RB_goto rfl (by decide) rfl
theorem w23_58 : RB d 23 58 [l0, l1, .int x, l3] st (S, I, R, z) Q = RB d 23 59 [l0, l1, .int x, l3] (.int x :: st) (S, I, R, z) Q := RB_iloadn rfl rfl
theorem w23_59 : RB d 23 59 [l0, l1, l2, l3] [.int x] (S, I, R, z) Q = Q (some (.int x)) (S, I, R, z) := RB_iret rfl rfl rfl
/-! 24: HangedWord$State.scoreOf -/
theorem w24_0 : RB d 24 0 [.ref a, l1, l2, l3] st (S, I, R, z) Q = RB d 24 1 [.ref a, l1, l2, l3] (.ref a :: st) (S, I, R, z) Q := RB_aloadn rfl rfl
theorem w24_1 : RB d 24 1 [l0, l1, l2, l3] (.ref a :: st) (S, I, R, z) Q = ((S a).1 = 2 ∧ RB d 24 4 [l0, l1, l2, l3] (va_rf (R a 4) :: st) (S, I, R, z) Q) := RB_getR rfl rfl
theorem w24_4 : RB d 24 4 [l0, .int x, l2, l3] st (S, I, R, z) Q = RB d 24 5 [l0, .int x, l2, l3] (.int x :: st) (S, I, R, z) Q := RB_iloadn rfl rfl
theorem w24_5 : RB d 24 5 [l0, l1, l2, l3] (.int i :: .ref a :: st) (S, I, R, z) Q = (((S a).1 = 9 ∧ aIx i (S a).2) ∧ RB d 24 6 [l0, l1, l2, l3] (.int (I a i.toNatClampNeg) :: st) (S, I, R, z) Q) := RB_iald rfl
theorem w24_6 : RB d 24 6 [l0, l1, l2, l3] (.int x :: st) (S, I, R, z) Q = aTsR d 24 6 x 107 [l0, l1, l2, l3] st (S, I, R, z) Q [(1, 40), (2, 68), (3, 47), (4, 79), (5, 95)] := RB_ts rfl (by decide) (by decide) (by decide) (by decide +kernel) rfl
theorem w24_40 : RB d 24 40 [.ref a, l1, l2, l3] st (S, I, R, z) Q = RB d 24 41 [.ref a, l1, l2, l3] (.ref a :: st) (S, I, R, z) Q := RB_aloadn rfl rfl
theorem w24_41 : RB d 24 41 [l0, .int x, l2, l3] st (S, I, R, z) Q = RB d 24 42 [l0, .int x, l2, l3] (.int x :: st) (S, I, R, z) Q := RB_iloadn rfl rfl
theorem w24_42 : RB d 24 42 [l0, l1, .int x, l3] st (S, I, R, z) Q = RB d 24 43 [l0, l1, .int x, l3] (.int x :: st) (S, I, R, z) Q := RB_iloadn rfl rfl
theorem w24_43 : RB d 24 43 [l0, l1, l2, l3] [.int x1, .int x0, .ref a] (S, I, R, z) Q = ((S a).1 = 2 ∧ RM d 26 [.ref a, .int x0, .int x1] (S, I, R, z) (fun v τ => RB d 24 46 [l0, l1, l2, l3] (aPush v []) τ Q)) := RB_callV (n := 3) (t := 0) (k := 104) (ins := .invokevirtual 104) rfl rfl rfl (by decide) (Nat.le_of_ble_eq_true rfl) (Nat.le_of_ble_eq_true rfl) rfl rfl
theorem w24_46 : RB d 24 46 [l0, l1, l2, l3] [.int x] (S, I, R, z) Q = Q (some (.int x)) (S, I, R, z) := RB_iret rfl rfl rfl
theorem w24_47 : RB d 24 47 [.ref a, l1, l2, l3] st (S, I, R, z) Q = RB d 24 48 [.ref a, l1, l2, l3] (.ref a :: st) (S, I, R, z) Q := RB_aloadn rfl rfl
theorem w24_48 : RB d 24 48 [l0, .int x, l2, l3] st (S, I, R, z) Q = RB d 24 49 [l0, .int x, l2, l3] (.int x :: st) (S, I, R, z) Q := RB_iloadn rfl rfl
theorem w24_49 : RB d 24 49 [l0, l1, .int x, l3] st (S, I, R, z) Q = RB d 24 50 [l0, l1, .int x, l3] (.int x :: st) (S, I, R, z) Q := RB_iloadn rfl rfl
theorem w24_50 : RB d 24 50 [l0, l1, l2, l3] [.int x1, .int x0, .ref a] (S, I, R, z) Q = ((S a).1 = 2 ∧ RM d 26 [.ref a, .int x0, .int x1] (S, I, R, z) (fun v τ => RB d 24 53 [l0, l1, l2, l3] (aPush v []) τ Q)) := RB_callV (n := 3) (t := 0) (k := 104) (ins := .invokevirtual 104) rfl rfl rfl (by decide) (Nat.le_of_ble_eq_true rfl) (Nat.le_of_ble_eq_true rfl) rfl rfl
theorem w24_53 : RB d 24 53 [l0, l1, l2, l3] st (S, I, R, z) Q = RB d 24 56 [l0, l1, l2, l3] (.int 1000 :: st) (S, I, R, z) Q := RB_sipush rfl ks1000
theorem w24_56 : RB d 24 56 [.ref a, l1, l2, l3] st (S, I, R, z) Q = RB d 24 57 [.ref a, l1, l2, l3] (.ref a :: st) (S, I, R, z) Q := RB_aloadn rfl rfl
theorem w24_57 : RB d 24 57 [l0, l1, .int x, l3] st (S, I, R, z) Q = RB d 24 58 [l0, l1, .int x, l3] (.int x :: st) (S, I, R, z) Q := RB_iloadn rfl rfl
theorem w24_58 : RB d 24 58 [l0, l1, l2, .int x] st (S, I, R, z) Q = RB d 24 59 [l0, l1, l2, .int x] (.int x :: st) (S, I, R, z) Q := RB_iloadn rfl rfl
theorem w24_59 : RB d 24 59 [l0, l1, l2, l3] [.int x1, .int x0, .ref a, s0, s1] (S, I, R, z) Q = ((S a).1 = 2 ∧ RM d 18 [.ref a, .int x0, .int x1] (S, I, R, z) (fun v τ => RB d 24 62 [l0, l1, l2, l3] (aPush v [s0, s1]) τ Q)) := RB_callV (n := 3) (t := 0) (k := 107) (ins := .invokevirtual 107) rfl rfl rfl (by decide) (Nat.le_of_ble_eq_true rfl) (Nat.le_of_ble_eq_true rfl) rfl rfl
theorem w24_62 : RB d 24 62 [l0, l1, l2, l3] [.int x0, s0, s1] (S, I, R, z) Q = RM d 250 [.int x0] (S, I, R, z) (fun v τ => RB d 24 65 [l0, l1, l2, l3] (aPush v [s0, s1]) τ Q) := RB_callS (n := 1) (t := 1) (k := 110) (ins := .invokestatic 110) rfl rfl rfl (Nat.le_of_ble_eq_true rfl) (Nat.le_of_ble_eq_true rfl) rfl rfl
theorem w24_65 : RB d 24 65 [l0, l1, l2, l3] (.int y :: .int x :: st) (S, I, R, z) Q = RB d 24 66 [l0, l1, l2, l3] (.int (x * y) :: st) (S, I, R, z) Q := RB_imul rfl
theorem w24_66 : RB d 24 66 [l0, l1, l2, l3] (.int y :: .int x :: st) (S, I, R, z) Q = RB d 24 67 [l0, l1, l2, l3] (.int (x + y) :: st) (S, I, R, z) Q := RB_iadd rfl
theorem w24_67 : RB d 24 67 [l0, l1, l2, l3] [.int x] (S, I, R, z) Q = Q (some (.int x)) (S, I, R, z) := RB_iret rfl rfl rfl
theorem w24_68 : RB d 24 68 [.ref a, l1, l2, l3] st (S, I, R, z) Q = RB d 24 69 [.ref a, l1, l2, l3] (.ref a :: st) (S, I, R, z) Q := RB_aloadn rfl rfl
theorem w24_69 : RB d 24 69 [.ref a, l1, l2, l3] st (S, I, R, z) Q = RB d 24 70 [.ref a, l1, l2, l3] (.ref a :: st) (S, I, R, z) Q := RB_aloadn rfl rfl
theorem w24_70 : RB d 24 70 [l0, l1, .int x, l3] st (S, I, R, z) Q = RB d 24 71 [l0, l1, .int x, l3] (.int x :: st) (S, I, R, z) Q := RB_iloadn rfl rfl
theorem w24_71 : RB d 24 71 [l0, l1, l2, .int x] st (S, I, R, z) Q = RB d 24 72 [l0, l1, l2, .int x] (.int x :: st) (S, I, R, z) Q := RB_iloadn rfl rfl
theorem w24_72 : RB d 24 72 [l0, l1, l2, l3] [.int x1, .int x0, .ref a, s0] (S, I, R, z) Q = ((S a).1 = 2 ∧ RM d 18 [.ref a, .int x0, .int x1] (S, I, R, z) (fun v τ => RB d 24 75 [l0, l1, l2, l3] (aPush v [s0]) τ Q)) := RB_callV (n := 3) (t := 0) (k := 107) (ins := .invokevirtual 107) rfl rfl rfl (by decide) (Nat.le_of_ble_eq_true rfl) (Nat.le_of_ble_eq_true rfl) rfl rfl
theorem w24_75 : RB d 24 75 [l0, l1, l2, l3] [.int x0, .ref a] (S, I, R, z) Q = ((S a).1 = 2 ∧ RM d 17 [.ref a, .int x0] (S, I, R, z) (fun v τ => RB d 24 78 [l0, l1, l2, l3] (aPush v []) τ Q)) := RB_callV (n := 2) (t := 0) (k := 115) (ins := .invokevirtual 115) rfl rfl rfl (by decide) (Nat.le_of_ble_eq_true rfl) (Nat.le_of_ble_eq_true rfl) rfl rfl
theorem w24_78 : RB d 24 78 [l0, l1, l2, l3] [.int x] (S, I, R, z) Q = Q (some (.int x)) (S, I, R, z) := RB_iret rfl rfl rfl
theorem w24_79 : RB d 24 79 [l0, l1, l2, l3] st (S, I, R, z) Q = RB d 24 82 [l0, l1, l2, l3] (.int 5000 :: st) (S, I, R, z) Q := RB_sipush rfl ks5000
theorem w24_82 : RB d 24 82 [.ref a, l1, l2, l3] st (S, I, R, z) Q = RB d 24 83 [.ref a, l1, l2, l3] (.ref a :: st) (S, I, R, z) Q := RB_aloadn rfl rfl
theorem w24_83 : RB d 24 83 [l0, l1, l2, l3] (.ref a :: st) (S, I, R, z) Q = ((S a).1 = 2 ∧ RB d 24 86 [l0, l1, l2, l3] (va_rf (R a 16) :: st) (S, I, R, z) Q) := RB_getR rfl rfl
theorem w24_86 : RB d 24 86 [.ref a, l1, l2, l3] st (S, I, R, z) Q = RB d 24 87 [.ref a, l1, l2, l3] (.ref a :: st) (S, I, R, z) Q := RB_aloadn rfl rfl
theorem w24_87 : RB d 24 87 [l0, l1, .int x, l3] st (S, I, R, z) Q = RB d 24 88 [l0, l1, .int x, l3] (.int x :: st) (S, I, R, z) Q := RB_iloadn rfl rfl
theorem w24_88 : RB d 24 88 [l0, l1, l2, .int x] st (S, I, R, z) Q = RB d 24 89 [l0, l1, l2, .int x] (.int x :: st) (S, I, R, z) Q := RB_iloadn rfl rfl
theorem w24_89 : RB d 24 89 [l0, l1, l2, l3] [.int x1, .int x0, .ref a, s0, s1] (S, I, R, z) Q = ((S a).1 = 2 ∧ RM d 27 [.ref a, .int x0, .int x1] (S, I, R, z) (fun v τ => RB d 24 92 [l0, l1, l2, l3] (aPush v [s0, s1]) τ Q)) := RB_callV (n := 3) (t := 0) (k := 118) (ins := .invokevirtual 118) rfl rfl rfl (by decide) (Nat.le_of_ble_eq_true rfl) (Nat.le_of_ble_eq_true rfl) rfl rfl
theorem w24_92 : RB d 24 92 [l0, l1, l2, l3] (.int i :: .ref a :: st) (S, I, R, z) Q = (((S a).1 = 9 ∧ aIx i (S a).2) ∧ RB d 24 93 [l0, l1, l2, l3] (.int (I a i.toNatClampNeg) :: st) (S, I, R, z) Q) := RB_iald rfl
theorem w24_93 : RB d 24 93 [l0, l1, l2, l3] (.int y :: .int x :: st) (S, I, R, z) Q = RB d 24 94 [l0, l1, l2, l3] (.int (x - y) :: st) (S, I, R, z) Q := RB_isub rfl
theorem w24_94 : RB d 24 94 [l0, l1, l2, l3] [.int x] (S, I, R, z) Q = Q (some (.int x)) (S, I, R, z) := RB_iret rfl rfl rfl
theorem w24_95 : RB d 24 95 [l0, l1, l2, l3] st (S, I, R, z) Q = RB d 24 98 [l0, l1, l2, l3] (.int 9999 :: st) (S, I, R, z) Q := RB_sipush rfl ks9999
theorem w24_98 : RB d 24 98 [.ref a, l1, l2, l3] st (S, I, R, z) Q = RB d 24 99 [.ref a, l1, l2, l3] (.ref a :: st) (S, I, R, z) Q := RB_aloadn rfl rfl
theorem w24_99 : RB d 24 99 [l0, .int x, l2, l3] st (S, I, R, z) Q = RB d 24 100 [l0, .int x, l2, l3] (.int x :: st) (S, I, R, z) Q := RB_iloadn rfl rfl
theorem w24_100 : RB d 24 100 [l0, l1, .int x, l3] st (S, I, R, z) Q = RB d 24 101 [l0, l1, .int x, l3] (.int x :: st) (S, I, R, z) Q := RB_iloadn rfl rfl
theorem w24_101 : RB d 24 101 [l0, l1, l2, .int x] st (S, I, R, z) Q = RB d 24 102 [l0, l1, l2, .int x] (.int x :: st) (S, I, R, z) Q := RB_iloadn rfl rfl
theorem w24_102 : RB d 24 102 [l0, l1, l2, l3] [.int x2, .int x1, .int x0, .ref a, s0] (S, I, R, z) Q = ((S a).1 = 2 ∧ RM d 25 [.ref a, .int x0, .int x1, .int x2] (S, I, R, z) (fun v τ => RB d 24 105 [l0, l1, l2, l3] (aPush v [s0]) τ Q)) := RB_callV (n := 4) (t := 0) (k := 121) (ins := .invokevirtual 121) rfl rfl rfl (by decide) (Nat.le_of_ble_eq_true rfl) (Nat.le_of_ble_eq_true rfl) rfl rfl
theorem w24_105 : RB d 24 105 [l0, l1, l2, l3] (.int y :: .int x :: st) (S, I, R, z) Q = RB d 24 106 [l0, l1, l2, l3] (.int (x - y) :: st) (S, I, R, z) Q := RB_isub rfl
theorem w24_106 : RB d 24 106 [l0, l1, l2, l3] [.int x] (S, I, R, z) Q = Q (some (.int x)) (S, I, R, z) := RB_iret rfl rfl rfl
theorem w24_107 : RB d 24 107 [.ref a, l1, l2, l3] st (S, I, R, z) Q = RB d 24 108 [.ref a, l1, l2, l3] (.ref a :: st) (S, I, R, z) Q := RB_aloadn rfl rfl
theorem w24_108 : RB d 24 108 [l0, .int x, l2, l3] st (S, I, R, z) Q = RB d 24 109 [l0, .int x, l2, l3] (.int x :: st) (S, I, R, z) Q := RB_iloadn rfl rfl
theorem w24_109 : RB d 24 109 [l0, l1, .int x, l3] st (S, I, R, z) Q = RB d 24 110 [l0, l1, .int x, l3] (.int x :: st) (S, I, R, z) Q := RB_iloadn rfl rfl
theorem w24_110 : RB d 24 110 [l0, l1, l2, .int x] st (S, I, R, z) Q = RB d 24 111 [l0, l1, l2, .int x] (.int x :: st) (S, I, R, z) Q := RB_iloadn rfl rfl
theorem w24_111 : RB d 24 111 [l0, l1, l2, l3] [.int x2, .int x1, .int x0, .ref a] (S, I, R, z) Q = ((S a).1 = 2 ∧ RM d 25 [.ref a, .int x0, .int x1, .int x2] (S, I, R, z) (fun v τ => RB d 24 114 [l0, l1, l2, l3] (aPush v []) τ Q)) := RB_callV (n := 4) (t := 0) (k := 121) (ins := .invokevirtual 121) rfl rfl rfl (by decide) (Nat.le_of_ble_eq_true rfl) (Nat.le_of_ble_eq_true rfl) rfl rfl
theorem w24_114 : RB d 24 114 [l0, l1, l2, l3] [.int x] (S, I, R, z) Q = Q (some (.int x)) (S, I, R, z) := RB_iret rfl rfl rfl
/-! 25: HangedWord$State.plainScore -/
theorem w25_0 : RB d 25 0 [.ref a, l1, l2, l3, l4, l5, l6, l7] st (S, I, R, z) Q = RB d 25 1 [.ref a, l1, l2, l3, l4, l5, l6, l7] (.ref a :: st) (S, I, R, z) Q := RB_aloadn rfl rfl
theorem w25_1 : RB d 25 1 [l0, l1, l2, l3, l4, l5, l6, l7] (.ref a :: st) (S, I, R, z) Q = ((S a).1 = 2 ∧ RB d 25 4 [l0, l1, l2, l3, l4, l5, l6, l7] (va_rf (R a 5) :: st) (S, I, R, z) Q) := RB_getR rfl rfl
theorem w25_4 : RB d 25 4 [l0, .int x, l2, l3, l4, l5, l6, l7] st (S, I, R, z) Q = RB d 25 5 [l0, .int x, l2, l3, l4, l5, l6, l7] (.int x :: st) (S, I, R, z) Q := RB_iloadn rfl rfl
theorem w25_5 : RB d 25 5 [l0, l1, l2, l3, l4, l5, l6, l7] (.int i :: .ref a :: st) (S, I, R, z) Q = (((S a).1 = 9 ∧ aIx i (S a).2) ∧ RB d 25 6 [l0, l1, l2, l3, l4, l5, l6, l7] (.int (I a i.toNatClampNeg) :: st) (S, I, R, z) Q) := RB_iald rfl
theorem w25_6 : RB d 25 6 [l0, l1, .int x, l3, l4, l5, l6, l7] st (S, I, R, z) Q = RB d 25 7 [l0, l1, .int x, l3, l4, l5, l6, l7] (.int x :: st) (S, I, R, z) Q := RB_iloadn rfl rfl
theorem w25_7 : RB d 25 7 [l0, l1, l2, l3, l4, l5, l6, l7] (.int y :: .int x :: st) (S, I, R, z) Q = ((x = y → RB d 25 10 [l0, l1, l2, l3, l4, l5, l6, l7] st (S, I, R, z) Q) ∧ (¬ x = y → RB d 25 14 [l0, l1, l2, l3, l4, l5, l6, l7] st (S, I, R, z) Q)) := RB_ine rfl (by decide) rfl
theorem w25_10 : RB d 25 10 [l0, l1, l2, l3, l4, l5, l6, l7] st (S, I, R, z) Q = RB d 25 11 [l0, l1, l2, l3, l4, l5, l6, l7] (.int 1 :: st) (S, I, R, z) Q := RB_iconst rfl ki1
theorem w25_11 : RB d 25 11 [l0, l1, l2, l3, l4, l5, l6, l7] st (S, I, R, z) Q = RB d 25 15 [l0, l1, l2, l3, l4, l5, l6, l7] st (S, I, R, z) Q := RB_goto rfl (by decide) rfl
theorem w25_14 : RB d 25 14 [l0, l1, l2, l3, l4, l5, l6, l7] st (S, I, R, z) Q = RB d 25 15 [l0, l1, l2, l3, l4, l5, l6, l7] (.int 0 :: st) (S, I, R, z) Q := RB_iconst rfl ki0
theorem w25_15 : RB d 25 15 [l0, l1, l2, l3, l4, l5, l6, l7] (.int x :: st) (S, I, R, z) Q = RB d 25 17 [l0, l1, l2, l3, .int x, l5, l6, l7] st (S, I, R, z) Q := RB_istore rfl (Nat.le_of_ble_eq_true rfl) rfl
theorem w25_17 : RB d 25 17 [.ref a, l1, l2, l3, l4, l5, l6, l7] st (S, I, R, z) Q = RB d 25 18 [.ref a, l1, l2, l3, l4, l5, l6, l7] (.ref a :: st) (S, I, R, z) Q := RB_aloadn rfl rfl
theorem w25_18 : RB d 25 18 [l0, l1, l2, l3, l4, l5, l6, l7] st (S, I, R, z) Q = RB d 25 19 [l0, l1, l2, l3, l4, l5, l6, l7] (.int 0 :: st) (S, I, R, z) Q := RB_iconst rfl ki0
theorem w25_19 : RB d 25 19 [l0, l1, l2, l3, l4, l5, l6, l7] [.int x0, .ref a] (S, I, R, z) Q = ((S a).1 = 2 ∧ RM d 39 [.ref a, .int x0] (S, I, R, z) (fun v τ => RB d 25 22 [l0, l1, l2, l3, l4, l5, l6, l7] (aPush v []) τ Q)) := RB_callV (n := 2) (t := 0) (k := 125) (ins := .invokevirtual 125) rfl rfl rfl (by decide) (Nat.le_of_ble_eq_true rfl) (Nat.le_of_ble_eq_true rfl) rfl rfl
theorem w25_22 : RB d 25 22 [l0, l1, l2, l3, l4, l5, l6, l7] (.ref a :: st) (S, I, R, z) Q = RB d 25 24 [l0, l1, l2, l3, l4, .ref a, l6, l7] st (S, I, R, z) Q := RB_astore rfl (Nat.le_of_ble_eq_true rfl) rfl
theorem w25_22N : RB d 25 22 [l0, l1, l2, l3, l4, l5, l6, l7] (.null :: st) (S, I, R, z) Q = RB d 25 24 [l0, l1, l2, l3, l4, .null, l6, l7] st (S, I, R, z) Q := RB_astoreN rfl (Nat.le_of_ble_eq_true rfl) rfl
theorem w25_24 : RB d 25 24 [l0, l1, l2, l3, l4, .ref a, l6, l7] st (S, I, R, z) Q = RB d 25 26 [l0, l1, l2, l3, l4, .ref a, l6, l7] (.ref a :: st) (S, I, R, z) Q := RB_aload rfl rfl
theorem w25_24N : RB d 25 24 [l0, l1, l2, l3, l4, .null, l6, l7] st (S, I, R, z) Q = RB d 25 26 [l0, l1, l2, l3, l4, .null, l6, l7] (.null :: st) (S, I, R, z) Q := RB_aloadN rfl rfl
theorem w25_26 : RB d 25 26 [l0, l1, l2, l3, l4, l5, l6, l7] (.ref a :: st) (S, I, R, z) Q = (¬ a = 14 ∧ RB d 25 41 [l0, l1, l2, l3, l4, l5, l6, l7] st (S, I, R, z) Q) := RB_nn rfl (by decide) rfl
theorem w25_26N : RB d 25 26 [l0, l1, l2, l3, l4, l5, l6, l7] (.null :: st) (S, I, R, z) Q = RB d 25 29 [l0, l1, l2, l3, l4, l5, l6, l7] st (S, I, R, z) Q := RB_nnN rfl
theorem w25_29 : RB d 25 29 [l0, l1, l2, l3, .int x, l5, l6, l7] st (S, I, R, z) Q = RB d 25 31 [l0, l1, l2, l3, .int x, l5, l6, l7] (.int x :: st) (S, I, R, z) Q := RB_iload rfl rfl
theorem w25_31 : RB d 25 31 [l0, l1, l2, l3, l4, l5, l6, l7] (.int x :: st) (S, I, R, z) Q = ((x = 0 → RB d 25 39 [l0, l1, l2, l3, l4, l5, l6, l7] st (S, I, R, z) Q) ∧ (¬ x = 0 → RB d 25 34 [l0, l1, l2, l3, l4, l5, l6, l7] st (S, I, R, z) Q)) := RB_eq0 rfl (by decide) rfl
theorem w25_34 : RB d 25 34 [l0, l1, l2, l3, l4, l5, l6, l7] st (S, I, R, z) Q = RB d 25 36 [l0, l1, l2, l3, l4, l5, l6, l7] (.int 100 :: st) (S, I, R, z) Q := RB_bipush rfl kb100
theorem w25_36 : RB d 25 36 [l0, l1, l2, l3, l4, l5, l6, l7] st (S, I, R, z) Q = RB d 25 40 [l0, l1, l2, l3, l4, l5, l6, l7] st (S, I, R, z) Q := RB_goto rfl (by decide) rfl
theorem w25_39 : RB d 25 39 [l0, l1, l2, l3, l4, l5, l6, l7] st (S, I, R, z) Q = RB d 25 40 [l0, l1, l2, l3, l4, l5, l6, l7] (.int 0 :: st) (S, I, R, z) Q := RB_iconst rfl ki0
theorem w25_40 : RB d 25 40 [l0, l1, l2, l3, l4, l5, l6, l7] [.int x] (S, I, R, z) Q = Q (some (.int x)) (S, I, R, z) := RB_iret rfl rfl rfl
theorem w25_41 : RB d 25 41 [.ref a, l1, l2, l3, l4, l5, l6, l7] st (S, I, R, z) Q = RB d 25 42 [.ref a, l1, l2, l3, l4, l5, l6, l7] (.ref a :: st) (S, I, R, z) Q := RB_aloadn rfl rfl
theorem w25_42 : RB d 25 42 [l0, l1, .int x, l3, l4, l5, l6, l7] st (S, I, R, z) Q = RB d 25 43 [l0, l1, .int x, l3, l4, l5, l6, l7] (.int x :: st) (S, I, R, z) Q := RB_iloadn rfl rfl
theorem w25_43 : RB d 25 43 [l0, l1, l2, .int x, l4, l5, l6, l7] st (S, I, R, z) Q = RB d 25 44 [l0, l1, l2, .int x, l4, l5, l6, l7] (.int x :: st) (S, I, R, z) Q := RB_iloadn rfl rfl
theorem w25_44 : RB d 25 44 [l0, l1, l2, l3, l4, l5, l6, l7] [.int x1, .int x0, .ref a] (S, I, R, z) Q = ((S a).1 = 2 ∧ RM d 18 [.ref a, .int x0, .int x1] (S, I, R, z) (fun v τ => RB d 25 47 [l0, l1, l2, l3, l4, l5, l6, l7] (aPush v []) τ Q)) := RB_callV (n := 3) (t := 0) (k := 107) (ins := .invokevirtual 107) rfl rfl rfl (by decide) (Nat.le_of_ble_eq_true rfl) (Nat.le_of_ble_eq_true rfl) rfl rfl
theorem w25_47 : RB d 25 47 [l0, l1, l2, l3, l4, l5, l6, l7] (.int x :: st) (S, I, R, z) Q = RB d 25 49 [l0, l1, l2, l3, l4, l5, .int x, l7] st (S, I, R, z) Q := RB_istore rfl (Nat.le_of_ble_eq_true rfl) rfl
theorem w25_49 : RB d 25 49 [l0, l1, l2, l3, l4, .ref a, l6, l7] st (S, I, R, z) Q = RB d 25 51 [l0, l1, l2, l3, l4, .ref a, l6, l7] (.ref a :: st) (S, I, R, z) Q := RB_aload rfl rfl
theorem w25_49N : RB d 25 49 [l0, l1, l2, l3, l4, .null, l6, l7] st (S, I, R, z) Q = RB d 25 51 [l0, l1, l2, l3, l4, .null, l6, l7] (.null :: st) (S, I, R, z) Q := RB_aloadN rfl rfl
theorem w25_51 : RB d 25 51 [l0, l1, l2, l3, l4, l5, .int x, l7] st (S, I, R, z) Q = RB d 25 53 [l0, l1, l2, l3, l4, l5, .int x, l7] (.int x :: st) (S, I, R, z) Q := RB_iload rfl rfl
theorem w25_53 : RB d 25 53 [l0, l1, l2, l3, l4, l5, l6, l7] [.int x0, s0] (S, I, R, z) Q = RM d 250 [.int x0] (S, I, R, z) (fun v τ => RB d 25 56 [l0, l1, l2, l3, l4, l5, l6, l7] (aPush v [s0]) τ Q) := RB_callS (n := 1) (t := 1) (k := 110) (ins := .invokestatic 110) rfl rfl rfl (Nat.le_of_ble_eq_true rfl) (Nat.le_of_ble_eq_true rfl) rfl rfl
theorem w25_56 : RB d 25 56 [.ref a, l1, l2, l3, l4, l5, l6, l7] st (S, I, R, z) Q = RB d 25 57 [.ref a, l1, l2, l3, l4, l5, l6, l7] (.ref a :: st) (S, I, R, z) Q := RB_aloadn rfl rfl
theorem w25_57 : RB d 25 57 [l0, l1, l2, l3, l4, l5, .int x, l7] st (S, I, R, z) Q = RB d 25 59 [l0, l1, l2, l3, l4, l5, .int x, l7] (.int x :: st) (S, I, R, z) Q := RB_iload rfl rfl
theorem w25_59 : RB d 25 59 [l0, l1, l2, l3, l4, l5, l6, l7] [.int x0, .ref a, s0, s1] (S, I, R, z) Q = ((S a).1 = 2 ∧ RM d 17 [.ref a, .int x0] (S, I, R, z) (fun v τ => RB d 25 62 [l0, l1, l2, l3, l4, l5, l6, l7] (aPush v [s0, s1]) τ Q)) := RB_callV (n := 2) (t := 0) (k := 115) (ins := .invokevirtual 115) rfl rfl rfl (by decide) (Nat.le_of_ble_eq_true rfl) (Nat.le_of_ble_eq_true rfl) rfl rfl
theorem w25_62 : RB d 25 62 [l0, l1, l2, l3, .int x, l5, l6, l7] st (S, I, R, z) Q = RB d 25 64 [l0, l1, l2, l3, .int x, l5, l6, l7] (.int x :: st) (S, I, R, z) Q := RB_iload rfl rfl
theorem w25_64 : RB d 25 64 [l0, l1, l2, l3, l4, l5, l6, l7] (.int x :: st) (S, I, R, z) Q = ((x = 0 → RB d 25 71 [l0, l1, l2, l3, l4, l5, l6, l7] st (S, I, R, z) Q) ∧ (¬ x = 0 → RB d 25 67 [l0, l1, l2, l3, l4, l5, l6, l7] st (S, I, R, z) Q)) := RB_eq0 rfl (by decide) rfl
theorem w25_67 : RB d 25 67 [l0, l1, l2, l3, l4, l5, l6, l7] st (S, I, R, z) Q = RB d 25 68 [l0, l1, l2, l3, l4, l5, l6, l7] (.int 1 :: st) (S, I, R, z) Q := RB_iconst rfl ki1
theorem w25_68 : RB d 25 68 [l0, l1, l2, l3, l4, l5, l6, l7] st (S, I, R, z) Q = RB d 25 72 [l0, l1, l2, l3, l4, l5, l6, l7] st (S, I, R, z) Q := RB_goto rfl (by decide) rfl
theorem w25_71 : RB d 25 71 [l0, l1, l2, l3, l4, l5, l6, l7] st (S, I, R, z) Q = RB d 25 72 [l0, l1, l2, l3, l4, l5, l6, l7] (.int 0 :: st) (S, I, R, z) Q := RB_iconst rfl ki0
theorem w25_72 : RB d 25 72 [.ref a, l1, l2, l3, l4, l5, l6, l7] st (S, I, R, z) Q = RB d 25 73 [.ref a, l1, l2, l3, l4, l5, l6, l7] (.ref a :: st) (S, I, R, z) Q := RB_aloadn rfl rfl
theorem w25_73 : RB d 25 73 [l0, l1, l2, l3, l4, l5, l6, l7] (.ref a :: st) (S, I, R, z) Q = ((S a).1 = 2 ∧ RB d 25 76 [l0, l1, l2, l3, l4, l5, l6, l7] (va_rf (R a 15) :: st) (S, I, R, z) Q) := RB_getR rfl rfl
theorem w25_76 : RB d 25 76 [l0, l1, l2, l3, l4, l5, l6, l7] [v3, .int x2, .int x1, .int x0, .ref a] (S, I, R, z) Q = ((S a).1 = 4 ∧ RM d 67 [.ref a, .int x0, .int x1, .int x2, v3] (S, I, R, z) (fun v τ => RB d 25 79 [l0, l1, l2, l3, l4, l5, l6, l7] (aPush v []) τ Q)) := RB_callV (n := 5) (t := 0) (k := 129) (ins := .invokevirtual 129) rfl rfl rfl (by decide) (Nat.le_of_ble_eq_true rfl) (Nat.le_of_ble_eq_true rfl) rfl rfl
theorem w25_79 : RB d 25 79 [l0, l1, l2, l3, l4, l5, l6, l7] (.int x :: st) (S, I, R, z) Q = RB d 25 81 [l0, l1, l2, l3, l4, l5, l6, .int x] st (S, I, R, z) Q := RB_istore rfl (Nat.le_of_ble_eq_true rfl) rfl
theorem w25_81 : RB d 25 81 [l0, l1, l2, l3, l4, l5, l6, .int x] st (S, I, R, z) Q = RB d 25 83 [l0, l1, l2, l3, l4, l5, l6, .int x] (.int x :: st) (S, I, R, z) Q := RB_iload rfl rfl
theorem w25_83 : RB d 25 83 [l0, l1, l2, l3, l4, l5, l6, l7] st (S, I, R, z) Q = RB d 25 84 [l0, l1, l2, l3, l4, l5, l6, l7] (.int 0 :: st) (S, I, R, z) Q := RB_iconst rfl ki0
theorem w25_84 : RB d 25 84 [l0, l1, l2, l3, l4, l5, l6, l7] st (S, I, R, z) Q = RB d 25 87 [l0, l1, l2, l3, l4, l5, l6, l7] (.int 9999 :: st) (S, I, R, z) Q := RB_sipush rfl ks9999
theorem w25_87 : RB d 25 87 [l0, l1, l2, l3, l4, l5, l6, l7] [.int x2, .int x1, .int x0] (S, I, R, z) Q = RM d 130 [.int x0, .int x1, .int x2] (S, I, R, z) (fun v τ => RB d 25 90 [l0, l1, l2, l3, l4, l5, l6, l7] (aPush v []) τ Q) := RB_callS (n := 3) (t := 1) (k := 133) (ins := .invokestatic 133) rfl rfl rfl (Nat.le_of_ble_eq_true rfl) (Nat.le_of_ble_eq_true rfl) rfl rfl
theorem w25_90 : RB d 25 90 [l0, l1, l2, l3, l4, l5, l6, l7] [.int x] (S, I, R, z) Q = Q (some (.int x)) (S, I, R, z) := RB_iret rfl rfl rfl
/-! 26: HangedWord$State.frequency -/
theorem w26_0 : RB d 26 0 [.ref a, l1, l2] st (S, I, R, z) Q = RB d 26 1 [.ref a, l1, l2] (.ref a :: st) (S, I, R, z) Q := RB_aloadn rfl rfl
theorem w26_1 : RB d 26 1 [.ref a, l1, l2] st (S, I, R, z) Q = RB d 26 2 [.ref a, l1, l2] (.ref a :: st) (S, I, R, z) Q := RB_aloadn rfl rfl
theorem w26_2 : RB d 26 2 [l0, l1, .int x] st (S, I, R, z) Q = RB d 26 3 [l0, l1, .int x] (.int x :: st) (S, I, R, z) Q := RB_iloadn rfl rfl
theorem w26_3 : RB d 26 3 [.ref a, l1, l2] st (S, I, R, z) Q = RB d 26 4 [.ref a, l1, l2] (.ref a :: st) (S, I, R, z) Q := RB_aloadn rfl rfl
theorem w26_4 : RB d 26 4 [l0, l1, l2] [.ref a, s0, s1, s2] (S, I, R, z) Q = ((S a).1 = 2 ∧ RM d 16 [.ref a] (S, I, R, z) (fun v τ => RB d 26 7 [l0, l1, l2] (aPush v [s0, s1, s2]) τ Q)) := RB_callV (n := 1) (t := 0) (k := 136) (ins := .invokevirtual 136) rfl rfl rfl (by decide) (Nat.le_of_ble_eq_true rfl) (Nat.le_of_ble_eq_true rfl) rfl rfl
theorem w26_7 : RB d 26 7 [l0, l1, l2] [.int x1, .int x0, .ref a, s0] (S, I, R, z) Q = ((S a).1 = 2 ∧ RM d 18 [.ref a, .int x0, .int x1] (S, I, R, z) (fun v τ => RB d 26 10 [l0, l1, l2] (aPush v [s0]) τ Q)) := RB_callV (n := 3) (t := 0) (k := 107) (ins := .invokevirtual 107) rfl rfl rfl (by decide) (Nat.le_of_ble_eq_true rfl) (Nat.le_of_ble_eq_true rfl) rfl rfl
theorem w26_10 : RB d 26 10 [l0, l1, l2] [.int x0, .ref a] (S, I, R, z) Q = ((S a).1 = 2 ∧ RM d 17 [.ref a, .int x0] (S, I, R, z) (fun v τ => RB d 26 13 [l0, l1, l2] (aPush v []) τ Q)) := RB_callV (n := 2) (t := 0) (k := 115) (ins := .invokevirtual 115) rfl rfl rfl (by decide) (Nat.le_of_ble_eq_true rfl) (Nat.le_of_ble_eq_true rfl) rfl rfl
theorem w26_13 : RB d 26 13 [.ref a, l1, l2] st (S, I, R, z) Q = RB d 26 14 [.ref a, l1, l2] (.ref a :: st) (S, I, R, z) Q := RB_aloadn rfl rfl
theorem w26_14 : RB d 26 14 [l0, l1, l2] (.ref a :: st) (S, I, R, z) Q = ((S a).1 = 2 ∧ RB d 26 17 [l0, l1, l2] (va_rf (R a 5) :: st) (S, I, R, z) Q) := RB_getR rfl rfl
theorem w26_17 : RB d 26 17 [l0, .int x, l2] st (S, I, R, z) Q = RB d 26 18 [l0, .int x, l2] (.int x :: st) (S, I, R, z) Q := RB_iloadn rfl rfl
theorem w26_18 : RB d 26 18 [l0, l1, l2] (.int i :: .ref a :: st) (S, I, R, z) Q = (((S a).1 = 9 ∧ aIx i (S a).2) ∧ RB d 26 19 [l0, l1, l2] (.int (I a i.toNatClampNeg) :: st) (S, I, R, z) Q) := RB_iald rfl
theorem w26_19 : RB d 26 19 [l0, l1, .int x] st (S, I, R, z) Q = RB d 26 20 [l0, l1, .int x] (.int x :: st) (S, I, R, z) Q := RB_iloadn rfl rfl
theorem w26_20 : RB d 26 20 [l0, l1, l2] (.int y :: .int x :: st) (S, I, R, z) Q = ((x = y → RB d 26 23 [l0, l1, l2] st (S, I, R, z) Q) ∧ (¬ x = y → RB d 26 27 [l0, l1, l2] st (S, I, R, z) Q)) := RB_ine rfl (by decide) rfl
theorem w26_23 : RB d 26 23 [l0, l1, l2] st (S, I, R, z) Q = RB d 26 24 [l0, l1, l2] (.int 1 :: st) (S, I, R, z) Q := RB_iconst rfl ki1
theorem w26_24 : RB d 26 24 [l0, l1, l2] st (S, I, R, z) Q = RB d 26 28 [l0, l1, l2] st (S, I, R, z) Q := RB_goto rfl (by decide) rfl
theorem w26_27 : RB d 26 27 [l0, l1, l2] st (S, I, R, z) Q = RB d 26 28 [l0, l1, l2] (.int 0 :: st) (S, I, R, z) Q := RB_iconst rfl ki0
theorem w26_28 : RB d 26 28 [l0, l1, l2] (.int y :: .int x :: st) (S, I, R, z) Q = RB d 26 29 [l0, l1, l2] (.int (x + y) :: st) (S, I, R, z) Q := RB_iadd rfl
theorem w26_29 : RB d 26 29 [l0, l1, l2] [.int x] (S, I, R, z) Q = Q (some (.int x)) (S, I, R, z) := RB_iret rfl rfl rfl
/-! 27: HangedWord$State.greatestClass -/
theorem w27_0 : RB d 27 0 [l0, l1, l2, l3, l4] st (S, I, R, z) Q = RB d 27 1 [l0, l1, l2, l3, l4] (.int 0 :: st) (S, I, R, z) Q := RB_iconst rfl ki0
theorem w27_1 : RB d 27 1 [l0, l1, l2, l3, l4] (.int x :: st) (S, I, R, z) Q = RB d 27 2 [l0, l1, l2, .int x, l4] st (S, I, R, z) Q := RB_istoren rfl (Nat.le_of_ble_eq_true rfl) rfl
theorem w27_2 : RB d 27 2 [l0, l1, l2, .int x, l4] st (S, I, R, z) Q = RB d 27 3 [l0, l1, l2, .int x, l4] (.int x :: st) (S, I, R, z) Q := RB_iloadn rfl rfl
theorem w27_3 : RB d 27 3 [.ref a, l1, l2, l3, l4] st (S, I, R, z) Q = RB d 27 4 [.ref a, l1, l2, l3, l4] (.ref a :: st) (S, I, R, z) Q := RB_aloadn rfl rfl
theorem w27_4 : RB d 27 4 [l0, l1, l2, l3, l4] (.ref a :: st) (S, I, R, z) Q = ((S a).1 = 2 ∧ RB d 27 7 [l0, l1, l2, l3, l4] (va_rf (R a 16) :: st) (S, I, R, z) Q) := RB_getR rfl rfl
theorem w27_7 : RB d 27 7 [l0, l1, l2, l3, l4] (.ref a :: st) (S, I, R, z) Q = (((8 ≤ (S a).1 ∧ (S a).1 ≤ 13) ∨ (S a).1 = 15) ∧ RB d 27 8 [l0, l1, l2, l3, l4] (.int (Int32.ofNat (S a).2) :: st) (S, I, R, z) Q) := RB_alen rfl
theorem w27_8 : RB d 27 8 [l0, l1, l2, l3, l4] (.int y :: .int x :: st) (S, I, R, z) Q = ((y ≤ x → RB d 27 24 [l0, l1, l2, l3, l4] st (S, I, R, z) Q) ∧ (¬ y ≤ x → RB d 27 11 [l0, l1, l2, l3, l4] st (S, I, R, z) Q)) := RB_ige rfl (by decide) rfl
theorem w27_11 : RB d 27 11 [.ref a, l1, l2, l3, l4] st (S, I, R, z) Q = RB d 27 12 [.ref a, l1, l2, l3, l4] (.ref a :: st) (S, I, R, z) Q := RB_aloadn rfl rfl
theorem w27_12 : RB d 27 12 [l0, l1, l2, l3, l4] (.ref a :: st) (S, I, R, z) Q = ((S a).1 = 2 ∧ RB d 27 15 [l0, l1, l2, l3, l4] (va_rf (R a 16) :: st) (S, I, R, z) Q) := RB_getR rfl rfl
theorem w27_15 : RB d 27 15 [l0, l1, l2, .int x, l4] st (S, I, R, z) Q = RB d 27 16 [l0, l1, l2, .int x, l4] (.int x :: st) (S, I, R, z) Q := RB_iloadn rfl rfl
theorem w27_16 : RB d 27 16 [l0, l1, l2, l3, l4] st (S, I, R, z) Q = RB d 27 17 [l0, l1, l2, l3, l4] (.int 0 :: st) (S, I, R, z) Q := RB_iconst rfl ki0
theorem w27_17 : RB d 27 17 [l0, l1, l2, l3, l4] (.int x :: .int i :: .ref a :: st) (S, I, R, z) Q = (((S a).1 = 9 ∧ aIx i (S a).2 ∧ 16 ≤ a) ∧ RB d 27 18 [l0, l1, l2, l3, l4] st (S, aW I a i.toNatClampNeg x, R, z) Q) := RB_iast rfl
theorem w27_18 : RB d 27 18 [l0, l1, l2, .int x, l4] st (S, I, R, z) Q = RB d 27 21 [l0, l1, l2, .int (x + 1), l4] st (S, I, R, z) Q := RB_iinc rfl rfl (Nat.le_of_ble_eq_true rfl) ki1 rfl
theorem w27_21 : RB d 27 21 [l0, l1, l2, l3, l4] st (S, I, R, z) Q = RB d 27 2 [l0, l1, l2, l3, l4] st (S, I, R, z) Q := RB_goto rfl (by decide) rfl
theorem w27_24 : RB d 27 24 [l0, l1, l2, l3, l4] st (S, I, R, z) Q = RB d 27 25 [l0, l1, l2, l3, l4] (.int 0 :: st) (S, I, R, z) Q := RB_iconst rfl ki0
theorem w27_25 : RB d 27 25 [l0, l1, l2, l3, l4] (.int x :: st) (S, I, R, z) Q = RB d 27 26 [l0, l1, l2, .int x, l4] st (S, I, R, z) Q := RB_istoren rfl (Nat.le_of_ble_eq_true rfl) rfl
theorem w27_26 : RB d 27 26 [l0, l1, l2, .int x, l4] st (S, I, R, z) Q = RB d 27 27 [l0, l1, l2, .int x, l4] (.int x :: st) (S, I, R, z) Q := RB_iloadn rfl rfl
theorem w27_27 : RB d 27 27 [.ref a, l1, l2, l3, l4] st (S, I, R, z) Q = RB d 27 28 [.ref a, l1, l2, l3, l4] (.ref a :: st) (S, I, R, z) Q := RB_aloadn rfl rfl
theorem w27_28 : RB d 27 28 [l0, l1, l2, l3, l4] (.ref a :: st) (S, I, R, z) Q = ((S a).1 = 2 ∧ RB d 27 31 [l0, l1, l2, l3, l4] (.int (I a 3) :: st) (S, I, R, z) Q) := RB_getI rfl rfl
theorem w27_31 : RB d 27 31 [l0, l1, l2, l3, l4] (.int y :: .int x :: st) (S, I, R, z) Q = ((y ≤ x → RB d 27 72 [l0, l1, l2, l3, l4] st (S, I, R, z) Q) ∧ (¬ y ≤ x → RB d 27 34 [l0, l1, l2, l3, l4] st (S, I, R, z) Q)) := RB_ige rfl (by decide) rfl
theorem w27_34 : RB d 27 34 [.ref a, l1, l2, l3, l4] st (S, I, R, z) Q = RB d 27 35 [.ref a, l1, l2, l3, l4] (.ref a :: st) (S, I, R, z) Q := RB_aloadn rfl rfl
theorem w27_35 : RB d 27 35 [l0, l1, l2, l3, l4] (.ref a :: st) (S, I, R, z) Q = ((S a).1 = 2 ∧ RB d 27 38 [l0, l1, l2, l3, l4] (va_rf (R a 16) :: st) (S, I, R, z) Q) := RB_getR rfl rfl
theorem w27_38 : RB d 27 38 [.ref a, l1, l2, l3, l4] st (S, I, R, z) Q = RB d 27 39 [.ref a, l1, l2, l3, l4] (.ref a :: st) (S, I, R, z) Q := RB_aloadn rfl rfl
theorem w27_39 : RB d 27 39 [l0, l1, l2, .int x, l4] st (S, I, R, z) Q = RB d 27 40 [l0, l1, l2, .int x, l4] (.int x :: st) (S, I, R, z) Q := RB_iloadn rfl rfl
theorem w27_40 : RB d 27 40 [l0, .int x, l2, l3, l4] st (S, I, R, z) Q = RB d 27 41 [l0, .int x, l2, l3, l4] (.int x :: st) (S, I, R, z) Q := RB_iloadn rfl rfl
theorem w27_41 : RB d 27 41 [l0, l1, l2, l3, l4] [.int x1, .int x0, .ref a, s0] (S, I, R, z) Q = ((S a).1 = 2 ∧ RM d 14 [.ref a, .int x0, .int x1] (S, I, R, z) (fun v τ => RB d 27 44 [l0, l1, l2, l3, l4] (aPush v [s0]) τ Q)) := RB_callV (n := 3) (t := 0) (k := 81) (ins := .invokevirtual 81) rfl rfl rfl (by decide) (Nat.le_of_ble_eq_true rfl) (Nat.le_of_ble_eq_true rfl) rfl rfl
theorem w27_44 : RB d 27 44 [l0, l1, l2, l3, l4] (v :: w :: st) (S, I, R, z) Q = RB d 27 45 [l0, l1, l2, l3, l4] (v :: w :: v :: w :: st) (S, I, R, z) Q := RB_dup2 rfl
theorem w27_45 : RB d 27 45 [l0, l1, l2, l3, l4] (.int i :: .ref a :: st) (S, I, R, z) Q = (((S a).1 = 9 ∧ aIx i (S a).2) ∧ RB d 27 46 [l0, l1, l2, l3, l4] (.int (I a i.toNatClampNeg) :: st) (S, I, R, z) Q) := RB_iald rfl
theorem w27_46 : RB d 27 46 [l0, l1, .int x, l3, l4] st (S, I, R, z) Q = RB d 27 47 [l0, l1, .int x, l3, l4] (.int x :: st) (S, I, R, z) Q := RB_iloadn rfl rfl
theorem w27_47 : RB d 27 47 [l0, l1, l2, .int x, l4] st (S, I, R, z) Q = RB d 27 48 [l0, l1, l2, .int x, l4] (.int x :: st) (S, I, R, z) Q := RB_iloadn rfl rfl
theorem w27_48 : RB d 27 48 [l0, l1, l2, l3, l4] [.int x1, .int x0, s0, s1, s2] (S, I, R, z) Q = RM d 129 [.int x0, .int x1] (S, I, R, z) (fun v τ => RB d 27 51 [l0, l1, l2, l3, l4] (aPush v [s0, s1, s2]) τ Q) := RB_callS (n := 2) (t := 1) (k := 85) (ins := .invokestatic 85) rfl rfl rfl (Nat.le_of_ble_eq_true rfl) (Nat.le_of_ble_eq_true rfl) rfl rfl
theorem w27_51 : RB d 27 51 [l0, l1, l2, l3, l4] (.int x :: st) (S, I, R, z) Q = ((x = 0 → RB d 27 63 [l0, l1, l2, l3, l4] st (S, I, R, z) Q) ∧ (¬ x = 0 → RB d 27 54 [l0, l1, l2, l3, l4] st (S, I, R, z) Q)) := RB_eq0 rfl (by decide) rfl
theorem w27_54 : RB d 27 54 [.ref a, l1, l2, l3, l4] st (S, I, R, z) Q = RB d 27 55 [.ref a, l1, l2, l3, l4] (.ref a :: st) (S, I, R, z) Q := RB_aloadn rfl rfl
theorem w27_55 : RB d 27 55 [l0, l1, l2, l3, l4] (.ref a :: st) (S, I, R, z) Q = ((S a).1 = 2 ∧ RB d 27 58 [l0, l1, l2, l3, l4] (va_rf (R a 1) :: st) (S, I, R, z) Q) := RB_getR rfl rfl
theorem w27_58 : RB d 27 58 [l0, l1, l2, .int x, l4] st (S, I, R, z) Q = RB d 27 59 [l0, l1, l2, .int x, l4] (.int x :: st) (S, I, R, z) Q := RB_iloadn rfl rfl
theorem w27_59 : RB d 27 59 [l0, l1, l2, l3, l4] (.int i :: .ref a :: st) (S, I, R, z) Q = (((S a).1 = 9 ∧ aIx i (S a).2) ∧ RB d 27 60 [l0, l1, l2, l3, l4] (.int (I a i.toNatClampNeg) :: st) (S, I, R, z) Q) := RB_iald rfl
theorem w27_60 : RB d 27 60 [l0, l1, l2, l3, l4] st (S, I, R, z) Q = RB d 27 64 [l0, l1, l2, l3, l4] st (S, I, R, z) Q := RB_goto rfl (by decide) rfl
theorem w27_63 : RB d 27 63 [l0, l1, l2, l3, l4] st (S, I, R, z) Q = RB d 27 64 [l0, l1, l2, l3, l4] (.int 0 :: st) (S, I, R, z) Q := RB_iconst rfl ki0
theorem w27_64 : RB d 27 64 [l0, l1, l2, l3, l4] (.int y :: .int x :: st) (S, I, R, z) Q = RB d 27 65 [l0, l1, l2, l3, l4] (.int (x + y) :: st) (S, I, R, z) Q := RB_iadd rfl
theorem w27_65 : RB d 27 65 [l0, l1, l2, l3, l4] (.int x :: .int i :: .ref a :: st) (S, I, R, z) Q = (((S a).1 = 9 ∧ aIx i (S a).2 ∧ 16 ≤ a) ∧ RB d 27 66 [l0, l1, l2, l3, l4] st (S, aW I a i.toNatClampNeg x, R, z) Q) := RB_iast rfl
theorem w27_66 : RB d 27 66 [l0, l1, l2, .int x, l4] st (S, I, R, z) Q = RB d 27 69 [l0, l1, l2, .int (x + 1), l4] st (S, I, R, z) Q := RB_iinc rfl rfl (Nat.le_of_ble_eq_true rfl) ki1 rfl
theorem w27_69 : RB d 27 69 [l0, l1, l2, l3, l4] st (S, I, R, z) Q = RB d 27 26 [l0, l1, l2, l3, l4] st (S, I, R, z) Q := RB_goto rfl (by decide) rfl
theorem w27_72 : RB d 27 72 [l0, l1, l2, l3, l4] st (S, I, R, z) Q = RB d 27 73 [l0, l1, l2, l3, l4] (.int 0 :: st) (S, I, R, z) Q := RB_iconst rfl ki0
theorem w27_73 : RB d 27 73 [l0, l1, l2, l3, l4] (.int x :: st) (S, I, R, z) Q = RB d 27 74 [l0, l1, l2, .int x, l4] st (S, I, R, z) Q := RB_istoren rfl (Nat.le_of_ble_eq_true rfl) rfl
theorem w27_74 : RB d 27 74 [l0, l1, l2, l3, l4] st (S, I, R, z) Q = RB d 27 75 [l0, l1, l2, l3, l4] (.int 1 :: st) (S, I, R, z) Q := RB_iconst rfl ki1
theorem w27_75 : RB d 27 75 [l0, l1, l2, l3, l4] (.int x :: st) (S, I, R, z) Q = RB d 27 77 [l0, l1, l2, l3, .int x] st (S, I, R, z) Q := RB_istore rfl (Nat.le_of_ble_eq_true rfl) rfl
theorem w27_77 : RB d 27 77 [l0, l1, l2, l3, .int x] st (S, I, R, z) Q = RB d 27 79 [l0, l1, l2, l3, .int x] (.int x :: st) (S, I, R, z) Q := RB_iload rfl rfl
theorem w27_79 : RB d 27 79 [.ref a, l1, l2, l3, l4] st (S, I, R, z) Q = RB d 27 80 [.ref a, l1, l2, l3, l4] (.ref a :: st) (S, I, R, z) Q := RB_aloadn rfl rfl
theorem w27_80 : RB d 27 80 [l0, l1, l2, l3, l4] (.ref a :: st) (S, I, R, z) Q = ((S a).1 = 2 ∧ RB d 27 83 [l0, l1, l2, l3, l4] (va_rf (R a 16) :: st) (S, I, R, z) Q) := RB_getR rfl rfl
theorem w27_83 : RB d 27 83 [l0, l1, l2, l3, l4] (.ref a :: st) (S, I, R, z) Q = (((8 ≤ (S a).1 ∧ (S a).1 ≤ 13) ∨ (S a).1 = 15) ∧ RB d 27 84 [l0, l1, l2, l3, l4] (.int (Int32.ofNat (S a).2) :: st) (S, I, R, z) Q) := RB_alen rfl
theorem w27_84 : RB d 27 84 [l0, l1, l2, l3, l4] (.int y :: .int x :: st) (S, I, R, z) Q = ((y ≤ x → RB d 27 116 [l0, l1, l2, l3, l4] st (S, I, R, z) Q) ∧ (¬ y ≤ x → RB d 27 87 [l0, l1, l2, l3, l4] st (S, I, R, z) Q)) := RB_ige rfl (by decide) rfl
theorem w27_87 : RB d 27 87 [.ref a, l1, l2, l3, l4] st (S, I, R, z) Q = RB d 27 88 [.ref a, l1, l2, l3, l4] (.ref a :: st) (S, I, R, z) Q := RB_aloadn rfl rfl
theorem w27_88 : RB d 27 88 [l0, l1, l2, l3, l4] (.ref a :: st) (S, I, R, z) Q = ((S a).1 = 2 ∧ RB d 27 91 [l0, l1, l2, l3, l4] (va_rf (R a 16) :: st) (S, I, R, z) Q) := RB_getR rfl rfl
theorem w27_91 : RB d 27 91 [l0, l1, l2, l3, .int x] st (S, I, R, z) Q = RB d 27 93 [l0, l1, l2, l3, .int x] (.int x :: st) (S, I, R, z) Q := RB_iload rfl rfl
theorem w27_93 : RB d 27 93 [l0, l1, l2, l3, l4] (.int i :: .ref a :: st) (S, I, R, z) Q = (((S a).1 = 9 ∧ aIx i (S a).2) ∧ RB d 27 94 [l0, l1, l2, l3, l4] (.int (I a i.toNatClampNeg) :: st) (S, I, R, z) Q) := RB_iald rfl
theorem w27_94 : RB d 27 94 [.ref a, l1, l2, l3, l4] st (S, I, R, z) Q = RB d 27 95 [.ref a, l1, l2, l3, l4] (.ref a :: st) (S, I, R, z) Q := RB_aloadn rfl rfl
theorem w27_95 : RB d 27 95 [l0, l1, l2, l3, l4] (.ref a :: st) (S, I, R, z) Q = ((S a).1 = 2 ∧ RB d 27 98 [l0, l1, l2, l3, l4] (va_rf (R a 16) :: st) (S, I, R, z) Q) := RB_getR rfl rfl
theorem w27_98 : RB d 27 98 [l0, l1, l2, .int x, l4] st (S, I, R, z) Q = RB d 27 99 [l0, l1, l2, .int x, l4] (.int x :: st) (S, I, R, z) Q := RB_iloadn rfl rfl
theorem w27_99 : RB d 27 99 [l0, l1, l2, l3, l4] (.int i :: .ref a :: st) (S, I, R, z) Q = (((S a).1 = 9 ∧ aIx i (S a).2) ∧ RB d 27 100 [l0, l1, l2, l3, l4] (.int (I a i.toNatClampNeg) :: st) (S, I, R, z) Q) := RB_iald rfl
theorem w27_100 : RB d 27 100 [l0, l1, l2, l3, l4] (.int y :: .int x :: st) (S, I, R, z) Q = ((x ≤ y → RB d 27 108 [l0, l1, l2, l3, l4] st (S, I, R, z) Q) ∧ (¬ x ≤ y → RB d 27 103 [l0, l1, l2, l3, l4] st (S, I, R, z) Q)) := RB_ile rfl (by decide) rfl
theorem w27_103 : RB d 27 103 [l0, l1, l2, l3, .int x] st (S, I, R, z) Q = RB d 27 105 [l0, l1, l2, l3, .int x] (.int x :: st) (S, I, R, z) Q := RB_iload rfl rfl
theorem w27_105 : RB d 27 105 [l0, l1, l2, l3, l4] st (S, I, R, z) Q = RB d 27 109 [l0, l1, l2, l3, l4] st (S, I, R, z) Q := RB_goto rfl (by decide) rfl
theorem w27_108 : RB d 27 108 [l0, l1, l2, .int x, l4] st (S, I, R, z) Q = RB d 27 109 [l0, l1, l2, .int x, l4] (.int x :: st) (S, I, R, z) Q := RB_iloadn rfl rfl
theorem w27_109 : RB d 27 109 [l0, l1, l2, l3, l4] (.int x :: st) (S, I, R, z) Q = RB d 27 110 [l0, l1, l2, .int x, l4] st (S, I, R, z) Q := RB_istoren rfl (Nat.le_of_ble_eq_true rfl) rfl
theorem w27_110 : RB d 27 110 [l0, l1, l2, l3, .int x] st (S, I, R, z) Q = RB d 27 113 [l0, l1, l2, l3, .int (x + 1)] st (S, I, R, z) Q := RB_iinc rfl rfl (Nat.le_of_ble_eq_true rfl) ki1 rfl
theorem w27_113 : RB d 27 113 [l0, l1, l2, l3, l4] st (S, I, R, z) Q = RB d 27 77 [l0, l1, l2, l3, l4] st (S, I, R, z) Q := RB_goto rfl (by decide) rfl
theorem w27_116 : RB d 27 116 [l0, l1, l2, .int x, l4] st (S, I, R, z) Q = RB d 27 117 [l0, l1, l2, .int x, l4] (.int x :: st) (S, I, R, z) Q := RB_iloadn rfl rfl
theorem w27_117 : RB d 27 117 [l0, l1, l2, l3, l4] [.int x] (S, I, R, z) Q = Q (some (.int x)) (S, I, R, z) := RB_iret rfl rfl rfl
/-! 28: HangedWord$State.nextOf -/
theorem w28_0 : RB d 28 0 [l0, l1, l2, l3, l4, l5, l6, l7] st (S, I, R, z) Q = RB d 28 1 [l0, l1, l2, l3, l4, l5, l6, l7] (.int (-1) :: st) (S, I, R, z) Q := RB_iconst rfl kim1
theorem w28_1 : RB d 28 1 [l0, l1, l2, l3, l4, l5, l6, l7] (.int x :: st) (S, I, R, z) Q = RB d 28 3 [l0, l1, l2, l3, .int x, l5, l6, l7] st (S, I, R, z) Q := RB_istore rfl (Nat.le_of_ble_eq_true rfl) rfl
theorem w28_3 : RB d 28 3 [l0, l1, l2, l3, l4, l5, l6, l7] st (S, I, R, z) Q = RB d 28 4 [l0, l1, l2, l3, l4, l5, l6, l7] (.int 0 :: st) (S, I, R, z) Q := RB_iconst rfl ki0
theorem w28_4 : RB d 28 4 [l0, l1, l2, l3, l4, l5, l6, l7] (.int x :: st) (S, I, R, z) Q = RB d 28 6 [l0, l1, l2, l3, l4, .int x, l6, l7] st (S, I, R, z) Q := RB_istore rfl (Nat.le_of_ble_eq_true rfl) rfl
theorem w28_6 : RB d 28 6 [l0, l1, l2, l3, l4, l5, l6, l7] st (S, I, R, z) Q = RB d 28 7 [l0, l1, l2, l3, l4, l5, l6, l7] (.int 0 :: st) (S, I, R, z) Q := RB_iconst rfl ki0
theorem w28_7 : RB d 28 7 [l0, l1, l2, l3, l4, l5, l6, l7] (.int x :: st) (S, I, R, z) Q = RB d 28 9 [l0, l1, l2, l3, l4, l5, .int x, l7] st (S, I, R, z) Q := RB_istore rfl (Nat.le_of_ble_eq_true rfl) rfl
theorem w28_9 : RB d 28 9 [l0, l1, l2, l3, l4, l5, .int x, l7] st (S, I, R, z) Q = RB d 28 11 [l0, l1, l2, l3, l4, l5, .int x, l7] (.int x :: st) (S, I, R, z) Q := RB_iload rfl rfl
theorem w28_11 : RB d 28 11 [l0, l1, l2, l3, l4, l5, l6, l7] st (S, I, R, z) Q = RB d 28 13 [l0, l1, l2, l3, l4, l5, l6, l7] (.int 6 :: st) (S, I, R, z) Q := RB_bipush rfl kb6
theorem w28_13 : RB d 28 13 [l0, l1, l2, l3, l4, l5, l6, l7] (.int y :: .int x :: st) (S, I, R, z) Q = ((y ≤ x → RB d 28 61 [l0, l1, l2, l3, l4, l5, l6, l7] st (S, I, R, z) Q) ∧ (¬ y ≤ x → RB d 28 16 [l0, l1, l2, l3, l4, l5, l6, l7] st (S, I, R, z) Q)) := RB_ige rfl (by decide) rfl
theorem w28_16 : RB d 28 16 [l0, l1, .int x, l3, l4, l5, l6, l7] st (S, I, R, z) Q = RB d 28 17 [l0, l1, .int x, l3, l4, l5, l6, l7] (.int x :: st) (S, I, R, z) Q := RB_iloadn rfl rfl
theorem w28_17 : RB d 28 17 [l0, l1, l2, l3, l4, l5, .int x, l7] st (S, I, R, z) Q = RB d 28 19 [l0, l1, l2, l3, l4, l5, .int x, l7] (.int x :: st) (S, I, R, z) Q := RB_iload rfl rfl
theorem w28_19 : RB d 28 19 [l0, l1, l2, l3, l4, l5, l6, l7] [.int x1, .int x0] (S, I, R, z) Q = RM d 129 [.int x0, .int x1] (S, I, R, z) (fun v τ => RB d 28 22 [l0, l1, l2, l3, l4, l5, l6, l7] (aPush v []) τ Q) := RB_callS (n := 2) (t := 1) (k := 85) (ins := .invokestatic 85) rfl rfl rfl (Nat.le_of_ble_eq_true rfl) (Nat.le_of_ble_eq_true rfl) rfl rfl
theorem w28_22 : RB d 28 22 [l0, l1, l2, l3, l4, l5, l6, l7] (.int x :: st) (S, I, R, z) Q = ((x = 0 → RB d 28 25 [l0, l1, l2, l3, l4, l5, l6, l7] st (S, I, R, z) Q) ∧ (¬ x = 0 → RB d 28 55 [l0, l1, l2, l3, l4, l5, l6, l7] st (S, I, R, z) Q)) := RB_ne0 rfl (by decide) rfl
theorem w28_25 : RB d 28 25 [.ref a, l1, l2, l3, l4, l5, l6, l7] st (S, I, R, z) Q = RB d 28 26 [.ref a, l1, l2, l3, l4, l5, l6, l7] (.ref a :: st) (S, I, R, z) Q := RB_aloadn rfl rfl
theorem w28_26 : RB d 28 26 [l0, .int x, l2, l3, l4, l5, l6, l7] st (S, I, R, z) Q = RB d 28 27 [l0, .int x, l2, l3, l4, l5, l6, l7] (.int x :: st) (S, I, R, z) Q := RB_iloadn rfl rfl
theorem w28_27 : RB d 28 27 [l0, l1, l2, l3, l4, l5, .int x, l7] st (S, I, R, z) Q = RB d 28 29 [l0, l1, l2, l3, l4, l5, .int x, l7] (.int x :: st) (S, I, R, z) Q := RB_iload rfl rfl
theorem w28_29 : RB d 28 29 [l0, l1, l2, .int x, l4, l5, l6, l7] st (S, I, R, z) Q = RB d 28 30 [l0, l1, l2, .int x, l4, l5, l6, l7] (.int x :: st) (S, I, R, z) Q := RB_iloadn rfl rfl
theorem w28_30 : RB d 28 30 [l0, l1, l2, l3, l4, l5, l6, l7] [.int x2, .int x1, .int x0, .ref a] (S, I, R, z) Q = ((S a).1 = 2 ∧ RM d 24 [.ref a, .int x0, .int x1, .int x2] (S, I, R, z) (fun v τ => RB d 28 33 [l0, l1, l2, l3, l4, l5, l6, l7] (aPush v []) τ Q)) := RB_callV (n := 4) (t := 0) (k := 139) (ins := .invokevirtual 139) rfl rfl rfl (by decide) (Nat.le_of_ble_eq_true rfl) (Nat.le_of_ble_eq_true rfl) rfl rfl
theorem w28_33 : RB d 28 33 [l0, l1, l2, l3, l4, l5, l6, l7] (.int x :: st) (S, I, R, z) Q = RB d 28 35 [l0, l1, l2, l3, l4, l5, l6, .int x] st (S, I, R, z) Q := RB_istore rfl (Nat.le_of_ble_eq_true rfl) rfl
theorem w28_35 : RB d 28 35 [l0, l1, l2, l3, .int x, l5, l6, l7] st (S, I, R, z) Q = RB d 28 37 [l0, l1, l2, l3, .int x, l5, l6, l7] (.int x :: st) (S, I, R, z) Q := RB_iload rfl rfl
theorem w28_37 : RB d 28 37 [l0, l1, l2, l3, l4, l5, l6, l7] (.int x :: st) (S, I, R, z) Q = ((x < 0 → RB d 28 47 [l0, l1, l2, l3, l4, l5, l6, l7] st (S, I, R, z) Q) ∧ (¬ x < 0 → RB d 28 40 [l0, l1, l2, l3, l4, l5, l6, l7] st (S, I, R, z) Q)) := RB_lt0 rfl (by decide) rfl
theorem w28_40 : RB d 28 40 [l0, l1, l2, l3, l4, l5, l6, .int x] st (S, I, R, z) Q = RB d 28 42 [l0, l1, l2, l3, l4, l5, l6, .int x] (.int x :: st) (S, I, R, z) Q := RB_iload rfl rfl
theorem w28_42 : RB d 28 42 [l0, l1, l2, l3, l4, .int x, l6, l7] st (S, I, R, z) Q = RB d 28 44 [l0, l1, l2, l3, l4, .int x, l6, l7] (.int x :: st) (S, I, R, z) Q := RB_iload rfl rfl
theorem w28_44 : RB d 28 44 [l0, l1, l2, l3, l4, l5, l6, l7] (.int y :: .int x :: st) (S, I, R, z) Q = ((x ≤ y → RB d 28 55 [l0, l1, l2, l3, l4, l5, l6, l7] st (S, I, R, z) Q) ∧ (¬ x ≤ y → RB d 28 47 [l0, l1, l2, l3, l4, l5, l6, l7] st (S, I, R, z) Q)) := RB_ile rfl (by decide) rfl
theorem w28_47 : RB d 28 47 [l0, l1, l2, l3, l4, l5, .int x, l7] st (S, I, R, z) Q = RB d 28 49 [l0, l1, l2, l3, l4, l5, .int x, l7] (.int x :: st) (S, I, R, z) Q := RB_iload rfl rfl
theorem w28_49 : RB d 28 49 [l0, l1, l2, l3, l4, l5, l6, l7] (.int x :: st) (S, I, R, z) Q = RB d 28 51 [l0, l1, l2, l3, .int x, l5, l6, l7] st (S, I, R, z) Q := RB_istore rfl (Nat.le_of_ble_eq_true rfl) rfl
theorem w28_51 : RB d 28 51 [l0, l1, l2, l3, l4, l5, l6, .int x] st (S, I, R, z) Q = RB d 28 53 [l0, l1, l2, l3, l4, l5, l6, .int x] (.int x :: st) (S, I, R, z) Q := RB_iload rfl rfl
theorem w28_53 : RB d 28 53 [l0, l1, l2, l3, l4, l5, l6, l7] (.int x :: st) (S, I, R, z) Q = RB d 28 55 [l0, l1, l2, l3, l4, .int x, l6, l7] st (S, I, R, z) Q := RB_istore rfl (Nat.le_of_ble_eq_true rfl) rfl
theorem w28_55 : RB d 28 55 [l0, l1, l2, l3, l4, l5, .int x, l7] st (S, I, R, z) Q = RB d 28 58 [l0, l1, l2, l3, l4, l5, .int (x + 1), l7] st (S, I, R, z) Q := RB_iinc rfl rfl (Nat.le_of_ble_eq_true rfl) ki1 rfl
theorem w28_58 : RB d 28 58 [l0, l1, l2, l3, l4, l5, l6, l7] st (S, I, R, z) Q = RB d 28 9 [l0, l1, l2, l3, l4, l5, l6, l7] st (S, I, R, z) Q := RB_goto rfl (by decide) rfl
theorem w28_61 : RB d 28 61 [l0, l1, l2, l3, .int x, l5, l6, l7] st (S, I, R, z) Q = RB d 28 63 [l0, l1, l2, l3, .int x, l5, l6, l7] (.int x :: st) (S, I, R, z) Q := RB_iload rfl rfl
theorem w28_63 : RB d 28 63 [l0, l1, l2, l3, l4, l5, l6, l7] [.int x] (S, I, R, z) Q = Q (some (.int x)) (S, I, R, z) := RB_iret rfl rfl rfl
/-! 29: HangedWord$State.begin -/
theorem w29_0 : RB d 29 0 [.ref a, l1] st (S, I, R, z) Q = RB d 29 1 [.ref a, l1] (.ref a :: st) (S, I, R, z) Q := RB_aloadn rfl rfl
theorem w29_1 : RB d 29 1 [l0, .int x] st (S, I, R, z) Q = RB d 29 2 [l0, .int x] (.int x :: st) (S, I, R, z) Q := RB_iloadn rfl rfl
theorem w29_2 : RB d 29 2 [l0, l1] (.int x :: .ref a :: st) (S, I, R, z) Q = (((S a).1 = 2 ∧ 2 < 8 ∧ 16 ≤ a) ∧ RB d 29 5 [l0, l1] st (S, aW I a 7 x, R, z) Q) := RB_putI rfl rfl (Or.inl rfl)
theorem w29_5 : RB d 29 5 [.ref a, l1] st (S, I, R, z) Q = RB d 29 6 [.ref a, l1] (.ref a :: st) (S, I, R, z) Q := RB_aloadn rfl rfl
theorem w29_6 : RB d 29 6 [l0, l1] st (S, I, R, z) Q = RB d 29 7 [l0, l1] (.int 0 :: st) (S, I, R, z) Q := RB_iconst rfl ki0
theorem w29_7 : RB d 29 7 [l0, l1] (.int x :: .ref a :: st) (S, I, R, z) Q = (((S a).1 = 2 ∧ 2 < 8 ∧ 16 ≤ a) ∧ RB d 29 10 [l0, l1] st (S, aW I a 8 x, R, z) Q) := RB_putI rfl rfl (Or.inl rfl)
theorem w29_10 : RB d 29 10 [.ref a, l1] st (S, I, R, z) Q = RB d 29 11 [.ref a, l1] (.ref a :: st) (S, I, R, z) Q := RB_aloadn rfl rfl
theorem w29_11 : RB d 29 11 [l0, l1] st (S, I, R, z) Q = RB d 29 12 [l0, l1] (.int 0 :: st) (S, I, R, z) Q := RB_iconst rfl ki0
theorem w29_12 : RB d 29 12 [l0, l1] (.int x :: .ref a :: st) (S, I, R, z) Q = (((S a).1 = 2 ∧ 2 < 8 ∧ 16 ≤ a) ∧ RB d 29 15 [l0, l1] st (S, aW I a 9 x, R, z) Q) := RB_putI rfl rfl (Or.inl rfl)
theorem w29_15 : RB d 29 15 [l0, l1] [] (S, I, R, z) Q = Q none (S, I, R, z) := RB_ret rfl rfl
/-! 30: HangedWord$State.isHad -/
theorem w30_0 : RB d 30 0 [.ref a] st (S, I, R, z) Q = RB d 30 1 [.ref a] (.ref a :: st) (S, I, R, z) Q := RB_aloadn rfl rfl
theorem w30_1 : RB d 30 1 [l0] (.ref a :: st) (S, I, R, z) Q = ((S a).1 = 2 ∧ RB d 30 4 [l0] (.int (I a 7) :: st) (S, I, R, z) Q) := RB_getI rfl rfl
theorem w30_4 : RB d 30 4 [l0] (.int x :: st) (S, I, R, z) Q = ((x < 0 → RB d 30 29 [l0] st (S, I, R, z) Q) ∧ (¬ x < 0 → RB d 30 7 [l0] st (S, I, R, z) Q)) := RB_lt0 rfl (by decide) rfl
theorem w30_7 : RB d 30 7 [.ref a] st (S, I, R, z) Q = RB d 30 8 [.ref a] (.ref a :: st) (S, I, R, z) Q := RB_aloadn rfl rfl
theorem w30_8 : RB d 30 8 [.ref a] st (S, I, R, z) Q = RB d 30 9 [.ref a] (.ref a :: st) (S, I, R, z) Q := RB_aloadn rfl rfl
theorem w30_9 : RB d 30 9 [l0] (.ref a :: st) (S, I, R, z) Q = ((S a).1 = 2 ∧ RB d 30 12 [l0] (.int (I a 7) :: st) (S, I, R, z) Q) := RB_getI rfl rfl
theorem w30_12 : RB d 30 12 [l0] [.int x0, .ref a] (S, I, R, z) Q = ((S a).1 = 2 ∧ RM d 15 [.ref a, .int x0] (S, I, R, z) (fun v τ => RB d 30 15 [l0] (aPush v []) τ Q)) := RB_callV (n := 2) (t := 0) (k := 96) (ins := .invokevirtual 96) rfl rfl rfl (by decide) (Nat.le_of_ble_eq_true rfl) (Nat.le_of_ble_eq_true rfl) rfl rfl
theorem w30_15 : RB d 30 15 [.ref a] st (S, I, R, z) Q = RB d 30 16 [.ref a] (.ref a :: st) (S, I, R, z) Q := RB_aloadn rfl rfl
theorem w30_16 : RB d 30 16 [l0] (.ref a :: st) (S, I, R, z) Q = ((S a).1 = 2 ∧ RB d 30 19 [l0] (.int (I a 8) :: st) (S, I, R, z) Q) := RB_getI rfl rfl
theorem w30_19 : RB d 30 19 [l0] st (S, I, R, z) Q = RB d 30 20 [l0] (.int (-1) :: st) (S, I, R, z) Q := RB_iconst rfl kim1
theorem w30_20 : RB d 30 20 [l0] (.int y :: .int x :: st) (S, I, R, z) Q = RB d 30 21 [l0] (.int (x ^^^ y) :: st) (S, I, R, z) Q := RB_ixor rfl
theorem w30_21 : RB d 30 21 [l0] (.int y :: .int x :: st) (S, I, R, z) Q = RB d 30 22 [l0] (.int (x &&& y) :: st) (S, I, R, z) Q := RB_iand rfl
theorem w30_22 : RB d 30 22 [l0] (.int x :: st) (S, I, R, z) Q = ((x = 0 → RB d 30 25 [l0] st (S, I, R, z) Q) ∧ (¬ x = 0 → RB d 30 29 [l0] st (S, I, R, z) Q)) := RB_ne0 rfl (by decide) rfl
theorem w30_25 : RB d 30 25 [l0] st (S, I, R, z) Q = RB d 30 26 [l0] (.int 1 :: st) (S, I, R, z) Q := RB_iconst rfl ki1
theorem w30_26 : RB d 30 26 [l0] st (S, I, R, z) Q = RB d 30 30 [l0] st (S, I, R, z) Q := RB_goto rfl (by decide) rfl
theorem w30_29 : RB d 30 29 [l0] st (S, I, R, z) Q = RB d 30 30 [l0] (.int 0 :: st) (S, I, R, z) Q := RB_iconst rfl ki0
theorem w30_30 : RB d 30 30 [l0] [.int x] (S, I, R, z) Q = (narrow .boolean (.int x) = .int x ∧ Q (some (.int x)) (S, I, R, z)) := RB_zret rfl rfl (Or.inl rfl)
/-! 31: HangedWord$State.isHung -/
theorem w31_0 : RB d 31 0 [.ref a] st (S, I, R, z) Q = RB d 31 1 [.ref a] (.ref a :: st) (S, I, R, z) Q := RB_aloadn rfl rfl
theorem w31_1 : RB d 31 1 [l0] [.ref a] (S, I, R, z) Q = ((S a).1 = 2 ∧ RM d 30 [.ref a] (S, I, R, z) (fun v τ => RB d 31 4 [l0] (aPush v []) τ Q)) := RB_callV (n := 1) (t := 0) (k := 142) (ins := .invokevirtual 142) rfl rfl rfl (by decide) (Nat.le_of_ble_eq_true rfl) (Nat.le_of_ble_eq_true rfl) rfl rfl
theorem w31_4 : RB d 31 4 [l0] (.int x :: st) (S, I, R, z) Q = ((x = 0 → RB d 31 7 [l0] st (S, I, R, z) Q) ∧ (¬ x = 0 → RB d 31 22 [l0] st (S, I, R, z) Q)) := RB_ne0 rfl (by decide) rfl
theorem w31_7 : RB d 31 7 [.ref a] st (S, I, R, z) Q = RB d 31 8 [.ref a] (.ref a :: st) (S, I, R, z) Q := RB_aloadn rfl rfl
theorem w31_8 : RB d 31 8 [l0] (.ref a :: st) (S, I, R, z) Q = ((S a).1 = 2 ∧ RB d 31 11 [l0] (.int (I a 9) :: st) (S, I, R, z) Q) := RB_getI rfl rfl
theorem w31_11 : RB d 31 11 [.ref a] st (S, I, R, z) Q = RB d 31 12 [.ref a] (.ref a :: st) (S, I, R, z) Q := RB_aloadn rfl rfl
theorem w31_12 : RB d 31 12 [l0] (.ref a :: st) (S, I, R, z) Q = ((S a).1 = 2 ∧ RB d 31 15 [l0] (.int (I a 10) :: st) (S, I, R, z) Q) := RB_getI rfl rfl
theorem w31_15 : RB d 31 15 [l0] (.int y :: .int x :: st) (S, I, R, z) Q = ((x < y → RB d 31 22 [l0] st (S, I, R, z) Q) ∧ (¬ x < y → RB d 31 18 [l0] st (S, I, R, z) Q)) := RB_ilt rfl (by decide) rfl
theorem w31_18 : RB d 31 18 [l0] st (S, I, R, z) Q = RB d 31 19 [l0] (.int 1 :: st) (S, I, R, z) Q := RB_iconst rfl ki1
theorem w31_19 : RB d 31 19 [l0] st (S, I, R, z) Q = RB d 31 23 [l0] st (S, I, R, z) Q := RB_goto rfl (by decide) rfl
theorem w31_22 : RB d 31 22 [l0] st (S, I, R, z) Q = RB d 31 23 [l0] (.int 0 :: st) (S, I, R, z) Q := RB_iconst rfl ki0
theorem w31_23 : RB d 31 23 [l0] [.int x] (S, I, R, z) Q = (narrow .boolean (.int x) = .int x ∧ Q (some (.int x)) (S, I, R, z)) := RB_zret rfl rfl (Or.inl rfl)
/-! 32: HangedWord$State.isOpenTo -/
theorem w32_0 : RB d 32 0 [.ref a, l1] st (S, I, R, z) Q = RB d 32 1 [.ref a, l1] (.ref a :: st) (S, I, R, z) Q := RB_aloadn rfl rfl
theorem w32_1 : RB d 32 1 [l0, l1] (.ref a :: st) (S, I, R, z) Q = ((S a).1 = 2 ∧ RB d 32 4 [l0, l1] (.int (I a 7) :: st) (S, I, R, z) Q) := RB_getI rfl rfl
theorem w32_4 : RB d 32 4 [l0, l1] (.int x :: st) (S, I, R, z) Q = ((x < 0 → RB d 32 36 [l0, l1] st (S, I, R, z) Q) ∧ (¬ x < 0 → RB d 32 7 [l0, l1] st (S, I, R, z) Q)) := RB_lt0 rfl (by decide) rfl
theorem w32_7 : RB d 32 7 [.ref a, l1] st (S, I, R, z) Q = RB d 32 8 [.ref a, l1] (.ref a :: st) (S, I, R, z) Q := RB_aloadn rfl rfl
theorem w32_8 : RB d 32 8 [l0, l1] (.ref a :: st) (S, I, R, z) Q = ((S a).1 = 2 ∧ RB d 32 11 [l0, l1] (.int (I a 8) :: st) (S, I, R, z) Q) := RB_getI rfl rfl
theorem w32_11 : RB d 32 11 [l0, .int x] st (S, I, R, z) Q = RB d 32 12 [l0, .int x] (.int x :: st) (S, I, R, z) Q := RB_iloadn rfl rfl
theorem w32_12 : RB d 32 12 [l0, l1] [.int x1, .int x0] (S, I, R, z) Q = RM d 129 [.int x0, .int x1] (S, I, R, z) (fun v τ => RB d 32 15 [l0, l1] (aPush v []) τ Q) := RB_callS (n := 2) (t := 1) (k := 85) (ins := .invokestatic 85) rfl rfl rfl (Nat.le_of_ble_eq_true rfl) (Nat.le_of_ble_eq_true rfl) rfl rfl
theorem w32_15 : RB d 32 15 [l0, l1] (.int x :: st) (S, I, R, z) Q = ((x = 0 → RB d 32 18 [l0, l1] st (S, I, R, z) Q) ∧ (¬ x = 0 → RB d 32 36 [l0, l1] st (S, I, R, z) Q)) := RB_ne0 rfl (by decide) rfl
theorem w32_18 : RB d 32 18 [.ref a, l1] st (S, I, R, z) Q = RB d 32 19 [.ref a, l1] (.ref a :: st) (S, I, R, z) Q := RB_aloadn rfl rfl
theorem w32_19 : RB d 32 19 [l0, l1] [.ref a] (S, I, R, z) Q = ((S a).1 = 2 ∧ RM d 30 [.ref a] (S, I, R, z) (fun v τ => RB d 32 22 [l0, l1] (aPush v []) τ Q)) := RB_callV (n := 1) (t := 0) (k := 142) (ins := .invokevirtual 142) rfl rfl rfl (by decide) (Nat.le_of_ble_eq_true rfl) (Nat.le_of_ble_eq_true rfl) rfl rfl
theorem w32_22 : RB d 32 22 [l0, l1] (.int x :: st) (S, I, R, z) Q = ((x = 0 → RB d 32 25 [l0, l1] st (S, I, R, z) Q) ∧ (¬ x = 0 → RB d 32 36 [l0, l1] st (S, I, R, z) Q)) := RB_ne0 rfl (by decide) rfl
theorem w32_25 : RB d 32 25 [.ref a, l1] st (S, I, R, z) Q = RB d 32 26 [.ref a, l1] (.ref a :: st) (S, I, R, z) Q := RB_aloadn rfl rfl
theorem w32_26 : RB d 32 26 [l0, l1] [.ref a] (S, I, R, z) Q = ((S a).1 = 2 ∧ RM d 31 [.ref a] (S, I, R, z) (fun v τ => RB d 32 29 [l0, l1] (aPush v []) τ Q)) := RB_callV (n := 1) (t := 0) (k := 146) (ins := .invokevirtual 146) rfl rfl rfl (by decide) (Nat.le_of_ble_eq_true rfl) (Nat.le_of_ble_eq_true rfl) rfl rfl
theorem w32_29 : RB d 32 29 [l0, l1] (.int x :: st) (S, I, R, z) Q = ((x = 0 → RB d 32 32 [l0, l1] st (S, I, R, z) Q) ∧ (¬ x = 0 → RB d 32 36 [l0, l1] st (S, I, R, z) Q)) := RB_ne0 rfl (by decide) rfl
theorem w32_32 : RB d 32 32 [l0, l1] st (S, I, R, z) Q = RB d 32 33 [l0, l1] (.int 1 :: st) (S, I, R, z) Q := RB_iconst rfl ki1
theorem w32_33 : RB d 32 33 [l0, l1] st (S, I, R, z) Q = RB d 32 37 [l0, l1] st (S, I, R, z) Q := RB_goto rfl (by decide) rfl
theorem w32_36 : RB d 32 36 [l0, l1] st (S, I, R, z) Q = RB d 32 37 [l0, l1] (.int 0 :: st) (S, I, R, z) Q := RB_iconst rfl ki0
theorem w32_37 : RB d 32 37 [l0, l1] [.int x] (S, I, R, z) Q = (narrow .boolean (.int x) = .int x ∧ Q (some (.int x)) (S, I, R, z)) := RB_zret rfl rfl (Or.inl rfl)
/-! 33: HangedWord$State.askFor -/
theorem w33_0 : RB d 33 0 [.ref a, l1, l2] st (S, I, R, z) Q = RB d 33 1 [.ref a, l1, l2] (.ref a :: st) (S, I, R, z) Q := RB_aloadn rfl rfl
theorem w33_1 : RB d 33 1 [l0, l1, l2] (v :: st) (S, I, R, z) Q = RB d 33 2 [l0, l1, l2] (v :: v :: st) (S, I, R, z) Q := RB_dup rfl
theorem w33_2 : RB d 33 2 [l0, l1, l2] (.ref a :: st) (S, I, R, z) Q = ((S a).1 = 2 ∧ RB d 33 5 [l0, l1, l2] (.int (I a 8) :: st) (S, I, R, z) Q) := RB_getI rfl rfl
theorem w33_5 : RB d 33 5 [l0, l1, l2] st (S, I, R, z) Q = RB d 33 6 [l0, l1, l2] (.int 1 :: st) (S, I, R, z) Q := RB_iconst rfl ki1
theorem w33_6 : RB d 33 6 [l0, .int x, l2] st (S, I, R, z) Q = RB d 33 7 [l0, .int x, l2] (.int x :: st) (S, I, R, z) Q := RB_iloadn rfl rfl
theorem w33_7 : RB d 33 7 [l0, l1, l2] (.int y :: .int x :: st) (S, I, R, z) Q = RB d 33 8 [l0, l1, l2] (.int (x <<< (y &&& 31)) :: st) (S, I, R, z) Q := RB_ishl rfl
theorem w33_8 : RB d 33 8 [l0, l1, l2] (.int y :: .int x :: st) (S, I, R, z) Q = RB d 33 9 [l0, l1, l2] (.int (x ||| y) :: st) (S, I, R, z) Q := RB_ior rfl
theorem w33_9 : RB d 33 9 [l0, l1, l2] (.int x :: .ref a :: st) (S, I, R, z) Q = (((S a).1 = 2 ∧ 2 < 8 ∧ 16 ≤ a) ∧ RB d 33 12 [l0, l1, l2] st (S, aW I a 8 x, R, z) Q) := RB_putI rfl rfl (Or.inl rfl)
theorem w33_12 : RB d 33 12 [.ref a, l1, l2] st (S, I, R, z) Q = RB d 33 13 [.ref a, l1, l2] (.ref a :: st) (S, I, R, z) Q := RB_aloadn rfl rfl
theorem w33_13 : RB d 33 13 [.ref a, l1, l2] st (S, I, R, z) Q = RB d 33 14 [.ref a, l1, l2] (.ref a :: st) (S, I, R, z) Q := RB_aloadn rfl rfl
theorem w33_14 : RB d 33 14 [l0, l1, l2] (.ref a :: st) (S, I, R, z) Q = ((S a).1 = 2 ∧ RB d 33 17 [l0, l1, l2] (.int (I a 7) :: st) (S, I, R, z) Q) := RB_getI rfl rfl
theorem w33_17 : RB d 33 17 [l0, .int x, l2] st (S, I, R, z) Q = RB d 33 18 [l0, .int x, l2] (.int x :: st) (S, I, R, z) Q := RB_iloadn rfl rfl
theorem w33_18 : RB d 33 18 [l0, l1, l2] [.int x1, .int x0, .ref a] (S, I, R, z) Q = ((S a).1 = 2 ∧ RM d 14 [.ref a, .int x0, .int x1] (S, I, R, z) (fun v τ => RB d 33 21 [l0, l1, l2] (aPush v []) τ Q)) := RB_callV (n := 3) (t := 0) (k := 81) (ins := .invokevirtual 81) rfl rfl rfl (by decide) (Nat.le_of_ble_eq_true rfl) (Nat.le_of_ble_eq_true rfl) rfl rfl
theorem w33_21 : RB d 33 21 [l0, l1, l2] (.int x :: st) (S, I, R, z) Q = RB d 33 22 [l0, l1, .int x] st (S, I, R, z) Q := RB_istoren rfl (Nat.le_of_ble_eq_true rfl) rfl
theorem w33_22 : RB d 33 22 [.ref a, l1, l2] st (S, I, R, z) Q = RB d 33 23 [.ref a, l1, l2] (.ref a :: st) (S, I, R, z) Q := RB_aloadn rfl rfl
theorem w33_23 : RB d 33 23 [l0, l1, l2] (v :: st) (S, I, R, z) Q = RB d 33 24 [l0, l1, l2] (v :: v :: st) (S, I, R, z) Q := RB_dup rfl
theorem w33_24 : RB d 33 24 [l0, l1, l2] (.ref a :: st) (S, I, R, z) Q = ((S a).1 = 2 ∧ RB d 33 27 [l0, l1, l2] (.int (I a 9) :: st) (S, I, R, z) Q) := RB_getI rfl rfl
theorem w33_27 : RB d 33 27 [l0, l1, .int x] st (S, I, R, z) Q = RB d 33 28 [l0, l1, .int x] (.int x :: st) (S, I, R, z) Q := RB_iloadn rfl rfl
theorem w33_28 : RB d 33 28 [l0, l1, l2] (.int x :: st) (S, I, R, z) Q = ((x = 0 → RB d 33 31 [l0, l1, l2] st (S, I, R, z) Q) ∧ (¬ x = 0 → RB d 33 35 [l0, l1, l2] st (S, I, R, z) Q)) := RB_ne0 rfl (by decide) rfl
theorem w33_31 : RB d 33 31 [l0, l1, l2] st (S, I, R, z) Q = RB d 33 32 [l0, l1, l2] (.int 1 :: st) (S, I, R, z) Q := RB_iconst rfl ki1
theorem w33_32 : RB d 33 32 [l0, l1, l2] st (S, I, R, z) Q = RB d 33 36 [l0, l1, l2] st (S, I, R, z) Q := RB_goto rfl (by decide) rfl
theorem w33_35 : RB d 33 35 [l0, l1, l2] st (S, I, R, z) Q = RB d 33 36 [l0, l1, l2] (.int 0 :: st) (S, I, R, z) Q := RB_iconst rfl ki0
theorem w33_36 : RB d 33 36 [l0, l1, l2] (.int y :: .int x :: st) (S, I, R, z) Q = RB d 33 37 [l0, l1, l2] (.int (x + y) :: st) (S, I, R, z) Q := RB_iadd rfl
theorem w33_37 : RB d 33 37 [l0, l1, l2] (.int x :: .ref a :: st) (S, I, R, z) Q = (((S a).1 = 2 ∧ 2 < 8 ∧ 16 ≤ a) ∧ RB d 33 40 [l0, l1, l2] st (S, aW I a 9 x, R, z) Q) := RB_putI rfl rfl (Or.inl rfl)
theorem w33_40 : RB d 33 40 [l0, l1, .int x] st (S, I, R, z) Q = RB d 33 41 [l0, l1, .int x] (.int x :: st) (S, I, R, z) Q := RB_iloadn rfl rfl
theorem w33_41 : RB d 33 41 [l0, l1, l2] [.int x] (S, I, R, z) Q = Q (some (.int x)) (S, I, R, z) := RB_iret rfl rfl rfl
/-! 34: HangedWord$State.playBy -/
theorem w34_0 : RB d 34 0 [l0, l1, l2, l3] st (S, I, R, z) Q = RB d 34 1 [l0, l1, l2, l3] (.int 0 :: st) (S, I, R, z) Q := RB_iconst rfl ki0
theorem w34_1 : RB d 34 1 [l0, l1, l2, l3] (.int x :: st) (S, I, R, z) Q = RB d 34 2 [l0, l1, .int x, l3] st (S, I, R, z) Q := RB_istoren rfl (Nat.le_of_ble_eq_true rfl) rfl
theorem w34_2 : RB d 34 2 [l0, l1, .int x, l3] st (S, I, R, z) Q = RB d 34 3 [l0, l1, .int x, l3] (.int x :: st) (S, I, R, z) Q := RB_iloadn rfl rfl
theorem w34_3 : RB d 34 3 [l0, l1, l2, l3] st (S, I, R, z) Q = RB d 34 5 [l0, l1, l2, l3] (.int 6 :: st) (S, I, R, z) Q := RB_bipush rfl kb6
theorem w34_5 : RB d 34 5 [l0, l1, l2, l3] (.int y :: .int x :: st) (S, I, R, z) Q = ((y ≤ x → RB d 34 47 [l0, l1, l2, l3] st (S, I, R, z) Q) ∧ (¬ y ≤ x → RB d 34 8 [l0, l1, l2, l3] st (S, I, R, z) Q)) := RB_ige rfl (by decide) rfl
theorem w34_8 : RB d 34 8 [.ref a, l1, l2, l3] st (S, I, R, z) Q = RB d 34 9 [.ref a, l1, l2, l3] (.ref a :: st) (S, I, R, z) Q := RB_aloadn rfl rfl
theorem w34_9 : RB d 34 9 [l0, .int x, l2, l3] st (S, I, R, z) Q = RB d 34 10 [l0, .int x, l2, l3] (.int x :: st) (S, I, R, z) Q := RB_iloadn rfl rfl
theorem w34_10 : RB d 34 10 [.ref a, l1, l2, l3] st (S, I, R, z) Q = RB d 34 11 [.ref a, l1, l2, l3] (.ref a :: st) (S, I, R, z) Q := RB_aloadn rfl rfl
theorem w34_11 : RB d 34 11 [l0, l1, l2, l3] (.ref a :: st) (S, I, R, z) Q = ((S a).1 = 2 ∧ RB d 34 14 [l0, l1, l2, l3] (.int (I a 8) :: st) (S, I, R, z) Q) := RB_getI rfl rfl
theorem w34_14 : RB d 34 14 [.ref a, l1, l2, l3] st (S, I, R, z) Q = RB d 34 15 [.ref a, l1, l2, l3] (.ref a :: st) (S, I, R, z) Q := RB_aloadn rfl rfl
theorem w34_15 : RB d 34 15 [l0, l1, l2, l3] [.ref a, s0, s1, s2] (S, I, R, z) Q = ((S a).1 = 2 ∧ RM d 21 [.ref a] (S, I, R, z) (fun v τ => RB d 34 18 [l0, l1, l2, l3] (aPush v [s0, s1, s2]) τ Q)) := RB_callV (n := 1) (t := 0) (k := 100) (ins := .invokevirtual 100) rfl rfl rfl (by decide) (Nat.le_of_ble_eq_true rfl) (Nat.le_of_ble_eq_true rfl) rfl rfl
theorem w34_18 : RB d 34 18 [l0, l1, l2, l3] [.int x2, .int x1, .int x0, .ref a] (S, I, R, z) Q = ((S a).1 = 2 ∧ RM d 28 [.ref a, .int x0, .int x1, .int x2] (S, I, R, z) (fun v τ => RB d 34 21 [l0, l1, l2, l3] (aPush v []) τ Q)) := RB_callV (n := 4) (t := 0) (k := 149) (ins := .invokevirtual 149) rfl rfl rfl (by decide) (Nat.le_of_ble_eq_true rfl) (Nat.le_of_ble_eq_true rfl) rfl rfl
theorem w34_21 : RB d 34 21 [l0, l1, l2, l3] (.int x :: st) (S, I, R, z) Q = RB d 34 22 [l0, l1, l2, .int x] st (S, I, R, z) Q := RB_istoren rfl (Nat.le_of_ble_eq_true rfl) rfl
theorem w34_22 : RB d 34 22 [l0, l1, l2, .int x] st (S, I, R, z) Q = RB d 34 23 [l0, l1, l2, .int x] (.int x :: st) (S, I, R, z) Q := RB_iloadn rfl rfl
theorem w34_23 : RB d 34 23 [l0, l1, l2, l3] (.int x :: st) (S, I, R, z) Q = ((x < 0 → RB d 34 34 [l0, l1, l2, l3] st (S, I, R, z) Q) ∧ (¬ x < 0 → RB d 34 26 [l0, l1, l2, l3] st (S, I, R, z) Q)) := RB_lt0 rfl (by decide) rfl
theorem w34_26 : RB d 34 26 [.ref a, l1, l2, l3] st (S, I, R, z) Q = RB d 34 27 [.ref a, l1, l2, l3] (.ref a :: st) (S, I, R, z) Q := RB_aloadn rfl rfl
theorem w34_27 : RB d 34 27 [l0, l1, l2, .int x] st (S, I, R, z) Q = RB d 34 28 [l0, l1, l2, .int x] (.int x :: st) (S, I, R, z) Q := RB_iloadn rfl rfl
theorem w34_28 : RB d 34 28 [l0, l1, l2, l3] [.int x0, .ref a] (S, I, R, z) Q = ((S a).1 = 2 ∧ RM d 32 [.ref a, .int x0] (S, I, R, z) (fun v τ => RB d 34 31 [l0, l1, l2, l3] (aPush v []) τ Q)) := RB_callV (n := 2) (t := 0) (k := 152) (ins := .invokevirtual 152) rfl rfl rfl (by decide) (Nat.le_of_ble_eq_true rfl) (Nat.le_of_ble_eq_true rfl) rfl rfl
theorem w34_31 : RB d 34 31 [l0, l1, l2, l3] (.int x :: st) (S, I, R, z) Q = ((x = 0 → RB d 34 34 [l0, l1, l2, l3] st (S, I, R, z) Q) ∧ (¬ x = 0 → RB d 34 35 [l0, l1, l2, l3] st (S, I, R, z) Q)) := RB_ne0 rfl (by decide) rfl
theorem w34_34 : RB d 34 34 [l0, l1, l2, l3] [] (S, I, R, z) Q = Q none (S, I, R, z) := RB_ret rfl rfl
theorem w34_35 : RB d 34 35 [.ref a, l1, l2, l3] st (S, I, R, z) Q = RB d 34 36 [.ref a, l1, l2, l3] (.ref a :: st) (S, I, R, z) Q := RB_aloadn rfl rfl
theorem w34_36 : RB d 34 36 [l0, l1, l2, .int x] st (S, I, R, z) Q = RB d 34 37 [l0, l1, l2, .int x] (.int x :: st) (S, I, R, z) Q := RB_iloadn rfl rfl
theorem w34_37 : RB d 34 37 [l0, l1, l2, l3] [.int x0, .ref a] (S, I, R, z) Q = ((S a).1 = 2 ∧ RM d 33 [.ref a, .int x0] (S, I, R, z) (fun v τ => RB d 34 40 [l0, l1, l2, l3] (aPush v []) τ Q)) := RB_callV (n := 2) (t := 0) (k := 156) (ins := .invokevirtual 156) rfl rfl rfl (by decide) (Nat.le_of_ble_eq_true rfl) (Nat.le_of_ble_eq_true rfl) rfl rfl
theorem w34_40 : RB d 34 40 [l0, l1, l2, l3] (v :: st) (S, I, R, z) Q = RB d 34 41 [l0, l1, l2, l3] st (S, I, R, z) Q := RB_pop rfl
theorem w34_41 : RB d 34 41 [l0, l1, .int x, l3] st (S, I, R, z) Q = RB d 34 44 [l0, l1, .int (x + 1), l3] st (S, I, R, z) Q := RB_iinc rfl rfl (Nat.le_of_ble_eq_true rfl) ki1 rfl
theorem w34_44 : RB d 34 44 [l0, l1, l2, l3] st (S, I, R, z) Q = RB d 34 2 [l0, l1, l2, l3] st (S, I, R, z) Q := RB_goto rfl (by decide) rfl
theorem w34_47 : RB d 34 47 [l0, l1, l2, l3] [] (S, I, R, z) Q = Q none (S, I, R, z) := RB_ret rfl rfl
/-! 35: HangedWord$State.chooseHidden -/
theorem w35_0 : RB d 35 0 [l0, l1, l2] st (S, I, R, z) Q = RB d 35 1 [l0, l1, l2] (.int 0 :: st) (S, I, R, z) Q := RB_iconst rfl ki0
theorem w35_1 : RB d 35 1 [l0, l1, l2] (.int x :: st) (S, I, R, z) Q = RB d 35 2 [l0, .int x, l2] st (S, I, R, z) Q := RB_istoren rfl (Nat.le_of_ble_eq_true rfl) rfl
theorem w35_2 : RB d 35 2 [l0, l1, l2] st (S, I, R, z) Q = RB d 35 3 [l0, l1, l2] (.int 0 :: st) (S, I, R, z) Q := RB_iconst rfl ki0
theorem w35_3 : RB d 35 3 [l0, l1, l2] (.int x :: st) (S, I, R, z) Q = RB d 35 4 [l0, l1, .int x] st (S, I, R, z) Q := RB_istoren rfl (Nat.le_of_ble_eq_true rfl) rfl
theorem w35_4 : RB d 35 4 [l0, l1, .int x] st (S, I, R, z) Q = RB d 35 5 [l0, l1, .int x] (.int x :: st) (S, I, R, z) Q := RB_iloadn rfl rfl
theorem w35_5 : RB d 35 5 [.ref a, l1, l2] st (S, I, R, z) Q = RB d 35 6 [.ref a, l1, l2] (.ref a :: st) (S, I, R, z) Q := RB_aloadn rfl rfl
theorem w35_6 : RB d 35 6 [l0, l1, l2] (.ref a :: st) (S, I, R, z) Q = ((S a).1 = 2 ∧ RB d 35 9 [l0, l1, l2] (.int (I a 3) :: st) (S, I, R, z) Q) := RB_getI rfl rfl
theorem w35_9 : RB d 35 9 [l0, l1, l2] (.int y :: .int x :: st) (S, I, R, z) Q = ((y ≤ x → RB d 35 26 [l0, l1, l2] st (S, I, R, z) Q) ∧ (¬ y ≤ x → RB d 35 12 [l0, l1, l2] st (S, I, R, z) Q)) := RB_ige rfl (by decide) rfl
theorem w35_12 : RB d 35 12 [l0, .int x, l2] st (S, I, R, z) Q = RB d 35 13 [l0, .int x, l2] (.int x :: st) (S, I, R, z) Q := RB_iloadn rfl rfl
theorem w35_13 : RB d 35 13 [.ref a, l1, l2] st (S, I, R, z) Q = RB d 35 14 [.ref a, l1, l2] (.ref a :: st) (S, I, R, z) Q := RB_aloadn rfl rfl
theorem w35_14 : RB d 35 14 [l0, l1, .int x] st (S, I, R, z) Q = RB d 35 15 [l0, l1, .int x] (.int x :: st) (S, I, R, z) Q := RB_iloadn rfl rfl
theorem w35_15 : RB d 35 15 [l0, l1, l2] [.int x0, .ref a, s0] (S, I, R, z) Q = ((S a).1 = 2 ∧ RM d 36 [.ref a, .int x0] (S, I, R, z) (fun v τ => RB d 35 18 [l0, l1, l2] (aPush v [s0]) τ Q)) := RB_callV (n := 2) (t := 0) (k := 159) (ins := .invokevirtual 159) rfl rfl rfl (by decide) (Nat.le_of_ble_eq_true rfl) (Nat.le_of_ble_eq_true rfl) rfl rfl
theorem w35_18 : RB d 35 18 [l0, l1, l2] (.int y :: .int x :: st) (S, I, R, z) Q = RB d 35 19 [l0, l1, l2] (.int (x + y) :: st) (S, I, R, z) Q := RB_iadd rfl
theorem w35_19 : RB d 35 19 [l0, l1, l2] (.int x :: st) (S, I, R, z) Q = RB d 35 20 [l0, .int x, l2] st (S, I, R, z) Q := RB_istoren rfl (Nat.le_of_ble_eq_true rfl) rfl
theorem w35_20 : RB d 35 20 [l0, l1, .int x] st (S, I, R, z) Q = RB d 35 23 [l0, l1, .int (x + 1)] st (S, I, R, z) Q := RB_iinc rfl rfl (Nat.le_of_ble_eq_true rfl) ki1 rfl
theorem w35_23 : RB d 35 23 [l0, l1, l2] st (S, I, R, z) Q = RB d 35 4 [l0, l1, l2] st (S, I, R, z) Q := RB_goto rfl (by decide) rfl
theorem w35_26 : RB d 35 26 [.ref a, l1, l2] st (S, I, R, z) Q = RB d 35 27 [.ref a, l1, l2] (.ref a :: st) (S, I, R, z) Q := RB_aloadn rfl rfl
theorem w35_27 : RB d 35 27 [l0, .int x, l2] st (S, I, R, z) Q = RB d 35 28 [l0, .int x, l2] (.int x :: st) (S, I, R, z) Q := RB_iloadn rfl rfl
theorem w35_28 : RB d 35 28 [l0, l1, l2] (.int x :: st) (S, I, R, z) Q = ((x ≤ 0 → RB d 35 44 [l0, l1, l2] st (S, I, R, z) Q) ∧ (¬ x ≤ 0 → RB d 35 31 [l0, l1, l2] st (S, I, R, z) Q)) := RB_le0 rfl (by decide) rfl
theorem w35_31 : RB d 35 31 [.ref a, l1, l2] st (S, I, R, z) Q = RB d 35 32 [.ref a, l1, l2] (.ref a :: st) (S, I, R, z) Q := RB_aloadn rfl rfl
theorem w35_32 : RB d 35 32 [.ref a, l1, l2] st (S, I, R, z) Q = RB d 35 33 [.ref a, l1, l2] (.ref a :: st) (S, I, R, z) Q := RB_aloadn rfl rfl
theorem w35_33 : RB d 35 33 [l0, l1, l2] [.ref a, s0, s1] (S, I, R, z) Q = ((S a).1 = 2 ∧ RM d 13 [.ref a] (S, I, R, z) (fun v τ => RB d 35 36 [l0, l1, l2] (aPush v [s0, s1]) τ Q)) := RB_callV (n := 1) (t := 0) (k := 162) (ins := .invokevirtual 162) rfl rfl rfl (by decide) (Nat.le_of_ble_eq_true rfl) (Nat.le_of_ble_eq_true rfl) rfl rfl
theorem w35_36 : RB d 35 36 [l0, .int x, l2] st (S, I, R, z) Q = RB d 35 37 [l0, .int x, l2] (.int x :: st) (S, I, R, z) Q := RB_iloadn rfl rfl
theorem w35_37 : RB d 35 37 [l0, l1, l2] (.int y :: .int x :: st) (S, I, R, z) Q = (¬ y = 0 ∧ RB d 35 38 [l0, l1, l2] (.int (x % y) :: st) (S, I, R, z) Q) := RB_irem rfl
theorem w35_38 : RB d 35 38 [l0, l1, l2] [.int x0, .ref a, s0] (S, I, R, z) Q = ((S a).1 = 2 ∧ RM d 37 [.ref a, .int x0] (S, I, R, z) (fun v τ => RB d 35 41 [l0, l1, l2] (aPush v [s0]) τ Q)) := RB_callV (n := 2) (t := 0) (k := 165) (ins := .invokevirtual 165) rfl rfl rfl (by decide) (Nat.le_of_ble_eq_true rfl) (Nat.le_of_ble_eq_true rfl) rfl rfl
theorem w35_41 : RB d 35 41 [l0, l1, l2] st (S, I, R, z) Q = RB d 35 45 [l0, l1, l2] st (S, I, R, z) Q := RB_goto rfl (by decide) rfl
theorem w35_44 : RB d 35 44 [l0, l1, l2] st (S, I, R, z) Q = RB d 35 45 [l0, l1, l2] (.int (-1) :: st) (S, I, R, z) Q := RB_iconst rfl kim1
theorem w35_45 : RB d 35 45 [l0, l1, l2] [.int x0, .ref a] (S, I, R, z) Q = ((S a).1 = 2 ∧ RM d 29 [.ref a, .int x0] (S, I, R, z) (fun v τ => RB d 35 48 [l0, l1, l2] (aPush v []) τ Q)) := RB_callV (n := 2) (t := 0) (k := 168) (ins := .invokevirtual 168) rfl rfl rfl (by decide) (Nat.le_of_ble_eq_true rfl) (Nat.le_of_ble_eq_true rfl) rfl rfl
theorem w35_48 : RB d 35 48 [l0, l1, l2] [] (S, I, R, z) Q = Q none (S, I, R, z) := RB_ret rfl rfl
/-! 36: HangedWord$State.timesOf -/
theorem w36_0 : RB d 36 0 [.ref a, l1, l2] st (S, I, R, z) Q = RB d 36 1 [.ref a, l1, l2] (.ref a :: st) (S, I, R, z) Q := RB_aloadn rfl rfl
theorem w36_1 : RB d 36 1 [l0, l1, l2] st (S, I, R, z) Q = RB d 36 2 [l0, l1, l2] (.int 1 :: st) (S, I, R, z) Q := RB_iconst rfl ki1
theorem w36_2 : RB d 36 2 [l0, l1, l2] [.int x0, .ref a] (S, I, R, z) Q = ((S a).1 = 2 ∧ RM d 39 [.ref a, .int x0] (S, I, R, z) (fun v τ => RB d 36 5 [l0, l1, l2] (aPush v []) τ Q)) := RB_callV (n := 2) (t := 0) (k := 125) (ins := .invokevirtual 125) rfl rfl rfl (by decide) (Nat.le_of_ble_eq_true rfl) (Nat.le_of_ble_eq_true rfl) rfl rfl
theorem w36_5 : RB d 36 5 [l0, l1, l2] (.ref a :: st) (S, I, R, z) Q = RB d 36 6 [l0, l1, .ref a] st (S, I, R, z) Q := RB_astoren rfl (Nat.le_of_ble_eq_true rfl) rfl
theorem w36_5N : RB d 36 5 [l0, l1, l2] (.null :: st) (S, I, R, z) Q = RB d 36 6 [l0, l1, .null] st (S, I, R, z) Q := RB_astorenN rfl (Nat.le_of_ble_eq_true rfl) rfl
theorem w36_6 : RB d 36 6 [l0, l1, .ref a] st (S, I, R, z) Q = RB d 36 7 [l0, l1, .ref a] (.ref a :: st) (S, I, R, z) Q := RB_aloadn rfl rfl
theorem w36_6N : RB d 36 6 [l0, l1, .null] st (S, I, R, z) Q = RB d 36 7 [l0, l1, .null] (.null :: st) (S, I, R, z) Q := RB_aloadnN rfl rfl
theorem w36_7 : RB d 36 7 [l0, l1, l2] (.ref a :: st) (S, I, R, z) Q = (¬ a = 14 ∧ RB d 36 19 [l0, l1, l2] st (S, I, R, z) Q) := RB_nn rfl (by decide) rfl
theorem w36_7N : RB d 36 7 [l0, l1, l2] (.null :: st) (S, I, R, z) Q = RB d 36 10 [l0, l1, l2] st (S, I, R, z) Q := RB_nnN rfl
theorem w36_10 : RB d 36 10 [.ref a, l1, l2] st (S, I, R, z) Q = RB d 36 11 [.ref a, l1, l2] (.ref a :: st) (S, I, R, z) Q := RB_aloadn rfl rfl
theorem w36_11 : RB d 36 11 [l0, l1, l2] (.ref a :: st) (S, I, R, z) Q = ((S a).1 = 2 ∧ RB d 36 14 [l0, l1, l2] (va_rf (R a 1) :: st) (S, I, R, z) Q) := RB_getR rfl rfl
theorem w36_14 : RB d 36 14 [l0, .int x, l2] st (S, I, R, z) Q = RB d 36 15 [l0, .int x, l2] (.int x :: st) (S, I, R, z) Q := RB_iloadn rfl rfl
theorem w36_15 : RB d 36 15 [l0, l1, l2] (.int i :: .ref a :: st) (S, I, R, z) Q = (((S a).1 = 9 ∧ aIx i (S a).2) ∧ RB d 36 16 [l0, l1, l2] (.int (I a i.toNatClampNeg) :: st) (S, I, R, z) Q) := RB_iald rfl
theorem w36_16 : RB d 36 16 [l0, l1, l2] st (S, I, R, z) Q = RB d 36 42 [l0, l1, l2] st (S, I, R, z) Q := RB_goto rfl (by decide) rfl
theorem w36_19 : RB d 36 19 [l0, l1, .ref a] st (S, I, R, z) Q = RB d 36 20 [l0, l1, .ref a] (.ref a :: st) (S, I, R, z) Q := RB_aloadn rfl rfl
theorem w36_19N : RB d 36 19 [l0, l1, .null] st (S, I, R, z) Q = RB d 36 20 [l0, l1, .null] (.null :: st) (S, I, R, z) Q := RB_aloadnN rfl rfl
theorem w36_20 : RB d 36 20 [.ref a, l1, l2] st (S, I, R, z) Q = RB d 36 21 [.ref a, l1, l2] (.ref a :: st) (S, I, R, z) Q := RB_aloadn rfl rfl
theorem w36_21 : RB d 36 21 [l0, l1, l2] (.ref a :: st) (S, I, R, z) Q = ((S a).1 = 2 ∧ RB d 36 24 [l0, l1, l2] (va_rf (R a 1) :: st) (S, I, R, z) Q) := RB_getR rfl rfl
theorem w36_24 : RB d 36 24 [l0, .int x, l2] st (S, I, R, z) Q = RB d 36 25 [l0, .int x, l2] (.int x :: st) (S, I, R, z) Q := RB_iloadn rfl rfl
theorem w36_25 : RB d 36 25 [l0, l1, l2] (.int i :: .ref a :: st) (S, I, R, z) Q = (((S a).1 = 9 ∧ aIx i (S a).2) ∧ RB d 36 26 [l0, l1, l2] (.int (I a i.toNatClampNeg) :: st) (S, I, R, z) Q) := RB_iald rfl
theorem w36_26 : RB d 36 26 [l0, .int x, l2] st (S, I, R, z) Q = RB d 36 27 [l0, .int x, l2] (.int x :: st) (S, I, R, z) Q := RB_iloadn rfl rfl
theorem w36_27 : RB d 36 27 [l0, l1, l2] st (S, I, R, z) Q = RB d 36 28 [l0, l1, l2] (.int 0 :: st) (S, I, R, z) Q := RB_iconst rfl ki0
theorem w36_28 : RB d 36 28 [.ref a, l1, l2] st (S, I, R, z) Q = RB d 36 29 [.ref a, l1, l2] (.ref a :: st) (S, I, R, z) Q := RB_aloadn rfl rfl
theorem w36_29 : RB d 36 29 [l0, l1, l2] (.ref a :: st) (S, I, R, z) Q = ((S a).1 = 2 ∧ RB d 36 32 [l0, l1, l2] (va_rf (R a 15) :: st) (S, I, R, z) Q) := RB_getR rfl rfl
theorem w36_32 : RB d 36 32 [l0, l1, l2] [v3, .int x2, .int x1, .int x0, .ref a] (S, I, R, z) Q = ((S a).1 = 4 ∧ RM d 67 [.ref a, .int x0, .int x1, .int x2, v3] (S, I, R, z) (fun v τ => RB d 36 35 [l0, l1, l2] (aPush v []) τ Q)) := RB_callV (n := 5) (t := 0) (k := 129) (ins := .invokevirtual 129) rfl rfl rfl (by decide) (Nat.le_of_ble_eq_true rfl) (Nat.le_of_ble_eq_true rfl) rfl rfl
theorem w36_35 : RB d 36 35 [l0, l1, l2] st (S, I, R, z) Q = RB d 36 36 [l0, l1, l2] (.int 0 :: st) (S, I, R, z) Q := RB_iconst rfl ki0
theorem w36_36 : RB d 36 36 [l0, l1, l2] st (S, I, R, z) Q = RB d 36 39 [l0, l1, l2] (.int 999 :: st) (S, I, R, z) Q := RB_sipush rfl ks999
theorem w36_39 : RB d 36 39 [l0, l1, l2] [.int x2, .int x1, .int x0] (S, I, R, z) Q = RM d 130 [.int x0, .int x1, .int x2] (S, I, R, z) (fun v τ => RB d 36 42 [l0, l1, l2] (aPush v []) τ Q) := RB_callS (n := 3) (t := 1) (k := 133) (ins := .invokestatic 133) rfl rfl rfl (Nat.le_of_ble_eq_true rfl) (Nat.le_of_ble_eq_true rfl) rfl rfl
theorem w36_42 : RB d 36 42 [l0, l1, l2] [.int x] (S, I, R, z) Q = Q (some (.int x)) (S, I, R, z) := RB_iret rfl rfl rfl
/-! 37: HangedWord$State.wordAt -/
theorem w37_0 : RB d 37 0 [l0, .int x, l2, l3] st (S, I, R, z) Q = RB d 37 1 [l0, .int x, l2, l3] (.int x :: st) (S, I, R, z) Q := RB_iloadn rfl rfl
theorem w37_1 : RB d 37 1 [l0, l1, l2, l3] (.int x :: st) (S, I, R, z) Q = RB d 37 2 [l0, l1, .int x, l3] st (S, I, R, z) Q := RB_istoren rfl (Nat.le_of_ble_eq_true rfl) rfl
theorem w37_2 : RB d 37 2 [l0, l1, l2, l3] st (S, I, R, z) Q = RB d 37 3 [l0, l1, l2, l3] (.int 0 :: st) (S, I, R, z) Q := RB_iconst rfl ki0
theorem w37_3 : RB d 37 3 [l0, l1, l2, l3] (.int x :: st) (S, I, R, z) Q = RB d 37 4 [l0, l1, l2, .int x] st (S, I, R, z) Q := RB_istoren rfl (Nat.le_of_ble_eq_true rfl) rfl
theorem w37_4 : RB d 37 4 [l0, l1, l2, .int x] st (S, I, R, z) Q = RB d 37 5 [l0, l1, l2, .int x] (.int x :: st) (S, I, R, z) Q := RB_iloadn rfl rfl
theorem w37_5 : RB d 37 5 [.ref a, l1, l2, l3] st (S, I, R, z) Q = RB d 37 6 [.ref a, l1, l2, l3] (.ref a :: st) (S, I, R, z) Q := RB_aloadn rfl rfl
theorem w37_6 : RB d 37 6 [l0, l1, l2, l3] (.ref a :: st) (S, I, R, z) Q = ((S a).1 = 2 ∧ RB d 37 9 [l0, l1, l2, l3] (.int (I a 3) :: st) (S, I, R, z) Q) := RB_getI rfl rfl
theorem w37_9 : RB d 37 9 [l0, l1, l2, l3] (.int y :: .int x :: st) (S, I, R, z) Q = ((y ≤ x → RB d 37 32 [l0, l1, l2, l3] st (S, I, R, z) Q) ∧ (¬ y ≤ x → RB d 37 12 [l0, l1, l2, l3] st (S, I, R, z) Q)) := RB_ige rfl (by decide) rfl
theorem w37_12 : RB d 37 12 [l0, l1, .int x, l3] st (S, I, R, z) Q = RB d 37 13 [l0, l1, .int x, l3] (.int x :: st) (S, I, R, z) Q := RB_iloadn rfl rfl
theorem w37_13 : RB d 37 13 [.ref a, l1, l2, l3] st (S, I, R, z) Q = RB d 37 14 [.ref a, l1, l2, l3] (.ref a :: st) (S, I, R, z) Q := RB_aloadn rfl rfl
theorem w37_14 : RB d 37 14 [l0, l1, l2, .int x] st (S, I, R, z) Q = RB d 37 15 [l0, l1, l2, .int x] (.int x :: st) (S, I, R, z) Q := RB_iloadn rfl rfl
theorem w37_15 : RB d 37 15 [l0, l1, l2, l3] [.int x0, .ref a, s0] (S, I, R, z) Q = ((S a).1 = 2 ∧ RM d 36 [.ref a, .int x0] (S, I, R, z) (fun v τ => RB d 37 18 [l0, l1, l2, l3] (aPush v [s0]) τ Q)) := RB_callV (n := 2) (t := 0) (k := 159) (ins := .invokevirtual 159) rfl rfl rfl (by decide) (Nat.le_of_ble_eq_true rfl) (Nat.le_of_ble_eq_true rfl) rfl rfl
theorem w37_18 : RB d 37 18 [l0, l1, l2, l3] (.int y :: .int x :: st) (S, I, R, z) Q = RB d 37 19 [l0, l1, l2, l3] (.int (x - y) :: st) (S, I, R, z) Q := RB_isub rfl
theorem w37_19 : RB d 37 19 [l0, l1, l2, l3] (.int x :: st) (S, I, R, z) Q = RB d 37 20 [l0, l1, .int x, l3] st (S, I, R, z) Q := RB_istoren rfl (Nat.le_of_ble_eq_true rfl) rfl
theorem w37_20 : RB d 37 20 [l0, l1, .int x, l3] st (S, I, R, z) Q = RB d 37 21 [l0, l1, .int x, l3] (.int x :: st) (S, I, R, z) Q := RB_iloadn rfl rfl
theorem w37_21 : RB d 37 21 [l0, l1, l2, l3] (.int x :: st) (S, I, R, z) Q = ((0 ≤ x → RB d 37 26 [l0, l1, l2, l3] st (S, I, R, z) Q) ∧ (¬ 0 ≤ x → RB d 37 24 [l0, l1, l2, l3] st (S, I, R, z) Q)) := RB_ge0 rfl (by decide) rfl
theorem w37_24 : RB d 37 24 [l0, l1, l2, .int x] st (S, I, R, z) Q = RB d 37 25 [l0, l1, l2, .int x] (.int x :: st) (S, I, R, z) Q := RB_iloadn rfl rfl
theorem w37_25 : RB d 37 25 [l0, l1, l2, l3] [.int x] (S, I, R, z) Q = Q (some (.int x)) (S, I, R, z) := RB_iret rfl rfl rfl
theorem w37_26 : RB d 37 26 [l0, l1, l2, .int x] st (S, I, R, z) Q = RB d 37 29 [l0, l1, l2, .int (x + 1)] st (S, I, R, z) Q := RB_iinc rfl rfl (Nat.le_of_ble_eq_true rfl) ki1 rfl
theorem w37_29 : RB d 37 29 [l0, l1, l2, l3] st (S, I, R, z) Q = RB d 37 4 [l0, l1, l2, l3] st (S, I, R, z) Q := RB_goto rfl (by decide) rfl
theorem w37_32 : RB d 37 32 [l0, l1, l2, l3] st (S, I, R, z) Q = RB d 37 33 [l0, l1, l2, l3] (.int (-1) :: st) (S, I, R, z) Q := RB_iconst rfl kim1
theorem w37_33 : RB d 37 33 [l0, l1, l2, l3] [.int x] (S, I, R, z) Q = Q (some (.int x)) (S, I, R, z) := RB_iret rfl rfl rfl
/-! 38: HangedWord$State.fineGiven -/
theorem w38_0 : RB d 38 0 [.ref a, l1] st (S, I, R, z) Q = RB d 38 1 [.ref a, l1] (.ref a :: st) (S, I, R, z) Q := RB_aloadn rfl rfl
theorem w38_1 : RB d 38 1 [l0, l1] st (S, I, R, z) Q = RB d 38 2 [l0, l1] (.int 2 :: st) (S, I, R, z) Q := RB_iconst rfl ki2
theorem w38_2 : RB d 38 2 [l0, l1] [.int x0, .ref a] (S, I, R, z) Q = ((S a).1 = 2 ∧ RM d 39 [.ref a, .int x0] (S, I, R, z) (fun v τ => RB d 38 5 [l0, l1] (aPush v []) τ Q)) := RB_callV (n := 2) (t := 0) (k := 125) (ins := .invokevirtual 125) rfl rfl rfl (by decide) (Nat.le_of_ble_eq_true rfl) (Nat.le_of_ble_eq_true rfl) rfl rfl
theorem w38_5 : RB d 38 5 [l0, l1] (.ref a :: st) (S, I, R, z) Q = RB d 38 6 [l0, .ref a] st (S, I, R, z) Q := RB_astoren rfl (Nat.le_of_ble_eq_true rfl) rfl
theorem w38_5N : RB d 38 5 [l0, l1] (.null :: st) (S, I, R, z) Q = RB d 38 6 [l0, .null] st (S, I, R, z) Q := RB_astorenN rfl (Nat.le_of_ble_eq_true rfl) rfl
theorem w38_6 : RB d 38 6 [l0, .ref a] st (S, I, R, z) Q = RB d 38 7 [l0, .ref a] (.ref a :: st) (S, I, R, z) Q := RB_aloadn rfl rfl
theorem w38_6N : RB d 38 6 [l0, .null] st (S, I, R, z) Q = RB d 38 7 [l0, .null] (.null :: st) (S, I, R, z) Q := RB_aloadnN rfl rfl
theorem w38_7 : RB d 38 7 [l0, l1] (.ref a :: st) (S, I, R, z) Q = (¬ a = 14 ∧ RB d 38 17 [l0, l1] st (S, I, R, z) Q) := RB_nn rfl (by decide) rfl
theorem w38_7N : RB d 38 7 [l0, l1] (.null :: st) (S, I, R, z) Q = RB d 38 10 [l0, l1] st (S, I, R, z) Q := RB_nnN rfl
theorem w38_10 : RB d 38 10 [.ref a, l1] st (S, I, R, z) Q = RB d 38 11 [.ref a, l1] (.ref a :: st) (S, I, R, z) Q := RB_aloadn rfl rfl
theorem w38_11 : RB d 38 11 [l0, l1] (.ref a :: st) (S, I, R, z) Q = ((S a).1 = 2 ∧ RB d 38 14 [l0, l1] (.int (I a 9) :: st) (S, I, R, z) Q) := RB_getI rfl rfl
theorem w38_14 : RB d 38 14 [l0, l1] st (S, I, R, z) Q = RB d 38 37 [l0, l1] st (S, I, R, z) Q := RB_goto rfl (by decide) rfl
theorem w38_17 : RB d 38 17 [l0, .ref a] st (S, I, R, z) Q = RB d 38 18 [l0, .ref a] (.ref a :: st) (S, I, R, z) Q := RB_aloadn rfl rfl
theorem w38_17N : RB d 38 17 [l0, .null] st (S, I, R, z) Q = RB d 38 18 [l0, .null] (.null :: st) (S, I, R, z) Q := RB_aloadnN rfl rfl
theorem w38_18 : RB d 38 18 [.ref a, l1] st (S, I, R, z) Q = RB d 38 19 [.ref a, l1] (.ref a :: st) (S, I, R, z) Q := RB_aloadn rfl rfl
theorem w38_19 : RB d 38 19 [l0, l1] (.ref a :: st) (S, I, R, z) Q = ((S a).1 = 2 ∧ RB d 38 22 [l0, l1] (.int (I a 9) :: st) (S, I, R, z) Q) := RB_getI rfl rfl
theorem w38_22 : RB d 38 22 [.ref a, l1] st (S, I, R, z) Q = RB d 38 23 [.ref a, l1] (.ref a :: st) (S, I, R, z) Q := RB_aloadn rfl rfl
theorem w38_23 : RB d 38 23 [l0, l1] (.ref a :: st) (S, I, R, z) Q = ((S a).1 = 2 ∧ RB d 38 26 [l0, l1] (.int (I a 8) :: st) (S, I, R, z) Q) := RB_getI rfl rfl
theorem w38_26 : RB d 38 26 [l0, l1] [.int x0, s0, s1] (S, I, R, z) Q = RM d 250 [.int x0] (S, I, R, z) (fun v τ => RB d 38 29 [l0, l1] (aPush v [s0, s1]) τ Q) := RB_callS (n := 1) (t := 1) (k := 110) (ins := .invokestatic 110) rfl rfl rfl (Nat.le_of_ble_eq_true rfl) (Nat.le_of_ble_eq_true rfl) rfl rfl
theorem w38_29 : RB d 38 29 [l0, l1] st (S, I, R, z) Q = RB d 38 30 [l0, l1] (.int 0 :: st) (S, I, R, z) Q := RB_iconst rfl ki0
theorem w38_30 : RB d 38 30 [.ref a, l1] st (S, I, R, z) Q = RB d 38 31 [.ref a, l1] (.ref a :: st) (S, I, R, z) Q := RB_aloadn rfl rfl
theorem w38_31 : RB d 38 31 [l0, l1] (.ref a :: st) (S, I, R, z) Q = ((S a).1 = 2 ∧ RB d 38 34 [l0, l1] (va_rf (R a 15) :: st) (S, I, R, z) Q) := RB_getR rfl rfl
theorem w38_34 : RB d 38 34 [l0, l1] [v3, .int x2, .int x1, .int x0, .ref a] (S, I, R, z) Q = ((S a).1 = 4 ∧ RM d 67 [.ref a, .int x0, .int x1, .int x2, v3] (S, I, R, z) (fun v τ => RB d 38 37 [l0, l1] (aPush v []) τ Q)) := RB_callV (n := 5) (t := 0) (k := 129) (ins := .invokevirtual 129) rfl rfl rfl (by decide) (Nat.le_of_ble_eq_true rfl) (Nat.le_of_ble_eq_true rfl) rfl rfl
theorem w38_37 : RB d 38 37 [l0, l1] [.int x] (S, I, R, z) Q = Q (some (.int x)) (S, I, R, z) := RB_iret rfl rfl rfl
/-! 39: HangedWord$State.textFor -/
theorem w39_0 : RB d 39 0 [.ref a, l1, l2] st (S, I, R, z) Q = RB d 39 1 [.ref a, l1, l2] (.ref a :: st) (S, I, R, z) Q := RB_aloadn rfl rfl
theorem w39_1 : RB d 39 1 [l0, l1, l2] (.ref a :: st) (S, I, R, z) Q = ((S a).1 = 2 ∧ RB d 39 4 [l0, l1, l2] (va_rf (R a 14) :: st) (S, I, R, z) Q) := RB_getR rfl rfl
theorem w39_4 : RB d 39 4 [l0, .int x, l2] st (S, I, R, z) Q = RB d 39 5 [l0, .int x, l2] (.int x :: st) (S, I, R, z) Q := RB_iloadn rfl rfl
theorem w39_5 : RB d 39 5 [l0, l1, l2] (.int i :: .ref a :: st) (S, I, R, z) Q = (((S a).1 = 9 ∧ aIx i (S a).2) ∧ RB d 39 6 [l0, l1, l2] (.int (I a i.toNatClampNeg) :: st) (S, I, R, z) Q) := RB_iald rfl
theorem w39_6 : RB d 39 6 [l0, l1, l2] (.int x :: st) (S, I, R, z) Q = RB d 39 7 [l0, l1, .int x] st (S, I, R, z) Q := RB_istoren rfl (Nat.le_of_ble_eq_true rfl) rfl
theorem w39_7 : RB d 39 7 [l0, l1, .int x] st (S, I, R, z) Q = RB d 39 8 [l0, l1, .int x] (.int x :: st) (S, I, R, z) Q := RB_iloadn rfl rfl
theorem w39_8 : RB d 39 8 [l0, l1, l2] (.int x :: st) (S, I, R, z) Q = ((x < 0 → RB d 39 28 [l0, l1, l2] st (S, I, R, z) Q) ∧ (¬ x < 0 → RB d 39 11 [l0, l1, l2] st (S, I, R, z) Q)) := RB_lt0 rfl (by decide) rfl
theorem w39_11 : RB d 39 11 [l0, l1, .int x] st (S, I, R, z) Q = RB d 39 12 [l0, l1, .int x] (.int x :: st) (S, I, R, z) Q := RB_iloadn rfl rfl
theorem w39_12 : RB d 39 12 [.ref a, l1, l2] st (S, I, R, z) Q = RB d 39 13 [.ref a, l1, l2] (.ref a :: st) (S, I, R, z) Q := RB_aloadn rfl rfl
theorem w39_13 : RB d 39 13 [l0, l1, l2] (.ref a :: st) (S, I, R, z) Q = ((S a).1 = 2 ∧ RB d 39 16 [l0, l1, l2] (.int (I a 13) :: st) (S, I, R, z) Q) := RB_getI rfl rfl
theorem w39_16 : RB d 39 16 [l0, l1, l2] (.int y :: .int x :: st) (S, I, R, z) Q = ((y ≤ x → RB d 39 28 [l0, l1, l2] st (S, I, R, z) Q) ∧ (¬ y ≤ x → RB d 39 19 [l0, l1, l2] st (S, I, R, z) Q)) := RB_ige rfl (by decide) rfl
theorem w39_19 : RB d 39 19 [.ref a, l1, l2] st (S, I, R, z) Q = RB d 39 20 [.ref a, l1, l2] (.ref a :: st) (S, I, R, z) Q := RB_aloadn rfl rfl
theorem w39_20 : RB d 39 20 [l0, l1, l2] (.ref a :: st) (S, I, R, z) Q = ((S a).1 = 2 ∧ RB d 39 23 [l0, l1, l2] (va_rf (R a 12) :: st) (S, I, R, z) Q) := RB_getR rfl rfl
theorem w39_23 : RB d 39 23 [l0, l1, .int x] st (S, I, R, z) Q = RB d 39 24 [l0, l1, .int x] (.int x :: st) (S, I, R, z) Q := RB_iloadn rfl rfl
theorem w39_24 : RB d 39 24 [l0, l1, l2] (.int i :: .ref a :: st) (S, I, R, z) Q = (((11 ≤ (S a).1 ∧ (S a).1 ≤ 13) ∧ aIx i (S a).2) ∧ RB d 39 25 [l0, l1, l2] (va_rf (R a i.toNatClampNeg) :: st) (S, I, R, z) Q) := RB_aald rfl
theorem w39_25 : RB d 39 25 [l0, l1, l2] st (S, I, R, z) Q = RB d 39 29 [l0, l1, l2] st (S, I, R, z) Q := RB_goto rfl (by decide) rfl
theorem w39_28 : RB d 39 28 [l0, l1, l2] st (S, I, R, z) Q = RB d 39 29 [l0, l1, l2] (.null :: st) (S, I, R, z) Q := RB_null rfl
theorem w39_29 : RB d 39 29 [l0, l1, l2] [.ref a] (S, I, R, z) Q = Q (some (.ref a)) (S, I, R, z) := RB_aret rfl rfl
theorem w39_29N : RB d 39 29 [l0, l1, l2] [.null] (S, I, R, z) Q = Q (some .null) (S, I, R, z) := RB_aretN rfl rfl
/-! 40: HangedWord$State.linesOf -/
theorem w40_0 : RB d 40 0 [l0, l1, l2, l3, l4, l5, l6] st (S, I, R, z) Q = RB d 40 1 [l0, l1, l2, l3, l4, l5, l6] (.int 0 :: st) (S, I, R, z) Q := RB_iconst rfl ki0
theorem w40_1 : RB d 40 1 [l0, l1, l2, l3, l4, l5, l6] (.int x :: st) (S, I, R, z) Q = RB d 40 2 [l0, l1, l2, .int x, l4, l5, l6] st (S, I, R, z) Q := RB_istoren rfl (Nat.le_of_ble_eq_true rfl) rfl
theorem w40_2 : RB d 40 2 [l0, l1, l2, l3, l4, l5, l6] st (S, I, R, z) Q = RB d 40 3 [l0, l1, l2, l3, l4, l5, l6] (.int 0 :: st) (S, I, R, z) Q := RB_iconst rfl ki0
theorem w40_3 : RB d 40 3 [l0, l1, l2, l3, l4, l5, l6] (.int x :: st) (S, I, R, z) Q = RB d 40 5 [l0, l1, l2, l3, .int x, l5, l6] st (S, I, R, z) Q := RB_istore rfl (Nat.le_of_ble_eq_true rfl) rfl
theorem w40_5 : RB d 40 5 [l0, l1, l2, l3, l4, l5, l6] st (S, I, R, z) Q = RB d 40 6 [l0, l1, l2, l3, l4, l5, l6] (.int 0 :: st) (S, I, R, z) Q := RB_iconst rfl ki0
theorem w40_6 : RB d 40 6 [l0, l1, l2, l3, l4, l5, l6] (.int x :: st) (S, I, R, z) Q = RB d 40 8 [l0, l1, l2, l3, l4, .int x, l6] st (S, I, R, z) Q := RB_istore rfl (Nat.le_of_ble_eq_true rfl) rfl
theorem w40_8 : RB d 40 8 [l0, l1, l2, l3, l4, .int x, l6] st (S, I, R, z) Q = RB d 40 10 [l0, l1, l2, l3, l4, .int x, l6] (.int x :: st) (S, I, R, z) Q := RB_iload rfl rfl
theorem w40_10 : RB d 40 10 [l0, l1, l2, l3, l4, l5, l6] st (S, I, R, z) Q = RB d 40 12 [l0, l1, l2, l3, l4, l5, l6] (.int 6 :: st) (S, I, R, z) Q := RB_bipush rfl kb6
theorem w40_12 : RB d 40 12 [l0, l1, l2, l3, l4, l5, l6] (.int y :: .int x :: st) (S, I, R, z) Q = ((y ≤ x → RB d 40 77 [l0, l1, l2, l3, l4, l5, l6] st (S, I, R, z) Q) ∧ (¬ y ≤ x → RB d 40 15 [l0, l1, l2, l3, l4, l5, l6] st (S, I, R, z) Q)) := RB_ige rfl (by decide) rfl
theorem w40_15 : RB d 40 15 [.ref a, l1, l2, l3, l4, l5, l6] st (S, I, R, z) Q = RB d 40 16 [.ref a, l1, l2, l3, l4, l5, l6] (.ref a :: st) (S, I, R, z) Q := RB_aloadn rfl rfl
theorem w40_16 : RB d 40 16 [l0, .int x, l2, l3, l4, l5, l6] st (S, I, R, z) Q = RB d 40 17 [l0, .int x, l2, l3, l4, l5, l6] (.int x :: st) (S, I, R, z) Q := RB_iloadn rfl rfl
theorem w40_17 : RB d 40 17 [l0, l1, l2, l3, l4, l5, l6] [.int x0, .ref a] (S, I, R, z) Q = ((S a).1 = 2 ∧ RM d 15 [.ref a, .int x0] (S, I, R, z) (fun v τ => RB d 40 20 [l0, l1, l2, l3, l4, l5, l6] (aPush v []) τ Q)) := RB_callV (n := 2) (t := 0) (k := 96) (ins := .invokevirtual 96) rfl rfl rfl (by decide) (Nat.le_of_ble_eq_true rfl) (Nat.le_of_ble_eq_true rfl) rfl rfl
theorem w40_20 : RB d 40 20 [l0, l1, l2, l3, .int x, l5, l6] st (S, I, R, z) Q = RB d 40 22 [l0, l1, l2, l3, .int x, l5, l6] (.int x :: st) (S, I, R, z) Q := RB_iload rfl rfl
theorem w40_22 : RB d 40 22 [l0, l1, l2, l3, l4, l5, l6] st (S, I, R, z) Q = RB d 40 23 [l0, l1, l2, l3, l4, l5, l6] (.int (-1) :: st) (S, I, R, z) Q := RB_iconst rfl kim1
theorem w40_23 : RB d 40 23 [l0, l1, l2, l3, l4, l5, l6] (.int y :: .int x :: st) (S, I, R, z) Q = RB d 40 24 [l0, l1, l2, l3, l4, l5, l6] (.int (x ^^^ y) :: st) (S, I, R, z) Q := RB_ixor rfl
theorem w40_24 : RB d 40 24 [l0, l1, l2, l3, l4, l5, l6] (.int y :: .int x :: st) (S, I, R, z) Q = RB d 40 25 [l0, l1, l2, l3, l4, l5, l6] (.int (x &&& y) :: st) (S, I, R, z) Q := RB_iand rfl
theorem w40_25 : RB d 40 25 [l0, l1, l2, l3, l4, l5, l6] (.int x :: st) (S, I, R, z) Q = ((x = 0 → RB d 40 77 [l0, l1, l2, l3, l4, l5, l6] st (S, I, R, z) Q) ∧ (¬ x = 0 → RB d 40 28 [l0, l1, l2, l3, l4, l5, l6] st (S, I, R, z) Q)) := RB_eq0 rfl (by decide) rfl
theorem w40_28 : RB d 40 28 [.ref a, l1, l2, l3, l4, l5, l6] st (S, I, R, z) Q = RB d 40 29 [.ref a, l1, l2, l3, l4, l5, l6] (.ref a :: st) (S, I, R, z) Q := RB_aloadn rfl rfl
theorem w40_29 : RB d 40 29 [l0, l1, .int x, l3, l4, l5, l6] st (S, I, R, z) Q = RB d 40 30 [l0, l1, .int x, l3, l4, l5, l6] (.int x :: st) (S, I, R, z) Q := RB_iloadn rfl rfl
theorem w40_30 : RB d 40 30 [l0, l1, l2, l3, .int x, l5, l6] st (S, I, R, z) Q = RB d 40 32 [l0, l1, l2, l3, .int x, l5, l6] (.int x :: st) (S, I, R, z) Q := RB_iload rfl rfl
theorem w40_32 : RB d 40 32 [.ref a, l1, l2, l3, l4, l5, l6] st (S, I, R, z) Q = RB d 40 33 [.ref a, l1, l2, l3, l4, l5, l6] (.ref a :: st) (S, I, R, z) Q := RB_aloadn rfl rfl
theorem w40_33 : RB d 40 33 [l0, .int x, l2, l3, l4, l5, l6] st (S, I, R, z) Q = RB d 40 34 [l0, .int x, l2, l3, l4, l5, l6] (.int x :: st) (S, I, R, z) Q := RB_iloadn rfl rfl
theorem w40_34 : RB d 40 34 [l0, l1, l2, l3, .int x, l5, l6] st (S, I, R, z) Q = RB d 40 36 [l0, l1, l2, l3, .int x, l5, l6] (.int x :: st) (S, I, R, z) Q := RB_iload rfl rfl
theorem w40_36 : RB d 40 36 [l0, l1, l2, l3, l4, l5, l6] [.int x1, .int x0, .ref a, s0, s1, s2] (S, I, R, z) Q = ((S a).1 = 2 ∧ RM d 19 [.ref a, .int x0, .int x1] (S, I, R, z) (fun v τ => RB d 40 39 [l0, l1, l2, l3, l4, l5, l6] (aPush v [s0, s1, s2]) τ Q)) := RB_callV (n := 3) (t := 0) (k := 93) (ins := .invokevirtual 93) rfl rfl rfl (by decide) (Nat.le_of_ble_eq_true rfl) (Nat.le_of_ble_eq_true rfl) rfl rfl
theorem w40_39 : RB d 40 39 [l0, l1, l2, l3, l4, l5, l6] [.int x2, .int x1, .int x0, .ref a] (S, I, R, z) Q = ((S a).1 = 2 ∧ RM d 28 [.ref a, .int x0, .int x1, .int x2] (S, I, R, z) (fun v τ => RB d 40 42 [l0, l1, l2, l3, l4, l5, l6] (aPush v []) τ Q)) := RB_callV (n := 4) (t := 0) (k := 149) (ins := .invokevirtual 149) rfl rfl rfl (by decide) (Nat.le_of_ble_eq_true rfl) (Nat.le_of_ble_eq_true rfl) rfl rfl
theorem w40_42 : RB d 40 42 [l0, l1, l2, l3, l4, l5, l6] (.int x :: st) (S, I, R, z) Q = RB d 40 44 [l0, l1, l2, l3, l4, l5, .int x] st (S, I, R, z) Q := RB_istore rfl (Nat.le_of_ble_eq_true rfl) rfl
theorem w40_44 : RB d 40 44 [l0, l1, l2, .int x, l4, l5, l6] st (S, I, R, z) Q = RB d 40 45 [l0, l1, l2, .int x, l4, l5, l6] (.int x :: st) (S, I, R, z) Q := RB_iloadn rfl rfl
theorem w40_45 : RB d 40 45 [.ref a, l1, l2, l3, l4, l5, l6] st (S, I, R, z) Q = RB d 40 46 [.ref a, l1, l2, l3, l4, l5, l6] (.ref a :: st) (S, I, R, z) Q := RB_aloadn rfl rfl
theorem w40_46 : RB d 40 46 [l0, .int x, l2, l3, l4, l5, l6] st (S, I, R, z) Q = RB d 40 47 [l0, .int x, l2, l3, l4, l5, l6] (.int x :: st) (S, I, R, z) Q := RB_iloadn rfl rfl
theorem w40_47 : RB d 40 47 [l0, l1, l2, l3, l4, l5, .int x] st (S, I, R, z) Q = RB d 40 49 [l0, l1, l2, l3, l4, l5, .int x] (.int x :: st) (S, I, R, z) Q := RB_iload rfl rfl
theorem w40_49 : RB d 40 49 [l0, l1, l2, l3, l4, l5, l6] [.int x1, .int x0, .ref a, s0] (S, I, R, z) Q = ((S a).1 = 2 ∧ RM d 14 [.ref a, .int x0, .int x1] (S, I, R, z) (fun v τ => RB d 40 52 [l0, l1, l2, l3, l4, l5, l6] (aPush v [s0]) τ Q)) := RB_callV (n := 3) (t := 0) (k := 81) (ins := .invokevirtual 81) rfl rfl rfl (by decide) (Nat.le_of_ble_eq_true rfl) (Nat.le_of_ble_eq_true rfl) rfl rfl
theorem w40_52 : RB d 40 52 [l0, l1, l2, l3, l4, l5, l6] (.int x :: st) (S, I, R, z) Q = ((x = 0 → RB d 40 55 [l0, l1, l2, l3, l4, l5, l6] st (S, I, R, z) Q) ∧ (¬ x = 0 → RB d 40 59 [l0, l1, l2, l3, l4, l5, l6] st (S, I, R, z) Q)) := RB_ne0 rfl (by decide) rfl
theorem w40_55 : RB d 40 55 [l0, l1, l2, l3, l4, l5, l6] st (S, I, R, z) Q = RB d 40 56 [l0, l1, l2, l3, l4, l5, l6] (.int 1 :: st) (S, I, R, z) Q := RB_iconst rfl ki1
theorem w40_56 : RB d 40 56 [l0, l1, l2, l3, l4, l5, l6] st (S, I, R, z) Q = RB d 40 60 [l0, l1, l2, l3, l4, l5, l6] st (S, I, R, z) Q := RB_goto rfl (by decide) rfl
theorem w40_59 : RB d 40 59 [l0, l1, l2, l3, l4, l5, l6] st (S, I, R, z) Q = RB d 40 60 [l0, l1, l2, l3, l4, l5, l6] (.int 0 :: st) (S, I, R, z) Q := RB_iconst rfl ki0
theorem w40_60 : RB d 40 60 [l0, l1, l2, l3, l4, l5, l6] (.int y :: .int x :: st) (S, I, R, z) Q = RB d 40 61 [l0, l1, l2, l3, l4, l5, l6] (.int (x + y) :: st) (S, I, R, z) Q := RB_iadd rfl
theorem w40_61 : RB d 40 61 [l0, l1, l2, l3, l4, l5, l6] (.int x :: st) (S, I, R, z) Q = RB d 40 62 [l0, l1, l2, .int x, l4, l5, l6] st (S, I, R, z) Q := RB_istoren rfl (Nat.le_of_ble_eq_true rfl) rfl
theorem w40_62 : RB d 40 62 [l0, l1, l2, l3, .int x, l5, l6] st (S, I, R, z) Q = RB d 40 64 [l0, l1, l2, l3, .int x, l5, l6] (.int x :: st) (S, I, R, z) Q := RB_iload rfl rfl
theorem w40_64 : RB d 40 64 [l0, l1, l2, l3, l4, l5, l6] st (S, I, R, z) Q = RB d 40 65 [l0, l1, l2, l3, l4, l5, l6] (.int 1 :: st) (S, I, R, z) Q := RB_iconst rfl ki1
theorem w40_65 : RB d 40 65 [l0, l1, l2, l3, l4, l5, .int x] st (S, I, R, z) Q = RB d 40 67 [l0, l1, l2, l3, l4, l5, .int x] (.int x :: st) (S, I, R, z) Q := RB_iload rfl rfl
theorem w40_67 : RB d 40 67 [l0, l1, l2, l3, l4, l5, l6] (.int y :: .int x :: st) (S, I, R, z) Q = RB d 40 68 [l0, l1, l2, l3, l4, l5, l6] (.int (x <<< (y &&& 31)) :: st) (S, I, R, z) Q := RB_ishl rfl
theorem w40_68 : RB d 40 68 [l0, l1, l2, l3, l4, l5, l6] (.int y :: .int x :: st) (S, I, R, z) Q = RB d 40 69 [l0, l1, l2, l3, l4, l5, l6] (.int (x ||| y) :: st) (S, I, R, z) Q := RB_ior rfl
theorem w40_69 : RB d 40 69 [l0, l1, l2, l3, l4, l5, l6] (.int x :: st) (S, I, R, z) Q = RB d 40 71 [l0, l1, l2, l3, .int x, l5, l6] st (S, I, R, z) Q := RB_istore rfl (Nat.le_of_ble_eq_true rfl) rfl
theorem w40_71 : RB d 40 71 [l0, l1, l2, l3, l4, .int x, l6] st (S, I, R, z) Q = RB d 40 74 [l0, l1, l2, l3, l4, .int (x + 1), l6] st (S, I, R, z) Q := RB_iinc rfl rfl (Nat.le_of_ble_eq_true rfl) ki1 rfl
theorem w40_74 : RB d 40 74 [l0, l1, l2, l3, l4, l5, l6] st (S, I, R, z) Q = RB d 40 8 [l0, l1, l2, l3, l4, l5, l6] st (S, I, R, z) Q := RB_goto rfl (by decide) rfl
theorem w40_77 : RB d 40 77 [l0, l1, l2, .int x, l4, l5, l6] st (S, I, R, z) Q = RB d 40 78 [l0, l1, l2, .int x, l4, l5, l6] (.int x :: st) (S, I, R, z) Q := RB_iloadn rfl rfl
theorem w40_78 : RB d 40 78 [l0, l1, l2, l3, l4, l5, l6] [.int x] (S, I, R, z) Q = Q (some (.int x)) (S, I, R, z) := RB_iret rfl rfl rfl
/-! 41: HangedWord$State.evenGallows -/
theorem w41_0 : RB d 41 0 [l0, l1, l2, l3, l4] st (S, I, R, z) Q = RB d 41 1 [l0, l1, l2, l3, l4] (.int 0 :: st) (S, I, R, z) Q := RB_iconst rfl ki0
theorem w41_1 : RB d 41 1 [l0, l1, l2, l3, l4] (.int x :: st) (S, I, R, z) Q = RB d 41 2 [l0, l1, .int x, l3, l4] st (S, I, R, z) Q := RB_istoren rfl (Nat.le_of_ble_eq_true rfl) rfl
theorem w41_2 : RB d 41 2 [l0, l1, .int x, l3, l4] st (S, I, R, z) Q = RB d 41 3 [l0, l1, .int x, l3, l4] (.int x :: st) (S, I, R, z) Q := RB_iloadn rfl rfl
theorem w41_3 : RB d 41 3 [.ref a, l1, l2, l3, l4] st (S, I, R, z) Q = RB d 41 4 [.ref a, l1, l2, l3, l4] (.ref a :: st) (S, I, R, z) Q := RB_aloadn rfl rfl
theorem w41_4 : RB d 41 4 [l0, l1, l2, l3, l4] (.ref a :: st) (S, I, R, z) Q = ((S a).1 = 2 ∧ RB d 41 7 [l0, l1, l2, l3, l4] (va_rf (R a 17) :: st) (S, I, R, z) Q) := RB_getR rfl rfl
theorem w41_7 : RB d 41 7 [l0, l1, l2, l3, l4] (.ref a :: st) (S, I, R, z) Q = (((8 ≤ (S a).1 ∧ (S a).1 ≤ 13) ∨ (S a).1 = 15) ∧ RB d 41 8 [l0, l1, l2, l3, l4] (.int (Int32.ofNat (S a).2) :: st) (S, I, R, z) Q) := RB_alen rfl
theorem w41_8 : RB d 41 8 [l0, l1, l2, l3, l4] (.int y :: .int x :: st) (S, I, R, z) Q = ((y ≤ x → RB d 41 24 [l0, l1, l2, l3, l4] st (S, I, R, z) Q) ∧ (¬ y ≤ x → RB d 41 11 [l0, l1, l2, l3, l4] st (S, I, R, z) Q)) := RB_ige rfl (by decide) rfl
theorem w41_11 : RB d 41 11 [.ref a, l1, l2, l3, l4] st (S, I, R, z) Q = RB d 41 12 [.ref a, l1, l2, l3, l4] (.ref a :: st) (S, I, R, z) Q := RB_aloadn rfl rfl
theorem w41_12 : RB d 41 12 [l0, l1, l2, l3, l4] (.ref a :: st) (S, I, R, z) Q = ((S a).1 = 2 ∧ RB d 41 15 [l0, l1, l2, l3, l4] (va_rf (R a 17) :: st) (S, I, R, z) Q) := RB_getR rfl rfl
theorem w41_15 : RB d 41 15 [l0, l1, .int x, l3, l4] st (S, I, R, z) Q = RB d 41 16 [l0, l1, .int x, l3, l4] (.int x :: st) (S, I, R, z) Q := RB_iloadn rfl rfl
theorem w41_16 : RB d 41 16 [l0, l1, l2, l3, l4] st (S, I, R, z) Q = RB d 41 17 [l0, l1, l2, l3, l4] (.int 0 :: st) (S, I, R, z) Q := RB_iconst rfl ki0
theorem w41_17 : RB d 41 17 [l0, l1, l2, l3, l4] (.int x :: .int i :: .ref a :: st) (S, I, R, z) Q = (((S a).1 = 9 ∧ aIx i (S a).2 ∧ 16 ≤ a) ∧ RB d 41 18 [l0, l1, l2, l3, l4] st (S, aW I a i.toNatClampNeg x, R, z) Q) := RB_iast rfl
theorem w41_18 : RB d 41 18 [l0, l1, .int x, l3, l4] st (S, I, R, z) Q = RB d 41 21 [l0, l1, .int (x + 1), l3, l4] st (S, I, R, z) Q := RB_iinc rfl rfl (Nat.le_of_ble_eq_true rfl) ki1 rfl
theorem w41_21 : RB d 41 21 [l0, l1, l2, l3, l4] st (S, I, R, z) Q = RB d 41 2 [l0, l1, l2, l3, l4] st (S, I, R, z) Q := RB_goto rfl (by decide) rfl
theorem w41_24 : RB d 41 24 [l0, l1, l2, l3, l4] st (S, I, R, z) Q = RB d 41 25 [l0, l1, l2, l3, l4] (.int 0 :: st) (S, I, R, z) Q := RB_iconst rfl ki0
theorem w41_25 : RB d 41 25 [l0, l1, l2, l3, l4] (.int x :: st) (S, I, R, z) Q = RB d 41 26 [l0, l1, .int x, l3, l4] st (S, I, R, z) Q := RB_istoren rfl (Nat.le_of_ble_eq_true rfl) rfl
theorem w41_26 : RB d 41 26 [l0, l1, .int x, l3, l4] st (S, I, R, z) Q = RB d 41 27 [l0, l1, .int x, l3, l4] (.int x :: st) (S, I, R, z) Q := RB_iloadn rfl rfl
theorem w41_27 : RB d 41 27 [.ref a, l1, l2, l3, l4] st (S, I, R, z) Q = RB d 41 28 [.ref a, l1, l2, l3, l4] (.ref a :: st) (S, I, R, z) Q := RB_aloadn rfl rfl
theorem w41_28 : RB d 41 28 [l0, l1, l2, l3, l4] (.ref a :: st) (S, I, R, z) Q = ((S a).1 = 2 ∧ RB d 41 31 [l0, l1, l2, l3, l4] (.int (I a 3) :: st) (S, I, R, z) Q) := RB_getI rfl rfl
theorem w41_31 : RB d 41 31 [l0, l1, l2, l3, l4] (.int y :: .int x :: st) (S, I, R, z) Q = ((y ≤ x → RB d 41 60 [l0, l1, l2, l3, l4] st (S, I, R, z) Q) ∧ (¬ y ≤ x → RB d 41 34 [l0, l1, l2, l3, l4] st (S, I, R, z) Q)) := RB_ige rfl (by decide) rfl
theorem w41_34 : RB d 41 34 [.ref a, l1, l2, l3, l4] st (S, I, R, z) Q = RB d 41 35 [.ref a, l1, l2, l3, l4] (.ref a :: st) (S, I, R, z) Q := RB_aloadn rfl rfl
theorem w41_35 : RB d 41 35 [l0, l1, l2, l3, l4] (.ref a :: st) (S, I, R, z) Q = ((S a).1 = 2 ∧ RB d 41 38 [l0, l1, l2, l3, l4] (va_rf (R a 17) :: st) (S, I, R, z) Q) := RB_getR rfl rfl
theorem w41_38 : RB d 41 38 [.ref a, l1, l2, l3, l4] st (S, I, R, z) Q = RB d 41 39 [.ref a, l1, l2, l3, l4] (.ref a :: st) (S, I, R, z) Q := RB_aloadn rfl rfl
theorem w41_39 : RB d 41 39 [l0, l1, .int x, l3, l4] st (S, I, R, z) Q = RB d 41 40 [l0, l1, .int x, l3, l4] (.int x :: st) (S, I, R, z) Q := RB_iloadn rfl rfl
theorem w41_40 : RB d 41 40 [l0, .int x, l2, l3, l4] st (S, I, R, z) Q = RB d 41 41 [l0, .int x, l2, l3, l4] (.int x :: st) (S, I, R, z) Q := RB_iloadn rfl rfl
theorem w41_41 : RB d 41 41 [l0, l1, l2, l3, l4] [.int x1, .int x0, .ref a, s0] (S, I, R, z) Q = ((S a).1 = 2 ∧ RM d 40 [.ref a, .int x0, .int x1] (S, I, R, z) (fun v τ => RB d 41 44 [l0, l1, l2, l3, l4] (aPush v [s0]) τ Q)) := RB_callV (n := 3) (t := 0) (k := 172) (ins := .invokevirtual 172) rfl rfl rfl (by decide) (Nat.le_of_ble_eq_true rfl) (Nat.le_of_ble_eq_true rfl) rfl rfl
theorem w41_44 : RB d 41 44 [l0, l1, l2, l3, l4] (v :: w :: st) (S, I, R, z) Q = RB d 41 45 [l0, l1, l2, l3, l4] (v :: w :: v :: w :: st) (S, I, R, z) Q := RB_dup2 rfl
theorem w41_45 : RB d 41 45 [l0, l1, l2, l3, l4] (.int i :: .ref a :: st) (S, I, R, z) Q = (((S a).1 = 9 ∧ aIx i (S a).2) ∧ RB d 41 46 [l0, l1, l2, l3, l4] (.int (I a i.toNatClampNeg) :: st) (S, I, R, z) Q) := RB_iald rfl
theorem w41_46 : RB d 41 46 [.ref a, l1, l2, l3, l4] st (S, I, R, z) Q = RB d 41 47 [.ref a, l1, l2, l3, l4] (.ref a :: st) (S, I, R, z) Q := RB_aloadn rfl rfl
theorem w41_47 : RB d 41 47 [l0, l1, l2, l3, l4] (.ref a :: st) (S, I, R, z) Q = ((S a).1 = 2 ∧ RB d 41 50 [l0, l1, l2, l3, l4] (va_rf (R a 1) :: st) (S, I, R, z) Q) := RB_getR rfl rfl
theorem w41_50 : RB d 41 50 [l0, l1, .int x, l3, l4] st (S, I, R, z) Q = RB d 41 51 [l0, l1, .int x, l3, l4] (.int x :: st) (S, I, R, z) Q := RB_iloadn rfl rfl
theorem w41_51 : RB d 41 51 [l0, l1, l2, l3, l4] (.int i :: .ref a :: st) (S, I, R, z) Q = (((S a).1 = 9 ∧ aIx i (S a).2) ∧ RB d 41 52 [l0, l1, l2, l3, l4] (.int (I a i.toNatClampNeg) :: st) (S, I, R, z) Q) := RB_iald rfl
theorem w41_52 : RB d 41 52 [l0, l1, l2, l3, l4] (.int y :: .int x :: st) (S, I, R, z) Q = RB d 41 53 [l0, l1, l2, l3, l4] (.int (x + y) :: st) (S, I, R, z) Q := RB_iadd rfl
theorem w41_53 : RB d 41 53 [l0, l1, l2, l3, l4] (.int x :: .int i :: .ref a :: st) (S, I, R, z) Q = (((S a).1 = 9 ∧ aIx i (S a).2 ∧ 16 ≤ a) ∧ RB d 41 54 [l0, l1, l2, l3, l4] st (S, aW I a i.toNatClampNeg x, R, z) Q) := RB_iast rfl
theorem w41_54 : RB d 41 54 [l0, l1, .int x, l3, l4] st (S, I, R, z) Q = RB d 41 57 [l0, l1, .int (x + 1), l3, l4] st (S, I, R, z) Q := RB_iinc rfl rfl (Nat.le_of_ble_eq_true rfl) ki1 rfl
theorem w41_57 : RB d 41 57 [l0, l1, l2, l3, l4] st (S, I, R, z) Q = RB d 41 26 [l0, l1, l2, l3, l4] st (S, I, R, z) Q := RB_goto rfl (by decide) rfl
theorem w41_60 : RB d 41 60 [.ref a, l1, l2, l3, l4] st (S, I, R, z) Q = RB d 41 61 [.ref a, l1, l2, l3, l4] (.ref a :: st) (S, I, R, z) Q := RB_aloadn rfl rfl
theorem w41_61 : RB d 41 61 [.ref a, l1, l2, l3, l4] st (S, I, R, z) Q = RB d 41 62 [.ref a, l1, l2, l3, l4] (.ref a :: st) (S, I, R, z) Q := RB_aloadn rfl rfl
theorem w41_62 : RB d 41 62 [l0, l1, l2, l3, l4] [.ref a, s0] (S, I, R, z) Q = ((S a).1 = 2 ∧ RM d 16 [.ref a] (S, I, R, z) (fun v τ => RB d 41 65 [l0, l1, l2, l3, l4] (aPush v [s0]) τ Q)) := RB_callV (n := 1) (t := 0) (k := 136) (ins := .invokevirtual 136) rfl rfl rfl (by decide) (Nat.le_of_ble_eq_true rfl) (Nat.le_of_ble_eq_true rfl) rfl rfl
theorem w41_65 : RB d 41 65 [l0, l1, l2, l3, l4] [.int x0, .ref a] (S, I, R, z) Q = ((S a).1 = 2 ∧ RM d 17 [.ref a, .int x0] (S, I, R, z) (fun v τ => RB d 41 68 [l0, l1, l2, l3, l4] (aPush v []) τ Q)) := RB_callV (n := 2) (t := 0) (k := 115) (ins := .invokevirtual 115) rfl rfl rfl (by decide) (Nat.le_of_ble_eq_true rfl) (Nat.le_of_ble_eq_true rfl) rfl rfl
theorem w41_68 : RB d 41 68 [l0, l1, l2, l3, l4] (.int x :: st) (S, I, R, z) Q = RB d 41 69 [l0, l1, .int x, l3, l4] st (S, I, R, z) Q := RB_istoren rfl (Nat.le_of_ble_eq_true rfl) rfl
theorem w41_69 : RB d 41 69 [l0, l1, .int x, l3, l4] st (S, I, R, z) Q = RB d 41 70 [l0, l1, .int x, l3, l4] (.int x :: st) (S, I, R, z) Q := RB_iloadn rfl rfl
theorem w41_70 : RB d 41 70 [.ref a, l1, l2, l3, l4] st (S, I, R, z) Q = RB d 41 71 [.ref a, l1, l2, l3, l4] (.ref a :: st) (S, I, R, z) Q := RB_aloadn rfl rfl
theorem w41_71 : RB d 41 71 [l0, l1, l2, l3, l4] (.ref a :: st) (S, I, R, z) Q = ((S a).1 = 2 ∧ RB d 41 74 [l0, l1, l2, l3, l4] (va_rf (R a 17) :: st) (S, I, R, z) Q) := RB_getR rfl rfl
theorem w41_74 : RB d 41 74 [l0, l1, l2, l3, l4] st (S, I, R, z) Q = RB d 41 75 [l0, l1, l2, l3, l4] (.int 0 :: st) (S, I, R, z) Q := RB_iconst rfl ki0
theorem w41_75 : RB d 41 75 [l0, l1, l2, l3, l4] (.int i :: .ref a :: st) (S, I, R, z) Q = (((S a).1 = 9 ∧ aIx i (S a).2) ∧ RB d 41 76 [l0, l1, l2, l3, l4] (.int (I a i.toNatClampNeg) :: st) (S, I, R, z) Q) := RB_iald rfl
theorem w41_76 : RB d 41 76 [l0, l1, l2, l3, l4] (.int y :: .int x :: st) (S, I, R, z) Q = RB d 41 77 [l0, l1, l2, l3, l4] (.int (x - y) :: st) (S, I, R, z) Q := RB_isub rfl
theorem w41_77 : RB d 41 77 [l0, l1, l2, l3, l4] (.int x :: st) (S, I, R, z) Q = RB d 41 78 [l0, l1, l2, .int x, l4] st (S, I, R, z) Q := RB_istoren rfl (Nat.le_of_ble_eq_true rfl) rfl
theorem w41_78 : RB d 41 78 [l0, l1, l2, l3, l4] st (S, I, R, z) Q = RB d 41 79 [l0, l1, l2, l3, l4] (.int 1 :: st) (S, I, R, z) Q := RB_iconst rfl ki1
theorem w41_79 : RB d 41 79 [l0, l1, l2, l3, l4] (.int x :: st) (S, I, R, z) Q = RB d 41 81 [l0, l1, l2, l3, .int x] st (S, I, R, z) Q := RB_istore rfl (Nat.le_of_ble_eq_true rfl) rfl
theorem w41_81 : RB d 41 81 [l0, l1, l2, l3, .int x] st (S, I, R, z) Q = RB d 41 83 [l0, l1, l2, l3, .int x] (.int x :: st) (S, I, R, z) Q := RB_iload rfl rfl
theorem w41_83 : RB d 41 83 [l0, l1, l2, l3, l4] st (S, I, R, z) Q = RB d 41 85 [l0, l1, l2, l3, l4] (.int 9 :: st) (S, I, R, z) Q := RB_bipush rfl kb9
theorem w41_85 : RB d 41 85 [l0, l1, l2, l3, l4] (.int y :: .int x :: st) (S, I, R, z) Q = ((y < x → RB d 41 128 [l0, l1, l2, l3, l4] st (S, I, R, z) Q) ∧ (¬ y < x → RB d 41 88 [l0, l1, l2, l3, l4] st (S, I, R, z) Q)) := RB_igt rfl (by decide) rfl
theorem w41_88 : RB d 41 88 [l0, l1, l2, l3, l4] st (S, I, R, z) Q = RB d 41 89 [l0, l1, l2, l3, l4] (.int 2 :: st) (S, I, R, z) Q := RB_iconst rfl ki2
theorem w41_89 : RB d 41 89 [l0, l1, l2, .int x, l4] st (S, I, R, z) Q = RB d 41 90 [l0, l1, l2, .int x, l4] (.int x :: st) (S, I, R, z) Q := RB_iloadn rfl rfl
theorem w41_90 : RB d 41 90 [l0, l1, l2, l3, l4] (.int y :: .int x :: st) (S, I, R, z) Q = RB d 41 91 [l0, l1, l2, l3, l4] (.int (x * y) :: st) (S, I, R, z) Q := RB_imul rfl
theorem w41_91 : RB d 41 91 [l0, l1, .int x, l3, l4] st (S, I, R, z) Q = RB d 41 92 [l0, l1, .int x, l3, l4] (.int x :: st) (S, I, R, z) Q := RB_iloadn rfl rfl
theorem w41_92 : RB d 41 92 [l0, l1, l2, l3, l4] (.int y :: .int x :: st) (S, I, R, z) Q = ((y < x → RB d 41 98 [l0, l1, l2, l3, l4] st (S, I, R, z) Q) ∧ (¬ y < x → RB d 41 95 [l0, l1, l2, l3, l4] st (S, I, R, z) Q)) := RB_igt rfl (by decide) rfl
theorem w41_95 : RB d 41 95 [l0, l1, l2, l3, .int x] st (S, I, R, z) Q = RB d 41 97 [l0, l1, l2, l3, .int x] (.int x :: st) (S, I, R, z) Q := RB_iload rfl rfl
theorem w41_97 : RB d 41 97 [l0, l1, l2, l3, l4] [.int x] (S, I, R, z) Q = Q (some (.int x)) (S, I, R, z) := RB_iret rfl rfl rfl
theorem w41_98 : RB d 41 98 [l0, l1, l2, .int x, l4] st (S, I, R, z) Q = RB d 41 99 [l0, l1, l2, .int x, l4] (.int x :: st) (S, I, R, z) Q := RB_iloadn rfl rfl
theorem w41_99 : RB d 41 99 [l0, l1, l2, l3, .int x] st (S, I, R, z) Q = RB d 41 101 [l0, l1, l2, l3, .int x] (.int x :: st) (S, I, R, z) Q := RB_iload rfl rfl
theorem w41_101 : RB d 41 101 [.ref a, l1, l2, l3, l4] st (S, I, R, z) Q = RB d 41 102 [.ref a, l1, l2, l3, l4] (.ref a :: st) (S, I, R, z) Q := RB_aloadn rfl rfl
theorem w41_102 : RB d 41 102 [l0, l1, l2, l3, l4] (.ref a :: st) (S, I, R, z) Q = ((S a).1 = 2 ∧ RB d 41 105 [l0, l1, l2, l3, l4] (va_rf (R a 17) :: st) (S, I, R, z) Q) := RB_getR rfl rfl
theorem w41_105 : RB d 41 105 [l0, l1, l2, l3, l4] (.ref a :: st) (S, I, R, z) Q = (((8 ≤ (S a).1 ∧ (S a).1 ≤ 13) ∨ (S a).1 = 15) ∧ RB d 41 106 [l0, l1, l2, l3, l4] (.int (Int32.ofNat (S a).2) :: st) (S, I, R, z) Q) := RB_alen rfl
theorem w41_106 : RB d 41 106 [l0, l1, l2, l3, l4] (.int y :: .int x :: st) (S, I, R, z) Q = ((y ≤ x → RB d 41 119 [l0, l1, l2, l3, l4] st (S, I, R, z) Q) ∧ (¬ y ≤ x → RB d 41 109 [l0, l1, l2, l3, l4] st (S, I, R, z) Q)) := RB_ige rfl (by decide) rfl
theorem w41_109 : RB d 41 109 [.ref a, l1, l2, l3, l4] st (S, I, R, z) Q = RB d 41 110 [.ref a, l1, l2, l3, l4] (.ref a :: st) (S, I, R, z) Q := RB_aloadn rfl rfl
theorem w41_110 : RB d 41 110 [l0, l1, l2, l3, l4] (.ref a :: st) (S, I, R, z) Q = ((S a).1 = 2 ∧ RB d 41 113 [l0, l1, l2, l3, l4] (va_rf (R a 17) :: st) (S, I, R, z) Q) := RB_getR rfl rfl
theorem w41_113 : RB d 41 113 [l0, l1, l2, l3, .int x] st (S, I, R, z) Q = RB d 41 115 [l0, l1, l2, l3, .int x] (.int x :: st) (S, I, R, z) Q := RB_iload rfl rfl
theorem w41_115 : RB d 41 115 [l0, l1, l2, l3, l4] (.int i :: .ref a :: st) (S, I, R, z) Q = (((S a).1 = 9 ∧ aIx i (S a).2) ∧ RB d 41 116 [l0, l1, l2, l3, l4] (.int (I a i.toNatClampNeg) :: st) (S, I, R, z) Q) := RB_iald rfl
theorem w41_116 : RB d 41 116 [l0, l1, l2, l3, l4] st (S, I, R, z) Q = RB d 41 120 [l0, l1, l2, l3, l4] st (S, I, R, z) Q := RB_goto rfl (by decide) rfl
theorem w41_119 : RB d 41 119 [l0, l1, l2, l3, l4] st (S, I, R, z) Q = RB d 41 120 [l0, l1, l2, l3, l4] (.int 0 :: st) (S, I, R, z) Q := RB_iconst rfl ki0
theorem w41_120 : RB d 41 120 [l0, l1, l2, l3, l4] (.int y :: .int x :: st) (S, I, R, z) Q = RB d 41 121 [l0, l1, l2, l3, l4] (.int (x - y) :: st) (S, I, R, z) Q := RB_isub rfl
theorem w41_121 : RB d 41 121 [l0, l1, l2, l3, l4] (.int x :: st) (S, I, R, z) Q = RB d 41 122 [l0, l1, l2, .int x, l4] st (S, I, R, z) Q := RB_istoren rfl (Nat.le_of_ble_eq_true rfl) rfl
theorem w41_122 : RB d 41 122 [l0, l1, l2, l3, .int x] st (S, I, R, z) Q = RB d 41 125 [l0, l1, l2, l3, .int (x + 1)] st (S, I, R, z) Q := RB_iinc rfl rfl (Nat.le_of_ble_eq_true rfl) ki1 rfl
theorem w41_125 : RB d 41 125 [l0, l1, l2, l3, l4] st (S, I, R, z) Q = RB d 41 81 [l0, l1, l2, l3, l4] st (S, I, R, z) Q := RB_goto rfl (by decide) rfl
theorem w41_128 : RB d 41 128 [l0, l1, l2, l3, l4] st (S, I, R, z) Q = RB d 41 130 [l0, l1, l2, l3, l4] (.int (-1000000005) :: st) (S, I, R, z) Q := RB_ldc rfl rfl
theorem w41_130 : RB d 41 130 [l0, l1, l2, l3, l4] [.int x] (S, I, R, z) Q = Q (some (.int x)) (S, I, R, z) := RB_iret rfl rfl rfl
/-! 42: HangedWord$State.openLines -/
theorem w42_0 : RB d 42 0 [l0, l1, l2, l3, l4, l5, l6, l7] st (S, I, R, z) Q = RB d 42 1 [l0, l1, l2, l3, l4, l5, l6, l7] (.int 0 :: st) (S, I, R, z) Q := RB_iconst rfl ki0
theorem w42_1 : RB d 42 1 [l0, l1, l2, l3, l4, l5, l6, l7] (.int x :: st) (S, I, R, z) Q = RB d 42 2 [l0, l1, .int x, l3, l4, l5, l6, l7] st (S, I, R, z) Q := RB_istoren rfl (Nat.le_of_ble_eq_true rfl) rfl
theorem w42_2 : RB d 42 2 [l0, l1, l2, l3, l4, l5, l6, l7] st (S, I, R, z) Q = RB d 42 3 [l0, l1, l2, l3, l4, l5, l6, l7] (.int 0 :: st) (S, I, R, z) Q := RB_iconst rfl ki0
theorem w42_3 : RB d 42 3 [l0, l1, l2, l3, l4, l5, l6, l7] (.int x :: st) (S, I, R, z) Q = RB d 42 4 [l0, l1, l2, .int x, l4, l5, l6, l7] st (S, I, R, z) Q := RB_istoren rfl (Nat.le_of_ble_eq_true rfl) rfl
theorem w42_4 : RB d 42 4 [.ref a, l1, l2, l3, l4, l5, l6, l7] st (S, I, R, z) Q = RB d 42 5 [.ref a, l1, l2, l3, l4, l5, l6, l7] (.ref a :: st) (S, I, R, z) Q := RB_aloadn rfl rfl
theorem w42_5 : RB d 42 5 [l0, l1, l2, l3, l4, l5, l6, l7] [.ref a] (S, I, R, z) Q = ((S a).1 = 2 ∧ RM d 16 [.ref a] (S, I, R, z) (fun v τ => RB d 42 8 [l0, l1, l2, l3, l4, l5, l6, l7] (aPush v []) τ Q)) := RB_callV (n := 1) (t := 0) (k := 136) (ins := .invokevirtual 136) rfl rfl rfl (by decide) (Nat.le_of_ble_eq_true rfl) (Nat.le_of_ble_eq_true rfl) rfl rfl
theorem w42_8 : RB d 42 8 [l0, l1, l2, l3, l4, l5, l6, l7] (.int x :: st) (S, I, R, z) Q = RB d 42 10 [l0, l1, l2, l3, .int x, l5, l6, l7] st (S, I, R, z) Q := RB_istore rfl (Nat.le_of_ble_eq_true rfl) rfl
theorem w42_10 : RB d 42 10 [l0, l1, l2, l3, l4, l5, l6, l7] st (S, I, R, z) Q = RB d 42 11 [l0, l1, l2, l3, l4, l5, l6, l7] (.int 0 :: st) (S, I, R, z) Q := RB_iconst rfl ki0
theorem w42_11 : RB d 42 11 [l0, l1, l2, l3, l4, l5, l6, l7] (.int x :: st) (S, I, R, z) Q = RB d 42 13 [l0, l1, l2, l3, l4, .int x, l6, l7] st (S, I, R, z) Q := RB_istore rfl (Nat.le_of_ble_eq_true rfl) rfl
theorem w42_13 : RB d 42 13 [l0, l1, l2, l3, l4, .int x, l6, l7] st (S, I, R, z) Q = RB d 42 15 [l0, l1, l2, l3, l4, .int x, l6, l7] (.int x :: st) (S, I, R, z) Q := RB_iload rfl rfl
theorem w42_15 : RB d 42 15 [l0, l1, l2, l3, l4, l5, l6, l7] st (S, I, R, z) Q = RB d 42 17 [l0, l1, l2, l3, l4, l5, l6, l7] (.int 6 :: st) (S, I, R, z) Q := RB_bipush rfl kb6
theorem w42_17 : RB d 42 17 [l0, l1, l2, l3, l4, l5, l6, l7] (.int y :: .int x :: st) (S, I, R, z) Q = ((y ≤ x → RB d 42 98 [l0, l1, l2, l3, l4, l5, l6, l7] st (S, I, R, z) Q) ∧ (¬ y ≤ x → RB d 42 20 [l0, l1, l2, l3, l4, l5, l6, l7] st (S, I, R, z) Q)) := RB_ige rfl (by decide) rfl
theorem w42_20 : RB d 42 20 [l0, l1, .int x, l3, l4, l5, l6, l7] st (S, I, R, z) Q = RB d 42 21 [l0, l1, .int x, l3, l4, l5, l6, l7] (.int x :: st) (S, I, R, z) Q := RB_iloadn rfl rfl
theorem w42_21 : RB d 42 21 [.ref a, l1, l2, l3, l4, l5, l6, l7] st (S, I, R, z) Q = RB d 42 22 [.ref a, l1, l2, l3, l4, l5, l6, l7] (.ref a :: st) (S, I, R, z) Q := RB_aloadn rfl rfl
theorem w42_22 : RB d 42 22 [l0, l1, l2, l3, l4, l5, l6, l7] (.ref a :: st) (S, I, R, z) Q = ((S a).1 = 2 ∧ RB d 42 25 [l0, l1, l2, l3, l4, l5, l6, l7] (.int (I a 10) :: st) (S, I, R, z) Q) := RB_getI rfl rfl
theorem w42_25 : RB d 42 25 [l0, l1, l2, l3, l4, l5, l6, l7] (.int y :: .int x :: st) (S, I, R, z) Q = ((y ≤ x → RB d 42 38 [l0, l1, l2, l3, l4, l5, l6, l7] st (S, I, R, z) Q) ∧ (¬ y ≤ x → RB d 42 28 [l0, l1, l2, l3, l4, l5, l6, l7] st (S, I, R, z) Q)) := RB_ige rfl (by decide) rfl
theorem w42_28 : RB d 42 28 [.ref a, l1, l2, l3, l4, l5, l6, l7] st (S, I, R, z) Q = RB d 42 29 [.ref a, l1, l2, l3, l4, l5, l6, l7] (.ref a :: st) (S, I, R, z) Q := RB_aloadn rfl rfl
theorem w42_29 : RB d 42 29 [l0, l1, l2, l3, .int x, l5, l6, l7] st (S, I, R, z) Q = RB d 42 31 [l0, l1, l2, l3, .int x, l5, l6, l7] (.int x :: st) (S, I, R, z) Q := RB_iload rfl rfl
theorem w42_31 : RB d 42 31 [l0, l1, l2, .int x, l4, l5, l6, l7] st (S, I, R, z) Q = RB d 42 32 [l0, l1, l2, .int x, l4, l5, l6, l7] (.int x :: st) (S, I, R, z) Q := RB_iloadn rfl rfl
theorem w42_32 : RB d 42 32 [l0, l1, l2, l3, l4, l5, l6, l7] [.int x1, .int x0, .ref a] (S, I, R, z) Q = ((S a).1 = 2 ∧ RM d 22 [.ref a, .int x0, .int x1] (S, I, R, z) (fun v τ => RB d 42 35 [l0, l1, l2, l3, l4, l5, l6, l7] (aPush v []) τ Q)) := RB_callV (n := 3) (t := 0) (k := 176) (ins := .invokevirtual 176) rfl rfl rfl (by decide) (Nat.le_of_ble_eq_true rfl) (Nat.le_of_ble_eq_true rfl) rfl rfl
theorem w42_35 : RB d 42 35 [l0, l1, l2, l3, l4, l5, l6, l7] (.int x :: st) (S, I, R, z) Q = ((x = 0 → RB d 42 40 [l0, l1, l2, l3, l4, l5, l6, l7] st (S, I, R, z) Q) ∧ (¬ x = 0 → RB d 42 38 [l0, l1, l2, l3, l4, l5, l6, l7] st (S, I, R, z) Q)) := RB_eq0 rfl (by decide) rfl
theorem w42_38 : RB d 42 38 [l0, l1, .int x, l3, l4, l5, l6, l7] st (S, I, R, z) Q = RB d 42 39 [l0, l1, .int x, l3, l4, l5, l6, l7] (.int x :: st) (S, I, R, z) Q := RB_iloadn rfl rfl
theorem w42_39 : RB d 42 39 [l0, l1, l2, l3, l4, l5, l6, l7] [.int x] (S, I, R, z) Q = Q (some (.int x)) (S, I, R, z) := RB_iret rfl rfl rfl
theorem w42_40 : RB d 42 40 [.ref a, l1, l2, l3, l4, l5, l6, l7] st (S, I, R, z) Q = RB d 42 41 [.ref a, l1, l2, l3, l4, l5, l6, l7] (.ref a :: st) (S, I, R, z) Q := RB_aloadn rfl rfl
theorem w42_41 : RB d 42 41 [l0, .int x, l2, l3, l4, l5, l6, l7] st (S, I, R, z) Q = RB d 42 42 [l0, .int x, l2, l3, l4, l5, l6, l7] (.int x :: st) (S, I, R, z) Q := RB_iloadn rfl rfl
theorem w42_42 : RB d 42 42 [l0, l1, l2, .int x, l4, l5, l6, l7] st (S, I, R, z) Q = RB d 42 43 [l0, l1, l2, .int x, l4, l5, l6, l7] (.int x :: st) (S, I, R, z) Q := RB_iloadn rfl rfl
theorem w42_43 : RB d 42 43 [l0, l1, l2, l3, .int x, l5, l6, l7] st (S, I, R, z) Q = RB d 42 45 [l0, l1, l2, l3, .int x, l5, l6, l7] (.int x :: st) (S, I, R, z) Q := RB_iload rfl rfl
theorem w42_45 : RB d 42 45 [l0, l1, l2, l3, l4, l5, l6, l7] [.int x2, .int x1, .int x0, .ref a] (S, I, R, z) Q = ((S a).1 = 2 ∧ RM d 28 [.ref a, .int x0, .int x1, .int x2] (S, I, R, z) (fun v τ => RB d 42 48 [l0, l1, l2, l3, l4, l5, l6, l7] (aPush v []) τ Q)) := RB_callV (n := 4) (t := 0) (k := 149) (ins := .invokevirtual 149) rfl rfl rfl (by decide) (Nat.le_of_ble_eq_true rfl) (Nat.le_of_ble_eq_true rfl) rfl rfl
theorem w42_48 : RB d 42 48 [l0, l1, l2, l3, l4, l5, l6, l7] (.int x :: st) (S, I, R, z) Q = RB d 42 50 [l0, l1, l2, l3, l4, l5, .int x, l7] st (S, I, R, z) Q := RB_istore rfl (Nat.le_of_ble_eq_true rfl) rfl
theorem w42_50 : RB d 42 50 [.ref a, l1, l2, l3, l4, l5, l6, l7] st (S, I, R, z) Q = RB d 42 51 [.ref a, l1, l2, l3, l4, l5, l6, l7] (.ref a :: st) (S, I, R, z) Q := RB_aloadn rfl rfl
theorem w42_51 : RB d 42 51 [l0, l1, l2, l3, l4, l5, .int x, l7] st (S, I, R, z) Q = RB d 42 53 [l0, l1, l2, l3, l4, l5, .int x, l7] (.int x :: st) (S, I, R, z) Q := RB_iload rfl rfl
theorem w42_53 : RB d 42 53 [l0, l1, l2, l3, .int x, l5, l6, l7] st (S, I, R, z) Q = RB d 42 55 [l0, l1, l2, l3, .int x, l5, l6, l7] (.int x :: st) (S, I, R, z) Q := RB_iload rfl rfl
theorem w42_55 : RB d 42 55 [l0, l1, l2, l3, l4, l5, l6, l7] [.int x1, .int x0, .ref a] (S, I, R, z) Q = ((S a).1 = 2 ∧ RM d 27 [.ref a, .int x0, .int x1] (S, I, R, z) (fun v τ => RB d 42 58 [l0, l1, l2, l3, l4, l5, l6, l7] (aPush v []) τ Q)) := RB_callV (n := 3) (t := 0) (k := 118) (ins := .invokevirtual 118) rfl rfl rfl (by decide) (Nat.le_of_ble_eq_true rfl) (Nat.le_of_ble_eq_true rfl) rfl rfl
theorem w42_58 : RB d 42 58 [l0, l1, l2, l3, l4, l5, l6, l7] (.int x :: st) (S, I, R, z) Q = RB d 42 60 [l0, l1, l2, l3, l4, l5, l6, .int x] st (S, I, R, z) Q := RB_istore rfl (Nat.le_of_ble_eq_true rfl) rfl
theorem w42_60 : RB d 42 60 [.ref a, l1, l2, l3, l4, l5, l6, l7] st (S, I, R, z) Q = RB d 42 61 [.ref a, l1, l2, l3, l4, l5, l6, l7] (.ref a :: st) (S, I, R, z) Q := RB_aloadn rfl rfl
theorem w42_61 : RB d 42 61 [l0, l1, l2, l3, l4, l5, .int x, l7] st (S, I, R, z) Q = RB d 42 63 [l0, l1, l2, l3, l4, l5, .int x, l7] (.int x :: st) (S, I, R, z) Q := RB_iload rfl rfl
theorem w42_63 : RB d 42 63 [l0, l1, l2, l3, l4, l5, l6, .int x] st (S, I, R, z) Q = RB d 42 65 [l0, l1, l2, l3, l4, l5, l6, .int x] (.int x :: st) (S, I, R, z) Q := RB_iload rfl rfl
theorem w42_65 : RB d 42 65 [l0, l1, l2, l3, .int x, l5, l6, l7] st (S, I, R, z) Q = RB d 42 67 [l0, l1, l2, l3, .int x, l5, l6, l7] (.int x :: st) (S, I, R, z) Q := RB_iload rfl rfl
theorem w42_67 : RB d 42 67 [l0, l1, l2, l3, l4, l5, l6, l7] [.int x2, .int x1, .int x0, .ref a] (S, I, R, z) Q = ((S a).1 = 2 ∧ RM d 43 [.ref a, .int x0, .int x1, .int x2] (S, I, R, z) (fun v τ => RB d 42 70 [l0, l1, l2, l3, l4, l5, l6, l7] (aPush v []) τ Q)) := RB_callV (n := 4) (t := 0) (k := 179) (ins := .invokevirtual 179) rfl rfl rfl (by decide) (Nat.le_of_ble_eq_true rfl) (Nat.le_of_ble_eq_true rfl) rfl rfl
theorem w42_70 : RB d 42 70 [l0, l1, l2, l3, l4, l5, l6, l7] (.int x :: st) (S, I, R, z) Q = RB d 42 72 [l0, l1, l2, l3, .int x, l5, l6, l7] st (S, I, R, z) Q := RB_istore rfl (Nat.le_of_ble_eq_true rfl) rfl
theorem w42_72 : RB d 42 72 [l0, l1, .int x, l3, l4, l5, l6, l7] st (S, I, R, z) Q = RB d 42 73 [l0, l1, .int x, l3, l4, l5, l6, l7] (.int x :: st) (S, I, R, z) Q := RB_iloadn rfl rfl
theorem w42_73 : RB d 42 73 [l0, l1, l2, l3, l4, l5, l6, .int x] st (S, I, R, z) Q = RB d 42 75 [l0, l1, l2, l3, l4, l5, l6, .int x] (.int x :: st) (S, I, R, z) Q := RB_iload rfl rfl
theorem w42_75 : RB d 42 75 [l0, l1, l2, l3, l4, l5, l6, l7] (.int x :: st) (S, I, R, z) Q = ((x = 0 → RB d 42 78 [l0, l1, l2, l3, l4, l5, l6, l7] st (S, I, R, z) Q) ∧ (¬ x = 0 → RB d 42 82 [l0, l1, l2, l3, l4, l5, l6, l7] st (S, I, R, z) Q)) := RB_ne0 rfl (by decide) rfl
theorem w42_78 : RB d 42 78 [l0, l1, l2, l3, l4, l5, l6, l7] st (S, I, R, z) Q = RB d 42 79 [l0, l1, l2, l3, l4, l5, l6, l7] (.int 1 :: st) (S, I, R, z) Q := RB_iconst rfl ki1
theorem w42_79 : RB d 42 79 [l0, l1, l2, l3, l4, l5, l6, l7] st (S, I, R, z) Q = RB d 42 83 [l0, l1, l2, l3, l4, l5, l6, l7] st (S, I, R, z) Q := RB_goto rfl (by decide) rfl
theorem w42_82 : RB d 42 82 [l0, l1, l2, l3, l4, l5, l6, l7] st (S, I, R, z) Q = RB d 42 83 [l0, l1, l2, l3, l4, l5, l6, l7] (.int 0 :: st) (S, I, R, z) Q := RB_iconst rfl ki0
theorem w42_83 : RB d 42 83 [l0, l1, l2, l3, l4, l5, l6, l7] (.int y :: .int x :: st) (S, I, R, z) Q = RB d 42 84 [l0, l1, l2, l3, l4, l5, l6, l7] (.int (x + y) :: st) (S, I, R, z) Q := RB_iadd rfl
theorem w42_84 : RB d 42 84 [l0, l1, l2, l3, l4, l5, l6, l7] (.int x :: st) (S, I, R, z) Q = RB d 42 85 [l0, l1, .int x, l3, l4, l5, l6, l7] st (S, I, R, z) Q := RB_istoren rfl (Nat.le_of_ble_eq_true rfl) rfl
theorem w42_85 : RB d 42 85 [l0, l1, l2, .int x, l4, l5, l6, l7] st (S, I, R, z) Q = RB d 42 86 [l0, l1, l2, .int x, l4, l5, l6, l7] (.int x :: st) (S, I, R, z) Q := RB_iloadn rfl rfl
theorem w42_86 : RB d 42 86 [l0, l1, l2, l3, l4, l5, l6, l7] st (S, I, R, z) Q = RB d 42 87 [l0, l1, l2, l3, l4, l5, l6, l7] (.int 1 :: st) (S, I, R, z) Q := RB_iconst rfl ki1
theorem w42_87 : RB d 42 87 [l0, l1, l2, l3, l4, l5, .int x, l7] st (S, I, R, z) Q = RB d 42 89 [l0, l1, l2, l3, l4, l5, .int x, l7] (.int x :: st) (S, I, R, z) Q := RB_iload rfl rfl
theorem w42_89 : RB d 42 89 [l0, l1, l2, l3, l4, l5, l6, l7] (.int y :: .int x :: st) (S, I, R, z) Q = RB d 42 90 [l0, l1, l2, l3, l4, l5, l6, l7] (.int (x <<< (y &&& 31)) :: st) (S, I, R, z) Q := RB_ishl rfl
theorem w42_90 : RB d 42 90 [l0, l1, l2, l3, l4, l5, l6, l7] (.int y :: .int x :: st) (S, I, R, z) Q = RB d 42 91 [l0, l1, l2, l3, l4, l5, l6, l7] (.int (x ||| y) :: st) (S, I, R, z) Q := RB_ior rfl
theorem w42_91 : RB d 42 91 [l0, l1, l2, l3, l4, l5, l6, l7] (.int x :: st) (S, I, R, z) Q = RB d 42 92 [l0, l1, l2, .int x, l4, l5, l6, l7] st (S, I, R, z) Q := RB_istoren rfl (Nat.le_of_ble_eq_true rfl) rfl
theorem w42_92 : RB d 42 92 [l0, l1, l2, l3, l4, .int x, l6, l7] st (S, I, R, z) Q = RB d 42 95 [l0, l1, l2, l3, l4, .int (x + 1), l6, l7] st (S, I, R, z) Q := RB_iinc rfl rfl (Nat.le_of_ble_eq_true rfl) ki1 rfl
theorem w42_95 : RB d 42 95 [l0, l1, l2, l3, l4, l5, l6, l7] st (S, I, R, z) Q = RB d 42 13 [l0, l1, l2, l3, l4, l5, l6, l7] st (S, I, R, z) Q := RB_goto rfl (by decide) rfl
theorem w42_98 : RB d 42 98 [l0, l1, .int x, l3, l4, l5, l6, l7] st (S, I, R, z) Q = RB d 42 99 [l0, l1, .int x, l3, l4, l5, l6, l7] (.int x :: st) (S, I, R, z) Q := RB_iloadn rfl rfl
theorem w42_99 : RB d 42 99 [l0, l1, l2, l3, l4, l5, l6, l7] [.int x] (S, I, R, z) Q = Q (some (.int x)) (S, I, R, z) := RB_iret rfl rfl rfl
/-! 43: HangedWord$State.havingAt -/
theorem w43_0 : RB d 43 0 [l0, l1, l2, l3, l4, l5] st (S, I, R, z) Q = RB d 43 1 [l0, l1, l2, l3, l4, l5] (.int 0 :: st) (S, I, R, z) Q := RB_iconst rfl ki0
theorem w43_1 : RB d 43 1 [l0, l1, l2, l3, l4, l5] (.int x :: st) (S, I, R, z) Q = RB d 43 3 [l0, l1, l2, l3, .int x, l5] st (S, I, R, z) Q := RB_istore rfl (Nat.le_of_ble_eq_true rfl) rfl
theorem w43_3 : RB d 43 3 [l0, l1, l2, l3, l4, l5] st (S, I, R, z) Q = RB d 43 4 [l0, l1, l2, l3, l4, l5] (.int 0 :: st) (S, I, R, z) Q := RB_iconst rfl ki0
theorem w43_4 : RB d 43 4 [l0, l1, l2, l3, l4, l5] (.int x :: st) (S, I, R, z) Q = RB d 43 6 [l0, l1, l2, l3, l4, .int x] st (S, I, R, z) Q := RB_istore rfl (Nat.le_of_ble_eq_true rfl) rfl
theorem w43_6 : RB d 43 6 [l0, l1, l2, l3, l4, .int x] st (S, I, R, z) Q = RB d 43 8 [l0, l1, l2, l3, l4, .int x] (.int x :: st) (S, I, R, z) Q := RB_iload rfl rfl
theorem w43_8 : RB d 43 8 [.ref a, l1, l2, l3, l4, l5] st (S, I, R, z) Q = RB d 43 9 [.ref a, l1, l2, l3, l4, l5] (.ref a :: st) (S, I, R, z) Q := RB_aloadn rfl rfl
theorem w43_9 : RB d 43 9 [l0, l1, l2, l3, l4, l5] (.ref a :: st) (S, I, R, z) Q = ((S a).1 = 2 ∧ RB d 43 12 [l0, l1, l2, l3, l4, l5] (.int (I a 3) :: st) (S, I, R, z) Q) := RB_getI rfl rfl
theorem w43_12 : RB d 43 12 [l0, l1, l2, l3, l4, l5] (.int y :: .int x :: st) (S, I, R, z) Q = ((y ≤ x → RB d 43 54 [l0, l1, l2, l3, l4, l5] st (S, I, R, z) Q) ∧ (¬ y ≤ x → RB d 43 15 [l0, l1, l2, l3, l4, l5] st (S, I, R, z) Q)) := RB_ige rfl (by decide) rfl
theorem w43_15 : RB d 43 15 [l0, l1, l2, l3, .int x, l5] st (S, I, R, z) Q = RB d 43 17 [l0, l1, l2, l3, .int x, l5] (.int x :: st) (S, I, R, z) Q := RB_iload rfl rfl
theorem w43_17 : RB d 43 17 [l0, l1, l2, .int x, l4, l5] st (S, I, R, z) Q = RB d 43 18 [l0, l1, l2, .int x, l4, l5] (.int x :: st) (S, I, R, z) Q := RB_iloadn rfl rfl
theorem w43_18 : RB d 43 18 [l0, l1, l2, l3, l4, .int x] st (S, I, R, z) Q = RB d 43 20 [l0, l1, l2, l3, l4, .int x] (.int x :: st) (S, I, R, z) Q := RB_iload rfl rfl
theorem w43_20 : RB d 43 20 [l0, l1, l2, l3, l4, l5] [.int x1, .int x0, s0] (S, I, R, z) Q = RM d 129 [.int x0, .int x1] (S, I, R, z) (fun v τ => RB d 43 23 [l0, l1, l2, l3, l4, l5] (aPush v [s0]) τ Q) := RB_callS (n := 2) (t := 1) (k := 85) (ins := .invokestatic 85) rfl rfl rfl (Nat.le_of_ble_eq_true rfl) (Nat.le_of_ble_eq_true rfl) rfl rfl
theorem w43_23 : RB d 43 23 [l0, l1, l2, l3, l4, l5] (.int x :: st) (S, I, R, z) Q = ((x = 0 → RB d 43 44 [l0, l1, l2, l3, l4, l5] st (S, I, R, z) Q) ∧ (¬ x = 0 → RB d 43 26 [l0, l1, l2, l3, l4, l5] st (S, I, R, z) Q)) := RB_eq0 rfl (by decide) rfl
theorem w43_26 : RB d 43 26 [.ref a, l1, l2, l3, l4, l5] st (S, I, R, z) Q = RB d 43 27 [.ref a, l1, l2, l3, l4, l5] (.ref a :: st) (S, I, R, z) Q := RB_aloadn rfl rfl
theorem w43_27 : RB d 43 27 [l0, l1, l2, l3, l4, .int x] st (S, I, R, z) Q = RB d 43 29 [l0, l1, l2, l3, l4, .int x] (.int x :: st) (S, I, R, z) Q := RB_iload rfl rfl
theorem w43_29 : RB d 43 29 [l0, .int x, l2, l3, l4, l5] st (S, I, R, z) Q = RB d 43 30 [l0, .int x, l2, l3, l4, l5] (.int x :: st) (S, I, R, z) Q := RB_iloadn rfl rfl
theorem w43_30 : RB d 43 30 [l0, l1, l2, l3, l4, l5] [.int x1, .int x0, .ref a, s0] (S, I, R, z) Q = ((S a).1 = 2 ∧ RM d 14 [.ref a, .int x0, .int x1] (S, I, R, z) (fun v τ => RB d 43 33 [l0, l1, l2, l3, l4, l5] (aPush v [s0]) τ Q)) := RB_callV (n := 3) (t := 0) (k := 81) (ins := .invokevirtual 81) rfl rfl rfl (by decide) (Nat.le_of_ble_eq_true rfl) (Nat.le_of_ble_eq_true rfl) rfl rfl
theorem w43_33 : RB d 43 33 [l0, l1, .int x, l3, l4, l5] st (S, I, R, z) Q = RB d 43 34 [l0, l1, .int x, l3, l4, l5] (.int x :: st) (S, I, R, z) Q := RB_iloadn rfl rfl
theorem w43_34 : RB d 43 34 [l0, l1, l2, l3, l4, l5] (.int y :: .int x :: st) (S, I, R, z) Q = ((x = y → RB d 43 37 [l0, l1, l2, l3, l4, l5] st (S, I, R, z) Q) ∧ (¬ x = y → RB d 43 44 [l0, l1, l2, l3, l4, l5] st (S, I, R, z) Q)) := RB_ine rfl (by decide) rfl
theorem w43_37 : RB d 43 37 [l0, l1, l2, l3, l4, l5] st (S, I, R, z) Q = RB d 43 38 [l0, l1, l2, l3, l4, l5] (.int 1 :: st) (S, I, R, z) Q := RB_iconst rfl ki1
theorem w43_38 : RB d 43 38 [l0, l1, l2, l3, l4, .int x] st (S, I, R, z) Q = RB d 43 40 [l0, l1, l2, l3, l4, .int x] (.int x :: st) (S, I, R, z) Q := RB_iload rfl rfl
theorem w43_40 : RB d 43 40 [l0, l1, l2, l3, l4, l5] (.int y :: .int x :: st) (S, I, R, z) Q = RB d 43 41 [l0, l1, l2, l3, l4, l5] (.int (x <<< (y &&& 31)) :: st) (S, I, R, z) Q := RB_ishl rfl
theorem w43_41 : RB d 43 41 [l0, l1, l2, l3, l4, l5] st (S, I, R, z) Q = RB d 43 45 [l0, l1, l2, l3, l4, l5] st (S, I, R, z) Q := RB_goto rfl (by decide) rfl
theorem w43_44 : RB d 43 44 [l0, l1, l2, l3, l4, l5] st (S, I, R, z) Q = RB d 43 45 [l0, l1, l2, l3, l4, l5] (.int 0 :: st) (S, I, R, z) Q := RB_iconst rfl ki0
theorem w43_45 : RB d 43 45 [l0, l1, l2, l3, l4, l5] (.int y :: .int x :: st) (S, I, R, z) Q = RB d 43 46 [l0, l1, l2, l3, l4, l5] (.int (x ||| y) :: st) (S, I, R, z) Q := RB_ior rfl
theorem w43_46 : RB d 43 46 [l0, l1, l2, l3, l4, l5] (.int x :: st) (S, I, R, z) Q = RB d 43 48 [l0, l1, l2, l3, .int x, l5] st (S, I, R, z) Q := RB_istore rfl (Nat.le_of_ble_eq_true rfl) rfl
theorem w43_48 : RB d 43 48 [l0, l1, l2, l3, l4, .int x] st (S, I, R, z) Q = RB d 43 51 [l0, l1, l2, l3, l4, .int (x + 1)] st (S, I, R, z) Q := RB_iinc rfl rfl (Nat.le_of_ble_eq_true rfl) ki1 rfl
theorem w43_51 : RB d 43 51 [l0, l1, l2, l3, l4, l5] st (S, I, R, z) Q = RB d 43 6 [l0, l1, l2, l3, l4, l5] st (S, I, R, z) Q := RB_goto rfl (by decide) rfl
theorem w43_54 : RB d 43 54 [l0, l1, l2, l3, .int x, l5] st (S, I, R, z) Q = RB d 43 56 [l0, l1, l2, l3, .int x, l5] (.int x :: st) (S, I, R, z) Q := RB_iload rfl rfl
theorem w43_56 : RB d 43 56 [l0, l1, l2, l3, l4, l5] [.int x] (S, I, R, z) Q = Q (some (.int x)) (S, I, R, z) := RB_iret rfl rfl rfl
/-! 44: HangedWord$State.othersThan -/
theorem w44_0 : RB d 44 0 [l0, l1, l2, l3, l4, l5, l6, l7] st (S, I, R, z) Q = RB d 44 1 [l0, l1, l2, l3, l4, l5, l6, l7] (.int 0 :: st) (S, I, R, z) Q := RB_iconst rfl ki0
theorem w44_1 : RB d 44 1 [l0, l1, l2, l3, l4, l5, l6, l7] (.int x :: st) (S, I, R, z) Q = RB d 44 2 [l0, l1, l2, .int x, l4, l5, l6, l7] st (S, I, R, z) Q := RB_istoren rfl (Nat.le_of_ble_eq_true rfl) rfl
theorem w44_2 : RB d 44 2 [l0, l1, l2, l3, l4, l5, l6, l7] st (S, I, R, z) Q = RB d 44 3 [l0, l1, l2, l3, l4, l5, l6, l7] (.int 0 :: st) (S, I, R, z) Q := RB_iconst rfl ki0
theorem w44_3 : RB d 44 3 [l0, l1, l2, l3, l4, l5, l6, l7] (.int x :: st) (S, I, R, z) Q = RB d 44 5 [l0, l1, l2, l3, .int x, l5, l6, l7] st (S, I, R, z) Q := RB_istore rfl (Nat.le_of_ble_eq_true rfl) rfl
theorem w44_5 : RB d 44 5 [l0, l1, l2, l3, l4, l5, l6, l7] st (S, I, R, z) Q = RB d 44 6 [l0, l1, l2, l3, l4, l5, l6, l7] (.int 0 :: st) (S, I, R, z) Q := RB_iconst rfl ki0
theorem w44_6 : RB d 44 6 [l0, l1, l2, l3, l4, l5, l6, l7] (.int x :: st) (S, I, R, z) Q = RB d 44 8 [l0, l1, l2, l3, l4, .int x, l6, l7] st (S, I, R, z) Q := RB_istore rfl (Nat.le_of_ble_eq_true rfl) rfl
theorem w44_8 : RB d 44 8 [l0, l1, l2, l3, l4, .int x, l6, l7] st (S, I, R, z) Q = RB d 44 10 [l0, l1, l2, l3, l4, .int x, l6, l7] (.int x :: st) (S, I, R, z) Q := RB_iload rfl rfl
theorem w44_10 : RB d 44 10 [l0, .ref a, l2, l3, l4, l5, l6, l7] st (S, I, R, z) Q = RB d 44 11 [l0, .ref a, l2, l3, l4, l5, l6, l7] (.ref a :: st) (S, I, R, z) Q := RB_aloadn rfl rfl
theorem w44_10N : RB d 44 10 [l0, .null, l2, l3, l4, l5, l6, l7] st (S, I, R, z) Q = RB d 44 11 [l0, .null, l2, l3, l4, l5, l6, l7] (.null :: st) (S, I, R, z) Q := RB_aloadnN rfl rfl
theorem w44_11 : RB d 44 11 [l0, l1, l2, l3, l4, l5, l6, l7] (.ref a :: st) (S, I, R, z) Q = ((S a).1 = 0 ∧ RB d 44 14 [l0, l1, l2, l3, l4, l5, l6, l7] (.int (I a 2) :: st) (S, I, R, z) Q) := RB_getI rfl rfl
theorem w44_14 : RB d 44 14 [l0, l1, l2, l3, l4, l5, l6, l7] (.int y :: .int x :: st) (S, I, R, z) Q = ((y ≤ x → RB d 44 121 [l0, l1, l2, l3, l4, l5, l6, l7] st (S, I, R, z) Q) ∧ (¬ y ≤ x → RB d 44 17 [l0, l1, l2, l3, l4, l5, l6, l7] st (S, I, R, z) Q)) := RB_ige rfl (by decide) rfl
theorem w44_17 : RB d 44 17 [.ref a, l1, l2, l3, l4, l5, l6, l7] st (S, I, R, z) Q = RB d 44 18 [.ref a, l1, l2, l3, l4, l5, l6, l7] (.ref a :: st) (S, I, R, z) Q := RB_aloadn rfl rfl
theorem w44_18 : RB d 44 18 [.ref a, l1, l2, l3, l4, l5, l6, l7] st (S, I, R, z) Q = RB d 44 19 [.ref a, l1, l2, l3, l4, l5, l6, l7] (.ref a :: st) (S, I, R, z) Q := RB_aloadn rfl rfl
theorem w44_19 : RB d 44 19 [l0, l1, l2, l3, l4, l5, l6, l7] (.ref a :: st) (S, I, R, z) Q = ((S a).1 = 2 ∧ RB d 44 22 [l0, l1, l2, l3, l4, l5, l6, l7] (.int (I a 7) :: st) (S, I, R, z) Q) := RB_getI rfl rfl
theorem w44_22 : RB d 44 22 [l0, l1, l2, l3, l4, l5, l6, l7] [.int x0, .ref a] (S, I, R, z) Q = ((S a).1 = 2 ∧ RM d 15 [.ref a, .int x0] (S, I, R, z) (fun v τ => RB d 44 25 [l0, l1, l2, l3, l4, l5, l6, l7] (aPush v []) τ Q)) := RB_callV (n := 2) (t := 0) (k := 96) (ins := .invokevirtual 96) rfl rfl rfl (by decide) (Nat.le_of_ble_eq_true rfl) (Nat.le_of_ble_eq_true rfl) rfl rfl
theorem w44_25 : RB d 44 25 [l0, l1, l2, l3, .int x, l5, l6, l7] st (S, I, R, z) Q = RB d 44 27 [l0, l1, l2, l3, .int x, l5, l6, l7] (.int x :: st) (S, I, R, z) Q := RB_iload rfl rfl
theorem w44_27 : RB d 44 27 [l0, l1, l2, l3, l4, l5, l6, l7] st (S, I, R, z) Q = RB d 44 28 [l0, l1, l2, l3, l4, l5, l6, l7] (.int (-1) :: st) (S, I, R, z) Q := RB_iconst rfl kim1
theorem w44_28 : RB d 44 28 [l0, l1, l2, l3, l4, l5, l6, l7] (.int y :: .int x :: st) (S, I, R, z) Q = RB d 44 29 [l0, l1, l2, l3, l4, l5, l6, l7] (.int (x ^^^ y) :: st) (S, I, R, z) Q := RB_ixor rfl
theorem w44_29 : RB d 44 29 [l0, l1, l2, l3, l4, l5, l6, l7] (.int y :: .int x :: st) (S, I, R, z) Q = RB d 44 30 [l0, l1, l2, l3, l4, l5, l6, l7] (.int (x &&& y) :: st) (S, I, R, z) Q := RB_iand rfl
theorem w44_30 : RB d 44 30 [l0, l1, l2, l3, l4, l5, l6, l7] (.int x :: st) (S, I, R, z) Q = ((x = 0 → RB d 44 33 [l0, l1, l2, l3, l4, l5, l6, l7] st (S, I, R, z) Q) ∧ (¬ x = 0 → RB d 44 37 [l0, l1, l2, l3, l4, l5, l6, l7] st (S, I, R, z) Q)) := RB_ne0 rfl (by decide) rfl
theorem w44_33 : RB d 44 33 [l0, l1, l2, l3, l4, l5, l6, l7] st (S, I, R, z) Q = RB d 44 34 [l0, l1, l2, l3, l4, l5, l6, l7] (.int 1 :: st) (S, I, R, z) Q := RB_iconst rfl ki1
theorem w44_34 : RB d 44 34 [l0, l1, l2, l3, l4, l5, l6, l7] st (S, I, R, z) Q = RB d 44 38 [l0, l1, l2, l3, l4, l5, l6, l7] st (S, I, R, z) Q := RB_goto rfl (by decide) rfl
theorem w44_37 : RB d 44 37 [l0, l1, l2, l3, l4, l5, l6, l7] st (S, I, R, z) Q = RB d 44 38 [l0, l1, l2, l3, l4, l5, l6, l7] (.int 0 :: st) (S, I, R, z) Q := RB_iconst rfl ki0
theorem w44_38 : RB d 44 38 [l0, l1, l2, l3, l4, l5, l6, l7] (.int x :: st) (S, I, R, z) Q = RB d 44 40 [l0, l1, l2, l3, l4, l5, .int x, l7] st (S, I, R, z) Q := RB_istore rfl (Nat.le_of_ble_eq_true rfl) rfl
theorem w44_40 : RB d 44 40 [l0, l1, l2, l3, l4, l5, .int x, l7] st (S, I, R, z) Q = RB d 44 42 [l0, l1, l2, l3, l4, l5, .int x, l7] (.int x :: st) (S, I, R, z) Q := RB_iload rfl rfl
theorem w44_42 : RB d 44 42 [l0, l1, l2, l3, l4, l5, l6, l7] (.int x :: st) (S, I, R, z) Q = ((x = 0 → RB d 44 49 [l0, l1, l2, l3, l4, l5, l6, l7] st (S, I, R, z) Q) ∧ (¬ x = 0 → RB d 44 45 [l0, l1, l2, l3, l4, l5, l6, l7] st (S, I, R, z) Q)) := RB_eq0 rfl (by decide) rfl
theorem w44_45 : RB d 44 45 [l0, l1, l2, l3, l4, l5, l6, l7] st (S, I, R, z) Q = RB d 44 46 [l0, l1, l2, l3, l4, l5, l6, l7] (.int (-1) :: st) (S, I, R, z) Q := RB_iconst rfl kim1
theorem w44_46 : RB d 44 46 [l0, l1, l2, l3, l4, l5, l6, l7] st (S, I, R, z) Q = RB d 44 66 [l0, l1, l2, l3, l4, l5, l6, l7] st (S, I, R, z) Q := RB_goto rfl (by decide) rfl
theorem w44_49 : RB d 44 49 [.ref a, l1, l2, l3, l4, l5, l6, l7] st (S, I, R, z) Q = RB d 44 50 [.ref a, l1, l2, l3, l4, l5, l6, l7] (.ref a :: st) (S, I, R, z) Q := RB_aloadn rfl rfl
theorem w44_50 : RB d 44 50 [l0, l1, .int x, l3, l4, l5, l6, l7] st (S, I, R, z) Q = RB d 44 51 [l0, l1, .int x, l3, l4, l5, l6, l7] (.int x :: st) (S, I, R, z) Q := RB_iloadn rfl rfl
theorem w44_51 : RB d 44 51 [l0, l1, l2, l3, .int x, l5, l6, l7] st (S, I, R, z) Q = RB d 44 53 [l0, l1, l2, l3, .int x, l5, l6, l7] (.int x :: st) (S, I, R, z) Q := RB_iload rfl rfl
theorem w44_53 : RB d 44 53 [.ref a, l1, l2, l3, l4, l5, l6, l7] st (S, I, R, z) Q = RB d 44 54 [.ref a, l1, l2, l3, l4, l5, l6, l7] (.ref a :: st) (S, I, R, z) Q := RB_aloadn rfl rfl
theorem w44_54 : RB d 44 54 [.ref a, l1, l2, l3, l4, l5, l6, l7] st (S, I, R, z) Q = RB d 44 55 [.ref a, l1, l2, l3, l4, l5, l6, l7] (.ref a :: st) (S, I, R, z) Q := RB_aloadn rfl rfl
theorem w44_55 : RB d 44 55 [l0, l1, l2, l3, l4, l5, l6, l7] (.ref a :: st) (S, I, R, z) Q = ((S a).1 = 2 ∧ RB d 44 58 [l0, l1, l2, l3, l4, l5, l6, l7] (.int (I a 7) :: st) (S, I, R, z) Q) := RB_getI rfl rfl
theorem w44_58 : RB d 44 58 [l0, l1, l2, l3, .int x, l5, l6, l7] st (S, I, R, z) Q = RB d 44 60 [l0, l1, l2, l3, .int x, l5, l6, l7] (.int x :: st) (S, I, R, z) Q := RB_iload rfl rfl
theorem w44_60 : RB d 44 60 [l0, l1, l2, l3, l4, l5, l6, l7] [.int x1, .int x0, .ref a, s0, s1, s2] (S, I, R, z) Q = ((S a).1 = 2 ∧ RM d 19 [.ref a, .int x0, .int x1] (S, I, R, z) (fun v τ => RB d 44 63 [l0, l1, l2, l3, l4, l5, l6, l7] (aPush v [s0, s1, s2]) τ Q)) := RB_callV (n := 3) (t := 0) (k := 93) (ins := .invokevirtual 93) rfl rfl rfl (by decide) (Nat.le_of_ble_eq_true rfl) (Nat.le_of_ble_eq_true rfl) rfl rfl
theorem w44_63 : RB d 44 63 [l0, l1, l2, l3, l4, l5, l6, l7] [.int x2, .int x1, .int x0, .ref a] (S, I, R, z) Q = ((S a).1 = 2 ∧ RM d 28 [.ref a, .int x0, .int x1, .int x2] (S, I, R, z) (fun v τ => RB d 44 66 [l0, l1, l2, l3, l4, l5, l6, l7] (aPush v []) τ Q)) := RB_callV (n := 4) (t := 0) (k := 149) (ins := .invokevirtual 149) rfl rfl rfl (by decide) (Nat.le_of_ble_eq_true rfl) (Nat.le_of_ble_eq_true rfl) rfl rfl
theorem w44_66 : RB d 44 66 [l0, l1, l2, l3, l4, l5, l6, l7] (.int x :: st) (S, I, R, z) Q = RB d 44 68 [l0, l1, l2, l3, l4, l5, l6, .int x] st (S, I, R, z) Q := RB_istore rfl (Nat.le_of_ble_eq_true rfl) rfl
theorem w44_68 : RB d 44 68 [l0, .ref a, l2, l3, l4, l5, l6, l7] st (S, I, R, z) Q = RB d 44 69 [l0, .ref a, l2, l3, l4, l5, l6, l7] (.ref a :: st) (S, I, R, z) Q := RB_aloadn rfl rfl
theorem w44_68N : RB d 44 68 [l0, .null, l2, l3, l4, l5, l6, l7] st (S, I, R, z) Q = RB d 44 69 [l0, .null, l2, l3, l4, l5, l6, l7] (.null :: st) (S, I, R, z) Q := RB_aloadnN rfl rfl
theorem w44_69 : RB d 44 69 [l0, l1, l2, l3, l4, .int x, l6, l7] st (S, I, R, z) Q = RB d 44 71 [l0, l1, l2, l3, l4, .int x, l6, l7] (.int x :: st) (S, I, R, z) Q := RB_iload rfl rfl
theorem w44_71 : RB d 44 71 [l0, l1, l2, l3, l4, l5, l6, l7] [.int x0, .ref a] (S, I, R, z) Q = ((S a).1 = 0 ∧ RM d 4 [.ref a, .int x0] (S, I, R, z) (fun v τ => RB d 44 74 [l0, l1, l2, l3, l4, l5, l6, l7] (aPush v []) τ Q)) := RB_callV (n := 2) (t := 0) (k := 187) (ins := .invokevirtual 187) rfl rfl rfl (by decide) (Nat.le_of_ble_eq_true rfl) (Nat.le_of_ble_eq_true rfl) rfl rfl
theorem w44_74 : RB d 44 74 [l0, l1, l2, l3, l4, l5, l6, l7] (.int x :: st) (S, I, R, z) Q = ((x = 0 → RB d 44 97 [l0, l1, l2, l3, l4, l5, l6, l7] st (S, I, R, z) Q) ∧ (¬ x = 0 → RB d 44 77 [l0, l1, l2, l3, l4, l5, l6, l7] st (S, I, R, z) Q)) := RB_eq0 rfl (by decide) rfl
theorem w44_77 : RB d 44 77 [l0, l1, l2, l3, l4, l5, .int x, l7] st (S, I, R, z) Q = RB d 44 79 [l0, l1, l2, l3, l4, l5, .int x, l7] (.int x :: st) (S, I, R, z) Q := RB_iload rfl rfl
theorem w44_79 : RB d 44 79 [l0, l1, l2, l3, l4, l5, l6, l7] (.int x :: st) (S, I, R, z) Q = ((x = 0 → RB d 44 82 [l0, l1, l2, l3, l4, l5, l6, l7] st (S, I, R, z) Q) ∧ (¬ x = 0 → RB d 44 94 [l0, l1, l2, l3, l4, l5, l6, l7] st (S, I, R, z) Q)) := RB_ne0 rfl (by decide) rfl
theorem w44_82 : RB d 44 82 [l0, .ref a, l2, l3, l4, l5, l6, l7] st (S, I, R, z) Q = RB d 44 83 [l0, .ref a, l2, l3, l4, l5, l6, l7] (.ref a :: st) (S, I, R, z) Q := RB_aloadn rfl rfl
theorem w44_82N : RB d 44 82 [l0, .null, l2, l3, l4, l5, l6, l7] st (S, I, R, z) Q = RB d 44 83 [l0, .null, l2, l3, l4, l5, l6, l7] (.null :: st) (S, I, R, z) Q := RB_aloadnN rfl rfl
theorem w44_83 : RB d 44 83 [l0, l1, l2, l3, l4, l5, l6, l7] (.ref a :: st) (S, I, R, z) Q = ((S a).1 = 0 ∧ RB d 44 86 [l0, l1, l2, l3, l4, l5, l6, l7] (va_rf (R a 0) :: st) (S, I, R, z) Q) := RB_getR rfl rfl
theorem w44_86 : RB d 44 86 [l0, l1, l2, l3, l4, .int x, l6, l7] st (S, I, R, z) Q = RB d 44 88 [l0, l1, l2, l3, l4, .int x, l6, l7] (.int x :: st) (S, I, R, z) Q := RB_iload rfl rfl
theorem w44_88 : RB d 44 88 [l0, l1, l2, l3, l4, l5, l6, l7] (.int i :: .ref a :: st) (S, I, R, z) Q = (((S a).1 = 9 ∧ aIx i (S a).2) ∧ RB d 44 89 [l0, l1, l2, l3, l4, l5, l6, l7] (.int (I a i.toNatClampNeg) :: st) (S, I, R, z) Q) := RB_iald rfl
theorem w44_89 : RB d 44 89 [l0, l1, l2, l3, l4, l5, l6, .int x] st (S, I, R, z) Q = RB d 44 91 [l0, l1, l2, l3, l4, l5, l6, .int x] (.int x :: st) (S, I, R, z) Q := RB_iload rfl rfl
theorem w44_91 : RB d 44 91 [l0, l1, l2, l3, l4, l5, l6, l7] (.int y :: .int x :: st) (S, I, R, z) Q = ((x = y → RB d 44 97 [l0, l1, l2, l3, l4, l5, l6, l7] st (S, I, R, z) Q) ∧ (¬ x = y → RB d 44 94 [l0, l1, l2, l3, l4, l5, l6, l7] st (S, I, R, z) Q)) := RB_ieq rfl (by decide) rfl
theorem w44_94 : RB d 44 94 [l0, l1, l2, .int x, l4, l5, l6, l7] st (S, I, R, z) Q = RB d 44 97 [l0, l1, l2, .int (x + 1), l4, l5, l6, l7] st (S, I, R, z) Q := RB_iinc rfl rfl (Nat.le_of_ble_eq_true rfl) ki1 rfl
theorem w44_97 : RB d 44 97 [l0, l1, l2, l3, .int x, l5, l6, l7] st (S, I, R, z) Q = RB d 44 99 [l0, l1, l2, l3, .int x, l5, l6, l7] (.int x :: st) (S, I, R, z) Q := RB_iload rfl rfl
theorem w44_99 : RB d 44 99 [l0, l1, l2, l3, l4, l5, .int x, l7] st (S, I, R, z) Q = RB d 44 101 [l0, l1, l2, l3, l4, l5, .int x, l7] (.int x :: st) (S, I, R, z) Q := RB_iload rfl rfl
theorem w44_101 : RB d 44 101 [l0, l1, l2, l3, l4, l5, l6, l7] (.int x :: st) (S, I, R, z) Q = ((x = 0 → RB d 44 108 [l0, l1, l2, l3, l4, l5, l6, l7] st (S, I, R, z) Q) ∧ (¬ x = 0 → RB d 44 104 [l0, l1, l2, l3, l4, l5, l6, l7] st (S, I, R, z) Q)) := RB_eq0 rfl (by decide) rfl
theorem w44_104 : RB d 44 104 [l0, l1, l2, l3, l4, l5, l6, l7] st (S, I, R, z) Q = RB d 44 105 [l0, l1, l2, l3, l4, l5, l6, l7] (.int 0 :: st) (S, I, R, z) Q := RB_iconst rfl ki0
theorem w44_105 : RB d 44 105 [l0, l1, l2, l3, l4, l5, l6, l7] st (S, I, R, z) Q = RB d 44 112 [l0, l1, l2, l3, l4, l5, l6, l7] st (S, I, R, z) Q := RB_goto rfl (by decide) rfl
theorem w44_108 : RB d 44 108 [l0, l1, l2, l3, l4, l5, l6, l7] st (S, I, R, z) Q = RB d 44 109 [l0, l1, l2, l3, l4, l5, l6, l7] (.int 1 :: st) (S, I, R, z) Q := RB_iconst rfl ki1
theorem w44_109 : RB d 44 109 [l0, l1, l2, l3, l4, l5, l6, .int x] st (S, I, R, z) Q = RB d 44 111 [l0, l1, l2, l3, l4, l5, l6, .int x] (.int x :: st) (S, I, R, z) Q := RB_iload rfl rfl
theorem w44_111 : RB d 44 111 [l0, l1, l2, l3, l4, l5, l6, l7] (.int y :: .int x :: st) (S, I, R, z) Q = RB d 44 112 [l0, l1, l2, l3, l4, l5, l6, l7] (.int (x <<< (y &&& 31)) :: st) (S, I, R, z) Q := RB_ishl rfl
theorem w44_112 : RB d 44 112 [l0, l1, l2, l3, l4, l5, l6, l7] (.int y :: .int x :: st) (S, I, R, z) Q = RB d 44 113 [l0, l1, l2, l3, l4, l5, l6, l7] (.int (x ||| y) :: st) (S, I, R, z) Q := RB_ior rfl
theorem w44_113 : RB d 44 113 [l0, l1, l2, l3, l4, l5, l6, l7] (.int x :: st) (S, I, R, z) Q = RB d 44 115 [l0, l1, l2, l3, .int x, l5, l6, l7] st (S, I, R, z) Q := RB_istore rfl (Nat.le_of_ble_eq_true rfl) rfl
theorem w44_115 : RB d 44 115 [l0, l1, l2, l3, l4, .int x, l6, l7] st (S, I, R, z) Q = RB d 44 118 [l0, l1, l2, l3, l4, .int (x + 1), l6, l7] st (S, I, R, z) Q := RB_iinc rfl rfl (Nat.le_of_ble_eq_true rfl) ki1 rfl
theorem w44_118 : RB d 44 118 [l0, l1, l2, l3, l4, l5, l6, l7] st (S, I, R, z) Q = RB d 44 8 [l0, l1, l2, l3, l4, l5, l6, l7] st (S, I, R, z) Q := RB_goto rfl (by decide) rfl
theorem w44_121 : RB d 44 121 [l0, l1, l2, .int x, l4, l5, l6, l7] st (S, I, R, z) Q = RB d 44 122 [l0, l1, l2, .int x, l4, l5, l6, l7] (.int x :: st) (S, I, R, z) Q := RB_iloadn rfl rfl
theorem w44_122 : RB d 44 122 [l0, l1, l2, l3, l4, l5, l6, l7] [.int x] (S, I, R, z) Q = Q (some (.int x)) (S, I, R, z) := RB_iret rfl rfl rfl
end
