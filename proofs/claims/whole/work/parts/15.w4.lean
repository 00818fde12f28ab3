section
variable {d : Nat} {st : List Value} {S : Nat → Nat × Nat} {I : Nat → Nat → Int32} {R : Nat → Nat → Option Nat} {z : Nat × Nat} {σ : HS} {Q : Option Value → HS → Prop} {x y i : Int32} {a b : Nat} {v w : Value} {l0 l1 l2 l3 l4 l5 l6 l7 l8 l9 l10 l11 l12 l13 l14 l15 : Value} {x0 x1 x2 x3 x4 x5 : Int32} {v0 v1 v2 v3 v4 s0 s1 s2 s3 s4 s5 : Value}
/-! 192: HangedWordModel.open -/
theorem w192_0 : RB d 192 0 [.ref a, l1, l2, l3, l4, l5, l6] st (S, I, R, z) Q = RB d 192 1 [.ref a, l1, l2, l3, l4, l5, l6] (.ref a :: st) (S, I, R, z) Q := RB_aloadn rfl rfl
theorem w192_1 : RB d 192 1 [l0, .int x, l2, l3, l4, l5, l6] st (S, I, R, z) Q = RB d 192 2 [l0, .int x, l2, l3, l4, l5, l6] (.int x :: st) (S, I, R, z) Q := RB_iloadn rfl rfl
set_option maxRecDepth 20000 in
theorem w192_2 : RB d 192 2 [l0, l1, l2, l3, l4, l5, l6] [.int x0, .ref a] (S, I, R, z) Q = ((S a).1 = 7 ∧ RM d 140 [.ref a, .int x0] (S, I, R, z) (fun v τ => RB d 192 5 [l0, l1, l2, l3, l4, l5, l6] (aPush v []) τ Q)) := RB_callV (n := 2) (t := 0) (k := 156) (ins := .invokevirtual 156) rfl rfl rfl (by decide) (Nat.le_of_ble_eq_true rfl) (Nat.le_of_ble_eq_true rfl) rfl rfl
theorem w192_5 : RB d 192 5 [l0, l1, l2, l3, l4, l5, l6] (.int x :: st) (S, I, R, z) Q = ((x = 0 → RB d 192 8 [l0, l1, l2, l3, l4, l5, l6] st (S, I, R, z) Q) ∧ (¬ x = 0 → RB d 192 11 [l0, l1, l2, l3, l4, l5, l6] st (S, I, R, z) Q)) := RB_ne0 rfl (by decide) rfl
theorem w192_8 : RB d 192 8 [l0, l1, l2, l3, l4, l5, l6] st (S, I, R, z) Q = RB d 192 10 [l0, l1, l2, l3, l4, l5, l6] (.int (-1000000001) :: st) (S, I, R, z) Q := RB_ldc rfl rfl
theorem w192_10 : RB d 192 10 [l0, l1, l2, l3, l4, l5, l6] [.int x] (S, I, R, z) Q = Q (some (.int x)) (S, I, R, z) := RB_iret rfl rfl rfl
theorem w192_11 : RB d 192 11 [l0, l1, l2, l3, l4, l5, l6] st (S, I, R, z) Q = RB d 192 12 [l0, l1, l2, l3, l4, l5, l6] (.int 1 :: st) (S, I, R, z) Q := RB_iconst rfl ki1
theorem w192_12 : RB d 192 12 [.ref a, l1, l2, l3, l4, l5, l6] st (S, I, R, z) Q = RB d 192 13 [.ref a, l1, l2, l3, l4, l5, l6] (.ref a :: st) (S, I, R, z) Q := RB_aloadn rfl rfl
theorem w192_13 : RB d 192 13 [l0, l1, l2, l3, l4, l5, l6] (.ref a :: st) (S, I, R, z) Q = ((S a).1 = 7 ∧ RB d 192 16 [l0, l1, l2, l3, l4, l5, l6] (va_rf (R a 0) :: st) (S, I, R, z) Q) := RB_getR rfl rfl
theorem w192_16 : RB d 192 16 [l0, l1, l2, l3, l4, l5, l6] st (S, I, R, z) Q = RB d 192 17 [l0, l1, l2, l3, l4, l5, l6] (.int 1 :: st) (S, I, R, z) Q := RB_iconst rfl ki1
theorem w192_17 : RB d 192 17 [l0, l1, l2, l3, l4, l5, l6] (.int i :: .ref a :: st) (S, I, R, z) Q = (((S a).1 = 9 ∧ aIx i (S a).2) ∧ RB d 192 18 [l0, l1, l2, l3, l4, l5, l6] (.int (I a i.toNatClampNeg) :: st) (S, I, R, z) Q) := RB_iald rfl
theorem w192_18 : RB d 192 18 [l0, l1, l2, l3, l4, l5, l6] (.int y :: .int x :: st) (S, I, R, z) Q = RB d 192 19 [l0, l1, l2, l3, l4, l5, l6] (.int (x <<< (y &&& 31)) :: st) (S, I, R, z) Q := RB_ishl rfl
theorem w192_19 : RB d 192 19 [l0, l1, l2, l3, l4, l5, l6] st (S, I, R, z) Q = RB d 192 20 [l0, l1, l2, l3, l4, l5, l6] (.int 1 :: st) (S, I, R, z) Q := RB_iconst rfl ki1
theorem w192_20 : RB d 192 20 [l0, l1, l2, l3, l4, l5, l6] (.int y :: .int x :: st) (S, I, R, z) Q = RB d 192 21 [l0, l1, l2, l3, l4, l5, l6] (.int (x - y) :: st) (S, I, R, z) Q := RB_isub rfl
theorem w192_21 : RB d 192 21 [l0, l1, l2, l3, l4, l5, l6] (.int x :: st) (S, I, R, z) Q = RB d 192 22 [l0, l1, .int x, l3, l4, l5, l6] st (S, I, R, z) Q := RB_istoren rfl (Nat.le_of_ble_eq_true rfl) rfl
theorem w192_22 : RB d 192 22 [l0, l1, l2, l3, l4, l5, l6] st (S, I, R, z) Q = RB d 192 23 [l0, l1, l2, l3, l4, l5, l6] (.int 0 :: st) (S, I, R, z) Q := RB_iconst rfl ki0
theorem w192_23 : RB d 192 23 [l0, l1, l2, l3, l4, l5, l6] (.int x :: st) (S, I, R, z) Q = RB d 192 24 [l0, l1, l2, .int x, l4, l5, l6] st (S, I, R, z) Q := RB_istoren rfl (Nat.le_of_ble_eq_true rfl) rfl
theorem w192_24 : RB d 192 24 [l0, l1, l2, l3, l4, l5, l6] st (S, I, R, z) Q = RB d 192 25 [l0, l1, l2, l3, l4, l5, l6] (.int 0 :: st) (S, I, R, z) Q := RB_iconst rfl ki0
theorem w192_25 : RB d 192 25 [l0, l1, l2, l3, l4, l5, l6] (.int x :: st) (S, I, R, z) Q = RB d 192 27 [l0, l1, l2, l3, .int x, l5, l6] st (S, I, R, z) Q := RB_istore rfl (Nat.le_of_ble_eq_true rfl) rfl
theorem w192_27 : RB d 192 27 [.ref a, l1, l2, l3, l4, l5, l6] st (S, I, R, z) Q = RB d 192 28 [.ref a, l1, l2, l3, l4, l5, l6] (.ref a :: st) (S, I, R, z) Q := RB_aloadn rfl rfl
theorem w192_28 : RB d 192 28 [l0, l1, .int x, l3, l4, l5, l6] st (S, I, R, z) Q = RB d 192 29 [l0, l1, .int x, l3, l4, l5, l6] (.int x :: st) (S, I, R, z) Q := RB_iloadn rfl rfl
theorem w192_29 : RB d 192 29 [l0, l1, l2, .int x, l4, l5, l6] st (S, I, R, z) Q = RB d 192 30 [l0, l1, l2, .int x, l4, l5, l6] (.int x :: st) (S, I, R, z) Q := RB_iloadn rfl rfl
set_option maxRecDepth 20000 in
theorem w192_30 : RB d 192 30 [l0, l1, l2, l3, l4, l5, l6] [.int x1, .int x0, .ref a] (S, I, R, z) Q = ((S a).1 = 7 ∧ RM d 191 [.ref a, .int x0, .int x1] (S, I, R, z) (fun v τ => RB d 192 33 [l0, l1, l2, l3, l4, l5, l6] (aPush v []) τ Q)) := RB_callV (n := 3) (t := 0) (k := 204) (ins := .invokevirtual 204) rfl rfl rfl (by decide) (Nat.le_of_ble_eq_true rfl) (Nat.le_of_ble_eq_true rfl) rfl rfl
theorem w192_33 : RB d 192 33 [l0, l1, l2, l3, l4, l5, l6] (.int x :: st) (S, I, R, z) Q = ((x = 0 → RB d 192 36 [l0, l1, l2, l3, l4, l5, l6] st (S, I, R, z) Q) ∧ (¬ x = 0 → RB d 192 101 [l0, l1, l2, l3, l4, l5, l6] st (S, I, R, z) Q)) := RB_ne0 rfl (by decide) rfl
theorem w192_36 : RB d 192 36 [l0, l1, l2, l3, .int x, l5, l6] st (S, I, R, z) Q = RB d 192 38 [l0, l1, l2, l3, .int x, l5, l6] (.int x :: st) (S, I, R, z) Q := RB_iload rfl rfl
theorem w192_38 : RB d 192 38 [.ref a, l1, l2, l3, l4, l5, l6] st (S, I, R, z) Q = RB d 192 39 [.ref a, l1, l2, l3, l4, l5, l6] (.ref a :: st) (S, I, R, z) Q := RB_aloadn rfl rfl
theorem w192_39 : RB d 192 39 [l0, l1, l2, l3, l4, l5, l6] (.ref a :: st) (S, I, R, z) Q = ((S a).1 = 7 ∧ RB d 192 42 [l0, l1, l2, l3, l4, l5, l6] (va_rf (R a 0) :: st) (S, I, R, z) Q) := RB_getR rfl rfl
theorem w192_42 : RB d 192 42 [l0, l1, l2, l3, l4, l5, l6] st (S, I, R, z) Q = RB d 192 44 [l0, l1, l2, l3, l4, l5, l6] (.int 6 :: st) (S, I, R, z) Q := RB_bipush rfl kb6
theorem w192_44 : RB d 192 44 [l0, l1, l2, l3, l4, l5, l6] (.int i :: .ref a :: st) (S, I, R, z) Q = (((S a).1 = 9 ∧ aIx i (S a).2) ∧ RB d 192 45 [l0, l1, l2, l3, l4, l5, l6] (.int (I a i.toNatClampNeg) :: st) (S, I, R, z) Q) := RB_iald rfl
theorem w192_45 : RB d 192 45 [l0, l1, l2, l3, l4, l5, l6] (.int y :: .int x :: st) (S, I, R, z) Q = ((y ≤ x → RB d 192 101 [l0, l1, l2, l3, l4, l5, l6] st (S, I, R, z) Q) ∧ (¬ y ≤ x → RB d 192 48 [l0, l1, l2, l3, l4, l5, l6] st (S, I, R, z) Q)) := RB_ige rfl (by decide) rfl
theorem w192_48 : RB d 192 48 [.ref a, l1, l2, l3, l4, l5, l6] st (S, I, R, z) Q = RB d 192 49 [.ref a, l1, l2, l3, l4, l5, l6] (.ref a :: st) (S, I, R, z) Q := RB_aloadn rfl rfl
theorem w192_49 : RB d 192 49 [l0, .int x, l2, l3, l4, l5, l6] st (S, I, R, z) Q = RB d 192 50 [l0, .int x, l2, l3, l4, l5, l6] (.int x :: st) (S, I, R, z) Q := RB_iloadn rfl rfl
theorem w192_50 : RB d 192 50 [l0, l1, l2, .int x, l4, l5, l6] st (S, I, R, z) Q = RB d 192 51 [l0, l1, l2, .int x, l4, l5, l6] (.int x :: st) (S, I, R, z) Q := RB_iloadn rfl rfl
theorem w192_51 : RB d 192 51 [l0, l1, .int x, l3, l4, l5, l6] st (S, I, R, z) Q = RB d 192 52 [l0, l1, .int x, l3, l4, l5, l6] (.int x :: st) (S, I, R, z) Q := RB_iloadn rfl rfl
set_option maxRecDepth 20000 in
theorem w192_52 : RB d 192 52 [l0, l1, l2, l3, l4, l5, l6] [.int x2, .int x1, .int x0, .ref a] (S, I, R, z) Q = ((S a).1 = 7 ∧ RM d 163 [.ref a, .int x0, .int x1, .int x2] (S, I, R, z) (fun v τ => RB d 192 55 [l0, l1, l2, l3, l4, l5, l6] (aPush v []) τ Q)) := RB_callV (n := 4) (t := 0) (k := 162) (ins := .invokevirtual 162) rfl rfl rfl (by decide) (Nat.le_of_ble_eq_true rfl) (Nat.le_of_ble_eq_true rfl) rfl rfl
theorem w192_55 : RB d 192 55 [l0, l1, l2, l3, l4, l5, l6] (.int x :: st) (S, I, R, z) Q = RB d 192 57 [l0, l1, l2, l3, l4, .int x, l6] st (S, I, R, z) Q := RB_istore rfl (Nat.le_of_ble_eq_true rfl) rfl
theorem w192_57 : RB d 192 57 [.ref a, l1, l2, l3, l4, l5, l6] st (S, I, R, z) Q = RB d 192 58 [.ref a, l1, l2, l3, l4, l5, l6] (.ref a :: st) (S, I, R, z) Q := RB_aloadn rfl rfl
theorem w192_58 : RB d 192 58 [l0, l1, .int x, l3, l4, l5, l6] st (S, I, R, z) Q = RB d 192 59 [l0, l1, .int x, l3, l4, l5, l6] (.int x :: st) (S, I, R, z) Q := RB_iloadn rfl rfl
theorem w192_59 : RB d 192 59 [l0, l1, l2, l3, l4, .int x, l6] st (S, I, R, z) Q = RB d 192 61 [l0, l1, l2, l3, l4, .int x, l6] (.int x :: st) (S, I, R, z) Q := RB_iload rfl rfl
set_option maxRecDepth 20000 in
theorem w192_61 : RB d 192 61 [l0, l1, l2, l3, l4, l5, l6] [.int x1, .int x0, .ref a] (S, I, R, z) Q = ((S a).1 = 7 ∧ RM d 160 [.ref a, .int x0, .int x1] (S, I, R, z) (fun v τ => RB d 192 64 [l0, l1, l2, l3, l4, l5, l6] (aPush v []) τ Q)) := RB_callV (n := 3) (t := 0) (k := 147) (ins := .invokevirtual 147) rfl rfl rfl (by decide) (Nat.le_of_ble_eq_true rfl) (Nat.le_of_ble_eq_true rfl) rfl rfl
theorem w192_64 : RB d 192 64 [l0, l1, l2, l3, l4, l5, l6] (.int x :: st) (S, I, R, z) Q = RB d 192 66 [l0, l1, l2, l3, l4, l5, .int x] st (S, I, R, z) Q := RB_istore rfl (Nat.le_of_ble_eq_true rfl) rfl
theorem w192_66 : RB d 192 66 [.ref a, l1, l2, l3, l4, l5, l6] st (S, I, R, z) Q = RB d 192 67 [.ref a, l1, l2, l3, l4, l5, l6] (.ref a :: st) (S, I, R, z) Q := RB_aloadn rfl rfl
theorem w192_67 : RB d 192 67 [l0, l1, .int x, l3, l4, l5, l6] st (S, I, R, z) Q = RB d 192 68 [l0, l1, .int x, l3, l4, l5, l6] (.int x :: st) (S, I, R, z) Q := RB_iloadn rfl rfl
theorem w192_68 : RB d 192 68 [l0, l1, l2, l3, l4, .int x, l6] st (S, I, R, z) Q = RB d 192 70 [l0, l1, l2, l3, l4, .int x, l6] (.int x :: st) (S, I, R, z) Q := RB_iload rfl rfl
theorem w192_70 : RB d 192 70 [l0, l1, l2, l3, l4, l5, .int x] st (S, I, R, z) Q = RB d 192 72 [l0, l1, l2, l3, l4, l5, .int x] (.int x :: st) (S, I, R, z) Q := RB_iload rfl rfl
set_option maxRecDepth 20000 in
theorem w192_72 : RB d 192 72 [l0, l1, l2, l3, l4, l5, l6] [.int x2, .int x1, .int x0, .ref a] (S, I, R, z) Q = ((S a).1 = 7 ∧ RM d 159 [.ref a, .int x0, .int x1, .int x2] (S, I, R, z) (fun v τ => RB d 192 75 [l0, l1, l2, l3, l4, l5, l6] (aPush v []) τ Q)) := RB_callV (n := 4) (t := 0) (k := 119) (ins := .invokevirtual 119) rfl rfl rfl (by decide) (Nat.le_of_ble_eq_true rfl) (Nat.le_of_ble_eq_true rfl) rfl rfl
theorem w192_75 : RB d 192 75 [l0, l1, l2, l3, l4, l5, l6] (.int x :: st) (S, I, R, z) Q = RB d 192 76 [l0, l1, .int x, l3, l4, l5, l6] st (S, I, R, z) Q := RB_istoren rfl (Nat.le_of_ble_eq_true rfl) rfl
theorem w192_76 : RB d 192 76 [l0, l1, l2, .int x, l4, l5, l6] st (S, I, R, z) Q = RB d 192 77 [l0, l1, l2, .int x, l4, l5, l6] (.int x :: st) (S, I, R, z) Q := RB_iloadn rfl rfl
theorem w192_77 : RB d 192 77 [l0, l1, l2, l3, l4, l5, l6] st (S, I, R, z) Q = RB d 192 78 [l0, l1, l2, l3, l4, l5, l6] (.int 1 :: st) (S, I, R, z) Q := RB_iconst rfl ki1
theorem w192_78 : RB d 192 78 [l0, l1, l2, l3, l4, .int x, l6] st (S, I, R, z) Q = RB d 192 80 [l0, l1, l2, l3, l4, .int x, l6] (.int x :: st) (S, I, R, z) Q := RB_iload rfl rfl
theorem w192_80 : RB d 192 80 [l0, l1, l2, l3, l4, l5, l6] (.int y :: .int x :: st) (S, I, R, z) Q = RB d 192 81 [l0, l1, l2, l3, l4, l5, l6] (.int (x <<< (y &&& 31)) :: st) (S, I, R, z) Q := RB_ishl rfl
theorem w192_81 : RB d 192 81 [l0, l1, l2, l3, l4, l5, l6] (.int y :: .int x :: st) (S, I, R, z) Q = RB d 192 82 [l0, l1, l2, l3, l4, l5, l6] (.int (x ||| y) :: st) (S, I, R, z) Q := RB_ior rfl
theorem w192_82 : RB d 192 82 [l0, l1, l2, l3, l4, l5, l6] (.int x :: st) (S, I, R, z) Q = RB d 192 83 [l0, l1, l2, .int x, l4, l5, l6] st (S, I, R, z) Q := RB_istoren rfl (Nat.le_of_ble_eq_true rfl) rfl
theorem w192_83 : RB d 192 83 [l0, l1, l2, l3, .int x, l5, l6] st (S, I, R, z) Q = RB d 192 85 [l0, l1, l2, l3, .int x, l5, l6] (.int x :: st) (S, I, R, z) Q := RB_iload rfl rfl
theorem w192_85 : RB d 192 85 [l0, l1, l2, l3, l4, l5, .int x] st (S, I, R, z) Q = RB d 192 87 [l0, l1, l2, l3, l4, l5, .int x] (.int x :: st) (S, I, R, z) Q := RB_iload rfl rfl
theorem w192_87 : RB d 192 87 [l0, l1, l2, l3, l4, l5, l6] (.int x :: st) (S, I, R, z) Q = ((x = 0 → RB d 192 90 [l0, l1, l2, l3, l4, l5, l6] st (S, I, R, z) Q) ∧ (¬ x = 0 → RB d 192 94 [l0, l1, l2, l3, l4, l5, l6] st (S, I, R, z) Q)) := RB_ne0 rfl (by decide) rfl
theorem w192_90 : RB d 192 90 [l0, l1, l2, l3, l4, l5, l6] st (S, I, R, z) Q = RB d 192 91 [l0, l1, l2, l3, l4, l5, l6] (.int 1 :: st) (S, I, R, z) Q := RB_iconst rfl ki1
theorem w192_91 : RB d 192 91 [l0, l1, l2, l3, l4, l5, l6] st (S, I, R, z) Q = RB d 192 95 [l0, l1, l2, l3, l4, l5, l6] st (S, I, R, z) Q := RB_goto rfl (by decide) rfl
theorem w192_94 : RB d 192 94 [l0, l1, l2, l3, l4, l5, l6] st (S, I, R, z) Q = RB d 192 95 [l0, l1, l2, l3, l4, l5, l6] (.int 0 :: st) (S, I, R, z) Q := RB_iconst rfl ki0
theorem w192_95 : RB d 192 95 [l0, l1, l2, l3, l4, l5, l6] (.int y :: .int x :: st) (S, I, R, z) Q = RB d 192 96 [l0, l1, l2, l3, l4, l5, l6] (.int (x + y) :: st) (S, I, R, z) Q := RB_iadd rfl
theorem w192_96 : RB d 192 96 [l0, l1, l2, l3, l4, l5, l6] (.int x :: st) (S, I, R, z) Q = RB d 192 98 [l0, l1, l2, l3, .int x, l5, l6] st (S, I, R, z) Q := RB_istore rfl (Nat.le_of_ble_eq_true rfl) rfl
theorem w192_98 : RB d 192 98 [l0, l1, l2, l3, l4, l5, l6] st (S, I, R, z) Q = RB d 192 27 [l0, l1, l2, l3, l4, l5, l6] st (S, I, R, z) Q := RB_goto rfl (by decide) rfl
theorem w192_101 : RB d 192 101 [l0, l1, l2, l3, .int x, l5, l6] st (S, I, R, z) Q = RB d 192 103 [l0, l1, l2, l3, .int x, l5, l6] (.int x :: st) (S, I, R, z) Q := RB_iload rfl rfl
theorem w192_103 : RB d 192 103 [l0, l1, l2, l3, l4, l5, l6] [.int x] (S, I, R, z) Q = Q (some (.int x)) (S, I, R, z) := RB_iret rfl rfl rfl
/-! 193: HangedWordModel.worstBy -/
theorem w193_0 : RB d 193 0 [l0, l1, l2, l3, l4, l5, l6, l7] st (S, I, R, z) Q = RB d 193 1 [l0, l1, l2, l3, l4, l5, l6, l7] (.int 0 :: st) (S, I, R, z) Q := RB_iconst rfl ki0
theorem w193_1 : RB d 193 1 [l0, l1, l2, l3, l4, l5, l6, l7] (.int x :: st) (S, I, R, z) Q = RB d 193 3 [l0, l1, l2, l3, .int x, l5, l6, l7] st (S, I, R, z) Q := RB_istore rfl (Nat.le_of_ble_eq_true rfl) rfl
theorem w193_3 : RB d 193 3 [l0, l1, l2, l3, l4, l5, l6, l7] st (S, I, R, z) Q = RB d 193 4 [l0, l1, l2, l3, l4, l5, l6, l7] (.int 0 :: st) (S, I, R, z) Q := RB_iconst rfl ki0
theorem w193_4 : RB d 193 4 [l0, l1, l2, l3, l4, l5, l6, l7] (.int x :: st) (S, I, R, z) Q = RB d 193 6 [l0, l1, l2, l3, l4, .int x, l6, l7] st (S, I, R, z) Q := RB_istore rfl (Nat.le_of_ble_eq_true rfl) rfl
theorem w193_6 : RB d 193 6 [l0, l1, l2, l3, l4, .int x, l6, l7] st (S, I, R, z) Q = RB d 193 8 [l0, l1, l2, l3, l4, .int x, l6, l7] (.int x :: st) (S, I, R, z) Q := RB_iload rfl rfl
theorem w193_8 : RB d 193 8 [l0, l1, l2, l3, l4, l5, l6, l7] st (S, I, R, z) Q = RB d 193 10 [l0, l1, l2, l3, l4, l5, l6, l7] (.int 16 :: st) (S, I, R, z) Q := RB_bipush rfl kb16
theorem w193_10 : RB d 193 10 [l0, l1, l2, l3, l4, l5, l6, l7] (.int y :: .int x :: st) (S, I, R, z) Q = ((y ≤ x → RB d 193 74 [l0, l1, l2, l3, l4, l5, l6, l7] st (S, I, R, z) Q) ∧ (¬ y ≤ x → RB d 193 13 [l0, l1, l2, l3, l4, l5, l6, l7] st (S, I, R, z) Q)) := RB_ige rfl (by decide) rfl
theorem w193_13 : RB d 193 13 [.ref a, l1, l2, l3, l4, l5, l6, l7] st (S, I, R, z) Q = RB d 193 14 [.ref a, l1, l2, l3, l4, l5, l6, l7] (.ref a :: st) (S, I, R, z) Q := RB_aloadn rfl rfl
theorem w193_14 : RB d 193 14 [l0, .int x, l2, l3, l4, l5, l6, l7] st (S, I, R, z) Q = RB d 193 15 [l0, .int x, l2, l3, l4, l5, l6, l7] (.int x :: st) (S, I, R, z) Q := RB_iloadn rfl rfl
theorem w193_15 : RB d 193 15 [l0, l1, l2, .int x, l4, l5, l6, l7] st (S, I, R, z) Q = RB d 193 16 [l0, l1, l2, .int x, l4, l5, l6, l7] (.int x :: st) (S, I, R, z) Q := RB_iloadn rfl rfl
theorem w193_16 : RB d 193 16 [l0, l1, l2, l3, l4, .int x, l6, l7] st (S, I, R, z) Q = RB d 193 18 [l0, l1, l2, l3, l4, .int x, l6, l7] (.int x :: st) (S, I, R, z) Q := RB_iload rfl rfl
set_option maxRecDepth 20000 in
theorem w193_18 : RB d 193 18 [l0, l1, l2, l3, l4, l5, l6, l7] [.int x2, .int x1, .int x0, .ref a] (S, I, R, z) Q = ((S a).1 = 7 ∧ RM d 159 [.ref a, .int x0, .int x1, .int x2] (S, I, R, z) (fun v τ => RB d 193 21 [l0, l1, l2, l3, l4, l5, l6, l7] (aPush v []) τ Q)) := RB_callV (n := 4) (t := 0) (k := 119) (ins := .invokevirtual 119) rfl rfl rfl (by decide) (Nat.le_of_ble_eq_true rfl) (Nat.le_of_ble_eq_true rfl) rfl rfl
theorem w193_21 : RB d 193 21 [l0, l1, l2, l3, l4, l5, l6, l7] (.int x :: st) (S, I, R, z) Q = RB d 193 23 [l0, l1, l2, l3, l4, l5, .int x, l7] st (S, I, R, z) Q := RB_istore rfl (Nat.le_of_ble_eq_true rfl) rfl
theorem w193_23 : RB d 193 23 [l0, l1, l2, l3, l4, l5, .int x, l7] st (S, I, R, z) Q = RB d 193 25 [l0, l1, l2, l3, l4, l5, .int x, l7] (.int x :: st) (S, I, R, z) Q := RB_iload rfl rfl
theorem w193_25 : RB d 193 25 [l0, l1, l2, l3, l4, l5, l6, l7] (.int x :: st) (S, I, R, z) Q = ((x = 0 → RB d 193 68 [l0, l1, l2, l3, l4, l5, l6, l7] st (S, I, R, z) Q) ∧ (¬ x = 0 → RB d 193 28 [l0, l1, l2, l3, l4, l5, l6, l7] st (S, I, R, z) Q)) := RB_eq0 rfl (by decide) rfl
theorem w193_28 : RB d 193 28 [l0, l1, l2, l3, l4, .int x, l6, l7] st (S, I, R, z) Q = RB d 193 30 [l0, l1, l2, l3, l4, .int x, l6, l7] (.int x :: st) (S, I, R, z) Q := RB_iload rfl rfl
theorem w193_30 : RB d 193 30 [l0, l1, l2, l3, l4, l5, l6, l7] (.int x :: st) (S, I, R, z) Q = ((x = 0 → RB d 193 33 [l0, l1, l2, l3, l4, l5, l6, l7] st (S, I, R, z) Q) ∧ (¬ x = 0 → RB d 193 37 [l0, l1, l2, l3, l4, l5, l6, l7] st (S, I, R, z) Q)) := RB_ne0 rfl (by decide) rfl
theorem w193_33 : RB d 193 33 [l0, l1, l2, l3, l4, l5, l6, l7] st (S, I, R, z) Q = RB d 193 34 [l0, l1, l2, l3, l4, l5, l6, l7] (.int 1 :: st) (S, I, R, z) Q := RB_iconst rfl ki1
theorem w193_34 : RB d 193 34 [l0, l1, l2, l3, l4, l5, l6, l7] st (S, I, R, z) Q = RB d 193 38 [l0, l1, l2, l3, l4, l5, l6, l7] st (S, I, R, z) Q := RB_goto rfl (by decide) rfl
theorem w193_37 : RB d 193 37 [l0, l1, l2, l3, l4, l5, l6, l7] st (S, I, R, z) Q = RB d 193 38 [l0, l1, l2, l3, l4, l5, l6, l7] (.int 0 :: st) (S, I, R, z) Q := RB_iconst rfl ki0
theorem w193_38 : RB d 193 38 [.ref a, l1, l2, l3, l4, l5, l6, l7] st (S, I, R, z) Q = RB d 193 39 [.ref a, l1, l2, l3, l4, l5, l6, l7] (.ref a :: st) (S, I, R, z) Q := RB_aloadn rfl rfl
theorem w193_39 : RB d 193 39 [l0, l1, l2, l3, l4, l5, .int x, l7] st (S, I, R, z) Q = RB d 193 41 [l0, l1, l2, l3, l4, l5, .int x, l7] (.int x :: st) (S, I, R, z) Q := RB_iload rfl rfl
theorem w193_41 : RB d 193 41 [l0, l1, .int x, l3, l4, l5, l6, l7] st (S, I, R, z) Q = RB d 193 42 [l0, l1, .int x, l3, l4, l5, l6, l7] (.int x :: st) (S, I, R, z) Q := RB_iloadn rfl rfl
theorem w193_42 : RB d 193 42 [l0, l1, l2, l3, l4, l5, l6, l7] st (S, I, R, z) Q = RB d 193 43 [l0, l1, l2, l3, l4, l5, l6, l7] (.int 1 :: st) (S, I, R, z) Q := RB_iconst rfl ki1
theorem w193_43 : RB d 193 43 [l0, l1, l2, .int x, l4, l5, l6, l7] st (S, I, R, z) Q = RB d 193 44 [l0, l1, l2, .int x, l4, l5, l6, l7] (.int x :: st) (S, I, R, z) Q := RB_iloadn rfl rfl
theorem w193_44 : RB d 193 44 [l0, l1, l2, l3, l4, l5, l6, l7] (.int y :: .int x :: st) (S, I, R, z) Q = RB d 193 45 [l0, l1, l2, l3, l4, l5, l6, l7] (.int (x <<< (y &&& 31)) :: st) (S, I, R, z) Q := RB_ishl rfl
theorem w193_45 : RB d 193 45 [l0, l1, l2, l3, l4, l5, l6, l7] (.int y :: .int x :: st) (S, I, R, z) Q = RB d 193 46 [l0, l1, l2, l3, l4, l5, l6, l7] (.int (x ||| y) :: st) (S, I, R, z) Q := RB_ior rfl
set_option maxRecDepth 20000 in
theorem w193_46 : RB d 193 46 [l0, l1, l2, l3, l4, l5, l6, l7] [.int x1, .int x0, .ref a, s0] (S, I, R, z) Q = ((S a).1 = 7 ∧ RM d 194 [.ref a, .int x0, .int x1] (S, I, R, z) (fun v τ => RB d 193 49 [l0, l1, l2, l3, l4, l5, l6, l7] (aPush v [s0]) τ Q)) := RB_callV (n := 3) (t := 0) (k := 207) (ins := .invokevirtual 207) rfl rfl rfl (by decide) (Nat.le_of_ble_eq_true rfl) (Nat.le_of_ble_eq_true rfl) rfl rfl
theorem w193_49 : RB d 193 49 [l0, l1, l2, l3, l4, l5, l6, l7] (.int y :: .int x :: st) (S, I, R, z) Q = RB d 193 50 [l0, l1, l2, l3, l4, l5, l6, l7] (.int (x + y) :: st) (S, I, R, z) Q := RB_iadd rfl
theorem w193_50 : RB d 193 50 [l0, l1, l2, l3, l4, l5, l6, l7] (.int x :: st) (S, I, R, z) Q = RB d 193 52 [l0, l1, l2, l3, l4, l5, l6, .int x] st (S, I, R, z) Q := RB_istore rfl (Nat.le_of_ble_eq_true rfl) rfl
theorem w193_52 : RB d 193 52 [l0, l1, l2, l3, l4, l5, l6, .int x] st (S, I, R, z) Q = RB d 193 54 [l0, l1, l2, l3, l4, l5, l6, .int x] (.int x :: st) (S, I, R, z) Q := RB_iload rfl rfl
theorem w193_54 : RB d 193 54 [l0, l1, l2, l3, .int x, l5, l6, l7] st (S, I, R, z) Q = RB d 193 56 [l0, l1, l2, l3, .int x, l5, l6, l7] (.int x :: st) (S, I, R, z) Q := RB_iload rfl rfl
theorem w193_56 : RB d 193 56 [l0, l1, l2, l3, l4, l5, l6, l7] (.int y :: .int x :: st) (S, I, R, z) Q = ((x ≤ y → RB d 193 64 [l0, l1, l2, l3, l4, l5, l6, l7] st (S, I, R, z) Q) ∧ (¬ x ≤ y → RB d 193 59 [l0, l1, l2, l3, l4, l5, l6, l7] st (S, I, R, z) Q)) := RB_ile rfl (by decide) rfl
theorem w193_59 : RB d 193 59 [l0, l1, l2, l3, l4, l5, l6, .int x] st (S, I, R, z) Q = RB d 193 61 [l0, l1, l2, l3, l4, l5, l6, .int x] (.int x :: st) (S, I, R, z) Q := RB_iload rfl rfl
theorem w193_61 : RB d 193 61 [l0, l1, l2, l3, l4, l5, l6, l7] st (S, I, R, z) Q = RB d 193 66 [l0, l1, l2, l3, l4, l5, l6, l7] st (S, I, R, z) Q := RB_goto rfl (by decide) rfl
theorem w193_64 : RB d 193 64 [l0, l1, l2, l3, .int x, l5, l6, l7] st (S, I, R, z) Q = RB d 193 66 [l0, l1, l2, l3, .int x, l5, l6, l7] (.int x :: st) (S, I, R, z) Q := RB_iload rfl rfl
theorem w193_66 : RB d 193 66 [l0, l1, l2, l3, l4, l5, l6, l7] (.int x :: st) (S, I, R, z) Q = RB d 193 68 [l0, l1, l2, l3, .int x, l5, l6, l7] st (S, I, R, z) Q := RB_istore rfl (Nat.le_of_ble_eq_true rfl) rfl
theorem w193_68 : RB d 193 68 [l0, l1, l2, l3, l4, .int x, l6, l7] st (S, I, R, z) Q = RB d 193 71 [l0, l1, l2, l3, l4, .int (x + 1), l6, l7] st (S, I, R, z) Q := RB_iinc rfl rfl (Nat.le_of_ble_eq_true rfl) ki1 rfl
theorem w193_71 : RB d 193 71 [l0, l1, l2, l3, l4, l5, l6, l7] st (S, I, R, z) Q = RB d 193 6 [l0, l1, l2, l3, l4, l5, l6, l7] st (S, I, R, z) Q := RB_goto rfl (by decide) rfl
theorem w193_74 : RB d 193 74 [l0, l1, l2, l3, .int x, l5, l6, l7] st (S, I, R, z) Q = RB d 193 76 [l0, l1, l2, l3, .int x, l5, l6, l7] (.int x :: st) (S, I, R, z) Q := RB_iload rfl rfl
theorem w193_76 : RB d 193 76 [l0, l1, l2, l3, l4, l5, l6, l7] [.int x] (S, I, R, z) Q = Q (some (.int x)) (S, I, R, z) := RB_iret rfl rfl rfl
/-! 194: HangedWordModel.bestFrom -/
theorem w194_0 : RB d 194 0 [.ref a, l1, l2, l3, l4, l5] st (S, I, R, z) Q = RB d 194 1 [.ref a, l1, l2, l3, l4, l5] (.ref a :: st) (S, I, R, z) Q := RB_aloadn rfl rfl
theorem w194_1 : RB d 194 1 [l0, .int x, l2, l3, l4, l5] st (S, I, R, z) Q = RB d 194 2 [l0, .int x, l2, l3, l4, l5] (.int x :: st) (S, I, R, z) Q := RB_iloadn rfl rfl
theorem w194_2 : RB d 194 2 [l0, l1, .int x, l3, l4, l5] st (S, I, R, z) Q = RB d 194 3 [l0, l1, .int x, l3, l4, l5] (.int x :: st) (S, I, R, z) Q := RB_iloadn rfl rfl
set_option maxRecDepth 20000 in
theorem w194_3 : RB d 194 3 [l0, l1, l2, l3, l4, l5] [.int x1, .int x0, .ref a] (S, I, R, z) Q = ((S a).1 = 7 ∧ RM d 191 [.ref a, .int x0, .int x1] (S, I, R, z) (fun v τ => RB d 194 6 [l0, l1, l2, l3, l4, l5] (aPush v []) τ Q)) := RB_callV (n := 3) (t := 0) (k := 204) (ins := .invokevirtual 204) rfl rfl rfl (by decide) (Nat.le_of_ble_eq_true rfl) (Nat.le_of_ble_eq_true rfl) rfl rfl
theorem w194_6 : RB d 194 6 [l0, l1, l2, l3, l4, l5] (.int x :: st) (S, I, R, z) Q = ((x = 0 → RB d 194 11 [l0, l1, l2, l3, l4, l5] st (S, I, R, z) Q) ∧ (¬ x = 0 → RB d 194 9 [l0, l1, l2, l3, l4, l5] st (S, I, R, z) Q)) := RB_eq0 rfl (by decide) rfl
theorem w194_9 : RB d 194 9 [l0, l1, l2, l3, l4, l5] st (S, I, R, z) Q = RB d 194 10 [l0, l1, l2, l3, l4, l5] (.int 0 :: st) (S, I, R, z) Q := RB_iconst rfl ki0
theorem w194_10 : RB d 194 10 [l0, l1, l2, l3, l4, l5] [.int x] (S, I, R, z) Q = Q (some (.int x)) (S, I, R, z) := RB_iret rfl rfl rfl
theorem w194_11 : RB d 194 11 [l0, l1, l2, l3, l4, l5] st (S, I, R, z) Q = RB d 194 13 [l0, l1, l2, l3, l4, l5] (.int 99 :: st) (S, I, R, z) Q := RB_bipush rfl kb99
theorem w194_13 : RB d 194 13 [l0, l1, l2, l3, l4, l5] (.int x :: st) (S, I, R, z) Q = RB d 194 14 [l0, l1, l2, .int x, l4, l5] st (S, I, R, z) Q := RB_istoren rfl (Nat.le_of_ble_eq_true rfl) rfl
theorem w194_14 : RB d 194 14 [l0, l1, l2, l3, l4, l5] st (S, I, R, z) Q = RB d 194 15 [l0, l1, l2, l3, l4, l5] (.int 0 :: st) (S, I, R, z) Q := RB_iconst rfl ki0
theorem w194_15 : RB d 194 15 [l0, l1, l2, l3, l4, l5] (.int x :: st) (S, I, R, z) Q = RB d 194 17 [l0, l1, l2, l3, .int x, l5] st (S, I, R, z) Q := RB_istore rfl (Nat.le_of_ble_eq_true rfl) rfl
theorem w194_17 : RB d 194 17 [l0, l1, l2, l3, .int x, l5] st (S, I, R, z) Q = RB d 194 19 [l0, l1, l2, l3, .int x, l5] (.int x :: st) (S, I, R, z) Q := RB_iload rfl rfl
theorem w194_19 : RB d 194 19 [l0, l1, l2, l3, l4, l5] st (S, I, R, z) Q = RB d 194 21 [l0, l1, l2, l3, l4, l5] (.int 6 :: st) (S, I, R, z) Q := RB_bipush rfl kb6
theorem w194_21 : RB d 194 21 [l0, l1, l2, l3, l4, l5] (.int y :: .int x :: st) (S, I, R, z) Q = ((y ≤ x → RB d 194 62 [l0, l1, l2, l3, l4, l5] st (S, I, R, z) Q) ∧ (¬ y ≤ x → RB d 194 24 [l0, l1, l2, l3, l4, l5] st (S, I, R, z) Q)) := RB_ige rfl (by decide) rfl
theorem w194_24 : RB d 194 24 [l0, l1, .int x, l3, l4, l5] st (S, I, R, z) Q = RB d 194 25 [l0, l1, .int x, l3, l4, l5] (.int x :: st) (S, I, R, z) Q := RB_iloadn rfl rfl
theorem w194_25 : RB d 194 25 [l0, l1, l2, l3, .int x, l5] st (S, I, R, z) Q = RB d 194 27 [l0, l1, l2, l3, .int x, l5] (.int x :: st) (S, I, R, z) Q := RB_iload rfl rfl
theorem w194_27 : RB d 194 27 [l0, l1, l2, l3, l4, l5] (.int y :: .int x :: st) (S, I, R, z) Q = RB d 194 28 [l0, l1, l2, l3, l4, l5] (.int (x >>> (y &&& 31)) :: st) (S, I, R, z) Q := RB_ishr rfl
theorem w194_28 : RB d 194 28 [l0, l1, l2, l3, l4, l5] st (S, I, R, z) Q = RB d 194 29 [l0, l1, l2, l3, l4, l5] (.int 1 :: st) (S, I, R, z) Q := RB_iconst rfl ki1
theorem w194_29 : RB d 194 29 [l0, l1, l2, l3, l4, l5] (.int y :: .int x :: st) (S, I, R, z) Q = RB d 194 30 [l0, l1, l2, l3, l4, l5] (.int (x &&& y) :: st) (S, I, R, z) Q := RB_iand rfl
theorem w194_30 : RB d 194 30 [l0, l1, l2, l3, l4, l5] (.int x :: st) (S, I, R, z) Q = ((x = 0 → RB d 194 33 [l0, l1, l2, l3, l4, l5] st (S, I, R, z) Q) ∧ (¬ x = 0 → RB d 194 56 [l0, l1, l2, l3, l4, l5] st (S, I, R, z) Q)) := RB_ne0 rfl (by decide) rfl
theorem w194_33 : RB d 194 33 [.ref a, l1, l2, l3, l4, l5] st (S, I, R, z) Q = RB d 194 34 [.ref a, l1, l2, l3, l4, l5] (.ref a :: st) (S, I, R, z) Q := RB_aloadn rfl rfl
theorem w194_34 : RB d 194 34 [l0, .int x, l2, l3, l4, l5] st (S, I, R, z) Q = RB d 194 35 [l0, .int x, l2, l3, l4, l5] (.int x :: st) (S, I, R, z) Q := RB_iloadn rfl rfl
theorem w194_35 : RB d 194 35 [l0, l1, .int x, l3, l4, l5] st (S, I, R, z) Q = RB d 194 36 [l0, l1, .int x, l3, l4, l5] (.int x :: st) (S, I, R, z) Q := RB_iloadn rfl rfl
theorem w194_36 : RB d 194 36 [l0, l1, l2, l3, .int x, l5] st (S, I, R, z) Q = RB d 194 38 [l0, l1, l2, l3, .int x, l5] (.int x :: st) (S, I, R, z) Q := RB_iload rfl rfl
set_option maxRecDepth 20000 in
theorem w194_38 : RB d 194 38 [l0, l1, l2, l3, l4, l5] [.int x2, .int x1, .int x0, .ref a] (S, I, R, z) Q = ((S a).1 = 7 ∧ RM d 193 [.ref a, .int x0, .int x1, .int x2] (S, I, R, z) (fun v τ => RB d 194 41 [l0, l1, l2, l3, l4, l5] (aPush v []) τ Q)) := RB_callV (n := 4) (t := 0) (k := 210) (ins := .invokevirtual 210) rfl rfl rfl (by decide) (Nat.le_of_ble_eq_true rfl) (Nat.le_of_ble_eq_true rfl) rfl rfl
theorem w194_41 : RB d 194 41 [l0, l1, l2, l3, l4, l5] (.int x :: st) (S, I, R, z) Q = RB d 194 43 [l0, l1, l2, l3, l4, .int x] st (S, I, R, z) Q := RB_istore rfl (Nat.le_of_ble_eq_true rfl) rfl
theorem w194_43 : RB d 194 43 [l0, l1, l2, l3, l4, .int x] st (S, I, R, z) Q = RB d 194 45 [l0, l1, l2, l3, l4, .int x] (.int x :: st) (S, I, R, z) Q := RB_iload rfl rfl
theorem w194_45 : RB d 194 45 [l0, l1, l2, .int x, l4, l5] st (S, I, R, z) Q = RB d 194 46 [l0, l1, l2, .int x, l4, l5] (.int x :: st) (S, I, R, z) Q := RB_iloadn rfl rfl
theorem w194_46 : RB d 194 46 [l0, l1, l2, l3, l4, l5] (.int y :: .int x :: st) (S, I, R, z) Q = ((y ≤ x → RB d 194 54 [l0, l1, l2, l3, l4, l5] st (S, I, R, z) Q) ∧ (¬ y ≤ x → RB d 194 49 [l0, l1, l2, l3, l4, l5] st (S, I, R, z) Q)) := RB_ige rfl (by decide) rfl
theorem w194_49 : RB d 194 49 [l0, l1, l2, l3, l4, .int x] st (S, I, R, z) Q = RB d 194 51 [l0, l1, l2, l3, l4, .int x] (.int x :: st) (S, I, R, z) Q := RB_iload rfl rfl
theorem w194_51 : RB d 194 51 [l0, l1, l2, l3, l4, l5] st (S, I, R, z) Q = RB d 194 55 [l0, l1, l2, l3, l4, l5] st (S, I, R, z) Q := RB_goto rfl (by decide) rfl
theorem w194_54 : RB d 194 54 [l0, l1, l2, .int x, l4, l5] st (S, I, R, z) Q = RB d 194 55 [l0, l1, l2, .int x, l4, l5] (.int x :: st) (S, I, R, z) Q := RB_iloadn rfl rfl
theorem w194_55 : RB d 194 55 [l0, l1, l2, l3, l4, l5] (.int x :: st) (S, I, R, z) Q = RB d 194 56 [l0, l1, l2, .int x, l4, l5] st (S, I, R, z) Q := RB_istoren rfl (Nat.le_of_ble_eq_true rfl) rfl
theorem w194_56 : RB d 194 56 [l0, l1, l2, l3, .int x, l5] st (S, I, R, z) Q = RB d 194 59 [l0, l1, l2, l3, .int (x + 1), l5] st (S, I, R, z) Q := RB_iinc rfl rfl (Nat.le_of_ble_eq_true rfl) ki1 rfl
theorem w194_59 : RB d 194 59 [l0, l1, l2, l3, l4, l5] st (S, I, R, z) Q = RB d 194 17 [l0, l1, l2, l3, l4, l5] st (S, I, R, z) Q := RB_goto rfl (by decide) rfl
theorem w194_62 : RB d 194 62 [l0, l1, l2, .int x, l4, l5] st (S, I, R, z) Q = RB d 194 63 [l0, l1, l2, .int x, l4, l5] (.int x :: st) (S, I, R, z) Q := RB_iloadn rfl rfl
theorem w194_63 : RB d 194 63 [l0, l1, l2, l3, l4, l5] [.int x] (S, I, R, z) Q = Q (some (.int x)) (S, I, R, z) := RB_iret rfl rfl rfl
/-! 195: HangedWordModel.best -/
theorem w195_0 : RB d 195 0 [l0, .int x, l2, l3, l4, l5] st (S, I, R, z) Q = RB d 195 1 [l0, .int x, l2, l3, l4, l5] (.int x :: st) (S, I, R, z) Q := RB_iloadn rfl rfl
theorem w195_1 : RB d 195 1 [l0, l1, l2, l3, l4, l5] st (S, I, R, z) Q = RB d 195 2 [l0, l1, l2, l3, l4, l5] (.int 0 :: st) (S, I, R, z) Q := RB_iconst rfl ki0
theorem w195_2 : RB d 195 2 [l0, l1, l2, l3, l4, l5] st (S, I, R, z) Q = RB d 195 3 [l0, l1, l2, l3, l4, l5] (.int 1 :: st) (S, I, R, z) Q := RB_iconst rfl ki1
set_option maxRecDepth 20000 in
theorem w195_3 : RB d 195 3 [l0, l1, l2, l3, l4, l5] [.int x2, .int x1, .int x0] (S, I, R, z) Q = RM d 135 [.int x0, .int x1, .int x2] (S, I, R, z) (fun v τ => RB d 195 6 [l0, l1, l2, l3, l4, l5] (aPush v []) τ Q) := RB_callS (n := 3) (t := 1) (k := 76) (ins := .invokestatic 76) rfl rfl rfl (Nat.le_of_ble_eq_true rfl) (Nat.le_of_ble_eq_true rfl) rfl rfl
theorem w195_6 : RB d 195 6 [l0, l1, l2, l3, l4, l5] (.int x :: st) (S, I, R, z) Q = ((x = 0 → RB d 195 9 [l0, l1, l2, l3, l4, l5] st (S, I, R, z) Q) ∧ (¬ x = 0 → RB d 195 12 [l0, l1, l2, l3, l4, l5] st (S, I, R, z) Q)) := RB_ne0 rfl (by decide) rfl
theorem w195_9 : RB d 195 9 [l0, l1, l2, l3, l4, l5] st (S, I, R, z) Q = RB d 195 11 [l0, l1, l2, l3, l4, l5] (.int (-1000000001) :: st) (S, I, R, z) Q := RB_ldc rfl rfl
theorem w195_11 : RB d 195 11 [l0, l1, l2, l3, l4, l5] [.int x] (S, I, R, z) Q = Q (some (.int x)) (S, I, R, z) := RB_iret rfl rfl rfl
theorem w195_12 : RB d 195 12 [.ref a, l1, l2, l3, l4, l5] st (S, I, R, z) Q = RB d 195 13 [.ref a, l1, l2, l3, l4, l5] (.ref a :: st) (S, I, R, z) Q := RB_aloadn rfl rfl
set_option maxRecDepth 20000 in
theorem w195_13 : RB d 195 13 [l0, l1, l2, l3, l4, l5] [.ref a] (S, I, R, z) Q = ((S a).1 = 7 ∧ RM d 149 [.ref a] (S, I, R, z) (fun v τ => RB d 195 16 [l0, l1, l2, l3, l4, l5] (aPush v []) τ Q)) := RB_callV (n := 1) (t := 0) (k := 103) (ins := .invokevirtual 103) rfl rfl rfl (by decide) (Nat.le_of_ble_eq_true rfl) (Nat.le_of_ble_eq_true rfl) rfl rfl
theorem w195_16 : RB d 195 16 [l0, l1, l2, l3, l4, l5] (.int x :: st) (S, I, R, z) Q = RB d 195 17 [l0, l1, .int x, l3, l4, l5] st (S, I, R, z) Q := RB_istoren rfl (Nat.le_of_ble_eq_true rfl) rfl
theorem w195_17 : RB d 195 17 [.ref a, l1, l2, l3, l4, l5] st (S, I, R, z) Q = RB d 195 18 [.ref a, l1, l2, l3, l4, l5] (.ref a :: st) (S, I, R, z) Q := RB_aloadn rfl rfl
theorem w195_18 : RB d 195 18 [l0, l1, .int x, l3, l4, l5] st (S, I, R, z) Q = RB d 195 19 [l0, l1, .int x, l3, l4, l5] (.int x :: st) (S, I, R, z) Q := RB_iloadn rfl rfl
theorem w195_19 : RB d 195 19 [.ref a, l1, l2, l3, l4, l5] st (S, I, R, z) Q = RB d 195 20 [.ref a, l1, l2, l3, l4, l5] (.ref a :: st) (S, I, R, z) Q := RB_aloadn rfl rfl
theorem w195_20 : RB d 195 20 [l0, l1, l2, l3, l4, l5] (.ref a :: st) (S, I, R, z) Q = ((S a).1 = 7 ∧ RB d 195 23 [l0, l1, l2, l3, l4, l5] (va_rf (R a 0) :: st) (S, I, R, z) Q) := RB_getR rfl rfl
theorem w195_23 : RB d 195 23 [l0, l1, l2, l3, l4, l5] st (S, I, R, z) Q = RB d 195 24 [l0, l1, l2, l3, l4, l5] (.int 4 :: st) (S, I, R, z) Q := RB_iconst rfl ki4
theorem w195_24 : RB d 195 24 [l0, l1, l2, l3, l4, l5] (.int i :: .ref a :: st) (S, I, R, z) Q = (((S a).1 = 9 ∧ aIx i (S a).2) ∧ RB d 195 25 [l0, l1, l2, l3, l4, l5] (.int (I a i.toNatClampNeg) :: st) (S, I, R, z) Q) := RB_iald rfl
set_option maxRecDepth 20000 in
theorem w195_25 : RB d 195 25 [l0, l1, l2, l3, l4, l5] [.int x1, .int x0, .ref a] (S, I, R, z) Q = ((S a).1 = 7 ∧ RM d 194 [.ref a, .int x0, .int x1] (S, I, R, z) (fun v τ => RB d 195 28 [l0, l1, l2, l3, l4, l5] (aPush v []) τ Q)) := RB_callV (n := 3) (t := 0) (k := 207) (ins := .invokevirtual 207) rfl rfl rfl (by decide) (Nat.le_of_ble_eq_true rfl) (Nat.le_of_ble_eq_true rfl) rfl rfl
theorem w195_28 : RB d 195 28 [l0, l1, l2, l3, l4, l5] (.int x :: st) (S, I, R, z) Q = RB d 195 29 [l0, l1, l2, .int x, l4, l5] st (S, I, R, z) Q := RB_istoren rfl (Nat.le_of_ble_eq_true rfl) rfl
theorem w195_29 : RB d 195 29 [l0, .int x, l2, l3, l4, l5] st (S, I, R, z) Q = RB d 195 30 [l0, .int x, l2, l3, l4, l5] (.int x :: st) (S, I, R, z) Q := RB_iloadn rfl rfl
theorem w195_30 : RB d 195 30 [l0, l1, l2, l3, l4, l5] (.int x :: st) (S, I, R, z) Q = ((x = 0 → RB d 195 33 [l0, l1, l2, l3, l4, l5] st (S, I, R, z) Q) ∧ (¬ x = 0 → RB d 195 35 [l0, l1, l2, l3, l4, l5] st (S, I, R, z) Q)) := RB_ne0 rfl (by decide) rfl
theorem w195_33 : RB d 195 33 [l0, l1, l2, .int x, l4, l5] st (S, I, R, z) Q = RB d 195 34 [l0, l1, l2, .int x, l4, l5] (.int x :: st) (S, I, R, z) Q := RB_iloadn rfl rfl
theorem w195_34 : RB d 195 34 [l0, l1, l2, l3, l4, l5] [.int x] (S, I, R, z) Q = Q (some (.int x)) (S, I, R, z) := RB_iret rfl rfl rfl
theorem w195_35 : RB d 195 35 [l0, l1, l2, l3, l4, l5] st (S, I, R, z) Q = RB d 195 37 [l0, l1, l2, l3, l4, l5] (.int (-1000000005) :: st) (S, I, R, z) Q := RB_ldc rfl rfl
theorem w195_37 : RB d 195 37 [l0, l1, l2, l3, l4, l5] (.int x :: st) (S, I, R, z) Q = RB d 195 39 [l0, l1, l2, l3, .int x, l5] st (S, I, R, z) Q := RB_istore rfl (Nat.le_of_ble_eq_true rfl) rfl
theorem w195_39 : RB d 195 39 [l0, l1, l2, l3, l4, l5] st (S, I, R, z) Q = RB d 195 40 [l0, l1, l2, l3, l4, l5] (.int 5 :: st) (S, I, R, z) Q := RB_iconst rfl ki5
theorem w195_40 : RB d 195 40 [l0, l1, l2, l3, l4, l5] (.int x :: st) (S, I, R, z) Q = RB d 195 42 [l0, l1, l2, l3, l4, .int x] st (S, I, R, z) Q := RB_istore rfl (Nat.le_of_ble_eq_true rfl) rfl
theorem w195_42 : RB d 195 42 [l0, l1, l2, l3, l4, .int x] st (S, I, R, z) Q = RB d 195 44 [l0, l1, l2, l3, l4, .int x] (.int x :: st) (S, I, R, z) Q := RB_iload rfl rfl
theorem w195_44 : RB d 195 44 [l0, l1, l2, l3, l4, l5] (.int x :: st) (S, I, R, z) Q = ((x < 0 → RB d 195 107 [l0, l1, l2, l3, l4, l5] st (S, I, R, z) Q) ∧ (¬ x < 0 → RB d 195 47 [l0, l1, l2, l3, l4, l5] st (S, I, R, z) Q)) := RB_lt0 rfl (by decide) rfl
theorem w195_47 : RB d 195 47 [.ref a, l1, l2, l3, l4, l5] st (S, I, R, z) Q = RB d 195 48 [.ref a, l1, l2, l3, l4, l5] (.ref a :: st) (S, I, R, z) Q := RB_aloadn rfl rfl
theorem w195_48 : RB d 195 48 [l0, l1, .int x, l3, l4, l5] st (S, I, R, z) Q = RB d 195 49 [l0, l1, .int x, l3, l4, l5] (.int x :: st) (S, I, R, z) Q := RB_iloadn rfl rfl
theorem w195_49 : RB d 195 49 [.ref a, l1, l2, l3, l4, l5] st (S, I, R, z) Q = RB d 195 50 [.ref a, l1, l2, l3, l4, l5] (.ref a :: st) (S, I, R, z) Q := RB_aloadn rfl rfl
theorem w195_50 : RB d 195 50 [l0, l1, l2, l3, l4, l5] (.ref a :: st) (S, I, R, z) Q = ((S a).1 = 7 ∧ RB d 195 53 [l0, l1, l2, l3, l4, l5] (va_rf (R a 0) :: st) (S, I, R, z) Q) := RB_getR rfl rfl
theorem w195_53 : RB d 195 53 [l0, l1, l2, l3, l4, l5] st (S, I, R, z) Q = RB d 195 54 [l0, l1, l2, l3, l4, l5] (.int 4 :: st) (S, I, R, z) Q := RB_iconst rfl ki4
theorem w195_54 : RB d 195 54 [l0, l1, l2, l3, l4, l5] (.int i :: .ref a :: st) (S, I, R, z) Q = (((S a).1 = 9 ∧ aIx i (S a).2) ∧ RB d 195 55 [l0, l1, l2, l3, l4, l5] (.int (I a i.toNatClampNeg) :: st) (S, I, R, z) Q) := RB_iald rfl
set_option maxRecDepth 20000 in
theorem w195_55 : RB d 195 55 [l0, l1, l2, l3, l4, l5] [.int x1, .int x0, .ref a] (S, I, R, z) Q = ((S a).1 = 7 ∧ RM d 191 [.ref a, .int x0, .int x1] (S, I, R, z) (fun v τ => RB d 195 58 [l0, l1, l2, l3, l4, l5] (aPush v []) τ Q)) := RB_callV (n := 3) (t := 0) (k := 204) (ins := .invokevirtual 204) rfl rfl rfl (by decide) (Nat.le_of_ble_eq_true rfl) (Nat.le_of_ble_eq_true rfl) rfl rfl
theorem w195_58 : RB d 195 58 [l0, l1, l2, l3, l4, l5] (.int x :: st) (S, I, R, z) Q = ((x = 0 → RB d 195 61 [l0, l1, l2, l3, l4, l5] st (S, I, R, z) Q) ∧ (¬ x = 0 → RB d 195 107 [l0, l1, l2, l3, l4, l5] st (S, I, R, z) Q)) := RB_ne0 rfl (by decide) rfl
theorem w195_61 : RB d 195 61 [.ref a, l1, l2, l3, l4, l5] st (S, I, R, z) Q = RB d 195 62 [.ref a, l1, l2, l3, l4, l5] (.ref a :: st) (S, I, R, z) Q := RB_aloadn rfl rfl
theorem w195_62 : RB d 195 62 [l0, l1, l2, l3, l4, l5] (.ref a :: st) (S, I, R, z) Q = ((S a).1 = 7 ∧ RB d 195 65 [l0, l1, l2, l3, l4, l5] (va_rf (R a 0) :: st) (S, I, R, z) Q) := RB_getR rfl rfl
theorem w195_65 : RB d 195 65 [l0, l1, l2, l3, l4, l5] st (S, I, R, z) Q = RB d 195 66 [l0, l1, l2, l3, l4, l5] (.int 4 :: st) (S, I, R, z) Q := RB_iconst rfl ki4
theorem w195_66 : RB d 195 66 [l0, l1, l2, l3, l4, l5] (.int i :: .ref a :: st) (S, I, R, z) Q = (((S a).1 = 9 ∧ aIx i (S a).2) ∧ RB d 195 67 [l0, l1, l2, l3, l4, l5] (.int (I a i.toNatClampNeg) :: st) (S, I, R, z) Q) := RB_iald rfl
theorem w195_67 : RB d 195 67 [l0, l1, l2, l3, l4, .int x] st (S, I, R, z) Q = RB d 195 69 [l0, l1, l2, l3, l4, .int x] (.int x :: st) (S, I, R, z) Q := RB_iload rfl rfl
theorem w195_69 : RB d 195 69 [l0, l1, l2, l3, l4, l5] (.int y :: .int x :: st) (S, I, R, z) Q = RB d 195 70 [l0, l1, l2, l3, l4, l5] (.int (x >>> (y &&& 31)) :: st) (S, I, R, z) Q := RB_ishr rfl
theorem w195_70 : RB d 195 70 [l0, l1, l2, l3, l4, l5] st (S, I, R, z) Q = RB d 195 71 [l0, l1, l2, l3, l4, l5] (.int 1 :: st) (S, I, R, z) Q := RB_iconst rfl ki1
theorem w195_71 : RB d 195 71 [l0, l1, l2, l3, l4, l5] (.int y :: .int x :: st) (S, I, R, z) Q = RB d 195 72 [l0, l1, l2, l3, l4, l5] (.int (x &&& y) :: st) (S, I, R, z) Q := RB_iand rfl
theorem w195_72 : RB d 195 72 [l0, l1, l2, l3, l4, l5] (.int x :: st) (S, I, R, z) Q = ((x = 0 → RB d 195 75 [l0, l1, l2, l3, l4, l5] st (S, I, R, z) Q) ∧ (¬ x = 0 → RB d 195 97 [l0, l1, l2, l3, l4, l5] st (S, I, R, z) Q)) := RB_ne0 rfl (by decide) rfl
theorem w195_75 : RB d 195 75 [.ref a, l1, l2, l3, l4, l5] st (S, I, R, z) Q = RB d 195 76 [.ref a, l1, l2, l3, l4, l5] (.ref a :: st) (S, I, R, z) Q := RB_aloadn rfl rfl
theorem w195_76 : RB d 195 76 [l0, l1, .int x, l3, l4, l5] st (S, I, R, z) Q = RB d 195 77 [l0, l1, .int x, l3, l4, l5] (.int x :: st) (S, I, R, z) Q := RB_iloadn rfl rfl
theorem w195_77 : RB d 195 77 [.ref a, l1, l2, l3, l4, l5] st (S, I, R, z) Q = RB d 195 78 [.ref a, l1, l2, l3, l4, l5] (.ref a :: st) (S, I, R, z) Q := RB_aloadn rfl rfl
theorem w195_78 : RB d 195 78 [l0, l1, l2, l3, l4, l5] (.ref a :: st) (S, I, R, z) Q = ((S a).1 = 7 ∧ RB d 195 81 [l0, l1, l2, l3, l4, l5] (va_rf (R a 0) :: st) (S, I, R, z) Q) := RB_getR rfl rfl
theorem w195_81 : RB d 195 81 [l0, l1, l2, l3, l4, l5] st (S, I, R, z) Q = RB d 195 82 [l0, l1, l2, l3, l4, l5] (.int 4 :: st) (S, I, R, z) Q := RB_iconst rfl ki4
theorem w195_82 : RB d 195 82 [l0, l1, l2, l3, l4, l5] (.int i :: .ref a :: st) (S, I, R, z) Q = (((S a).1 = 9 ∧ aIx i (S a).2) ∧ RB d 195 83 [l0, l1, l2, l3, l4, l5] (.int (I a i.toNatClampNeg) :: st) (S, I, R, z) Q) := RB_iald rfl
theorem w195_83 : RB d 195 83 [l0, l1, l2, l3, l4, .int x] st (S, I, R, z) Q = RB d 195 85 [l0, l1, l2, l3, l4, .int x] (.int x :: st) (S, I, R, z) Q := RB_iload rfl rfl
set_option maxRecDepth 20000 in
theorem w195_85 : RB d 195 85 [l0, l1, l2, l3, l4, l5] [.int x2, .int x1, .int x0, .ref a] (S, I, R, z) Q = ((S a).1 = 7 ∧ RM d 193 [.ref a, .int x0, .int x1, .int x2] (S, I, R, z) (fun v τ => RB d 195 88 [l0, l1, l2, l3, l4, l5] (aPush v []) τ Q)) := RB_callV (n := 4) (t := 0) (k := 210) (ins := .invokevirtual 210) rfl rfl rfl (by decide) (Nat.le_of_ble_eq_true rfl) (Nat.le_of_ble_eq_true rfl) rfl rfl
theorem w195_88 : RB d 195 88 [l0, l1, l2, .int x, l4, l5] st (S, I, R, z) Q = RB d 195 89 [l0, l1, l2, .int x, l4, l5] (.int x :: st) (S, I, R, z) Q := RB_iloadn rfl rfl
theorem w195_89 : RB d 195 89 [l0, l1, l2, l3, l4, l5] (.int y :: .int x :: st) (S, I, R, z) Q = ((x = y → RB d 195 92 [l0, l1, l2, l3, l4, l5] st (S, I, R, z) Q) ∧ (¬ x = y → RB d 195 97 [l0, l1, l2, l3, l4, l5] st (S, I, R, z) Q)) := RB_ine rfl (by decide) rfl
theorem w195_92 : RB d 195 92 [l0, l1, l2, l3, l4, .int x] st (S, I, R, z) Q = RB d 195 94 [l0, l1, l2, l3, l4, .int x] (.int x :: st) (S, I, R, z) Q := RB_iload rfl rfl
theorem w195_94 : RB d 195 94 [l0, l1, l2, l3, l4, l5] st (S, I, R, z) Q = RB d 195 99 [l0, l1, l2, l3, l4, l5] st (S, I, R, z) Q := RB_goto rfl (by decide) rfl
theorem w195_97 : RB d 195 97 [l0, l1, l2, l3, .int x, l5] st (S, I, R, z) Q = RB d 195 99 [l0, l1, l2, l3, .int x, l5] (.int x :: st) (S, I, R, z) Q := RB_iload rfl rfl
theorem w195_99 : RB d 195 99 [l0, l1, l2, l3, l4, l5] (.int x :: st) (S, I, R, z) Q = RB d 195 101 [l0, l1, l2, l3, .int x, l5] st (S, I, R, z) Q := RB_istore rfl (Nat.le_of_ble_eq_true rfl) rfl
theorem w195_101 : RB d 195 101 [l0, l1, l2, l3, l4, .int x] st (S, I, R, z) Q = RB d 195 104 [l0, l1, l2, l3, l4, .int (x + (-1))] st (S, I, R, z) Q := RB_iinc rfl rfl (Nat.le_of_ble_eq_true rfl) kim1 rfl
theorem w195_104 : RB d 195 104 [l0, l1, l2, l3, l4, l5] st (S, I, R, z) Q = RB d 195 42 [l0, l1, l2, l3, l4, l5] st (S, I, R, z) Q := RB_goto rfl (by decide) rfl
theorem w195_107 : RB d 195 107 [l0, l1, l2, l3, .int x, l5] st (S, I, R, z) Q = RB d 195 109 [l0, l1, l2, l3, .int x, l5] (.int x :: st) (S, I, R, z) Q := RB_iload rfl rfl
theorem w195_109 : RB d 195 109 [l0, l1, l2, l3, l4, l5] [.int x] (S, I, R, z) Q = Q (some (.int x)) (S, I, R, z) := RB_iret rfl rfl rfl
/-! 196: HangedWordModel.sure -/
theorem w196_0 : RB d 196 0 [.ref a, l1, l2, l3] st (S, I, R, z) Q = RB d 196 1 [.ref a, l1, l2, l3] (.ref a :: st) (S, I, R, z) Q := RB_aloadn rfl rfl
set_option maxRecDepth 20000 in
theorem w196_1 : RB d 196 1 [l0, l1, l2, l3] [.ref a] (S, I, R, z) Q = ((S a).1 = 7 ∧ RM d 149 [.ref a] (S, I, R, z) (fun v τ => RB d 196 4 [l0, l1, l2, l3] (aPush v []) τ Q)) := RB_callV (n := 1) (t := 0) (k := 103) (ins := .invokevirtual 103) rfl rfl rfl (by decide) (Nat.le_of_ble_eq_true rfl) (Nat.le_of_ble_eq_true rfl) rfl rfl
theorem w196_4 : RB d 196 4 [l0, l1, l2, l3] (.int x :: st) (S, I, R, z) Q = RB d 196 5 [l0, .int x, l2, l3] st (S, I, R, z) Q := RB_istoren rfl (Nat.le_of_ble_eq_true rfl) rfl
theorem w196_5 : RB d 196 5 [l0, .int x, l2, l3] st (S, I, R, z) Q = RB d 196 6 [l0, .int x, l2, l3] (.int x :: st) (S, I, R, z) Q := RB_iloadn rfl rfl
theorem w196_6 : RB d 196 6 [l0, l1, l2, l3] (.int x :: st) (S, I, R, z) Q = ((x = 0 → RB d 196 9 [l0, l1, l2, l3] st (S, I, R, z) Q) ∧ (¬ x = 0 → RB d 196 13 [l0, l1, l2, l3] st (S, I, R, z) Q)) := RB_ne0 rfl (by decide) rfl
theorem w196_9 : RB d 196 9 [l0, l1, l2, l3] st (S, I, R, z) Q = RB d 196 10 [l0, l1, l2, l3] (.int 0 :: st) (S, I, R, z) Q := RB_iconst rfl ki0
theorem w196_10 : RB d 196 10 [l0, l1, l2, l3] st (S, I, R, z) Q = RB d 196 24 [l0, l1, l2, l3] st (S, I, R, z) Q := RB_goto rfl (by decide) rfl
theorem w196_13 : RB d 196 13 [l0, l1, l2, l3] st (S, I, R, z) Q = RB d 196 15 [l0, l1, l2, l3] (.int 63 :: st) (S, I, R, z) Q := RB_bipush rfl kb63
theorem w196_15 : RB d 196 15 [.ref a, l1, l2, l3] st (S, I, R, z) Q = RB d 196 16 [.ref a, l1, l2, l3] (.ref a :: st) (S, I, R, z) Q := RB_aloadn rfl rfl
theorem w196_16 : RB d 196 16 [l0, l1, l2, l3] (.ref a :: st) (S, I, R, z) Q = ((S a).1 = 7 ∧ RB d 196 19 [l0, l1, l2, l3] (va_rf (R a 0) :: st) (S, I, R, z) Q) := RB_getR rfl rfl
theorem w196_19 : RB d 196 19 [l0, l1, l2, l3] st (S, I, R, z) Q = RB d 196 20 [l0, l1, l2, l3] (.int 4 :: st) (S, I, R, z) Q := RB_iconst rfl ki4
theorem w196_20 : RB d 196 20 [l0, l1, l2, l3] (.int i :: .ref a :: st) (S, I, R, z) Q = (((S a).1 = 9 ∧ aIx i (S a).2) ∧ RB d 196 21 [l0, l1, l2, l3] (.int (I a i.toNatClampNeg) :: st) (S, I, R, z) Q) := RB_iald rfl
theorem w196_21 : RB d 196 21 [l0, l1, l2, l3] st (S, I, R, z) Q = RB d 196 22 [l0, l1, l2, l3] (.int (-1) :: st) (S, I, R, z) Q := RB_iconst rfl kim1
theorem w196_22 : RB d 196 22 [l0, l1, l2, l3] (.int y :: .int x :: st) (S, I, R, z) Q = RB d 196 23 [l0, l1, l2, l3] (.int (x ^^^ y) :: st) (S, I, R, z) Q := RB_ixor rfl
theorem w196_23 : RB d 196 23 [l0, l1, l2, l3] (.int y :: .int x :: st) (S, I, R, z) Q = RB d 196 24 [l0, l1, l2, l3] (.int (x &&& y) :: st) (S, I, R, z) Q := RB_iand rfl
theorem w196_24 : RB d 196 24 [l0, l1, l2, l3] (.int x :: st) (S, I, R, z) Q = RB d 196 25 [l0, l1, .int x, l3] st (S, I, R, z) Q := RB_istoren rfl (Nat.le_of_ble_eq_true rfl) rfl
theorem w196_25 : RB d 196 25 [l0, l1, l2, l3] st (S, I, R, z) Q = RB d 196 26 [l0, l1, l2, l3] (.int 0 :: st) (S, I, R, z) Q := RB_iconst rfl ki0
theorem w196_26 : RB d 196 26 [l0, l1, l2, l3] (.int x :: st) (S, I, R, z) Q = RB d 196 27 [l0, l1, l2, .int x] st (S, I, R, z) Q := RB_istoren rfl (Nat.le_of_ble_eq_true rfl) rfl
theorem w196_27 : RB d 196 27 [l0, l1, l2, .int x] st (S, I, R, z) Q = RB d 196 28 [l0, l1, l2, .int x] (.int x :: st) (S, I, R, z) Q := RB_iloadn rfl rfl
theorem w196_28 : RB d 196 28 [.ref a, l1, l2, l3] st (S, I, R, z) Q = RB d 196 29 [.ref a, l1, l2, l3] (.ref a :: st) (S, I, R, z) Q := RB_aloadn rfl rfl
theorem w196_29 : RB d 196 29 [l0, l1, l2, l3] (.ref a :: st) (S, I, R, z) Q = ((S a).1 = 7 ∧ RB d 196 32 [l0, l1, l2, l3] (va_rf (R a 0) :: st) (S, I, R, z) Q) := RB_getR rfl rfl
theorem w196_32 : RB d 196 32 [l0, l1, l2, l3] st (S, I, R, z) Q = RB d 196 33 [l0, l1, l2, l3] (.int 1 :: st) (S, I, R, z) Q := RB_iconst rfl ki1
theorem w196_33 : RB d 196 33 [l0, l1, l2, l3] (.int i :: .ref a :: st) (S, I, R, z) Q = (((S a).1 = 9 ∧ aIx i (S a).2) ∧ RB d 196 34 [l0, l1, l2, l3] (.int (I a i.toNatClampNeg) :: st) (S, I, R, z) Q) := RB_iald rfl
theorem w196_34 : RB d 196 34 [l0, l1, l2, l3] (.int y :: .int x :: st) (S, I, R, z) Q = ((y ≤ x → RB d 196 65 [l0, l1, l2, l3] st (S, I, R, z) Q) ∧ (¬ y ≤ x → RB d 196 37 [l0, l1, l2, l3] st (S, I, R, z) Q)) := RB_ige rfl (by decide) rfl
theorem w196_37 : RB d 196 37 [l0, l1, .int x, l3] st (S, I, R, z) Q = RB d 196 38 [l0, l1, .int x, l3] (.int x :: st) (S, I, R, z) Q := RB_iloadn rfl rfl
theorem w196_38 : RB d 196 38 [l0, .int x, l2, l3] st (S, I, R, z) Q = RB d 196 39 [l0, .int x, l2, l3] (.int x :: st) (S, I, R, z) Q := RB_iloadn rfl rfl
theorem w196_39 : RB d 196 39 [l0, l1, l2, .int x] st (S, I, R, z) Q = RB d 196 40 [l0, l1, l2, .int x] (.int x :: st) (S, I, R, z) Q := RB_iloadn rfl rfl
theorem w196_40 : RB d 196 40 [l0, l1, l2, l3] (.int y :: .int x :: st) (S, I, R, z) Q = RB d 196 41 [l0, l1, l2, l3] (.int (x >>> (y &&& 31)) :: st) (S, I, R, z) Q := RB_ishr rfl
theorem w196_41 : RB d 196 41 [l0, l1, l2, l3] st (S, I, R, z) Q = RB d 196 42 [l0, l1, l2, l3] (.int 1 :: st) (S, I, R, z) Q := RB_iconst rfl ki1
theorem w196_42 : RB d 196 42 [l0, l1, l2, l3] (.int y :: .int x :: st) (S, I, R, z) Q = RB d 196 43 [l0, l1, l2, l3] (.int (x &&& y) :: st) (S, I, R, z) Q := RB_iand rfl
theorem w196_43 : RB d 196 43 [l0, l1, l2, l3] st (S, I, R, z) Q = RB d 196 44 [l0, l1, l2, l3] (.int 1 :: st) (S, I, R, z) Q := RB_iconst rfl ki1
theorem w196_44 : RB d 196 44 [l0, l1, l2, l3] (.int y :: .int x :: st) (S, I, R, z) Q = ((x = y → RB d 196 47 [l0, l1, l2, l3] st (S, I, R, z) Q) ∧ (¬ x = y → RB d 196 55 [l0, l1, l2, l3] st (S, I, R, z) Q)) := RB_ine rfl (by decide) rfl
theorem w196_47 : RB d 196 47 [.ref a, l1, l2, l3] st (S, I, R, z) Q = RB d 196 48 [.ref a, l1, l2, l3] (.ref a :: st) (S, I, R, z) Q := RB_aloadn rfl rfl
theorem w196_48 : RB d 196 48 [l0, l1, l2, .int x] st (S, I, R, z) Q = RB d 196 49 [l0, l1, l2, .int x] (.int x :: st) (S, I, R, z) Q := RB_iloadn rfl rfl
set_option maxRecDepth 20000 in
theorem w196_49 : RB d 196 49 [l0, l1, l2, l3] [.int x0, .ref a, s0] (S, I, R, z) Q = ((S a).1 = 7 ∧ RM d 147 [.ref a, .int x0] (S, I, R, z) (fun v τ => RB d 196 52 [l0, l1, l2, l3] (aPush v [s0]) τ Q)) := RB_callV (n := 2) (t := 0) (k := 99) (ins := .invokevirtual 99) rfl rfl rfl (by decide) (Nat.le_of_ble_eq_true rfl) (Nat.le_of_ble_eq_true rfl) rfl rfl
theorem w196_52 : RB d 196 52 [l0, l1, l2, l3] st (S, I, R, z) Q = RB d 196 57 [l0, l1, l2, l3] st (S, I, R, z) Q := RB_goto rfl (by decide) rfl
theorem w196_55 : RB d 196 55 [l0, l1, l2, l3] st (S, I, R, z) Q = RB d 196 57 [l0, l1, l2, l3] (.int 63 :: st) (S, I, R, z) Q := RB_bipush rfl kb63
theorem w196_57 : RB d 196 57 [l0, l1, l2, l3] (.int y :: .int x :: st) (S, I, R, z) Q = RB d 196 58 [l0, l1, l2, l3] (.int (x &&& y) :: st) (S, I, R, z) Q := RB_iand rfl
theorem w196_58 : RB d 196 58 [l0, l1, l2, l3] (.int x :: st) (S, I, R, z) Q = RB d 196 59 [l0, l1, .int x, l3] st (S, I, R, z) Q := RB_istoren rfl (Nat.le_of_ble_eq_true rfl) rfl
theorem w196_59 : RB d 196 59 [l0, l1, l2, .int x] st (S, I, R, z) Q = RB d 196 62 [l0, l1, l2, .int (x + 1)] st (S, I, R, z) Q := RB_iinc rfl rfl (Nat.le_of_ble_eq_true rfl) ki1 rfl
theorem w196_62 : RB d 196 62 [l0, l1, l2, l3] st (S, I, R, z) Q = RB d 196 27 [l0, l1, l2, l3] st (S, I, R, z) Q := RB_goto rfl (by decide) rfl
theorem w196_65 : RB d 196 65 [l0, l1, .int x, l3] st (S, I, R, z) Q = RB d 196 66 [l0, l1, .int x, l3] (.int x :: st) (S, I, R, z) Q := RB_iloadn rfl rfl
theorem w196_66 : RB d 196 66 [l0, l1, l2, l3] [.int x] (S, I, R, z) Q = Q (some (.int x)) (S, I, R, z) := RB_iret rfl rfl rfl
/-! 197: HangedWordModel.thinks -/
theorem w197_0 : RB d 197 0 [l0, l1] st (S, I, R, z) Q = RB d 197 1 [l0, l1] (.int 0 :: st) (S, I, R, z) Q := RB_iconst rfl ki0
theorem w197_1 : RB d 197 1 [l0, l1] (.int x :: st) (S, I, R, z) Q = RB d 197 2 [l0, .int x] st (S, I, R, z) Q := RB_istoren rfl (Nat.le_of_ble_eq_true rfl) rfl
theorem w197_2 : RB d 197 2 [l0, .int x] st (S, I, R, z) Q = RB d 197 3 [l0, .int x] (.int x :: st) (S, I, R, z) Q := RB_iloadn rfl rfl
theorem w197_3 : RB d 197 3 [l0, l1] st (S, I, R, z) Q = RB d 197 5 [l0, l1] (.int 48 :: st) (S, I, R, z) Q := RB_bipush rfl kb48
theorem w197_5 : RB d 197 5 [l0, l1] (.int y :: .int x :: st) (S, I, R, z) Q = ((y ≤ x → RB d 197 26 [l0, l1] st (S, I, R, z) Q) ∧ (¬ y ≤ x → RB d 197 8 [l0, l1] st (S, I, R, z) Q)) := RB_ige rfl (by decide) rfl
theorem w197_8 : RB d 197 8 [.ref a, l1] st (S, I, R, z) Q = RB d 197 9 [.ref a, l1] (.ref a :: st) (S, I, R, z) Q := RB_aloadn rfl rfl
theorem w197_9 : RB d 197 9 [l0, l1] (.ref a :: st) (S, I, R, z) Q = ((S a).1 = 7 ∧ RB d 197 12 [l0, l1] (va_rf (R a 4) :: st) (S, I, R, z) Q) := RB_getR rfl rfl
theorem w197_12 : RB d 197 12 [l0, .int x] st (S, I, R, z) Q = RB d 197 13 [l0, .int x] (.int x :: st) (S, I, R, z) Q := RB_iloadn rfl rfl
theorem w197_13 : RB d 197 13 [.ref a, l1] st (S, I, R, z) Q = RB d 197 14 [.ref a, l1] (.ref a :: st) (S, I, R, z) Q := RB_aloadn rfl rfl
theorem w197_14 : RB d 197 14 [l0, l1] (.ref a :: st) (S, I, R, z) Q = ((S a).1 = 7 ∧ RB d 197 17 [l0, l1] (va_rf (R a 0) :: st) (S, I, R, z) Q) := RB_getR rfl rfl
theorem w197_17 : RB d 197 17 [l0, .int x] st (S, I, R, z) Q = RB d 197 18 [l0, .int x] (.int x :: st) (S, I, R, z) Q := RB_iloadn rfl rfl
theorem w197_18 : RB d 197 18 [l0, l1] (.int i :: .ref a :: st) (S, I, R, z) Q = (((S a).1 = 9 ∧ aIx i (S a).2) ∧ RB d 197 19 [l0, l1] (.int (I a i.toNatClampNeg) :: st) (S, I, R, z) Q) := RB_iald rfl
theorem w197_19 : RB d 197 19 [l0, l1] (.int x :: .int i :: .ref a :: st) (S, I, R, z) Q = (((S a).1 = 9 ∧ aIx i (S a).2 ∧ 16 ≤ a) ∧ RB d 197 20 [l0, l1] st (S, aW I a i.toNatClampNeg x, R, z) Q) := RB_iast rfl
theorem w197_20 : RB d 197 20 [l0, .int x] st (S, I, R, z) Q = RB d 197 23 [l0, .int (x + 1)] st (S, I, R, z) Q := RB_iinc rfl rfl (Nat.le_of_ble_eq_true rfl) ki1 rfl
theorem w197_23 : RB d 197 23 [l0, l1] st (S, I, R, z) Q = RB d 197 2 [l0, l1] st (S, I, R, z) Q := RB_goto rfl (by decide) rfl
theorem w197_26 : RB d 197 26 [l0, l1] [] (S, I, R, z) Q = Q none (S, I, R, z) := RB_ret rfl rfl
/-! 198: HangedWordModel.putsBack -/
theorem w198_0 : RB d 198 0 [l0, l1] st (S, I, R, z) Q = RB d 198 1 [l0, l1] (.int 0 :: st) (S, I, R, z) Q := RB_iconst rfl ki0
theorem w198_1 : RB d 198 1 [l0, l1] (.int x :: st) (S, I, R, z) Q = RB d 198 2 [l0, .int x] st (S, I, R, z) Q := RB_istoren rfl (Nat.le_of_ble_eq_true rfl) rfl
theorem w198_2 : RB d 198 2 [l0, .int x] st (S, I, R, z) Q = RB d 198 3 [l0, .int x] (.int x :: st) (S, I, R, z) Q := RB_iloadn rfl rfl
theorem w198_3 : RB d 198 3 [l0, l1] st (S, I, R, z) Q = RB d 198 5 [l0, l1] (.int 48 :: st) (S, I, R, z) Q := RB_bipush rfl kb48
theorem w198_5 : RB d 198 5 [l0, l1] (.int y :: .int x :: st) (S, I, R, z) Q = ((y ≤ x → RB d 198 26 [l0, l1] st (S, I, R, z) Q) ∧ (¬ y ≤ x → RB d 198 8 [l0, l1] st (S, I, R, z) Q)) := RB_ige rfl (by decide) rfl
theorem w198_8 : RB d 198 8 [.ref a, l1] st (S, I, R, z) Q = RB d 198 9 [.ref a, l1] (.ref a :: st) (S, I, R, z) Q := RB_aloadn rfl rfl
theorem w198_9 : RB d 198 9 [l0, l1] (.ref a :: st) (S, I, R, z) Q = ((S a).1 = 7 ∧ RB d 198 12 [l0, l1] (va_rf (R a 0) :: st) (S, I, R, z) Q) := RB_getR rfl rfl
theorem w198_12 : RB d 198 12 [l0, .int x] st (S, I, R, z) Q = RB d 198 13 [l0, .int x] (.int x :: st) (S, I, R, z) Q := RB_iloadn rfl rfl
theorem w198_13 : RB d 198 13 [.ref a, l1] st (S, I, R, z) Q = RB d 198 14 [.ref a, l1] (.ref a :: st) (S, I, R, z) Q := RB_aloadn rfl rfl
theorem w198_14 : RB d 198 14 [l0, l1] (.ref a :: st) (S, I, R, z) Q = ((S a).1 = 7 ∧ RB d 198 17 [l0, l1] (va_rf (R a 4) :: st) (S, I, R, z) Q) := RB_getR rfl rfl
theorem w198_17 : RB d 198 17 [l0, .int x] st (S, I, R, z) Q = RB d 198 18 [l0, .int x] (.int x :: st) (S, I, R, z) Q := RB_iloadn rfl rfl
theorem w198_18 : RB d 198 18 [l0, l1] (.int i :: .ref a :: st) (S, I, R, z) Q = (((S a).1 = 9 ∧ aIx i (S a).2) ∧ RB d 198 19 [l0, l1] (.int (I a i.toNatClampNeg) :: st) (S, I, R, z) Q) := RB_iald rfl
theorem w198_19 : RB d 198 19 [l0, l1] (.int x :: .int i :: .ref a :: st) (S, I, R, z) Q = (((S a).1 = 9 ∧ aIx i (S a).2 ∧ 16 ≤ a) ∧ RB d 198 20 [l0, l1] st (S, aW I a i.toNatClampNeg x, R, z) Q) := RB_iast rfl
theorem w198_20 : RB d 198 20 [l0, .int x] st (S, I, R, z) Q = RB d 198 23 [l0, .int (x + 1)] st (S, I, R, z) Q := RB_iinc rfl rfl (Nat.le_of_ble_eq_true rfl) ki1 rfl
theorem w198_23 : RB d 198 23 [l0, l1] st (S, I, R, z) Q = RB d 198 2 [l0, l1] st (S, I, R, z) Q := RB_goto rfl (by decide) rfl
theorem w198_26 : RB d 198 26 [l0, l1] [] (S, I, R, z) Q = Q none (S, I, R, z) := RB_ret rfl rfl
/-! 199: HangedWordModel.behind -/
theorem w199_0 : RB d 199 0 [.ref a, l1, l2, l3, l4, l5, l6] st (S, I, R, z) Q = RB d 199 1 [.ref a, l1, l2, l3, l4, l5, l6] (.ref a :: st) (S, I, R, z) Q := RB_aloadn rfl rfl
theorem w199_1 : RB d 199 1 [l0, .int x, l2, l3, l4, l5, l6] st (S, I, R, z) Q = RB d 199 2 [l0, .int x, l2, l3, l4, l5, l6] (.int x :: st) (S, I, R, z) Q := RB_iloadn rfl rfl
set_option maxRecDepth 20000 in
theorem w199_2 : RB d 199 2 [l0, l1, l2, l3, l4, l5, l6] [.int x0, .ref a] (S, I, R, z) Q = ((S a).1 = 7 ∧ RM d 140 [.ref a, .int x0] (S, I, R, z) (fun v τ => RB d 199 5 [l0, l1, l2, l3, l4, l5, l6] (aPush v []) τ Q)) := RB_callV (n := 2) (t := 0) (k := 156) (ins := .invokevirtual 156) rfl rfl rfl (by decide) (Nat.le_of_ble_eq_true rfl) (Nat.le_of_ble_eq_true rfl) rfl rfl
theorem w199_5 : RB d 199 5 [l0, l1, l2, l3, l4, l5, l6] (.int x :: st) (S, I, R, z) Q = ((x = 0 → RB d 199 27 [l0, l1, l2, l3, l4, l5, l6] st (S, I, R, z) Q) ∧ (¬ x = 0 → RB d 199 8 [l0, l1, l2, l3, l4, l5, l6] st (S, I, R, z) Q)) := RB_eq0 rfl (by decide) rfl
theorem w199_8 : RB d 199 8 [l0, l1, .int x, l3, l4, l5, l6] st (S, I, R, z) Q = RB d 199 9 [l0, l1, .int x, l3, l4, l5, l6] (.int x :: st) (S, I, R, z) Q := RB_iloadn rfl rfl
theorem w199_9 : RB d 199 9 [l0, l1, l2, l3, l4, l5, l6] st (S, I, R, z) Q = RB d 199 10 [l0, l1, l2, l3, l4, l5, l6] (.int 1 :: st) (S, I, R, z) Q := RB_iconst rfl ki1
theorem w199_10 : RB d 199 10 [l0, l1, l2, l3, l4, l5, l6] st (S, I, R, z) Q = RB d 199 12 [l0, l1, l2, l3, l4, l5, l6] (.int 30 :: st) (S, I, R, z) Q := RB_bipush rfl kb30
set_option maxRecDepth 20000 in
theorem w199_12 : RB d 199 12 [l0, l1, l2, l3, l4, l5, l6] [.int x2, .int x1, .int x0] (S, I, R, z) Q = RM d 135 [.int x0, .int x1, .int x2] (S, I, R, z) (fun v τ => RB d 199 15 [l0, l1, l2, l3, l4, l5, l6] (aPush v []) τ Q) := RB_callS (n := 3) (t := 1) (k := 76) (ins := .invokestatic 76) rfl rfl rfl (Nat.le_of_ble_eq_true rfl) (Nat.le_of_ble_eq_true rfl) rfl rfl
theorem w199_15 : RB d 199 15 [l0, l1, l2, l3, l4, l5, l6] (.int x :: st) (S, I, R, z) Q = ((x = 0 → RB d 199 27 [l0, l1, l2, l3, l4, l5, l6] st (S, I, R, z) Q) ∧ (¬ x = 0 → RB d 199 18 [l0, l1, l2, l3, l4, l5, l6] st (S, I, R, z) Q)) := RB_eq0 rfl (by decide) rfl
theorem w199_18 : RB d 199 18 [l0, l1, l2, .int x, l4, l5, l6] st (S, I, R, z) Q = RB d 199 19 [l0, l1, l2, .int x, l4, l5, l6] (.int x :: st) (S, I, R, z) Q := RB_iloadn rfl rfl
theorem w199_19 : RB d 199 19 [l0, l1, l2, l3, l4, l5, l6] st (S, I, R, z) Q = RB d 199 20 [l0, l1, l2, l3, l4, l5, l6] (.int 0 :: st) (S, I, R, z) Q := RB_iconst rfl ki0
theorem w199_20 : RB d 199 20 [l0, l1, l2, l3, l4, l5, l6] st (S, I, R, z) Q = RB d 199 21 [l0, l1, l2, l3, l4, l5, l6] (.int 1 :: st) (S, I, R, z) Q := RB_iconst rfl ki1
set_option maxRecDepth 20000 in
theorem w199_21 : RB d 199 21 [l0, l1, l2, l3, l4, l5, l6] [.int x2, .int x1, .int x0] (S, I, R, z) Q = RM d 135 [.int x0, .int x1, .int x2] (S, I, R, z) (fun v τ => RB d 199 24 [l0, l1, l2, l3, l4, l5, l6] (aPush v []) τ Q) := RB_callS (n := 3) (t := 1) (k := 76) (ins := .invokestatic 76) rfl rfl rfl (Nat.le_of_ble_eq_true rfl) (Nat.le_of_ble_eq_true rfl) rfl rfl
theorem w199_24 : RB d 199 24 [l0, l1, l2, l3, l4, l5, l6] (.int x :: st) (S, I, R, z) Q = ((x = 0 → RB d 199 27 [l0, l1, l2, l3, l4, l5, l6] st (S, I, R, z) Q) ∧ (¬ x = 0 → RB d 199 30 [l0, l1, l2, l3, l4, l5, l6] st (S, I, R, z) Q)) := RB_ne0 rfl (by decide) rfl
theorem w199_27 : RB d 199 27 [l0, l1, l2, l3, l4, l5, l6] st (S, I, R, z) Q = RB d 199 29 [l0, l1, l2, l3, l4, l5, l6] (.int (-1000000001) :: st) (S, I, R, z) Q := RB_ldc rfl rfl
theorem w199_29 : RB d 199 29 [l0, l1, l2, l3, l4, l5, l6] [.int x] (S, I, R, z) Q = Q (some (.int x)) (S, I, R, z) := RB_iret rfl rfl rfl
theorem w199_30 : RB d 199 30 [.ref a, l1, l2, l3, l4, l5, l6] st (S, I, R, z) Q = RB d 199 31 [.ref a, l1, l2, l3, l4, l5, l6] (.ref a :: st) (S, I, R, z) Q := RB_aloadn rfl rfl
set_option maxRecDepth 20000 in
theorem w199_31 : RB d 199 31 [l0, l1, l2, l3, l4, l5, l6] [.ref a] (S, I, R, z) Q = ((S a).1 = 7 ∧ RM d 197 [.ref a] (S, I, R, z) (fun v τ => RB d 199 34 [l0, l1, l2, l3, l4, l5, l6] (aPush v []) τ Q)) := RB_callV (n := 1) (t := 0) (k := 213) (ins := .invokevirtual 213) rfl rfl rfl (by decide) (Nat.le_of_ble_eq_true rfl) (Nat.le_of_ble_eq_true rfl) rfl rfl
theorem w199_34 : RB d 199 34 [l0, l1, l2, l3, l4, l5, l6] st (S, I, R, z) Q = RB d 199 35 [l0, l1, l2, l3, l4, l5, l6] (.int 0 :: st) (S, I, R, z) Q := RB_iconst rfl ki0
theorem w199_35 : RB d 199 35 [l0, l1, l2, l3, l4, l5, l6] (.int x :: st) (S, I, R, z) Q = RB d 199 37 [l0, l1, l2, l3, .int x, l5, l6] st (S, I, R, z) Q := RB_istore rfl (Nat.le_of_ble_eq_true rfl) rfl
theorem w199_37 : RB d 199 37 [l0, l1, l2, l3, l4, l5, l6] st (S, I, R, z) Q = RB d 199 38 [l0, l1, l2, l3, l4, l5, l6] (.int 0 :: st) (S, I, R, z) Q := RB_iconst rfl ki0
theorem w199_38 : RB d 199 38 [l0, l1, l2, l3, l4, l5, l6] (.int x :: st) (S, I, R, z) Q = RB d 199 40 [l0, l1, l2, l3, l4, .int x, l6] st (S, I, R, z) Q := RB_istore rfl (Nat.le_of_ble_eq_true rfl) rfl
theorem w199_40 : RB d 199 40 [l0, l1, l2, l3, l4, l5, l6] st (S, I, R, z) Q = RB d 199 41 [l0, l1, l2, l3, l4, l5, l6] (.int 0 :: st) (S, I, R, z) Q := RB_iconst rfl ki0
theorem w199_41 : RB d 199 41 [l0, l1, l2, l3, l4, l5, l6] (.int x :: st) (S, I, R, z) Q = RB d 199 43 [l0, l1, l2, l3, l4, l5, .int x] st (S, I, R, z) Q := RB_istore rfl (Nat.le_of_ble_eq_true rfl) rfl
theorem w199_43 : RB d 199 43 [l0, l1, l2, l3, l4, l5, .int x] st (S, I, R, z) Q = RB d 199 45 [l0, l1, l2, l3, l4, l5, .int x] (.int x :: st) (S, I, R, z) Q := RB_iload rfl rfl
theorem w199_45 : RB d 199 45 [l0, l1, .int x, l3, l4, l5, l6] st (S, I, R, z) Q = RB d 199 46 [l0, l1, .int x, l3, l4, l5, l6] (.int x :: st) (S, I, R, z) Q := RB_iloadn rfl rfl
theorem w199_46 : RB d 199 46 [l0, l1, l2, l3, l4, l5, l6] (.int y :: .int x :: st) (S, I, R, z) Q = ((y ≤ x → RB d 199 92 [l0, l1, l2, l3, l4, l5, l6] st (S, I, R, z) Q) ∧ (¬ y ≤ x → RB d 199 49 [l0, l1, l2, l3, l4, l5, l6] st (S, I, R, z) Q)) := RB_ige rfl (by decide) rfl
theorem w199_49 : RB d 199 49 [.ref a, l1, l2, l3, l4, l5, l6] st (S, I, R, z) Q = RB d 199 50 [.ref a, l1, l2, l3, l4, l5, l6] (.ref a :: st) (S, I, R, z) Q := RB_aloadn rfl rfl
set_option maxRecDepth 20000 in
theorem w199_50 : RB d 199 50 [l0, l1, l2, l3, l4, l5, l6] [.ref a] (S, I, R, z) Q = ((S a).1 = 7 ∧ RM d 183 [.ref a] (S, I, R, z) (fun v τ => RB d 199 53 [l0, l1, l2, l3, l4, l5, l6] (aPush v []) τ Q)) := RB_callV (n := 1) (t := 0) (k := 198) (ins := .invokevirtual 198) rfl rfl rfl (by decide) (Nat.le_of_ble_eq_true rfl) (Nat.le_of_ble_eq_true rfl) rfl rfl
theorem w199_53 : RB d 199 53 [.ref a, l1, l2, l3, l4, l5, l6] st (S, I, R, z) Q = RB d 199 54 [.ref a, l1, l2, l3, l4, l5, l6] (.ref a :: st) (S, I, R, z) Q := RB_aloadn rfl rfl
theorem w199_54 : RB d 199 54 [l0, .int x, l2, l3, l4, l5, l6] st (S, I, R, z) Q = RB d 199 55 [l0, .int x, l2, l3, l4, l5, l6] (.int x :: st) (S, I, R, z) Q := RB_iloadn rfl rfl
set_option maxRecDepth 20000 in
theorem w199_55 : RB d 199 55 [l0, l1, l2, l3, l4, l5, l6] [.int x0, .ref a] (S, I, R, z) Q = ((S a).1 = 7 ∧ RM d 180 [.ref a, .int x0] (S, I, R, z) (fun v τ => RB d 199 58 [l0, l1, l2, l3, l4, l5, l6] (aPush v []) τ Q)) := RB_callV (n := 2) (t := 0) (k := 192) (ins := .invokevirtual 192) rfl rfl rfl (by decide) (Nat.le_of_ble_eq_true rfl) (Nat.le_of_ble_eq_true rfl) rfl rfl
theorem w199_58 : RB d 199 58 [l0, l1, l2, l3, .int x, l5, l6] st (S, I, R, z) Q = RB d 199 60 [l0, l1, l2, l3, .int x, l5, l6] (.int x :: st) (S, I, R, z) Q := RB_iload rfl rfl
theorem w199_60 : RB d 199 60 [.ref a, l1, l2, l3, l4, l5, l6] st (S, I, R, z) Q = RB d 199 61 [.ref a, l1, l2, l3, l4, l5, l6] (.ref a :: st) (S, I, R, z) Q := RB_aloadn rfl rfl
set_option maxRecDepth 20000 in
theorem w199_61 : RB d 199 61 [l0, l1, l2, l3, l4, l5, l6] [.ref a, s0] (S, I, R, z) Q = ((S a).1 = 7 ∧ RM d 177 [.ref a] (S, I, R, z) (fun v τ => RB d 199 64 [l0, l1, l2, l3, l4, l5, l6] (aPush v [s0]) τ Q)) := RB_callV (n := 1) (t := 0) (k := 185) (ins := .invokevirtual 185) rfl rfl rfl (by decide) (Nat.le_of_ble_eq_true rfl) (Nat.le_of_ble_eq_true rfl) rfl rfl
theorem w199_64 : RB d 199 64 [l0, l1, l2, l3, l4, l5, l6] (.int x :: st) (S, I, R, z) Q = ((x = 0 → RB d 199 71 [l0, l1, l2, l3, l4, l5, l6] st (S, I, R, z) Q) ∧ (¬ x = 0 → RB d 199 67 [l0, l1, l2, l3, l4, l5, l6] st (S, I, R, z) Q)) := RB_eq0 rfl (by decide) rfl
theorem w199_67 : RB d 199 67 [l0, l1, l2, l3, l4, l5, l6] st (S, I, R, z) Q = RB d 199 68 [l0, l1, l2, l3, l4, l5, l6] (.int 1 :: st) (S, I, R, z) Q := RB_iconst rfl ki1
theorem w199_68 : RB d 199 68 [l0, l1, l2, l3, l4, l5, l6] st (S, I, R, z) Q = RB d 199 72 [l0, l1, l2, l3, l4, l5, l6] st (S, I, R, z) Q := RB_goto rfl (by decide) rfl
theorem w199_71 : RB d 199 71 [l0, l1, l2, l3, l4, l5, l6] st (S, I, R, z) Q = RB d 199 72 [l0, l1, l2, l3, l4, l5, l6] (.int 0 :: st) (S, I, R, z) Q := RB_iconst rfl ki0
theorem w199_72 : RB d 199 72 [l0, l1, l2, l3, l4, l5, l6] (.int y :: .int x :: st) (S, I, R, z) Q = RB d 199 73 [l0, l1, l2, l3, l4, l5, l6] (.int (x + y) :: st) (S, I, R, z) Q := RB_iadd rfl
theorem w199_73 : RB d 199 73 [l0, l1, l2, l3, l4, l5, l6] (.int x :: st) (S, I, R, z) Q = RB d 199 75 [l0, l1, l2, l3, .int x, l5, l6] st (S, I, R, z) Q := RB_istore rfl (Nat.le_of_ble_eq_true rfl) rfl
theorem w199_75 : RB d 199 75 [l0, l1, l2, l3, l4, .int x, l6] st (S, I, R, z) Q = RB d 199 77 [l0, l1, l2, l3, l4, .int x, l6] (.int x :: st) (S, I, R, z) Q := RB_iload rfl rfl
theorem w199_77 : RB d 199 77 [.ref a, l1, l2, l3, l4, l5, l6] st (S, I, R, z) Q = RB d 199 78 [.ref a, l1, l2, l3, l4, l5, l6] (.ref a :: st) (S, I, R, z) Q := RB_aloadn rfl rfl
theorem w199_78 : RB d 199 78 [l0, l1, l2, l3, l4, l5, l6] (.ref a :: st) (S, I, R, z) Q = ((S a).1 = 7 ∧ RB d 199 81 [l0, l1, l2, l3, l4, l5, l6] (va_rf (R a 0) :: st) (S, I, R, z) Q) := RB_getR rfl rfl
theorem w199_81 : RB d 199 81 [l0, l1, l2, l3, l4, l5, l6] st (S, I, R, z) Q = RB d 199 82 [l0, l1, l2, l3, l4, l5, l6] (.int 5 :: st) (S, I, R, z) Q := RB_iconst rfl ki5
theorem w199_82 : RB d 199 82 [l0, l1, l2, l3, l4, l5, l6] (.int i :: .ref a :: st) (S, I, R, z) Q = (((S a).1 = 9 ∧ aIx i (S a).2) ∧ RB d 199 83 [l0, l1, l2, l3, l4, l5, l6] (.int (I a i.toNatClampNeg) :: st) (S, I, R, z) Q) := RB_iald rfl
theorem w199_83 : RB d 199 83 [l0, l1, l2, l3, l4, l5, l6] (.int y :: .int x :: st) (S, I, R, z) Q = RB d 199 84 [l0, l1, l2, l3, l4, l5, l6] (.int (x + y) :: st) (S, I, R, z) Q := RB_iadd rfl
theorem w199_84 : RB d 199 84 [l0, l1, l2, l3, l4, l5, l6] (.int x :: st) (S, I, R, z) Q = RB d 199 86 [l0, l1, l2, l3, l4, .int x, l6] st (S, I, R, z) Q := RB_istore rfl (Nat.le_of_ble_eq_true rfl) rfl
theorem w199_86 : RB d 199 86 [l0, l1, l2, l3, l4, l5, .int x] st (S, I, R, z) Q = RB d 199 89 [l0, l1, l2, l3, l4, l5, .int (x + 1)] st (S, I, R, z) Q := RB_iinc rfl rfl (Nat.le_of_ble_eq_true rfl) ki1 rfl
theorem w199_89 : RB d 199 89 [l0, l1, l2, l3, l4, l5, l6] st (S, I, R, z) Q = RB d 199 43 [l0, l1, l2, l3, l4, l5, l6] st (S, I, R, z) Q := RB_goto rfl (by decide) rfl
theorem w199_92 : RB d 199 92 [.ref a, l1, l2, l3, l4, l5, l6] st (S, I, R, z) Q = RB d 199 93 [.ref a, l1, l2, l3, l4, l5, l6] (.ref a :: st) (S, I, R, z) Q := RB_aloadn rfl rfl
set_option maxRecDepth 20000 in
theorem w199_93 : RB d 199 93 [l0, l1, l2, l3, l4, l5, l6] [.ref a] (S, I, R, z) Q = ((S a).1 = 7 ∧ RM d 198 [.ref a] (S, I, R, z) (fun v τ => RB d 199 96 [l0, l1, l2, l3, l4, l5, l6] (aPush v []) τ Q)) := RB_callV (n := 1) (t := 0) (k := 216) (ins := .invokevirtual 216) rfl rfl rfl (by decide) (Nat.le_of_ble_eq_true rfl) (Nat.le_of_ble_eq_true rfl) rfl rfl
theorem w199_96 : RB d 199 96 [l0, l1, l2, .int x, l4, l5, l6] st (S, I, R, z) Q = RB d 199 97 [l0, l1, l2, .int x, l4, l5, l6] (.int x :: st) (S, I, R, z) Q := RB_iloadn rfl rfl
theorem w199_97 : RB d 199 97 [l0, l1, l2, l3, l4, l5, l6] (.int x :: st) (S, I, R, z) Q = ((x = 0 → RB d 199 100 [l0, l1, l2, l3, l4, l5, l6] st (S, I, R, z) Q) ∧ (¬ x = 0 → RB d 199 105 [l0, l1, l2, l3, l4, l5, l6] st (S, I, R, z) Q)) := RB_ne0 rfl (by decide) rfl
theorem w199_100 : RB d 199 100 [l0, l1, l2, l3, .int x, l5, l6] st (S, I, R, z) Q = RB d 199 102 [l0, l1, l2, l3, .int x, l5, l6] (.int x :: st) (S, I, R, z) Q := RB_iload rfl rfl
theorem w199_102 : RB d 199 102 [l0, l1, l2, l3, l4, l5, l6] st (S, I, R, z) Q = RB d 199 107 [l0, l1, l2, l3, l4, l5, l6] st (S, I, R, z) Q := RB_goto rfl (by decide) rfl
theorem w199_105 : RB d 199 105 [l0, l1, l2, l3, l4, .int x, l6] st (S, I, R, z) Q = RB d 199 107 [l0, l1, l2, l3, l4, .int x, l6] (.int x :: st) (S, I, R, z) Q := RB_iload rfl rfl
theorem w199_107 : RB d 199 107 [l0, l1, l2, l3, l4, l5, l6] [.int x] (S, I, R, z) Q = Q (some (.int x)) (S, I, R, z) := RB_iret rfl rfl rfl
/-! 200: HangedWordModel.othersOf -/
theorem w200_0 : RB d 200 0 [l0, l1, l2, l3, l4, l5, l6, l7, l8] st (S, I, R, z) Q = RB d 200 1 [l0, l1, l2, l3, l4, l5, l6, l7, l8] (.int 0 :: st) (S, I, R, z) Q := RB_iconst rfl ki0
theorem w200_1 : RB d 200 1 [l0, l1, l2, l3, l4, l5, l6, l7, l8] (.int x :: st) (S, I, R, z) Q = RB d 200 2 [l0, l1, l2, .int x, l4, l5, l6, l7, l8] st (S, I, R, z) Q := RB_istoren rfl (Nat.le_of_ble_eq_true rfl) rfl
theorem w200_2 : RB d 200 2 [l0, l1, l2, l3, l4, l5, l6, l7, l8] st (S, I, R, z) Q = RB d 200 3 [l0, l1, l2, l3, l4, l5, l6, l7, l8] (.int 0 :: st) (S, I, R, z) Q := RB_iconst rfl ki0
theorem w200_3 : RB d 200 3 [l0, l1, l2, l3, l4, l5, l6, l7, l8] (.int x :: st) (S, I, R, z) Q = RB d 200 5 [l0, l1, l2, l3, .int x, l5, l6, l7, l8] st (S, I, R, z) Q := RB_istore rfl (Nat.le_of_ble_eq_true rfl) rfl
theorem w200_5 : RB d 200 5 [l0, l1, l2, l3, l4, l5, l6, l7, l8] st (S, I, R, z) Q = RB d 200 6 [l0, l1, l2, l3, l4, l5, l6, l7, l8] (.int 0 :: st) (S, I, R, z) Q := RB_iconst rfl ki0
theorem w200_6 : RB d 200 6 [l0, l1, l2, l3, l4, l5, l6, l7, l8] (.int x :: st) (S, I, R, z) Q = RB d 200 8 [l0, l1, l2, l3, l4, .int x, l6, l7, l8] st (S, I, R, z) Q := RB_istore rfl (Nat.le_of_ble_eq_true rfl) rfl
theorem w200_8 : RB d 200 8 [l0, l1, l2, l3, l4, .int x, l6, l7, l8] st (S, I, R, z) Q = RB d 200 10 [l0, l1, l2, l3, l4, .int x, l6, l7, l8] (.int x :: st) (S, I, R, z) Q := RB_iload rfl rfl
theorem w200_10 : RB d 200 10 [.ref a, l1, l2, l3, l4, l5, l6, l7, l8] st (S, I, R, z) Q = RB d 200 11 [.ref a, l1, l2, l3, l4, l5, l6, l7, l8] (.ref a :: st) (S, I, R, z) Q := RB_aloadn rfl rfl
theorem w200_11 : RB d 200 11 [l0, l1, l2, l3, l4, l5, l6, l7, l8] (.ref a :: st) (S, I, R, z) Q = ((S a).1 = 7 ∧ RB d 200 14 [l0, l1, l2, l3, l4, l5, l6, l7, l8] (va_rf (R a 24) :: st) (S, I, R, z) Q) := RB_getR rfl rfl
theorem w200_14 : RB d 200 14 [l0, .int x, l2, l3, l4, l5, l6, l7, l8] st (S, I, R, z) Q = RB d 200 15 [l0, .int x, l2, l3, l4, l5, l6, l7, l8] (.int x :: st) (S, I, R, z) Q := RB_iloadn rfl rfl
theorem w200_15 : RB d 200 15 [l0, l1, l2, l3, l4, l5, l6, l7, l8] (.int i :: .ref a :: st) (S, I, R, z) Q = (((S a).1 = 9 ∧ aIx i (S a).2) ∧ RB d 200 16 [l0, l1, l2, l3, l4, l5, l6, l7, l8] (.int (I a i.toNatClampNeg) :: st) (S, I, R, z) Q) := RB_iald rfl
theorem w200_16 : RB d 200 16 [l0, l1, l2, l3, l4, l5, l6, l7, l8] (.int y :: .int x :: st) (S, I, R, z) Q = ((y ≤ x → RB d 200 136 [l0, l1, l2, l3, l4, l5, l6, l7, l8] st (S, I, R, z) Q) ∧ (¬ y ≤ x → RB d 200 19 [l0, l1, l2, l3, l4, l5, l6, l7, l8] st (S, I, R, z) Q)) := RB_ige rfl (by decide) rfl
theorem w200_19 : RB d 200 19 [.ref a, l1, l2, l3, l4, l5, l6, l7, l8] st (S, I, R, z) Q = RB d 200 20 [.ref a, l1, l2, l3, l4, l5, l6, l7, l8] (.ref a :: st) (S, I, R, z) Q := RB_aloadn rfl rfl
theorem w200_20 : RB d 200 20 [.ref a, l1, l2, l3, l4, l5, l6, l7, l8] st (S, I, R, z) Q = RB d 200 21 [.ref a, l1, l2, l3, l4, l5, l6, l7, l8] (.ref a :: st) (S, I, R, z) Q := RB_aloadn rfl rfl
theorem w200_21 : RB d 200 21 [l0, l1, l2, l3, l4, l5, l6, l7, l8] (.ref a :: st) (S, I, R, z) Q = ((S a).1 = 7 ∧ RB d 200 24 [l0, l1, l2, l3, l4, l5, l6, l7, l8] (va_rf (R a 0) :: st) (S, I, R, z) Q) := RB_getR rfl rfl
theorem w200_24 : RB d 200 24 [l0, l1, l2, l3, l4, l5, l6, l7, l8] st (S, I, R, z) Q = RB d 200 25 [l0, l1, l2, l3, l4, l5, l6, l7, l8] (.int 3 :: st) (S, I, R, z) Q := RB_iconst rfl ki3
theorem w200_25 : RB d 200 25 [l0, l1, l2, l3, l4, l5, l6, l7, l8] (.int i :: .ref a :: st) (S, I, R, z) Q = (((S a).1 = 9 ∧ aIx i (S a).2) ∧ RB d 200 26 [l0, l1, l2, l3, l4, l5, l6, l7, l8] (.int (I a i.toNatClampNeg) :: st) (S, I, R, z) Q) := RB_iald rfl
set_option maxRecDepth 20000 in
theorem w200_26 : RB d 200 26 [l0, l1, l2, l3, l4, l5, l6, l7, l8] [.int x0, .ref a] (S, I, R, z) Q = ((S a).1 = 7 ∧ RM d 147 [.ref a, .int x0] (S, I, R, z) (fun v τ => RB d 200 29 [l0, l1, l2, l3, l4, l5, l6, l7, l8] (aPush v []) τ Q)) := RB_callV (n := 2) (t := 0) (k := 99) (ins := .invokevirtual 99) rfl rfl rfl (by decide) (Nat.le_of_ble_eq_true rfl) (Nat.le_of_ble_eq_true rfl) rfl rfl
theorem w200_29 : RB d 200 29 [l0, l1, l2, .int x, l4, l5, l6, l7, l8] st (S, I, R, z) Q = RB d 200 30 [l0, l1, l2, .int x, l4, l5, l6, l7, l8] (.int x :: st) (S, I, R, z) Q := RB_iloadn rfl rfl
theorem w200_30 : RB d 200 30 [l0, l1, l2, l3, l4, l5, l6, l7, l8] st (S, I, R, z) Q = RB d 200 31 [l0, l1, l2, l3, l4, l5, l6, l7, l8] (.int (-1) :: st) (S, I, R, z) Q := RB_iconst rfl kim1
theorem w200_31 : RB d 200 31 [l0, l1, l2, l3, l4, l5, l6, l7, l8] (.int y :: .int x :: st) (S, I, R, z) Q = RB d 200 32 [l0, l1, l2, l3, l4, l5, l6, l7, l8] (.int (x ^^^ y) :: st) (S, I, R, z) Q := RB_ixor rfl
theorem w200_32 : RB d 200 32 [l0, l1, l2, l3, l4, l5, l6, l7, l8] (.int y :: .int x :: st) (S, I, R, z) Q = RB d 200 33 [l0, l1, l2, l3, l4, l5, l6, l7, l8] (.int (x &&& y) :: st) (S, I, R, z) Q := RB_iand rfl
theorem w200_33 : RB d 200 33 [l0, l1, l2, l3, l4, l5, l6, l7, l8] (.int x :: st) (S, I, R, z) Q = ((x = 0 → RB d 200 36 [l0, l1, l2, l3, l4, l5, l6, l7, l8] st (S, I, R, z) Q) ∧ (¬ x = 0 → RB d 200 40 [l0, l1, l2, l3, l4, l5, l6, l7, l8] st (S, I, R, z) Q)) := RB_ne0 rfl (by decide) rfl
theorem w200_36 : RB d 200 36 [l0, l1, l2, l3, l4, l5, l6, l7, l8] st (S, I, R, z) Q = RB d 200 37 [l0, l1, l2, l3, l4, l5, l6, l7, l8] (.int 1 :: st) (S, I, R, z) Q := RB_iconst rfl ki1
theorem w200_37 : RB d 200 37 [l0, l1, l2, l3, l4, l5, l6, l7, l8] st (S, I, R, z) Q = RB d 200 41 [l0, l1, l2, l3, l4, l5, l6, l7, l8] st (S, I, R, z) Q := RB_goto rfl (by decide) rfl
theorem w200_40 : RB d 200 40 [l0, l1, l2, l3, l4, l5, l6, l7, l8] st (S, I, R, z) Q = RB d 200 41 [l0, l1, l2, l3, l4, l5, l6, l7, l8] (.int 0 :: st) (S, I, R, z) Q := RB_iconst rfl ki0
theorem w200_41 : RB d 200 41 [l0, l1, l2, l3, l4, l5, l6, l7, l8] (.int x :: st) (S, I, R, z) Q = RB d 200 43 [l0, l1, l2, l3, l4, l5, .int x, l7, l8] st (S, I, R, z) Q := RB_istore rfl (Nat.le_of_ble_eq_true rfl) rfl
theorem w200_43 : RB d 200 43 [l0, l1, l2, l3, l4, l5, .int x, l7, l8] st (S, I, R, z) Q = RB d 200 45 [l0, l1, l2, l3, l4, l5, .int x, l7, l8] (.int x :: st) (S, I, R, z) Q := RB_iload rfl rfl
theorem w200_45 : RB d 200 45 [l0, l1, l2, l3, l4, l5, l6, l7, l8] (.int x :: st) (S, I, R, z) Q = ((x = 0 → RB d 200 52 [l0, l1, l2, l3, l4, l5, l6, l7, l8] st (S, I, R, z) Q) ∧ (¬ x = 0 → RB d 200 48 [l0, l1, l2, l3, l4, l5, l6, l7, l8] st (S, I, R, z) Q)) := RB_eq0 rfl (by decide) rfl
theorem w200_48 : RB d 200 48 [l0, l1, l2, l3, l4, l5, l6, l7, l8] st (S, I, R, z) Q = RB d 200 49 [l0, l1, l2, l3, l4, l5, l6, l7, l8] (.int (-1) :: st) (S, I, R, z) Q := RB_iconst rfl kim1
theorem w200_49 : RB d 200 49 [l0, l1, l2, l3, l4, l5, l6, l7, l8] st (S, I, R, z) Q = RB d 200 69 [l0, l1, l2, l3, l4, l5, l6, l7, l8] st (S, I, R, z) Q := RB_goto rfl (by decide) rfl
theorem w200_52 : RB d 200 52 [.ref a, l1, l2, l3, l4, l5, l6, l7, l8] st (S, I, R, z) Q = RB d 200 53 [.ref a, l1, l2, l3, l4, l5, l6, l7, l8] (.ref a :: st) (S, I, R, z) Q := RB_aloadn rfl rfl
theorem w200_53 : RB d 200 53 [l0, l1, .int x, l3, l4, l5, l6, l7, l8] st (S, I, R, z) Q = RB d 200 54 [l0, l1, .int x, l3, l4, l5, l6, l7, l8] (.int x :: st) (S, I, R, z) Q := RB_iloadn rfl rfl
theorem w200_54 : RB d 200 54 [l0, l1, l2, .int x, l4, l5, l6, l7, l8] st (S, I, R, z) Q = RB d 200 55 [l0, l1, l2, .int x, l4, l5, l6, l7, l8] (.int x :: st) (S, I, R, z) Q := RB_iloadn rfl rfl
theorem w200_55 : RB d 200 55 [.ref a, l1, l2, l3, l4, l5, l6, l7, l8] st (S, I, R, z) Q = RB d 200 56 [.ref a, l1, l2, l3, l4, l5, l6, l7, l8] (.ref a :: st) (S, I, R, z) Q := RB_aloadn rfl rfl
theorem w200_56 : RB d 200 56 [.ref a, l1, l2, l3, l4, l5, l6, l7, l8] st (S, I, R, z) Q = RB d 200 57 [.ref a, l1, l2, l3, l4, l5, l6, l7, l8] (.ref a :: st) (S, I, R, z) Q := RB_aloadn rfl rfl
theorem w200_57 : RB d 200 57 [l0, l1, l2, l3, l4, l5, l6, l7, l8] (.ref a :: st) (S, I, R, z) Q = ((S a).1 = 7 ∧ RB d 200 60 [l0, l1, l2, l3, l4, l5, l6, l7, l8] (va_rf (R a 0) :: st) (S, I, R, z) Q) := RB_getR rfl rfl
theorem w200_60 : RB d 200 60 [l0, l1, l2, l3, l4, l5, l6, l7, l8] st (S, I, R, z) Q = RB d 200 61 [l0, l1, l2, l3, l4, l5, l6, l7, l8] (.int 3 :: st) (S, I, R, z) Q := RB_iconst rfl ki3
theorem w200_61 : RB d 200 61 [l0, l1, l2, l3, l4, l5, l6, l7, l8] (.int i :: .ref a :: st) (S, I, R, z) Q = (((S a).1 = 9 ∧ aIx i (S a).2) ∧ RB d 200 62 [l0, l1, l2, l3, l4, l5, l6, l7, l8] (.int (I a i.toNatClampNeg) :: st) (S, I, R, z) Q) := RB_iald rfl
theorem w200_62 : RB d 200 62 [l0, l1, l2, .int x, l4, l5, l6, l7, l8] st (S, I, R, z) Q = RB d 200 63 [l0, l1, l2, .int x, l4, l5, l6, l7, l8] (.int x :: st) (S, I, R, z) Q := RB_iloadn rfl rfl
set_option maxRecDepth 20000 in
theorem w200_63 : RB d 200 63 [l0, l1, l2, l3, l4, l5, l6, l7, l8] [.int x1, .int x0, .ref a, s0, s1, s2] (S, I, R, z) Q = ((S a).1 = 7 ∧ RM d 148 [.ref a, .int x0, .int x1] (S, I, R, z) (fun v τ => RB d 200 66 [l0, l1, l2, l3, l4, l5, l6, l7, l8] (aPush v [s0, s1, s2]) τ Q)) := RB_callV (n := 3) (t := 0) (k := 87) (ins := .invokevirtual 87) rfl rfl rfl (by decide) (Nat.le_of_ble_eq_true rfl) (Nat.le_of_ble_eq_true rfl) rfl rfl
set_option maxRecDepth 20000 in
theorem w200_66 : RB d 200 66 [l0, l1, l2, l3, l4, l5, l6, l7, l8] [.int x2, .int x1, .int x0, .ref a] (S, I, R, z) Q = ((S a).1 = 7 ∧ RM d 163 [.ref a, .int x0, .int x1, .int x2] (S, I, R, z) (fun v τ => RB d 200 69 [l0, l1, l2, l3, l4, l5, l6, l7, l8] (aPush v []) τ Q)) := RB_callV (n := 4) (t := 0) (k := 162) (ins := .invokevirtual 162) rfl rfl rfl (by decide) (Nat.le_of_ble_eq_true rfl) (Nat.le_of_ble_eq_true rfl) rfl rfl
theorem w200_69 : RB d 200 69 [l0, l1, l2, l3, l4, l5, l6, l7, l8] (.int x :: st) (S, I, R, z) Q = RB d 200 71 [l0, l1, l2, l3, l4, l5, l6, .int x, l8] st (S, I, R, z) Q := RB_istore rfl (Nat.le_of_ble_eq_true rfl) rfl
theorem w200_71 : RB d 200 71 [.ref a, l1, l2, l3, l4, l5, l6, l7, l8] st (S, I, R, z) Q = RB d 200 72 [.ref a, l1, l2, l3, l4, l5, l6, l7, l8] (.ref a :: st) (S, I, R, z) Q := RB_aloadn rfl rfl
theorem w200_72 : RB d 200 72 [l0, l1, l2, l3, l4, l5, l6, l7, l8] (.ref a :: st) (S, I, R, z) Q = ((S a).1 = 7 ∧ RB d 200 75 [l0, l1, l2, l3, l4, l5, l6, l7, l8] (va_rf (R a 25) :: st) (S, I, R, z) Q) := RB_getR rfl rfl
theorem w200_75 : RB d 200 75 [l0, l1, l2, l3, l4, l5, l6, l7, l8] st (S, I, R, z) Q = RB d 200 77 [l0, l1, l2, l3, l4, l5, l6, l7, l8] (.int 24 :: st) (S, I, R, z) Q := RB_bipush rfl kb24
theorem w200_77 : RB d 200 77 [l0, .int x, l2, l3, l4, l5, l6, l7, l8] st (S, I, R, z) Q = RB d 200 78 [l0, .int x, l2, l3, l4, l5, l6, l7, l8] (.int x :: st) (S, I, R, z) Q := RB_iloadn rfl rfl
theorem w200_78 : RB d 200 78 [l0, l1, l2, l3, l4, l5, l6, l7, l8] (.int y :: .int x :: st) (S, I, R, z) Q = RB d 200 79 [l0, l1, l2, l3, l4, l5, l6, l7, l8] (.int (x * y) :: st) (S, I, R, z) Q := RB_imul rfl
theorem w200_79 : RB d 200 79 [l0, l1, l2, l3, l4, .int x, l6, l7, l8] st (S, I, R, z) Q = RB d 200 81 [l0, l1, l2, l3, l4, .int x, l6, l7, l8] (.int x :: st) (S, I, R, z) Q := RB_iload rfl rfl
theorem w200_81 : RB d 200 81 [l0, l1, l2, l3, l4, l5, l6, l7, l8] (.int y :: .int x :: st) (S, I, R, z) Q = RB d 200 82 [l0, l1, l2, l3, l4, l5, l6, l7, l8] (.int (x + y) :: st) (S, I, R, z) Q := RB_iadd rfl
theorem w200_82 : RB d 200 82 [l0, l1, l2, l3, l4, l5, l6, l7, l8] (.int i :: .ref a :: st) (S, I, R, z) Q = (((S a).1 = 9 ∧ aIx i (S a).2) ∧ RB d 200 83 [l0, l1, l2, l3, l4, l5, l6, l7, l8] (.int (I a i.toNatClampNeg) :: st) (S, I, R, z) Q) := RB_iald rfl
theorem w200_83 : RB d 200 83 [l0, l1, l2, l3, l4, l5, l6, l7, l8] (.int x :: st) (S, I, R, z) Q = RB d 200 85 [l0, l1, l2, l3, l4, l5, l6, l7, .int x] st (S, I, R, z) Q := RB_istore rfl (Nat.le_of_ble_eq_true rfl) rfl
theorem w200_85 : RB d 200 85 [l0, l1, l2, l3, .int x, l5, l6, l7, l8] st (S, I, R, z) Q = RB d 200 87 [l0, l1, l2, l3, .int x, l5, l6, l7, l8] (.int x :: st) (S, I, R, z) Q := RB_iload rfl rfl
theorem w200_87 : RB d 200 87 [l0, l1, l2, l3, l4, l5, l6, l7, .int x] st (S, I, R, z) Q = RB d 200 89 [l0, l1, l2, l3, l4, l5, l6, l7, .int x] (.int x :: st) (S, I, R, z) Q := RB_iload rfl rfl
theorem w200_89 : RB d 200 89 [l0, l1, l2, l3, l4, l5, l6, l7, l8] st (S, I, R, z) Q = RB d 200 91 [l0, l1, l2, l3, l4, l5, l6, l7, l8] (.int (-1000000005) :: st) (S, I, R, z) Q := RB_ldc rfl rfl
theorem w200_91 : RB d 200 91 [l0, l1, l2, l3, l4, l5, l6, l7, l8] (.int y :: .int x :: st) (S, I, R, z) Q = ((x = y → RB d 200 110 [l0, l1, l2, l3, l4, l5, l6, l7, l8] st (S, I, R, z) Q) ∧ (¬ x = y → RB d 200 94 [l0, l1, l2, l3, l4, l5, l6, l7, l8] st (S, I, R, z) Q)) := RB_ieq rfl (by decide) rfl
theorem w200_94 : RB d 200 94 [l0, l1, l2, l3, l4, l5, .int x, l7, l8] st (S, I, R, z) Q = RB d 200 96 [l0, l1, l2, l3, l4, l5, .int x, l7, l8] (.int x :: st) (S, I, R, z) Q := RB_iload rfl rfl
theorem w200_96 : RB d 200 96 [l0, l1, l2, l3, l4, l5, l6, l7, l8] (.int x :: st) (S, I, R, z) Q = ((x = 0 → RB d 200 99 [l0, l1, l2, l3, l4, l5, l6, l7, l8] st (S, I, R, z) Q) ∧ (¬ x = 0 → RB d 200 106 [l0, l1, l2, l3, l4, l5, l6, l7, l8] st (S, I, R, z) Q)) := RB_ne0 rfl (by decide) rfl
theorem w200_99 : RB d 200 99 [l0, l1, l2, l3, l4, l5, l6, l7, .int x] st (S, I, R, z) Q = RB d 200 101 [l0, l1, l2, l3, l4, l5, l6, l7, .int x] (.int x :: st) (S, I, R, z) Q := RB_iload rfl rfl
theorem w200_101 : RB d 200 101 [l0, l1, l2, l3, l4, l5, l6, .int x, l8] st (S, I, R, z) Q = RB d 200 103 [l0, l1, l2, l3, l4, l5, l6, .int x, l8] (.int x :: st) (S, I, R, z) Q := RB_iload rfl rfl
theorem w200_103 : RB d 200 103 [l0, l1, l2, l3, l4, l5, l6, l7, l8] (.int y :: .int x :: st) (S, I, R, z) Q = ((x = y → RB d 200 110 [l0, l1, l2, l3, l4, l5, l6, l7, l8] st (S, I, R, z) Q) ∧ (¬ x = y → RB d 200 106 [l0, l1, l2, l3, l4, l5, l6, l7, l8] st (S, I, R, z) Q)) := RB_ieq rfl (by decide) rfl
theorem w200_106 : RB d 200 106 [l0, l1, l2, l3, l4, l5, l6, l7, l8] st (S, I, R, z) Q = RB d 200 107 [l0, l1, l2, l3, l4, l5, l6, l7, l8] (.int 1 :: st) (S, I, R, z) Q := RB_iconst rfl ki1
theorem w200_107 : RB d 200 107 [l0, l1, l2, l3, l4, l5, l6, l7, l8] st (S, I, R, z) Q = RB d 200 111 [l0, l1, l2, l3, l4, l5, l6, l7, l8] st (S, I, R, z) Q := RB_goto rfl (by decide) rfl
theorem w200_110 : RB d 200 110 [l0, l1, l2, l3, l4, l5, l6, l7, l8] st (S, I, R, z) Q = RB d 200 111 [l0, l1, l2, l3, l4, l5, l6, l7, l8] (.int 0 :: st) (S, I, R, z) Q := RB_iconst rfl ki0
theorem w200_111 : RB d 200 111 [l0, l1, l2, l3, l4, l5, l6, l7, l8] (.int y :: .int x :: st) (S, I, R, z) Q = RB d 200 112 [l0, l1, l2, l3, l4, l5, l6, l7, l8] (.int (x + y) :: st) (S, I, R, z) Q := RB_iadd rfl
theorem w200_112 : RB d 200 112 [l0, l1, l2, l3, l4, l5, l6, l7, l8] (.int x :: st) (S, I, R, z) Q = RB d 200 114 [l0, l1, l2, l3, .int x, l5, l6, l7, l8] st (S, I, R, z) Q := RB_istore rfl (Nat.le_of_ble_eq_true rfl) rfl
theorem w200_114 : RB d 200 114 [l0, l1, l2, .int x, l4, l5, l6, l7, l8] st (S, I, R, z) Q = RB d 200 115 [l0, l1, l2, .int x, l4, l5, l6, l7, l8] (.int x :: st) (S, I, R, z) Q := RB_iloadn rfl rfl
theorem w200_115 : RB d 200 115 [l0, l1, l2, l3, l4, l5, .int x, l7, l8] st (S, I, R, z) Q = RB d 200 117 [l0, l1, l2, l3, l4, l5, .int x, l7, l8] (.int x :: st) (S, I, R, z) Q := RB_iload rfl rfl
theorem w200_117 : RB d 200 117 [l0, l1, l2, l3, l4, l5, l6, l7, l8] (.int x :: st) (S, I, R, z) Q = ((x = 0 → RB d 200 124 [l0, l1, l2, l3, l4, l5, l6, l7, l8] st (S, I, R, z) Q) ∧ (¬ x = 0 → RB d 200 120 [l0, l1, l2, l3, l4, l5, l6, l7, l8] st (S, I, R, z) Q)) := RB_eq0 rfl (by decide) rfl
theorem w200_120 : RB d 200 120 [l0, l1, l2, l3, l4, l5, l6, l7, l8] st (S, I, R, z) Q = RB d 200 121 [l0, l1, l2, l3, l4, l5, l6, l7, l8] (.int 0 :: st) (S, I, R, z) Q := RB_iconst rfl ki0
theorem w200_121 : RB d 200 121 [l0, l1, l2, l3, l4, l5, l6, l7, l8] st (S, I, R, z) Q = RB d 200 128 [l0, l1, l2, l3, l4, l5, l6, l7, l8] st (S, I, R, z) Q := RB_goto rfl (by decide) rfl
theorem w200_124 : RB d 200 124 [l0, l1, l2, l3, l4, l5, l6, l7, l8] st (S, I, R, z) Q = RB d 200 125 [l0, l1, l2, l3, l4, l5, l6, l7, l8] (.int 1 :: st) (S, I, R, z) Q := RB_iconst rfl ki1
theorem w200_125 : RB d 200 125 [l0, l1, l2, l3, l4, l5, l6, .int x, l8] st (S, I, R, z) Q = RB d 200 127 [l0, l1, l2, l3, l4, l5, l6, .int x, l8] (.int x :: st) (S, I, R, z) Q := RB_iload rfl rfl
theorem w200_127 : RB d 200 127 [l0, l1, l2, l3, l4, l5, l6, l7, l8] (.int y :: .int x :: st) (S, I, R, z) Q = RB d 200 128 [l0, l1, l2, l3, l4, l5, l6, l7, l8] (.int (x <<< (y &&& 31)) :: st) (S, I, R, z) Q := RB_ishl rfl
theorem w200_128 : RB d 200 128 [l0, l1, l2, l3, l4, l5, l6, l7, l8] (.int y :: .int x :: st) (S, I, R, z) Q = RB d 200 129 [l0, l1, l2, l3, l4, l5, l6, l7, l8] (.int (x ||| y) :: st) (S, I, R, z) Q := RB_ior rfl
theorem w200_129 : RB d 200 129 [l0, l1, l2, l3, l4, l5, l6, l7, l8] (.int x :: st) (S, I, R, z) Q = RB d 200 130 [l0, l1, l2, .int x, l4, l5, l6, l7, l8] st (S, I, R, z) Q := RB_istoren rfl (Nat.le_of_ble_eq_true rfl) rfl
theorem w200_130 : RB d 200 130 [l0, l1, l2, l3, l4, .int x, l6, l7, l8] st (S, I, R, z) Q = RB d 200 133 [l0, l1, l2, l3, l4, .int (x + 1), l6, l7, l8] st (S, I, R, z) Q := RB_iinc rfl rfl (Nat.le_of_ble_eq_true rfl) ki1 rfl
theorem w200_133 : RB d 200 133 [l0, l1, l2, l3, l4, l5, l6, l7, l8] st (S, I, R, z) Q = RB d 200 8 [l0, l1, l2, l3, l4, l5, l6, l7, l8] st (S, I, R, z) Q := RB_goto rfl (by decide) rfl
theorem w200_136 : RB d 200 136 [l0, l1, l2, l3, .int x, l5, l6, l7, l8] st (S, I, R, z) Q = RB d 200 138 [l0, l1, l2, l3, .int x, l5, l6, l7, l8] (.int x :: st) (S, I, R, z) Q := RB_iload rfl rfl
theorem w200_138 : RB d 200 138 [l0, l1, l2, l3, l4, l5, l6, l7, l8] [.int x] (S, I, R, z) Q = Q (some (.int x)) (S, I, R, z) := RB_iret rfl rfl rfl
/-! 201: HangedWordModel.askedBy -/
theorem w201_0 : RB d 201 0 [l0, .int x, l2, l3, l4, l5, l6] st (S, I, R, z) Q = RB d 201 1 [l0, .int x, l2, l3, l4, l5, l6] (.int x :: st) (S, I, R, z) Q := RB_iloadn rfl rfl
set_option maxRecDepth 20000 in
theorem w201_1 : RB d 201 1 [l0, l1, l2, l3, l4, l5, l6] [.int x0] (S, I, R, z) Q = RM d 222 [.int x0] (S, I, R, z) (fun v τ => RB d 201 4 [l0, l1, l2, l3, l4, l5, l6] (aPush v []) τ Q) := RB_callS (n := 1) (t := 1) (k := 219) (ins := .invokestatic 219) rfl rfl rfl (Nat.le_of_ble_eq_true rfl) (Nat.le_of_ble_eq_true rfl) rfl rfl
theorem w201_4 : RB d 201 4 [l0, l1, l2, l3, l4, l5, l6] (.int x :: st) (S, I, R, z) Q = ((x = 0 → RB d 201 16 [l0, l1, l2, l3, l4, l5, l6] st (S, I, R, z) Q) ∧ (¬ x = 0 → RB d 201 7 [l0, l1, l2, l3, l4, l5, l6] st (S, I, R, z) Q)) := RB_eq0 rfl (by decide) rfl
theorem w201_7 : RB d 201 7 [l0, l1, .int x, l3, l4, l5, l6] st (S, I, R, z) Q = RB d 201 8 [l0, l1, .int x, l3, l4, l5, l6] (.int x :: st) (S, I, R, z) Q := RB_iloadn rfl rfl
theorem w201_8 : RB d 201 8 [l0, l1, l2, l3, l4, l5, l6] st (S, I, R, z) Q = RB d 201 9 [l0, l1, l2, l3, l4, l5, l6] (.int 0 :: st) (S, I, R, z) Q := RB_iconst rfl ki0
theorem w201_9 : RB d 201 9 [l0, l1, l2, l3, l4, l5, l6] st (S, I, R, z) Q = RB d 201 10 [l0, l1, l2, l3, l4, l5, l6] (.int 1 :: st) (S, I, R, z) Q := RB_iconst rfl ki1
set_option maxRecDepth 20000 in
theorem w201_10 : RB d 201 10 [l0, l1, l2, l3, l4, l5, l6] [.int x2, .int x1, .int x0] (S, I, R, z) Q = RM d 135 [.int x0, .int x1, .int x2] (S, I, R, z) (fun v τ => RB d 201 13 [l0, l1, l2, l3, l4, l5, l6] (aPush v []) τ Q) := RB_callS (n := 3) (t := 1) (k := 76) (ins := .invokestatic 76) rfl rfl rfl (Nat.le_of_ble_eq_true rfl) (Nat.le_of_ble_eq_true rfl) rfl rfl
theorem w201_13 : RB d 201 13 [l0, l1, l2, l3, l4, l5, l6] (.int x :: st) (S, I, R, z) Q = ((x = 0 → RB d 201 16 [l0, l1, l2, l3, l4, l5, l6] st (S, I, R, z) Q) ∧ (¬ x = 0 → RB d 201 19 [l0, l1, l2, l3, l4, l5, l6] st (S, I, R, z) Q)) := RB_ne0 rfl (by decide) rfl
theorem w201_16 : RB d 201 16 [l0, l1, l2, l3, l4, l5, l6] st (S, I, R, z) Q = RB d 201 18 [l0, l1, l2, l3, l4, l5, l6] (.int (-1000000001) :: st) (S, I, R, z) Q := RB_ldc rfl rfl
theorem w201_18 : RB d 201 18 [l0, l1, l2, l3, l4, l5, l6] [.int x] (S, I, R, z) Q = Q (some (.int x)) (S, I, R, z) := RB_iret rfl rfl rfl
theorem w201_19 : RB d 201 19 [.ref a, l1, l2, l3, l4, l5, l6] st (S, I, R, z) Q = RB d 201 20 [.ref a, l1, l2, l3, l4, l5, l6] (.ref a :: st) (S, I, R, z) Q := RB_aloadn rfl rfl
theorem w201_20 : RB d 201 20 [l0, l1, l2, l3, l4, l5, l6] (.ref a :: st) (S, I, R, z) Q = ((S a).1 = 7 ∧ RB d 201 23 [l0, l1, l2, l3, l4, l5, l6] (va_rf (R a 23) :: st) (S, I, R, z) Q) := RB_getR rfl rfl
theorem w201_23 : RB d 201 23 [l0, .int x, l2, l3, l4, l5, l6] st (S, I, R, z) Q = RB d 201 24 [l0, .int x, l2, l3, l4, l5, l6] (.int x :: st) (S, I, R, z) Q := RB_iloadn rfl rfl
theorem w201_24 : RB d 201 24 [l0, l1, l2, l3, l4, l5, l6] (.int i :: .ref a :: st) (S, I, R, z) Q = (((S a).1 = 9 ∧ aIx i (S a).2) ∧ RB d 201 25 [l0, l1, l2, l3, l4, l5, l6] (.int (I a i.toNatClampNeg) :: st) (S, I, R, z) Q) := RB_iald rfl
theorem w201_25 : RB d 201 25 [l0, l1, l2, l3, l4, l5, l6] (.int x :: st) (S, I, R, z) Q = ((0 ≤ x → RB d 201 31 [l0, l1, l2, l3, l4, l5, l6] st (S, I, R, z) Q) ∧ (¬ 0 ≤ x → RB d 201 28 [l0, l1, l2, l3, l4, l5, l6] st (S, I, R, z) Q)) := RB_ge0 rfl (by decide) rfl
theorem w201_28 : RB d 201 28 [l0, l1, l2, l3, l4, l5, l6] st (S, I, R, z) Q = RB d 201 30 [l0, l1, l2, l3, l4, l5, l6] (.int (-1000000011) :: st) (S, I, R, z) Q := RB_ldc rfl rfl
theorem w201_30 : RB d 201 30 [l0, l1, l2, l3, l4, l5, l6] [.int x] (S, I, R, z) Q = Q (some (.int x)) (S, I, R, z) := RB_iret rfl rfl rfl
theorem w201_31 : RB d 201 31 [.ref a, l1, l2, l3, l4, l5, l6] st (S, I, R, z) Q = RB d 201 32 [.ref a, l1, l2, l3, l4, l5, l6] (.ref a :: st) (S, I, R, z) Q := RB_aloadn rfl rfl
theorem w201_32 : RB d 201 32 [l0, l1, l2, l3, l4, l5, l6] (.ref a :: st) (S, I, R, z) Q = ((S a).1 = 7 ∧ RB d 201 35 [l0, l1, l2, l3, l4, l5, l6] (va_rf (R a 0) :: st) (S, I, R, z) Q) := RB_getR rfl rfl
theorem w201_35 : RB d 201 35 [l0, l1, l2, l3, l4, l5, l6] st (S, I, R, z) Q = RB d 201 36 [l0, l1, l2, l3, l4, l5, l6] (.int 3 :: st) (S, I, R, z) Q := RB_iconst rfl ki3
theorem w201_36 : RB d 201 36 [l0, l1, l2, l3, l4, l5, l6] (.int i :: .ref a :: st) (S, I, R, z) Q = (((S a).1 = 9 ∧ aIx i (S a).2) ∧ RB d 201 37 [l0, l1, l2, l3, l4, l5, l6] (.int (I a i.toNatClampNeg) :: st) (S, I, R, z) Q) := RB_iald rfl
theorem w201_37 : RB d 201 37 [l0, l1, l2, l3, l4, l5, l6] (.int x :: st) (S, I, R, z) Q = ((0 ≤ x → RB d 201 43 [l0, l1, l2, l3, l4, l5, l6] st (S, I, R, z) Q) ∧ (¬ 0 ≤ x → RB d 201 40 [l0, l1, l2, l3, l4, l5, l6] st (S, I, R, z) Q)) := RB_ge0 rfl (by decide) rfl
theorem w201_40 : RB d 201 40 [l0, l1, l2, l3, l4, l5, l6] st (S, I, R, z) Q = RB d 201 42 [l0, l1, l2, l3, l4, l5, l6] (.int (-1000000002) :: st) (S, I, R, z) Q := RB_ldc rfl rfl
theorem w201_42 : RB d 201 42 [l0, l1, l2, l3, l4, l5, l6] [.int x] (S, I, R, z) Q = Q (some (.int x)) (S, I, R, z) := RB_iret rfl rfl rfl
theorem w201_43 : RB d 201 43 [l0, l1, l2, l3, l4, l5, l6] st (S, I, R, z) Q = RB d 201 45 [l0, l1, l2, l3, l4, l5, l6] (.int (-1000000005) :: st) (S, I, R, z) Q := RB_ldc rfl rfl
theorem w201_45 : RB d 201 45 [l0, l1, l2, l3, l4, l5, l6] (.int x :: st) (S, I, R, z) Q = RB d 201 46 [l0, l1, l2, .int x, l4, l5, l6] st (S, I, R, z) Q := RB_istoren rfl (Nat.le_of_ble_eq_true rfl) rfl
theorem w201_46 : RB d 201 46 [l0, l1, l2, l3, l4, l5, l6] st (S, I, R, z) Q = RB d 201 48 [l0, l1, l2, l3, l4, l5, l6] (.int 99 :: st) (S, I, R, z) Q := RB_bipush rfl kb99
theorem w201_48 : RB d 201 48 [l0, l1, l2, l3, l4, l5, l6] (.int x :: st) (S, I, R, z) Q = RB d 201 50 [l0, l1, l2, l3, .int x, l5, l6] st (S, I, R, z) Q := RB_istore rfl (Nat.le_of_ble_eq_true rfl) rfl
theorem w201_50 : RB d 201 50 [l0, l1, l2, l3, l4, l5, l6] st (S, I, R, z) Q = RB d 201 51 [l0, l1, l2, l3, l4, l5, l6] (.int 0 :: st) (S, I, R, z) Q := RB_iconst rfl ki0
theorem w201_51 : RB d 201 51 [l0, l1, l2, l3, l4, l5, l6] (.int x :: st) (S, I, R, z) Q = RB d 201 53 [l0, l1, l2, l3, l4, .int x, l6] st (S, I, R, z) Q := RB_istore rfl (Nat.le_of_ble_eq_true rfl) rfl
theorem w201_53 : RB d 201 53 [l0, l1, l2, l3, l4, .int x, l6] st (S, I, R, z) Q = RB d 201 55 [l0, l1, l2, l3, l4, .int x, l6] (.int x :: st) (S, I, R, z) Q := RB_iload rfl rfl
theorem w201_55 : RB d 201 55 [.ref a, l1, l2, l3, l4, l5, l6] st (S, I, R, z) Q = RB d 201 56 [.ref a, l1, l2, l3, l4, l5, l6] (.ref a :: st) (S, I, R, z) Q := RB_aloadn rfl rfl
theorem w201_56 : RB d 201 56 [l0, l1, l2, l3, l4, l5, l6] (.ref a :: st) (S, I, R, z) Q = ((S a).1 = 7 ∧ RB d 201 59 [l0, l1, l2, l3, l4, l5, l6] (va_rf (R a 0) :: st) (S, I, R, z) Q) := RB_getR rfl rfl
theorem w201_59 : RB d 201 59 [l0, l1, l2, l3, l4, l5, l6] st (S, I, R, z) Q = RB d 201 60 [l0, l1, l2, l3, l4, l5, l6] (.int 2 :: st) (S, I, R, z) Q := RB_iconst rfl ki2
theorem w201_60 : RB d 201 60 [l0, l1, l2, l3, l4, l5, l6] (.int i :: .ref a :: st) (S, I, R, z) Q = (((S a).1 = 9 ∧ aIx i (S a).2) ∧ RB d 201 61 [l0, l1, l2, l3, l4, l5, l6] (.int (I a i.toNatClampNeg) :: st) (S, I, R, z) Q) := RB_iald rfl
theorem w201_61 : RB d 201 61 [l0, l1, l2, l3, l4, l5, l6] (.int y :: .int x :: st) (S, I, R, z) Q = ((y ≤ x → RB d 201 109 [l0, l1, l2, l3, l4, l5, l6] st (S, I, R, z) Q) ∧ (¬ y ≤ x → RB d 201 64 [l0, l1, l2, l3, l4, l5, l6] st (S, I, R, z) Q)) := RB_ige rfl (by decide) rfl
theorem w201_64 : RB d 201 64 [.ref a, l1, l2, l3, l4, l5, l6] st (S, I, R, z) Q = RB d 201 65 [.ref a, l1, l2, l3, l4, l5, l6] (.ref a :: st) (S, I, R, z) Q := RB_aloadn rfl rfl
theorem w201_65 : RB d 201 65 [l0, .int x, l2, l3, l4, l5, l6] st (S, I, R, z) Q = RB d 201 66 [l0, .int x, l2, l3, l4, l5, l6] (.int x :: st) (S, I, R, z) Q := RB_iloadn rfl rfl
theorem w201_66 : RB d 201 66 [l0, l1, l2, l3, l4, .int x, l6] st (S, I, R, z) Q = RB d 201 68 [l0, l1, l2, l3, l4, .int x, l6] (.int x :: st) (S, I, R, z) Q := RB_iload rfl rfl
set_option maxRecDepth 20000 in
theorem w201_68 : RB d 201 68 [l0, l1, l2, l3, l4, l5, l6] [.int x1, .int x0, .ref a] (S, I, R, z) Q = ((S a).1 = 7 ∧ RM d 200 [.ref a, .int x0, .int x1] (S, I, R, z) (fun v τ => RB d 201 71 [l0, l1, l2, l3, l4, l5, l6] (aPush v []) τ Q)) := RB_callV (n := 3) (t := 0) (k := 223) (ins := .invokevirtual 223) rfl rfl rfl (by decide) (Nat.le_of_ble_eq_true rfl) (Nat.le_of_ble_eq_true rfl) rfl rfl
theorem w201_71 : RB d 201 71 [l0, l1, l2, l3, l4, l5, l6] (.int x :: st) (S, I, R, z) Q = RB d 201 73 [l0, l1, l2, l3, l4, l5, .int x] st (S, I, R, z) Q := RB_istore rfl (Nat.le_of_ble_eq_true rfl) rfl
theorem w201_73 : RB d 201 73 [l0, l1, l2, l3, l4, l5, .int x] st (S, I, R, z) Q = RB d 201 75 [l0, l1, l2, l3, l4, l5, .int x] (.int x :: st) (S, I, R, z) Q := RB_iload rfl rfl
theorem w201_75 : RB d 201 75 [l0, l1, l2, l3, .int x, l5, l6] st (S, I, R, z) Q = RB d 201 77 [l0, l1, l2, l3, .int x, l5, l6] (.int x :: st) (S, I, R, z) Q := RB_iload rfl rfl
theorem w201_77 : RB d 201 77 [l0, l1, l2, l3, l4, l5, l6] (.int y :: .int x :: st) (S, I, R, z) Q = ((y ≤ x → RB d 201 85 [l0, l1, l2, l3, l4, l5, l6] st (S, I, R, z) Q) ∧ (¬ y ≤ x → RB d 201 80 [l0, l1, l2, l3, l4, l5, l6] st (S, I, R, z) Q)) := RB_ige rfl (by decide) rfl
theorem w201_80 : RB d 201 80 [l0, l1, l2, l3, l4, .int x, l6] st (S, I, R, z) Q = RB d 201 82 [l0, l1, l2, l3, l4, .int x, l6] (.int x :: st) (S, I, R, z) Q := RB_iload rfl rfl
theorem w201_82 : RB d 201 82 [l0, l1, l2, l3, l4, l5, l6] st (S, I, R, z) Q = RB d 201 86 [l0, l1, l2, l3, l4, l5, l6] st (S, I, R, z) Q := RB_goto rfl (by decide) rfl
theorem w201_85 : RB d 201 85 [l0, l1, l2, .int x, l4, l5, l6] st (S, I, R, z) Q = RB d 201 86 [l0, l1, l2, .int x, l4, l5, l6] (.int x :: st) (S, I, R, z) Q := RB_iloadn rfl rfl
theorem w201_86 : RB d 201 86 [l0, l1, l2, l3, l4, l5, l6] (.int x :: st) (S, I, R, z) Q = RB d 201 87 [l0, l1, l2, .int x, l4, l5, l6] st (S, I, R, z) Q := RB_istoren rfl (Nat.le_of_ble_eq_true rfl) rfl
theorem w201_87 : RB d 201 87 [l0, l1, l2, l3, l4, l5, .int x] st (S, I, R, z) Q = RB d 201 89 [l0, l1, l2, l3, l4, l5, .int x] (.int x :: st) (S, I, R, z) Q := RB_iload rfl rfl
theorem w201_89 : RB d 201 89 [l0, l1, l2, l3, .int x, l5, l6] st (S, I, R, z) Q = RB d 201 91 [l0, l1, l2, l3, .int x, l5, l6] (.int x :: st) (S, I, R, z) Q := RB_iload rfl rfl
theorem w201_91 : RB d 201 91 [l0, l1, l2, l3, l4, l5, l6] (.int y :: .int x :: st) (S, I, R, z) Q = ((y ≤ x → RB d 201 99 [l0, l1, l2, l3, l4, l5, l6] st (S, I, R, z) Q) ∧ (¬ y ≤ x → RB d 201 94 [l0, l1, l2, l3, l4, l5, l6] st (S, I, R, z) Q)) := RB_ige rfl (by decide) rfl
theorem w201_94 : RB d 201 94 [l0, l1, l2, l3, l4, l5, .int x] st (S, I, R, z) Q = RB d 201 96 [l0, l1, l2, l3, l4, l5, .int x] (.int x :: st) (S, I, R, z) Q := RB_iload rfl rfl
theorem w201_96 : RB d 201 96 [l0, l1, l2, l3, l4, l5, l6] st (S, I, R, z) Q = RB d 201 101 [l0, l1, l2, l3, l4, l5, l6] st (S, I, R, z) Q := RB_goto rfl (by decide) rfl
theorem w201_99 : RB d 201 99 [l0, l1, l2, l3, .int x, l5, l6] st (S, I, R, z) Q = RB d 201 101 [l0, l1, l2, l3, .int x, l5, l6] (.int x :: st) (S, I, R, z) Q := RB_iload rfl rfl
theorem w201_101 : RB d 201 101 [l0, l1, l2, l3, l4, l5, l6] (.int x :: st) (S, I, R, z) Q = RB d 201 103 [l0, l1, l2, l3, .int x, l5, l6] st (S, I, R, z) Q := RB_istore rfl (Nat.le_of_ble_eq_true rfl) rfl
theorem w201_103 : RB d 201 103 [l0, l1, l2, l3, l4, .int x, l6] st (S, I, R, z) Q = RB d 201 106 [l0, l1, l2, l3, l4, .int (x + 1), l6] st (S, I, R, z) Q := RB_iinc rfl rfl (Nat.le_of_ble_eq_true rfl) ki1 rfl
theorem w201_106 : RB d 201 106 [l0, l1, l2, l3, l4, l5, l6] st (S, I, R, z) Q = RB d 201 53 [l0, l1, l2, l3, l4, l5, l6] st (S, I, R, z) Q := RB_goto rfl (by decide) rfl
theorem w201_109 : RB d 201 109 [l0, l1, l2, .int x, l4, l5, l6] st (S, I, R, z) Q = RB d 201 110 [l0, l1, l2, .int x, l4, l5, l6] (.int x :: st) (S, I, R, z) Q := RB_iloadn rfl rfl
theorem w201_110 : RB d 201 110 [l0, l1, l2, l3, l4, l5, l6] st (S, I, R, z) Q = RB d 201 112 [l0, l1, l2, l3, l4, l5, l6] (.int (-1000000005) :: st) (S, I, R, z) Q := RB_ldc rfl rfl
theorem w201_112 : RB d 201 112 [l0, l1, l2, l3, l4, l5, l6] (.int y :: .int x :: st) (S, I, R, z) Q = ((x = y → RB d 201 119 [l0, l1, l2, l3, l4, l5, l6] st (S, I, R, z) Q) ∧ (¬ x = y → RB d 201 115 [l0, l1, l2, l3, l4, l5, l6] st (S, I, R, z) Q)) := RB_ieq rfl (by decide) rfl
theorem w201_115 : RB d 201 115 [l0, l1, .int x, l3, l4, l5, l6] st (S, I, R, z) Q = RB d 201 116 [l0, l1, .int x, l3, l4, l5, l6] (.int x :: st) (S, I, R, z) Q := RB_iloadn rfl rfl
theorem w201_116 : RB d 201 116 [l0, l1, l2, l3, l4, l5, l6] (.int x :: st) (S, I, R, z) Q = ((x = 0 → RB d 201 119 [l0, l1, l2, l3, l4, l5, l6] st (S, I, R, z) Q) ∧ (¬ x = 0 → RB d 201 123 [l0, l1, l2, l3, l4, l5, l6] st (S, I, R, z) Q)) := RB_ne0 rfl (by decide) rfl
theorem w201_119 : RB d 201 119 [l0, l1, l2, .int x, l4, l5, l6] st (S, I, R, z) Q = RB d 201 120 [l0, l1, l2, .int x, l4, l5, l6] (.int x :: st) (S, I, R, z) Q := RB_iloadn rfl rfl
theorem w201_120 : RB d 201 120 [l0, l1, l2, l3, l4, l5, l6] st (S, I, R, z) Q = RB d 201 125 [l0, l1, l2, l3, l4, l5, l6] st (S, I, R, z) Q := RB_goto rfl (by decide) rfl
theorem w201_123 : RB d 201 123 [l0, l1, l2, l3, .int x, l5, l6] st (S, I, R, z) Q = RB d 201 125 [l0, l1, l2, l3, .int x, l5, l6] (.int x :: st) (S, I, R, z) Q := RB_iload rfl rfl
theorem w201_125 : RB d 201 125 [l0, l1, l2, l3, l4, l5, l6] [.int x] (S, I, R, z) Q = Q (some (.int x)) (S, I, R, z) := RB_iret rfl rfl rfl
/-! 202: HangedWordModel.fine -/
theorem w202_0 : RB d 202 0 [.ref a, l1] st (S, I, R, z) Q = RB d 202 1 [.ref a, l1] (.ref a :: st) (S, I, R, z) Q := RB_aloadn rfl rfl
theorem w202_1 : RB d 202 1 [l0, l1] st (S, I, R, z) Q = RB d 202 2 [l0, l1] (.int 2 :: st) (S, I, R, z) Q := RB_iconst rfl ki2
set_option maxRecDepth 20000 in
theorem w202_2 : RB d 202 2 [l0, l1] [.int x0, .ref a] (S, I, R, z) Q = ((S a).1 = 7 ∧ RM d 218 [.ref a, .int x0] (S, I, R, z) (fun v τ => RB d 202 5 [l0, l1] (aPush v []) τ Q)) := RB_callV (n := 2) (t := 0) (k := 126) (ins := .invokevirtual 126) rfl rfl rfl (by decide) (Nat.le_of_ble_eq_true rfl) (Nat.le_of_ble_eq_true rfl) rfl rfl
theorem w202_5 : RB d 202 5 [l0, l1] (.int x :: st) (S, I, R, z) Q = RB d 202 6 [l0, .int x] st (S, I, R, z) Q := RB_istoren rfl (Nat.le_of_ble_eq_true rfl) rfl
theorem w202_6 : RB d 202 6 [.ref a, l1] st (S, I, R, z) Q = RB d 202 7 [.ref a, l1] (.ref a :: st) (S, I, R, z) Q := RB_aloadn rfl rfl
theorem w202_7 : RB d 202 7 [l0, l1] (.ref a :: st) (S, I, R, z) Q = ((S a).1 = 7 ∧ RB d 202 10 [l0, l1] (va_rf (R a 22) :: st) (S, I, R, z) Q) := RB_getR rfl rfl
theorem w202_10 : RB d 202 10 [l0, l1] st (S, I, R, z) Q = RB d 202 11 [l0, l1] (.int 0 :: st) (S, I, R, z) Q := RB_iconst rfl ki0
theorem w202_11 : RB d 202 11 [.ref a, l1] st (S, I, R, z) Q = RB d 202 12 [.ref a, l1] (.ref a :: st) (S, I, R, z) Q := RB_aloadn rfl rfl
theorem w202_12 : RB d 202 12 [l0, l1] (.ref a :: st) (S, I, R, z) Q = ((S a).1 = 7 ∧ RB d 202 15 [l0, l1] (va_rf (R a 0) :: st) (S, I, R, z) Q) := RB_getR rfl rfl
theorem w202_15 : RB d 202 15 [l0, l1] st (S, I, R, z) Q = RB d 202 16 [l0, l1] (.int 5 :: st) (S, I, R, z) Q := RB_iconst rfl ki5
theorem w202_16 : RB d 202 16 [l0, l1] (.int i :: .ref a :: st) (S, I, R, z) Q = (((S a).1 = 9 ∧ aIx i (S a).2) ∧ RB d 202 17 [l0, l1] (.int (I a i.toNatClampNeg) :: st) (S, I, R, z) Q) := RB_iald rfl
theorem w202_17 : RB d 202 17 [l0, l1] (.int x :: .int i :: .ref a :: st) (S, I, R, z) Q = (((S a).1 = 9 ∧ aIx i (S a).2 ∧ 16 ≤ a) ∧ RB d 202 18 [l0, l1] st (S, aW I a i.toNatClampNeg x, R, z) Q) := RB_iast rfl
theorem w202_18 : RB d 202 18 [.ref a, l1] st (S, I, R, z) Q = RB d 202 19 [.ref a, l1] (.ref a :: st) (S, I, R, z) Q := RB_aloadn rfl rfl
theorem w202_19 : RB d 202 19 [l0, l1] (.ref a :: st) (S, I, R, z) Q = ((S a).1 = 7 ∧ RB d 202 22 [l0, l1] (va_rf (R a 22) :: st) (S, I, R, z) Q) := RB_getR rfl rfl
theorem w202_22 : RB d 202 22 [l0, l1] st (S, I, R, z) Q = RB d 202 23 [l0, l1] (.int 1 :: st) (S, I, R, z) Q := RB_iconst rfl ki1
theorem w202_23 : RB d 202 23 [.ref a, l1] st (S, I, R, z) Q = RB d 202 24 [.ref a, l1] (.ref a :: st) (S, I, R, z) Q := RB_aloadn rfl rfl
theorem w202_24 : RB d 202 24 [l0, l1] (.ref a :: st) (S, I, R, z) Q = ((S a).1 = 7 ∧ RB d 202 27 [l0, l1] (va_rf (R a 0) :: st) (S, I, R, z) Q) := RB_getR rfl rfl
theorem w202_27 : RB d 202 27 [l0, l1] st (S, I, R, z) Q = RB d 202 28 [l0, l1] (.int 4 :: st) (S, I, R, z) Q := RB_iconst rfl ki4
theorem w202_28 : RB d 202 28 [l0, l1] (.int i :: .ref a :: st) (S, I, R, z) Q = (((S a).1 = 9 ∧ aIx i (S a).2) ∧ RB d 202 29 [l0, l1] (.int (I a i.toNatClampNeg) :: st) (S, I, R, z) Q) := RB_iald rfl
set_option maxRecDepth 20000 in
theorem w202_29 : RB d 202 29 [l0, l1] [.int x0, s0, s1] (S, I, R, z) Q = RM d 143 [.int x0] (S, I, R, z) (fun v τ => RB d 202 32 [l0, l1] (aPush v [s0, s1]) τ Q) := RB_callS (n := 1) (t := 1) (k := 132) (ins := .invokestatic 132) rfl rfl rfl (Nat.le_of_ble_eq_true rfl) (Nat.le_of_ble_eq_true rfl) rfl rfl
theorem w202_32 : RB d 202 32 [l0, l1] (.int x :: .int i :: .ref a :: st) (S, I, R, z) Q = (((S a).1 = 9 ∧ aIx i (S a).2 ∧ 16 ≤ a) ∧ RB d 202 33 [l0, l1] st (S, aW I a i.toNatClampNeg x, R, z) Q) := RB_iast rfl
theorem w202_33 : RB d 202 33 [l0, .int x] st (S, I, R, z) Q = RB d 202 34 [l0, .int x] (.int x :: st) (S, I, R, z) Q := RB_iloadn rfl rfl
theorem w202_34 : RB d 202 34 [l0, l1] (.int x :: st) (S, I, R, z) Q = ((0 ≤ x → RB d 202 46 [l0, l1] st (S, I, R, z) Q) ∧ (¬ 0 ≤ x → RB d 202 37 [l0, l1] st (S, I, R, z) Q)) := RB_ge0 rfl (by decide) rfl
theorem w202_37 : RB d 202 37 [.ref a, l1] st (S, I, R, z) Q = RB d 202 38 [.ref a, l1] (.ref a :: st) (S, I, R, z) Q := RB_aloadn rfl rfl
theorem w202_38 : RB d 202 38 [l0, l1] (.ref a :: st) (S, I, R, z) Q = ((S a).1 = 7 ∧ RB d 202 41 [l0, l1] (va_rf (R a 0) :: st) (S, I, R, z) Q) := RB_getR rfl rfl
theorem w202_41 : RB d 202 41 [l0, l1] st (S, I, R, z) Q = RB d 202 42 [l0, l1] (.int 5 :: st) (S, I, R, z) Q := RB_iconst rfl ki5
theorem w202_42 : RB d 202 42 [l0, l1] (.int i :: .ref a :: st) (S, I, R, z) Q = (((S a).1 = 9 ∧ aIx i (S a).2) ∧ RB d 202 43 [l0, l1] (.int (I a i.toNatClampNeg) :: st) (S, I, R, z) Q) := RB_iald rfl
theorem w202_43 : RB d 202 43 [l0, l1] st (S, I, R, z) Q = RB d 202 51 [l0, l1] st (S, I, R, z) Q := RB_goto rfl (by decide) rfl
theorem w202_46 : RB d 202 46 [.ref a, l1] st (S, I, R, z) Q = RB d 202 47 [.ref a, l1] (.ref a :: st) (S, I, R, z) Q := RB_aloadn rfl rfl
theorem w202_47 : RB d 202 47 [l0, .int x] st (S, I, R, z) Q = RB d 202 48 [l0, .int x] (.int x :: st) (S, I, R, z) Q := RB_iloadn rfl rfl
set_option maxRecDepth 20000 in
theorem w202_48 : RB d 202 48 [l0, l1] [.int x0, .ref a] (S, I, R, z) Q = ((S a).1 = 7 ∧ RM d 221 [.ref a, .int x0] (S, I, R, z) (fun v τ => RB d 202 51 [l0, l1] (aPush v []) τ Q)) := RB_callV (n := 2) (t := 0) (k := 138) (ins := .invokevirtual 138) rfl rfl rfl (by decide) (Nat.le_of_ble_eq_true rfl) (Nat.le_of_ble_eq_true rfl) rfl rfl
theorem w202_51 : RB d 202 51 [l0, l1] [.int x] (S, I, R, z) Q = Q (some (.int x)) (S, I, R, z) := RB_iret rfl rfl rfl
/-! 203: HangedWordModel.feed -/
theorem w203_0 : RB d 203 0 [.ref a, l1, l2, l3, l4, l5] st (S, I, R, z) Q = RB d 203 1 [.ref a, l1, l2, l3, l4, l5] (.ref a :: st) (S, I, R, z) Q := RB_aloadn rfl rfl
theorem w203_1 : RB d 203 1 [l0, l1, l2, l3, l4, l5] (.ref a :: st) (S, I, R, z) Q = ((S a).1 = 7 ∧ RB d 203 4 [l0, l1, l2, l3, l4, l5] (.int (I a 6) :: st) (S, I, R, z) Q) := RB_getI rfl rfl
theorem w203_4 : RB d 203 4 [l0, l1, l2, l3, l4, l5] st (S, I, R, z) Q = RB d 203 6 [l0, l1, l2, l3, l4, l5] (.int 12 :: st) (S, I, R, z) Q := RB_bipush rfl kb12
theorem w203_6 : RB d 203 6 [l0, l1, l2, l3, l4, l5] (.int y :: .int x :: st) (S, I, R, z) Q = RB d 203 7 [l0, l1, l2, l3, l4, l5] (.int (x + y) :: st) (S, I, R, z) Q := RB_iadd rfl
theorem w203_7 : RB d 203 7 [l0, l1, l2, l3, l4, l5] st (S, I, R, z) Q = RB d 203 9 [l0, l1, l2, l3, l4, l5] (.int 96 :: st) (S, I, R, z) Q := RB_bipush rfl kb96
theorem w203_9 : RB d 203 9 [l0, l1, l2, l3, l4, l5] (.int y :: .int x :: st) (S, I, R, z) Q = ((x ≤ y → RB d 203 15 [l0, l1, l2, l3, l4, l5] st (S, I, R, z) Q) ∧ (¬ x ≤ y → RB d 203 12 [l0, l1, l2, l3, l4, l5] st (S, I, R, z) Q)) := RB_ile rfl (by decide) rfl
theorem w203_12 : RB d 203 12 [l0, l1, l2, l3, l4, l5] st (S, I, R, z) Q = RB d 203 14 [l0, l1, l2, l3, l4, l5] (.int (-1000000003) :: st) (S, I, R, z) Q := RB_ldc rfl rfl
theorem w203_14 : RB d 203 14 [l0, l1, l2, l3, l4, l5] [.int x] (S, I, R, z) Q = Q (some (.int x)) (S, I, R, z) := RB_iret rfl rfl rfl
theorem w203_15 : RB d 203 15 [l0, l1, l2, l3, l4, l5] st (S, I, R, z) Q = RB d 203 16 [l0, l1, l2, l3, l4, l5] (.int 0 :: st) (S, I, R, z) Q := RB_iconst rfl ki0
theorem w203_16 : RB d 203 16 [l0, l1, l2, l3, l4, l5] (.int x :: st) (S, I, R, z) Q = RB d 203 18 [l0, l1, l2, l3, .int x, l5] st (S, I, R, z) Q := RB_istore rfl (Nat.le_of_ble_eq_true rfl) rfl
theorem w203_18 : RB d 203 18 [l0, l1, l2, l3, .int x, l5] st (S, I, R, z) Q = RB d 203 20 [l0, l1, l2, l3, .int x, l5] (.int x :: st) (S, I, R, z) Q := RB_iload rfl rfl
theorem w203_20 : RB d 203 20 [l0, l1, l2, l3, l4, l5] st (S, I, R, z) Q = RB d 203 22 [l0, l1, l2, l3, l4, l5] (.int 12 :: st) (S, I, R, z) Q := RB_bipush rfl kb12
theorem w203_22 : RB d 203 22 [l0, l1, l2, l3, l4, l5] (.int y :: .int x :: st) (S, I, R, z) Q = ((y ≤ x → RB d 203 84 [l0, l1, l2, l3, l4, l5] st (S, I, R, z) Q) ∧ (¬ y ≤ x → RB d 203 25 [l0, l1, l2, l3, l4, l5] st (S, I, R, z) Q)) := RB_ige rfl (by decide) rfl
theorem w203_25 : RB d 203 25 [l0, l1, l2, l3, .int x, l5] st (S, I, R, z) Q = RB d 203 27 [l0, l1, l2, l3, .int x, l5] (.int x :: st) (S, I, R, z) Q := RB_iload rfl rfl
theorem w203_27 : RB d 203 27 [l0, l1, l2, l3, l4, l5] st (S, I, R, z) Q = RB d 203 28 [l0, l1, l2, l3, l4, l5] (.int 4 :: st) (S, I, R, z) Q := RB_iconst rfl ki4
theorem w203_28 : RB d 203 28 [l0, l1, l2, l3, l4, l5] (.int y :: .int x :: st) (S, I, R, z) Q = ((y ≤ x → RB d 203 35 [l0, l1, l2, l3, l4, l5] st (S, I, R, z) Q) ∧ (¬ y ≤ x → RB d 203 31 [l0, l1, l2, l3, l4, l5] st (S, I, R, z) Q)) := RB_ige rfl (by decide) rfl
theorem w203_31 : RB d 203 31 [l0, .int x, l2, l3, l4, l5] st (S, I, R, z) Q = RB d 203 32 [l0, .int x, l2, l3, l4, l5] (.int x :: st) (S, I, R, z) Q := RB_iloadn rfl rfl
theorem w203_32 : RB d 203 32 [l0, l1, l2, l3, l4, l5] st (S, I, R, z) Q = RB d 203 47 [l0, l1, l2, l3, l4, l5] st (S, I, R, z) Q := RB_goto rfl (by decide) rfl
theorem w203_35 : RB d 203 35 [l0, l1, l2, l3, .int x, l5] st (S, I, R, z) Q = RB d 203 37 [l0, l1, l2, l3, .int x, l5] (.int x :: st) (S, I, R, z) Q := RB_iload rfl rfl
theorem w203_37 : RB d 203 37 [l0, l1, l2, l3, l4, l5] st (S, I, R, z) Q = RB d 203 39 [l0, l1, l2, l3, l4, l5] (.int 8 :: st) (S, I, R, z) Q := RB_bipush rfl kb8
theorem w203_39 : RB d 203 39 [l0, l1, l2, l3, l4, l5] (.int y :: .int x :: st) (S, I, R, z) Q = ((y ≤ x → RB d 203 46 [l0, l1, l2, l3, l4, l5] st (S, I, R, z) Q) ∧ (¬ y ≤ x → RB d 203 42 [l0, l1, l2, l3, l4, l5] st (S, I, R, z) Q)) := RB_ige rfl (by decide) rfl
theorem w203_42 : RB d 203 42 [l0, l1, .int x, l3, l4, l5] st (S, I, R, z) Q = RB d 203 43 [l0, l1, .int x, l3, l4, l5] (.int x :: st) (S, I, R, z) Q := RB_iloadn rfl rfl
theorem w203_43 : RB d 203 43 [l0, l1, l2, l3, l4, l5] st (S, I, R, z) Q = RB d 203 47 [l0, l1, l2, l3, l4, l5] st (S, I, R, z) Q := RB_goto rfl (by decide) rfl
theorem w203_46 : RB d 203 46 [l0, l1, l2, .int x, l4, l5] st (S, I, R, z) Q = RB d 203 47 [l0, l1, l2, .int x, l4, l5] (.int x :: st) (S, I, R, z) Q := RB_iloadn rfl rfl
theorem w203_47 : RB d 203 47 [l0, l1, l2, l3, l4, l5] (.int x :: st) (S, I, R, z) Q = RB d 203 49 [l0, l1, l2, l3, l4, .int x] st (S, I, R, z) Q := RB_istore rfl (Nat.le_of_ble_eq_true rfl) rfl
theorem w203_49 : RB d 203 49 [.ref a, l1, l2, l3, l4, l5] st (S, I, R, z) Q = RB d 203 50 [.ref a, l1, l2, l3, l4, l5] (.ref a :: st) (S, I, R, z) Q := RB_aloadn rfl rfl
theorem w203_50 : RB d 203 50 [l0, l1, l2, l3, l4, l5] (.ref a :: st) (S, I, R, z) Q = ((S a).1 = 7 ∧ RB d 203 53 [l0, l1, l2, l3, l4, l5] (va_rf (R a 5) :: st) (S, I, R, z) Q) := RB_getR rfl rfl
theorem w203_53 : RB d 203 53 [.ref a, l1, l2, l3, l4, l5] st (S, I, R, z) Q = RB d 203 54 [.ref a, l1, l2, l3, l4, l5] (.ref a :: st) (S, I, R, z) Q := RB_aloadn rfl rfl
theorem w203_54 : RB d 203 54 [l0, l1, l2, l3, l4, l5] (.ref a :: st) (S, I, R, z) Q = ((S a).1 = 7 ∧ RB d 203 57 [l0, l1, l2, l3, l4, l5] (.int (I a 6) :: st) (S, I, R, z) Q) := RB_getI rfl rfl
theorem w203_57 : RB d 203 57 [l0, l1, l2, l3, .int x, l5] st (S, I, R, z) Q = RB d 203 59 [l0, l1, l2, l3, .int x, l5] (.int x :: st) (S, I, R, z) Q := RB_iload rfl rfl
theorem w203_59 : RB d 203 59 [l0, l1, l2, l3, l4, l5] (.int y :: .int x :: st) (S, I, R, z) Q = RB d 203 60 [l0, l1, l2, l3, l4, l5] (.int (x + y) :: st) (S, I, R, z) Q := RB_iadd rfl
theorem w203_60 : RB d 203 60 [l0, l1, l2, l3, l4, .int x] st (S, I, R, z) Q = RB d 203 62 [l0, l1, l2, l3, l4, .int x] (.int x :: st) (S, I, R, z) Q := RB_iload rfl rfl
theorem w203_62 : RB d 203 62 [l0, l1, l2, l3, l4, l5] st (S, I, R, z) Q = RB d 203 64 [l0, l1, l2, l3, l4, l5] (.int 24 :: st) (S, I, R, z) Q := RB_bipush rfl kb24
theorem w203_64 : RB d 203 64 [l0, l1, l2, l3, l4, l5] st (S, I, R, z) Q = RB d 203 66 [l0, l1, l2, l3, l4, l5] (.int 8 :: st) (S, I, R, z) Q := RB_bipush rfl kb8
theorem w203_66 : RB d 203 66 [l0, l1, l2, l3, .int x, l5] st (S, I, R, z) Q = RB d 203 68 [l0, l1, l2, l3, .int x, l5] (.int x :: st) (S, I, R, z) Q := RB_iload rfl rfl
theorem w203_68 : RB d 203 68 [l0, l1, l2, l3, l4, l5] st (S, I, R, z) Q = RB d 203 69 [l0, l1, l2, l3, l4, l5] (.int 4 :: st) (S, I, R, z) Q := RB_iconst rfl ki4
theorem w203_69 : RB d 203 69 [l0, l1, l2, l3, l4, l5] (.int y :: .int x :: st) (S, I, R, z) Q = (¬ y = 0 ∧ RB d 203 70 [l0, l1, l2, l3, l4, l5] (.int (x % y) :: st) (S, I, R, z) Q) := RB_irem rfl
theorem w203_70 : RB d 203 70 [l0, l1, l2, l3, l4, l5] (.int y :: .int x :: st) (S, I, R, z) Q = RB d 203 71 [l0, l1, l2, l3, l4, l5] (.int (x * y) :: st) (S, I, R, z) Q := RB_imul rfl
theorem w203_71 : RB d 203 71 [l0, l1, l2, l3, l4, l5] (.int y :: .int x :: st) (S, I, R, z) Q = RB d 203 72 [l0, l1, l2, l3, l4, l5] (.int (x - y) :: st) (S, I, R, z) Q := RB_isub rfl
theorem w203_72 : RB d 203 72 [l0, l1, l2, l3, l4, l5] (.int y :: .int x :: st) (S, I, R, z) Q = RB d 203 73 [l0, l1, l2, l3, l4, l5] (.int (x >>> (y &&& 31)) :: st) (S, I, R, z) Q := RB_ishr rfl
theorem w203_73 : RB d 203 73 [l0, l1, l2, l3, l4, l5] st (S, I, R, z) Q = RB d 203 76 [l0, l1, l2, l3, l4, l5] (.int 255 :: st) (S, I, R, z) Q := RB_sipush rfl ks255
theorem w203_76 : RB d 203 76 [l0, l1, l2, l3, l4, l5] (.int y :: .int x :: st) (S, I, R, z) Q = RB d 203 77 [l0, l1, l2, l3, l4, l5] (.int (x &&& y) :: st) (S, I, R, z) Q := RB_iand rfl
theorem w203_77 : RB d 203 77 [l0, l1, l2, l3, l4, l5] (.int x :: .int i :: .ref a :: st) (S, I, R, z) Q = (((S a).1 = 9 ∧ aIx i (S a).2 ∧ 16 ≤ a) ∧ RB d 203 78 [l0, l1, l2, l3, l4, l5] st (S, aW I a i.toNatClampNeg x, R, z) Q) := RB_iast rfl
theorem w203_78 : RB d 203 78 [l0, l1, l2, l3, .int x, l5] st (S, I, R, z) Q = RB d 203 81 [l0, l1, l2, l3, .int (x + 1), l5] st (S, I, R, z) Q := RB_iinc rfl rfl (Nat.le_of_ble_eq_true rfl) ki1 rfl
theorem w203_81 : RB d 203 81 [l0, l1, l2, l3, l4, l5] st (S, I, R, z) Q = RB d 203 18 [l0, l1, l2, l3, l4, l5] st (S, I, R, z) Q := RB_goto rfl (by decide) rfl
theorem w203_84 : RB d 203 84 [.ref a, l1, l2, l3, l4, l5] st (S, I, R, z) Q = RB d 203 85 [.ref a, l1, l2, l3, l4, l5] (.ref a :: st) (S, I, R, z) Q := RB_aloadn rfl rfl
theorem w203_85 : RB d 203 85 [l0, l1, l2, l3, l4, l5] (v :: st) (S, I, R, z) Q = RB d 203 86 [l0, l1, l2, l3, l4, l5] (v :: v :: st) (S, I, R, z) Q := RB_dup rfl
theorem w203_86 : RB d 203 86 [l0, l1, l2, l3, l4, l5] (.ref a :: st) (S, I, R, z) Q = ((S a).1 = 7 ∧ RB d 203 89 [l0, l1, l2, l3, l4, l5] (.int (I a 6) :: st) (S, I, R, z) Q) := RB_getI rfl rfl
theorem w203_89 : RB d 203 89 [l0, l1, l2, l3, l4, l5] st (S, I, R, z) Q = RB d 203 91 [l0, l1, l2, l3, l4, l5] (.int 12 :: st) (S, I, R, z) Q := RB_bipush rfl kb12
theorem w203_91 : RB d 203 91 [l0, l1, l2, l3, l4, l5] (.int y :: .int x :: st) (S, I, R, z) Q = RB d 203 92 [l0, l1, l2, l3, l4, l5] (.int (x + y) :: st) (S, I, R, z) Q := RB_iadd rfl
theorem w203_92 : RB d 203 92 [l0, l1, l2, l3, l4, l5] (.int x :: .ref a :: st) (S, I, R, z) Q = (((S a).1 = 7 ∧ 7 < 8 ∧ 16 ≤ a) ∧ RB d 203 95 [l0, l1, l2, l3, l4, l5] st (S, aW I a 6 x, R, z) Q) := RB_putI rfl rfl (Or.inl rfl)
theorem w203_95 : RB d 203 95 [.ref a, l1, l2, l3, l4, l5] st (S, I, R, z) Q = RB d 203 96 [.ref a, l1, l2, l3, l4, l5] (.ref a :: st) (S, I, R, z) Q := RB_aloadn rfl rfl
theorem w203_96 : RB d 203 96 [l0, l1, l2, l3, l4, l5] (.ref a :: st) (S, I, R, z) Q = ((S a).1 = 7 ∧ RB d 203 99 [l0, l1, l2, l3, l4, l5] (.int (I a 6) :: st) (S, I, R, z) Q) := RB_getI rfl rfl
theorem w203_99 : RB d 203 99 [l0, l1, l2, l3, l4, l5] [.int x] (S, I, R, z) Q = Q (some (.int x)) (S, I, R, z) := RB_iret rfl rfl rfl
/-! 204: HangedWordModel.trim -/
theorem w204_0 : RB d 204 0 [l0, .int x] st (S, I, R, z) Q = RB d 204 1 [l0, .int x] (.int x :: st) (S, I, R, z) Q := RB_iloadn rfl rfl
theorem w204_1 : RB d 204 1 [l0, l1] st (S, I, R, z) Q = RB d 204 2 [l0, l1] (.int 0 :: st) (S, I, R, z) Q := RB_iconst rfl ki0
theorem w204_2 : RB d 204 2 [.ref a, l1] st (S, I, R, z) Q = RB d 204 3 [.ref a, l1] (.ref a :: st) (S, I, R, z) Q := RB_aloadn rfl rfl
theorem w204_3 : RB d 204 3 [l0, l1] (.ref a :: st) (S, I, R, z) Q = ((S a).1 = 7 ∧ RB d 204 6 [l0, l1] (.int (I a 6) :: st) (S, I, R, z) Q) := RB_getI rfl rfl
set_option maxRecDepth 20000 in
theorem w204_6 : RB d 204 6 [l0, l1] [.int x2, .int x1, .int x0] (S, I, R, z) Q = RM d 135 [.int x0, .int x1, .int x2] (S, I, R, z) (fun v τ => RB d 204 9 [l0, l1] (aPush v []) τ Q) := RB_callS (n := 3) (t := 1) (k := 76) (ins := .invokestatic 76) rfl rfl rfl (Nat.le_of_ble_eq_true rfl) (Nat.le_of_ble_eq_true rfl) rfl rfl
theorem w204_9 : RB d 204 9 [l0, l1] (.int x :: st) (S, I, R, z) Q = ((x = 0 → RB d 204 12 [l0, l1] st (S, I, R, z) Q) ∧ (¬ x = 0 → RB d 204 15 [l0, l1] st (S, I, R, z) Q)) := RB_ne0 rfl (by decide) rfl
theorem w204_12 : RB d 204 12 [l0, l1] st (S, I, R, z) Q = RB d 204 14 [l0, l1] (.int (-1000000001) :: st) (S, I, R, z) Q := RB_ldc rfl rfl
theorem w204_14 : RB d 204 14 [l0, l1] [.int x] (S, I, R, z) Q = Q (some (.int x)) (S, I, R, z) := RB_iret rfl rfl rfl
theorem w204_15 : RB d 204 15 [.ref a, l1] st (S, I, R, z) Q = RB d 204 16 [.ref a, l1] (.ref a :: st) (S, I, R, z) Q := RB_aloadn rfl rfl
theorem w204_16 : RB d 204 16 [l0, .int x] st (S, I, R, z) Q = RB d 204 17 [l0, .int x] (.int x :: st) (S, I, R, z) Q := RB_iloadn rfl rfl
theorem w204_17 : RB d 204 17 [l0, l1] (.int x :: .ref a :: st) (S, I, R, z) Q = (((S a).1 = 7 ∧ 7 < 8 ∧ 16 ≤ a) ∧ RB d 204 20 [l0, l1] st (S, aW I a 6 x, R, z) Q) := RB_putI rfl rfl (Or.inl rfl)
theorem w204_20 : RB d 204 20 [l0, .int x] st (S, I, R, z) Q = RB d 204 21 [l0, .int x] (.int x :: st) (S, I, R, z) Q := RB_iloadn rfl rfl
theorem w204_21 : RB d 204 21 [l0, l1] [.int x] (S, I, R, z) Q = Q (some (.int x)) (S, I, R, z) := RB_iret rfl rfl rfl
/-! 205: HangedWordModel.isLetter -/
theorem w205_0 : RB d 205 0 [l0, .int x] st (S, I, R, z) Q = RB d 205 1 [l0, .int x] (.int x :: st) (S, I, R, z) Q := RB_iloadn rfl rfl
theorem w205_1 : RB d 205 1 [.ref a, l1] st (S, I, R, z) Q = RB d 205 2 [.ref a, l1] (.ref a :: st) (S, I, R, z) Q := RB_aloadn rfl rfl
theorem w205_2 : RB d 205 2 [l0, l1] (.ref a :: st) (S, I, R, z) Q = ((S a).1 = 7 ∧ RB d 205 5 [l0, l1] (.int (I a 6) :: st) (S, I, R, z) Q) := RB_getI rfl rfl
theorem w205_5 : RB d 205 5 [l0, l1] (.int y :: .int x :: st) (S, I, R, z) Q = ((y ≤ x → RB d 205 34 [l0, l1] st (S, I, R, z) Q) ∧ (¬ y ≤ x → RB d 205 8 [l0, l1] st (S, I, R, z) Q)) := RB_ige rfl (by decide) rfl
theorem w205_8 : RB d 205 8 [.ref a, l1] st (S, I, R, z) Q = RB d 205 9 [.ref a, l1] (.ref a :: st) (S, I, R, z) Q := RB_aloadn rfl rfl
theorem w205_9 : RB d 205 9 [l0, l1] (.ref a :: st) (S, I, R, z) Q = ((S a).1 = 7 ∧ RB d 205 12 [l0, l1] (va_rf (R a 5) :: st) (S, I, R, z) Q) := RB_getR rfl rfl
theorem w205_12 : RB d 205 12 [l0, .int x] st (S, I, R, z) Q = RB d 205 13 [l0, .int x] (.int x :: st) (S, I, R, z) Q := RB_iloadn rfl rfl
theorem w205_13 : RB d 205 13 [l0, l1] (.int i :: .ref a :: st) (S, I, R, z) Q = (((S a).1 = 9 ∧ aIx i (S a).2) ∧ RB d 205 14 [l0, l1] (.int (I a i.toNatClampNeg) :: st) (S, I, R, z) Q) := RB_iald rfl
theorem w205_14 : RB d 205 14 [l0, l1] st (S, I, R, z) Q = RB d 205 16 [l0, l1] (.int 97 :: st) (S, I, R, z) Q := RB_bipush rfl kb97
theorem w205_16 : RB d 205 16 [l0, l1] (.int y :: .int x :: st) (S, I, R, z) Q = ((x < y → RB d 205 34 [l0, l1] st (S, I, R, z) Q) ∧ (¬ x < y → RB d 205 19 [l0, l1] st (S, I, R, z) Q)) := RB_ilt rfl (by decide) rfl
theorem w205_19 : RB d 205 19 [.ref a, l1] st (S, I, R, z) Q = RB d 205 20 [.ref a, l1] (.ref a :: st) (S, I, R, z) Q := RB_aloadn rfl rfl
theorem w205_20 : RB d 205 20 [l0, l1] (.ref a :: st) (S, I, R, z) Q = ((S a).1 = 7 ∧ RB d 205 23 [l0, l1] (va_rf (R a 5) :: st) (S, I, R, z) Q) := RB_getR rfl rfl
theorem w205_23 : RB d 205 23 [l0, .int x] st (S, I, R, z) Q = RB d 205 24 [l0, .int x] (.int x :: st) (S, I, R, z) Q := RB_iloadn rfl rfl
theorem w205_24 : RB d 205 24 [l0, l1] (.int i :: .ref a :: st) (S, I, R, z) Q = (((S a).1 = 9 ∧ aIx i (S a).2) ∧ RB d 205 25 [l0, l1] (.int (I a i.toNatClampNeg) :: st) (S, I, R, z) Q) := RB_iald rfl
theorem w205_25 : RB d 205 25 [l0, l1] st (S, I, R, z) Q = RB d 205 27 [l0, l1] (.int 122 :: st) (S, I, R, z) Q := RB_bipush rfl kb122
theorem w205_27 : RB d 205 27 [l0, l1] (.int y :: .int x :: st) (S, I, R, z) Q = ((y < x → RB d 205 34 [l0, l1] st (S, I, R, z) Q) ∧ (¬ y < x → RB d 205 30 [l0, l1] st (S, I, R, z) Q)) := RB_igt rfl (by decide) rfl
theorem w205_30 : RB d 205 30 [l0, l1] st (S, I, R, z) Q = RB d 205 31 [l0, l1] (.int 1 :: st) (S, I, R, z) Q := RB_iconst rfl ki1
theorem w205_31 : RB d 205 31 [l0, l1] st (S, I, R, z) Q = RB d 205 35 [l0, l1] st (S, I, R, z) Q := RB_goto rfl (by decide) rfl
theorem w205_34 : RB d 205 34 [l0, l1] st (S, I, R, z) Q = RB d 205 35 [l0, l1] (.int 0 :: st) (S, I, R, z) Q := RB_iconst rfl ki0
theorem w205_35 : RB d 205 35 [l0, l1] [.int x] (S, I, R, z) Q = (narrow .boolean (.int x) = .int x ∧ Q (some (.int x)) (S, I, R, z)) := RB_zret rfl rfl (Or.inl rfl)
/-! 206: HangedWordModel.isFigure -/
theorem w206_0 : RB d 206 0 [l0, .int x] st (S, I, R, z) Q = RB d 206 1 [l0, .int x] (.int x :: st) (S, I, R, z) Q := RB_iloadn rfl rfl
theorem w206_1 : RB d 206 1 [.ref a, l1] st (S, I, R, z) Q = RB d 206 2 [.ref a, l1] (.ref a :: st) (S, I, R, z) Q := RB_aloadn rfl rfl
theorem w206_2 : RB d 206 2 [l0, l1] (.ref a :: st) (S, I, R, z) Q = ((S a).1 = 7 ∧ RB d 206 5 [l0, l1] (.int (I a 6) :: st) (S, I, R, z) Q) := RB_getI rfl rfl
theorem w206_5 : RB d 206 5 [l0, l1] (.int y :: .int x :: st) (S, I, R, z) Q = ((y ≤ x → RB d 206 34 [l0, l1] st (S, I, R, z) Q) ∧ (¬ y ≤ x → RB d 206 8 [l0, l1] st (S, I, R, z) Q)) := RB_ige rfl (by decide) rfl
theorem w206_8 : RB d 206 8 [.ref a, l1] st (S, I, R, z) Q = RB d 206 9 [.ref a, l1] (.ref a :: st) (S, I, R, z) Q := RB_aloadn rfl rfl
theorem w206_9 : RB d 206 9 [l0, l1] (.ref a :: st) (S, I, R, z) Q = ((S a).1 = 7 ∧ RB d 206 12 [l0, l1] (va_rf (R a 5) :: st) (S, I, R, z) Q) := RB_getR rfl rfl
theorem w206_12 : RB d 206 12 [l0, .int x] st (S, I, R, z) Q = RB d 206 13 [l0, .int x] (.int x :: st) (S, I, R, z) Q := RB_iloadn rfl rfl
theorem w206_13 : RB d 206 13 [l0, l1] (.int i :: .ref a :: st) (S, I, R, z) Q = (((S a).1 = 9 ∧ aIx i (S a).2) ∧ RB d 206 14 [l0, l1] (.int (I a i.toNatClampNeg) :: st) (S, I, R, z) Q) := RB_iald rfl
theorem w206_14 : RB d 206 14 [l0, l1] st (S, I, R, z) Q = RB d 206 16 [l0, l1] (.int 48 :: st) (S, I, R, z) Q := RB_bipush rfl kb48
theorem w206_16 : RB d 206 16 [l0, l1] (.int y :: .int x :: st) (S, I, R, z) Q = ((x < y → RB d 206 34 [l0, l1] st (S, I, R, z) Q) ∧ (¬ x < y → RB d 206 19 [l0, l1] st (S, I, R, z) Q)) := RB_ilt rfl (by decide) rfl
theorem w206_19 : RB d 206 19 [.ref a, l1] st (S, I, R, z) Q = RB d 206 20 [.ref a, l1] (.ref a :: st) (S, I, R, z) Q := RB_aloadn rfl rfl
theorem w206_20 : RB d 206 20 [l0, l1] (.ref a :: st) (S, I, R, z) Q = ((S a).1 = 7 ∧ RB d 206 23 [l0, l1] (va_rf (R a 5) :: st) (S, I, R, z) Q) := RB_getR rfl rfl
theorem w206_23 : RB d 206 23 [l0, .int x] st (S, I, R, z) Q = RB d 206 24 [l0, .int x] (.int x :: st) (S, I, R, z) Q := RB_iloadn rfl rfl
theorem w206_24 : RB d 206 24 [l0, l1] (.int i :: .ref a :: st) (S, I, R, z) Q = (((S a).1 = 9 ∧ aIx i (S a).2) ∧ RB d 206 25 [l0, l1] (.int (I a i.toNatClampNeg) :: st) (S, I, R, z) Q) := RB_iald rfl
theorem w206_25 : RB d 206 25 [l0, l1] st (S, I, R, z) Q = RB d 206 27 [l0, l1] (.int 57 :: st) (S, I, R, z) Q := RB_bipush rfl kb57
theorem w206_27 : RB d 206 27 [l0, l1] (.int y :: .int x :: st) (S, I, R, z) Q = ((y < x → RB d 206 34 [l0, l1] st (S, I, R, z) Q) ∧ (¬ y < x → RB d 206 30 [l0, l1] st (S, I, R, z) Q)) := RB_igt rfl (by decide) rfl
theorem w206_30 : RB d 206 30 [l0, l1] st (S, I, R, z) Q = RB d 206 31 [l0, l1] (.int 1 :: st) (S, I, R, z) Q := RB_iconst rfl ki1
theorem w206_31 : RB d 206 31 [l0, l1] st (S, I, R, z) Q = RB d 206 35 [l0, l1] st (S, I, R, z) Q := RB_goto rfl (by decide) rfl
theorem w206_34 : RB d 206 34 [l0, l1] st (S, I, R, z) Q = RB d 206 35 [l0, l1] (.int 0 :: st) (S, I, R, z) Q := RB_iconst rfl ki0
theorem w206_35 : RB d 206 35 [l0, l1] [.int x] (S, I, R, z) Q = (narrow .boolean (.int x) = .int x ∧ Q (some (.int x)) (S, I, R, z)) := RB_zret rfl rfl (Or.inl rfl)
/-! 207: HangedWordModel.go -/
theorem w207_0 : RB d 207 0 [.ref a, l1] st (S, I, R, z) Q = RB d 207 1 [.ref a, l1] (.ref a :: st) (S, I, R, z) Q := RB_aloadn rfl rfl
theorem w207_1 : RB d 207 1 [l0, l1] (.ref a :: st) (S, I, R, z) Q = ((S a).1 = 7 ∧ RB d 207 4 [l0, l1] (.int (I a 7) :: st) (S, I, R, z) Q) := RB_getI rfl rfl
theorem w207_4 : RB d 207 4 [.ref a, l1] st (S, I, R, z) Q = RB d 207 5 [.ref a, l1] (.ref a :: st) (S, I, R, z) Q := RB_aloadn rfl rfl
theorem w207_5 : RB d 207 5 [l0, l1] (.ref a :: st) (S, I, R, z) Q = ((S a).1 = 7 ∧ RB d 207 8 [l0, l1] (.int (I a 6) :: st) (S, I, R, z) Q) := RB_getI rfl rfl
theorem w207_8 : RB d 207 8 [l0, l1] (.int y :: .int x :: st) (S, I, R, z) Q = ((y ≤ x → RB d 207 38 [l0, l1] st (S, I, R, z) Q) ∧ (¬ y ≤ x → RB d 207 11 [l0, l1] st (S, I, R, z) Q)) := RB_ige rfl (by decide) rfl
theorem w207_11 : RB d 207 11 [.ref a, l1] st (S, I, R, z) Q = RB d 207 12 [.ref a, l1] (.ref a :: st) (S, I, R, z) Q := RB_aloadn rfl rfl
theorem w207_12 : RB d 207 12 [l0, l1] (.ref a :: st) (S, I, R, z) Q = ((S a).1 = 7 ∧ RB d 207 15 [l0, l1] (va_rf (R a 5) :: st) (S, I, R, z) Q) := RB_getR rfl rfl
theorem w207_15 : RB d 207 15 [.ref a, l1] st (S, I, R, z) Q = RB d 207 16 [.ref a, l1] (.ref a :: st) (S, I, R, z) Q := RB_aloadn rfl rfl
theorem w207_16 : RB d 207 16 [l0, l1] (.ref a :: st) (S, I, R, z) Q = ((S a).1 = 7 ∧ RB d 207 19 [l0, l1] (.int (I a 7) :: st) (S, I, R, z) Q) := RB_getI rfl rfl
theorem w207_19 : RB d 207 19 [l0, l1] (.int i :: .ref a :: st) (S, I, R, z) Q = (((S a).1 = 9 ∧ aIx i (S a).2) ∧ RB d 207 20 [l0, l1] (.int (I a i.toNatClampNeg) :: st) (S, I, R, z) Q) := RB_iald rfl
theorem w207_20 : RB d 207 20 [l0, l1] st (S, I, R, z) Q = RB d 207 22 [l0, l1] (.int 32 :: st) (S, I, R, z) Q := RB_bipush rfl kb32
theorem w207_22 : RB d 207 22 [l0, l1] (.int y :: .int x :: st) (S, I, R, z) Q = ((x = y → RB d 207 25 [l0, l1] st (S, I, R, z) Q) ∧ (¬ x = y → RB d 207 38 [l0, l1] st (S, I, R, z) Q)) := RB_ine rfl (by decide) rfl
theorem w207_25 : RB d 207 25 [.ref a, l1] st (S, I, R, z) Q = RB d 207 26 [.ref a, l1] (.ref a :: st) (S, I, R, z) Q := RB_aloadn rfl rfl
theorem w207_26 : RB d 207 26 [l0, l1] (v :: st) (S, I, R, z) Q = RB d 207 27 [l0, l1] (v :: v :: st) (S, I, R, z) Q := RB_dup rfl
theorem w207_27 : RB d 207 27 [l0, l1] (.ref a :: st) (S, I, R, z) Q = ((S a).1 = 7 ∧ RB d 207 30 [l0, l1] (.int (I a 7) :: st) (S, I, R, z) Q) := RB_getI rfl rfl
theorem w207_30 : RB d 207 30 [l0, l1] st (S, I, R, z) Q = RB d 207 31 [l0, l1] (.int 1 :: st) (S, I, R, z) Q := RB_iconst rfl ki1
theorem w207_31 : RB d 207 31 [l0, l1] (.int y :: .int x :: st) (S, I, R, z) Q = RB d 207 32 [l0, l1] (.int (x + y) :: st) (S, I, R, z) Q := RB_iadd rfl
theorem w207_32 : RB d 207 32 [l0, l1] (.int x :: .ref a :: st) (S, I, R, z) Q = (((S a).1 = 7 ∧ 7 < 8 ∧ 16 ≤ a) ∧ RB d 207 35 [l0, l1] st (S, aW I a 7 x, R, z) Q) := RB_putI rfl rfl (Or.inl rfl)
theorem w207_35 : RB d 207 35 [l0, l1] st (S, I, R, z) Q = RB d 207 0 [l0, l1] st (S, I, R, z) Q := RB_goto rfl (by decide) rfl
theorem w207_38 : RB d 207 38 [.ref a, l1] st (S, I, R, z) Q = RB d 207 39 [.ref a, l1] (.ref a :: st) (S, I, R, z) Q := RB_aloadn rfl rfl
theorem w207_39 : RB d 207 39 [.ref a, l1] st (S, I, R, z) Q = RB d 207 40 [.ref a, l1] (.ref a :: st) (S, I, R, z) Q := RB_aloadn rfl rfl
theorem w207_40 : RB d 207 40 [l0, l1] (.ref a :: st) (S, I, R, z) Q = ((S a).1 = 7 ∧ RB d 207 43 [l0, l1] (.int (I a 7) :: st) (S, I, R, z) Q) := RB_getI rfl rfl
theorem w207_43 : RB d 207 43 [l0, l1] (.int x :: .ref a :: st) (S, I, R, z) Q = (((S a).1 = 7 ∧ 7 < 8 ∧ 16 ≤ a) ∧ RB d 207 46 [l0, l1] st (S, aW I a 8 x, R, z) Q) := RB_putI rfl rfl (Or.inl rfl)
theorem w207_46 : RB d 207 46 [.ref a, l1] st (S, I, R, z) Q = RB d 207 47 [.ref a, l1] (.ref a :: st) (S, I, R, z) Q := RB_aloadn rfl rfl
theorem w207_47 : RB d 207 47 [l0, l1] (.ref a :: st) (S, I, R, z) Q = ((S a).1 = 7 ∧ RB d 207 50 [l0, l1] (.int (I a 8) :: st) (S, I, R, z) Q) := RB_getI rfl rfl
theorem w207_50 : RB d 207 50 [.ref a, l1] st (S, I, R, z) Q = RB d 207 51 [.ref a, l1] (.ref a :: st) (S, I, R, z) Q := RB_aloadn rfl rfl
theorem w207_51 : RB d 207 51 [l0, l1] (.ref a :: st) (S, I, R, z) Q = ((S a).1 = 7 ∧ RB d 207 54 [l0, l1] (.int (I a 11) :: st) (S, I, R, z) Q) := RB_getI rfl rfl
theorem w207_54 : RB d 207 54 [l0, l1] (.int y :: .int x :: st) (S, I, R, z) Q = ((x = y → RB d 207 57 [l0, l1] st (S, I, R, z) Q) ∧ (¬ x = y → RB d 207 61 [l0, l1] st (S, I, R, z) Q)) := RB_ine rfl (by decide) rfl
theorem w207_57 : RB d 207 57 [l0, l1] st (S, I, R, z) Q = RB d 207 58 [l0, l1] (.int 1 :: st) (S, I, R, z) Q := RB_iconst rfl ki1
theorem w207_58 : RB d 207 58 [l0, l1] st (S, I, R, z) Q = RB d 207 62 [l0, l1] st (S, I, R, z) Q := RB_goto rfl (by decide) rfl
theorem w207_61 : RB d 207 61 [l0, l1] st (S, I, R, z) Q = RB d 207 62 [l0, l1] (.int 0 :: st) (S, I, R, z) Q := RB_iconst rfl ki0
theorem w207_62 : RB d 207 62 [l0, l1] (.int x :: st) (S, I, R, z) Q = RB d 207 63 [l0, .int x] st (S, I, R, z) Q := RB_istoren rfl (Nat.le_of_ble_eq_true rfl) rfl
theorem w207_63 : RB d 207 63 [.ref a, l1] st (S, I, R, z) Q = RB d 207 64 [.ref a, l1] (.ref a :: st) (S, I, R, z) Q := RB_aloadn rfl rfl
theorem w207_64 : RB d 207 64 [l0, l1] (.ref a :: st) (S, I, R, z) Q = ((S a).1 = 7 ∧ RB d 207 67 [l0, l1] (.int (I a 8) :: st) (S, I, R, z) Q) := RB_getI rfl rfl
theorem w207_67 : RB d 207 67 [.ref a, l1] st (S, I, R, z) Q = RB d 207 68 [.ref a, l1] (.ref a :: st) (S, I, R, z) Q := RB_aloadn rfl rfl
theorem w207_68 : RB d 207 68 [l0, l1] (.ref a :: st) (S, I, R, z) Q = ((S a).1 = 7 ∧ RB d 207 71 [l0, l1] (.int (I a 6) :: st) (S, I, R, z) Q) := RB_getI rfl rfl
theorem w207_71 : RB d 207 71 [l0, l1] (.int y :: .int x :: st) (S, I, R, z) Q = ((x = y → RB d 207 74 [l0, l1] st (S, I, R, z) Q) ∧ (¬ x = y → RB d 207 82 [l0, l1] st (S, I, R, z) Q)) := RB_ine rfl (by decide) rfl
theorem w207_74 : RB d 207 74 [.ref a, l1] st (S, I, R, z) Q = RB d 207 75 [.ref a, l1] (.ref a :: st) (S, I, R, z) Q := RB_aloadn rfl rfl
theorem w207_75 : RB d 207 75 [l0, l1] st (S, I, R, z) Q = RB d 207 76 [l0, l1] (.int 0 :: st) (S, I, R, z) Q := RB_iconst rfl ki0
theorem w207_76 : RB d 207 76 [l0, l1] (.int x :: .ref a :: st) (S, I, R, z) Q = (((S a).1 = 7 ∧ 7 < 8 ∧ 16 ≤ a) ∧ RB d 207 79 [l0, l1] st (S, aW I a 9 x, R, z) Q) := RB_putI rfl rfl (Or.inl rfl)
theorem w207_79 : RB d 207 79 [l0, l1] st (S, I, R, z) Q = RB d 207 303 [l0, l1] st (S, I, R, z) Q := RB_goto rfl (by decide) rfl
theorem w207_82 : RB d 207 82 [.ref a, l1] st (S, I, R, z) Q = RB d 207 83 [.ref a, l1] (.ref a :: st) (S, I, R, z) Q := RB_aloadn rfl rfl
theorem w207_83 : RB d 207 83 [.ref a, l1] st (S, I, R, z) Q = RB d 207 84 [.ref a, l1] (.ref a :: st) (S, I, R, z) Q := RB_aloadn rfl rfl
theorem w207_84 : RB d 207 84 [l0, l1] (.ref a :: st) (S, I, R, z) Q = ((S a).1 = 7 ∧ RB d 207 87 [l0, l1] (.int (I a 8) :: st) (S, I, R, z) Q) := RB_getI rfl rfl
set_option maxRecDepth 20000 in
theorem w207_87 : RB d 207 87 [l0, l1] [.int x0, .ref a] (S, I, R, z) Q = ((S a).1 = 7 ∧ RM d 205 [.ref a, .int x0] (S, I, R, z) (fun v τ => RB d 207 90 [l0, l1] (aPush v []) τ Q)) := RB_callV (n := 2) (t := 0) (k := 242) (ins := .invokevirtual 242) rfl rfl rfl (by decide) (Nat.le_of_ble_eq_true rfl) (Nat.le_of_ble_eq_true rfl) rfl rfl
theorem w207_90 : RB d 207 90 [l0, l1] (.int x :: st) (S, I, R, z) Q = ((x = 0 → RB d 207 154 [l0, l1] st (S, I, R, z) Q) ∧ (¬ x = 0 → RB d 207 93 [l0, l1] st (S, I, R, z) Q)) := RB_eq0 rfl (by decide) rfl
theorem w207_93 : RB d 207 93 [.ref a, l1] st (S, I, R, z) Q = RB d 207 94 [.ref a, l1] (.ref a :: st) (S, I, R, z) Q := RB_aloadn rfl rfl
theorem w207_94 : RB d 207 94 [.ref a, l1] st (S, I, R, z) Q = RB d 207 95 [.ref a, l1] (.ref a :: st) (S, I, R, z) Q := RB_aloadn rfl rfl
theorem w207_95 : RB d 207 95 [l0, l1] (.ref a :: st) (S, I, R, z) Q = ((S a).1 = 7 ∧ RB d 207 98 [l0, l1] (.int (I a 7) :: st) (S, I, R, z) Q) := RB_getI rfl rfl
set_option maxRecDepth 20000 in
theorem w207_98 : RB d 207 98 [l0, l1] [.int x0, .ref a] (S, I, R, z) Q = ((S a).1 = 7 ∧ RM d 205 [.ref a, .int x0] (S, I, R, z) (fun v τ => RB d 207 101 [l0, l1] (aPush v []) τ Q)) := RB_callV (n := 2) (t := 0) (k := 242) (ins := .invokevirtual 242) rfl rfl rfl (by decide) (Nat.le_of_ble_eq_true rfl) (Nat.le_of_ble_eq_true rfl) rfl rfl
theorem w207_101 : RB d 207 101 [l0, l1] (.int x :: st) (S, I, R, z) Q = ((x = 0 → RB d 207 117 [l0, l1] st (S, I, R, z) Q) ∧ (¬ x = 0 → RB d 207 104 [l0, l1] st (S, I, R, z) Q)) := RB_eq0 rfl (by decide) rfl
theorem w207_104 : RB d 207 104 [.ref a, l1] st (S, I, R, z) Q = RB d 207 105 [.ref a, l1] (.ref a :: st) (S, I, R, z) Q := RB_aloadn rfl rfl
theorem w207_105 : RB d 207 105 [l0, l1] (v :: st) (S, I, R, z) Q = RB d 207 106 [l0, l1] (v :: v :: st) (S, I, R, z) Q := RB_dup rfl
theorem w207_106 : RB d 207 106 [l0, l1] (.ref a :: st) (S, I, R, z) Q = ((S a).1 = 7 ∧ RB d 207 109 [l0, l1] (.int (I a 7) :: st) (S, I, R, z) Q) := RB_getI rfl rfl
theorem w207_109 : RB d 207 109 [l0, l1] st (S, I, R, z) Q = RB d 207 110 [l0, l1] (.int 1 :: st) (S, I, R, z) Q := RB_iconst rfl ki1
theorem w207_110 : RB d 207 110 [l0, l1] (.int y :: .int x :: st) (S, I, R, z) Q = RB d 207 111 [l0, l1] (.int (x + y) :: st) (S, I, R, z) Q := RB_iadd rfl
theorem w207_111 : RB d 207 111 [l0, l1] (.int x :: .ref a :: st) (S, I, R, z) Q = (((S a).1 = 7 ∧ 7 < 8 ∧ 16 ≤ a) ∧ RB d 207 114 [l0, l1] st (S, aW I a 7 x, R, z) Q) := RB_putI rfl rfl (Or.inl rfl)
theorem w207_114 : RB d 207 114 [l0, l1] st (S, I, R, z) Q = RB d 207 93 [l0, l1] st (S, I, R, z) Q := RB_goto rfl (by decide) rfl
theorem w207_117 : RB d 207 117 [.ref a, l1] st (S, I, R, z) Q = RB d 207 118 [.ref a, l1] (.ref a :: st) (S, I, R, z) Q := RB_aloadn rfl rfl
theorem w207_118 : RB d 207 118 [l0, .int x] st (S, I, R, z) Q = RB d 207 119 [l0, .int x] (.int x :: st) (S, I, R, z) Q := RB_iloadn rfl rfl
theorem w207_119 : RB d 207 119 [l0, l1] (.int x :: st) (S, I, R, z) Q = ((x = 0 → RB d 207 126 [l0, l1] st (S, I, R, z) Q) ∧ (¬ x = 0 → RB d 207 122 [l0, l1] st (S, I, R, z) Q)) := RB_eq0 rfl (by decide) rfl
theorem w207_122 : RB d 207 122 [l0, l1] st (S, I, R, z) Q = RB d 207 123 [l0, l1] (.int 4 :: st) (S, I, R, z) Q := RB_iconst rfl ki4
theorem w207_123 : RB d 207 123 [l0, l1] st (S, I, R, z) Q = RB d 207 127 [l0, l1] st (S, I, R, z) Q := RB_goto rfl (by decide) rfl
theorem w207_126 : RB d 207 126 [l0, l1] st (S, I, R, z) Q = RB d 207 127 [l0, l1] (.int 1 :: st) (S, I, R, z) Q := RB_iconst rfl ki1
theorem w207_127 : RB d 207 127 [l0, l1] (.int x :: .ref a :: st) (S, I, R, z) Q = (((S a).1 = 7 ∧ 7 < 8 ∧ 16 ≤ a) ∧ RB d 207 130 [l0, l1] st (S, aW I a 9 x, R, z) Q) := RB_putI rfl rfl (Or.inl rfl)
theorem w207_130 : RB d 207 130 [.ref a, l1] st (S, I, R, z) Q = RB d 207 131 [.ref a, l1] (.ref a :: st) (S, I, R, z) Q := RB_aloadn rfl rfl
theorem w207_131 : RB d 207 131 [.ref a, l1] st (S, I, R, z) Q = RB d 207 132 [.ref a, l1] (.ref a :: st) (S, I, R, z) Q := RB_aloadn rfl rfl
theorem w207_132 : RB d 207 132 [l0, l1] (.ref a :: st) (S, I, R, z) Q = ((S a).1 = 7 ∧ RB d 207 135 [l0, l1] (va_rf (R a 5) :: st) (S, I, R, z) Q) := RB_getR rfl rfl
theorem w207_135 : RB d 207 135 [.ref a, l1] st (S, I, R, z) Q = RB d 207 136 [.ref a, l1] (.ref a :: st) (S, I, R, z) Q := RB_aloadn rfl rfl
theorem w207_136 : RB d 207 136 [l0, l1] (.ref a :: st) (S, I, R, z) Q = ((S a).1 = 7 ∧ RB d 207 139 [l0, l1] (.int (I a 8) :: st) (S, I, R, z) Q) := RB_getI rfl rfl
theorem w207_139 : RB d 207 139 [l0, l1] (.int i :: .ref a :: st) (S, I, R, z) Q = (((S a).1 = 9 ∧ aIx i (S a).2) ∧ RB d 207 140 [l0, l1] (.int (I a i.toNatClampNeg) :: st) (S, I, R, z) Q) := RB_iald rfl
theorem w207_140 : RB d 207 140 [l0, l1] (.int x :: .ref a :: st) (S, I, R, z) Q = (((S a).1 = 7 ∧ 7 < 8 ∧ 16 ≤ a) ∧ RB d 207 143 [l0, l1] st (S, aW I a 10 x, R, z) Q) := RB_putI rfl rfl (Or.inl rfl)
theorem w207_143 : RB d 207 143 [.ref a, l1] st (S, I, R, z) Q = RB d 207 144 [.ref a, l1] (.ref a :: st) (S, I, R, z) Q := RB_aloadn rfl rfl
theorem w207_144 : RB d 207 144 [.ref a, l1] st (S, I, R, z) Q = RB d 207 145 [.ref a, l1] (.ref a :: st) (S, I, R, z) Q := RB_aloadn rfl rfl
theorem w207_145 : RB d 207 145 [l0, l1] (.ref a :: st) (S, I, R, z) Q = ((S a).1 = 7 ∧ RB d 207 148 [l0, l1] (.int (I a 7) :: st) (S, I, R, z) Q) := RB_getI rfl rfl
theorem w207_148 : RB d 207 148 [l0, l1] (.int x :: .ref a :: st) (S, I, R, z) Q = (((S a).1 = 7 ∧ 7 < 8 ∧ 16 ≤ a) ∧ RB d 207 151 [l0, l1] st (S, aW I a 11 x, R, z) Q) := RB_putI rfl rfl (Or.inl rfl)
theorem w207_151 : RB d 207 151 [l0, l1] st (S, I, R, z) Q = RB d 207 303 [l0, l1] st (S, I, R, z) Q := RB_goto rfl (by decide) rfl
theorem w207_154 : RB d 207 154 [.ref a, l1] st (S, I, R, z) Q = RB d 207 155 [.ref a, l1] (.ref a :: st) (S, I, R, z) Q := RB_aloadn rfl rfl
theorem w207_155 : RB d 207 155 [.ref a, l1] st (S, I, R, z) Q = RB d 207 156 [.ref a, l1] (.ref a :: st) (S, I, R, z) Q := RB_aloadn rfl rfl
theorem w207_156 : RB d 207 156 [l0, l1] (.ref a :: st) (S, I, R, z) Q = ((S a).1 = 7 ∧ RB d 207 159 [l0, l1] (.int (I a 8) :: st) (S, I, R, z) Q) := RB_getI rfl rfl
set_option maxRecDepth 20000 in
theorem w207_159 : RB d 207 159 [l0, l1] [.int x0, .ref a] (S, I, R, z) Q = ((S a).1 = 7 ∧ RM d 206 [.ref a, .int x0] (S, I, R, z) (fun v τ => RB d 207 162 [l0, l1] (aPush v []) τ Q)) := RB_callV (n := 2) (t := 0) (k := 248) (ins := .invokevirtual 248) rfl rfl rfl (by decide) (Nat.le_of_ble_eq_true rfl) (Nat.le_of_ble_eq_true rfl) rfl rfl
theorem w207_162 : RB d 207 162 [l0, l1] (.int x :: st) (S, I, R, z) Q = ((x = 0 → RB d 207 275 [l0, l1] st (S, I, R, z) Q) ∧ (¬ x = 0 → RB d 207 165 [l0, l1] st (S, I, R, z) Q)) := RB_eq0 rfl (by decide) rfl
theorem w207_165 : RB d 207 165 [.ref a, l1] st (S, I, R, z) Q = RB d 207 166 [.ref a, l1] (.ref a :: st) (S, I, R, z) Q := RB_aloadn rfl rfl
theorem w207_166 : RB d 207 166 [l0, l1] st (S, I, R, z) Q = RB d 207 167 [l0, l1] (.int 0 :: st) (S, I, R, z) Q := RB_iconst rfl ki0
theorem w207_167 : RB d 207 167 [l0, l1] (.int x :: .ref a :: st) (S, I, R, z) Q = (((S a).1 = 7 ∧ 7 < 8 ∧ 16 ≤ a) ∧ RB d 207 170 [l0, l1] st (S, aW I a 10 x, R, z) Q) := RB_putI rfl rfl (Or.inl rfl)
theorem w207_170 : RB d 207 170 [.ref a, l1] st (S, I, R, z) Q = RB d 207 171 [.ref a, l1] (.ref a :: st) (S, I, R, z) Q := RB_aloadn rfl rfl
theorem w207_171 : RB d 207 171 [.ref a, l1] st (S, I, R, z) Q = RB d 207 172 [.ref a, l1] (.ref a :: st) (S, I, R, z) Q := RB_aloadn rfl rfl
theorem w207_172 : RB d 207 172 [l0, l1] (.ref a :: st) (S, I, R, z) Q = ((S a).1 = 7 ∧ RB d 207 175 [l0, l1] (.int (I a 7) :: st) (S, I, R, z) Q) := RB_getI rfl rfl
set_option maxRecDepth 20000 in
theorem w207_175 : RB d 207 175 [l0, l1] [.int x0, .ref a] (S, I, R, z) Q = ((S a).1 = 7 ∧ RM d 206 [.ref a, .int x0] (S, I, R, z) (fun v τ => RB d 207 178 [l0, l1] (aPush v []) τ Q)) := RB_callV (n := 2) (t := 0) (k := 248) (ins := .invokevirtual 248) rfl rfl rfl (by decide) (Nat.le_of_ble_eq_true rfl) (Nat.le_of_ble_eq_true rfl) rfl rfl
theorem w207_178 : RB d 207 178 [l0, l1] (.int x :: st) (S, I, R, z) Q = ((x = 0 → RB d 207 238 [l0, l1] st (S, I, R, z) Q) ∧ (¬ x = 0 → RB d 207 181 [l0, l1] st (S, I, R, z) Q)) := RB_eq0 rfl (by decide) rfl
theorem w207_181 : RB d 207 181 [.ref a, l1] st (S, I, R, z) Q = RB d 207 182 [.ref a, l1] (.ref a :: st) (S, I, R, z) Q := RB_aloadn rfl rfl
theorem w207_182 : RB d 207 182 [.ref a, l1] st (S, I, R, z) Q = RB d 207 183 [.ref a, l1] (.ref a :: st) (S, I, R, z) Q := RB_aloadn rfl rfl
theorem w207_183 : RB d 207 183 [l0, l1] (.ref a :: st) (S, I, R, z) Q = ((S a).1 = 7 ∧ RB d 207 186 [l0, l1] (.int (I a 7) :: st) (S, I, R, z) Q) := RB_getI rfl rfl
theorem w207_186 : RB d 207 186 [.ref a, l1] st (S, I, R, z) Q = RB d 207 187 [.ref a, l1] (.ref a :: st) (S, I, R, z) Q := RB_aloadn rfl rfl
theorem w207_187 : RB d 207 187 [l0, l1] (.ref a :: st) (S, I, R, z) Q = ((S a).1 = 7 ∧ RB d 207 190 [l0, l1] (.int (I a 8) :: st) (S, I, R, z) Q) := RB_getI rfl rfl
theorem w207_190 : RB d 207 190 [l0, l1] (.int y :: .int x :: st) (S, I, R, z) Q = RB d 207 191 [l0, l1] (.int (x - y) :: st) (S, I, R, z) Q := RB_isub rfl
theorem w207_191 : RB d 207 191 [l0, l1] st (S, I, R, z) Q = RB d 207 192 [l0, l1] (.int 4 :: st) (S, I, R, z) Q := RB_iconst rfl ki4
theorem w207_192 : RB d 207 192 [l0, l1] (.int y :: .int x :: st) (S, I, R, z) Q = ((y ≤ x → RB d 207 218 [l0, l1] st (S, I, R, z) Q) ∧ (¬ y ≤ x → RB d 207 195 [l0, l1] st (S, I, R, z) Q)) := RB_ige rfl (by decide) rfl
theorem w207_195 : RB d 207 195 [l0, l1] st (S, I, R, z) Q = RB d 207 197 [l0, l1] (.int 10 :: st) (S, I, R, z) Q := RB_bipush rfl kb10
theorem w207_197 : RB d 207 197 [.ref a, l1] st (S, I, R, z) Q = RB d 207 198 [.ref a, l1] (.ref a :: st) (S, I, R, z) Q := RB_aloadn rfl rfl
theorem w207_198 : RB d 207 198 [l0, l1] (.ref a :: st) (S, I, R, z) Q = ((S a).1 = 7 ∧ RB d 207 201 [l0, l1] (.int (I a 10) :: st) (S, I, R, z) Q) := RB_getI rfl rfl
theorem w207_201 : RB d 207 201 [l0, l1] (.int y :: .int x :: st) (S, I, R, z) Q = RB d 207 202 [l0, l1] (.int (x * y) :: st) (S, I, R, z) Q := RB_imul rfl
theorem w207_202 : RB d 207 202 [.ref a, l1] st (S, I, R, z) Q = RB d 207 203 [.ref a, l1] (.ref a :: st) (S, I, R, z) Q := RB_aloadn rfl rfl
theorem w207_203 : RB d 207 203 [l0, l1] (.ref a :: st) (S, I, R, z) Q = ((S a).1 = 7 ∧ RB d 207 206 [l0, l1] (va_rf (R a 5) :: st) (S, I, R, z) Q) := RB_getR rfl rfl
theorem w207_206 : RB d 207 206 [.ref a, l1] st (S, I, R, z) Q = RB d 207 207 [.ref a, l1] (.ref a :: st) (S, I, R, z) Q := RB_aloadn rfl rfl
theorem w207_207 : RB d 207 207 [l0, l1] (.ref a :: st) (S, I, R, z) Q = ((S a).1 = 7 ∧ RB d 207 210 [l0, l1] (.int (I a 7) :: st) (S, I, R, z) Q) := RB_getI rfl rfl
theorem w207_210 : RB d 207 210 [l0, l1] (.int i :: .ref a :: st) (S, I, R, z) Q = (((S a).1 = 9 ∧ aIx i (S a).2) ∧ RB d 207 211 [l0, l1] (.int (I a i.toNatClampNeg) :: st) (S, I, R, z) Q) := RB_iald rfl
theorem w207_211 : RB d 207 211 [l0, l1] (.int y :: .int x :: st) (S, I, R, z) Q = RB d 207 212 [l0, l1] (.int (x + y) :: st) (S, I, R, z) Q := RB_iadd rfl
theorem w207_212 : RB d 207 212 [l0, l1] st (S, I, R, z) Q = RB d 207 214 [l0, l1] (.int 48 :: st) (S, I, R, z) Q := RB_bipush rfl kb48
theorem w207_214 : RB d 207 214 [l0, l1] (.int y :: .int x :: st) (S, I, R, z) Q = RB d 207 215 [l0, l1] (.int (x - y) :: st) (S, I, R, z) Q := RB_isub rfl
theorem w207_215 : RB d 207 215 [l0, l1] st (S, I, R, z) Q = RB d 207 222 [l0, l1] st (S, I, R, z) Q := RB_goto rfl (by decide) rfl
theorem w207_218 : RB d 207 218 [.ref a, l1] st (S, I, R, z) Q = RB d 207 219 [.ref a, l1] (.ref a :: st) (S, I, R, z) Q := RB_aloadn rfl rfl
theorem w207_219 : RB d 207 219 [l0, l1] (.ref a :: st) (S, I, R, z) Q = ((S a).1 = 7 ∧ RB d 207 222 [l0, l1] (.int (I a 10) :: st) (S, I, R, z) Q) := RB_getI rfl rfl
theorem w207_222 : RB d 207 222 [l0, l1] (.int x :: .ref a :: st) (S, I, R, z) Q = (((S a).1 = 7 ∧ 7 < 8 ∧ 16 ≤ a) ∧ RB d 207 225 [l0, l1] st (S, aW I a 10 x, R, z) Q) := RB_putI rfl rfl (Or.inl rfl)
theorem w207_225 : RB d 207 225 [.ref a, l1] st (S, I, R, z) Q = RB d 207 226 [.ref a, l1] (.ref a :: st) (S, I, R, z) Q := RB_aloadn rfl rfl
theorem w207_226 : RB d 207 226 [l0, l1] (v :: st) (S, I, R, z) Q = RB d 207 227 [l0, l1] (v :: v :: st) (S, I, R, z) Q := RB_dup rfl
theorem w207_227 : RB d 207 227 [l0, l1] (.ref a :: st) (S, I, R, z) Q = ((S a).1 = 7 ∧ RB d 207 230 [l0, l1] (.int (I a 7) :: st) (S, I, R, z) Q) := RB_getI rfl rfl
theorem w207_230 : RB d 207 230 [l0, l1] st (S, I, R, z) Q = RB d 207 231 [l0, l1] (.int 1 :: st) (S, I, R, z) Q := RB_iconst rfl ki1
theorem w207_231 : RB d 207 231 [l0, l1] (.int y :: .int x :: st) (S, I, R, z) Q = RB d 207 232 [l0, l1] (.int (x + y) :: st) (S, I, R, z) Q := RB_iadd rfl
theorem w207_232 : RB d 207 232 [l0, l1] (.int x :: .ref a :: st) (S, I, R, z) Q = (((S a).1 = 7 ∧ 7 < 8 ∧ 16 ≤ a) ∧ RB d 207 235 [l0, l1] st (S, aW I a 7 x, R, z) Q) := RB_putI rfl rfl (Or.inl rfl)
theorem w207_235 : RB d 207 235 [l0, l1] st (S, I, R, z) Q = RB d 207 170 [l0, l1] st (S, I, R, z) Q := RB_goto rfl (by decide) rfl
theorem w207_238 : RB d 207 238 [.ref a, l1] st (S, I, R, z) Q = RB d 207 239 [.ref a, l1] (.ref a :: st) (S, I, R, z) Q := RB_aloadn rfl rfl
theorem w207_239 : RB d 207 239 [l0, .int x] st (S, I, R, z) Q = RB d 207 240 [l0, .int x] (.int x :: st) (S, I, R, z) Q := RB_iloadn rfl rfl
theorem w207_240 : RB d 207 240 [l0, l1] (.int x :: st) (S, I, R, z) Q = ((x = 0 → RB d 207 243 [l0, l1] st (S, I, R, z) Q) ∧ (¬ x = 0 → RB d 207 256 [l0, l1] st (S, I, R, z) Q)) := RB_ne0 rfl (by decide) rfl
theorem w207_243 : RB d 207 243 [.ref a, l1] st (S, I, R, z) Q = RB d 207 244 [.ref a, l1] (.ref a :: st) (S, I, R, z) Q := RB_aloadn rfl rfl
theorem w207_244 : RB d 207 244 [l0, l1] (.ref a :: st) (S, I, R, z) Q = ((S a).1 = 7 ∧ RB d 207 247 [l0, l1] (.int (I a 7) :: st) (S, I, R, z) Q) := RB_getI rfl rfl
set_option maxRecDepth 20000 in
theorem w207_247 : RB d 207 247 [.ref a, l1] st (S, I, R, z) Q = RB d 207 248 [.ref a, l1] (.ref a :: st) (S, I, R, z) Q := RB_aloadn rfl rfl
set_option maxRecDepth 20000 in
theorem w207_248 : RB d 207 248 [l0, l1] (.ref a :: st) (S, I, R, z) Q = ((S a).1 = 7 ∧ RB d 207 251 [l0, l1] (.int (I a 8) :: st) (S, I, R, z) Q) := RB_getI rfl rfl
set_option maxRecDepth 20000 in
theorem w207_251 : RB d 207 251 [l0, l1] (.int y :: .int x :: st) (S, I, R, z) Q = RB d 207 252 [l0, l1] (.int (x - y) :: st) (S, I, R, z) Q := RB_isub rfl
set_option maxRecDepth 20000 in
theorem w207_252 : RB d 207 252 [l0, l1] st (S, I, R, z) Q = RB d 207 253 [l0, l1] (.int 4 :: st) (S, I, R, z) Q := RB_iconst rfl ki4
set_option maxRecDepth 20000 in
theorem w207_253 : RB d 207 253 [l0, l1] (.int y :: .int x :: st) (S, I, R, z) Q = ((x ≤ y → RB d 207 260 [l0, l1] st (S, I, R, z) Q) ∧ (¬ x ≤ y → RB d 207 256 [l0, l1] st (S, I, R, z) Q)) := RB_ile rfl (by decide) rfl
set_option maxRecDepth 20000 in
theorem w207_256 : RB d 207 256 [l0, l1] st (S, I, R, z) Q = RB d 207 257 [l0, l1] (.int 4 :: st) (S, I, R, z) Q := RB_iconst rfl ki4
set_option maxRecDepth 20000 in
theorem w207_257 : RB d 207 257 [l0, l1] st (S, I, R, z) Q = RB d 207 261 [l0, l1] st (S, I, R, z) Q := RB_goto rfl (by decide) rfl
set_option maxRecDepth 20000 in
theorem w207_260 : RB d 207 260 [l0, l1] st (S, I, R, z) Q = RB d 207 261 [l0, l1] (.int 2 :: st) (S, I, R, z) Q := RB_iconst rfl ki2
set_option maxRecDepth 20000 in
theorem w207_261 : RB d 207 261 [l0, l1] (.int x :: .ref a :: st) (S, I, R, z) Q = (((S a).1 = 7 ∧ 7 < 8 ∧ 16 ≤ a) ∧ RB d 207 264 [l0, l1] st (S, aW I a 9 x, R, z) Q) := RB_putI rfl rfl (Or.inl rfl)
set_option maxRecDepth 20000 in
theorem w207_264 : RB d 207 264 [.ref a, l1] st (S, I, R, z) Q = RB d 207 265 [.ref a, l1] (.ref a :: st) (S, I, R, z) Q := RB_aloadn rfl rfl
set_option maxRecDepth 20000 in
theorem w207_265 : RB d 207 265 [.ref a, l1] st (S, I, R, z) Q = RB d 207 266 [.ref a, l1] (.ref a :: st) (S, I, R, z) Q := RB_aloadn rfl rfl
set_option maxRecDepth 20000 in
theorem w207_266 : RB d 207 266 [l0, l1] (.ref a :: st) (S, I, R, z) Q = ((S a).1 = 7 ∧ RB d 207 269 [l0, l1] (.int (I a 7) :: st) (S, I, R, z) Q) := RB_getI rfl rfl
set_option maxRecDepth 20000 in
theorem w207_269 : RB d 207 269 [l0, l1] (.int x :: .ref a :: st) (S, I, R, z) Q = (((S a).1 = 7 ∧ 7 < 8 ∧ 16 ≤ a) ∧ RB d 207 272 [l0, l1] st (S, aW I a 11 x, R, z) Q) := RB_putI rfl rfl (Or.inl rfl)
set_option maxRecDepth 20000 in
theorem w207_272 : RB d 207 272 [l0, l1] st (S, I, R, z) Q = RB d 207 303 [l0, l1] st (S, I, R, z) Q := RB_goto rfl (by decide) rfl
set_option maxRecDepth 20000 in
theorem w207_275 : RB d 207 275 [.ref a, l1] st (S, I, R, z) Q = RB d 207 276 [.ref a, l1] (.ref a :: st) (S, I, R, z) Q := RB_aloadn rfl rfl
set_option maxRecDepth 20000 in
theorem w207_276 : RB d 207 276 [l0, l1] st (S, I, R, z) Q = RB d 207 277 [l0, l1] (.int 3 :: st) (S, I, R, z) Q := RB_iconst rfl ki3
set_option maxRecDepth 20000 in
theorem w207_277 : RB d 207 277 [l0, l1] (.int x :: .ref a :: st) (S, I, R, z) Q = (((S a).1 = 7 ∧ 7 < 8 ∧ 16 ≤ a) ∧ RB d 207 280 [l0, l1] st (S, aW I a 9 x, R, z) Q) := RB_putI rfl rfl (Or.inl rfl)
set_option maxRecDepth 20000 in
theorem w207_280 : RB d 207 280 [.ref a, l1] st (S, I, R, z) Q = RB d 207 281 [.ref a, l1] (.ref a :: st) (S, I, R, z) Q := RB_aloadn rfl rfl
set_option maxRecDepth 20000 in
theorem w207_281 : RB d 207 281 [.ref a, l1] st (S, I, R, z) Q = RB d 207 282 [.ref a, l1] (.ref a :: st) (S, I, R, z) Q := RB_aloadn rfl rfl
set_option maxRecDepth 20000 in
theorem w207_282 : RB d 207 282 [l0, l1] (.ref a :: st) (S, I, R, z) Q = ((S a).1 = 7 ∧ RB d 207 285 [l0, l1] (va_rf (R a 5) :: st) (S, I, R, z) Q) := RB_getR rfl rfl
set_option maxRecDepth 20000 in
theorem w207_285 : RB d 207 285 [.ref a, l1] st (S, I, R, z) Q = RB d 207 286 [.ref a, l1] (.ref a :: st) (S, I, R, z) Q := RB_aloadn rfl rfl
set_option maxRecDepth 20000 in
theorem w207_286 : RB d 207 286 [l0, l1] (.ref a :: st) (S, I, R, z) Q = ((S a).1 = 7 ∧ RB d 207 289 [l0, l1] (.int (I a 8) :: st) (S, I, R, z) Q) := RB_getI rfl rfl
set_option maxRecDepth 20000 in
theorem w207_289 : RB d 207 289 [l0, l1] (.int i :: .ref a :: st) (S, I, R, z) Q = (((S a).1 = 9 ∧ aIx i (S a).2) ∧ RB d 207 290 [l0, l1] (.int (I a i.toNatClampNeg) :: st) (S, I, R, z) Q) := RB_iald rfl
set_option maxRecDepth 20000 in
theorem w207_290 : RB d 207 290 [l0, l1] (.int x :: .ref a :: st) (S, I, R, z) Q = (((S a).1 = 7 ∧ 7 < 8 ∧ 16 ≤ a) ∧ RB d 207 293 [l0, l1] st (S, aW I a 10 x, R, z) Q) := RB_putI rfl rfl (Or.inl rfl)
set_option maxRecDepth 20000 in
theorem w207_293 : RB d 207 293 [.ref a, l1] st (S, I, R, z) Q = RB d 207 294 [.ref a, l1] (.ref a :: st) (S, I, R, z) Q := RB_aloadn rfl rfl
set_option maxRecDepth 20000 in
theorem w207_294 : RB d 207 294 [l0, l1] (v :: st) (S, I, R, z) Q = RB d 207 295 [l0, l1] (v :: v :: st) (S, I, R, z) Q := RB_dup rfl
set_option maxRecDepth 20000 in
theorem w207_295 : RB d 207 295 [l0, l1] (.ref a :: st) (S, I, R, z) Q = ((S a).1 = 7 ∧ RB d 207 298 [l0, l1] (.int (I a 7) :: st) (S, I, R, z) Q) := RB_getI rfl rfl
set_option maxRecDepth 20000 in
theorem w207_298 : RB d 207 298 [l0, l1] st (S, I, R, z) Q = RB d 207 299 [l0, l1] (.int 1 :: st) (S, I, R, z) Q := RB_iconst rfl ki1
set_option maxRecDepth 20000 in
theorem w207_299 : RB d 207 299 [l0, l1] (.int y :: .int x :: st) (S, I, R, z) Q = RB d 207 300 [l0, l1] (.int (x + y) :: st) (S, I, R, z) Q := RB_iadd rfl
set_option maxRecDepth 20000 in
theorem w207_300 : RB d 207 300 [l0, l1] (.int x :: .ref a :: st) (S, I, R, z) Q = (((S a).1 = 7 ∧ 7 < 8 ∧ 16 ≤ a) ∧ RB d 207 303 [l0, l1] st (S, aW I a 7 x, R, z) Q) := RB_putI rfl rfl (Or.inl rfl)
set_option maxRecDepth 20000 in
theorem w207_303 : RB d 207 303 [l0, l1] [] (S, I, R, z) Q = Q none (S, I, R, z) := RB_ret rfl rfl
/-! 208: HangedWordModel.takesKey -/
theorem w208_0 : RB d 208 0 [.ref a, l1, l2, l3, l4] st (S, I, R, z) Q = RB d 208 1 [.ref a, l1, l2, l3, l4] (.ref a :: st) (S, I, R, z) Q := RB_aloadn rfl rfl
theorem w208_1 : RB d 208 1 [l0, l1, l2, l3, l4] (.ref a :: st) (S, I, R, z) Q = ((S a).1 = 7 ∧ RB d 208 4 [l0, l1, l2, l3, l4] (.int (I a 9) :: st) (S, I, R, z) Q) := RB_getI rfl rfl
theorem w208_4 : RB d 208 4 [l0, l1, l2, l3, l4] st (S, I, R, z) Q = RB d 208 5 [l0, l1, l2, l3, l4] (.int 1 :: st) (S, I, R, z) Q := RB_iconst rfl ki1
theorem w208_5 : RB d 208 5 [l0, l1, l2, l3, l4] (.int y :: .int x :: st) (S, I, R, z) Q = ((x = y → RB d 208 10 [l0, l1, l2, l3, l4] st (S, I, R, z) Q) ∧ (¬ x = y → RB d 208 8 [l0, l1, l2, l3, l4] st (S, I, R, z) Q)) := RB_ieq rfl (by decide) rfl
theorem w208_8 : RB d 208 8 [l0, l1, l2, l3, l4] st (S, I, R, z) Q = RB d 208 9 [l0, l1, l2, l3, l4] (.int 0 :: st) (S, I, R, z) Q := RB_iconst rfl ki0
theorem w208_9 : RB d 208 9 [l0, l1, l2, l3, l4] [.int x] (S, I, R, z) Q = (narrow .boolean (.int x) = .int x ∧ Q (some (.int x)) (S, I, R, z)) := RB_zret rfl rfl (Or.inl rfl)
theorem w208_10 : RB d 208 10 [l0, l1, l2, l3, l4] st (S, I, R, z) Q = RB d 208 11 [l0, l1, l2, l3, l4] (.int 0 :: st) (S, I, R, z) Q := RB_iconst rfl ki0
theorem w208_11 : RB d 208 11 [l0, l1, l2, l3, l4] (.int x :: st) (S, I, R, z) Q = RB d 208 12 [l0, .int x, l2, l3, l4] st (S, I, R, z) Q := RB_istoren rfl (Nat.le_of_ble_eq_true rfl) rfl
theorem w208_12 : RB d 208 12 [l0, .int x, l2, l3, l4] st (S, I, R, z) Q = RB d 208 13 [l0, .int x, l2, l3, l4] (.int x :: st) (S, I, R, z) Q := RB_iloadn rfl rfl
theorem w208_13 : RB d 208 13 [l0, l1, l2, l3, l4] st (S, I, R, z) Q = RB d 208 14 [l0, l1, l2, l3, l4] (.int 3 :: st) (S, I, R, z) Q := RB_iconst rfl ki3
theorem w208_14 : RB d 208 14 [l0, l1, l2, l3, l4] (.int y :: .int x :: st) (S, I, R, z) Q = ((y ≤ x → RB d 208 127 [l0, l1, l2, l3, l4] st (S, I, R, z) Q) ∧ (¬ y ≤ x → RB d 208 17 [l0, l1, l2, l3, l4] st (S, I, R, z) Q)) := RB_ige rfl (by decide) rfl
theorem w208_17 : RB d 208 17 [.ref a, l1, l2, l3, l4] st (S, I, R, z) Q = RB d 208 18 [.ref a, l1, l2, l3, l4] (.ref a :: st) (S, I, R, z) Q := RB_aloadn rfl rfl
theorem w208_18 : RB d 208 18 [l0, l1, l2, l3, l4] (.ref a :: st) (S, I, R, z) Q = ((S a).1 = 7 ∧ RB d 208 21 [l0, l1, l2, l3, l4] (va_rf (R a 14) :: st) (S, I, R, z) Q) := RB_getR rfl rfl
theorem w208_21 : RB d 208 21 [l0, .int x, l2, l3, l4] st (S, I, R, z) Q = RB d 208 22 [l0, .int x, l2, l3, l4] (.int x :: st) (S, I, R, z) Q := RB_iloadn rfl rfl
theorem w208_22 : RB d 208 22 [l0, l1, l2, l3, l4] st (S, I, R, z) Q = RB d 208 23 [l0, l1, l2, l3, l4] (.int 1 :: st) (S, I, R, z) Q := RB_iconst rfl ki1
theorem w208_23 : RB d 208 23 [l0, l1, l2, l3, l4] (.int y :: .int x :: st) (S, I, R, z) Q = RB d 208 24 [l0, l1, l2, l3, l4] (.int (x + y) :: st) (S, I, R, z) Q := RB_iadd rfl
theorem w208_24 : RB d 208 24 [l0, l1, l2, l3, l4] (.int i :: .ref a :: st) (S, I, R, z) Q = (((S a).1 = 9 ∧ aIx i (S a).2) ∧ RB d 208 25 [l0, l1, l2, l3, l4] (.int (I a i.toNatClampNeg) :: st) (S, I, R, z) Q) := RB_iald rfl
theorem w208_25 : RB d 208 25 [.ref a, l1, l2, l3, l4] st (S, I, R, z) Q = RB d 208 26 [.ref a, l1, l2, l3, l4] (.ref a :: st) (S, I, R, z) Q := RB_aloadn rfl rfl
theorem w208_26 : RB d 208 26 [l0, l1, l2, l3, l4] (.ref a :: st) (S, I, R, z) Q = ((S a).1 = 7 ∧ RB d 208 29 [l0, l1, l2, l3, l4] (va_rf (R a 14) :: st) (S, I, R, z) Q) := RB_getR rfl rfl
theorem w208_29 : RB d 208 29 [l0, .int x, l2, l3, l4] st (S, I, R, z) Q = RB d 208 30 [l0, .int x, l2, l3, l4] (.int x :: st) (S, I, R, z) Q := RB_iloadn rfl rfl
theorem w208_30 : RB d 208 30 [l0, l1, l2, l3, l4] (.int i :: .ref a :: st) (S, I, R, z) Q = (((S a).1 = 9 ∧ aIx i (S a).2) ∧ RB d 208 31 [l0, l1, l2, l3, l4] (.int (I a i.toNatClampNeg) :: st) (S, I, R, z) Q) := RB_iald rfl
theorem w208_31 : RB d 208 31 [l0, l1, l2, l3, l4] (.int y :: .int x :: st) (S, I, R, z) Q = RB d 208 32 [l0, l1, l2, l3, l4] (.int (x - y) :: st) (S, I, R, z) Q := RB_isub rfl
theorem w208_32 : RB d 208 32 [l0, l1, l2, l3, l4] (.int x :: st) (S, I, R, z) Q = RB d 208 33 [l0, l1, .int x, l3, l4] st (S, I, R, z) Q := RB_istoren rfl (Nat.le_of_ble_eq_true rfl) rfl
theorem w208_33 : RB d 208 33 [l0, l1, .int x, l3, l4] st (S, I, R, z) Q = RB d 208 34 [l0, l1, .int x, l3, l4] (.int x :: st) (S, I, R, z) Q := RB_iloadn rfl rfl
theorem w208_34 : RB d 208 34 [.ref a, l1, l2, l3, l4] st (S, I, R, z) Q = RB d 208 35 [.ref a, l1, l2, l3, l4] (.ref a :: st) (S, I, R, z) Q := RB_aloadn rfl rfl
theorem w208_35 : RB d 208 35 [l0, l1, l2, l3, l4] (.ref a :: st) (S, I, R, z) Q = ((S a).1 = 7 ∧ RB d 208 38 [l0, l1, l2, l3, l4] (.int (I a 7) :: st) (S, I, R, z) Q) := RB_getI rfl rfl
theorem w208_38 : RB d 208 38 [.ref a, l1, l2, l3, l4] st (S, I, R, z) Q = RB d 208 39 [.ref a, l1, l2, l3, l4] (.ref a :: st) (S, I, R, z) Q := RB_aloadn rfl rfl
theorem w208_39 : RB d 208 39 [l0, l1, l2, l3, l4] (.ref a :: st) (S, I, R, z) Q = ((S a).1 = 7 ∧ RB d 208 42 [l0, l1, l2, l3, l4] (.int (I a 8) :: st) (S, I, R, z) Q) := RB_getI rfl rfl
theorem w208_42 : RB d 208 42 [l0, l1, l2, l3, l4] (.int y :: .int x :: st) (S, I, R, z) Q = RB d 208 43 [l0, l1, l2, l3, l4] (.int (x - y) :: st) (S, I, R, z) Q := RB_isub rfl
theorem w208_43 : RB d 208 43 [l0, l1, l2, l3, l4] (.int y :: .int x :: st) (S, I, R, z) Q = ((x = y → RB d 208 46 [l0, l1, l2, l3, l4] st (S, I, R, z) Q) ∧ (¬ x = y → RB d 208 50 [l0, l1, l2, l3, l4] st (S, I, R, z) Q)) := RB_ine rfl (by decide) rfl
theorem w208_46 : RB d 208 46 [l0, l1, l2, l3, l4] st (S, I, R, z) Q = RB d 208 47 [l0, l1, l2, l3, l4] (.int 1 :: st) (S, I, R, z) Q := RB_iconst rfl ki1
theorem w208_47 : RB d 208 47 [l0, l1, l2, l3, l4] st (S, I, R, z) Q = RB d 208 51 [l0, l1, l2, l3, l4] st (S, I, R, z) Q := RB_goto rfl (by decide) rfl
theorem w208_50 : RB d 208 50 [l0, l1, l2, l3, l4] st (S, I, R, z) Q = RB d 208 51 [l0, l1, l2, l3, l4] (.int 0 :: st) (S, I, R, z) Q := RB_iconst rfl ki0
theorem w208_51 : RB d 208 51 [l0, l1, l2, l3, l4] (.int x :: st) (S, I, R, z) Q = RB d 208 52 [l0, l1, l2, .int x, l4] st (S, I, R, z) Q := RB_istoren rfl (Nat.le_of_ble_eq_true rfl) rfl
theorem w208_52 : RB d 208 52 [l0, l1, l2, l3, l4] st (S, I, R, z) Q = RB d 208 53 [l0, l1, l2, l3, l4] (.int 0 :: st) (S, I, R, z) Q := RB_iconst rfl ki0
theorem w208_53 : RB d 208 53 [l0, l1, l2, l3, l4] (.int x :: st) (S, I, R, z) Q = RB d 208 55 [l0, l1, l2, l3, .int x] st (S, I, R, z) Q := RB_istore rfl (Nat.le_of_ble_eq_true rfl) rfl
theorem w208_55 : RB d 208 55 [l0, l1, l2, l3, .int x] st (S, I, R, z) Q = RB d 208 57 [l0, l1, l2, l3, .int x] (.int x :: st) (S, I, R, z) Q := RB_iload rfl rfl
theorem w208_57 : RB d 208 57 [l0, l1, .int x, l3, l4] st (S, I, R, z) Q = RB d 208 58 [l0, l1, .int x, l3, l4] (.int x :: st) (S, I, R, z) Q := RB_iloadn rfl rfl
theorem w208_58 : RB d 208 58 [l0, l1, l2, l3, l4] (.int y :: .int x :: st) (S, I, R, z) Q = ((y ≤ x → RB d 208 106 [l0, l1, l2, l3, l4] st (S, I, R, z) Q) ∧ (¬ y ≤ x → RB d 208 61 [l0, l1, l2, l3, l4] st (S, I, R, z) Q)) := RB_ige rfl (by decide) rfl
theorem w208_61 : RB d 208 61 [l0, l1, l2, .int x, l4] st (S, I, R, z) Q = RB d 208 62 [l0, l1, l2, .int x, l4] (.int x :: st) (S, I, R, z) Q := RB_iloadn rfl rfl
theorem w208_62 : RB d 208 62 [l0, l1, l2, l3, l4] (.int x :: st) (S, I, R, z) Q = ((x = 0 → RB d 208 106 [l0, l1, l2, l3, l4] st (S, I, R, z) Q) ∧ (¬ x = 0 → RB d 208 65 [l0, l1, l2, l3, l4] st (S, I, R, z) Q)) := RB_eq0 rfl (by decide) rfl
theorem w208_65 : RB d 208 65 [.ref a, l1, l2, l3, l4] st (S, I, R, z) Q = RB d 208 66 [.ref a, l1, l2, l3, l4] (.ref a :: st) (S, I, R, z) Q := RB_aloadn rfl rfl
theorem w208_66 : RB d 208 66 [l0, l1, l2, l3, l4] (.ref a :: st) (S, I, R, z) Q = ((S a).1 = 7 ∧ RB d 208 69 [l0, l1, l2, l3, l4] (va_rf (R a 5) :: st) (S, I, R, z) Q) := RB_getR rfl rfl
theorem w208_69 : RB d 208 69 [.ref a, l1, l2, l3, l4] st (S, I, R, z) Q = RB d 208 70 [.ref a, l1, l2, l3, l4] (.ref a :: st) (S, I, R, z) Q := RB_aloadn rfl rfl
theorem w208_70 : RB d 208 70 [l0, l1, l2, l3, l4] (.ref a :: st) (S, I, R, z) Q = ((S a).1 = 7 ∧ RB d 208 73 [l0, l1, l2, l3, l4] (.int (I a 8) :: st) (S, I, R, z) Q) := RB_getI rfl rfl
theorem w208_73 : RB d 208 73 [l0, l1, l2, l3, .int x] st (S, I, R, z) Q = RB d 208 75 [l0, l1, l2, l3, .int x] (.int x :: st) (S, I, R, z) Q := RB_iload rfl rfl
theorem w208_75 : RB d 208 75 [l0, l1, l2, l3, l4] (.int y :: .int x :: st) (S, I, R, z) Q = RB d 208 76 [l0, l1, l2, l3, l4] (.int (x + y) :: st) (S, I, R, z) Q := RB_iadd rfl
theorem w208_76 : RB d 208 76 [l0, l1, l2, l3, l4] (.int i :: .ref a :: st) (S, I, R, z) Q = (((S a).1 = 9 ∧ aIx i (S a).2) ∧ RB d 208 77 [l0, l1, l2, l3, l4] (.int (I a i.toNatClampNeg) :: st) (S, I, R, z) Q) := RB_iald rfl
theorem w208_77 : RB d 208 77 [.ref a, l1, l2, l3, l4] st (S, I, R, z) Q = RB d 208 78 [.ref a, l1, l2, l3, l4] (.ref a :: st) (S, I, R, z) Q := RB_aloadn rfl rfl
theorem w208_78 : RB d 208 78 [l0, l1, l2, l3, l4] (.ref a :: st) (S, I, R, z) Q = ((S a).1 = 7 ∧ RB d 208 81 [l0, l1, l2, l3, l4] (va_rf (R a 13) :: st) (S, I, R, z) Q) := RB_getR rfl rfl
theorem w208_81 : RB d 208 81 [.ref a, l1, l2, l3, l4] st (S, I, R, z) Q = RB d 208 82 [.ref a, l1, l2, l3, l4] (.ref a :: st) (S, I, R, z) Q := RB_aloadn rfl rfl
theorem w208_82 : RB d 208 82 [l0, l1, l2, l3, l4] (.ref a :: st) (S, I, R, z) Q = ((S a).1 = 7 ∧ RB d 208 85 [l0, l1, l2, l3, l4] (va_rf (R a 14) :: st) (S, I, R, z) Q) := RB_getR rfl rfl
theorem w208_85 : RB d 208 85 [l0, .int x, l2, l3, l4] st (S, I, R, z) Q = RB d 208 86 [l0, .int x, l2, l3, l4] (.int x :: st) (S, I, R, z) Q := RB_iloadn rfl rfl
theorem w208_86 : RB d 208 86 [l0, l1, l2, l3, l4] (.int i :: .ref a :: st) (S, I, R, z) Q = (((S a).1 = 9 ∧ aIx i (S a).2) ∧ RB d 208 87 [l0, l1, l2, l3, l4] (.int (I a i.toNatClampNeg) :: st) (S, I, R, z) Q) := RB_iald rfl
theorem w208_87 : RB d 208 87 [l0, l1, l2, l3, .int x] st (S, I, R, z) Q = RB d 208 89 [l0, l1, l2, l3, .int x] (.int x :: st) (S, I, R, z) Q := RB_iload rfl rfl
theorem w208_89 : RB d 208 89 [l0, l1, l2, l3, l4] (.int y :: .int x :: st) (S, I, R, z) Q = RB d 208 90 [l0, l1, l2, l3, l4] (.int (x + y) :: st) (S, I, R, z) Q := RB_iadd rfl
theorem w208_90 : RB d 208 90 [l0, l1, l2, l3, l4] (.int i :: .ref a :: st) (S, I, R, z) Q = (((S a).1 = 8 ∧ aIx i (S a).2) ∧ RB d 208 91 [l0, l1, l2, l3, l4] (.int (I a i.toNatClampNeg) :: st) (S, I, R, z) Q) := RB_cald rfl
theorem w208_91 : RB d 208 91 [l0, l1, l2, l3, l4] (.int y :: .int x :: st) (S, I, R, z) Q = ((x = y → RB d 208 94 [l0, l1, l2, l3, l4] st (S, I, R, z) Q) ∧ (¬ x = y → RB d 208 98 [l0, l1, l2, l3, l4] st (S, I, R, z) Q)) := RB_ine rfl (by decide) rfl
theorem w208_94 : RB d 208 94 [l0, l1, l2, l3, l4] st (S, I, R, z) Q = RB d 208 95 [l0, l1, l2, l3, l4] (.int 1 :: st) (S, I, R, z) Q := RB_iconst rfl ki1
theorem w208_95 : RB d 208 95 [l0, l1, l2, l3, l4] st (S, I, R, z) Q = RB d 208 99 [l0, l1, l2, l3, l4] st (S, I, R, z) Q := RB_goto rfl (by decide) rfl
theorem w208_98 : RB d 208 98 [l0, l1, l2, l3, l4] st (S, I, R, z) Q = RB d 208 99 [l0, l1, l2, l3, l4] (.int 0 :: st) (S, I, R, z) Q := RB_iconst rfl ki0
theorem w208_99 : RB d 208 99 [l0, l1, l2, l3, l4] (.int x :: st) (S, I, R, z) Q = RB d 208 100 [l0, l1, l2, .int x, l4] st (S, I, R, z) Q := RB_istoren rfl (Nat.le_of_ble_eq_true rfl) rfl
theorem w208_100 : RB d 208 100 [l0, l1, l2, l3, .int x] st (S, I, R, z) Q = RB d 208 103 [l0, l1, l2, l3, .int (x + 1)] st (S, I, R, z) Q := RB_iinc rfl rfl (Nat.le_of_ble_eq_true rfl) ki1 rfl
theorem w208_103 : RB d 208 103 [l0, l1, l2, l3, l4] st (S, I, R, z) Q = RB d 208 55 [l0, l1, l2, l3, l4] st (S, I, R, z) Q := RB_goto rfl (by decide) rfl
theorem w208_106 : RB d 208 106 [l0, l1, l2, .int x, l4] st (S, I, R, z) Q = RB d 208 107 [l0, l1, l2, .int x, l4] (.int x :: st) (S, I, R, z) Q := RB_iloadn rfl rfl
theorem w208_107 : RB d 208 107 [l0, l1, l2, l3, l4] (.int x :: st) (S, I, R, z) Q = ((x = 0 → RB d 208 121 [l0, l1, l2, l3, l4] st (S, I, R, z) Q) ∧ (¬ x = 0 → RB d 208 110 [l0, l1, l2, l3, l4] st (S, I, R, z) Q)) := RB_eq0 rfl (by decide) rfl
theorem w208_110 : RB d 208 110 [.ref a, l1, l2, l3, l4] st (S, I, R, z) Q = RB d 208 111 [.ref a, l1, l2, l3, l4] (.ref a :: st) (S, I, R, z) Q := RB_aloadn rfl rfl
theorem w208_111 : RB d 208 111 [l0, .int x, l2, l3, l4] st (S, I, R, z) Q = RB d 208 112 [l0, .int x, l2, l3, l4] (.int x :: st) (S, I, R, z) Q := RB_iloadn rfl rfl
theorem w208_112 : RB d 208 112 [l0, l1, l2, l3, l4] (.int x :: .ref a :: st) (S, I, R, z) Q = (((S a).1 = 7 ∧ 7 < 8 ∧ 16 ≤ a) ∧ RB d 208 115 [l0, l1, l2, l3, l4] st (S, aW I a 12 x, R, z) Q) := RB_putI rfl rfl (Or.inl rfl)
theorem w208_115 : RB d 208 115 [.ref a, l1, l2, l3, l4] st (S, I, R, z) Q = RB d 208 116 [.ref a, l1, l2, l3, l4] (.ref a :: st) (S, I, R, z) Q := RB_aloadn rfl rfl
set_option maxRecDepth 20000 in
theorem w208_116 : RB d 208 116 [l0, l1, l2, l3, l4] [.ref a] (S, I, R, z) Q = ((S a).1 = 7 ∧ RM d 207 [.ref a] (S, I, R, z) (fun v τ => RB d 208 119 [l0, l1, l2, l3, l4] (aPush v []) τ Q)) := RB_callV (n := 1) (t := 0) (k := 254) (ins := .invokevirtual 254) rfl rfl rfl (by decide) (Nat.le_of_ble_eq_true rfl) (Nat.le_of_ble_eq_true rfl) rfl rfl
theorem w208_119 : RB d 208 119 [l0, l1, l2, l3, l4] st (S, I, R, z) Q = RB d 208 120 [l0, l1, l2, l3, l4] (.int 1 :: st) (S, I, R, z) Q := RB_iconst rfl ki1
theorem w208_120 : RB d 208 120 [l0, l1, l2, l3, l4] [.int x] (S, I, R, z) Q = (narrow .boolean (.int x) = .int x ∧ Q (some (.int x)) (S, I, R, z)) := RB_zret rfl rfl (Or.inl rfl)
theorem w208_121 : RB d 208 121 [l0, .int x, l2, l3, l4] st (S, I, R, z) Q = RB d 208 124 [l0, .int (x + 1), l2, l3, l4] st (S, I, R, z) Q := RB_iinc rfl rfl (Nat.le_of_ble_eq_true rfl) ki1 rfl
theorem w208_124 : RB d 208 124 [l0, l1, l2, l3, l4] st (S, I, R, z) Q = RB d 208 12 [l0, l1, l2, l3, l4] st (S, I, R, z) Q := RB_goto rfl (by decide) rfl
theorem w208_127 : RB d 208 127 [l0, l1, l2, l3, l4] st (S, I, R, z) Q = RB d 208 128 [l0, l1, l2, l3, l4] (.int 0 :: st) (S, I, R, z) Q := RB_iconst rfl ki0
theorem w208_128 : RB d 208 128 [l0, l1, l2, l3, l4] [.int x] (S, I, R, z) Q = (narrow .boolean (.int x) = .int x ∧ Q (some (.int x)) (S, I, R, z)) := RB_zret rfl rfl (Or.inl rfl)
/-! 209: HangedWordModel.nameOf -/
theorem w209_0 : RB d 209 0 [.ref a, l1] st (S, I, R, z) Q = RB d 209 1 [.ref a, l1] (.ref a :: st) (S, I, R, z) Q := RB_aloadn rfl rfl
theorem w209_1 : RB d 209 1 [l0, l1] (.ref a :: st) (S, I, R, z) Q = ((S a).1 = 7 ∧ RB d 209 4 [l0, l1] (.int (I a 12) :: st) (S, I, R, z) Q) := RB_getI rfl rfl
theorem w209_4 : RB d 209 4 [l0, l1] (.int x :: st) (S, I, R, z) Q = aTsR d 209 4 x 86 [l0, l1] st (S, I, R, z) Q [(0, 32), (1, 64)] := RB_tl rfl (by decide) (by decide) (by decide) (by decide +kernel) rfl
theorem w209_32 : RB d 209 32 [l0, .int x] st (S, I, R, z) Q = RB d 209 33 [l0, .int x] (.int x :: st) (S, I, R, z) Q := RB_iloadn rfl rfl
theorem w209_33 : RB d 209 33 [l0, l1] st (S, I, R, z) Q = RB d 209 35 [l0, l1] (.int 110 :: st) (S, I, R, z) Q := RB_bipush rfl kb110
theorem w209_35 : RB d 209 35 [l0, l1] (.int y :: .int x :: st) (S, I, R, z) Q = ((x = y → RB d 209 38 [l0, l1] st (S, I, R, z) Q) ∧ (¬ x = y → RB d 209 42 [l0, l1] st (S, I, R, z) Q)) := RB_ine rfl (by decide) rfl
theorem w209_38 : RB d 209 38 [l0, l1] st (S, I, R, z) Q = RB d 209 39 [l0, l1] (.int 0 :: st) (S, I, R, z) Q := RB_iconst rfl ki0
theorem w209_39 : RB d 209 39 [l0, l1] st (S, I, R, z) Q = RB d 209 63 [l0, l1] st (S, I, R, z) Q := RB_goto rfl (by decide) rfl
theorem w209_42 : RB d 209 42 [l0, .int x] st (S, I, R, z) Q = RB d 209 43 [l0, .int x] (.int x :: st) (S, I, R, z) Q := RB_iloadn rfl rfl
theorem w209_43 : RB d 209 43 [l0, l1] st (S, I, R, z) Q = RB d 209 45 [l0, l1] (.int 119 :: st) (S, I, R, z) Q := RB_bipush rfl kb119
theorem w209_45 : RB d 209 45 [l0, l1] (.int y :: .int x :: st) (S, I, R, z) Q = ((x = y → RB d 209 48 [l0, l1] st (S, I, R, z) Q) ∧ (¬ x = y → RB d 209 52 [l0, l1] st (S, I, R, z) Q)) := RB_ine rfl (by decide) rfl
theorem w209_48 : RB d 209 48 [l0, l1] st (S, I, R, z) Q = RB d 209 49 [l0, l1] (.int 1 :: st) (S, I, R, z) Q := RB_iconst rfl ki1
theorem w209_49 : RB d 209 49 [l0, l1] st (S, I, R, z) Q = RB d 209 63 [l0, l1] st (S, I, R, z) Q := RB_goto rfl (by decide) rfl
theorem w209_52 : RB d 209 52 [l0, .int x] st (S, I, R, z) Q = RB d 209 53 [l0, .int x] (.int x :: st) (S, I, R, z) Q := RB_iloadn rfl rfl
theorem w209_53 : RB d 209 53 [l0, l1] st (S, I, R, z) Q = RB d 209 55 [l0, l1] (.int 102 :: st) (S, I, R, z) Q := RB_bipush rfl kb102
theorem w209_55 : RB d 209 55 [l0, l1] (.int y :: .int x :: st) (S, I, R, z) Q = ((x = y → RB d 209 58 [l0, l1] st (S, I, R, z) Q) ∧ (¬ x = y → RB d 209 62 [l0, l1] st (S, I, R, z) Q)) := RB_ine rfl (by decide) rfl
theorem w209_58 : RB d 209 58 [l0, l1] st (S, I, R, z) Q = RB d 209 59 [l0, l1] (.int 2 :: st) (S, I, R, z) Q := RB_iconst rfl ki2
theorem w209_59 : RB d 209 59 [l0, l1] st (S, I, R, z) Q = RB d 209 63 [l0, l1] st (S, I, R, z) Q := RB_goto rfl (by decide) rfl
theorem w209_62 : RB d 209 62 [l0, l1] st (S, I, R, z) Q = RB d 209 63 [l0, l1] (.int (-1) :: st) (S, I, R, z) Q := RB_iconst rfl kim1
theorem w209_63 : RB d 209 63 [l0, l1] [.int x] (S, I, R, z) Q = Q (some (.int x)) (S, I, R, z) := RB_iret rfl rfl rfl
theorem w209_64 : RB d 209 64 [l0, .int x] st (S, I, R, z) Q = RB d 209 65 [l0, .int x] (.int x :: st) (S, I, R, z) Q := RB_iloadn rfl rfl
theorem w209_65 : RB d 209 65 [l0, l1] st (S, I, R, z) Q = RB d 209 67 [l0, l1] (.int 119 :: st) (S, I, R, z) Q := RB_bipush rfl kb119
theorem w209_67 : RB d 209 67 [l0, l1] (.int y :: .int x :: st) (S, I, R, z) Q = ((x = y → RB d 209 70 [l0, l1] st (S, I, R, z) Q) ∧ (¬ x = y → RB d 209 74 [l0, l1] st (S, I, R, z) Q)) := RB_ine rfl (by decide) rfl
theorem w209_70 : RB d 209 70 [l0, l1] st (S, I, R, z) Q = RB d 209 71 [l0, l1] (.int 0 :: st) (S, I, R, z) Q := RB_iconst rfl ki0
theorem w209_71 : RB d 209 71 [l0, l1] st (S, I, R, z) Q = RB d 209 85 [l0, l1] st (S, I, R, z) Q := RB_goto rfl (by decide) rfl
theorem w209_74 : RB d 209 74 [l0, .int x] st (S, I, R, z) Q = RB d 209 75 [l0, .int x] (.int x :: st) (S, I, R, z) Q := RB_iloadn rfl rfl
theorem w209_75 : RB d 209 75 [l0, l1] st (S, I, R, z) Q = RB d 209 77 [l0, l1] (.int 110 :: st) (S, I, R, z) Q := RB_bipush rfl kb110
theorem w209_77 : RB d 209 77 [l0, l1] (.int y :: .int x :: st) (S, I, R, z) Q = ((x = y → RB d 209 80 [l0, l1] st (S, I, R, z) Q) ∧ (¬ x = y → RB d 209 84 [l0, l1] st (S, I, R, z) Q)) := RB_ine rfl (by decide) rfl
theorem w209_80 : RB d 209 80 [l0, l1] st (S, I, R, z) Q = RB d 209 81 [l0, l1] (.int 1 :: st) (S, I, R, z) Q := RB_iconst rfl ki1
theorem w209_81 : RB d 209 81 [l0, l1] st (S, I, R, z) Q = RB d 209 85 [l0, l1] st (S, I, R, z) Q := RB_goto rfl (by decide) rfl
theorem w209_84 : RB d 209 84 [l0, l1] st (S, I, R, z) Q = RB d 209 85 [l0, l1] (.int (-1) :: st) (S, I, R, z) Q := RB_iconst rfl kim1
theorem w209_85 : RB d 209 85 [l0, l1] [.int x] (S, I, R, z) Q = Q (some (.int x)) (S, I, R, z) := RB_iret rfl rfl rfl
theorem w209_86 : RB d 209 86 [l0, .int x] st (S, I, R, z) Q = RB d 209 87 [l0, .int x] (.int x :: st) (S, I, R, z) Q := RB_iloadn rfl rfl
theorem w209_87 : RB d 209 87 [l0, l1] st (S, I, R, z) Q = RB d 209 89 [l0, l1] (.int 108 :: st) (S, I, R, z) Q := RB_bipush rfl kb108
theorem w209_89 : RB d 209 89 [l0, l1] (.int y :: .int x :: st) (S, I, R, z) Q = ((x = y → RB d 209 92 [l0, l1] st (S, I, R, z) Q) ∧ (¬ x = y → RB d 209 96 [l0, l1] st (S, I, R, z) Q)) := RB_ine rfl (by decide) rfl
theorem w209_92 : RB d 209 92 [l0, l1] st (S, I, R, z) Q = RB d 209 93 [l0, l1] (.int 0 :: st) (S, I, R, z) Q := RB_iconst rfl ki0
theorem w209_93 : RB d 209 93 [l0, l1] st (S, I, R, z) Q = RB d 209 107 [l0, l1] st (S, I, R, z) Q := RB_goto rfl (by decide) rfl
theorem w209_96 : RB d 209 96 [l0, .int x] st (S, I, R, z) Q = RB d 209 97 [l0, .int x] (.int x :: st) (S, I, R, z) Q := RB_iloadn rfl rfl
theorem w209_97 : RB d 209 97 [l0, l1] st (S, I, R, z) Q = RB d 209 99 [l0, l1] (.int 107 :: st) (S, I, R, z) Q := RB_bipush rfl kb107
theorem w209_99 : RB d 209 99 [l0, l1] (.int y :: .int x :: st) (S, I, R, z) Q = ((x = y → RB d 209 102 [l0, l1] st (S, I, R, z) Q) ∧ (¬ x = y → RB d 209 106 [l0, l1] st (S, I, R, z) Q)) := RB_ine rfl (by decide) rfl
theorem w209_102 : RB d 209 102 [l0, l1] st (S, I, R, z) Q = RB d 209 103 [l0, l1] (.int 1 :: st) (S, I, R, z) Q := RB_iconst rfl ki1
theorem w209_103 : RB d 209 103 [l0, l1] st (S, I, R, z) Q = RB d 209 107 [l0, l1] st (S, I, R, z) Q := RB_goto rfl (by decide) rfl
theorem w209_106 : RB d 209 106 [l0, l1] st (S, I, R, z) Q = RB d 209 107 [l0, l1] (.int (-1) :: st) (S, I, R, z) Q := RB_iconst rfl kim1
theorem w209_107 : RB d 209 107 [l0, l1] [.int x] (S, I, R, z) Q = Q (some (.int x)) (S, I, R, z) := RB_iret rfl rfl rfl
/-! 210: HangedWordModel.rank -/
theorem w210_0 : RB d 210 0 [.int x] st (S, I, R, z) Q = RB d 210 1 [.int x] (.int x :: st) (S, I, R, z) Q := RB_iloadn rfl rfl
theorem w210_1 : RB d 210 1 [l0] st (S, I, R, z) Q = RB d 210 2 [l0] (.int (-1) :: st) (S, I, R, z) Q := RB_iconst rfl kim1
theorem w210_2 : RB d 210 2 [l0] (.int y :: .int x :: st) (S, I, R, z) Q = ((x = y → RB d 210 5 [l0] st (S, I, R, z) Q) ∧ (¬ x = y → RB d 210 9 [l0] st (S, I, R, z) Q)) := RB_ine rfl (by decide) rfl
theorem w210_5 : RB d 210 5 [l0] st (S, I, R, z) Q = RB d 210 6 [l0] (.int 1 :: st) (S, I, R, z) Q := RB_iconst rfl ki1
theorem w210_6 : RB d 210 6 [l0] st (S, I, R, z) Q = RB d 210 51 [l0] st (S, I, R, z) Q := RB_goto rfl (by decide) rfl
theorem w210_9 : RB d 210 9 [.int x] st (S, I, R, z) Q = RB d 210 10 [.int x] (.int x :: st) (S, I, R, z) Q := RB_iloadn rfl rfl
theorem w210_10 : RB d 210 10 [l0] st (S, I, R, z) Q = RB d 210 12 [l0] (.int (-2) :: st) (S, I, R, z) Q := RB_bipush rfl kbm2
theorem w210_12 : RB d 210 12 [l0] (.int y :: .int x :: st) (S, I, R, z) Q = ((x = y → RB d 210 15 [l0] st (S, I, R, z) Q) ∧ (¬ x = y → RB d 210 19 [l0] st (S, I, R, z) Q)) := RB_ine rfl (by decide) rfl
theorem w210_15 : RB d 210 15 [l0] st (S, I, R, z) Q = RB d 210 16 [l0] (.int 2 :: st) (S, I, R, z) Q := RB_iconst rfl ki2
theorem w210_16 : RB d 210 16 [l0] st (S, I, R, z) Q = RB d 210 51 [l0] st (S, I, R, z) Q := RB_goto rfl (by decide) rfl
theorem w210_19 : RB d 210 19 [.int x] st (S, I, R, z) Q = RB d 210 20 [.int x] (.int x :: st) (S, I, R, z) Q := RB_iloadn rfl rfl
theorem w210_20 : RB d 210 20 [l0] st (S, I, R, z) Q = RB d 210 22 [l0] (.int (-5) :: st) (S, I, R, z) Q := RB_bipush rfl kbm5
theorem w210_22 : RB d 210 22 [l0] (.int y :: .int x :: st) (S, I, R, z) Q = ((x < y → RB d 210 29 [l0] st (S, I, R, z) Q) ∧ (¬ x < y → RB d 210 25 [l0] st (S, I, R, z) Q)) := RB_ilt rfl (by decide) rfl
theorem w210_25 : RB d 210 25 [l0] st (S, I, R, z) Q = RB d 210 26 [l0] (.int 3 :: st) (S, I, R, z) Q := RB_iconst rfl ki3
theorem w210_26 : RB d 210 26 [l0] st (S, I, R, z) Q = RB d 210 51 [l0] st (S, I, R, z) Q := RB_goto rfl (by decide) rfl
theorem w210_29 : RB d 210 29 [.int x] st (S, I, R, z) Q = RB d 210 30 [.int x] (.int x :: st) (S, I, R, z) Q := RB_iloadn rfl rfl
theorem w210_30 : RB d 210 30 [l0] st (S, I, R, z) Q = RB d 210 32 [l0] (.int (-7) :: st) (S, I, R, z) Q := RB_bipush rfl kbm7
theorem w210_32 : RB d 210 32 [l0] (.int y :: .int x :: st) (S, I, R, z) Q = ((x < y → RB d 210 39 [l0] st (S, I, R, z) Q) ∧ (¬ x < y → RB d 210 35 [l0] st (S, I, R, z) Q)) := RB_ilt rfl (by decide) rfl
theorem w210_35 : RB d 210 35 [l0] st (S, I, R, z) Q = RB d 210 36 [l0] (.int 4 :: st) (S, I, R, z) Q := RB_iconst rfl ki4
theorem w210_36 : RB d 210 36 [l0] st (S, I, R, z) Q = RB d 210 51 [l0] st (S, I, R, z) Q := RB_goto rfl (by decide) rfl
theorem w210_39 : RB d 210 39 [.int x] st (S, I, R, z) Q = RB d 210 40 [.int x] (.int x :: st) (S, I, R, z) Q := RB_iloadn rfl rfl
theorem w210_40 : RB d 210 40 [l0] st (S, I, R, z) Q = RB d 210 42 [l0] (.int (-9) :: st) (S, I, R, z) Q := RB_bipush rfl kbm9
theorem w210_42 : RB d 210 42 [l0] (.int y :: .int x :: st) (S, I, R, z) Q = ((x < y → RB d 210 49 [l0] st (S, I, R, z) Q) ∧ (¬ x < y → RB d 210 45 [l0] st (S, I, R, z) Q)) := RB_ilt rfl (by decide) rfl
theorem w210_45 : RB d 210 45 [l0] st (S, I, R, z) Q = RB d 210 46 [l0] (.int 5 :: st) (S, I, R, z) Q := RB_iconst rfl ki5
theorem w210_46 : RB d 210 46 [l0] st (S, I, R, z) Q = RB d 210 51 [l0] st (S, I, R, z) Q := RB_goto rfl (by decide) rfl
theorem w210_49 : RB d 210 49 [l0] st (S, I, R, z) Q = RB d 210 51 [l0] (.int 6 :: st) (S, I, R, z) Q := RB_bipush rfl kb6
theorem w210_51 : RB d 210 51 [l0] [.int x] (S, I, R, z) Q = Q (some (.int x)) (S, I, R, z) := RB_iret rfl rfl rfl
/-! 211: HangedWordModel.settle -/
theorem w211_0 : RB d 211 0 [.ref a, l1] st (S, I, R, z) Q = RB d 211 1 [.ref a, l1] (.ref a :: st) (S, I, R, z) Q := RB_aloadn rfl rfl
theorem w211_1 : RB d 211 1 [l0, l1] (.ref a :: st) (S, I, R, z) Q = ((S a).1 = 7 ∧ RB d 211 4 [l0, l1] (.int (I a 19) :: st) (S, I, R, z) Q) := RB_getI rfl rfl
theorem w211_4 : RB d 211 4 [l0, l1] (.int x :: st) (S, I, R, z) Q = ((x ≤ 0 → RB d 211 82 [l0, l1] st (S, I, R, z) Q) ∧ (¬ x ≤ 0 → RB d 211 7 [l0, l1] st (S, I, R, z) Q)) := RB_le0 rfl (by decide) rfl
theorem w211_7 : RB d 211 7 [.ref a, l1] st (S, I, R, z) Q = RB d 211 8 [.ref a, l1] (.ref a :: st) (S, I, R, z) Q := RB_aloadn rfl rfl
theorem w211_8 : RB d 211 8 [l0, l1] (.ref a :: st) (S, I, R, z) Q = ((S a).1 = 7 ∧ RB d 211 11 [l0, l1] (va_rf (R a 18) :: st) (S, I, R, z) Q) := RB_getR rfl rfl
theorem w211_11 : RB d 211 11 [.ref a, l1] st (S, I, R, z) Q = RB d 211 12 [.ref a, l1] (.ref a :: st) (S, I, R, z) Q := RB_aloadn rfl rfl
theorem w211_12 : RB d 211 12 [l0, l1] (.ref a :: st) (S, I, R, z) Q = ((S a).1 = 7 ∧ RB d 211 15 [l0, l1] (.int (I a 19) :: st) (S, I, R, z) Q) := RB_getI rfl rfl
theorem w211_15 : RB d 211 15 [l0, l1] st (S, I, R, z) Q = RB d 211 16 [l0, l1] (.int 1 :: st) (S, I, R, z) Q := RB_iconst rfl ki1
theorem w211_16 : RB d 211 16 [l0, l1] (.int y :: .int x :: st) (S, I, R, z) Q = RB d 211 17 [l0, l1] (.int (x - y) :: st) (S, I, R, z) Q := RB_isub rfl
theorem w211_17 : RB d 211 17 [l0, l1] (.int i :: .ref a :: st) (S, I, R, z) Q = (((S a).1 = 9 ∧ aIx i (S a).2) ∧ RB d 211 18 [l0, l1] (.int (I a i.toNatClampNeg) :: st) (S, I, R, z) Q) := RB_iald rfl
theorem w211_18 : RB d 211 18 [l0, l1] st (S, I, R, z) Q = RB d 211 20 [l0, l1] (.int (-11) :: st) (S, I, R, z) Q := RB_bipush rfl kbm11
theorem w211_20 : RB d 211 20 [l0, l1] (.int y :: .int x :: st) (S, I, R, z) Q = ((x = y → RB d 211 82 [l0, l1] st (S, I, R, z) Q) ∧ (¬ x = y → RB d 211 23 [l0, l1] st (S, I, R, z) Q)) := RB_ieq rfl (by decide) rfl
theorem w211_23 : RB d 211 23 [.ref a, l1] st (S, I, R, z) Q = RB d 211 24 [.ref a, l1] (.ref a :: st) (S, I, R, z) Q := RB_aloadn rfl rfl
theorem w211_24 : RB d 211 24 [l0, l1] (.ref a :: st) (S, I, R, z) Q = ((S a).1 = 7 ∧ RB d 211 27 [l0, l1] (va_rf (R a 18) :: st) (S, I, R, z) Q) := RB_getR rfl rfl
theorem w211_27 : RB d 211 27 [.ref a, l1] st (S, I, R, z) Q = RB d 211 28 [.ref a, l1] (.ref a :: st) (S, I, R, z) Q := RB_aloadn rfl rfl
theorem w211_28 : RB d 211 28 [l0, l1] (.ref a :: st) (S, I, R, z) Q = ((S a).1 = 7 ∧ RB d 211 31 [l0, l1] (.int (I a 19) :: st) (S, I, R, z) Q) := RB_getI rfl rfl
theorem w211_31 : RB d 211 31 [l0, l1] st (S, I, R, z) Q = RB d 211 32 [l0, l1] (.int 1 :: st) (S, I, R, z) Q := RB_iconst rfl ki1
theorem w211_32 : RB d 211 32 [l0, l1] (.int y :: .int x :: st) (S, I, R, z) Q = RB d 211 33 [l0, l1] (.int (x - y) :: st) (S, I, R, z) Q := RB_isub rfl
theorem w211_33 : RB d 211 33 [l0, l1] (.int i :: .ref a :: st) (S, I, R, z) Q = (((S a).1 = 9 ∧ aIx i (S a).2) ∧ RB d 211 34 [l0, l1] (.int (I a i.toNatClampNeg) :: st) (S, I, R, z) Q) := RB_iald rfl
set_option maxRecDepth 20000 in
theorem w211_34 : RB d 211 34 [l0, l1] [.int x0] (S, I, R, z) Q = RM d 210 [.int x0] (S, I, R, z) (fun v τ => RB d 211 37 [l0, l1] (aPush v []) τ Q) := RB_callS (n := 1) (t := 1) (k := 260) (ins := .invokestatic 260) rfl rfl rfl (Nat.le_of_ble_eq_true rfl) (Nat.le_of_ble_eq_true rfl) rfl rfl
theorem w211_37 : RB d 211 37 [l0, .int x] st (S, I, R, z) Q = RB d 211 38 [l0, .int x] (.int x :: st) (S, I, R, z) Q := RB_iloadn rfl rfl
theorem w211_38 : RB d 211 38 [l0, l1] (.int y :: .int x :: st) (S, I, R, z) Q = ((x < y → RB d 211 82 [l0, l1] st (S, I, R, z) Q) ∧ (¬ x < y → RB d 211 41 [l0, l1] st (S, I, R, z) Q)) := RB_ilt rfl (by decide) rfl
theorem w211_41 : RB d 211 41 [.ref a, l1] st (S, I, R, z) Q = RB d 211 42 [.ref a, l1] (.ref a :: st) (S, I, R, z) Q := RB_aloadn rfl rfl
theorem w211_42 : RB d 211 42 [l0, l1] (v :: st) (S, I, R, z) Q = RB d 211 43 [l0, l1] (v :: v :: st) (S, I, R, z) Q := RB_dup rfl
theorem w211_43 : RB d 211 43 [l0, l1] (.ref a :: st) (S, I, R, z) Q = ((S a).1 = 7 ∧ RB d 211 46 [l0, l1] (.int (I a 19) :: st) (S, I, R, z) Q) := RB_getI rfl rfl
theorem w211_46 : RB d 211 46 [l0, l1] st (S, I, R, z) Q = RB d 211 47 [l0, l1] (.int 1 :: st) (S, I, R, z) Q := RB_iconst rfl ki1
theorem w211_47 : RB d 211 47 [l0, l1] (.int y :: .int x :: st) (S, I, R, z) Q = RB d 211 48 [l0, l1] (.int (x - y) :: st) (S, I, R, z) Q := RB_isub rfl
theorem w211_48 : RB d 211 48 [l0, l1] (.int x :: .ref a :: st) (S, I, R, z) Q = (((S a).1 = 7 ∧ 7 < 8 ∧ 16 ≤ a) ∧ RB d 211 51 [l0, l1] st (S, aW I a 19 x, R, z) Q) := RB_putI rfl rfl (Or.inl rfl)
theorem w211_51 : RB d 211 51 [.ref a, l1] st (S, I, R, z) Q = RB d 211 52 [.ref a, l1] (.ref a :: st) (S, I, R, z) Q := RB_aloadn rfl rfl
theorem w211_52 : RB d 211 52 [l0, l1] (.ref a :: st) (S, I, R, z) Q = ((S a).1 = 7 ∧ RB d 211 55 [l0, l1] (va_rf (R a 15) :: st) (S, I, R, z) Q) := RB_getR rfl rfl
theorem w211_55 : RB d 211 55 [.ref a, l1] st (S, I, R, z) Q = RB d 211 56 [.ref a, l1] (.ref a :: st) (S, I, R, z) Q := RB_aloadn rfl rfl
theorem w211_56 : RB d 211 56 [l0, l1] (.ref a :: st) (S, I, R, z) Q = ((S a).1 = 7 ∧ RB d 211 59 [l0, l1] (.int (I a 16) :: st) (S, I, R, z) Q) := RB_getI rfl rfl
theorem w211_59 : RB d 211 59 [.ref a, l1] st (S, I, R, z) Q = RB d 211 60 [.ref a, l1] (.ref a :: st) (S, I, R, z) Q := RB_aloadn rfl rfl
theorem w211_60 : RB d 211 60 [l0, l1] (.ref a :: st) (S, I, R, z) Q = ((S a).1 = 7 ∧ RB d 211 63 [l0, l1] (va_rf (R a 18) :: st) (S, I, R, z) Q) := RB_getR rfl rfl
theorem w211_63 : RB d 211 63 [.ref a, l1] st (S, I, R, z) Q = RB d 211 64 [.ref a, l1] (.ref a :: st) (S, I, R, z) Q := RB_aloadn rfl rfl
theorem w211_64 : RB d 211 64 [l0, l1] (.ref a :: st) (S, I, R, z) Q = ((S a).1 = 7 ∧ RB d 211 67 [l0, l1] (.int (I a 19) :: st) (S, I, R, z) Q) := RB_getI rfl rfl
theorem w211_67 : RB d 211 67 [l0, l1] (.int i :: .ref a :: st) (S, I, R, z) Q = (((S a).1 = 9 ∧ aIx i (S a).2) ∧ RB d 211 68 [l0, l1] (.int (I a i.toNatClampNeg) :: st) (S, I, R, z) Q) := RB_iald rfl
theorem w211_68 : RB d 211 68 [l0, l1] (.int x :: .int i :: .ref a :: st) (S, I, R, z) Q = (((S a).1 = 9 ∧ aIx i (S a).2 ∧ 16 ≤ a) ∧ RB d 211 69 [l0, l1] st (S, aW I a i.toNatClampNeg x, R, z) Q) := RB_iast rfl
theorem w211_69 : RB d 211 69 [.ref a, l1] st (S, I, R, z) Q = RB d 211 70 [.ref a, l1] (.ref a :: st) (S, I, R, z) Q := RB_aloadn rfl rfl
theorem w211_70 : RB d 211 70 [l0, l1] (v :: st) (S, I, R, z) Q = RB d 211 71 [l0, l1] (v :: v :: st) (S, I, R, z) Q := RB_dup rfl
theorem w211_71 : RB d 211 71 [l0, l1] (.ref a :: st) (S, I, R, z) Q = ((S a).1 = 7 ∧ RB d 211 74 [l0, l1] (.int (I a 16) :: st) (S, I, R, z) Q) := RB_getI rfl rfl
theorem w211_74 : RB d 211 74 [l0, l1] st (S, I, R, z) Q = RB d 211 75 [l0, l1] (.int 1 :: st) (S, I, R, z) Q := RB_iconst rfl ki1
theorem w211_75 : RB d 211 75 [l0, l1] (.int y :: .int x :: st) (S, I, R, z) Q = RB d 211 76 [l0, l1] (.int (x + y) :: st) (S, I, R, z) Q := RB_iadd rfl
theorem w211_76 : RB d 211 76 [l0, l1] (.int x :: .ref a :: st) (S, I, R, z) Q = (((S a).1 = 7 ∧ 7 < 8 ∧ 16 ≤ a) ∧ RB d 211 79 [l0, l1] st (S, aW I a 16 x, R, z) Q) := RB_putI rfl rfl (Or.inl rfl)
theorem w211_79 : RB d 211 79 [l0, l1] st (S, I, R, z) Q = RB d 211 0 [l0, l1] st (S, I, R, z) Q := RB_goto rfl (by decide) rfl
theorem w211_82 : RB d 211 82 [l0, l1] [] (S, I, R, z) Q = Q none (S, I, R, z) := RB_ret rfl rfl
/-! 212: HangedWordModel.signHere -/
theorem w212_0 : RB d 212 0 [.ref a] st (S, I, R, z) Q = RB d 212 1 [.ref a] (.ref a :: st) (S, I, R, z) Q := RB_aloadn rfl rfl
theorem w212_1 : RB d 212 1 [l0] (.ref a :: st) (S, I, R, z) Q = ((S a).1 = 7 ∧ RB d 212 4 [l0] (.int (I a 9) :: st) (S, I, R, z) Q) := RB_getI rfl rfl
theorem w212_4 : RB d 212 4 [l0] st (S, I, R, z) Q = RB d 212 5 [l0] (.int 3 :: st) (S, I, R, z) Q := RB_iconst rfl ki3
theorem w212_5 : RB d 212 5 [l0] (.int y :: .int x :: st) (S, I, R, z) Q = ((x = y → RB d 212 10 [l0] st (S, I, R, z) Q) ∧ (¬ x = y → RB d 212 8 [l0] st (S, I, R, z) Q)) := RB_ieq rfl (by decide) rfl
theorem w212_8 : RB d 212 8 [l0] st (S, I, R, z) Q = RB d 212 9 [l0] (.int 0 :: st) (S, I, R, z) Q := RB_iconst rfl ki0
theorem w212_9 : RB d 212 9 [l0] [.int x] (S, I, R, z) Q = Q (some (.int x)) (S, I, R, z) := RB_iret rfl rfl rfl
theorem w212_10 : RB d 212 10 [.ref a] st (S, I, R, z) Q = RB d 212 11 [.ref a] (.ref a :: st) (S, I, R, z) Q := RB_aloadn rfl rfl
theorem w212_11 : RB d 212 11 [l0] (.ref a :: st) (S, I, R, z) Q = ((S a).1 = 7 ∧ RB d 212 14 [l0] (.int (I a 10) :: st) (S, I, R, z) Q) := RB_getI rfl rfl
theorem w212_14 : RB d 212 14 [l0] (.int x :: st) (S, I, R, z) Q = aTsR d 212 14 x 122 [l0] st (S, I, R, z) Q [(38, 98), (42, 116), (43, 110), (45, 113), (47, 119), (60, 101), (61, 104), (62, 107), (124, 96)] := RB_tl rfl (by decide) (by decide) (by decide) (by decide +kernel) rfl
theorem w212_96 : RB d 212 96 [l0] st (S, I, R, z) Q = RB d 212 97 [l0] (.int (-1) :: st) (S, I, R, z) Q := RB_iconst rfl kim1
theorem w212_97 : RB d 212 97 [l0] [.int x] (S, I, R, z) Q = Q (some (.int x)) (S, I, R, z) := RB_iret rfl rfl rfl
theorem w212_98 : RB d 212 98 [l0] st (S, I, R, z) Q = RB d 212 100 [l0] (.int (-2) :: st) (S, I, R, z) Q := RB_bipush rfl kbm2
theorem w212_100 : RB d 212 100 [l0] [.int x] (S, I, R, z) Q = Q (some (.int x)) (S, I, R, z) := RB_iret rfl rfl rfl
theorem w212_101 : RB d 212 101 [l0] st (S, I, R, z) Q = RB d 212 103 [l0] (.int (-3) :: st) (S, I, R, z) Q := RB_bipush rfl kbm3
theorem w212_103 : RB d 212 103 [l0] [.int x] (S, I, R, z) Q = Q (some (.int x)) (S, I, R, z) := RB_iret rfl rfl rfl
theorem w212_104 : RB d 212 104 [l0] st (S, I, R, z) Q = RB d 212 106 [l0] (.int (-4) :: st) (S, I, R, z) Q := RB_bipush rfl kbm4
theorem w212_106 : RB d 212 106 [l0] [.int x] (S, I, R, z) Q = Q (some (.int x)) (S, I, R, z) := RB_iret rfl rfl rfl
theorem w212_107 : RB d 212 107 [l0] st (S, I, R, z) Q = RB d 212 109 [l0] (.int (-5) :: st) (S, I, R, z) Q := RB_bipush rfl kbm5
theorem w212_109 : RB d 212 109 [l0] [.int x] (S, I, R, z) Q = Q (some (.int x)) (S, I, R, z) := RB_iret rfl rfl rfl
theorem w212_110 : RB d 212 110 [l0] st (S, I, R, z) Q = RB d 212 112 [l0] (.int (-6) :: st) (S, I, R, z) Q := RB_bipush rfl kbm6
theorem w212_112 : RB d 212 112 [l0] [.int x] (S, I, R, z) Q = Q (some (.int x)) (S, I, R, z) := RB_iret rfl rfl rfl
theorem w212_113 : RB d 212 113 [l0] st (S, I, R, z) Q = RB d 212 115 [l0] (.int (-7) :: st) (S, I, R, z) Q := RB_bipush rfl kbm7
theorem w212_115 : RB d 212 115 [l0] [.int x] (S, I, R, z) Q = Q (some (.int x)) (S, I, R, z) := RB_iret rfl rfl rfl
theorem w212_116 : RB d 212 116 [l0] st (S, I, R, z) Q = RB d 212 118 [l0] (.int (-8) :: st) (S, I, R, z) Q := RB_bipush rfl kbm8
theorem w212_118 : RB d 212 118 [l0] [.int x] (S, I, R, z) Q = Q (some (.int x)) (S, I, R, z) := RB_iret rfl rfl rfl
theorem w212_119 : RB d 212 119 [l0] st (S, I, R, z) Q = RB d 212 121 [l0] (.int (-9) :: st) (S, I, R, z) Q := RB_bipush rfl kbm9
theorem w212_121 : RB d 212 121 [l0] [.int x] (S, I, R, z) Q = Q (some (.int x)) (S, I, R, z) := RB_iret rfl rfl rfl
theorem w212_122 : RB d 212 122 [l0] st (S, I, R, z) Q = RB d 212 123 [l0] (.int 0 :: st) (S, I, R, z) Q := RB_iconst rfl ki0
theorem w212_123 : RB d 212 123 [l0] [.int x] (S, I, R, z) Q = Q (some (.int x)) (S, I, R, z) := RB_iret rfl rfl rfl
/-! 213: HangedWordModel.takesPart -/
theorem w213_0 : RB d 213 0 [.ref a, l1] st (S, I, R, z) Q = RB d 213 1 [.ref a, l1] (.ref a :: st) (S, I, R, z) Q := RB_aloadn rfl rfl
theorem w213_1 : RB d 213 1 [l0, l1] (.ref a :: st) (S, I, R, z) Q = ((S a).1 = 7 ∧ RB d 213 4 [l0, l1] (.int (I a 9) :: st) (S, I, R, z) Q) := RB_getI rfl rfl
theorem w213_4 : RB d 213 4 [l0, l1] st (S, I, R, z) Q = RB d 213 5 [l0, l1] (.int 1 :: st) (S, I, R, z) Q := RB_iconst rfl ki1
theorem w213_5 : RB d 213 5 [l0, l1] (.int y :: .int x :: st) (S, I, R, z) Q = ((x = y → RB d 213 8 [l0, l1] st (S, I, R, z) Q) ∧ (¬ x = y → RB d 213 36 [l0, l1] st (S, I, R, z) Q)) := RB_ine rfl (by decide) rfl
theorem w213_8 : RB d 213 8 [.ref a, l1] st (S, I, R, z) Q = RB d 213 9 [.ref a, l1] (.ref a :: st) (S, I, R, z) Q := RB_aloadn rfl rfl
theorem w213_9 : RB d 213 9 [l0, l1] (.ref a :: st) (S, I, R, z) Q = ((S a).1 = 7 ∧ RB d 213 12 [l0, l1] (.int (I a 7) :: st) (S, I, R, z) Q) := RB_getI rfl rfl
theorem w213_12 : RB d 213 12 [.ref a, l1] st (S, I, R, z) Q = RB d 213 13 [.ref a, l1] (.ref a :: st) (S, I, R, z) Q := RB_aloadn rfl rfl
theorem w213_13 : RB d 213 13 [l0, l1] (.ref a :: st) (S, I, R, z) Q = ((S a).1 = 7 ∧ RB d 213 16 [l0, l1] (.int (I a 8) :: st) (S, I, R, z) Q) := RB_getI rfl rfl
theorem w213_16 : RB d 213 16 [l0, l1] (.int y :: .int x :: st) (S, I, R, z) Q = RB d 213 17 [l0, l1] (.int (x - y) :: st) (S, I, R, z) Q := RB_isub rfl
theorem w213_17 : RB d 213 17 [l0, l1] st (S, I, R, z) Q = RB d 213 18 [l0, l1] (.int 1 :: st) (S, I, R, z) Q := RB_iconst rfl ki1
theorem w213_18 : RB d 213 18 [l0, l1] (.int y :: .int x :: st) (S, I, R, z) Q = ((x = y → RB d 213 21 [l0, l1] st (S, I, R, z) Q) ∧ (¬ x = y → RB d 213 36 [l0, l1] st (S, I, R, z) Q)) := RB_ine rfl (by decide) rfl
theorem w213_21 : RB d 213 21 [.ref a, l1] st (S, I, R, z) Q = RB d 213 22 [.ref a, l1] (.ref a :: st) (S, I, R, z) Q := RB_aloadn rfl rfl
theorem w213_22 : RB d 213 22 [.ref a, l1] st (S, I, R, z) Q = RB d 213 23 [.ref a, l1] (.ref a :: st) (S, I, R, z) Q := RB_aloadn rfl rfl
theorem w213_23 : RB d 213 23 [l0, l1] (.ref a :: st) (S, I, R, z) Q = ((S a).1 = 7 ∧ RB d 213 26 [l0, l1] (.int (I a 10) :: st) (S, I, R, z) Q) := RB_getI rfl rfl
set_option maxRecDepth 20000 in
theorem w213_26 : RB d 213 26 [l0, l1] [.int x0, .ref a] (S, I, R, z) Q = ((S a).1 = 7 ∧ RM d 209 [.ref a, .int x0] (S, I, R, z) (fun v τ => RB d 213 29 [l0, l1] (aPush v []) τ Q)) := RB_callV (n := 2) (t := 0) (k := 266) (ins := .invokevirtual 266) rfl rfl rfl (by decide) (Nat.le_of_ble_eq_true rfl) (Nat.le_of_ble_eq_true rfl) rfl rfl
theorem w213_29 : RB d 213 29 [l0, l1] (.int x :: st) (S, I, R, z) Q = ((x < 0 → RB d 213 36 [l0, l1] st (S, I, R, z) Q) ∧ (¬ x < 0 → RB d 213 32 [l0, l1] st (S, I, R, z) Q)) := RB_lt0 rfl (by decide) rfl
theorem w213_32 : RB d 213 32 [l0, l1] st (S, I, R, z) Q = RB d 213 33 [l0, l1] (.int 1 :: st) (S, I, R, z) Q := RB_iconst rfl ki1
theorem w213_33 : RB d 213 33 [l0, l1] st (S, I, R, z) Q = RB d 213 37 [l0, l1] st (S, I, R, z) Q := RB_goto rfl (by decide) rfl
theorem w213_36 : RB d 213 36 [l0, l1] st (S, I, R, z) Q = RB d 213 37 [l0, l1] (.int 0 :: st) (S, I, R, z) Q := RB_iconst rfl ki0
theorem w213_37 : RB d 213 37 [l0, l1] (.int x :: st) (S, I, R, z) Q = RB d 213 38 [l0, .int x] st (S, I, R, z) Q := RB_istoren rfl (Nat.le_of_ble_eq_true rfl) rfl
theorem w213_38 : RB d 213 38 [.ref a, l1] st (S, I, R, z) Q = RB d 213 39 [.ref a, l1] (.ref a :: st) (S, I, R, z) Q := RB_aloadn rfl rfl
theorem w213_39 : RB d 213 39 [l0, l1] (.ref a :: st) (S, I, R, z) Q = ((S a).1 = 7 ∧ RB d 213 42 [l0, l1] (.int (I a 9) :: st) (S, I, R, z) Q) := RB_getI rfl rfl
theorem w213_42 : RB d 213 42 [l0, l1] st (S, I, R, z) Q = RB d 213 43 [l0, l1] (.int 2 :: st) (S, I, R, z) Q := RB_iconst rfl ki2
theorem w213_43 : RB d 213 43 [l0, l1] (.int y :: .int x :: st) (S, I, R, z) Q = ((x = y → RB d 213 52 [l0, l1] st (S, I, R, z) Q) ∧ (¬ x = y → RB d 213 46 [l0, l1] st (S, I, R, z) Q)) := RB_ieq rfl (by decide) rfl
theorem w213_46 : RB d 213 46 [l0, .int x] st (S, I, R, z) Q = RB d 213 47 [l0, .int x] (.int x :: st) (S, I, R, z) Q := RB_iloadn rfl rfl
theorem w213_47 : RB d 213 47 [l0, l1] (.int x :: st) (S, I, R, z) Q = ((x = 0 → RB d 213 50 [l0, l1] st (S, I, R, z) Q) ∧ (¬ x = 0 → RB d 213 52 [l0, l1] st (S, I, R, z) Q)) := RB_ne0 rfl (by decide) rfl
theorem w213_50 : RB d 213 50 [l0, l1] st (S, I, R, z) Q = RB d 213 51 [l0, l1] (.int 0 :: st) (S, I, R, z) Q := RB_iconst rfl ki0
theorem w213_51 : RB d 213 51 [l0, l1] [.int x] (S, I, R, z) Q = (narrow .boolean (.int x) = .int x ∧ Q (some (.int x)) (S, I, R, z)) := RB_zret rfl rfl (Or.inl rfl)
theorem w213_52 : RB d 213 52 [.ref a, l1] st (S, I, R, z) Q = RB d 213 53 [.ref a, l1] (.ref a :: st) (S, I, R, z) Q := RB_aloadn rfl rfl
theorem w213_53 : RB d 213 53 [l0, l1] (.ref a :: st) (S, I, R, z) Q = ((S a).1 = 7 ∧ RB d 213 56 [l0, l1] (va_rf (R a 15) :: st) (S, I, R, z) Q) := RB_getR rfl rfl
theorem w213_56 : RB d 213 56 [.ref a, l1] st (S, I, R, z) Q = RB d 213 57 [.ref a, l1] (.ref a :: st) (S, I, R, z) Q := RB_aloadn rfl rfl
theorem w213_57 : RB d 213 57 [l0, l1] (.ref a :: st) (S, I, R, z) Q = ((S a).1 = 7 ∧ RB d 213 60 [l0, l1] (.int (I a 16) :: st) (S, I, R, z) Q) := RB_getI rfl rfl
theorem w213_60 : RB d 213 60 [.ref a, l1] st (S, I, R, z) Q = RB d 213 61 [.ref a, l1] (.ref a :: st) (S, I, R, z) Q := RB_aloadn rfl rfl
theorem w213_61 : RB d 213 61 [l0, l1] (.ref a :: st) (S, I, R, z) Q = ((S a).1 = 7 ∧ RB d 213 64 [l0, l1] (.int (I a 9) :: st) (S, I, R, z) Q) := RB_getI rfl rfl
theorem w213_64 : RB d 213 64 [l0, l1] st (S, I, R, z) Q = RB d 213 65 [l0, l1] (.int 2 :: st) (S, I, R, z) Q := RB_iconst rfl ki2
theorem w213_65 : RB d 213 65 [l0, l1] (.int y :: .int x :: st) (S, I, R, z) Q = ((x = y → RB d 213 68 [l0, l1] st (S, I, R, z) Q) ∧ (¬ x = y → RB d 213 75 [l0, l1] st (S, I, R, z) Q)) := RB_ine rfl (by decide) rfl
theorem w213_68 : RB d 213 68 [.ref a, l1] st (S, I, R, z) Q = RB d 213 69 [.ref a, l1] (.ref a :: st) (S, I, R, z) Q := RB_aloadn rfl rfl
theorem w213_69 : RB d 213 69 [l0, l1] (.ref a :: st) (S, I, R, z) Q = ((S a).1 = 7 ∧ RB d 213 72 [l0, l1] (.int (I a 10) :: st) (S, I, R, z) Q) := RB_getI rfl rfl
theorem w213_72 : RB d 213 72 [l0, l1] st (S, I, R, z) Q = RB d 213 87 [l0, l1] st (S, I, R, z) Q := RB_goto rfl (by decide) rfl
theorem w213_75 : RB d 213 75 [l0, l1] st (S, I, R, z) Q = RB d 213 78 [l0, l1] (.int 10000 :: st) (S, I, R, z) Q := RB_sipush rfl ks10000
theorem w213_78 : RB d 213 78 [.ref a, l1] st (S, I, R, z) Q = RB d 213 79 [.ref a, l1] (.ref a :: st) (S, I, R, z) Q := RB_aloadn rfl rfl
theorem w213_79 : RB d 213 79 [.ref a, l1] st (S, I, R, z) Q = RB d 213 80 [.ref a, l1] (.ref a :: st) (S, I, R, z) Q := RB_aloadn rfl rfl
theorem w213_80 : RB d 213 80 [l0, l1] (.ref a :: st) (S, I, R, z) Q = ((S a).1 = 7 ∧ RB d 213 83 [l0, l1] (.int (I a 10) :: st) (S, I, R, z) Q) := RB_getI rfl rfl
set_option maxRecDepth 20000 in
theorem w213_83 : RB d 213 83 [l0, l1] [.int x0, .ref a, s0, s1, s2] (S, I, R, z) Q = ((S a).1 = 7 ∧ RM d 209 [.ref a, .int x0] (S, I, R, z) (fun v τ => RB d 213 86 [l0, l1] (aPush v [s0, s1, s2]) τ Q)) := RB_callV (n := 2) (t := 0) (k := 266) (ins := .invokevirtual 266) rfl rfl rfl (by decide) (Nat.le_of_ble_eq_true rfl) (Nat.le_of_ble_eq_true rfl) rfl rfl
theorem w213_86 : RB d 213 86 [l0, l1] (.int y :: .int x :: st) (S, I, R, z) Q = RB d 213 87 [l0, l1] (.int (x + y) :: st) (S, I, R, z) Q := RB_iadd rfl
theorem w213_87 : RB d 213 87 [l0, l1] (.int x :: .int i :: .ref a :: st) (S, I, R, z) Q = (((S a).1 = 9 ∧ aIx i (S a).2 ∧ 16 ≤ a) ∧ RB d 213 88 [l0, l1] st (S, aW I a i.toNatClampNeg x, R, z) Q) := RB_iast rfl
theorem w213_88 : RB d 213 88 [.ref a, l1] st (S, I, R, z) Q = RB d 213 89 [.ref a, l1] (.ref a :: st) (S, I, R, z) Q := RB_aloadn rfl rfl
theorem w213_89 : RB d 213 89 [l0, l1] (v :: st) (S, I, R, z) Q = RB d 213 90 [l0, l1] (v :: v :: st) (S, I, R, z) Q := RB_dup rfl
theorem w213_90 : RB d 213 90 [l0, l1] (.ref a :: st) (S, I, R, z) Q = ((S a).1 = 7 ∧ RB d 213 93 [l0, l1] (.int (I a 16) :: st) (S, I, R, z) Q) := RB_getI rfl rfl
theorem w213_93 : RB d 213 93 [l0, l1] st (S, I, R, z) Q = RB d 213 94 [l0, l1] (.int 1 :: st) (S, I, R, z) Q := RB_iconst rfl ki1
theorem w213_94 : RB d 213 94 [l0, l1] (.int y :: .int x :: st) (S, I, R, z) Q = RB d 213 95 [l0, l1] (.int (x + y) :: st) (S, I, R, z) Q := RB_iadd rfl
theorem w213_95 : RB d 213 95 [l0, l1] (.int x :: .ref a :: st) (S, I, R, z) Q = (((S a).1 = 7 ∧ 7 < 8 ∧ 16 ≤ a) ∧ RB d 213 98 [l0, l1] st (S, aW I a 16 x, R, z) Q) := RB_putI rfl rfl (Or.inl rfl)
theorem w213_98 : RB d 213 98 [.ref a, l1] st (S, I, R, z) Q = RB d 213 99 [.ref a, l1] (.ref a :: st) (S, I, R, z) Q := RB_aloadn rfl rfl
theorem w213_99 : RB d 213 99 [l0, l1] (v :: st) (S, I, R, z) Q = RB d 213 100 [l0, l1] (v :: v :: st) (S, I, R, z) Q := RB_dup rfl
theorem w213_100 : RB d 213 100 [l0, l1] (.ref a :: st) (S, I, R, z) Q = ((S a).1 = 7 ∧ RB d 213 103 [l0, l1] (.int (I a 17) :: st) (S, I, R, z) Q) := RB_getI rfl rfl
theorem w213_103 : RB d 213 103 [l0, l1] st (S, I, R, z) Q = RB d 213 104 [l0, l1] (.int 1 :: st) (S, I, R, z) Q := RB_iconst rfl ki1
theorem w213_104 : RB d 213 104 [l0, l1] (.int y :: .int x :: st) (S, I, R, z) Q = RB d 213 105 [l0, l1] (.int (x + y) :: st) (S, I, R, z) Q := RB_iadd rfl
theorem w213_105 : RB d 213 105 [l0, l1] (.int x :: .ref a :: st) (S, I, R, z) Q = (((S a).1 = 7 ∧ 7 < 8 ∧ 16 ≤ a) ∧ RB d 213 108 [l0, l1] st (S, aW I a 17 x, R, z) Q) := RB_putI rfl rfl (Or.inl rfl)
theorem w213_108 : RB d 213 108 [.ref a, l1] st (S, I, R, z) Q = RB d 213 109 [.ref a, l1] (.ref a :: st) (S, I, R, z) Q := RB_aloadn rfl rfl
theorem w213_109 : RB d 213 109 [l0, l1] st (S, I, R, z) Q = RB d 213 111 [l0, l1] (.int 6 :: st) (S, I, R, z) Q := RB_bipush rfl kb6
set_option maxRecDepth 20000 in
theorem w213_111 : RB d 213 111 [l0, l1] [.int x0, .ref a] (S, I, R, z) Q = ((S a).1 = 7 ∧ RM d 211 [.ref a, .int x0] (S, I, R, z) (fun v τ => RB d 213 114 [l0, l1] (aPush v []) τ Q)) := RB_callV (n := 2) (t := 0) (k := 272) (ins := .invokevirtual 272) rfl rfl rfl (by decide) (Nat.le_of_ble_eq_true rfl) (Nat.le_of_ble_eq_true rfl) rfl rfl
theorem w213_114 : RB d 213 114 [.ref a, l1] st (S, I, R, z) Q = RB d 213 115 [.ref a, l1] (.ref a :: st) (S, I, R, z) Q := RB_aloadn rfl rfl
set_option maxRecDepth 20000 in
theorem w213_115 : RB d 213 115 [l0, l1] [.ref a] (S, I, R, z) Q = ((S a).1 = 7 ∧ RM d 207 [.ref a] (S, I, R, z) (fun v τ => RB d 213 118 [l0, l1] (aPush v []) τ Q)) := RB_callV (n := 1) (t := 0) (k := 254) (ins := .invokevirtual 254) rfl rfl rfl (by decide) (Nat.le_of_ble_eq_true rfl) (Nat.le_of_ble_eq_true rfl) rfl rfl
theorem w213_118 : RB d 213 118 [l0, l1] st (S, I, R, z) Q = RB d 213 119 [l0, l1] (.int 1 :: st) (S, I, R, z) Q := RB_iconst rfl ki1
theorem w213_119 : RB d 213 119 [l0, l1] [.int x] (S, I, R, z) Q = (narrow .boolean (.int x) = .int x ∧ Q (some (.int x)) (S, I, R, z)) := RB_zret rfl rfl (Or.inl rfl)
/-! 214: HangedWordModel.takesE -/
theorem w214_0 : RB d 214 0 [l0, l1, l2, l3, l4] st (S, I, R, z) Q = RB d 214 1 [l0, l1, l2, l3, l4] (.int 0 :: st) (S, I, R, z) Q := RB_iconst rfl ki0
theorem w214_1 : RB d 214 1 [l0, l1, l2, l3, l4] (.int x :: st) (S, I, R, z) Q = RB d 214 2 [l0, .int x, l2, l3, l4] st (S, I, R, z) Q := RB_istoren rfl (Nat.le_of_ble_eq_true rfl) rfl
theorem w214_2 : RB d 214 2 [l0, l1, l2, l3, l4] st (S, I, R, z) Q = RB d 214 3 [l0, l1, l2, l3, l4] (.int 0 :: st) (S, I, R, z) Q := RB_iconst rfl ki0
theorem w214_3 : RB d 214 3 [l0, l1, l2, l3, l4] (.int x :: st) (S, I, R, z) Q = RB d 214 4 [l0, l1, .int x, l3, l4] st (S, I, R, z) Q := RB_istoren rfl (Nat.le_of_ble_eq_true rfl) rfl
theorem w214_4 : RB d 214 4 [l0, l1, l2, l3, l4] st (S, I, R, z) Q = RB d 214 5 [l0, l1, l2, l3, l4] (.int 1 :: st) (S, I, R, z) Q := RB_iconst rfl ki1
theorem w214_5 : RB d 214 5 [l0, l1, l2, l3, l4] (.int x :: st) (S, I, R, z) Q = RB d 214 6 [l0, l1, l2, .int x, l4] st (S, I, R, z) Q := RB_istoren rfl (Nat.le_of_ble_eq_true rfl) rfl
theorem w214_6 : RB d 214 6 [.ref a, l1, l2, l3, l4] st (S, I, R, z) Q = RB d 214 7 [.ref a, l1, l2, l3, l4] (.ref a :: st) (S, I, R, z) Q := RB_aloadn rfl rfl
theorem w214_7 : RB d 214 7 [l0, l1, l2, l3, l4] st (S, I, R, z) Q = RB d 214 8 [l0, l1, l2, l3, l4] (.int 0 :: st) (S, I, R, z) Q := RB_iconst rfl ki0
theorem w214_8 : RB d 214 8 [l0, l1, l2, l3, l4] (.int x :: .ref a :: st) (S, I, R, z) Q = (((S a).1 = 7 ∧ 7 < 8 ∧ 16 ≤ a) ∧ RB d 214 11 [l0, l1, l2, l3, l4] st (S, aW I a 16 x, R, z) Q) := RB_putI rfl rfl (Or.inl rfl)
theorem w214_11 : RB d 214 11 [.ref a, l1, l2, l3, l4] st (S, I, R, z) Q = RB d 214 12 [.ref a, l1, l2, l3, l4] (.ref a :: st) (S, I, R, z) Q := RB_aloadn rfl rfl
theorem w214_12 : RB d 214 12 [l0, l1, l2, l3, l4] st (S, I, R, z) Q = RB d 214 13 [l0, l1, l2, l3, l4] (.int 0 :: st) (S, I, R, z) Q := RB_iconst rfl ki0
theorem w214_13 : RB d 214 13 [l0, l1, l2, l3, l4] (.int x :: .ref a :: st) (S, I, R, z) Q = (((S a).1 = 7 ∧ 7 < 8 ∧ 16 ≤ a) ∧ RB d 214 16 [l0, l1, l2, l3, l4] st (S, aW I a 17 x, R, z) Q) := RB_putI rfl rfl (Or.inl rfl)
theorem w214_16 : RB d 214 16 [.ref a, l1, l2, l3, l4] st (S, I, R, z) Q = RB d 214 17 [.ref a, l1, l2, l3, l4] (.ref a :: st) (S, I, R, z) Q := RB_aloadn rfl rfl
theorem w214_17 : RB d 214 17 [l0, l1, l2, l3, l4] st (S, I, R, z) Q = RB d 214 18 [l0, l1, l2, l3, l4] (.int 0 :: st) (S, I, R, z) Q := RB_iconst rfl ki0
theorem w214_18 : RB d 214 18 [l0, l1, l2, l3, l4] (.int x :: .ref a :: st) (S, I, R, z) Q = (((S a).1 = 7 ∧ 7 < 8 ∧ 16 ≤ a) ∧ RB d 214 21 [l0, l1, l2, l3, l4] st (S, aW I a 19 x, R, z) Q) := RB_putI rfl rfl (Or.inl rfl)
theorem w214_21 : RB d 214 21 [.ref a, l1, l2, l3, l4] st (S, I, R, z) Q = RB d 214 22 [.ref a, l1, l2, l3, l4] (.ref a :: st) (S, I, R, z) Q := RB_aloadn rfl rfl
theorem w214_22 : RB d 214 22 [l0, l1, l2, l3, l4] (.ref a :: st) (S, I, R, z) Q = ((S a).1 = 7 ∧ RB d 214 25 [l0, l1, l2, l3, l4] (va_rf (R a 20) :: st) (S, I, R, z) Q) := RB_getR rfl rfl
theorem w214_25 : RB d 214 25 [l0, l1, l2, l3, l4] st (S, I, R, z) Q = RB d 214 26 [l0, l1, l2, l3, l4] (.int 0 :: st) (S, I, R, z) Q := RB_iconst rfl ki0
theorem w214_26 : RB d 214 26 [l0, l1, l2, l3, l4] st (S, I, R, z) Q = RB d 214 27 [l0, l1, l2, l3, l4] (.int 0 :: st) (S, I, R, z) Q := RB_iconst rfl ki0
theorem w214_27 : RB d 214 27 [l0, l1, l2, l3, l4] (.int x :: .int i :: .ref a :: st) (S, I, R, z) Q = (((S a).1 = 10 ∧ aIx i (S a).2 ∧ 16 ≤ a) ∧ RB d 214 28 [l0, l1, l2, l3, l4] st (S, aW I a i.toNatClampNeg (vp_nar .boolean x), R, z) Q) := RB_bast rfl
theorem w214_28 : RB d 214 28 [l0, l1, l2, .int x, l4] st (S, I, R, z) Q = RB d 214 29 [l0, l1, l2, .int x, l4] (.int x :: st) (S, I, R, z) Q := RB_iloadn rfl rfl
theorem w214_29 : RB d 214 29 [l0, l1, l2, l3, l4] (.int x :: st) (S, I, R, z) Q = ((x = 0 → RB d 214 32 [l0, l1, l2, l3, l4] st (S, I, R, z) Q) ∧ (¬ x = 0 → RB d 214 39 [l0, l1, l2, l3, l4] st (S, I, R, z) Q)) := RB_ne0 rfl (by decide) rfl
theorem w214_32 : RB d 214 32 [.ref a, l1, l2, l3, l4] st (S, I, R, z) Q = RB d 214 33 [.ref a, l1, l2, l3, l4] (.ref a :: st) (S, I, R, z) Q := RB_aloadn rfl rfl
theorem w214_33 : RB d 214 33 [l0, l1, l2, l3, l4] (.ref a :: st) (S, I, R, z) Q = ((S a).1 = 7 ∧ RB d 214 36 [l0, l1, l2, l3, l4] (.int (I a 9) :: st) (S, I, R, z) Q) := RB_getI rfl rfl
theorem w214_36 : RB d 214 36 [l0, l1, l2, l3, l4] (.int x :: st) (S, I, R, z) Q = ((x = 0 → RB d 214 345 [l0, l1, l2, l3, l4] st (S, I, R, z) Q) ∧ (¬ x = 0 → RB d 214 39 [l0, l1, l2, l3, l4] st (S, I, R, z) Q)) := RB_eq0 rfl (by decide) rfl
theorem w214_39 : RB d 214 39 [l0, l1, l2, .int x, l4] st (S, I, R, z) Q = RB d 214 40 [l0, l1, l2, .int x, l4] (.int x :: st) (S, I, R, z) Q := RB_iloadn rfl rfl
theorem w214_40 : RB d 214 40 [l0, l1, l2, l3, l4] (.int x :: st) (S, I, R, z) Q = ((x = 0 → RB d 214 180 [l0, l1, l2, l3, l4] st (S, I, R, z) Q) ∧ (¬ x = 0 → RB d 214 43 [l0, l1, l2, l3, l4] st (S, I, R, z) Q)) := RB_eq0 rfl (by decide) rfl
theorem w214_43 : RB d 214 43 [.ref a, l1, l2, l3, l4] st (S, I, R, z) Q = RB d 214 44 [.ref a, l1, l2, l3, l4] (.ref a :: st) (S, I, R, z) Q := RB_aloadn rfl rfl
theorem w214_44 : RB d 214 44 [l0, l1, l2, l3, l4] (.ref a :: st) (S, I, R, z) Q = ((S a).1 = 7 ∧ RB d 214 47 [l0, l1, l2, l3, l4] (.int (I a 9) :: st) (S, I, R, z) Q) := RB_getI rfl rfl
theorem w214_47 : RB d 214 47 [l0, l1, l2, l3, l4] st (S, I, R, z) Q = RB d 214 48 [l0, l1, l2, l3, l4] (.int 3 :: st) (S, I, R, z) Q := RB_iconst rfl ki3
theorem w214_48 : RB d 214 48 [l0, l1, l2, l3, l4] (.int y :: .int x :: st) (S, I, R, z) Q = ((x = y → RB d 214 51 [l0, l1, l2, l3, l4] st (S, I, R, z) Q) ∧ (¬ x = y → RB d 214 97 [l0, l1, l2, l3, l4] st (S, I, R, z) Q)) := RB_ine rfl (by decide) rfl
theorem w214_51 : RB d 214 51 [.ref a, l1, l2, l3, l4] st (S, I, R, z) Q = RB d 214 52 [.ref a, l1, l2, l3, l4] (.ref a :: st) (S, I, R, z) Q := RB_aloadn rfl rfl
theorem w214_52 : RB d 214 52 [l0, l1, l2, l3, l4] (.ref a :: st) (S, I, R, z) Q = ((S a).1 = 7 ∧ RB d 214 55 [l0, l1, l2, l3, l4] (.int (I a 10) :: st) (S, I, R, z) Q) := RB_getI rfl rfl
theorem w214_55 : RB d 214 55 [l0, l1, l2, l3, l4] st (S, I, R, z) Q = RB d 214 57 [l0, l1, l2, l3, l4] (.int 33 :: st) (S, I, R, z) Q := RB_bipush rfl kb33
theorem w214_57 : RB d 214 57 [l0, l1, l2, l3, l4] (.int y :: .int x :: st) (S, I, R, z) Q = ((x = y → RB d 214 60 [l0, l1, l2, l3, l4] st (S, I, R, z) Q) ∧ (¬ x = y → RB d 214 97 [l0, l1, l2, l3, l4] st (S, I, R, z) Q)) := RB_ine rfl (by decide) rfl
theorem w214_60 : RB d 214 60 [l0, l1, .int x, l3, l4] st (S, I, R, z) Q = RB d 214 61 [l0, l1, .int x, l3, l4] (.int x :: st) (S, I, R, z) Q := RB_iloadn rfl rfl
theorem w214_61 : RB d 214 61 [l0, l1, l2, l3, l4] st (S, I, R, z) Q = RB d 214 63 [l0, l1, l2, l3, l4] (.int 8 :: st) (S, I, R, z) Q := RB_bipush rfl kb8
theorem w214_63 : RB d 214 63 [l0, l1, l2, l3, l4] (.int y :: .int x :: st) (S, I, R, z) Q = ((y ≤ x → RB d 214 97 [l0, l1, l2, l3, l4] st (S, I, R, z) Q) ∧ (¬ y ≤ x → RB d 214 66 [l0, l1, l2, l3, l4] st (S, I, R, z) Q)) := RB_ige rfl (by decide) rfl
theorem w214_66 : RB d 214 66 [.ref a, l1, l2, l3, l4] st (S, I, R, z) Q = RB d 214 67 [.ref a, l1, l2, l3, l4] (.ref a :: st) (S, I, R, z) Q := RB_aloadn rfl rfl
theorem w214_67 : RB d 214 67 [l0, l1, l2, l3, l4] (.ref a :: st) (S, I, R, z) Q = ((S a).1 = 7 ∧ RB d 214 70 [l0, l1, l2, l3, l4] (va_rf (R a 18) :: st) (S, I, R, z) Q) := RB_getR rfl rfl
theorem w214_70 : RB d 214 70 [.ref a, l1, l2, l3, l4] st (S, I, R, z) Q = RB d 214 71 [.ref a, l1, l2, l3, l4] (.ref a :: st) (S, I, R, z) Q := RB_aloadn rfl rfl
theorem w214_71 : RB d 214 71 [l0, l1, l2, l3, l4] (.ref a :: st) (S, I, R, z) Q = ((S a).1 = 7 ∧ RB d 214 74 [l0, l1, l2, l3, l4] (.int (I a 19) :: st) (S, I, R, z) Q) := RB_getI rfl rfl
theorem w214_74 : RB d 214 74 [l0, l1, l2, l3, l4] st (S, I, R, z) Q = RB d 214 76 [l0, l1, l2, l3, l4] (.int (-10) :: st) (S, I, R, z) Q := RB_bipush rfl kbm10
theorem w214_76 : RB d 214 76 [l0, l1, l2, l3, l4] (.int x :: .int i :: .ref a :: st) (S, I, R, z) Q = (((S a).1 = 9 ∧ aIx i (S a).2 ∧ 16 ≤ a) ∧ RB d 214 77 [l0, l1, l2, l3, l4] st (S, aW I a i.toNatClampNeg x, R, z) Q) := RB_iast rfl
theorem w214_77 : RB d 214 77 [.ref a, l1, l2, l3, l4] st (S, I, R, z) Q = RB d 214 78 [.ref a, l1, l2, l3, l4] (.ref a :: st) (S, I, R, z) Q := RB_aloadn rfl rfl
theorem w214_78 : RB d 214 78 [l0, l1, l2, l3, l4] (v :: st) (S, I, R, z) Q = RB d 214 79 [l0, l1, l2, l3, l4] (v :: v :: st) (S, I, R, z) Q := RB_dup rfl
theorem w214_79 : RB d 214 79 [l0, l1, l2, l3, l4] (.ref a :: st) (S, I, R, z) Q = ((S a).1 = 7 ∧ RB d 214 82 [l0, l1, l2, l3, l4] (.int (I a 19) :: st) (S, I, R, z) Q) := RB_getI rfl rfl
theorem w214_82 : RB d 214 82 [l0, l1, l2, l3, l4] st (S, I, R, z) Q = RB d 214 83 [l0, l1, l2, l3, l4] (.int 1 :: st) (S, I, R, z) Q := RB_iconst rfl ki1
theorem w214_83 : RB d 214 83 [l0, l1, l2, l3, l4] (.int y :: .int x :: st) (S, I, R, z) Q = RB d 214 84 [l0, l1, l2, l3, l4] (.int (x + y) :: st) (S, I, R, z) Q := RB_iadd rfl
theorem w214_84 : RB d 214 84 [l0, l1, l2, l3, l4] (.int x :: .ref a :: st) (S, I, R, z) Q = (((S a).1 = 7 ∧ 7 < 8 ∧ 16 ≤ a) ∧ RB d 214 87 [l0, l1, l2, l3, l4] st (S, aW I a 19 x, R, z) Q) := RB_putI rfl rfl (Or.inl rfl)
theorem w214_87 : RB d 214 87 [l0, l1, .int x, l3, l4] st (S, I, R, z) Q = RB d 214 90 [l0, l1, .int (x + 1), l3, l4] st (S, I, R, z) Q := RB_iinc rfl rfl (Nat.le_of_ble_eq_true rfl) ki1 rfl
theorem w214_90 : RB d 214 90 [.ref a, l1, l2, l3, l4] st (S, I, R, z) Q = RB d 214 91 [.ref a, l1, l2, l3, l4] (.ref a :: st) (S, I, R, z) Q := RB_aloadn rfl rfl
set_option maxRecDepth 20000 in
theorem w214_91 : RB d 214 91 [l0, l1, l2, l3, l4] [.ref a] (S, I, R, z) Q = ((S a).1 = 7 ∧ RM d 207 [.ref a] (S, I, R, z) (fun v τ => RB d 214 94 [l0, l1, l2, l3, l4] (aPush v []) τ Q)) := RB_callV (n := 1) (t := 0) (k := 254) (ins := .invokevirtual 254) rfl rfl rfl (by decide) (Nat.le_of_ble_eq_true rfl) (Nat.le_of_ble_eq_true rfl) rfl rfl
theorem w214_94 : RB d 214 94 [l0, l1, l2, l3, l4] st (S, I, R, z) Q = RB d 214 172 [l0, l1, l2, l3, l4] st (S, I, R, z) Q := RB_goto rfl (by decide) rfl
theorem w214_97 : RB d 214 97 [.ref a, l1, l2, l3, l4] st (S, I, R, z) Q = RB d 214 98 [.ref a, l1, l2, l3, l4] (.ref a :: st) (S, I, R, z) Q := RB_aloadn rfl rfl
theorem w214_98 : RB d 214 98 [l0, l1, l2, l3, l4] (.ref a :: st) (S, I, R, z) Q = ((S a).1 = 7 ∧ RB d 214 101 [l0, l1, l2, l3, l4] (.int (I a 9) :: st) (S, I, R, z) Q) := RB_getI rfl rfl
theorem w214_101 : RB d 214 101 [l0, l1, l2, l3, l4] st (S, I, R, z) Q = RB d 214 102 [l0, l1, l2, l3, l4] (.int 3 :: st) (S, I, R, z) Q := RB_iconst rfl ki3
theorem w214_102 : RB d 214 102 [l0, l1, l2, l3, l4] (.int y :: .int x :: st) (S, I, R, z) Q = ((x = y → RB d 214 105 [l0, l1, l2, l3, l4] st (S, I, R, z) Q) ∧ (¬ x = y → RB d 214 158 [l0, l1, l2, l3, l4] st (S, I, R, z) Q)) := RB_ine rfl (by decide) rfl
theorem w214_105 : RB d 214 105 [.ref a, l1, l2, l3, l4] st (S, I, R, z) Q = RB d 214 106 [.ref a, l1, l2, l3, l4] (.ref a :: st) (S, I, R, z) Q := RB_aloadn rfl rfl
theorem w214_106 : RB d 214 106 [l0, l1, l2, l3, l4] (.ref a :: st) (S, I, R, z) Q = ((S a).1 = 7 ∧ RB d 214 109 [l0, l1, l2, l3, l4] (.int (I a 10) :: st) (S, I, R, z) Q) := RB_getI rfl rfl
theorem w214_109 : RB d 214 109 [l0, l1, l2, l3, l4] st (S, I, R, z) Q = RB d 214 111 [l0, l1, l2, l3, l4] (.int 40 :: st) (S, I, R, z) Q := RB_bipush rfl kb40
theorem w214_111 : RB d 214 111 [l0, l1, l2, l3, l4] (.int y :: .int x :: st) (S, I, R, z) Q = ((x = y → RB d 214 114 [l0, l1, l2, l3, l4] st (S, I, R, z) Q) ∧ (¬ x = y → RB d 214 158 [l0, l1, l2, l3, l4] st (S, I, R, z) Q)) := RB_ine rfl (by decide) rfl
theorem w214_114 : RB d 214 114 [l0, .int x, l2, l3, l4] st (S, I, R, z) Q = RB d 214 115 [l0, .int x, l2, l3, l4] (.int x :: st) (S, I, R, z) Q := RB_iloadn rfl rfl
theorem w214_115 : RB d 214 115 [l0, l1, l2, l3, l4] st (S, I, R, z) Q = RB d 214 117 [l0, l1, l2, l3, l4] (.int 8 :: st) (S, I, R, z) Q := RB_bipush rfl kb8
theorem w214_117 : RB d 214 117 [l0, l1, l2, l3, l4] (.int y :: .int x :: st) (S, I, R, z) Q = ((y ≤ x → RB d 214 158 [l0, l1, l2, l3, l4] st (S, I, R, z) Q) ∧ (¬ y ≤ x → RB d 214 120 [l0, l1, l2, l3, l4] st (S, I, R, z) Q)) := RB_ige rfl (by decide) rfl
theorem w214_120 : RB d 214 120 [.ref a, l1, l2, l3, l4] st (S, I, R, z) Q = RB d 214 121 [.ref a, l1, l2, l3, l4] (.ref a :: st) (S, I, R, z) Q := RB_aloadn rfl rfl
theorem w214_121 : RB d 214 121 [l0, l1, l2, l3, l4] (.ref a :: st) (S, I, R, z) Q = ((S a).1 = 7 ∧ RB d 214 124 [l0, l1, l2, l3, l4] (va_rf (R a 18) :: st) (S, I, R, z) Q) := RB_getR rfl rfl
theorem w214_124 : RB d 214 124 [.ref a, l1, l2, l3, l4] st (S, I, R, z) Q = RB d 214 125 [.ref a, l1, l2, l3, l4] (.ref a :: st) (S, I, R, z) Q := RB_aloadn rfl rfl
theorem w214_125 : RB d 214 125 [l0, l1, l2, l3, l4] (.ref a :: st) (S, I, R, z) Q = ((S a).1 = 7 ∧ RB d 214 128 [l0, l1, l2, l3, l4] (.int (I a 19) :: st) (S, I, R, z) Q) := RB_getI rfl rfl
theorem w214_128 : RB d 214 128 [l0, l1, l2, l3, l4] st (S, I, R, z) Q = RB d 214 130 [l0, l1, l2, l3, l4] (.int (-11) :: st) (S, I, R, z) Q := RB_bipush rfl kbm11
theorem w214_130 : RB d 214 130 [l0, l1, l2, l3, l4] (.int x :: .int i :: .ref a :: st) (S, I, R, z) Q = (((S a).1 = 9 ∧ aIx i (S a).2 ∧ 16 ≤ a) ∧ RB d 214 131 [l0, l1, l2, l3, l4] st (S, aW I a i.toNatClampNeg x, R, z) Q) := RB_iast rfl
theorem w214_131 : RB d 214 131 [.ref a, l1, l2, l3, l4] st (S, I, R, z) Q = RB d 214 132 [.ref a, l1, l2, l3, l4] (.ref a :: st) (S, I, R, z) Q := RB_aloadn rfl rfl
theorem w214_132 : RB d 214 132 [l0, l1, l2, l3, l4] (v :: st) (S, I, R, z) Q = RB d 214 133 [l0, l1, l2, l3, l4] (v :: v :: st) (S, I, R, z) Q := RB_dup rfl
theorem w214_133 : RB d 214 133 [l0, l1, l2, l3, l4] (.ref a :: st) (S, I, R, z) Q = ((S a).1 = 7 ∧ RB d 214 136 [l0, l1, l2, l3, l4] (.int (I a 19) :: st) (S, I, R, z) Q) := RB_getI rfl rfl
theorem w214_136 : RB d 214 136 [l0, l1, l2, l3, l4] st (S, I, R, z) Q = RB d 214 137 [l0, l1, l2, l3, l4] (.int 1 :: st) (S, I, R, z) Q := RB_iconst rfl ki1
theorem w214_137 : RB d 214 137 [l0, l1, l2, l3, l4] (.int y :: .int x :: st) (S, I, R, z) Q = RB d 214 138 [l0, l1, l2, l3, l4] (.int (x + y) :: st) (S, I, R, z) Q := RB_iadd rfl
theorem w214_138 : RB d 214 138 [l0, l1, l2, l3, l4] (.int x :: .ref a :: st) (S, I, R, z) Q = (((S a).1 = 7 ∧ 7 < 8 ∧ 16 ≤ a) ∧ RB d 214 141 [l0, l1, l2, l3, l4] st (S, aW I a 19 x, R, z) Q) := RB_putI rfl rfl (Or.inl rfl)
theorem w214_141 : RB d 214 141 [l0, .int x, l2, l3, l4] st (S, I, R, z) Q = RB d 214 144 [l0, .int (x + 1), l2, l3, l4] st (S, I, R, z) Q := RB_iinc rfl rfl (Nat.le_of_ble_eq_true rfl) ki1 rfl
theorem w214_144 : RB d 214 144 [.ref a, l1, l2, l3, l4] st (S, I, R, z) Q = RB d 214 145 [.ref a, l1, l2, l3, l4] (.ref a :: st) (S, I, R, z) Q := RB_aloadn rfl rfl
theorem w214_145 : RB d 214 145 [l0, l1, l2, l3, l4] (.ref a :: st) (S, I, R, z) Q = ((S a).1 = 7 ∧ RB d 214 148 [l0, l1, l2, l3, l4] (va_rf (R a 20) :: st) (S, I, R, z) Q) := RB_getR rfl rfl
theorem w214_148 : RB d 214 148 [l0, .int x, l2, l3, l4] st (S, I, R, z) Q = RB d 214 149 [l0, .int x, l2, l3, l4] (.int x :: st) (S, I, R, z) Q := RB_iloadn rfl rfl
theorem w214_149 : RB d 214 149 [l0, l1, l2, l3, l4] st (S, I, R, z) Q = RB d 214 150 [l0, l1, l2, l3, l4] (.int 0 :: st) (S, I, R, z) Q := RB_iconst rfl ki0
theorem w214_150 : RB d 214 150 [l0, l1, l2, l3, l4] (.int x :: .int i :: .ref a :: st) (S, I, R, z) Q = (((S a).1 = 10 ∧ aIx i (S a).2 ∧ 16 ≤ a) ∧ RB d 214 151 [l0, l1, l2, l3, l4] st (S, aW I a i.toNatClampNeg (vp_nar .boolean x), R, z) Q) := RB_bast rfl
theorem w214_151 : RB d 214 151 [.ref a, l1, l2, l3, l4] st (S, I, R, z) Q = RB d 214 152 [.ref a, l1, l2, l3, l4] (.ref a :: st) (S, I, R, z) Q := RB_aloadn rfl rfl
set_option maxRecDepth 20000 in
theorem w214_152 : RB d 214 152 [l0, l1, l2, l3, l4] [.ref a] (S, I, R, z) Q = ((S a).1 = 7 ∧ RM d 207 [.ref a] (S, I, R, z) (fun v τ => RB d 214 155 [l0, l1, l2, l3, l4] (aPush v []) τ Q)) := RB_callV (n := 1) (t := 0) (k := 254) (ins := .invokevirtual 254) rfl rfl rfl (by decide) (Nat.le_of_ble_eq_true rfl) (Nat.le_of_ble_eq_true rfl) rfl rfl
theorem w214_155 : RB d 214 155 [l0, l1, l2, l3, l4] st (S, I, R, z) Q = RB d 214 172 [l0, l1, l2, l3, l4] st (S, I, R, z) Q := RB_goto rfl (by decide) rfl
theorem w214_158 : RB d 214 158 [.ref a, l1, l2, l3, l4] st (S, I, R, z) Q = RB d 214 159 [.ref a, l1, l2, l3, l4] (.ref a :: st) (S, I, R, z) Q := RB_aloadn rfl rfl
set_option maxRecDepth 20000 in
theorem w214_159 : RB d 214 159 [l0, l1, l2, l3, l4] [.ref a] (S, I, R, z) Q = ((S a).1 = 7 ∧ RM d 213 [.ref a] (S, I, R, z) (fun v τ => RB d 214 162 [l0, l1, l2, l3, l4] (aPush v []) τ Q)) := RB_callV (n := 1) (t := 0) (k := 275) (ins := .invokevirtual 275) rfl rfl rfl (by decide) (Nat.le_of_ble_eq_true rfl) (Nat.le_of_ble_eq_true rfl) rfl rfl
theorem w214_162 : RB d 214 162 [l0, l1, l2, l3, l4] (.int x :: st) (S, I, R, z) Q = ((x = 0 → RB d 214 170 [l0, l1, l2, l3, l4] st (S, I, R, z) Q) ∧ (¬ x = 0 → RB d 214 165 [l0, l1, l2, l3, l4] st (S, I, R, z) Q)) := RB_eq0 rfl (by decide) rfl
theorem w214_165 : RB d 214 165 [l0, l1, l2, l3, l4] st (S, I, R, z) Q = RB d 214 166 [l0, l1, l2, l3, l4] (.int 0 :: st) (S, I, R, z) Q := RB_iconst rfl ki0
theorem w214_166 : RB d 214 166 [l0, l1, l2, l3, l4] (.int x :: st) (S, I, R, z) Q = RB d 214 167 [l0, l1, l2, .int x, l4] st (S, I, R, z) Q := RB_istoren rfl (Nat.le_of_ble_eq_true rfl) rfl
theorem w214_167 : RB d 214 167 [l0, l1, l2, l3, l4] st (S, I, R, z) Q = RB d 214 172 [l0, l1, l2, l3, l4] st (S, I, R, z) Q := RB_goto rfl (by decide) rfl
theorem w214_170 : RB d 214 170 [l0, l1, l2, l3, l4] st (S, I, R, z) Q = RB d 214 171 [l0, l1, l2, l3, l4] (.int 0 :: st) (S, I, R, z) Q := RB_iconst rfl ki0
theorem w214_171 : RB d 214 171 [l0, l1, l2, l3, l4] [.int x] (S, I, R, z) Q = (narrow .boolean (.int x) = .int x ∧ Q (some (.int x)) (S, I, R, z)) := RB_zret rfl rfl (Or.inl rfl)
theorem w214_172 : RB d 214 172 [.ref a, l1, l2, l3, l4] st (S, I, R, z) Q = RB d 214 173 [.ref a, l1, l2, l3, l4] (.ref a :: st) (S, I, R, z) Q := RB_aloadn rfl rfl
set_option maxRecDepth 20000 in
theorem w214_173 : RB d 214 173 [l0, l1, l2, l3, l4] [.ref a] (S, I, R, z) Q = ((S a).1 = 7 ∧ RM d 215 [.ref a] (S, I, R, z) (fun v τ => RB d 214 176 [l0, l1, l2, l3, l4] (aPush v []) τ Q)) := RB_callV (n := 1) (t := 0) (k := 278) (ins := .invokevirtual 278) rfl rfl rfl (by decide) (Nat.le_of_ble_eq_true rfl) (Nat.le_of_ble_eq_true rfl) rfl rfl
theorem w214_176 : RB d 214 176 [l0, l1, l2, l3, l4] (.int x :: st) (S, I, R, z) Q = RB d 214 177 [l0, l1, .int x, l3, l4] st (S, I, R, z) Q := RB_istoren rfl (Nat.le_of_ble_eq_true rfl) rfl
theorem w214_177 : RB d 214 177 [l0, l1, l2, l3, l4] st (S, I, R, z) Q = RB d 214 28 [l0, l1, l2, l3, l4] st (S, I, R, z) Q := RB_goto rfl (by decide) rfl
theorem w214_180 : RB d 214 180 [.ref a, l1, l2, l3, l4] st (S, I, R, z) Q = RB d 214 181 [.ref a, l1, l2, l3, l4] (.ref a :: st) (S, I, R, z) Q := RB_aloadn rfl rfl
theorem w214_181 : RB d 214 181 [l0, l1, l2, l3, l4] (.ref a :: st) (S, I, R, z) Q = ((S a).1 = 7 ∧ RB d 214 184 [l0, l1, l2, l3, l4] (.int (I a 9) :: st) (S, I, R, z) Q) := RB_getI rfl rfl
theorem w214_184 : RB d 214 184 [l0, l1, l2, l3, l4] st (S, I, R, z) Q = RB d 214 185 [l0, l1, l2, l3, l4] (.int 3 :: st) (S, I, R, z) Q := RB_iconst rfl ki3
theorem w214_185 : RB d 214 185 [l0, l1, l2, l3, l4] (.int y :: .int x :: st) (S, I, R, z) Q = ((x = y → RB d 214 188 [l0, l1, l2, l3, l4] st (S, I, R, z) Q) ∧ (¬ x = y → RB d 214 237 [l0, l1, l2, l3, l4] st (S, I, R, z) Q)) := RB_ine rfl (by decide) rfl
theorem w214_188 : RB d 214 188 [.ref a, l1, l2, l3, l4] st (S, I, R, z) Q = RB d 214 189 [.ref a, l1, l2, l3, l4] (.ref a :: st) (S, I, R, z) Q := RB_aloadn rfl rfl
theorem w214_189 : RB d 214 189 [l0, l1, l2, l3, l4] (.ref a :: st) (S, I, R, z) Q = ((S a).1 = 7 ∧ RB d 214 192 [l0, l1, l2, l3, l4] (.int (I a 10) :: st) (S, I, R, z) Q) := RB_getI rfl rfl
theorem w214_192 : RB d 214 192 [l0, l1, l2, l3, l4] st (S, I, R, z) Q = RB d 214 194 [l0, l1, l2, l3, l4] (.int 41 :: st) (S, I, R, z) Q := RB_bipush rfl kb41
theorem w214_194 : RB d 214 194 [l0, l1, l2, l3, l4] (.int y :: .int x :: st) (S, I, R, z) Q = ((x = y → RB d 214 197 [l0, l1, l2, l3, l4] st (S, I, R, z) Q) ∧ (¬ x = y → RB d 214 237 [l0, l1, l2, l3, l4] st (S, I, R, z) Q)) := RB_ine rfl (by decide) rfl
theorem w214_197 : RB d 214 197 [l0, .int x, l2, l3, l4] st (S, I, R, z) Q = RB d 214 198 [l0, .int x, l2, l3, l4] (.int x :: st) (S, I, R, z) Q := RB_iloadn rfl rfl
theorem w214_198 : RB d 214 198 [l0, l1, l2, l3, l4] (.int x :: st) (S, I, R, z) Q = ((x ≤ 0 → RB d 214 237 [l0, l1, l2, l3, l4] st (S, I, R, z) Q) ∧ (¬ x ≤ 0 → RB d 214 201 [l0, l1, l2, l3, l4] st (S, I, R, z) Q)) := RB_le0 rfl (by decide) rfl
theorem w214_201 : RB d 214 201 [.ref a, l1, l2, l3, l4] st (S, I, R, z) Q = RB d 214 202 [.ref a, l1, l2, l3, l4] (.ref a :: st) (S, I, R, z) Q := RB_aloadn rfl rfl
theorem w214_202 : RB d 214 202 [l0, l1, l2, l3, l4] st (S, I, R, z) Q = RB d 214 203 [l0, l1, l2, l3, l4] (.int 0 :: st) (S, I, R, z) Q := RB_iconst rfl ki0
set_option maxRecDepth 20000 in
theorem w214_203 : RB d 214 203 [l0, l1, l2, l3, l4] [.int x0, .ref a] (S, I, R, z) Q = ((S a).1 = 7 ∧ RM d 211 [.ref a, .int x0] (S, I, R, z) (fun v τ => RB d 214 206 [l0, l1, l2, l3, l4] (aPush v []) τ Q)) := RB_callV (n := 2) (t := 0) (k := 272) (ins := .invokevirtual 272) rfl rfl rfl (by decide) (Nat.le_of_ble_eq_true rfl) (Nat.le_of_ble_eq_true rfl) rfl rfl
theorem w214_206 : RB d 214 206 [.ref a, l1, l2, l3, l4] st (S, I, R, z) Q = RB d 214 207 [.ref a, l1, l2, l3, l4] (.ref a :: st) (S, I, R, z) Q := RB_aloadn rfl rfl
theorem w214_207 : RB d 214 207 [l0, l1, l2, l3, l4] (v :: st) (S, I, R, z) Q = RB d 214 208 [l0, l1, l2, l3, l4] (v :: v :: st) (S, I, R, z) Q := RB_dup rfl
theorem w214_208 : RB d 214 208 [l0, l1, l2, l3, l4] (.ref a :: st) (S, I, R, z) Q = ((S a).1 = 7 ∧ RB d 214 211 [l0, l1, l2, l3, l4] (.int (I a 19) :: st) (S, I, R, z) Q) := RB_getI rfl rfl
theorem w214_211 : RB d 214 211 [l0, l1, l2, l3, l4] st (S, I, R, z) Q = RB d 214 212 [l0, l1, l2, l3, l4] (.int 1 :: st) (S, I, R, z) Q := RB_iconst rfl ki1
theorem w214_212 : RB d 214 212 [l0, l1, l2, l3, l4] (.int y :: .int x :: st) (S, I, R, z) Q = RB d 214 213 [l0, l1, l2, l3, l4] (.int (x - y) :: st) (S, I, R, z) Q := RB_isub rfl
theorem w214_213 : RB d 214 213 [l0, l1, l2, l3, l4] (.int x :: .ref a :: st) (S, I, R, z) Q = (((S a).1 = 7 ∧ 7 < 8 ∧ 16 ≤ a) ∧ RB d 214 216 [l0, l1, l2, l3, l4] st (S, aW I a 19 x, R, z) Q) := RB_putI rfl rfl (Or.inl rfl)
theorem w214_216 : RB d 214 216 [l0, .int x, l2, l3, l4] st (S, I, R, z) Q = RB d 214 219 [l0, .int (x + (-1)), l2, l3, l4] st (S, I, R, z) Q := RB_iinc rfl rfl (Nat.le_of_ble_eq_true rfl) kim1 rfl
theorem w214_219 : RB d 214 219 [.ref a, l1, l2, l3, l4] st (S, I, R, z) Q = RB d 214 220 [.ref a, l1, l2, l3, l4] (.ref a :: st) (S, I, R, z) Q := RB_aloadn rfl rfl
theorem w214_220 : RB d 214 220 [l0, l1, l2, l3, l4] st (S, I, R, z) Q = RB d 214 222 [l0, l1, l2, l3, l4] (.int 6 :: st) (S, I, R, z) Q := RB_bipush rfl kb6
set_option maxRecDepth 20000 in
theorem w214_222 : RB d 214 222 [l0, l1, l2, l3, l4] [.int x0, .ref a] (S, I, R, z) Q = ((S a).1 = 7 ∧ RM d 211 [.ref a, .int x0] (S, I, R, z) (fun v τ => RB d 214 225 [l0, l1, l2, l3, l4] (aPush v []) τ Q)) := RB_callV (n := 2) (t := 0) (k := 272) (ins := .invokevirtual 272) rfl rfl rfl (by decide) (Nat.le_of_ble_eq_true rfl) (Nat.le_of_ble_eq_true rfl) rfl rfl
theorem w214_225 : RB d 214 225 [.ref a, l1, l2, l3, l4] st (S, I, R, z) Q = RB d 214 226 [.ref a, l1, l2, l3, l4] (.ref a :: st) (S, I, R, z) Q := RB_aloadn rfl rfl
set_option maxRecDepth 20000 in
theorem w214_226 : RB d 214 226 [l0, l1, l2, l3, l4] [.ref a] (S, I, R, z) Q = ((S a).1 = 7 ∧ RM d 215 [.ref a] (S, I, R, z) (fun v τ => RB d 214 229 [l0, l1, l2, l3, l4] (aPush v []) τ Q)) := RB_callV (n := 1) (t := 0) (k := 278) (ins := .invokevirtual 278) rfl rfl rfl (by decide) (Nat.le_of_ble_eq_true rfl) (Nat.le_of_ble_eq_true rfl) rfl rfl
theorem w214_229 : RB d 214 229 [l0, l1, l2, l3, l4] (.int x :: st) (S, I, R, z) Q = RB d 214 230 [l0, l1, .int x, l3, l4] st (S, I, R, z) Q := RB_istoren rfl (Nat.le_of_ble_eq_true rfl) rfl
theorem w214_230 : RB d 214 230 [.ref a, l1, l2, l3, l4] st (S, I, R, z) Q = RB d 214 231 [.ref a, l1, l2, l3, l4] (.ref a :: st) (S, I, R, z) Q := RB_aloadn rfl rfl
set_option maxRecDepth 20000 in
theorem w214_231 : RB d 214 231 [l0, l1, l2, l3, l4] [.ref a] (S, I, R, z) Q = ((S a).1 = 7 ∧ RM d 207 [.ref a] (S, I, R, z) (fun v τ => RB d 214 234 [l0, l1, l2, l3, l4] (aPush v []) τ Q)) := RB_callV (n := 1) (t := 0) (k := 254) (ins := .invokevirtual 254) rfl rfl rfl (by decide) (Nat.le_of_ble_eq_true rfl) (Nat.le_of_ble_eq_true rfl) rfl rfl
set_option maxRecDepth 20000 in
theorem w214_234 : RB d 214 234 [l0, l1, l2, l3, l4] st (S, I, R, z) Q = RB d 214 28 [l0, l1, l2, l3, l4] st (S, I, R, z) Q := RB_goto rfl (by decide) rfl
set_option maxRecDepth 20000 in
theorem w214_237 : RB d 214 237 [.ref a, l1, l2, l3, l4] st (S, I, R, z) Q = RB d 214 238 [.ref a, l1, l2, l3, l4] (.ref a :: st) (S, I, R, z) Q := RB_aloadn rfl rfl
set_option maxRecDepth 20000 in
theorem w214_238 : RB d 214 238 [l0, l1, l2, l3, l4] [.ref a] (S, I, R, z) Q = ((S a).1 = 7 ∧ RM d 212 [.ref a] (S, I, R, z) (fun v τ => RB d 214 241 [l0, l1, l2, l3, l4] (aPush v []) τ Q)) := RB_callV (n := 1) (t := 0) (k := 281) (ins := .invokevirtual 281) rfl rfl rfl (by decide) (Nat.le_of_ble_eq_true rfl) (Nat.le_of_ble_eq_true rfl) rfl rfl
set_option maxRecDepth 20000 in
theorem w214_241 : RB d 214 241 [l0, l1, l2, l3, l4] (.int x :: st) (S, I, R, z) Q = RB d 214 243 [l0, l1, l2, l3, .int x] st (S, I, R, z) Q := RB_istore rfl (Nat.le_of_ble_eq_true rfl) rfl
set_option maxRecDepth 20000 in
theorem w214_243 : RB d 214 243 [l0, l1, l2, l3, .int x] st (S, I, R, z) Q = RB d 214 245 [l0, l1, l2, l3, .int x] (.int x :: st) (S, I, R, z) Q := RB_iload rfl rfl
set_option maxRecDepth 20000 in
theorem w214_245 : RB d 214 245 [l0, l1, l2, l3, l4] (.int x :: st) (S, I, R, z) Q = ((x = 0 → RB d 214 266 [l0, l1, l2, l3, l4] st (S, I, R, z) Q) ∧ (¬ x = 0 → RB d 214 248 [l0, l1, l2, l3, l4] st (S, I, R, z) Q)) := RB_eq0 rfl (by decide) rfl
set_option maxRecDepth 20000 in
theorem w214_248 : RB d 214 248 [l0, l1, l2, l3, .int x] st (S, I, R, z) Q = RB d 214 250 [l0, l1, l2, l3, .int x] (.int x :: st) (S, I, R, z) Q := RB_iload rfl rfl
set_option maxRecDepth 20000 in
theorem w214_250 : RB d 214 250 [l0, l1, l2, l3, l4] [.int x0] (S, I, R, z) Q = RM d 210 [.int x0] (S, I, R, z) (fun v τ => RB d 214 253 [l0, l1, l2, l3, l4] (aPush v []) τ Q) := RB_callS (n := 1) (t := 1) (k := 260) (ins := .invokestatic 260) rfl rfl rfl (Nat.le_of_ble_eq_true rfl) (Nat.le_of_ble_eq_true rfl) rfl rfl
set_option maxRecDepth 20000 in
theorem w214_253 : RB d 214 253 [l0, l1, l2, l3, l4] st (S, I, R, z) Q = RB d 214 254 [l0, l1, l2, l3, l4] (.int 3 :: st) (S, I, R, z) Q := RB_iconst rfl ki3
set_option maxRecDepth 20000 in
theorem w214_254 : RB d 214 254 [l0, l1, l2, l3, l4] (.int y :: .int x :: st) (S, I, R, z) Q = ((x = y → RB d 214 257 [l0, l1, l2, l3, l4] st (S, I, R, z) Q) ∧ (¬ x = y → RB d 214 268 [l0, l1, l2, l3, l4] st (S, I, R, z) Q)) := RB_ine rfl (by decide) rfl
set_option maxRecDepth 20000 in
theorem w214_257 : RB d 214 257 [.ref a, l1, l2, l3, l4] st (S, I, R, z) Q = RB d 214 258 [.ref a, l1, l2, l3, l4] (.ref a :: st) (S, I, R, z) Q := RB_aloadn rfl rfl
set_option maxRecDepth 20000 in
theorem w214_258 : RB d 214 258 [l0, l1, l2, l3, l4] (.ref a :: st) (S, I, R, z) Q = ((S a).1 = 7 ∧ RB d 214 261 [l0, l1, l2, l3, l4] (va_rf (R a 20) :: st) (S, I, R, z) Q) := RB_getR rfl rfl
set_option maxRecDepth 20000 in
theorem w214_261 : RB d 214 261 [l0, .int x, l2, l3, l4] st (S, I, R, z) Q = RB d 214 262 [l0, .int x, l2, l3, l4] (.int x :: st) (S, I, R, z) Q := RB_iloadn rfl rfl
set_option maxRecDepth 20000 in
theorem w214_262 : RB d 214 262 [l0, l1, l2, l3, l4] (.int i :: .ref a :: st) (S, I, R, z) Q = ((((S a).1 = 10 ∨ (S a).1 = 15) ∧ aIx i (S a).2) ∧ RB d 214 263 [l0, l1, l2, l3, l4] (.int (I a i.toNatClampNeg) :: st) (S, I, R, z) Q) := RB_bald rfl
set_option maxRecDepth 20000 in
theorem w214_263 : RB d 214 263 [l0, l1, l2, l3, l4] (.int x :: st) (S, I, R, z) Q = ((x = 0 → RB d 214 268 [l0, l1, l2, l3, l4] st (S, I, R, z) Q) ∧ (¬ x = 0 → RB d 214 266 [l0, l1, l2, l3, l4] st (S, I, R, z) Q)) := RB_eq0 rfl (by decide) rfl
set_option maxRecDepth 20000 in
theorem w214_266 : RB d 214 266 [l0, l1, l2, l3, l4] st (S, I, R, z) Q = RB d 214 267 [l0, l1, l2, l3, l4] (.int 0 :: st) (S, I, R, z) Q := RB_iconst rfl ki0
set_option maxRecDepth 20000 in
theorem w214_267 : RB d 214 267 [l0, l1, l2, l3, l4] [.int x] (S, I, R, z) Q = (narrow .boolean (.int x) = .int x ∧ Q (some (.int x)) (S, I, R, z)) := RB_zret rfl rfl (Or.inl rfl)
set_option maxRecDepth 20000 in
theorem w214_268 : RB d 214 268 [.ref a, l1, l2, l3, l4] st (S, I, R, z) Q = RB d 214 269 [.ref a, l1, l2, l3, l4] (.ref a :: st) (S, I, R, z) Q := RB_aloadn rfl rfl
set_option maxRecDepth 20000 in
theorem w214_269 : RB d 214 269 [l0, l1, l2, l3, l4] (.ref a :: st) (S, I, R, z) Q = ((S a).1 = 7 ∧ RB d 214 272 [l0, l1, l2, l3, l4] (va_rf (R a 20) :: st) (S, I, R, z) Q) := RB_getR rfl rfl
set_option maxRecDepth 20000 in
theorem w214_272 : RB d 214 272 [l0, .int x, l2, l3, l4] st (S, I, R, z) Q = RB d 214 273 [l0, .int x, l2, l3, l4] (.int x :: st) (S, I, R, z) Q := RB_iloadn rfl rfl
set_option maxRecDepth 20000 in
theorem w214_273 : RB d 214 273 [l0, l1, l2, l3, .int x] st (S, I, R, z) Q = RB d 214 275 [l0, l1, l2, l3, .int x] (.int x :: st) (S, I, R, z) Q := RB_iload rfl rfl
set_option maxRecDepth 20000 in
theorem w214_275 : RB d 214 275 [l0, l1, l2, l3, l4] [.int x0, s0, s1] (S, I, R, z) Q = RM d 210 [.int x0] (S, I, R, z) (fun v τ => RB d 214 278 [l0, l1, l2, l3, l4] (aPush v [s0, s1]) τ Q) := RB_callS (n := 1) (t := 1) (k := 260) (ins := .invokestatic 260) rfl rfl rfl (Nat.le_of_ble_eq_true rfl) (Nat.le_of_ble_eq_true rfl) rfl rfl
set_option maxRecDepth 20000 in
theorem w214_278 : RB d 214 278 [l0, l1, l2, l3, l4] st (S, I, R, z) Q = RB d 214 279 [l0, l1, l2, l3, l4] (.int 3 :: st) (S, I, R, z) Q := RB_iconst rfl ki3
set_option maxRecDepth 20000 in
theorem w214_279 : RB d 214 279 [l0, l1, l2, l3, l4] (.int y :: .int x :: st) (S, I, R, z) Q = ((x = y → RB d 214 300 [l0, l1, l2, l3, l4] st (S, I, R, z) Q) ∧ (¬ x = y → RB d 214 282 [l0, l1, l2, l3, l4] st (S, I, R, z) Q)) := RB_ieq rfl (by decide) rfl
set_option maxRecDepth 20000 in
theorem w214_282 : RB d 214 282 [l0, l1, l2, l3, .int x] st (S, I, R, z) Q = RB d 214 284 [l0, l1, l2, l3, .int x] (.int x :: st) (S, I, R, z) Q := RB_iload rfl rfl
set_option maxRecDepth 20000 in
theorem w214_284 : RB d 214 284 [l0, l1, l2, l3, l4] [.int x0, s0, s1] (S, I, R, z) Q = RM d 210 [.int x0] (S, I, R, z) (fun v τ => RB d 214 287 [l0, l1, l2, l3, l4] (aPush v [s0, s1]) τ Q) := RB_callS (n := 1) (t := 1) (k := 260) (ins := .invokestatic 260) rfl rfl rfl (Nat.le_of_ble_eq_true rfl) (Nat.le_of_ble_eq_true rfl) rfl rfl
set_option maxRecDepth 20000 in
theorem w214_287 : RB d 214 287 [l0, l1, l2, l3, l4] st (S, I, R, z) Q = RB d 214 288 [l0, l1, l2, l3, l4] (.int 3 :: st) (S, I, R, z) Q := RB_iconst rfl ki3
set_option maxRecDepth 20000 in
theorem w214_288 : RB d 214 288 [l0, l1, l2, l3, l4] (.int y :: .int x :: st) (S, I, R, z) Q = ((x ≤ y → RB d 214 304 [l0, l1, l2, l3, l4] st (S, I, R, z) Q) ∧ (¬ x ≤ y → RB d 214 291 [l0, l1, l2, l3, l4] st (S, I, R, z) Q)) := RB_ile rfl (by decide) rfl
set_option maxRecDepth 20000 in
theorem w214_291 : RB d 214 291 [.ref a, l1, l2, l3, l4] st (S, I, R, z) Q = RB d 214 292 [.ref a, l1, l2, l3, l4] (.ref a :: st) (S, I, R, z) Q := RB_aloadn rfl rfl
set_option maxRecDepth 20000 in
theorem w214_292 : RB d 214 292 [l0, l1, l2, l3, l4] (.ref a :: st) (S, I, R, z) Q = ((S a).1 = 7 ∧ RB d 214 295 [l0, l1, l2, l3, l4] (va_rf (R a 20) :: st) (S, I, R, z) Q) := RB_getR rfl rfl
set_option maxRecDepth 20000 in
theorem w214_295 : RB d 214 295 [l0, .int x, l2, l3, l4] st (S, I, R, z) Q = RB d 214 296 [l0, .int x, l2, l3, l4] (.int x :: st) (S, I, R, z) Q := RB_iloadn rfl rfl
set_option maxRecDepth 20000 in
theorem w214_296 : RB d 214 296 [l0, l1, l2, l3, l4] (.int i :: .ref a :: st) (S, I, R, z) Q = ((((S a).1 = 10 ∨ (S a).1 = 15) ∧ aIx i (S a).2) ∧ RB d 214 297 [l0, l1, l2, l3, l4] (.int (I a i.toNatClampNeg) :: st) (S, I, R, z) Q) := RB_bald rfl
set_option maxRecDepth 20000 in
theorem w214_297 : RB d 214 297 [l0, l1, l2, l3, l4] (.int x :: st) (S, I, R, z) Q = ((x = 0 → RB d 214 304 [l0, l1, l2, l3, l4] st (S, I, R, z) Q) ∧ (¬ x = 0 → RB d 214 300 [l0, l1, l2, l3, l4] st (S, I, R, z) Q)) := RB_eq0 rfl (by decide) rfl
set_option maxRecDepth 20000 in
theorem w214_300 : RB d 214 300 [l0, l1, l2, l3, l4] st (S, I, R, z) Q = RB d 214 301 [l0, l1, l2, l3, l4] (.int 1 :: st) (S, I, R, z) Q := RB_iconst rfl ki1
set_option maxRecDepth 20000 in
theorem w214_301 : RB d 214 301 [l0, l1, l2, l3, l4] st (S, I, R, z) Q = RB d 214 305 [l0, l1, l2, l3, l4] st (S, I, R, z) Q := RB_goto rfl (by decide) rfl
set_option maxRecDepth 20000 in
theorem w214_304 : RB d 214 304 [l0, l1, l2, l3, l4] st (S, I, R, z) Q = RB d 214 305 [l0, l1, l2, l3, l4] (.int 0 :: st) (S, I, R, z) Q := RB_iconst rfl ki0
set_option maxRecDepth 20000 in
theorem w214_305 : RB d 214 305 [l0, l1, l2, l3, l4] (.int x :: .int i :: .ref a :: st) (S, I, R, z) Q = (((S a).1 = 10 ∧ aIx i (S a).2 ∧ 16 ≤ a) ∧ RB d 214 306 [l0, l1, l2, l3, l4] st (S, aW I a i.toNatClampNeg (vp_nar .boolean x), R, z) Q) := RB_bast rfl
set_option maxRecDepth 20000 in
theorem w214_306 : RB d 214 306 [.ref a, l1, l2, l3, l4] st (S, I, R, z) Q = RB d 214 307 [.ref a, l1, l2, l3, l4] (.ref a :: st) (S, I, R, z) Q := RB_aloadn rfl rfl
set_option maxRecDepth 20000 in
theorem w214_307 : RB d 214 307 [l0, l1, l2, l3, .int x] st (S, I, R, z) Q = RB d 214 309 [l0, l1, l2, l3, .int x] (.int x :: st) (S, I, R, z) Q := RB_iload rfl rfl
set_option maxRecDepth 20000 in
theorem w214_309 : RB d 214 309 [l0, l1, l2, l3, l4] [.int x0, s0] (S, I, R, z) Q = RM d 210 [.int x0] (S, I, R, z) (fun v τ => RB d 214 312 [l0, l1, l2, l3, l4] (aPush v [s0]) τ Q) := RB_callS (n := 1) (t := 1) (k := 260) (ins := .invokestatic 260) rfl rfl rfl (Nat.le_of_ble_eq_true rfl) (Nat.le_of_ble_eq_true rfl) rfl rfl
set_option maxRecDepth 20000 in
theorem w214_312 : RB d 214 312 [l0, l1, l2, l3, l4] [.int x0, .ref a] (S, I, R, z) Q = ((S a).1 = 7 ∧ RM d 211 [.ref a, .int x0] (S, I, R, z) (fun v τ => RB d 214 315 [l0, l1, l2, l3, l4] (aPush v []) τ Q)) := RB_callV (n := 2) (t := 0) (k := 272) (ins := .invokevirtual 272) rfl rfl rfl (by decide) (Nat.le_of_ble_eq_true rfl) (Nat.le_of_ble_eq_true rfl) rfl rfl
set_option maxRecDepth 20000 in
theorem w214_315 : RB d 214 315 [.ref a, l1, l2, l3, l4] st (S, I, R, z) Q = RB d 214 316 [.ref a, l1, l2, l3, l4] (.ref a :: st) (S, I, R, z) Q := RB_aloadn rfl rfl
set_option maxRecDepth 20000 in
theorem w214_316 : RB d 214 316 [l0, l1, l2, l3, l4] (.ref a :: st) (S, I, R, z) Q = ((S a).1 = 7 ∧ RB d 214 319 [l0, l1, l2, l3, l4] (va_rf (R a 18) :: st) (S, I, R, z) Q) := RB_getR rfl rfl
set_option maxRecDepth 20000 in
theorem w214_319 : RB d 214 319 [.ref a, l1, l2, l3, l4] st (S, I, R, z) Q = RB d 214 320 [.ref a, l1, l2, l3, l4] (.ref a :: st) (S, I, R, z) Q := RB_aloadn rfl rfl
set_option maxRecDepth 20000 in
theorem w214_320 : RB d 214 320 [l0, l1, l2, l3, l4] (.ref a :: st) (S, I, R, z) Q = ((S a).1 = 7 ∧ RB d 214 323 [l0, l1, l2, l3, l4] (.int (I a 19) :: st) (S, I, R, z) Q) := RB_getI rfl rfl
set_option maxRecDepth 20000 in
theorem w214_323 : RB d 214 323 [l0, l1, l2, l3, .int x] st (S, I, R, z) Q = RB d 214 325 [l0, l1, l2, l3, .int x] (.int x :: st) (S, I, R, z) Q := RB_iload rfl rfl
set_option maxRecDepth 20000 in
theorem w214_325 : RB d 214 325 [l0, l1, l2, l3, l4] (.int x :: .int i :: .ref a :: st) (S, I, R, z) Q = (((S a).1 = 9 ∧ aIx i (S a).2 ∧ 16 ≤ a) ∧ RB d 214 326 [l0, l1, l2, l3, l4] st (S, aW I a i.toNatClampNeg x, R, z) Q) := RB_iast rfl
set_option maxRecDepth 20000 in
theorem w214_326 : RB d 214 326 [.ref a, l1, l2, l3, l4] st (S, I, R, z) Q = RB d 214 327 [.ref a, l1, l2, l3, l4] (.ref a :: st) (S, I, R, z) Q := RB_aloadn rfl rfl
set_option maxRecDepth 20000 in
theorem w214_327 : RB d 214 327 [l0, l1, l2, l3, l4] (v :: st) (S, I, R, z) Q = RB d 214 328 [l0, l1, l2, l3, l4] (v :: v :: st) (S, I, R, z) Q := RB_dup rfl
set_option maxRecDepth 20000 in
theorem w214_328 : RB d 214 328 [l0, l1, l2, l3, l4] (.ref a :: st) (S, I, R, z) Q = ((S a).1 = 7 ∧ RB d 214 331 [l0, l1, l2, l3, l4] (.int (I a 19) :: st) (S, I, R, z) Q) := RB_getI rfl rfl
set_option maxRecDepth 20000 in
theorem w214_331 : RB d 214 331 [l0, l1, l2, l3, l4] st (S, I, R, z) Q = RB d 214 332 [l0, l1, l2, l3, l4] (.int 1 :: st) (S, I, R, z) Q := RB_iconst rfl ki1
set_option maxRecDepth 20000 in
theorem w214_332 : RB d 214 332 [l0, l1, l2, l3, l4] (.int y :: .int x :: st) (S, I, R, z) Q = RB d 214 333 [l0, l1, l2, l3, l4] (.int (x + y) :: st) (S, I, R, z) Q := RB_iadd rfl
set_option maxRecDepth 20000 in
theorem w214_333 : RB d 214 333 [l0, l1, l2, l3, l4] (.int x :: .ref a :: st) (S, I, R, z) Q = (((S a).1 = 7 ∧ 7 < 8 ∧ 16 ≤ a) ∧ RB d 214 336 [l0, l1, l2, l3, l4] st (S, aW I a 19 x, R, z) Q) := RB_putI rfl rfl (Or.inl rfl)
set_option maxRecDepth 20000 in
theorem w214_336 : RB d 214 336 [l0, l1, l2, l3, l4] st (S, I, R, z) Q = RB d 214 337 [l0, l1, l2, l3, l4] (.int 1 :: st) (S, I, R, z) Q := RB_iconst rfl ki1
set_option maxRecDepth 20000 in
theorem w214_337 : RB d 214 337 [l0, l1, l2, l3, l4] (.int x :: st) (S, I, R, z) Q = RB d 214 338 [l0, l1, l2, .int x, l4] st (S, I, R, z) Q := RB_istoren rfl (Nat.le_of_ble_eq_true rfl) rfl
set_option maxRecDepth 20000 in
theorem w214_338 : RB d 214 338 [.ref a, l1, l2, l3, l4] st (S, I, R, z) Q = RB d 214 339 [.ref a, l1, l2, l3, l4] (.ref a :: st) (S, I, R, z) Q := RB_aloadn rfl rfl
set_option maxRecDepth 20000 in
theorem w214_339 : RB d 214 339 [l0, l1, l2, l3, l4] [.ref a] (S, I, R, z) Q = ((S a).1 = 7 ∧ RM d 207 [.ref a] (S, I, R, z) (fun v τ => RB d 214 342 [l0, l1, l2, l3, l4] (aPush v []) τ Q)) := RB_callV (n := 1) (t := 0) (k := 254) (ins := .invokevirtual 254) rfl rfl rfl (by decide) (Nat.le_of_ble_eq_true rfl) (Nat.le_of_ble_eq_true rfl) rfl rfl
set_option maxRecDepth 20000 in
theorem w214_342 : RB d 214 342 [l0, l1, l2, l3, l4] st (S, I, R, z) Q = RB d 214 28 [l0, l1, l2, l3, l4] st (S, I, R, z) Q := RB_goto rfl (by decide) rfl
set_option maxRecDepth 20000 in
theorem w214_345 : RB d 214 345 [.ref a, l1, l2, l3, l4] st (S, I, R, z) Q = RB d 214 346 [.ref a, l1, l2, l3, l4] (.ref a :: st) (S, I, R, z) Q := RB_aloadn rfl rfl
set_option maxRecDepth 20000 in
theorem w214_346 : RB d 214 346 [l0, l1, l2, l3, l4] st (S, I, R, z) Q = RB d 214 347 [l0, l1, l2, l3, l4] (.int 0 :: st) (S, I, R, z) Q := RB_iconst rfl ki0
set_option maxRecDepth 20000 in
theorem w214_347 : RB d 214 347 [l0, l1, l2, l3, l4] [.int x0, .ref a] (S, I, R, z) Q = ((S a).1 = 7 ∧ RM d 211 [.ref a, .int x0] (S, I, R, z) (fun v τ => RB d 214 350 [l0, l1, l2, l3, l4] (aPush v []) τ Q)) := RB_callV (n := 2) (t := 0) (k := 272) (ins := .invokevirtual 272) rfl rfl rfl (by decide) (Nat.le_of_ble_eq_true rfl) (Nat.le_of_ble_eq_true rfl) rfl rfl
set_option maxRecDepth 20000 in
theorem w214_350 : RB d 214 350 [l0, .int x, l2, l3, l4] st (S, I, R, z) Q = RB d 214 351 [l0, .int x, l2, l3, l4] (.int x :: st) (S, I, R, z) Q := RB_iloadn rfl rfl
set_option maxRecDepth 20000 in
theorem w214_351 : RB d 214 351 [l0, l1, l2, l3, l4] (.int x :: st) (S, I, R, z) Q = ((x = 0 → RB d 214 354 [l0, l1, l2, l3, l4] st (S, I, R, z) Q) ∧ (¬ x = 0 → RB d 214 358 [l0, l1, l2, l3, l4] st (S, I, R, z) Q)) := RB_ne0 rfl (by decide) rfl
set_option maxRecDepth 20000 in
theorem w214_354 : RB d 214 354 [l0, l1, l2, l3, l4] st (S, I, R, z) Q = RB d 214 355 [l0, l1, l2, l3, l4] (.int 1 :: st) (S, I, R, z) Q := RB_iconst rfl ki1
set_option maxRecDepth 20000 in
theorem w214_355 : RB d 214 355 [l0, l1, l2, l3, l4] st (S, I, R, z) Q = RB d 214 359 [l0, l1, l2, l3, l4] st (S, I, R, z) Q := RB_goto rfl (by decide) rfl
set_option maxRecDepth 20000 in
theorem w214_358 : RB d 214 358 [l0, l1, l2, l3, l4] st (S, I, R, z) Q = RB d 214 359 [l0, l1, l2, l3, l4] (.int 0 :: st) (S, I, R, z) Q := RB_iconst rfl ki0
set_option maxRecDepth 20000 in
theorem w214_359 : RB d 214 359 [l0, l1, l2, l3, l4] [.int x] (S, I, R, z) Q = (narrow .boolean (.int x) = .int x ∧ Q (some (.int x)) (S, I, R, z)) := RB_zret rfl rfl (Or.inl rfl)
/-! 215: HangedWordModel.notsOpen -/
theorem w215_0 : RB d 215 0 [l0, l1, l2] st (S, I, R, z) Q = RB d 215 1 [l0, l1, l2] (.int 0 :: st) (S, I, R, z) Q := RB_iconst rfl ki0
theorem w215_1 : RB d 215 1 [l0, l1, l2] (.int x :: st) (S, I, R, z) Q = RB d 215 2 [l0, .int x, l2] st (S, I, R, z) Q := RB_istoren rfl (Nat.le_of_ble_eq_true rfl) rfl
theorem w215_2 : RB d 215 2 [l0, l1, l2] st (S, I, R, z) Q = RB d 215 3 [l0, l1, l2] (.int 0 :: st) (S, I, R, z) Q := RB_iconst rfl ki0
theorem w215_3 : RB d 215 3 [l0, l1, l2] (.int x :: st) (S, I, R, z) Q = RB d 215 4 [l0, l1, .int x] st (S, I, R, z) Q := RB_istoren rfl (Nat.le_of_ble_eq_true rfl) rfl
theorem w215_4 : RB d 215 4 [l0, l1, .int x] st (S, I, R, z) Q = RB d 215 5 [l0, l1, .int x] (.int x :: st) (S, I, R, z) Q := RB_iloadn rfl rfl
theorem w215_5 : RB d 215 5 [.ref a, l1, l2] st (S, I, R, z) Q = RB d 215 6 [.ref a, l1, l2] (.ref a :: st) (S, I, R, z) Q := RB_aloadn rfl rfl
theorem w215_6 : RB d 215 6 [l0, l1, l2] (.ref a :: st) (S, I, R, z) Q = ((S a).1 = 7 ∧ RB d 215 9 [l0, l1, l2] (.int (I a 19) :: st) (S, I, R, z) Q) := RB_getI rfl rfl
theorem w215_9 : RB d 215 9 [l0, l1, l2] (.int y :: .int x :: st) (S, I, R, z) Q = ((y ≤ x → RB d 215 37 [l0, l1, l2] st (S, I, R, z) Q) ∧ (¬ y ≤ x → RB d 215 12 [l0, l1, l2] st (S, I, R, z) Q)) := RB_ige rfl (by decide) rfl
theorem w215_12 : RB d 215 12 [l0, .int x, l2] st (S, I, R, z) Q = RB d 215 13 [l0, .int x, l2] (.int x :: st) (S, I, R, z) Q := RB_iloadn rfl rfl
theorem w215_13 : RB d 215 13 [.ref a, l1, l2] st (S, I, R, z) Q = RB d 215 14 [.ref a, l1, l2] (.ref a :: st) (S, I, R, z) Q := RB_aloadn rfl rfl
theorem w215_14 : RB d 215 14 [l0, l1, l2] (.ref a :: st) (S, I, R, z) Q = ((S a).1 = 7 ∧ RB d 215 17 [l0, l1, l2] (va_rf (R a 18) :: st) (S, I, R, z) Q) := RB_getR rfl rfl
theorem w215_17 : RB d 215 17 [l0, l1, .int x] st (S, I, R, z) Q = RB d 215 18 [l0, l1, .int x] (.int x :: st) (S, I, R, z) Q := RB_iloadn rfl rfl
theorem w215_18 : RB d 215 18 [l0, l1, l2] (.int i :: .ref a :: st) (S, I, R, z) Q = (((S a).1 = 9 ∧ aIx i (S a).2) ∧ RB d 215 19 [l0, l1, l2] (.int (I a i.toNatClampNeg) :: st) (S, I, R, z) Q) := RB_iald rfl
theorem w215_19 : RB d 215 19 [l0, l1, l2] st (S, I, R, z) Q = RB d 215 21 [l0, l1, l2] (.int (-10) :: st) (S, I, R, z) Q := RB_bipush rfl kbm10
theorem w215_21 : RB d 215 21 [l0, l1, l2] (.int y :: .int x :: st) (S, I, R, z) Q = ((x = y → RB d 215 24 [l0, l1, l2] st (S, I, R, z) Q) ∧ (¬ x = y → RB d 215 28 [l0, l1, l2] st (S, I, R, z) Q)) := RB_ine rfl (by decide) rfl
theorem w215_24 : RB d 215 24 [l0, l1, l2] st (S, I, R, z) Q = RB d 215 25 [l0, l1, l2] (.int 1 :: st) (S, I, R, z) Q := RB_iconst rfl ki1
theorem w215_25 : RB d 215 25 [l0, l1, l2] st (S, I, R, z) Q = RB d 215 29 [l0, l1, l2] st (S, I, R, z) Q := RB_goto rfl (by decide) rfl
theorem w215_28 : RB d 215 28 [l0, l1, l2] st (S, I, R, z) Q = RB d 215 29 [l0, l1, l2] (.int 0 :: st) (S, I, R, z) Q := RB_iconst rfl ki0
theorem w215_29 : RB d 215 29 [l0, l1, l2] (.int y :: .int x :: st) (S, I, R, z) Q = RB d 215 30 [l0, l1, l2] (.int (x + y) :: st) (S, I, R, z) Q := RB_iadd rfl
theorem w215_30 : RB d 215 30 [l0, l1, l2] (.int x :: st) (S, I, R, z) Q = RB d 215 31 [l0, .int x, l2] st (S, I, R, z) Q := RB_istoren rfl (Nat.le_of_ble_eq_true rfl) rfl
theorem w215_31 : RB d 215 31 [l0, l1, .int x] st (S, I, R, z) Q = RB d 215 34 [l0, l1, .int (x + 1)] st (S, I, R, z) Q := RB_iinc rfl rfl (Nat.le_of_ble_eq_true rfl) ki1 rfl
theorem w215_34 : RB d 215 34 [l0, l1, l2] st (S, I, R, z) Q = RB d 215 4 [l0, l1, l2] st (S, I, R, z) Q := RB_goto rfl (by decide) rfl
theorem w215_37 : RB d 215 37 [l0, .int x, l2] st (S, I, R, z) Q = RB d 215 38 [l0, .int x, l2] (.int x :: st) (S, I, R, z) Q := RB_iloadn rfl rfl
theorem w215_38 : RB d 215 38 [l0, l1, l2] [.int x] (S, I, R, z) Q = Q (some (.int x)) (S, I, R, z) := RB_iret rfl rfl rfl
/-! 216: HangedWordModel.text -/
theorem w216_0 : RB d 216 0 [.ref a, l1, l2, l3] st (S, I, R, z) Q = RB d 216 1 [.ref a, l1, l2, l3] (.ref a :: st) (S, I, R, z) Q := RB_aloadn rfl rfl
theorem w216_1 : RB d 216 1 [l0, l1, l2, l3] st (S, I, R, z) Q = RB d 216 2 [l0, l1, l2, l3] (.int 0 :: st) (S, I, R, z) Q := RB_iconst rfl ki0
theorem w216_2 : RB d 216 2 [l0, l1, l2, l3] (.int x :: .ref a :: st) (S, I, R, z) Q = (((S a).1 = 7 ∧ 7 < 8 ∧ 16 ≤ a) ∧ RB d 216 5 [l0, l1, l2, l3] st (S, aW I a 7 x, R, z) Q) := RB_putI rfl rfl (Or.inl rfl)
theorem w216_5 : RB d 216 5 [.ref a, l1, l2, l3] st (S, I, R, z) Q = RB d 216 6 [.ref a, l1, l2, l3] (.ref a :: st) (S, I, R, z) Q := RB_aloadn rfl rfl
theorem w216_6 : RB d 216 6 [l0, l1, l2, l3] st (S, I, R, z) Q = RB d 216 7 [l0, l1, l2, l3] (.int (-1) :: st) (S, I, R, z) Q := RB_iconst rfl kim1
theorem w216_7 : RB d 216 7 [l0, l1, l2, l3] (.int x :: .ref a :: st) (S, I, R, z) Q = (((S a).1 = 7 ∧ 7 < 8 ∧ 16 ≤ a) ∧ RB d 216 10 [l0, l1, l2, l3] st (S, aW I a 11 x, R, z) Q) := RB_putI rfl rfl (Or.inl rfl)
theorem w216_10 : RB d 216 10 [.ref a, l1, l2, l3] st (S, I, R, z) Q = RB d 216 11 [.ref a, l1, l2, l3] (.ref a :: st) (S, I, R, z) Q := RB_aloadn rfl rfl
set_option maxRecDepth 20000 in
theorem w216_11 : RB d 216 11 [l0, l1, l2, l3] [.ref a] (S, I, R, z) Q = ((S a).1 = 7 ∧ RM d 207 [.ref a] (S, I, R, z) (fun v τ => RB d 216 14 [l0, l1, l2, l3] (aPush v []) τ Q)) := RB_callV (n := 1) (t := 0) (k := 254) (ins := .invokevirtual 254) rfl rfl rfl (by decide) (Nat.le_of_ble_eq_true rfl) (Nat.le_of_ble_eq_true rfl) rfl rfl
theorem w216_14 : RB d 216 14 [.ref a, l1, l2, l3] st (S, I, R, z) Q = RB d 216 15 [.ref a, l1, l2, l3] (.ref a :: st) (S, I, R, z) Q := RB_aloadn rfl rfl
set_option maxRecDepth 20000 in
theorem w216_15 : RB d 216 15 [l0, l1, l2, l3] [.ref a] (S, I, R, z) Q = ((S a).1 = 7 ∧ RM d 208 [.ref a] (S, I, R, z) (fun v τ => RB d 216 18 [l0, l1, l2, l3] (aPush v []) τ Q)) := RB_callV (n := 1) (t := 0) (k := 284) (ins := .invokevirtual 284) rfl rfl rfl (by decide) (Nat.le_of_ble_eq_true rfl) (Nat.le_of_ble_eq_true rfl) rfl rfl
theorem w216_18 : RB d 216 18 [l0, l1, l2, l3] (.int x :: st) (S, I, R, z) Q = ((x = 0 → RB d 216 32 [l0, l1, l2, l3] st (S, I, R, z) Q) ∧ (¬ x = 0 → RB d 216 21 [l0, l1, l2, l3] st (S, I, R, z) Q)) := RB_eq0 rfl (by decide) rfl
theorem w216_21 : RB d 216 21 [.ref a, l1, l2, l3] st (S, I, R, z) Q = RB d 216 22 [.ref a, l1, l2, l3] (.ref a :: st) (S, I, R, z) Q := RB_aloadn rfl rfl
set_option maxRecDepth 20000 in
theorem w216_22 : RB d 216 22 [l0, l1, l2, l3] [.ref a] (S, I, R, z) Q = ((S a).1 = 7 ∧ RM d 214 [.ref a] (S, I, R, z) (fun v τ => RB d 216 25 [l0, l1, l2, l3] (aPush v []) τ Q)) := RB_callV (n := 1) (t := 0) (k := 287) (ins := .invokevirtual 287) rfl rfl rfl (by decide) (Nat.le_of_ble_eq_true rfl) (Nat.le_of_ble_eq_true rfl) rfl rfl
theorem w216_25 : RB d 216 25 [l0, l1, l2, l3] (.int x :: st) (S, I, R, z) Q = ((x = 0 → RB d 216 32 [l0, l1, l2, l3] st (S, I, R, z) Q) ∧ (¬ x = 0 → RB d 216 28 [l0, l1, l2, l3] st (S, I, R, z) Q)) := RB_eq0 rfl (by decide) rfl
theorem w216_28 : RB d 216 28 [l0, l1, l2, l3] st (S, I, R, z) Q = RB d 216 29 [l0, l1, l2, l3] (.int 1 :: st) (S, I, R, z) Q := RB_iconst rfl ki1
theorem w216_29 : RB d 216 29 [l0, l1, l2, l3] st (S, I, R, z) Q = RB d 216 33 [l0, l1, l2, l3] st (S, I, R, z) Q := RB_goto rfl (by decide) rfl
theorem w216_32 : RB d 216 32 [l0, l1, l2, l3] st (S, I, R, z) Q = RB d 216 33 [l0, l1, l2, l3] (.int 0 :: st) (S, I, R, z) Q := RB_iconst rfl ki0
theorem w216_33 : RB d 216 33 [l0, l1, l2, l3] (.int x :: st) (S, I, R, z) Q = RB d 216 34 [l0, .int x, l2, l3] st (S, I, R, z) Q := RB_istoren rfl (Nat.le_of_ble_eq_true rfl) rfl
theorem w216_34 : RB d 216 34 [.ref a, l1, l2, l3] st (S, I, R, z) Q = RB d 216 35 [.ref a, l1, l2, l3] (.ref a :: st) (S, I, R, z) Q := RB_aloadn rfl rfl
theorem w216_35 : RB d 216 35 [l0, l1, l2, l3] st (S, I, R, z) Q = RB d 216 36 [l0, l1, l2, l3] (.int 0 :: st) (S, I, R, z) Q := RB_iconst rfl ki0
theorem w216_36 : RB d 216 36 [l0, l1, l2, l3] (.int x :: .ref a :: st) (S, I, R, z) Q = (((S a).1 = 7 ∧ 7 < 8 ∧ 16 ≤ a) ∧ RB d 216 39 [l0, l1, l2, l3] st (S, aW I a 6 x, R, z) Q) := RB_putI rfl rfl (Or.inl rfl)
theorem w216_39 : RB d 216 39 [l0, .int x, l2, l3] st (S, I, R, z) Q = RB d 216 40 [l0, .int x, l2, l3] (.int x :: st) (S, I, R, z) Q := RB_iloadn rfl rfl
theorem w216_40 : RB d 216 40 [l0, l1, l2, l3] (.int x :: st) (S, I, R, z) Q = ((x = 0 → RB d 216 43 [l0, l1, l2, l3] st (S, I, R, z) Q) ∧ (¬ x = 0 → RB d 216 51 [l0, l1, l2, l3] st (S, I, R, z) Q)) := RB_ne0 rfl (by decide) rfl
theorem w216_43 : RB d 216 43 [l0, l1, l2, l3] st (S, I, R, z) Q = RB d 216 45 [l0, l1, l2, l3] (.int (-100) :: st) (S, I, R, z) Q := RB_bipush rfl kbm100
theorem w216_45 : RB d 216 45 [.ref a, l1, l2, l3] st (S, I, R, z) Q = RB d 216 46 [.ref a, l1, l2, l3] (.ref a :: st) (S, I, R, z) Q := RB_aloadn rfl rfl
theorem w216_46 : RB d 216 46 [l0, l1, l2, l3] (.ref a :: st) (S, I, R, z) Q = ((S a).1 = 7 ∧ RB d 216 49 [l0, l1, l2, l3] (.int (I a 8) :: st) (S, I, R, z) Q) := RB_getI rfl rfl
theorem w216_49 : RB d 216 49 [l0, l1, l2, l3] (.int y :: .int x :: st) (S, I, R, z) Q = RB d 216 50 [l0, l1, l2, l3] (.int (x - y) :: st) (S, I, R, z) Q := RB_isub rfl
theorem w216_50 : RB d 216 50 [l0, l1, l2, l3] [.int x] (S, I, R, z) Q = Q (some (.int x)) (S, I, R, z) := RB_iret rfl rfl rfl
theorem w216_51 : RB d 216 51 [.ref a, l1, l2, l3] st (S, I, R, z) Q = RB d 216 52 [.ref a, l1, l2, l3] (.ref a :: st) (S, I, R, z) Q := RB_aloadn rfl rfl
theorem w216_52 : RB d 216 52 [l0, l1, l2, l3] (.ref a :: st) (S, I, R, z) Q = ((S a).1 = 7 ∧ RB d 216 55 [l0, l1, l2, l3] (va_rf (R a 0) :: st) (S, I, R, z) Q) := RB_getR rfl rfl
theorem w216_55 : RB d 216 55 [l0, l1, l2, l3] st (S, I, R, z) Q = RB d 216 57 [l0, l1, l2, l3] (.int 7 :: st) (S, I, R, z) Q := RB_bipush rfl kb7
theorem w216_57 : RB d 216 57 [l0, l1, l2, l3] (.int i :: .ref a :: st) (S, I, R, z) Q = (((S a).1 = 9 ∧ aIx i (S a).2) ∧ RB d 216 58 [l0, l1, l2, l3] (.int (I a i.toNatClampNeg) :: st) (S, I, R, z) Q) := RB_iald rfl
theorem w216_58 : RB d 216 58 [l0, l1, l2, l3] st (S, I, R, z) Q = RB d 216 60 [l0, l1, l2, l3] (.int 14 :: st) (S, I, R, z) Q := RB_bipush rfl kb14
theorem w216_60 : RB d 216 60 [l0, l1, l2, l3] (.int y :: .int x :: st) (S, I, R, z) Q = ((x = y → RB d 216 63 [l0, l1, l2, l3] st (S, I, R, z) Q) ∧ (¬ x = y → RB d 216 66 [l0, l1, l2, l3] st (S, I, R, z) Q)) := RB_ine rfl (by decide) rfl
theorem w216_63 : RB d 216 63 [l0, l1, l2, l3] st (S, I, R, z) Q = RB d 216 65 [l0, l1, l2, l3] (.int (-1000000003) :: st) (S, I, R, z) Q := RB_ldc rfl rfl
theorem w216_65 : RB d 216 65 [l0, l1, l2, l3] [.int x] (S, I, R, z) Q = Q (some (.int x)) (S, I, R, z) := RB_iret rfl rfl rfl
theorem w216_66 : RB d 216 66 [.ref a, l1, l2, l3] st (S, I, R, z) Q = RB d 216 67 [.ref a, l1, l2, l3] (.ref a :: st) (S, I, R, z) Q := RB_aloadn rfl rfl
theorem w216_67 : RB d 216 67 [l0, l1, l2, l3] (.ref a :: st) (S, I, R, z) Q = ((S a).1 = 7 ∧ RB d 216 70 [l0, l1, l2, l3] (va_rf (R a 0) :: st) (S, I, R, z) Q) := RB_getR rfl rfl
theorem w216_70 : RB d 216 70 [l0, l1, l2, l3] st (S, I, R, z) Q = RB d 216 72 [l0, l1, l2, l3] (.int 7 :: st) (S, I, R, z) Q := RB_bipush rfl kb7
theorem w216_72 : RB d 216 72 [l0, l1, l2, l3] (.int i :: .ref a :: st) (S, I, R, z) Q = (((S a).1 = 9 ∧ aIx i (S a).2) ∧ RB d 216 73 [l0, l1, l2, l3] (.int (I a i.toNatClampNeg) :: st) (S, I, R, z) Q) := RB_iald rfl
theorem w216_73 : RB d 216 73 [l0, l1, l2, l3] (.int x :: st) (S, I, R, z) Q = RB d 216 74 [l0, l1, .int x, l3] st (S, I, R, z) Q := RB_istoren rfl (Nat.le_of_ble_eq_true rfl) rfl
theorem w216_74 : RB d 216 74 [.ref a, l1, l2, l3] st (S, I, R, z) Q = RB d 216 75 [.ref a, l1, l2, l3] (.ref a :: st) (S, I, R, z) Q := RB_aloadn rfl rfl
theorem w216_75 : RB d 216 75 [l0, l1, l2, l3] (.ref a :: st) (S, I, R, z) Q = ((S a).1 = 7 ∧ RB d 216 78 [l0, l1, l2, l3] (va_rf (R a 0) :: st) (S, I, R, z) Q) := RB_getR rfl rfl
theorem w216_78 : RB d 216 78 [l0, l1, l2, l3] st (S, I, R, z) Q = RB d 216 80 [l0, l1, l2, l3] (.int 48 :: st) (S, I, R, z) Q := RB_bipush rfl kb48
theorem w216_80 : RB d 216 80 [l0, l1, l2, l3] st (S, I, R, z) Q = RB d 216 81 [l0, l1, l2, l3] (.int 2 :: st) (S, I, R, z) Q := RB_iconst rfl ki2
theorem w216_81 : RB d 216 81 [l0, l1, .int x, l3] st (S, I, R, z) Q = RB d 216 82 [l0, l1, .int x, l3] (.int x :: st) (S, I, R, z) Q := RB_iloadn rfl rfl
theorem w216_82 : RB d 216 82 [l0, l1, l2, l3] (.int y :: .int x :: st) (S, I, R, z) Q = RB d 216 83 [l0, l1, l2, l3] (.int (x * y) :: st) (S, I, R, z) Q := RB_imul rfl
theorem w216_83 : RB d 216 83 [l0, l1, l2, l3] (.int y :: .int x :: st) (S, I, R, z) Q = RB d 216 84 [l0, l1, l2, l3] (.int (x + y) :: st) (S, I, R, z) Q := RB_iadd rfl
theorem w216_84 : RB d 216 84 [l0, l1, l2, l3] st (S, I, R, z) Q = RB d 216 87 [l0, l1, l2, l3] (.int 1000 :: st) (S, I, R, z) Q := RB_sipush rfl ks1000
theorem w216_87 : RB d 216 87 [.ref a, l1, l2, l3] st (S, I, R, z) Q = RB d 216 88 [.ref a, l1, l2, l3] (.ref a :: st) (S, I, R, z) Q := RB_aloadn rfl rfl
theorem w216_88 : RB d 216 88 [l0, l1, l2, l3] (.ref a :: st) (S, I, R, z) Q = ((S a).1 = 7 ∧ RB d 216 91 [l0, l1, l2, l3] (.int (I a 12) :: st) (S, I, R, z) Q) := RB_getI rfl rfl
theorem w216_91 : RB d 216 91 [l0, l1, l2, l3] (.int y :: .int x :: st) (S, I, R, z) Q = RB d 216 92 [l0, l1, l2, l3] (.int (x * y) :: st) (S, I, R, z) Q := RB_imul rfl
theorem w216_92 : RB d 216 92 [.ref a, l1, l2, l3] st (S, I, R, z) Q = RB d 216 93 [.ref a, l1, l2, l3] (.ref a :: st) (S, I, R, z) Q := RB_aloadn rfl rfl
theorem w216_93 : RB d 216 93 [l0, l1, l2, l3] (.ref a :: st) (S, I, R, z) Q = ((S a).1 = 7 ∧ RB d 216 96 [l0, l1, l2, l3] (.int (I a 16) :: st) (S, I, R, z) Q) := RB_getI rfl rfl
theorem w216_96 : RB d 216 96 [l0, l1, l2, l3] (.int y :: .int x :: st) (S, I, R, z) Q = RB d 216 97 [l0, l1, l2, l3] (.int (x + y) :: st) (S, I, R, z) Q := RB_iadd rfl
theorem w216_97 : RB d 216 97 [l0, l1, l2, l3] (.int x :: .int i :: .ref a :: st) (S, I, R, z) Q = (((S a).1 = 9 ∧ aIx i (S a).2 ∧ 16 ≤ a) ∧ RB d 216 98 [l0, l1, l2, l3] st (S, aW I a i.toNatClampNeg x, R, z) Q) := RB_iast rfl
theorem w216_98 : RB d 216 98 [.ref a, l1, l2, l3] st (S, I, R, z) Q = RB d 216 99 [.ref a, l1, l2, l3] (.ref a :: st) (S, I, R, z) Q := RB_aloadn rfl rfl
theorem w216_99 : RB d 216 99 [l0, l1, l2, l3] (.ref a :: st) (S, I, R, z) Q = ((S a).1 = 7 ∧ RB d 216 102 [l0, l1, l2, l3] (va_rf (R a 0) :: st) (S, I, R, z) Q) := RB_getR rfl rfl
theorem w216_102 : RB d 216 102 [l0, l1, l2, l3] st (S, I, R, z) Q = RB d 216 104 [l0, l1, l2, l3] (.int 48 :: st) (S, I, R, z) Q := RB_bipush rfl kb48
theorem w216_104 : RB d 216 104 [l0, l1, l2, l3] st (S, I, R, z) Q = RB d 216 105 [l0, l1, l2, l3] (.int 2 :: st) (S, I, R, z) Q := RB_iconst rfl ki2
theorem w216_105 : RB d 216 105 [l0, l1, .int x, l3] st (S, I, R, z) Q = RB d 216 106 [l0, l1, .int x, l3] (.int x :: st) (S, I, R, z) Q := RB_iloadn rfl rfl
theorem w216_106 : RB d 216 106 [l0, l1, l2, l3] (.int y :: .int x :: st) (S, I, R, z) Q = RB d 216 107 [l0, l1, l2, l3] (.int (x * y) :: st) (S, I, R, z) Q := RB_imul rfl
theorem w216_107 : RB d 216 107 [l0, l1, l2, l3] (.int y :: .int x :: st) (S, I, R, z) Q = RB d 216 108 [l0, l1, l2, l3] (.int (x + y) :: st) (S, I, R, z) Q := RB_iadd rfl
theorem w216_108 : RB d 216 108 [l0, l1, l2, l3] st (S, I, R, z) Q = RB d 216 109 [l0, l1, l2, l3] (.int 1 :: st) (S, I, R, z) Q := RB_iconst rfl ki1
theorem w216_109 : RB d 216 109 [l0, l1, l2, l3] (.int y :: .int x :: st) (S, I, R, z) Q = RB d 216 110 [l0, l1, l2, l3] (.int (x + y) :: st) (S, I, R, z) Q := RB_iadd rfl
theorem w216_110 : RB d 216 110 [.ref a, l1, l2, l3] st (S, I, R, z) Q = RB d 216 111 [.ref a, l1, l2, l3] (.ref a :: st) (S, I, R, z) Q := RB_aloadn rfl rfl
theorem w216_111 : RB d 216 111 [l0, l1, l2, l3] (.ref a :: st) (S, I, R, z) Q = ((S a).1 = 7 ∧ RB d 216 114 [l0, l1, l2, l3] (.int (I a 17) :: st) (S, I, R, z) Q) := RB_getI rfl rfl
theorem w216_114 : RB d 216 114 [l0, l1, l2, l3] (.int x :: .int i :: .ref a :: st) (S, I, R, z) Q = (((S a).1 = 9 ∧ aIx i (S a).2 ∧ 16 ≤ a) ∧ RB d 216 115 [l0, l1, l2, l3] st (S, aW I a i.toNatClampNeg x, R, z) Q) := RB_iast rfl
theorem w216_115 : RB d 216 115 [l0, l1, l2, l3] st (S, I, R, z) Q = RB d 216 116 [l0, l1, l2, l3] (.int 0 :: st) (S, I, R, z) Q := RB_iconst rfl ki0
theorem w216_116 : RB d 216 116 [l0, l1, l2, l3] (.int x :: st) (S, I, R, z) Q = RB d 216 117 [l0, l1, l2, .int x] st (S, I, R, z) Q := RB_istoren rfl (Nat.le_of_ble_eq_true rfl) rfl
theorem w216_117 : RB d 216 117 [l0, l1, l2, .int x] st (S, I, R, z) Q = RB d 216 118 [l0, l1, l2, .int x] (.int x :: st) (S, I, R, z) Q := RB_iloadn rfl rfl
theorem w216_118 : RB d 216 118 [.ref a, l1, l2, l3] st (S, I, R, z) Q = RB d 216 119 [.ref a, l1, l2, l3] (.ref a :: st) (S, I, R, z) Q := RB_aloadn rfl rfl
theorem w216_119 : RB d 216 119 [l0, l1, l2, l3] (.ref a :: st) (S, I, R, z) Q = ((S a).1 = 7 ∧ RB d 216 122 [l0, l1, l2, l3] (.int (I a 16) :: st) (S, I, R, z) Q) := RB_getI rfl rfl
theorem w216_122 : RB d 216 122 [l0, l1, l2, l3] (.int y :: .int x :: st) (S, I, R, z) Q = ((y ≤ x → RB d 216 151 [l0, l1, l2, l3] st (S, I, R, z) Q) ∧ (¬ y ≤ x → RB d 216 125 [l0, l1, l2, l3] st (S, I, R, z) Q)) := RB_ige rfl (by decide) rfl
theorem w216_125 : RB d 216 125 [.ref a, l1, l2, l3] st (S, I, R, z) Q = RB d 216 126 [.ref a, l1, l2, l3] (.ref a :: st) (S, I, R, z) Q := RB_aloadn rfl rfl
theorem w216_126 : RB d 216 126 [l0, l1, l2, l3] (.ref a :: st) (S, I, R, z) Q = ((S a).1 = 7 ∧ RB d 216 129 [l0, l1, l2, l3] (va_rf (R a 0) :: st) (S, I, R, z) Q) := RB_getR rfl rfl
theorem w216_129 : RB d 216 129 [l0, l1, l2, l3] st (S, I, R, z) Q = RB d 216 131 [l0, l1, l2, l3] (.int 76 :: st) (S, I, R, z) Q := RB_bipush rfl kb76
theorem w216_131 : RB d 216 131 [l0, l1, l2, l3] st (S, I, R, z) Q = RB d 216 133 [l0, l1, l2, l3] (.int 96 :: st) (S, I, R, z) Q := RB_bipush rfl kb96
theorem w216_133 : RB d 216 133 [l0, l1, .int x, l3] st (S, I, R, z) Q = RB d 216 134 [l0, l1, .int x, l3] (.int x :: st) (S, I, R, z) Q := RB_iloadn rfl rfl
theorem w216_134 : RB d 216 134 [l0, l1, l2, l3] (.int y :: .int x :: st) (S, I, R, z) Q = RB d 216 135 [l0, l1, l2, l3] (.int (x * y) :: st) (S, I, R, z) Q := RB_imul rfl
theorem w216_135 : RB d 216 135 [l0, l1, l2, l3] (.int y :: .int x :: st) (S, I, R, z) Q = RB d 216 136 [l0, l1, l2, l3] (.int (x + y) :: st) (S, I, R, z) Q := RB_iadd rfl
theorem w216_136 : RB d 216 136 [l0, l1, l2, .int x] st (S, I, R, z) Q = RB d 216 137 [l0, l1, l2, .int x] (.int x :: st) (S, I, R, z) Q := RB_iloadn rfl rfl
theorem w216_137 : RB d 216 137 [l0, l1, l2, l3] (.int y :: .int x :: st) (S, I, R, z) Q = RB d 216 138 [l0, l1, l2, l3] (.int (x + y) :: st) (S, I, R, z) Q := RB_iadd rfl
theorem w216_138 : RB d 216 138 [.ref a, l1, l2, l3] st (S, I, R, z) Q = RB d 216 139 [.ref a, l1, l2, l3] (.ref a :: st) (S, I, R, z) Q := RB_aloadn rfl rfl
theorem w216_139 : RB d 216 139 [l0, l1, l2, l3] (.ref a :: st) (S, I, R, z) Q = ((S a).1 = 7 ∧ RB d 216 142 [l0, l1, l2, l3] (va_rf (R a 15) :: st) (S, I, R, z) Q) := RB_getR rfl rfl
theorem w216_142 : RB d 216 142 [l0, l1, l2, .int x] st (S, I, R, z) Q = RB d 216 143 [l0, l1, l2, .int x] (.int x :: st) (S, I, R, z) Q := RB_iloadn rfl rfl
theorem w216_143 : RB d 216 143 [l0, l1, l2, l3] (.int i :: .ref a :: st) (S, I, R, z) Q = (((S a).1 = 9 ∧ aIx i (S a).2) ∧ RB d 216 144 [l0, l1, l2, l3] (.int (I a i.toNatClampNeg) :: st) (S, I, R, z) Q) := RB_iald rfl
theorem w216_144 : RB d 216 144 [l0, l1, l2, l3] (.int x :: .int i :: .ref a :: st) (S, I, R, z) Q = (((S a).1 = 9 ∧ aIx i (S a).2 ∧ 16 ≤ a) ∧ RB d 216 145 [l0, l1, l2, l3] st (S, aW I a i.toNatClampNeg x, R, z) Q) := RB_iast rfl
theorem w216_145 : RB d 216 145 [l0, l1, l2, .int x] st (S, I, R, z) Q = RB d 216 148 [l0, l1, l2, .int (x + 1)] st (S, I, R, z) Q := RB_iinc rfl rfl (Nat.le_of_ble_eq_true rfl) ki1 rfl
theorem w216_148 : RB d 216 148 [l0, l1, l2, l3] st (S, I, R, z) Q = RB d 216 117 [l0, l1, l2, l3] st (S, I, R, z) Q := RB_goto rfl (by decide) rfl
theorem w216_151 : RB d 216 151 [.ref a, l1, l2, l3] st (S, I, R, z) Q = RB d 216 152 [.ref a, l1, l2, l3] (.ref a :: st) (S, I, R, z) Q := RB_aloadn rfl rfl
theorem w216_152 : RB d 216 152 [l0, l1, l2, l3] (.ref a :: st) (S, I, R, z) Q = ((S a).1 = 7 ∧ RB d 216 155 [l0, l1, l2, l3] (va_rf (R a 0) :: st) (S, I, R, z) Q) := RB_getR rfl rfl
theorem w216_155 : RB d 216 155 [l0, l1, l2, l3] st (S, I, R, z) Q = RB d 216 157 [l0, l1, l2, l3] (.int 7 :: st) (S, I, R, z) Q := RB_bipush rfl kb7
theorem w216_157 : RB d 216 157 [l0, l1, l2, l3] (v :: w :: st) (S, I, R, z) Q = RB d 216 158 [l0, l1, l2, l3] (v :: w :: v :: w :: st) (S, I, R, z) Q := RB_dup2 rfl
theorem w216_158 : RB d 216 158 [l0, l1, l2, l3] (.int i :: .ref a :: st) (S, I, R, z) Q = (((S a).1 = 9 ∧ aIx i (S a).2) ∧ RB d 216 159 [l0, l1, l2, l3] (.int (I a i.toNatClampNeg) :: st) (S, I, R, z) Q) := RB_iald rfl
theorem w216_159 : RB d 216 159 [l0, l1, l2, l3] st (S, I, R, z) Q = RB d 216 160 [l0, l1, l2, l3] (.int 1 :: st) (S, I, R, z) Q := RB_iconst rfl ki1
theorem w216_160 : RB d 216 160 [l0, l1, l2, l3] (.int y :: .int x :: st) (S, I, R, z) Q = RB d 216 161 [l0, l1, l2, l3] (.int (x + y) :: st) (S, I, R, z) Q := RB_iadd rfl
theorem w216_161 : RB d 216 161 [l0, l1, l2, l3] (.int x :: .int i :: .ref a :: st) (S, I, R, z) Q = (((S a).1 = 9 ∧ aIx i (S a).2 ∧ 16 ≤ a) ∧ RB d 216 162 [l0, l1, l2, l3] st (S, aW I a i.toNatClampNeg x, R, z) Q) := RB_iast rfl
theorem w216_162 : RB d 216 162 [l0, l1, .int x, l3] st (S, I, R, z) Q = RB d 216 163 [l0, l1, .int x, l3] (.int x :: st) (S, I, R, z) Q := RB_iloadn rfl rfl
theorem w216_163 : RB d 216 163 [l0, l1, l2, l3] [.int x] (S, I, R, z) Q = Q (some (.int x)) (S, I, R, z) := RB_iret rfl rfl rfl
/-! 217: HangedWordModel.textTold -/
theorem w217_0 : RB d 217 0 [l0, .int x, l2] st (S, I, R, z) Q = RB d 217 1 [l0, .int x, l2] (.int x :: st) (S, I, R, z) Q := RB_iloadn rfl rfl
theorem w217_1 : RB d 217 1 [l0, l1, l2] st (S, I, R, z) Q = RB d 217 2 [l0, l1, l2] (.int 0 :: st) (S, I, R, z) Q := RB_iconst rfl ki0
theorem w217_2 : RB d 217 2 [.ref a, l1, l2] st (S, I, R, z) Q = RB d 217 3 [.ref a, l1, l2] (.ref a :: st) (S, I, R, z) Q := RB_aloadn rfl rfl
theorem w217_3 : RB d 217 3 [l0, l1, l2] (.ref a :: st) (S, I, R, z) Q = ((S a).1 = 7 ∧ RB d 217 6 [l0, l1, l2] (va_rf (R a 0) :: st) (S, I, R, z) Q) := RB_getR rfl rfl
theorem w217_6 : RB d 217 6 [l0, l1, l2] st (S, I, R, z) Q = RB d 217 8 [l0, l1, l2] (.int 7 :: st) (S, I, R, z) Q := RB_bipush rfl kb7
theorem w217_8 : RB d 217 8 [l0, l1, l2] (.int i :: .ref a :: st) (S, I, R, z) Q = (((S a).1 = 9 ∧ aIx i (S a).2) ∧ RB d 217 9 [l0, l1, l2] (.int (I a i.toNatClampNeg) :: st) (S, I, R, z) Q) := RB_iald rfl
theorem w217_9 : RB d 217 9 [l0, l1, l2] st (S, I, R, z) Q = RB d 217 10 [l0, l1, l2] (.int 1 :: st) (S, I, R, z) Q := RB_iconst rfl ki1
theorem w217_10 : RB d 217 10 [l0, l1, l2] (.int y :: .int x :: st) (S, I, R, z) Q = RB d 217 11 [l0, l1, l2] (.int (x - y) :: st) (S, I, R, z) Q := RB_isub rfl
set_option maxRecDepth 20000 in
theorem w217_11 : RB d 217 11 [l0, l1, l2] [.int x2, .int x1, .int x0] (S, I, R, z) Q = RM d 135 [.int x0, .int x1, .int x2] (S, I, R, z) (fun v τ => RB d 217 14 [l0, l1, l2] (aPush v []) τ Q) := RB_callS (n := 3) (t := 1) (k := 76) (ins := .invokestatic 76) rfl rfl rfl (Nat.le_of_ble_eq_true rfl) (Nat.le_of_ble_eq_true rfl) rfl rfl
theorem w217_14 : RB d 217 14 [l0, l1, l2] (.int x :: st) (S, I, R, z) Q = ((x = 0 → RB d 217 26 [l0, l1, l2] st (S, I, R, z) Q) ∧ (¬ x = 0 → RB d 217 17 [l0, l1, l2] st (S, I, R, z) Q)) := RB_eq0 rfl (by decide) rfl
theorem w217_17 : RB d 217 17 [l0, l1, .int x] st (S, I, R, z) Q = RB d 217 18 [l0, l1, .int x] (.int x :: st) (S, I, R, z) Q := RB_iloadn rfl rfl
theorem w217_18 : RB d 217 18 [l0, l1, l2] st (S, I, R, z) Q = RB d 217 19 [l0, l1, l2] (.int 0 :: st) (S, I, R, z) Q := RB_iconst rfl ki0
theorem w217_19 : RB d 217 19 [l0, l1, l2] st (S, I, R, z) Q = RB d 217 20 [l0, l1, l2] (.int 1 :: st) (S, I, R, z) Q := RB_iconst rfl ki1
set_option maxRecDepth 20000 in
theorem w217_20 : RB d 217 20 [l0, l1, l2] [.int x2, .int x1, .int x0] (S, I, R, z) Q = RM d 135 [.int x0, .int x1, .int x2] (S, I, R, z) (fun v τ => RB d 217 23 [l0, l1, l2] (aPush v []) τ Q) := RB_callS (n := 3) (t := 1) (k := 76) (ins := .invokestatic 76) rfl rfl rfl (Nat.le_of_ble_eq_true rfl) (Nat.le_of_ble_eq_true rfl) rfl rfl
theorem w217_23 : RB d 217 23 [l0, l1, l2] (.int x :: st) (S, I, R, z) Q = ((x = 0 → RB d 217 26 [l0, l1, l2] st (S, I, R, z) Q) ∧ (¬ x = 0 → RB d 217 29 [l0, l1, l2] st (S, I, R, z) Q)) := RB_ne0 rfl (by decide) rfl
theorem w217_26 : RB d 217 26 [l0, l1, l2] st (S, I, R, z) Q = RB d 217 28 [l0, l1, l2] (.int (-1000000001) :: st) (S, I, R, z) Q := RB_ldc rfl rfl
theorem w217_28 : RB d 217 28 [l0, l1, l2] [.int x] (S, I, R, z) Q = Q (some (.int x)) (S, I, R, z) := RB_iret rfl rfl rfl
theorem w217_29 : RB d 217 29 [l0, l1, .int x] st (S, I, R, z) Q = RB d 217 30 [l0, l1, .int x] (.int x :: st) (S, I, R, z) Q := RB_iloadn rfl rfl
theorem w217_30 : RB d 217 30 [l0, l1, l2] (.int x :: st) (S, I, R, z) Q = ((x = 0 → RB d 217 33 [l0, l1, l2] st (S, I, R, z) Q) ∧ (¬ x = 0 → RB d 217 51 [l0, l1, l2] st (S, I, R, z) Q)) := RB_ne0 rfl (by decide) rfl
theorem w217_33 : RB d 217 33 [.ref a, l1, l2] st (S, I, R, z) Q = RB d 217 34 [.ref a, l1, l2] (.ref a :: st) (S, I, R, z) Q := RB_aloadn rfl rfl
theorem w217_34 : RB d 217 34 [l0, l1, l2] (.ref a :: st) (S, I, R, z) Q = ((S a).1 = 7 ∧ RB d 217 37 [l0, l1, l2] (va_rf (R a 0) :: st) (S, I, R, z) Q) := RB_getR rfl rfl
theorem w217_37 : RB d 217 37 [l0, l1, l2] st (S, I, R, z) Q = RB d 217 39 [l0, l1, l2] (.int 48 :: st) (S, I, R, z) Q := RB_bipush rfl kb48
theorem w217_39 : RB d 217 39 [l0, l1, l2] st (S, I, R, z) Q = RB d 217 40 [l0, l1, l2] (.int 2 :: st) (S, I, R, z) Q := RB_iconst rfl ki2
theorem w217_40 : RB d 217 40 [l0, .int x, l2] st (S, I, R, z) Q = RB d 217 41 [l0, .int x, l2] (.int x :: st) (S, I, R, z) Q := RB_iloadn rfl rfl
theorem w217_41 : RB d 217 41 [l0, l1, l2] (.int y :: .int x :: st) (S, I, R, z) Q = RB d 217 42 [l0, l1, l2] (.int (x * y) :: st) (S, I, R, z) Q := RB_imul rfl
theorem w217_42 : RB d 217 42 [l0, l1, l2] (.int y :: .int x :: st) (S, I, R, z) Q = RB d 217 43 [l0, l1, l2] (.int (x + y) :: st) (S, I, R, z) Q := RB_iadd rfl
theorem w217_43 : RB d 217 43 [l0, l1, l2] (.int i :: .ref a :: st) (S, I, R, z) Q = (((S a).1 = 9 ∧ aIx i (S a).2) ∧ RB d 217 44 [l0, l1, l2] (.int (I a i.toNatClampNeg) :: st) (S, I, R, z) Q) := RB_iald rfl
theorem w217_44 : RB d 217 44 [l0, l1, l2] st (S, I, R, z) Q = RB d 217 47 [l0, l1, l2] (.int 1000 :: st) (S, I, R, z) Q := RB_sipush rfl ks1000
theorem w217_47 : RB d 217 47 [l0, l1, l2] (.int y :: .int x :: st) (S, I, R, z) Q = (¬ y = 0 ∧ RB d 217 48 [l0, l1, l2] (.int (x / y) :: st) (S, I, R, z) Q) := RB_idiv rfl
theorem w217_48 : RB d 217 48 [l0, l1, l2] st (S, I, R, z) Q = RB d 217 64 [l0, l1, l2] st (S, I, R, z) Q := RB_goto rfl (by decide) rfl
theorem w217_51 : RB d 217 51 [.ref a, l1, l2] st (S, I, R, z) Q = RB d 217 52 [.ref a, l1, l2] (.ref a :: st) (S, I, R, z) Q := RB_aloadn rfl rfl
theorem w217_52 : RB d 217 52 [l0, l1, l2] (.ref a :: st) (S, I, R, z) Q = ((S a).1 = 7 ∧ RB d 217 55 [l0, l1, l2] (va_rf (R a 0) :: st) (S, I, R, z) Q) := RB_getR rfl rfl
theorem w217_55 : RB d 217 55 [l0, l1, l2] st (S, I, R, z) Q = RB d 217 57 [l0, l1, l2] (.int 48 :: st) (S, I, R, z) Q := RB_bipush rfl kb48
theorem w217_57 : RB d 217 57 [l0, l1, l2] st (S, I, R, z) Q = RB d 217 58 [l0, l1, l2] (.int 2 :: st) (S, I, R, z) Q := RB_iconst rfl ki2
theorem w217_58 : RB d 217 58 [l0, .int x, l2] st (S, I, R, z) Q = RB d 217 59 [l0, .int x, l2] (.int x :: st) (S, I, R, z) Q := RB_iloadn rfl rfl
theorem w217_59 : RB d 217 59 [l0, l1, l2] (.int y :: .int x :: st) (S, I, R, z) Q = RB d 217 60 [l0, l1, l2] (.int (x * y) :: st) (S, I, R, z) Q := RB_imul rfl
theorem w217_60 : RB d 217 60 [l0, l1, l2] (.int y :: .int x :: st) (S, I, R, z) Q = RB d 217 61 [l0, l1, l2] (.int (x + y) :: st) (S, I, R, z) Q := RB_iadd rfl
theorem w217_61 : RB d 217 61 [l0, l1, l2] st (S, I, R, z) Q = RB d 217 62 [l0, l1, l2] (.int 1 :: st) (S, I, R, z) Q := RB_iconst rfl ki1
theorem w217_62 : RB d 217 62 [l0, l1, l2] (.int y :: .int x :: st) (S, I, R, z) Q = RB d 217 63 [l0, l1, l2] (.int (x + y) :: st) (S, I, R, z) Q := RB_iadd rfl
theorem w217_63 : RB d 217 63 [l0, l1, l2] (.int i :: .ref a :: st) (S, I, R, z) Q = (((S a).1 = 9 ∧ aIx i (S a).2) ∧ RB d 217 64 [l0, l1, l2] (.int (I a i.toNatClampNeg) :: st) (S, I, R, z) Q) := RB_iald rfl
theorem w217_64 : RB d 217 64 [l0, l1, l2] [.int x] (S, I, R, z) Q = Q (some (.int x)) (S, I, R, z) := RB_iret rfl rfl rfl
/-! 218: HangedWordModel.counts -/
theorem w218_0 : RB d 218 0 [.ref a, l1, l2] st (S, I, R, z) Q = RB d 218 1 [.ref a, l1, l2] (.ref a :: st) (S, I, R, z) Q := RB_aloadn rfl rfl
theorem w218_1 : RB d 218 1 [l0, l1, l2] (.ref a :: st) (S, I, R, z) Q = ((S a).1 = 7 ∧ RB d 218 4 [l0, l1, l2] (va_rf (R a 0) :: st) (S, I, R, z) Q) := RB_getR rfl rfl
theorem w218_4 : RB d 218 4 [l0, l1, l2] st (S, I, R, z) Q = RB d 218 6 [l0, l1, l2] (.int 7 :: st) (S, I, R, z) Q := RB_bipush rfl kb7
theorem w218_6 : RB d 218 6 [l0, l1, l2] (.int i :: .ref a :: st) (S, I, R, z) Q = (((S a).1 = 9 ∧ aIx i (S a).2) ∧ RB d 218 7 [l0, l1, l2] (.int (I a i.toNatClampNeg) :: st) (S, I, R, z) Q) := RB_iald rfl
theorem w218_7 : RB d 218 7 [l0, l1, l2] st (S, I, R, z) Q = RB d 218 8 [l0, l1, l2] (.int 1 :: st) (S, I, R, z) Q := RB_iconst rfl ki1
theorem w218_8 : RB d 218 8 [l0, l1, l2] (.int y :: .int x :: st) (S, I, R, z) Q = RB d 218 9 [l0, l1, l2] (.int (x - y) :: st) (S, I, R, z) Q := RB_isub rfl
theorem w218_9 : RB d 218 9 [l0, l1, l2] (.int x :: st) (S, I, R, z) Q = RB d 218 10 [l0, l1, .int x] st (S, I, R, z) Q := RB_istoren rfl (Nat.le_of_ble_eq_true rfl) rfl
theorem w218_10 : RB d 218 10 [l0, l1, .int x] st (S, I, R, z) Q = RB d 218 11 [l0, l1, .int x] (.int x :: st) (S, I, R, z) Q := RB_iloadn rfl rfl
theorem w218_11 : RB d 218 11 [l0, l1, l2] (.int x :: st) (S, I, R, z) Q = ((x < 0 → RB d 218 41 [l0, l1, l2] st (S, I, R, z) Q) ∧ (¬ x < 0 → RB d 218 14 [l0, l1, l2] st (S, I, R, z) Q)) := RB_lt0 rfl (by decide) rfl
theorem w218_14 : RB d 218 14 [.ref a, l1, l2] st (S, I, R, z) Q = RB d 218 15 [.ref a, l1, l2] (.ref a :: st) (S, I, R, z) Q := RB_aloadn rfl rfl
theorem w218_15 : RB d 218 15 [l0, l1, l2] (.ref a :: st) (S, I, R, z) Q = ((S a).1 = 7 ∧ RB d 218 18 [l0, l1, l2] (va_rf (R a 0) :: st) (S, I, R, z) Q) := RB_getR rfl rfl
theorem w218_18 : RB d 218 18 [l0, l1, l2] st (S, I, R, z) Q = RB d 218 20 [l0, l1, l2] (.int 48 :: st) (S, I, R, z) Q := RB_bipush rfl kb48
theorem w218_20 : RB d 218 20 [l0, l1, l2] st (S, I, R, z) Q = RB d 218 21 [l0, l1, l2] (.int 2 :: st) (S, I, R, z) Q := RB_iconst rfl ki2
theorem w218_21 : RB d 218 21 [l0, l1, .int x] st (S, I, R, z) Q = RB d 218 22 [l0, l1, .int x] (.int x :: st) (S, I, R, z) Q := RB_iloadn rfl rfl
theorem w218_22 : RB d 218 22 [l0, l1, l2] (.int y :: .int x :: st) (S, I, R, z) Q = RB d 218 23 [l0, l1, l2] (.int (x * y) :: st) (S, I, R, z) Q := RB_imul rfl
theorem w218_23 : RB d 218 23 [l0, l1, l2] (.int y :: .int x :: st) (S, I, R, z) Q = RB d 218 24 [l0, l1, l2] (.int (x + y) :: st) (S, I, R, z) Q := RB_iadd rfl
theorem w218_24 : RB d 218 24 [l0, l1, l2] (.int i :: .ref a :: st) (S, I, R, z) Q = (((S a).1 = 9 ∧ aIx i (S a).2) ∧ RB d 218 25 [l0, l1, l2] (.int (I a i.toNatClampNeg) :: st) (S, I, R, z) Q) := RB_iald rfl
theorem w218_25 : RB d 218 25 [l0, l1, l2] st (S, I, R, z) Q = RB d 218 28 [l0, l1, l2] (.int 1000 :: st) (S, I, R, z) Q := RB_sipush rfl ks1000
theorem w218_28 : RB d 218 28 [l0, l1, l2] (.int y :: .int x :: st) (S, I, R, z) Q = (¬ y = 0 ∧ RB d 218 29 [l0, l1, l2] (.int (x / y) :: st) (S, I, R, z) Q) := RB_idiv rfl
theorem w218_29 : RB d 218 29 [l0, .int x, l2] st (S, I, R, z) Q = RB d 218 30 [l0, .int x, l2] (.int x :: st) (S, I, R, z) Q := RB_iloadn rfl rfl
theorem w218_30 : RB d 218 30 [l0, l1, l2] (.int y :: .int x :: st) (S, I, R, z) Q = ((x = y → RB d 218 33 [l0, l1, l2] st (S, I, R, z) Q) ∧ (¬ x = y → RB d 218 35 [l0, l1, l2] st (S, I, R, z) Q)) := RB_ine rfl (by decide) rfl
theorem w218_33 : RB d 218 33 [l0, l1, .int x] st (S, I, R, z) Q = RB d 218 34 [l0, l1, .int x] (.int x :: st) (S, I, R, z) Q := RB_iloadn rfl rfl
theorem w218_34 : RB d 218 34 [l0, l1, l2] [.int x] (S, I, R, z) Q = Q (some (.int x)) (S, I, R, z) := RB_iret rfl rfl rfl
theorem w218_35 : RB d 218 35 [l0, l1, .int x] st (S, I, R, z) Q = RB d 218 38 [l0, l1, .int (x + (-1))] st (S, I, R, z) Q := RB_iinc rfl rfl (Nat.le_of_ble_eq_true rfl) kim1 rfl
theorem w218_38 : RB d 218 38 [l0, l1, l2] st (S, I, R, z) Q = RB d 218 10 [l0, l1, l2] st (S, I, R, z) Q := RB_goto rfl (by decide) rfl
theorem w218_41 : RB d 218 41 [l0, l1, l2] st (S, I, R, z) Q = RB d 218 42 [l0, l1, l2] (.int (-1) :: st) (S, I, R, z) Q := RB_iconst rfl kim1
theorem w218_42 : RB d 218 42 [l0, l1, l2] [.int x] (S, I, R, z) Q = Q (some (.int x)) (S, I, R, z) := RB_iret rfl rfl rfl
/-! 219: HangedWordModel.why -/
theorem w219_0 : RB d 219 0 [l0, .int x, l2] st (S, I, R, z) Q = RB d 219 1 [l0, .int x, l2] (.int x :: st) (S, I, R, z) Q := RB_iloadn rfl rfl
theorem w219_1 : RB d 219 1 [l0, l1, l2] st (S, I, R, z) Q = RB d 219 2 [l0, l1, l2] (.int 0 :: st) (S, I, R, z) Q := RB_iconst rfl ki0
theorem w219_2 : RB d 219 2 [l0, l1, l2] st (S, I, R, z) Q = RB d 219 3 [l0, l1, l2] (.int 2 :: st) (S, I, R, z) Q := RB_iconst rfl ki2
set_option maxRecDepth 20000 in
theorem w219_3 : RB d 219 3 [l0, l1, l2] [.int x2, .int x1, .int x0] (S, I, R, z) Q = RM d 135 [.int x0, .int x1, .int x2] (S, I, R, z) (fun v τ => RB d 219 6 [l0, l1, l2] (aPush v []) τ Q) := RB_callS (n := 3) (t := 1) (k := 76) (ins := .invokestatic 76) rfl rfl rfl (Nat.le_of_ble_eq_true rfl) (Nat.le_of_ble_eq_true rfl) rfl rfl
theorem w219_6 : RB d 219 6 [l0, l1, l2] (.int x :: st) (S, I, R, z) Q = ((x = 0 → RB d 219 9 [l0, l1, l2] st (S, I, R, z) Q) ∧ (¬ x = 0 → RB d 219 12 [l0, l1, l2] st (S, I, R, z) Q)) := RB_ne0 rfl (by decide) rfl
theorem w219_9 : RB d 219 9 [l0, l1, l2] st (S, I, R, z) Q = RB d 219 11 [l0, l1, l2] (.int (-1000000001) :: st) (S, I, R, z) Q := RB_ldc rfl rfl
theorem w219_11 : RB d 219 11 [l0, l1, l2] [.int x] (S, I, R, z) Q = Q (some (.int x)) (S, I, R, z) := RB_iret rfl rfl rfl
theorem w219_12 : RB d 219 12 [.ref a, l1, l2] st (S, I, R, z) Q = RB d 219 13 [.ref a, l1, l2] (.ref a :: st) (S, I, R, z) Q := RB_aloadn rfl rfl
theorem w219_13 : RB d 219 13 [l0, .int x, l2] st (S, I, R, z) Q = RB d 219 14 [l0, .int x, l2] (.int x :: st) (S, I, R, z) Q := RB_iloadn rfl rfl
set_option maxRecDepth 20000 in
theorem w219_14 : RB d 219 14 [l0, l1, l2] [.int x0, .ref a] (S, I, R, z) Q = ((S a).1 = 7 ∧ RM d 218 [.ref a, .int x0] (S, I, R, z) (fun v τ => RB d 219 17 [l0, l1, l2] (aPush v []) τ Q)) := RB_callV (n := 2) (t := 0) (k := 126) (ins := .invokevirtual 126) rfl rfl rfl (by decide) (Nat.le_of_ble_eq_true rfl) (Nat.le_of_ble_eq_true rfl) rfl rfl
theorem w219_17 : RB d 219 17 [l0, l1, l2] (.int x :: st) (S, I, R, z) Q = RB d 219 18 [l0, l1, .int x] st (S, I, R, z) Q := RB_istoren rfl (Nat.le_of_ble_eq_true rfl) rfl
theorem w219_18 : RB d 219 18 [l0, l1, .int x] st (S, I, R, z) Q = RB d 219 19 [l0, l1, .int x] (.int x :: st) (S, I, R, z) Q := RB_iloadn rfl rfl
theorem w219_19 : RB d 219 19 [l0, l1, l2] (.int x :: st) (S, I, R, z) Q = ((0 ≤ x → RB d 219 27 [l0, l1, l2] st (S, I, R, z) Q) ∧ (¬ 0 ≤ x → RB d 219 22 [l0, l1, l2] st (S, I, R, z) Q)) := RB_ge0 rfl (by decide) rfl
theorem w219_22 : RB d 219 22 [l0, l1, l2] st (S, I, R, z) Q = RB d 219 24 [l0, l1, l2] (.int (-1000000005) :: st) (S, I, R, z) Q := RB_ldc rfl rfl
theorem w219_24 : RB d 219 24 [l0, l1, l2] st (S, I, R, z) Q = RB d 219 28 [l0, l1, l2] st (S, I, R, z) Q := RB_goto rfl (by decide) rfl
theorem w219_27 : RB d 219 27 [l0, l1, .int x] st (S, I, R, z) Q = RB d 219 28 [l0, l1, .int x] (.int x :: st) (S, I, R, z) Q := RB_iloadn rfl rfl
theorem w219_28 : RB d 219 28 [l0, l1, l2] [.int x] (S, I, R, z) Q = Q (some (.int x)) (S, I, R, z) := RB_iret rfl rfl rfl
end
