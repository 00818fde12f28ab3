section
variable {d : Nat} {st : List Value} {S : Nat → Nat × Nat} {I : Nat → Nat → Int32} {R : Nat → Nat → Option Nat} {z : Nat × Nat} {σ : HS} {Q : Option Value → HS → Prop} {x y i : Int32} {a b : Nat} {v w : Value} {l0 l1 l2 l3 l4 l5 l6 l7 l8 l9 l10 l11 l12 l13 l14 l15 : Value} {x0 x1 x2 x3 x4 x5 : Int32} {v0 v1 v2 v3 v4 s0 s1 s2 s3 s4 s5 : Value}
/-! 251: HangedWordLaw.law -/
theorem w251_0 : RB d 251 0 [l0, l1, l2, l3] st σ Q = RB d 251 3 [l0, l1, l2, l3] (.ref σ.2.2.2.1 :: st) (aNc 6 10 σ) Q := RB_new rfl rfl rfl
theorem w251_3 : RB d 251 3 [l0, l1, l2, l3] (v :: st) (S, I, R, z) Q = RB d 251 4 [l0, l1, l2, l3] (v :: v :: st) (S, I, R, z) Q := RB_dup rfl
set_option maxRecDepth 20000 in
theorem w251_4 : RB d 251 4 [l0, l1, l2, l3] [.ref a, s0] (S, I, R, z) Q = ((S a).1 = 6 ∧ RM d 76 [.ref a] (S, I, R, z) (fun v τ => RB d 251 7 [l0, l1, l2, l3] (aPush v [s0]) τ Q)) := RB_callV (n := 1) (t := 2) (k := 9) (ins := .invokespecial 9) rfl rfl rfl (by decide) (Nat.le_of_ble_eq_true rfl) (Nat.le_of_ble_eq_true rfl) rfl rfl
theorem w251_7 : RB d 251 7 [l0, l1, l2, l3] (.ref a :: st) (S, I, R, z) Q = RB d 251 8 [l0, .ref a, l2, l3] st (S, I, R, z) Q := RB_astoren rfl (Nat.le_of_ble_eq_true rfl) rfl
theorem w251_7N : RB d 251 7 [l0, l1, l2, l3] (.null :: st) (S, I, R, z) Q = RB d 251 8 [l0, .null, l2, l3] st (S, I, R, z) Q := RB_astorenN rfl (Nat.le_of_ble_eq_true rfl) rfl
theorem w251_8 : RB d 251 8 [l0, l1, l2, l3] st σ Q = RB d 251 11 [l0, l1, l2, l3] (.ref σ.2.2.2.1 :: st) (aNc 7 33 σ) Q := RB_new rfl rfl rfl
theorem w251_11 : RB d 251 11 [l0, l1, l2, l3] (v :: st) (S, I, R, z) Q = RB d 251 12 [l0, l1, l2, l3] (v :: v :: st) (S, I, R, z) Q := RB_dup rfl
set_option maxRecDepth 20000 in
theorem w251_12 : RB d 251 12 [l0, l1, l2, l3] [.ref a, s0] (S, I, R, z) Q = ((S a).1 = 7 ∧ RM d 134 [.ref a] (S, I, R, z) (fun v τ => RB d 251 15 [l0, l1, l2, l3] (aPush v [s0]) τ Q)) := RB_callV (n := 1) (t := 2) (k := 12) (ins := .invokespecial 12) rfl rfl rfl (by decide) (Nat.le_of_ble_eq_true rfl) (Nat.le_of_ble_eq_true rfl) rfl rfl
theorem w251_15 : RB d 251 15 [l0, l1, l2, l3] (.ref a :: st) (S, I, R, z) Q = RB d 251 16 [l0, l1, .ref a, l3] st (S, I, R, z) Q := RB_astoren rfl (Nat.le_of_ble_eq_true rfl) rfl
theorem w251_15N : RB d 251 15 [l0, l1, l2, l3] (.null :: st) (S, I, R, z) Q = RB d 251 16 [l0, l1, .null, l3] st (S, I, R, z) Q := RB_astorenN rfl (Nat.le_of_ble_eq_true rfl) rfl
theorem w251_16 : RB d 251 16 [l0, l1, l2, l3] st (S, I, R, z) Q = RB d 251 17 [l0, l1, l2, l3] (.int 0 :: st) (S, I, R, z) Q := RB_iconst rfl ki0
theorem w251_17 : RB d 251 17 [l0, l1, l2, l3] (.int x :: st) (S, I, R, z) Q = RB d 251 18 [l0, l1, l2, .int x] st (S, I, R, z) Q := RB_istoren rfl (Nat.le_of_ble_eq_true rfl) rfl
theorem w251_18 : RB d 251 18 [l0, l1, l2, .int x] st (S, I, R, z) Q = RB d 251 19 [l0, l1, l2, .int x] (.int x :: st) (S, I, R, z) Q := RB_iloadn rfl rfl
theorem w251_19 : RB d 251 19 [.ref a, l1, l2, l3] st (S, I, R, z) Q = RB d 251 20 [.ref a, l1, l2, l3] (.ref a :: st) (S, I, R, z) Q := RB_aloadn rfl rfl
theorem w251_19N : RB d 251 19 [.null, l1, l2, l3] st (S, I, R, z) Q = RB d 251 20 [.null, l1, l2, l3] (.null :: st) (S, I, R, z) Q := RB_aloadnN rfl rfl
theorem w251_20 : RB d 251 20 [l0, l1, l2, l3] (.ref a :: st) (S, I, R, z) Q = (((8 ≤ (S a).1 ∧ (S a).1 ≤ 13) ∨ (S a).1 = 15) ∧ RB d 251 21 [l0, l1, l2, l3] (.int (Int32.ofNat (S a).2) :: st) (S, I, R, z) Q) := RB_alen rfl
theorem w251_21 : RB d 251 21 [l0, l1, l2, l3] st (S, I, R, z) Q = RB d 251 23 [l0, l1, l2, l3] (.int 6 :: st) (S, I, R, z) Q := RB_bipush rfl kb6
theorem w251_23 : RB d 251 23 [l0, l1, l2, l3] (.int y :: .int x :: st) (S, I, R, z) Q = RB d 251 24 [l0, l1, l2, l3] (.int (x - y) :: st) (S, I, R, z) Q := RB_isub rfl
theorem w251_24 : RB d 251 24 [l0, l1, l2, l3] (.int y :: .int x :: st) (S, I, R, z) Q = ((y < x → RB d 251 1529 [l0, l1, l2, l3] st (S, I, R, z) Q) ∧ (¬ y < x → RB d 251 27 [l0, l1, l2, l3] st (S, I, R, z) Q)) := RB_igt rfl (by decide) rfl
theorem w251_27 : RB d 251 27 [.ref a, l1, l2, l3] st (S, I, R, z) Q = RB d 251 28 [.ref a, l1, l2, l3] (.ref a :: st) (S, I, R, z) Q := RB_aloadn rfl rfl
theorem w251_27N : RB d 251 27 [.null, l1, l2, l3] st (S, I, R, z) Q = RB d 251 28 [.null, l1, l2, l3] (.null :: st) (S, I, R, z) Q := RB_aloadnN rfl rfl
theorem w251_28 : RB d 251 28 [l0, l1, l2, .int x] st (S, I, R, z) Q = RB d 251 29 [l0, l1, l2, .int x] (.int x :: st) (S, I, R, z) Q := RB_iloadn rfl rfl
theorem w251_29 : RB d 251 29 [l0, l1, l2, l3] (.int i :: .ref a :: st) (S, I, R, z) Q = (((S a).1 = 9 ∧ aIx i (S a).2) ∧ RB d 251 30 [l0, l1, l2, l3] (.int (I a i.toNatClampNeg) :: st) (S, I, R, z) Q) := RB_iald rfl
theorem w251_30 : RB d 251 30 [l0, l1, l2, l3] st (S, I, R, z) Q = RB d 251 32 [l0, l1, l2, l3] (.int 63 :: st) (S, I, R, z) Q := RB_bipush rfl kb63
theorem w251_32 : RB d 251 32 [l0, l1, l2, l3] (.int y :: .int x :: st) (S, I, R, z) Q = RB d 251 33 [l0, l1, l2, l3] (.int (x &&& y) :: st) (S, I, R, z) Q := RB_iand rfl
theorem w251_33 : RB d 251 33 [l0, l1, l2, l3] (.int x :: st) (S, I, R, z) Q = aTsR d 251 33 x 1523 [l0, l1, l2, l3] st (S, I, R, z) Q [(0, 228), (1, 261), (2, 294), (3, 327), (4, 360), (5, 393), (6, 426), (7, 459), (8, 492), (9, 525), (10, 548), (11, 571), (12, 594), (13, 617), (14, 640), (15, 653), (16, 676), (17, 699), (18, 732), (19, 765), (20, 788), (21, 811), (22, 834), (23, 847), (24, 890), (25, 923), (26, 936), (27, 979), (28, 1002), (29, 1015), (30, 1048), (31, 1071), (32, 1114), (33, 1157), (34, 1180), (35, 1213), (36, 1276), (37, 1319), (38, 1352), (39, 1385), (40, 1418), (41, 1441), (42, 1474), (43, 1487), (44, 1500)] := RB_ts rfl (by decide) (by decide) (by decide) (by decide +kernel) rfl
theorem w251_228 : RB d 251 228 [l0, .ref a, l2, l3] st (S, I, R, z) Q = RB d 251 229 [l0, .ref a, l2, l3] (.ref a :: st) (S, I, R, z) Q := RB_aloadn rfl rfl
theorem w251_228N : RB d 251 228 [l0, .null, l2, l3] st (S, I, R, z) Q = RB d 251 229 [l0, .null, l2, l3] (.null :: st) (S, I, R, z) Q := RB_aloadnN rfl rfl
theorem w251_229 : RB d 251 229 [.ref a, l1, l2, l3] st (S, I, R, z) Q = RB d 251 230 [.ref a, l1, l2, l3] (.ref a :: st) (S, I, R, z) Q := RB_aloadn rfl rfl
theorem w251_229N : RB d 251 229 [.null, l1, l2, l3] st (S, I, R, z) Q = RB d 251 230 [.null, l1, l2, l3] (.null :: st) (S, I, R, z) Q := RB_aloadnN rfl rfl
theorem w251_230 : RB d 251 230 [l0, l1, l2, .int x] st (S, I, R, z) Q = RB d 251 231 [l0, l1, l2, .int x] (.int x :: st) (S, I, R, z) Q := RB_iloadn rfl rfl
theorem w251_231 : RB d 251 231 [l0, l1, l2, l3] st (S, I, R, z) Q = RB d 251 232 [l0, l1, l2, l3] (.int 1 :: st) (S, I, R, z) Q := RB_iconst rfl ki1
theorem w251_232 : RB d 251 232 [l0, l1, l2, l3] (.int y :: .int x :: st) (S, I, R, z) Q = RB d 251 233 [l0, l1, l2, l3] (.int (x + y) :: st) (S, I, R, z) Q := RB_iadd rfl
theorem w251_233 : RB d 251 233 [l0, l1, l2, l3] (.int i :: .ref a :: st) (S, I, R, z) Q = (((S a).1 = 9 ∧ aIx i (S a).2) ∧ RB d 251 234 [l0, l1, l2, l3] (.int (I a i.toNatClampNeg) :: st) (S, I, R, z) Q) := RB_iald rfl
theorem w251_234 : RB d 251 234 [.ref a, l1, l2, l3] st (S, I, R, z) Q = RB d 251 235 [.ref a, l1, l2, l3] (.ref a :: st) (S, I, R, z) Q := RB_aloadn rfl rfl
theorem w251_234N : RB d 251 234 [.null, l1, l2, l3] st (S, I, R, z) Q = RB d 251 235 [.null, l1, l2, l3] (.null :: st) (S, I, R, z) Q := RB_aloadnN rfl rfl
theorem w251_235 : RB d 251 235 [l0, l1, l2, .int x] st (S, I, R, z) Q = RB d 251 236 [l0, l1, l2, .int x] (.int x :: st) (S, I, R, z) Q := RB_iloadn rfl rfl
theorem w251_236 : RB d 251 236 [l0, l1, l2, l3] st (S, I, R, z) Q = RB d 251 237 [l0, l1, l2, l3] (.int 2 :: st) (S, I, R, z) Q := RB_iconst rfl ki2
theorem w251_237 : RB d 251 237 [l0, l1, l2, l3] (.int y :: .int x :: st) (S, I, R, z) Q = RB d 251 238 [l0, l1, l2, l3] (.int (x + y) :: st) (S, I, R, z) Q := RB_iadd rfl
theorem w251_238 : RB d 251 238 [l0, l1, l2, l3] (.int i :: .ref a :: st) (S, I, R, z) Q = (((S a).1 = 9 ∧ aIx i (S a).2) ∧ RB d 251 239 [l0, l1, l2, l3] (.int (I a i.toNatClampNeg) :: st) (S, I, R, z) Q) := RB_iald rfl
set_option maxRecDepth 20000 in
theorem w251_239 : RB d 251 239 [l0, l1, l2, l3] [.int x1, .int x0, .ref a] (S, I, R, z) Q = ((S a).1 = 6 ∧ RM d 77 [.ref a, .int x0, .int x1] (S, I, R, z) (fun v τ => RB d 251 242 [l0, l1, l2, l3] (aPush v []) τ Q)) := RB_callV (n := 3) (t := 0) (k := 13) (ins := .invokevirtual 13) rfl rfl rfl (by decide) (Nat.le_of_ble_eq_true rfl) (Nat.le_of_ble_eq_true rfl) rfl rfl
theorem w251_242 : RB d 251 242 [l0, l1, .ref a, l3] st (S, I, R, z) Q = RB d 251 243 [l0, l1, .ref a, l3] (.ref a :: st) (S, I, R, z) Q := RB_aloadn rfl rfl
theorem w251_242N : RB d 251 242 [l0, l1, .null, l3] st (S, I, R, z) Q = RB d 251 243 [l0, l1, .null, l3] (.null :: st) (S, I, R, z) Q := RB_aloadnN rfl rfl
theorem w251_243 : RB d 251 243 [.ref a, l1, l2, l3] st (S, I, R, z) Q = RB d 251 244 [.ref a, l1, l2, l3] (.ref a :: st) (S, I, R, z) Q := RB_aloadn rfl rfl
theorem w251_243N : RB d 251 243 [.null, l1, l2, l3] st (S, I, R, z) Q = RB d 251 244 [.null, l1, l2, l3] (.null :: st) (S, I, R, z) Q := RB_aloadnN rfl rfl
theorem w251_244 : RB d 251 244 [l0, l1, l2, .int x] st (S, I, R, z) Q = RB d 251 245 [l0, l1, l2, .int x] (.int x :: st) (S, I, R, z) Q := RB_iloadn rfl rfl
theorem w251_245 : RB d 251 245 [l0, l1, l2, l3] st (S, I, R, z) Q = RB d 251 246 [l0, l1, l2, l3] (.int 1 :: st) (S, I, R, z) Q := RB_iconst rfl ki1
theorem w251_246 : RB d 251 246 [l0, l1, l2, l3] (.int y :: .int x :: st) (S, I, R, z) Q = RB d 251 247 [l0, l1, l2, l3] (.int (x + y) :: st) (S, I, R, z) Q := RB_iadd rfl
theorem w251_247 : RB d 251 247 [l0, l1, l2, l3] (.int i :: .ref a :: st) (S, I, R, z) Q = (((S a).1 = 9 ∧ aIx i (S a).2) ∧ RB d 251 248 [l0, l1, l2, l3] (.int (I a i.toNatClampNeg) :: st) (S, I, R, z) Q) := RB_iald rfl
theorem w251_248 : RB d 251 248 [.ref a, l1, l2, l3] st (S, I, R, z) Q = RB d 251 249 [.ref a, l1, l2, l3] (.ref a :: st) (S, I, R, z) Q := RB_aloadn rfl rfl
theorem w251_248N : RB d 251 248 [.null, l1, l2, l3] st (S, I, R, z) Q = RB d 251 249 [.null, l1, l2, l3] (.null :: st) (S, I, R, z) Q := RB_aloadnN rfl rfl
theorem w251_249 : RB d 251 249 [l0, l1, l2, .int x] st (S, I, R, z) Q = RB d 251 250 [l0, l1, l2, .int x] (.int x :: st) (S, I, R, z) Q := RB_iloadn rfl rfl
theorem w251_250 : RB d 251 250 [l0, l1, l2, l3] st (S, I, R, z) Q = RB d 251 251 [l0, l1, l2, l3] (.int 2 :: st) (S, I, R, z) Q := RB_iconst rfl ki2
theorem w251_251 : RB d 251 251 [l0, l1, l2, l3] (.int y :: .int x :: st) (S, I, R, z) Q = RB d 251 252 [l0, l1, l2, l3] (.int (x + y) :: st) (S, I, R, z) Q := RB_iadd rfl
theorem w251_252 : RB d 251 252 [l0, l1, l2, l3] (.int i :: .ref a :: st) (S, I, R, z) Q = (((S a).1 = 9 ∧ aIx i (S a).2) ∧ RB d 251 253 [l0, l1, l2, l3] (.int (I a i.toNatClampNeg) :: st) (S, I, R, z) Q) := RB_iald rfl
set_option maxRecDepth 20000 in
theorem w251_253 : RB d 251 253 [l0, l1, l2, l3] [.int x1, .int x0, .ref a, s0] (S, I, R, z) Q = ((S a).1 = 7 ∧ RM d 151 [.ref a, .int x0, .int x1] (S, I, R, z) (fun v τ => RB d 251 256 [l0, l1, l2, l3] (aPush v [s0]) τ Q)) := RB_callV (n := 3) (t := 0) (k := 17) (ins := .invokevirtual 17) rfl rfl rfl (by decide) (Nat.le_of_ble_eq_true rfl) (Nat.le_of_ble_eq_true rfl) rfl rfl
theorem w251_256 : RB d 251 256 [l0, l1, l2, l3] (.int y :: .int x :: st) (S, I, R, z) Q = ((x = y → RB d 251 1523 [l0, l1, l2, l3] st (S, I, R, z) Q) ∧ (¬ x = y → RB d 251 259 [l0, l1, l2, l3] st (S, I, R, z) Q)) := RB_ieq rfl (by decide) rfl
theorem w251_259 : RB d 251 259 [l0, l1, l2, l3] st (S, I, R, z) Q = RB d 251 260 [l0, l1, l2, l3] (.int 0 :: st) (S, I, R, z) Q := RB_iconst rfl ki0
theorem w251_260 : RB d 251 260 [l0, l1, l2, l3] [.int x] (S, I, R, z) Q = (narrow .boolean (.int x) = .int x ∧ Q (some (.int x)) (S, I, R, z)) := RB_zret rfl rfl (Or.inl rfl)
theorem w251_261 : RB d 251 261 [l0, .ref a, l2, l3] st (S, I, R, z) Q = RB d 251 262 [l0, .ref a, l2, l3] (.ref a :: st) (S, I, R, z) Q := RB_aloadn rfl rfl
theorem w251_261N : RB d 251 261 [l0, .null, l2, l3] st (S, I, R, z) Q = RB d 251 262 [l0, .null, l2, l3] (.null :: st) (S, I, R, z) Q := RB_aloadnN rfl rfl
theorem w251_262 : RB d 251 262 [.ref a, l1, l2, l3] st (S, I, R, z) Q = RB d 251 263 [.ref a, l1, l2, l3] (.ref a :: st) (S, I, R, z) Q := RB_aloadn rfl rfl
theorem w251_262N : RB d 251 262 [.null, l1, l2, l3] st (S, I, R, z) Q = RB d 251 263 [.null, l1, l2, l3] (.null :: st) (S, I, R, z) Q := RB_aloadnN rfl rfl
theorem w251_263 : RB d 251 263 [l0, l1, l2, .int x] st (S, I, R, z) Q = RB d 251 264 [l0, l1, l2, .int x] (.int x :: st) (S, I, R, z) Q := RB_iloadn rfl rfl
theorem w251_264 : RB d 251 264 [l0, l1, l2, l3] st (S, I, R, z) Q = RB d 251 265 [l0, l1, l2, l3] (.int 1 :: st) (S, I, R, z) Q := RB_iconst rfl ki1
theorem w251_265 : RB d 251 265 [l0, l1, l2, l3] (.int y :: .int x :: st) (S, I, R, z) Q = RB d 251 266 [l0, l1, l2, l3] (.int (x + y) :: st) (S, I, R, z) Q := RB_iadd rfl
theorem w251_266 : RB d 251 266 [l0, l1, l2, l3] (.int i :: .ref a :: st) (S, I, R, z) Q = (((S a).1 = 9 ∧ aIx i (S a).2) ∧ RB d 251 267 [l0, l1, l2, l3] (.int (I a i.toNatClampNeg) :: st) (S, I, R, z) Q) := RB_iald rfl
theorem w251_267 : RB d 251 267 [.ref a, l1, l2, l3] st (S, I, R, z) Q = RB d 251 268 [.ref a, l1, l2, l3] (.ref a :: st) (S, I, R, z) Q := RB_aloadn rfl rfl
theorem w251_267N : RB d 251 267 [.null, l1, l2, l3] st (S, I, R, z) Q = RB d 251 268 [.null, l1, l2, l3] (.null :: st) (S, I, R, z) Q := RB_aloadnN rfl rfl
theorem w251_268 : RB d 251 268 [l0, l1, l2, .int x] st (S, I, R, z) Q = RB d 251 269 [l0, l1, l2, .int x] (.int x :: st) (S, I, R, z) Q := RB_iloadn rfl rfl
theorem w251_269 : RB d 251 269 [l0, l1, l2, l3] st (S, I, R, z) Q = RB d 251 270 [l0, l1, l2, l3] (.int 2 :: st) (S, I, R, z) Q := RB_iconst rfl ki2
theorem w251_270 : RB d 251 270 [l0, l1, l2, l3] (.int y :: .int x :: st) (S, I, R, z) Q = RB d 251 271 [l0, l1, l2, l3] (.int (x + y) :: st) (S, I, R, z) Q := RB_iadd rfl
theorem w251_271 : RB d 251 271 [l0, l1, l2, l3] (.int i :: .ref a :: st) (S, I, R, z) Q = (((S a).1 = 9 ∧ aIx i (S a).2) ∧ RB d 251 272 [l0, l1, l2, l3] (.int (I a i.toNatClampNeg) :: st) (S, I, R, z) Q) := RB_iald rfl
set_option maxRecDepth 20000 in
theorem w251_272 : RB d 251 272 [l0, l1, l2, l3] [.int x1, .int x0, .ref a] (S, I, R, z) Q = ((S a).1 = 6 ∧ RM d 78 [.ref a, .int x0, .int x1] (S, I, R, z) (fun v τ => RB d 251 275 [l0, l1, l2, l3] (aPush v []) τ Q)) := RB_callV (n := 3) (t := 0) (k := 18) (ins := .invokevirtual 18) rfl rfl rfl (by decide) (Nat.le_of_ble_eq_true rfl) (Nat.le_of_ble_eq_true rfl) rfl rfl
theorem w251_275 : RB d 251 275 [l0, l1, .ref a, l3] st (S, I, R, z) Q = RB d 251 276 [l0, l1, .ref a, l3] (.ref a :: st) (S, I, R, z) Q := RB_aloadn rfl rfl
theorem w251_275N : RB d 251 275 [l0, l1, .null, l3] st (S, I, R, z) Q = RB d 251 276 [l0, l1, .null, l3] (.null :: st) (S, I, R, z) Q := RB_aloadnN rfl rfl
theorem w251_276 : RB d 251 276 [.ref a, l1, l2, l3] st (S, I, R, z) Q = RB d 251 277 [.ref a, l1, l2, l3] (.ref a :: st) (S, I, R, z) Q := RB_aloadn rfl rfl
theorem w251_276N : RB d 251 276 [.null, l1, l2, l3] st (S, I, R, z) Q = RB d 251 277 [.null, l1, l2, l3] (.null :: st) (S, I, R, z) Q := RB_aloadnN rfl rfl
theorem w251_277 : RB d 251 277 [l0, l1, l2, .int x] st (S, I, R, z) Q = RB d 251 278 [l0, l1, l2, .int x] (.int x :: st) (S, I, R, z) Q := RB_iloadn rfl rfl
theorem w251_278 : RB d 251 278 [l0, l1, l2, l3] st (S, I, R, z) Q = RB d 251 279 [l0, l1, l2, l3] (.int 1 :: st) (S, I, R, z) Q := RB_iconst rfl ki1
theorem w251_279 : RB d 251 279 [l0, l1, l2, l3] (.int y :: .int x :: st) (S, I, R, z) Q = RB d 251 280 [l0, l1, l2, l3] (.int (x + y) :: st) (S, I, R, z) Q := RB_iadd rfl
theorem w251_280 : RB d 251 280 [l0, l1, l2, l3] (.int i :: .ref a :: st) (S, I, R, z) Q = (((S a).1 = 9 ∧ aIx i (S a).2) ∧ RB d 251 281 [l0, l1, l2, l3] (.int (I a i.toNatClampNeg) :: st) (S, I, R, z) Q) := RB_iald rfl
theorem w251_281 : RB d 251 281 [.ref a, l1, l2, l3] st (S, I, R, z) Q = RB d 251 282 [.ref a, l1, l2, l3] (.ref a :: st) (S, I, R, z) Q := RB_aloadn rfl rfl
theorem w251_281N : RB d 251 281 [.null, l1, l2, l3] st (S, I, R, z) Q = RB d 251 282 [.null, l1, l2, l3] (.null :: st) (S, I, R, z) Q := RB_aloadnN rfl rfl
theorem w251_282 : RB d 251 282 [l0, l1, l2, .int x] st (S, I, R, z) Q = RB d 251 283 [l0, l1, l2, .int x] (.int x :: st) (S, I, R, z) Q := RB_iloadn rfl rfl
theorem w251_283 : RB d 251 283 [l0, l1, l2, l3] st (S, I, R, z) Q = RB d 251 284 [l0, l1, l2, l3] (.int 2 :: st) (S, I, R, z) Q := RB_iconst rfl ki2
theorem w251_284 : RB d 251 284 [l0, l1, l2, l3] (.int y :: .int x :: st) (S, I, R, z) Q = RB d 251 285 [l0, l1, l2, l3] (.int (x + y) :: st) (S, I, R, z) Q := RB_iadd rfl
theorem w251_285 : RB d 251 285 [l0, l1, l2, l3] (.int i :: .ref a :: st) (S, I, R, z) Q = (((S a).1 = 9 ∧ aIx i (S a).2) ∧ RB d 251 286 [l0, l1, l2, l3] (.int (I a i.toNatClampNeg) :: st) (S, I, R, z) Q) := RB_iald rfl
set_option maxRecDepth 20000 in
theorem w251_286 : RB d 251 286 [l0, l1, l2, l3] [.int x1, .int x0, .ref a, s0] (S, I, R, z) Q = ((S a).1 = 7 ∧ RM d 152 [.ref a, .int x0, .int x1] (S, I, R, z) (fun v τ => RB d 251 289 [l0, l1, l2, l3] (aPush v [s0]) τ Q)) := RB_callV (n := 3) (t := 0) (k := 21) (ins := .invokevirtual 21) rfl rfl rfl (by decide) (Nat.le_of_ble_eq_true rfl) (Nat.le_of_ble_eq_true rfl) rfl rfl
theorem w251_289 : RB d 251 289 [l0, l1, l2, l3] (.int y :: .int x :: st) (S, I, R, z) Q = ((x = y → RB d 251 1523 [l0, l1, l2, l3] st (S, I, R, z) Q) ∧ (¬ x = y → RB d 251 292 [l0, l1, l2, l3] st (S, I, R, z) Q)) := RB_ieq rfl (by decide) rfl
theorem w251_292 : RB d 251 292 [l0, l1, l2, l3] st (S, I, R, z) Q = RB d 251 293 [l0, l1, l2, l3] (.int 0 :: st) (S, I, R, z) Q := RB_iconst rfl ki0
theorem w251_293 : RB d 251 293 [l0, l1, l2, l3] [.int x] (S, I, R, z) Q = (narrow .boolean (.int x) = .int x ∧ Q (some (.int x)) (S, I, R, z)) := RB_zret rfl rfl (Or.inl rfl)
theorem w251_294 : RB d 251 294 [l0, .ref a, l2, l3] st (S, I, R, z) Q = RB d 251 295 [l0, .ref a, l2, l3] (.ref a :: st) (S, I, R, z) Q := RB_aloadn rfl rfl
theorem w251_294N : RB d 251 294 [l0, .null, l2, l3] st (S, I, R, z) Q = RB d 251 295 [l0, .null, l2, l3] (.null :: st) (S, I, R, z) Q := RB_aloadnN rfl rfl
theorem w251_295 : RB d 251 295 [.ref a, l1, l2, l3] st (S, I, R, z) Q = RB d 251 296 [.ref a, l1, l2, l3] (.ref a :: st) (S, I, R, z) Q := RB_aloadn rfl rfl
theorem w251_295N : RB d 251 295 [.null, l1, l2, l3] st (S, I, R, z) Q = RB d 251 296 [.null, l1, l2, l3] (.null :: st) (S, I, R, z) Q := RB_aloadnN rfl rfl
theorem w251_296 : RB d 251 296 [l0, l1, l2, .int x] st (S, I, R, z) Q = RB d 251 297 [l0, l1, l2, .int x] (.int x :: st) (S, I, R, z) Q := RB_iloadn rfl rfl
theorem w251_297 : RB d 251 297 [l0, l1, l2, l3] st (S, I, R, z) Q = RB d 251 298 [l0, l1, l2, l3] (.int 1 :: st) (S, I, R, z) Q := RB_iconst rfl ki1
theorem w251_298 : RB d 251 298 [l0, l1, l2, l3] (.int y :: .int x :: st) (S, I, R, z) Q = RB d 251 299 [l0, l1, l2, l3] (.int (x + y) :: st) (S, I, R, z) Q := RB_iadd rfl
theorem w251_299 : RB d 251 299 [l0, l1, l2, l3] (.int i :: .ref a :: st) (S, I, R, z) Q = (((S a).1 = 9 ∧ aIx i (S a).2) ∧ RB d 251 300 [l0, l1, l2, l3] (.int (I a i.toNatClampNeg) :: st) (S, I, R, z) Q) := RB_iald rfl
theorem w251_300 : RB d 251 300 [.ref a, l1, l2, l3] st (S, I, R, z) Q = RB d 251 301 [.ref a, l1, l2, l3] (.ref a :: st) (S, I, R, z) Q := RB_aloadn rfl rfl
theorem w251_300N : RB d 251 300 [.null, l1, l2, l3] st (S, I, R, z) Q = RB d 251 301 [.null, l1, l2, l3] (.null :: st) (S, I, R, z) Q := RB_aloadnN rfl rfl
theorem w251_301 : RB d 251 301 [l0, l1, l2, .int x] st (S, I, R, z) Q = RB d 251 302 [l0, l1, l2, .int x] (.int x :: st) (S, I, R, z) Q := RB_iloadn rfl rfl
theorem w251_302 : RB d 251 302 [l0, l1, l2, l3] st (S, I, R, z) Q = RB d 251 303 [l0, l1, l2, l3] (.int 2 :: st) (S, I, R, z) Q := RB_iconst rfl ki2
theorem w251_303 : RB d 251 303 [l0, l1, l2, l3] (.int y :: .int x :: st) (S, I, R, z) Q = RB d 251 304 [l0, l1, l2, l3] (.int (x + y) :: st) (S, I, R, z) Q := RB_iadd rfl
theorem w251_304 : RB d 251 304 [l0, l1, l2, l3] (.int i :: .ref a :: st) (S, I, R, z) Q = (((S a).1 = 9 ∧ aIx i (S a).2) ∧ RB d 251 305 [l0, l1, l2, l3] (.int (I a i.toNatClampNeg) :: st) (S, I, R, z) Q) := RB_iald rfl
set_option maxRecDepth 20000 in
theorem w251_305 : RB d 251 305 [l0, l1, l2, l3] [.int x1, .int x0, .ref a] (S, I, R, z) Q = ((S a).1 = 6 ∧ RM d 79 [.ref a, .int x0, .int x1] (S, I, R, z) (fun v τ => RB d 251 308 [l0, l1, l2, l3] (aPush v []) τ Q)) := RB_callV (n := 3) (t := 0) (k := 22) (ins := .invokevirtual 22) rfl rfl rfl (by decide) (Nat.le_of_ble_eq_true rfl) (Nat.le_of_ble_eq_true rfl) rfl rfl
theorem w251_308 : RB d 251 308 [l0, l1, .ref a, l3] st (S, I, R, z) Q = RB d 251 309 [l0, l1, .ref a, l3] (.ref a :: st) (S, I, R, z) Q := RB_aloadn rfl rfl
theorem w251_308N : RB d 251 308 [l0, l1, .null, l3] st (S, I, R, z) Q = RB d 251 309 [l0, l1, .null, l3] (.null :: st) (S, I, R, z) Q := RB_aloadnN rfl rfl
theorem w251_309 : RB d 251 309 [.ref a, l1, l2, l3] st (S, I, R, z) Q = RB d 251 310 [.ref a, l1, l2, l3] (.ref a :: st) (S, I, R, z) Q := RB_aloadn rfl rfl
theorem w251_309N : RB d 251 309 [.null, l1, l2, l3] st (S, I, R, z) Q = RB d 251 310 [.null, l1, l2, l3] (.null :: st) (S, I, R, z) Q := RB_aloadnN rfl rfl
theorem w251_310 : RB d 251 310 [l0, l1, l2, .int x] st (S, I, R, z) Q = RB d 251 311 [l0, l1, l2, .int x] (.int x :: st) (S, I, R, z) Q := RB_iloadn rfl rfl
theorem w251_311 : RB d 251 311 [l0, l1, l2, l3] st (S, I, R, z) Q = RB d 251 312 [l0, l1, l2, l3] (.int 1 :: st) (S, I, R, z) Q := RB_iconst rfl ki1
theorem w251_312 : RB d 251 312 [l0, l1, l2, l3] (.int y :: .int x :: st) (S, I, R, z) Q = RB d 251 313 [l0, l1, l2, l3] (.int (x + y) :: st) (S, I, R, z) Q := RB_iadd rfl
theorem w251_313 : RB d 251 313 [l0, l1, l2, l3] (.int i :: .ref a :: st) (S, I, R, z) Q = (((S a).1 = 9 ∧ aIx i (S a).2) ∧ RB d 251 314 [l0, l1, l2, l3] (.int (I a i.toNatClampNeg) :: st) (S, I, R, z) Q) := RB_iald rfl
theorem w251_314 : RB d 251 314 [.ref a, l1, l2, l3] st (S, I, R, z) Q = RB d 251 315 [.ref a, l1, l2, l3] (.ref a :: st) (S, I, R, z) Q := RB_aloadn rfl rfl
theorem w251_314N : RB d 251 314 [.null, l1, l2, l3] st (S, I, R, z) Q = RB d 251 315 [.null, l1, l2, l3] (.null :: st) (S, I, R, z) Q := RB_aloadnN rfl rfl
theorem w251_315 : RB d 251 315 [l0, l1, l2, .int x] st (S, I, R, z) Q = RB d 251 316 [l0, l1, l2, .int x] (.int x :: st) (S, I, R, z) Q := RB_iloadn rfl rfl
theorem w251_316 : RB d 251 316 [l0, l1, l2, l3] st (S, I, R, z) Q = RB d 251 317 [l0, l1, l2, l3] (.int 2 :: st) (S, I, R, z) Q := RB_iconst rfl ki2
theorem w251_317 : RB d 251 317 [l0, l1, l2, l3] (.int y :: .int x :: st) (S, I, R, z) Q = RB d 251 318 [l0, l1, l2, l3] (.int (x + y) :: st) (S, I, R, z) Q := RB_iadd rfl
theorem w251_318 : RB d 251 318 [l0, l1, l2, l3] (.int i :: .ref a :: st) (S, I, R, z) Q = (((S a).1 = 9 ∧ aIx i (S a).2) ∧ RB d 251 319 [l0, l1, l2, l3] (.int (I a i.toNatClampNeg) :: st) (S, I, R, z) Q) := RB_iald rfl
set_option maxRecDepth 20000 in
theorem w251_319 : RB d 251 319 [l0, l1, l2, l3] [.int x1, .int x0, .ref a, s0] (S, I, R, z) Q = ((S a).1 = 7 ∧ RM d 153 [.ref a, .int x0, .int x1] (S, I, R, z) (fun v τ => RB d 251 322 [l0, l1, l2, l3] (aPush v [s0]) τ Q)) := RB_callV (n := 3) (t := 0) (k := 25) (ins := .invokevirtual 25) rfl rfl rfl (by decide) (Nat.le_of_ble_eq_true rfl) (Nat.le_of_ble_eq_true rfl) rfl rfl
theorem w251_322 : RB d 251 322 [l0, l1, l2, l3] (.int y :: .int x :: st) (S, I, R, z) Q = ((x = y → RB d 251 1523 [l0, l1, l2, l3] st (S, I, R, z) Q) ∧ (¬ x = y → RB d 251 325 [l0, l1, l2, l3] st (S, I, R, z) Q)) := RB_ieq rfl (by decide) rfl
theorem w251_325 : RB d 251 325 [l0, l1, l2, l3] st (S, I, R, z) Q = RB d 251 326 [l0, l1, l2, l3] (.int 0 :: st) (S, I, R, z) Q := RB_iconst rfl ki0
theorem w251_326 : RB d 251 326 [l0, l1, l2, l3] [.int x] (S, I, R, z) Q = (narrow .boolean (.int x) = .int x ∧ Q (some (.int x)) (S, I, R, z)) := RB_zret rfl rfl (Or.inl rfl)
theorem w251_327 : RB d 251 327 [l0, .ref a, l2, l3] st (S, I, R, z) Q = RB d 251 328 [l0, .ref a, l2, l3] (.ref a :: st) (S, I, R, z) Q := RB_aloadn rfl rfl
set_option maxRecDepth 20000 in
theorem w251_327N : RB d 251 327 [l0, .null, l2, l3] st (S, I, R, z) Q = RB d 251 328 [l0, .null, l2, l3] (.null :: st) (S, I, R, z) Q := RB_aloadnN rfl rfl
set_option maxRecDepth 20000 in
theorem w251_328 : RB d 251 328 [.ref a, l1, l2, l3] st (S, I, R, z) Q = RB d 251 329 [.ref a, l1, l2, l3] (.ref a :: st) (S, I, R, z) Q := RB_aloadn rfl rfl
set_option maxRecDepth 20000 in
theorem w251_328N : RB d 251 328 [.null, l1, l2, l3] st (S, I, R, z) Q = RB d 251 329 [.null, l1, l2, l3] (.null :: st) (S, I, R, z) Q := RB_aloadnN rfl rfl
set_option maxRecDepth 20000 in
theorem w251_329 : RB d 251 329 [l0, l1, l2, .int x] st (S, I, R, z) Q = RB d 251 330 [l0, l1, l2, .int x] (.int x :: st) (S, I, R, z) Q := RB_iloadn rfl rfl
set_option maxRecDepth 20000 in
theorem w251_330 : RB d 251 330 [l0, l1, l2, l3] st (S, I, R, z) Q = RB d 251 331 [l0, l1, l2, l3] (.int 1 :: st) (S, I, R, z) Q := RB_iconst rfl ki1
set_option maxRecDepth 20000 in
theorem w251_331 : RB d 251 331 [l0, l1, l2, l3] (.int y :: .int x :: st) (S, I, R, z) Q = RB d 251 332 [l0, l1, l2, l3] (.int (x + y) :: st) (S, I, R, z) Q := RB_iadd rfl
set_option maxRecDepth 20000 in
theorem w251_332 : RB d 251 332 [l0, l1, l2, l3] (.int i :: .ref a :: st) (S, I, R, z) Q = (((S a).1 = 9 ∧ aIx i (S a).2) ∧ RB d 251 333 [l0, l1, l2, l3] (.int (I a i.toNatClampNeg) :: st) (S, I, R, z) Q) := RB_iald rfl
set_option maxRecDepth 20000 in
theorem w251_333 : RB d 251 333 [.ref a, l1, l2, l3] st (S, I, R, z) Q = RB d 251 334 [.ref a, l1, l2, l3] (.ref a :: st) (S, I, R, z) Q := RB_aloadn rfl rfl
set_option maxRecDepth 20000 in
theorem w251_333N : RB d 251 333 [.null, l1, l2, l3] st (S, I, R, z) Q = RB d 251 334 [.null, l1, l2, l3] (.null :: st) (S, I, R, z) Q := RB_aloadnN rfl rfl
set_option maxRecDepth 20000 in
theorem w251_334 : RB d 251 334 [l0, l1, l2, .int x] st (S, I, R, z) Q = RB d 251 335 [l0, l1, l2, .int x] (.int x :: st) (S, I, R, z) Q := RB_iloadn rfl rfl
set_option maxRecDepth 20000 in
theorem w251_335 : RB d 251 335 [l0, l1, l2, l3] st (S, I, R, z) Q = RB d 251 336 [l0, l1, l2, l3] (.int 2 :: st) (S, I, R, z) Q := RB_iconst rfl ki2
set_option maxRecDepth 20000 in
theorem w251_336 : RB d 251 336 [l0, l1, l2, l3] (.int y :: .int x :: st) (S, I, R, z) Q = RB d 251 337 [l0, l1, l2, l3] (.int (x + y) :: st) (S, I, R, z) Q := RB_iadd rfl
set_option maxRecDepth 20000 in
theorem w251_337 : RB d 251 337 [l0, l1, l2, l3] (.int i :: .ref a :: st) (S, I, R, z) Q = (((S a).1 = 9 ∧ aIx i (S a).2) ∧ RB d 251 338 [l0, l1, l2, l3] (.int (I a i.toNatClampNeg) :: st) (S, I, R, z) Q) := RB_iald rfl
set_option maxRecDepth 20000 in
theorem w251_338 : RB d 251 338 [l0, l1, l2, l3] [.int x1, .int x0, .ref a] (S, I, R, z) Q = ((S a).1 = 6 ∧ RM d 80 [.ref a, .int x0, .int x1] (S, I, R, z) (fun v τ => RB d 251 341 [l0, l1, l2, l3] (aPush v []) τ Q)) := RB_callV (n := 3) (t := 0) (k := 26) (ins := .invokevirtual 26) rfl rfl rfl (by decide) (Nat.le_of_ble_eq_true rfl) (Nat.le_of_ble_eq_true rfl) rfl rfl
set_option maxRecDepth 20000 in
theorem w251_341 : RB d 251 341 [l0, l1, .ref a, l3] st (S, I, R, z) Q = RB d 251 342 [l0, l1, .ref a, l3] (.ref a :: st) (S, I, R, z) Q := RB_aloadn rfl rfl
set_option maxRecDepth 20000 in
theorem w251_341N : RB d 251 341 [l0, l1, .null, l3] st (S, I, R, z) Q = RB d 251 342 [l0, l1, .null, l3] (.null :: st) (S, I, R, z) Q := RB_aloadnN rfl rfl
set_option maxRecDepth 20000 in
theorem w251_342 : RB d 251 342 [.ref a, l1, l2, l3] st (S, I, R, z) Q = RB d 251 343 [.ref a, l1, l2, l3] (.ref a :: st) (S, I, R, z) Q := RB_aloadn rfl rfl
set_option maxRecDepth 20000 in
theorem w251_342N : RB d 251 342 [.null, l1, l2, l3] st (S, I, R, z) Q = RB d 251 343 [.null, l1, l2, l3] (.null :: st) (S, I, R, z) Q := RB_aloadnN rfl rfl
set_option maxRecDepth 20000 in
theorem w251_343 : RB d 251 343 [l0, l1, l2, .int x] st (S, I, R, z) Q = RB d 251 344 [l0, l1, l2, .int x] (.int x :: st) (S, I, R, z) Q := RB_iloadn rfl rfl
set_option maxRecDepth 20000 in
theorem w251_344 : RB d 251 344 [l0, l1, l2, l3] st (S, I, R, z) Q = RB d 251 345 [l0, l1, l2, l3] (.int 1 :: st) (S, I, R, z) Q := RB_iconst rfl ki1
set_option maxRecDepth 20000 in
theorem w251_345 : RB d 251 345 [l0, l1, l2, l3] (.int y :: .int x :: st) (S, I, R, z) Q = RB d 251 346 [l0, l1, l2, l3] (.int (x + y) :: st) (S, I, R, z) Q := RB_iadd rfl
set_option maxRecDepth 20000 in
theorem w251_346 : RB d 251 346 [l0, l1, l2, l3] (.int i :: .ref a :: st) (S, I, R, z) Q = (((S a).1 = 9 ∧ aIx i (S a).2) ∧ RB d 251 347 [l0, l1, l2, l3] (.int (I a i.toNatClampNeg) :: st) (S, I, R, z) Q) := RB_iald rfl
set_option maxRecDepth 20000 in
theorem w251_347 : RB d 251 347 [.ref a, l1, l2, l3] st (S, I, R, z) Q = RB d 251 348 [.ref a, l1, l2, l3] (.ref a :: st) (S, I, R, z) Q := RB_aloadn rfl rfl
set_option maxRecDepth 20000 in
theorem w251_347N : RB d 251 347 [.null, l1, l2, l3] st (S, I, R, z) Q = RB d 251 348 [.null, l1, l2, l3] (.null :: st) (S, I, R, z) Q := RB_aloadnN rfl rfl
set_option maxRecDepth 20000 in
theorem w251_348 : RB d 251 348 [l0, l1, l2, .int x] st (S, I, R, z) Q = RB d 251 349 [l0, l1, l2, .int x] (.int x :: st) (S, I, R, z) Q := RB_iloadn rfl rfl
set_option maxRecDepth 20000 in
theorem w251_349 : RB d 251 349 [l0, l1, l2, l3] st (S, I, R, z) Q = RB d 251 350 [l0, l1, l2, l3] (.int 2 :: st) (S, I, R, z) Q := RB_iconst rfl ki2
set_option maxRecDepth 20000 in
theorem w251_350 : RB d 251 350 [l0, l1, l2, l3] (.int y :: .int x :: st) (S, I, R, z) Q = RB d 251 351 [l0, l1, l2, l3] (.int (x + y) :: st) (S, I, R, z) Q := RB_iadd rfl
set_option maxRecDepth 20000 in
theorem w251_351 : RB d 251 351 [l0, l1, l2, l3] (.int i :: .ref a :: st) (S, I, R, z) Q = (((S a).1 = 9 ∧ aIx i (S a).2) ∧ RB d 251 352 [l0, l1, l2, l3] (.int (I a i.toNatClampNeg) :: st) (S, I, R, z) Q) := RB_iald rfl
set_option maxRecDepth 20000 in
theorem w251_352 : RB d 251 352 [l0, l1, l2, l3] [.int x1, .int x0, .ref a, s0] (S, I, R, z) Q = ((S a).1 = 7 ∧ RM d 154 [.ref a, .int x0, .int x1] (S, I, R, z) (fun v τ => RB d 251 355 [l0, l1, l2, l3] (aPush v [s0]) τ Q)) := RB_callV (n := 3) (t := 0) (k := 29) (ins := .invokevirtual 29) rfl rfl rfl (by decide) (Nat.le_of_ble_eq_true rfl) (Nat.le_of_ble_eq_true rfl) rfl rfl
set_option maxRecDepth 20000 in
theorem w251_355 : RB d 251 355 [l0, l1, l2, l3] (.int y :: .int x :: st) (S, I, R, z) Q = ((x = y → RB d 251 1523 [l0, l1, l2, l3] st (S, I, R, z) Q) ∧ (¬ x = y → RB d 251 358 [l0, l1, l2, l3] st (S, I, R, z) Q)) := RB_ieq rfl (by decide) rfl
set_option maxRecDepth 20000 in
theorem w251_358 : RB d 251 358 [l0, l1, l2, l3] st (S, I, R, z) Q = RB d 251 359 [l0, l1, l2, l3] (.int 0 :: st) (S, I, R, z) Q := RB_iconst rfl ki0
set_option maxRecDepth 20000 in
theorem w251_359 : RB d 251 359 [l0, l1, l2, l3] [.int x] (S, I, R, z) Q = (narrow .boolean (.int x) = .int x ∧ Q (some (.int x)) (S, I, R, z)) := RB_zret rfl rfl (Or.inl rfl)
set_option maxRecDepth 20000 in
theorem w251_360 : RB d 251 360 [l0, .ref a, l2, l3] st (S, I, R, z) Q = RB d 251 361 [l0, .ref a, l2, l3] (.ref a :: st) (S, I, R, z) Q := RB_aloadn rfl rfl
set_option maxRecDepth 20000 in
theorem w251_360N : RB d 251 360 [l0, .null, l2, l3] st (S, I, R, z) Q = RB d 251 361 [l0, .null, l2, l3] (.null :: st) (S, I, R, z) Q := RB_aloadnN rfl rfl
set_option maxRecDepth 20000 in
theorem w251_361 : RB d 251 361 [.ref a, l1, l2, l3] st (S, I, R, z) Q = RB d 251 362 [.ref a, l1, l2, l3] (.ref a :: st) (S, I, R, z) Q := RB_aloadn rfl rfl
set_option maxRecDepth 20000 in
theorem w251_361N : RB d 251 361 [.null, l1, l2, l3] st (S, I, R, z) Q = RB d 251 362 [.null, l1, l2, l3] (.null :: st) (S, I, R, z) Q := RB_aloadnN rfl rfl
set_option maxRecDepth 20000 in
theorem w251_362 : RB d 251 362 [l0, l1, l2, .int x] st (S, I, R, z) Q = RB d 251 363 [l0, l1, l2, .int x] (.int x :: st) (S, I, R, z) Q := RB_iloadn rfl rfl
set_option maxRecDepth 20000 in
theorem w251_363 : RB d 251 363 [l0, l1, l2, l3] st (S, I, R, z) Q = RB d 251 364 [l0, l1, l2, l3] (.int 1 :: st) (S, I, R, z) Q := RB_iconst rfl ki1
set_option maxRecDepth 20000 in
theorem w251_364 : RB d 251 364 [l0, l1, l2, l3] (.int y :: .int x :: st) (S, I, R, z) Q = RB d 251 365 [l0, l1, l2, l3] (.int (x + y) :: st) (S, I, R, z) Q := RB_iadd rfl
set_option maxRecDepth 20000 in
theorem w251_365 : RB d 251 365 [l0, l1, l2, l3] (.int i :: .ref a :: st) (S, I, R, z) Q = (((S a).1 = 9 ∧ aIx i (S a).2) ∧ RB d 251 366 [l0, l1, l2, l3] (.int (I a i.toNatClampNeg) :: st) (S, I, R, z) Q) := RB_iald rfl
set_option maxRecDepth 20000 in
theorem w251_366 : RB d 251 366 [.ref a, l1, l2, l3] st (S, I, R, z) Q = RB d 251 367 [.ref a, l1, l2, l3] (.ref a :: st) (S, I, R, z) Q := RB_aloadn rfl rfl
set_option maxRecDepth 20000 in
theorem w251_366N : RB d 251 366 [.null, l1, l2, l3] st (S, I, R, z) Q = RB d 251 367 [.null, l1, l2, l3] (.null :: st) (S, I, R, z) Q := RB_aloadnN rfl rfl
set_option maxRecDepth 20000 in
theorem w251_367 : RB d 251 367 [l0, l1, l2, .int x] st (S, I, R, z) Q = RB d 251 368 [l0, l1, l2, .int x] (.int x :: st) (S, I, R, z) Q := RB_iloadn rfl rfl
set_option maxRecDepth 20000 in
theorem w251_368 : RB d 251 368 [l0, l1, l2, l3] st (S, I, R, z) Q = RB d 251 369 [l0, l1, l2, l3] (.int 2 :: st) (S, I, R, z) Q := RB_iconst rfl ki2
set_option maxRecDepth 20000 in
theorem w251_369 : RB d 251 369 [l0, l1, l2, l3] (.int y :: .int x :: st) (S, I, R, z) Q = RB d 251 370 [l0, l1, l2, l3] (.int (x + y) :: st) (S, I, R, z) Q := RB_iadd rfl
set_option maxRecDepth 20000 in
theorem w251_370 : RB d 251 370 [l0, l1, l2, l3] (.int i :: .ref a :: st) (S, I, R, z) Q = (((S a).1 = 9 ∧ aIx i (S a).2) ∧ RB d 251 371 [l0, l1, l2, l3] (.int (I a i.toNatClampNeg) :: st) (S, I, R, z) Q) := RB_iald rfl
set_option maxRecDepth 20000 in
theorem w251_371 : RB d 251 371 [l0, l1, l2, l3] [.int x1, .int x0, .ref a] (S, I, R, z) Q = ((S a).1 = 6 ∧ RM d 81 [.ref a, .int x0, .int x1] (S, I, R, z) (fun v τ => RB d 251 374 [l0, l1, l2, l3] (aPush v []) τ Q)) := RB_callV (n := 3) (t := 0) (k := 30) (ins := .invokevirtual 30) rfl rfl rfl (by decide) (Nat.le_of_ble_eq_true rfl) (Nat.le_of_ble_eq_true rfl) rfl rfl
set_option maxRecDepth 20000 in
theorem w251_374 : RB d 251 374 [l0, l1, .ref a, l3] st (S, I, R, z) Q = RB d 251 375 [l0, l1, .ref a, l3] (.ref a :: st) (S, I, R, z) Q := RB_aloadn rfl rfl
set_option maxRecDepth 20000 in
theorem w251_374N : RB d 251 374 [l0, l1, .null, l3] st (S, I, R, z) Q = RB d 251 375 [l0, l1, .null, l3] (.null :: st) (S, I, R, z) Q := RB_aloadnN rfl rfl
set_option maxRecDepth 20000 in
theorem w251_375 : RB d 251 375 [.ref a, l1, l2, l3] st (S, I, R, z) Q = RB d 251 376 [.ref a, l1, l2, l3] (.ref a :: st) (S, I, R, z) Q := RB_aloadn rfl rfl
set_option maxRecDepth 20000 in
theorem w251_375N : RB d 251 375 [.null, l1, l2, l3] st (S, I, R, z) Q = RB d 251 376 [.null, l1, l2, l3] (.null :: st) (S, I, R, z) Q := RB_aloadnN rfl rfl
set_option maxRecDepth 20000 in
theorem w251_376 : RB d 251 376 [l0, l1, l2, .int x] st (S, I, R, z) Q = RB d 251 377 [l0, l1, l2, .int x] (.int x :: st) (S, I, R, z) Q := RB_iloadn rfl rfl
set_option maxRecDepth 20000 in
theorem w251_377 : RB d 251 377 [l0, l1, l2, l3] st (S, I, R, z) Q = RB d 251 378 [l0, l1, l2, l3] (.int 1 :: st) (S, I, R, z) Q := RB_iconst rfl ki1
set_option maxRecDepth 20000 in
theorem w251_378 : RB d 251 378 [l0, l1, l2, l3] (.int y :: .int x :: st) (S, I, R, z) Q = RB d 251 379 [l0, l1, l2, l3] (.int (x + y) :: st) (S, I, R, z) Q := RB_iadd rfl
set_option maxRecDepth 20000 in
theorem w251_379 : RB d 251 379 [l0, l1, l2, l3] (.int i :: .ref a :: st) (S, I, R, z) Q = (((S a).1 = 9 ∧ aIx i (S a).2) ∧ RB d 251 380 [l0, l1, l2, l3] (.int (I a i.toNatClampNeg) :: st) (S, I, R, z) Q) := RB_iald rfl
set_option maxRecDepth 20000 in
theorem w251_380 : RB d 251 380 [.ref a, l1, l2, l3] st (S, I, R, z) Q = RB d 251 381 [.ref a, l1, l2, l3] (.ref a :: st) (S, I, R, z) Q := RB_aloadn rfl rfl
set_option maxRecDepth 20000 in
theorem w251_380N : RB d 251 380 [.null, l1, l2, l3] st (S, I, R, z) Q = RB d 251 381 [.null, l1, l2, l3] (.null :: st) (S, I, R, z) Q := RB_aloadnN rfl rfl
set_option maxRecDepth 20000 in
theorem w251_381 : RB d 251 381 [l0, l1, l2, .int x] st (S, I, R, z) Q = RB d 251 382 [l0, l1, l2, .int x] (.int x :: st) (S, I, R, z) Q := RB_iloadn rfl rfl
set_option maxRecDepth 20000 in
theorem w251_382 : RB d 251 382 [l0, l1, l2, l3] st (S, I, R, z) Q = RB d 251 383 [l0, l1, l2, l3] (.int 2 :: st) (S, I, R, z) Q := RB_iconst rfl ki2
set_option maxRecDepth 20000 in
theorem w251_383 : RB d 251 383 [l0, l1, l2, l3] (.int y :: .int x :: st) (S, I, R, z) Q = RB d 251 384 [l0, l1, l2, l3] (.int (x + y) :: st) (S, I, R, z) Q := RB_iadd rfl
set_option maxRecDepth 20000 in
theorem w251_384 : RB d 251 384 [l0, l1, l2, l3] (.int i :: .ref a :: st) (S, I, R, z) Q = (((S a).1 = 9 ∧ aIx i (S a).2) ∧ RB d 251 385 [l0, l1, l2, l3] (.int (I a i.toNatClampNeg) :: st) (S, I, R, z) Q) := RB_iald rfl
set_option maxRecDepth 20000 in
theorem w251_385 : RB d 251 385 [l0, l1, l2, l3] [.int x1, .int x0, .ref a, s0] (S, I, R, z) Q = ((S a).1 = 7 ∧ RM d 165 [.ref a, .int x0, .int x1] (S, I, R, z) (fun v τ => RB d 251 388 [l0, l1, l2, l3] (aPush v [s0]) τ Q)) := RB_callV (n := 3) (t := 0) (k := 33) (ins := .invokevirtual 33) rfl rfl rfl (by decide) (Nat.le_of_ble_eq_true rfl) (Nat.le_of_ble_eq_true rfl) rfl rfl
set_option maxRecDepth 20000 in
theorem w251_388 : RB d 251 388 [l0, l1, l2, l3] (.int y :: .int x :: st) (S, I, R, z) Q = ((x = y → RB d 251 1523 [l0, l1, l2, l3] st (S, I, R, z) Q) ∧ (¬ x = y → RB d 251 391 [l0, l1, l2, l3] st (S, I, R, z) Q)) := RB_ieq rfl (by decide) rfl
set_option maxRecDepth 20000 in
theorem w251_391 : RB d 251 391 [l0, l1, l2, l3] st (S, I, R, z) Q = RB d 251 392 [l0, l1, l2, l3] (.int 0 :: st) (S, I, R, z) Q := RB_iconst rfl ki0
set_option maxRecDepth 20000 in
theorem w251_392 : RB d 251 392 [l0, l1, l2, l3] [.int x] (S, I, R, z) Q = (narrow .boolean (.int x) = .int x ∧ Q (some (.int x)) (S, I, R, z)) := RB_zret rfl rfl (Or.inl rfl)
set_option maxRecDepth 20000 in
theorem w251_393 : RB d 251 393 [l0, .ref a, l2, l3] st (S, I, R, z) Q = RB d 251 394 [l0, .ref a, l2, l3] (.ref a :: st) (S, I, R, z) Q := RB_aloadn rfl rfl
set_option maxRecDepth 20000 in
theorem w251_393N : RB d 251 393 [l0, .null, l2, l3] st (S, I, R, z) Q = RB d 251 394 [l0, .null, l2, l3] (.null :: st) (S, I, R, z) Q := RB_aloadnN rfl rfl
set_option maxRecDepth 20000 in
theorem w251_394 : RB d 251 394 [.ref a, l1, l2, l3] st (S, I, R, z) Q = RB d 251 395 [.ref a, l1, l2, l3] (.ref a :: st) (S, I, R, z) Q := RB_aloadn rfl rfl
set_option maxRecDepth 20000 in
theorem w251_394N : RB d 251 394 [.null, l1, l2, l3] st (S, I, R, z) Q = RB d 251 395 [.null, l1, l2, l3] (.null :: st) (S, I, R, z) Q := RB_aloadnN rfl rfl
set_option maxRecDepth 20000 in
theorem w251_395 : RB d 251 395 [l0, l1, l2, .int x] st (S, I, R, z) Q = RB d 251 396 [l0, l1, l2, .int x] (.int x :: st) (S, I, R, z) Q := RB_iloadn rfl rfl
set_option maxRecDepth 20000 in
theorem w251_396 : RB d 251 396 [l0, l1, l2, l3] st (S, I, R, z) Q = RB d 251 397 [l0, l1, l2, l3] (.int 1 :: st) (S, I, R, z) Q := RB_iconst rfl ki1
set_option maxRecDepth 20000 in
theorem w251_397 : RB d 251 397 [l0, l1, l2, l3] (.int y :: .int x :: st) (S, I, R, z) Q = RB d 251 398 [l0, l1, l2, l3] (.int (x + y) :: st) (S, I, R, z) Q := RB_iadd rfl
set_option maxRecDepth 20000 in
theorem w251_398 : RB d 251 398 [l0, l1, l2, l3] (.int i :: .ref a :: st) (S, I, R, z) Q = (((S a).1 = 9 ∧ aIx i (S a).2) ∧ RB d 251 399 [l0, l1, l2, l3] (.int (I a i.toNatClampNeg) :: st) (S, I, R, z) Q) := RB_iald rfl
set_option maxRecDepth 20000 in
theorem w251_399 : RB d 251 399 [.ref a, l1, l2, l3] st (S, I, R, z) Q = RB d 251 400 [.ref a, l1, l2, l3] (.ref a :: st) (S, I, R, z) Q := RB_aloadn rfl rfl
set_option maxRecDepth 20000 in
theorem w251_399N : RB d 251 399 [.null, l1, l2, l3] st (S, I, R, z) Q = RB d 251 400 [.null, l1, l2, l3] (.null :: st) (S, I, R, z) Q := RB_aloadnN rfl rfl
set_option maxRecDepth 20000 in
theorem w251_400 : RB d 251 400 [l0, l1, l2, .int x] st (S, I, R, z) Q = RB d 251 401 [l0, l1, l2, .int x] (.int x :: st) (S, I, R, z) Q := RB_iloadn rfl rfl
set_option maxRecDepth 20000 in
theorem w251_401 : RB d 251 401 [l0, l1, l2, l3] st (S, I, R, z) Q = RB d 251 402 [l0, l1, l2, l3] (.int 2 :: st) (S, I, R, z) Q := RB_iconst rfl ki2
set_option maxRecDepth 20000 in
theorem w251_402 : RB d 251 402 [l0, l1, l2, l3] (.int y :: .int x :: st) (S, I, R, z) Q = RB d 251 403 [l0, l1, l2, l3] (.int (x + y) :: st) (S, I, R, z) Q := RB_iadd rfl
set_option maxRecDepth 20000 in
theorem w251_403 : RB d 251 403 [l0, l1, l2, l3] (.int i :: .ref a :: st) (S, I, R, z) Q = (((S a).1 = 9 ∧ aIx i (S a).2) ∧ RB d 251 404 [l0, l1, l2, l3] (.int (I a i.toNatClampNeg) :: st) (S, I, R, z) Q) := RB_iald rfl
set_option maxRecDepth 20000 in
theorem w251_404 : RB d 251 404 [l0, l1, l2, l3] [.int x1, .int x0, .ref a] (S, I, R, z) Q = ((S a).1 = 6 ∧ RM d 82 [.ref a, .int x0, .int x1] (S, I, R, z) (fun v τ => RB d 251 407 [l0, l1, l2, l3] (aPush v []) τ Q)) := RB_callV (n := 3) (t := 0) (k := 34) (ins := .invokevirtual 34) rfl rfl rfl (by decide) (Nat.le_of_ble_eq_true rfl) (Nat.le_of_ble_eq_true rfl) rfl rfl
set_option maxRecDepth 20000 in
theorem w251_407 : RB d 251 407 [l0, l1, .ref a, l3] st (S, I, R, z) Q = RB d 251 408 [l0, l1, .ref a, l3] (.ref a :: st) (S, I, R, z) Q := RB_aloadn rfl rfl
set_option maxRecDepth 20000 in
theorem w251_407N : RB d 251 407 [l0, l1, .null, l3] st (S, I, R, z) Q = RB d 251 408 [l0, l1, .null, l3] (.null :: st) (S, I, R, z) Q := RB_aloadnN rfl rfl
set_option maxRecDepth 20000 in
theorem w251_408 : RB d 251 408 [.ref a, l1, l2, l3] st (S, I, R, z) Q = RB d 251 409 [.ref a, l1, l2, l3] (.ref a :: st) (S, I, R, z) Q := RB_aloadn rfl rfl
set_option maxRecDepth 20000 in
theorem w251_408N : RB d 251 408 [.null, l1, l2, l3] st (S, I, R, z) Q = RB d 251 409 [.null, l1, l2, l3] (.null :: st) (S, I, R, z) Q := RB_aloadnN rfl rfl
set_option maxRecDepth 20000 in
theorem w251_409 : RB d 251 409 [l0, l1, l2, .int x] st (S, I, R, z) Q = RB d 251 410 [l0, l1, l2, .int x] (.int x :: st) (S, I, R, z) Q := RB_iloadn rfl rfl
set_option maxRecDepth 20000 in
theorem w251_410 : RB d 251 410 [l0, l1, l2, l3] st (S, I, R, z) Q = RB d 251 411 [l0, l1, l2, l3] (.int 1 :: st) (S, I, R, z) Q := RB_iconst rfl ki1
set_option maxRecDepth 20000 in
theorem w251_411 : RB d 251 411 [l0, l1, l2, l3] (.int y :: .int x :: st) (S, I, R, z) Q = RB d 251 412 [l0, l1, l2, l3] (.int (x + y) :: st) (S, I, R, z) Q := RB_iadd rfl
set_option maxRecDepth 20000 in
theorem w251_412 : RB d 251 412 [l0, l1, l2, l3] (.int i :: .ref a :: st) (S, I, R, z) Q = (((S a).1 = 9 ∧ aIx i (S a).2) ∧ RB d 251 413 [l0, l1, l2, l3] (.int (I a i.toNatClampNeg) :: st) (S, I, R, z) Q) := RB_iald rfl
set_option maxRecDepth 20000 in
theorem w251_413 : RB d 251 413 [.ref a, l1, l2, l3] st (S, I, R, z) Q = RB d 251 414 [.ref a, l1, l2, l3] (.ref a :: st) (S, I, R, z) Q := RB_aloadn rfl rfl
set_option maxRecDepth 20000 in
theorem w251_413N : RB d 251 413 [.null, l1, l2, l3] st (S, I, R, z) Q = RB d 251 414 [.null, l1, l2, l3] (.null :: st) (S, I, R, z) Q := RB_aloadnN rfl rfl
set_option maxRecDepth 20000 in
theorem w251_414 : RB d 251 414 [l0, l1, l2, .int x] st (S, I, R, z) Q = RB d 251 415 [l0, l1, l2, .int x] (.int x :: st) (S, I, R, z) Q := RB_iloadn rfl rfl
set_option maxRecDepth 20000 in
theorem w251_415 : RB d 251 415 [l0, l1, l2, l3] st (S, I, R, z) Q = RB d 251 416 [l0, l1, l2, l3] (.int 2 :: st) (S, I, R, z) Q := RB_iconst rfl ki2
set_option maxRecDepth 20000 in
theorem w251_416 : RB d 251 416 [l0, l1, l2, l3] (.int y :: .int x :: st) (S, I, R, z) Q = RB d 251 417 [l0, l1, l2, l3] (.int (x + y) :: st) (S, I, R, z) Q := RB_iadd rfl
set_option maxRecDepth 20000 in
theorem w251_417 : RB d 251 417 [l0, l1, l2, l3] (.int i :: .ref a :: st) (S, I, R, z) Q = (((S a).1 = 9 ∧ aIx i (S a).2) ∧ RB d 251 418 [l0, l1, l2, l3] (.int (I a i.toNatClampNeg) :: st) (S, I, R, z) Q) := RB_iald rfl
set_option maxRecDepth 20000 in
theorem w251_418 : RB d 251 418 [l0, l1, l2, l3] [.int x1, .int x0, .ref a, s0] (S, I, R, z) Q = ((S a).1 = 7 ∧ RM d 166 [.ref a, .int x0, .int x1] (S, I, R, z) (fun v τ => RB d 251 421 [l0, l1, l2, l3] (aPush v [s0]) τ Q)) := RB_callV (n := 3) (t := 0) (k := 37) (ins := .invokevirtual 37) rfl rfl rfl (by decide) (Nat.le_of_ble_eq_true rfl) (Nat.le_of_ble_eq_true rfl) rfl rfl
set_option maxRecDepth 20000 in
theorem w251_421 : RB d 251 421 [l0, l1, l2, l3] (.int y :: .int x :: st) (S, I, R, z) Q = ((x = y → RB d 251 1523 [l0, l1, l2, l3] st (S, I, R, z) Q) ∧ (¬ x = y → RB d 251 424 [l0, l1, l2, l3] st (S, I, R, z) Q)) := RB_ieq rfl (by decide) rfl
set_option maxRecDepth 20000 in
theorem w251_424 : RB d 251 424 [l0, l1, l2, l3] st (S, I, R, z) Q = RB d 251 425 [l0, l1, l2, l3] (.int 0 :: st) (S, I, R, z) Q := RB_iconst rfl ki0
set_option maxRecDepth 20000 in
theorem w251_425 : RB d 251 425 [l0, l1, l2, l3] [.int x] (S, I, R, z) Q = (narrow .boolean (.int x) = .int x ∧ Q (some (.int x)) (S, I, R, z)) := RB_zret rfl rfl (Or.inl rfl)
set_option maxRecDepth 20000 in
theorem w251_426 : RB d 251 426 [l0, .ref a, l2, l3] st (S, I, R, z) Q = RB d 251 427 [l0, .ref a, l2, l3] (.ref a :: st) (S, I, R, z) Q := RB_aloadn rfl rfl
set_option maxRecDepth 20000 in
theorem w251_426N : RB d 251 426 [l0, .null, l2, l3] st (S, I, R, z) Q = RB d 251 427 [l0, .null, l2, l3] (.null :: st) (S, I, R, z) Q := RB_aloadnN rfl rfl
set_option maxRecDepth 20000 in
theorem w251_427 : RB d 251 427 [.ref a, l1, l2, l3] st (S, I, R, z) Q = RB d 251 428 [.ref a, l1, l2, l3] (.ref a :: st) (S, I, R, z) Q := RB_aloadn rfl rfl
set_option maxRecDepth 20000 in
theorem w251_427N : RB d 251 427 [.null, l1, l2, l3] st (S, I, R, z) Q = RB d 251 428 [.null, l1, l2, l3] (.null :: st) (S, I, R, z) Q := RB_aloadnN rfl rfl
set_option maxRecDepth 20000 in
theorem w251_428 : RB d 251 428 [l0, l1, l2, .int x] st (S, I, R, z) Q = RB d 251 429 [l0, l1, l2, .int x] (.int x :: st) (S, I, R, z) Q := RB_iloadn rfl rfl
set_option maxRecDepth 20000 in
theorem w251_429 : RB d 251 429 [l0, l1, l2, l3] st (S, I, R, z) Q = RB d 251 430 [l0, l1, l2, l3] (.int 1 :: st) (S, I, R, z) Q := RB_iconst rfl ki1
set_option maxRecDepth 20000 in
theorem w251_430 : RB d 251 430 [l0, l1, l2, l3] (.int y :: .int x :: st) (S, I, R, z) Q = RB d 251 431 [l0, l1, l2, l3] (.int (x + y) :: st) (S, I, R, z) Q := RB_iadd rfl
set_option maxRecDepth 20000 in
theorem w251_431 : RB d 251 431 [l0, l1, l2, l3] (.int i :: .ref a :: st) (S, I, R, z) Q = (((S a).1 = 9 ∧ aIx i (S a).2) ∧ RB d 251 432 [l0, l1, l2, l3] (.int (I a i.toNatClampNeg) :: st) (S, I, R, z) Q) := RB_iald rfl
set_option maxRecDepth 20000 in
theorem w251_432 : RB d 251 432 [.ref a, l1, l2, l3] st (S, I, R, z) Q = RB d 251 433 [.ref a, l1, l2, l3] (.ref a :: st) (S, I, R, z) Q := RB_aloadn rfl rfl
set_option maxRecDepth 20000 in
theorem w251_432N : RB d 251 432 [.null, l1, l2, l3] st (S, I, R, z) Q = RB d 251 433 [.null, l1, l2, l3] (.null :: st) (S, I, R, z) Q := RB_aloadnN rfl rfl
set_option maxRecDepth 20000 in
theorem w251_433 : RB d 251 433 [l0, l1, l2, .int x] st (S, I, R, z) Q = RB d 251 434 [l0, l1, l2, .int x] (.int x :: st) (S, I, R, z) Q := RB_iloadn rfl rfl
set_option maxRecDepth 20000 in
theorem w251_434 : RB d 251 434 [l0, l1, l2, l3] st (S, I, R, z) Q = RB d 251 435 [l0, l1, l2, l3] (.int 2 :: st) (S, I, R, z) Q := RB_iconst rfl ki2
set_option maxRecDepth 20000 in
theorem w251_435 : RB d 251 435 [l0, l1, l2, l3] (.int y :: .int x :: st) (S, I, R, z) Q = RB d 251 436 [l0, l1, l2, l3] (.int (x + y) :: st) (S, I, R, z) Q := RB_iadd rfl
set_option maxRecDepth 20000 in
theorem w251_436 : RB d 251 436 [l0, l1, l2, l3] (.int i :: .ref a :: st) (S, I, R, z) Q = (((S a).1 = 9 ∧ aIx i (S a).2) ∧ RB d 251 437 [l0, l1, l2, l3] (.int (I a i.toNatClampNeg) :: st) (S, I, R, z) Q) := RB_iald rfl
set_option maxRecDepth 20000 in
theorem w251_437 : RB d 251 437 [l0, l1, l2, l3] [.int x1, .int x0, .ref a] (S, I, R, z) Q = ((S a).1 = 6 ∧ RM d 83 [.ref a, .int x0, .int x1] (S, I, R, z) (fun v τ => RB d 251 440 [l0, l1, l2, l3] (aPush v []) τ Q)) := RB_callV (n := 3) (t := 0) (k := 38) (ins := .invokevirtual 38) rfl rfl rfl (by decide) (Nat.le_of_ble_eq_true rfl) (Nat.le_of_ble_eq_true rfl) rfl rfl
set_option maxRecDepth 20000 in
theorem w251_440 : RB d 251 440 [l0, l1, .ref a, l3] st (S, I, R, z) Q = RB d 251 441 [l0, l1, .ref a, l3] (.ref a :: st) (S, I, R, z) Q := RB_aloadn rfl rfl
set_option maxRecDepth 20000 in
theorem w251_440N : RB d 251 440 [l0, l1, .null, l3] st (S, I, R, z) Q = RB d 251 441 [l0, l1, .null, l3] (.null :: st) (S, I, R, z) Q := RB_aloadnN rfl rfl
set_option maxRecDepth 20000 in
theorem w251_441 : RB d 251 441 [.ref a, l1, l2, l3] st (S, I, R, z) Q = RB d 251 442 [.ref a, l1, l2, l3] (.ref a :: st) (S, I, R, z) Q := RB_aloadn rfl rfl
set_option maxRecDepth 20000 in
theorem w251_441N : RB d 251 441 [.null, l1, l2, l3] st (S, I, R, z) Q = RB d 251 442 [.null, l1, l2, l3] (.null :: st) (S, I, R, z) Q := RB_aloadnN rfl rfl
set_option maxRecDepth 20000 in
theorem w251_442 : RB d 251 442 [l0, l1, l2, .int x] st (S, I, R, z) Q = RB d 251 443 [l0, l1, l2, .int x] (.int x :: st) (S, I, R, z) Q := RB_iloadn rfl rfl
set_option maxRecDepth 20000 in
theorem w251_443 : RB d 251 443 [l0, l1, l2, l3] st (S, I, R, z) Q = RB d 251 444 [l0, l1, l2, l3] (.int 1 :: st) (S, I, R, z) Q := RB_iconst rfl ki1
set_option maxRecDepth 20000 in
theorem w251_444 : RB d 251 444 [l0, l1, l2, l3] (.int y :: .int x :: st) (S, I, R, z) Q = RB d 251 445 [l0, l1, l2, l3] (.int (x + y) :: st) (S, I, R, z) Q := RB_iadd rfl
set_option maxRecDepth 20000 in
theorem w251_445 : RB d 251 445 [l0, l1, l2, l3] (.int i :: .ref a :: st) (S, I, R, z) Q = (((S a).1 = 9 ∧ aIx i (S a).2) ∧ RB d 251 446 [l0, l1, l2, l3] (.int (I a i.toNatClampNeg) :: st) (S, I, R, z) Q) := RB_iald rfl
set_option maxRecDepth 20000 in
theorem w251_446 : RB d 251 446 [.ref a, l1, l2, l3] st (S, I, R, z) Q = RB d 251 447 [.ref a, l1, l2, l3] (.ref a :: st) (S, I, R, z) Q := RB_aloadn rfl rfl
set_option maxRecDepth 20000 in
theorem w251_446N : RB d 251 446 [.null, l1, l2, l3] st (S, I, R, z) Q = RB d 251 447 [.null, l1, l2, l3] (.null :: st) (S, I, R, z) Q := RB_aloadnN rfl rfl
set_option maxRecDepth 20000 in
theorem w251_447 : RB d 251 447 [l0, l1, l2, .int x] st (S, I, R, z) Q = RB d 251 448 [l0, l1, l2, .int x] (.int x :: st) (S, I, R, z) Q := RB_iloadn rfl rfl
set_option maxRecDepth 20000 in
theorem w251_448 : RB d 251 448 [l0, l1, l2, l3] st (S, I, R, z) Q = RB d 251 449 [l0, l1, l2, l3] (.int 2 :: st) (S, I, R, z) Q := RB_iconst rfl ki2
set_option maxRecDepth 20000 in
theorem w251_449 : RB d 251 449 [l0, l1, l2, l3] (.int y :: .int x :: st) (S, I, R, z) Q = RB d 251 450 [l0, l1, l2, l3] (.int (x + y) :: st) (S, I, R, z) Q := RB_iadd rfl
set_option maxRecDepth 20000 in
theorem w251_450 : RB d 251 450 [l0, l1, l2, l3] (.int i :: .ref a :: st) (S, I, R, z) Q = (((S a).1 = 9 ∧ aIx i (S a).2) ∧ RB d 251 451 [l0, l1, l2, l3] (.int (I a i.toNatClampNeg) :: st) (S, I, R, z) Q) := RB_iald rfl
set_option maxRecDepth 20000 in
theorem w251_451 : RB d 251 451 [l0, l1, l2, l3] [.int x1, .int x0, .ref a, s0] (S, I, R, z) Q = ((S a).1 = 7 ∧ RM d 168 [.ref a, .int x0, .int x1] (S, I, R, z) (fun v τ => RB d 251 454 [l0, l1, l2, l3] (aPush v [s0]) τ Q)) := RB_callV (n := 3) (t := 0) (k := 41) (ins := .invokevirtual 41) rfl rfl rfl (by decide) (Nat.le_of_ble_eq_true rfl) (Nat.le_of_ble_eq_true rfl) rfl rfl
set_option maxRecDepth 20000 in
theorem w251_454 : RB d 251 454 [l0, l1, l2, l3] (.int y :: .int x :: st) (S, I, R, z) Q = ((x = y → RB d 251 1523 [l0, l1, l2, l3] st (S, I, R, z) Q) ∧ (¬ x = y → RB d 251 457 [l0, l1, l2, l3] st (S, I, R, z) Q)) := RB_ieq rfl (by decide) rfl
set_option maxRecDepth 20000 in
theorem w251_457 : RB d 251 457 [l0, l1, l2, l3] st (S, I, R, z) Q = RB d 251 458 [l0, l1, l2, l3] (.int 0 :: st) (S, I, R, z) Q := RB_iconst rfl ki0
set_option maxRecDepth 20000 in
theorem w251_458 : RB d 251 458 [l0, l1, l2, l3] [.int x] (S, I, R, z) Q = (narrow .boolean (.int x) = .int x ∧ Q (some (.int x)) (S, I, R, z)) := RB_zret rfl rfl (Or.inl rfl)
set_option maxRecDepth 20000 in
theorem w251_459 : RB d 251 459 [l0, .ref a, l2, l3] st (S, I, R, z) Q = RB d 251 460 [l0, .ref a, l2, l3] (.ref a :: st) (S, I, R, z) Q := RB_aloadn rfl rfl
set_option maxRecDepth 20000 in
theorem w251_459N : RB d 251 459 [l0, .null, l2, l3] st (S, I, R, z) Q = RB d 251 460 [l0, .null, l2, l3] (.null :: st) (S, I, R, z) Q := RB_aloadnN rfl rfl
set_option maxRecDepth 20000 in
theorem w251_460 : RB d 251 460 [.ref a, l1, l2, l3] st (S, I, R, z) Q = RB d 251 461 [.ref a, l1, l2, l3] (.ref a :: st) (S, I, R, z) Q := RB_aloadn rfl rfl
set_option maxRecDepth 20000 in
theorem w251_460N : RB d 251 460 [.null, l1, l2, l3] st (S, I, R, z) Q = RB d 251 461 [.null, l1, l2, l3] (.null :: st) (S, I, R, z) Q := RB_aloadnN rfl rfl
set_option maxRecDepth 20000 in
theorem w251_461 : RB d 251 461 [l0, l1, l2, .int x] st (S, I, R, z) Q = RB d 251 462 [l0, l1, l2, .int x] (.int x :: st) (S, I, R, z) Q := RB_iloadn rfl rfl
set_option maxRecDepth 20000 in
theorem w251_462 : RB d 251 462 [l0, l1, l2, l3] st (S, I, R, z) Q = RB d 251 463 [l0, l1, l2, l3] (.int 1 :: st) (S, I, R, z) Q := RB_iconst rfl ki1
set_option maxRecDepth 20000 in
theorem w251_463 : RB d 251 463 [l0, l1, l2, l3] (.int y :: .int x :: st) (S, I, R, z) Q = RB d 251 464 [l0, l1, l2, l3] (.int (x + y) :: st) (S, I, R, z) Q := RB_iadd rfl
set_option maxRecDepth 20000 in
theorem w251_464 : RB d 251 464 [l0, l1, l2, l3] (.int i :: .ref a :: st) (S, I, R, z) Q = (((S a).1 = 9 ∧ aIx i (S a).2) ∧ RB d 251 465 [l0, l1, l2, l3] (.int (I a i.toNatClampNeg) :: st) (S, I, R, z) Q) := RB_iald rfl
set_option maxRecDepth 20000 in
theorem w251_465 : RB d 251 465 [.ref a, l1, l2, l3] st (S, I, R, z) Q = RB d 251 466 [.ref a, l1, l2, l3] (.ref a :: st) (S, I, R, z) Q := RB_aloadn rfl rfl
set_option maxRecDepth 20000 in
theorem w251_465N : RB d 251 465 [.null, l1, l2, l3] st (S, I, R, z) Q = RB d 251 466 [.null, l1, l2, l3] (.null :: st) (S, I, R, z) Q := RB_aloadnN rfl rfl
set_option maxRecDepth 20000 in
theorem w251_466 : RB d 251 466 [l0, l1, l2, .int x] st (S, I, R, z) Q = RB d 251 467 [l0, l1, l2, .int x] (.int x :: st) (S, I, R, z) Q := RB_iloadn rfl rfl
set_option maxRecDepth 20000 in
theorem w251_467 : RB d 251 467 [l0, l1, l2, l3] st (S, I, R, z) Q = RB d 251 468 [l0, l1, l2, l3] (.int 2 :: st) (S, I, R, z) Q := RB_iconst rfl ki2
set_option maxRecDepth 20000 in
theorem w251_468 : RB d 251 468 [l0, l1, l2, l3] (.int y :: .int x :: st) (S, I, R, z) Q = RB d 251 469 [l0, l1, l2, l3] (.int (x + y) :: st) (S, I, R, z) Q := RB_iadd rfl
set_option maxRecDepth 20000 in
theorem w251_469 : RB d 251 469 [l0, l1, l2, l3] (.int i :: .ref a :: st) (S, I, R, z) Q = (((S a).1 = 9 ∧ aIx i (S a).2) ∧ RB d 251 470 [l0, l1, l2, l3] (.int (I a i.toNatClampNeg) :: st) (S, I, R, z) Q) := RB_iald rfl
set_option maxRecDepth 20000 in
theorem w251_470 : RB d 251 470 [l0, l1, l2, l3] [.int x1, .int x0, .ref a] (S, I, R, z) Q = ((S a).1 = 6 ∧ RM d 84 [.ref a, .int x0, .int x1] (S, I, R, z) (fun v τ => RB d 251 473 [l0, l1, l2, l3] (aPush v []) τ Q)) := RB_callV (n := 3) (t := 0) (k := 42) (ins := .invokevirtual 42) rfl rfl rfl (by decide) (Nat.le_of_ble_eq_true rfl) (Nat.le_of_ble_eq_true rfl) rfl rfl
set_option maxRecDepth 20000 in
theorem w251_473 : RB d 251 473 [l0, l1, .ref a, l3] st (S, I, R, z) Q = RB d 251 474 [l0, l1, .ref a, l3] (.ref a :: st) (S, I, R, z) Q := RB_aloadn rfl rfl
set_option maxRecDepth 20000 in
theorem w251_473N : RB d 251 473 [l0, l1, .null, l3] st (S, I, R, z) Q = RB d 251 474 [l0, l1, .null, l3] (.null :: st) (S, I, R, z) Q := RB_aloadnN rfl rfl
set_option maxRecDepth 20000 in
theorem w251_474 : RB d 251 474 [.ref a, l1, l2, l3] st (S, I, R, z) Q = RB d 251 475 [.ref a, l1, l2, l3] (.ref a :: st) (S, I, R, z) Q := RB_aloadn rfl rfl
set_option maxRecDepth 20000 in
theorem w251_474N : RB d 251 474 [.null, l1, l2, l3] st (S, I, R, z) Q = RB d 251 475 [.null, l1, l2, l3] (.null :: st) (S, I, R, z) Q := RB_aloadnN rfl rfl
set_option maxRecDepth 20000 in
theorem w251_475 : RB d 251 475 [l0, l1, l2, .int x] st (S, I, R, z) Q = RB d 251 476 [l0, l1, l2, .int x] (.int x :: st) (S, I, R, z) Q := RB_iloadn rfl rfl
set_option maxRecDepth 20000 in
theorem w251_476 : RB d 251 476 [l0, l1, l2, l3] st (S, I, R, z) Q = RB d 251 477 [l0, l1, l2, l3] (.int 1 :: st) (S, I, R, z) Q := RB_iconst rfl ki1
set_option maxRecDepth 20000 in
theorem w251_477 : RB d 251 477 [l0, l1, l2, l3] (.int y :: .int x :: st) (S, I, R, z) Q = RB d 251 478 [l0, l1, l2, l3] (.int (x + y) :: st) (S, I, R, z) Q := RB_iadd rfl
set_option maxRecDepth 20000 in
theorem w251_478 : RB d 251 478 [l0, l1, l2, l3] (.int i :: .ref a :: st) (S, I, R, z) Q = (((S a).1 = 9 ∧ aIx i (S a).2) ∧ RB d 251 479 [l0, l1, l2, l3] (.int (I a i.toNatClampNeg) :: st) (S, I, R, z) Q) := RB_iald rfl
set_option maxRecDepth 20000 in
theorem w251_479 : RB d 251 479 [.ref a, l1, l2, l3] st (S, I, R, z) Q = RB d 251 480 [.ref a, l1, l2, l3] (.ref a :: st) (S, I, R, z) Q := RB_aloadn rfl rfl
set_option maxRecDepth 20000 in
theorem w251_479N : RB d 251 479 [.null, l1, l2, l3] st (S, I, R, z) Q = RB d 251 480 [.null, l1, l2, l3] (.null :: st) (S, I, R, z) Q := RB_aloadnN rfl rfl
set_option maxRecDepth 20000 in
theorem w251_480 : RB d 251 480 [l0, l1, l2, .int x] st (S, I, R, z) Q = RB d 251 481 [l0, l1, l2, .int x] (.int x :: st) (S, I, R, z) Q := RB_iloadn rfl rfl
set_option maxRecDepth 20000 in
theorem w251_481 : RB d 251 481 [l0, l1, l2, l3] st (S, I, R, z) Q = RB d 251 482 [l0, l1, l2, l3] (.int 2 :: st) (S, I, R, z) Q := RB_iconst rfl ki2
set_option maxRecDepth 20000 in
theorem w251_482 : RB d 251 482 [l0, l1, l2, l3] (.int y :: .int x :: st) (S, I, R, z) Q = RB d 251 483 [l0, l1, l2, l3] (.int (x + y) :: st) (S, I, R, z) Q := RB_iadd rfl
set_option maxRecDepth 20000 in
theorem w251_483 : RB d 251 483 [l0, l1, l2, l3] (.int i :: .ref a :: st) (S, I, R, z) Q = (((S a).1 = 9 ∧ aIx i (S a).2) ∧ RB d 251 484 [l0, l1, l2, l3] (.int (I a i.toNatClampNeg) :: st) (S, I, R, z) Q) := RB_iald rfl
set_option maxRecDepth 20000 in
theorem w251_484 : RB d 251 484 [l0, l1, l2, l3] [.int x1, .int x0, .ref a, s0] (S, I, R, z) Q = ((S a).1 = 7 ∧ RM d 169 [.ref a, .int x0, .int x1] (S, I, R, z) (fun v τ => RB d 251 487 [l0, l1, l2, l3] (aPush v [s0]) τ Q)) := RB_callV (n := 3) (t := 0) (k := 45) (ins := .invokevirtual 45) rfl rfl rfl (by decide) (Nat.le_of_ble_eq_true rfl) (Nat.le_of_ble_eq_true rfl) rfl rfl
set_option maxRecDepth 20000 in
theorem w251_487 : RB d 251 487 [l0, l1, l2, l3] (.int y :: .int x :: st) (S, I, R, z) Q = ((x = y → RB d 251 1523 [l0, l1, l2, l3] st (S, I, R, z) Q) ∧ (¬ x = y → RB d 251 490 [l0, l1, l2, l3] st (S, I, R, z) Q)) := RB_ieq rfl (by decide) rfl
set_option maxRecDepth 20000 in
theorem w251_490 : RB d 251 490 [l0, l1, l2, l3] st (S, I, R, z) Q = RB d 251 491 [l0, l1, l2, l3] (.int 0 :: st) (S, I, R, z) Q := RB_iconst rfl ki0
set_option maxRecDepth 20000 in
theorem w251_491 : RB d 251 491 [l0, l1, l2, l3] [.int x] (S, I, R, z) Q = (narrow .boolean (.int x) = .int x ∧ Q (some (.int x)) (S, I, R, z)) := RB_zret rfl rfl (Or.inl rfl)
set_option maxRecDepth 20000 in
theorem w251_492 : RB d 251 492 [l0, .ref a, l2, l3] st (S, I, R, z) Q = RB d 251 493 [l0, .ref a, l2, l3] (.ref a :: st) (S, I, R, z) Q := RB_aloadn rfl rfl
set_option maxRecDepth 20000 in
theorem w251_492N : RB d 251 492 [l0, .null, l2, l3] st (S, I, R, z) Q = RB d 251 493 [l0, .null, l2, l3] (.null :: st) (S, I, R, z) Q := RB_aloadnN rfl rfl
set_option maxRecDepth 20000 in
theorem w251_493 : RB d 251 493 [.ref a, l1, l2, l3] st (S, I, R, z) Q = RB d 251 494 [.ref a, l1, l2, l3] (.ref a :: st) (S, I, R, z) Q := RB_aloadn rfl rfl
set_option maxRecDepth 20000 in
theorem w251_493N : RB d 251 493 [.null, l1, l2, l3] st (S, I, R, z) Q = RB d 251 494 [.null, l1, l2, l3] (.null :: st) (S, I, R, z) Q := RB_aloadnN rfl rfl
set_option maxRecDepth 20000 in
theorem w251_494 : RB d 251 494 [l0, l1, l2, .int x] st (S, I, R, z) Q = RB d 251 495 [l0, l1, l2, .int x] (.int x :: st) (S, I, R, z) Q := RB_iloadn rfl rfl
set_option maxRecDepth 20000 in
theorem w251_495 : RB d 251 495 [l0, l1, l2, l3] st (S, I, R, z) Q = RB d 251 496 [l0, l1, l2, l3] (.int 1 :: st) (S, I, R, z) Q := RB_iconst rfl ki1
set_option maxRecDepth 20000 in
theorem w251_496 : RB d 251 496 [l0, l1, l2, l3] (.int y :: .int x :: st) (S, I, R, z) Q = RB d 251 497 [l0, l1, l2, l3] (.int (x + y) :: st) (S, I, R, z) Q := RB_iadd rfl
set_option maxRecDepth 20000 in
theorem w251_497 : RB d 251 497 [l0, l1, l2, l3] (.int i :: .ref a :: st) (S, I, R, z) Q = (((S a).1 = 9 ∧ aIx i (S a).2) ∧ RB d 251 498 [l0, l1, l2, l3] (.int (I a i.toNatClampNeg) :: st) (S, I, R, z) Q) := RB_iald rfl
set_option maxRecDepth 20000 in
theorem w251_498 : RB d 251 498 [.ref a, l1, l2, l3] st (S, I, R, z) Q = RB d 251 499 [.ref a, l1, l2, l3] (.ref a :: st) (S, I, R, z) Q := RB_aloadn rfl rfl
set_option maxRecDepth 20000 in
theorem w251_498N : RB d 251 498 [.null, l1, l2, l3] st (S, I, R, z) Q = RB d 251 499 [.null, l1, l2, l3] (.null :: st) (S, I, R, z) Q := RB_aloadnN rfl rfl
set_option maxRecDepth 20000 in
theorem w251_499 : RB d 251 499 [l0, l1, l2, .int x] st (S, I, R, z) Q = RB d 251 500 [l0, l1, l2, .int x] (.int x :: st) (S, I, R, z) Q := RB_iloadn rfl rfl
set_option maxRecDepth 20000 in
theorem w251_500 : RB d 251 500 [l0, l1, l2, l3] st (S, I, R, z) Q = RB d 251 501 [l0, l1, l2, l3] (.int 2 :: st) (S, I, R, z) Q := RB_iconst rfl ki2
set_option maxRecDepth 20000 in
theorem w251_501 : RB d 251 501 [l0, l1, l2, l3] (.int y :: .int x :: st) (S, I, R, z) Q = RB d 251 502 [l0, l1, l2, l3] (.int (x + y) :: st) (S, I, R, z) Q := RB_iadd rfl
set_option maxRecDepth 20000 in
theorem w251_502 : RB d 251 502 [l0, l1, l2, l3] (.int i :: .ref a :: st) (S, I, R, z) Q = (((S a).1 = 9 ∧ aIx i (S a).2) ∧ RB d 251 503 [l0, l1, l2, l3] (.int (I a i.toNatClampNeg) :: st) (S, I, R, z) Q) := RB_iald rfl
set_option maxRecDepth 20000 in
theorem w251_503 : RB d 251 503 [l0, l1, l2, l3] [.int x1, .int x0, .ref a] (S, I, R, z) Q = ((S a).1 = 6 ∧ RM d 85 [.ref a, .int x0, .int x1] (S, I, R, z) (fun v τ => RB d 251 506 [l0, l1, l2, l3] (aPush v []) τ Q)) := RB_callV (n := 3) (t := 0) (k := 46) (ins := .invokevirtual 46) rfl rfl rfl (by decide) (Nat.le_of_ble_eq_true rfl) (Nat.le_of_ble_eq_true rfl) rfl rfl
set_option maxRecDepth 20000 in
theorem w251_506 : RB d 251 506 [l0, l1, .ref a, l3] st (S, I, R, z) Q = RB d 251 507 [l0, l1, .ref a, l3] (.ref a :: st) (S, I, R, z) Q := RB_aloadn rfl rfl
set_option maxRecDepth 20000 in
theorem w251_506N : RB d 251 506 [l0, l1, .null, l3] st (S, I, R, z) Q = RB d 251 507 [l0, l1, .null, l3] (.null :: st) (S, I, R, z) Q := RB_aloadnN rfl rfl
set_option maxRecDepth 20000 in
theorem w251_507 : RB d 251 507 [.ref a, l1, l2, l3] st (S, I, R, z) Q = RB d 251 508 [.ref a, l1, l2, l3] (.ref a :: st) (S, I, R, z) Q := RB_aloadn rfl rfl
set_option maxRecDepth 20000 in
theorem w251_507N : RB d 251 507 [.null, l1, l2, l3] st (S, I, R, z) Q = RB d 251 508 [.null, l1, l2, l3] (.null :: st) (S, I, R, z) Q := RB_aloadnN rfl rfl
set_option maxRecDepth 20000 in
theorem w251_508 : RB d 251 508 [l0, l1, l2, .int x] st (S, I, R, z) Q = RB d 251 509 [l0, l1, l2, .int x] (.int x :: st) (S, I, R, z) Q := RB_iloadn rfl rfl
set_option maxRecDepth 20000 in
theorem w251_509 : RB d 251 509 [l0, l1, l2, l3] st (S, I, R, z) Q = RB d 251 510 [l0, l1, l2, l3] (.int 1 :: st) (S, I, R, z) Q := RB_iconst rfl ki1
set_option maxRecDepth 20000 in
theorem w251_510 : RB d 251 510 [l0, l1, l2, l3] (.int y :: .int x :: st) (S, I, R, z) Q = RB d 251 511 [l0, l1, l2, l3] (.int (x + y) :: st) (S, I, R, z) Q := RB_iadd rfl
set_option maxRecDepth 20000 in
theorem w251_511 : RB d 251 511 [l0, l1, l2, l3] (.int i :: .ref a :: st) (S, I, R, z) Q = (((S a).1 = 9 ∧ aIx i (S a).2) ∧ RB d 251 512 [l0, l1, l2, l3] (.int (I a i.toNatClampNeg) :: st) (S, I, R, z) Q) := RB_iald rfl
set_option maxRecDepth 20000 in
theorem w251_512 : RB d 251 512 [.ref a, l1, l2, l3] st (S, I, R, z) Q = RB d 251 513 [.ref a, l1, l2, l3] (.ref a :: st) (S, I, R, z) Q := RB_aloadn rfl rfl
set_option maxRecDepth 20000 in
theorem w251_512N : RB d 251 512 [.null, l1, l2, l3] st (S, I, R, z) Q = RB d 251 513 [.null, l1, l2, l3] (.null :: st) (S, I, R, z) Q := RB_aloadnN rfl rfl
set_option maxRecDepth 20000 in
theorem w251_513 : RB d 251 513 [l0, l1, l2, .int x] st (S, I, R, z) Q = RB d 251 514 [l0, l1, l2, .int x] (.int x :: st) (S, I, R, z) Q := RB_iloadn rfl rfl
set_option maxRecDepth 20000 in
theorem w251_514 : RB d 251 514 [l0, l1, l2, l3] st (S, I, R, z) Q = RB d 251 515 [l0, l1, l2, l3] (.int 2 :: st) (S, I, R, z) Q := RB_iconst rfl ki2
set_option maxRecDepth 20000 in
theorem w251_515 : RB d 251 515 [l0, l1, l2, l3] (.int y :: .int x :: st) (S, I, R, z) Q = RB d 251 516 [l0, l1, l2, l3] (.int (x + y) :: st) (S, I, R, z) Q := RB_iadd rfl
set_option maxRecDepth 20000 in
theorem w251_516 : RB d 251 516 [l0, l1, l2, l3] (.int i :: .ref a :: st) (S, I, R, z) Q = (((S a).1 = 9 ∧ aIx i (S a).2) ∧ RB d 251 517 [l0, l1, l2, l3] (.int (I a i.toNatClampNeg) :: st) (S, I, R, z) Q) := RB_iald rfl
set_option maxRecDepth 20000 in
theorem w251_517 : RB d 251 517 [l0, l1, l2, l3] [.int x1, .int x0, .ref a, s0] (S, I, R, z) Q = ((S a).1 = 7 ∧ RM d 170 [.ref a, .int x0, .int x1] (S, I, R, z) (fun v τ => RB d 251 520 [l0, l1, l2, l3] (aPush v [s0]) τ Q)) := RB_callV (n := 3) (t := 0) (k := 49) (ins := .invokevirtual 49) rfl rfl rfl (by decide) (Nat.le_of_ble_eq_true rfl) (Nat.le_of_ble_eq_true rfl) rfl rfl
set_option maxRecDepth 20000 in
theorem w251_520 : RB d 251 520 [l0, l1, l2, l3] (.int y :: .int x :: st) (S, I, R, z) Q = ((x = y → RB d 251 1523 [l0, l1, l2, l3] st (S, I, R, z) Q) ∧ (¬ x = y → RB d 251 523 [l0, l1, l2, l3] st (S, I, R, z) Q)) := RB_ieq rfl (by decide) rfl
set_option maxRecDepth 20000 in
theorem w251_523 : RB d 251 523 [l0, l1, l2, l3] st (S, I, R, z) Q = RB d 251 524 [l0, l1, l2, l3] (.int 0 :: st) (S, I, R, z) Q := RB_iconst rfl ki0
set_option maxRecDepth 20000 in
theorem w251_524 : RB d 251 524 [l0, l1, l2, l3] [.int x] (S, I, R, z) Q = (narrow .boolean (.int x) = .int x ∧ Q (some (.int x)) (S, I, R, z)) := RB_zret rfl rfl (Or.inl rfl)
set_option maxRecDepth 20000 in
theorem w251_525 : RB d 251 525 [l0, .ref a, l2, l3] st (S, I, R, z) Q = RB d 251 526 [l0, .ref a, l2, l3] (.ref a :: st) (S, I, R, z) Q := RB_aloadn rfl rfl
set_option maxRecDepth 20000 in
theorem w251_525N : RB d 251 525 [l0, .null, l2, l3] st (S, I, R, z) Q = RB d 251 526 [l0, .null, l2, l3] (.null :: st) (S, I, R, z) Q := RB_aloadnN rfl rfl
set_option maxRecDepth 20000 in
theorem w251_526 : RB d 251 526 [.ref a, l1, l2, l3] st (S, I, R, z) Q = RB d 251 527 [.ref a, l1, l2, l3] (.ref a :: st) (S, I, R, z) Q := RB_aloadn rfl rfl
set_option maxRecDepth 20000 in
theorem w251_526N : RB d 251 526 [.null, l1, l2, l3] st (S, I, R, z) Q = RB d 251 527 [.null, l1, l2, l3] (.null :: st) (S, I, R, z) Q := RB_aloadnN rfl rfl
set_option maxRecDepth 20000 in
theorem w251_527 : RB d 251 527 [l0, l1, l2, .int x] st (S, I, R, z) Q = RB d 251 528 [l0, l1, l2, .int x] (.int x :: st) (S, I, R, z) Q := RB_iloadn rfl rfl
set_option maxRecDepth 20000 in
theorem w251_528 : RB d 251 528 [l0, l1, l2, l3] st (S, I, R, z) Q = RB d 251 529 [l0, l1, l2, l3] (.int 1 :: st) (S, I, R, z) Q := RB_iconst rfl ki1
set_option maxRecDepth 20000 in
theorem w251_529 : RB d 251 529 [l0, l1, l2, l3] (.int y :: .int x :: st) (S, I, R, z) Q = RB d 251 530 [l0, l1, l2, l3] (.int (x + y) :: st) (S, I, R, z) Q := RB_iadd rfl
set_option maxRecDepth 20000 in
theorem w251_530 : RB d 251 530 [l0, l1, l2, l3] (.int i :: .ref a :: st) (S, I, R, z) Q = (((S a).1 = 9 ∧ aIx i (S a).2) ∧ RB d 251 531 [l0, l1, l2, l3] (.int (I a i.toNatClampNeg) :: st) (S, I, R, z) Q) := RB_iald rfl
set_option maxRecDepth 20000 in
theorem w251_531 : RB d 251 531 [l0, l1, l2, l3] [.int x0, .ref a] (S, I, R, z) Q = ((S a).1 = 6 ∧ RM d 86 [.ref a, .int x0] (S, I, R, z) (fun v τ => RB d 251 534 [l0, l1, l2, l3] (aPush v []) τ Q)) := RB_callV (n := 2) (t := 0) (k := 50) (ins := .invokevirtual 50) rfl rfl rfl (by decide) (Nat.le_of_ble_eq_true rfl) (Nat.le_of_ble_eq_true rfl) rfl rfl
set_option maxRecDepth 20000 in
theorem w251_534 : RB d 251 534 [l0, l1, .ref a, l3] st (S, I, R, z) Q = RB d 251 535 [l0, l1, .ref a, l3] (.ref a :: st) (S, I, R, z) Q := RB_aloadn rfl rfl
set_option maxRecDepth 20000 in
theorem w251_534N : RB d 251 534 [l0, l1, .null, l3] st (S, I, R, z) Q = RB d 251 535 [l0, l1, .null, l3] (.null :: st) (S, I, R, z) Q := RB_aloadnN rfl rfl
set_option maxRecDepth 20000 in
theorem w251_535 : RB d 251 535 [.ref a, l1, l2, l3] st (S, I, R, z) Q = RB d 251 536 [.ref a, l1, l2, l3] (.ref a :: st) (S, I, R, z) Q := RB_aloadn rfl rfl
set_option maxRecDepth 20000 in
theorem w251_535N : RB d 251 535 [.null, l1, l2, l3] st (S, I, R, z) Q = RB d 251 536 [.null, l1, l2, l3] (.null :: st) (S, I, R, z) Q := RB_aloadnN rfl rfl
set_option maxRecDepth 20000 in
theorem w251_536 : RB d 251 536 [l0, l1, l2, .int x] st (S, I, R, z) Q = RB d 251 537 [l0, l1, l2, .int x] (.int x :: st) (S, I, R, z) Q := RB_iloadn rfl rfl
set_option maxRecDepth 20000 in
theorem w251_537 : RB d 251 537 [l0, l1, l2, l3] st (S, I, R, z) Q = RB d 251 538 [l0, l1, l2, l3] (.int 1 :: st) (S, I, R, z) Q := RB_iconst rfl ki1
set_option maxRecDepth 20000 in
theorem w251_538 : RB d 251 538 [l0, l1, l2, l3] (.int y :: .int x :: st) (S, I, R, z) Q = RB d 251 539 [l0, l1, l2, l3] (.int (x + y) :: st) (S, I, R, z) Q := RB_iadd rfl
set_option maxRecDepth 20000 in
theorem w251_539 : RB d 251 539 [l0, l1, l2, l3] (.int i :: .ref a :: st) (S, I, R, z) Q = (((S a).1 = 9 ∧ aIx i (S a).2) ∧ RB d 251 540 [l0, l1, l2, l3] (.int (I a i.toNatClampNeg) :: st) (S, I, R, z) Q) := RB_iald rfl
set_option maxRecDepth 20000 in
theorem w251_540 : RB d 251 540 [l0, l1, l2, l3] [.int x0, .ref a, s0] (S, I, R, z) Q = ((S a).1 = 7 ∧ RM d 172 [.ref a, .int x0] (S, I, R, z) (fun v τ => RB d 251 543 [l0, l1, l2, l3] (aPush v [s0]) τ Q)) := RB_callV (n := 2) (t := 0) (k := 54) (ins := .invokevirtual 54) rfl rfl rfl (by decide) (Nat.le_of_ble_eq_true rfl) (Nat.le_of_ble_eq_true rfl) rfl rfl
set_option maxRecDepth 20000 in
theorem w251_543 : RB d 251 543 [l0, l1, l2, l3] (.int y :: .int x :: st) (S, I, R, z) Q = ((x = y → RB d 251 1523 [l0, l1, l2, l3] st (S, I, R, z) Q) ∧ (¬ x = y → RB d 251 546 [l0, l1, l2, l3] st (S, I, R, z) Q)) := RB_ieq rfl (by decide) rfl
set_option maxRecDepth 20000 in
theorem w251_546 : RB d 251 546 [l0, l1, l2, l3] st (S, I, R, z) Q = RB d 251 547 [l0, l1, l2, l3] (.int 0 :: st) (S, I, R, z) Q := RB_iconst rfl ki0
set_option maxRecDepth 20000 in
theorem w251_547 : RB d 251 547 [l0, l1, l2, l3] [.int x] (S, I, R, z) Q = (narrow .boolean (.int x) = .int x ∧ Q (some (.int x)) (S, I, R, z)) := RB_zret rfl rfl (Or.inl rfl)
set_option maxRecDepth 20000 in
theorem w251_548 : RB d 251 548 [l0, .ref a, l2, l3] st (S, I, R, z) Q = RB d 251 549 [l0, .ref a, l2, l3] (.ref a :: st) (S, I, R, z) Q := RB_aloadn rfl rfl
set_option maxRecDepth 20000 in
theorem w251_548N : RB d 251 548 [l0, .null, l2, l3] st (S, I, R, z) Q = RB d 251 549 [l0, .null, l2, l3] (.null :: st) (S, I, R, z) Q := RB_aloadnN rfl rfl
set_option maxRecDepth 20000 in
theorem w251_549 : RB d 251 549 [.ref a, l1, l2, l3] st (S, I, R, z) Q = RB d 251 550 [.ref a, l1, l2, l3] (.ref a :: st) (S, I, R, z) Q := RB_aloadn rfl rfl
set_option maxRecDepth 20000 in
theorem w251_549N : RB d 251 549 [.null, l1, l2, l3] st (S, I, R, z) Q = RB d 251 550 [.null, l1, l2, l3] (.null :: st) (S, I, R, z) Q := RB_aloadnN rfl rfl
set_option maxRecDepth 20000 in
theorem w251_550 : RB d 251 550 [l0, l1, l2, .int x] st (S, I, R, z) Q = RB d 251 551 [l0, l1, l2, .int x] (.int x :: st) (S, I, R, z) Q := RB_iloadn rfl rfl
set_option maxRecDepth 20000 in
theorem w251_551 : RB d 251 551 [l0, l1, l2, l3] st (S, I, R, z) Q = RB d 251 552 [l0, l1, l2, l3] (.int 1 :: st) (S, I, R, z) Q := RB_iconst rfl ki1
set_option maxRecDepth 20000 in
theorem w251_552 : RB d 251 552 [l0, l1, l2, l3] (.int y :: .int x :: st) (S, I, R, z) Q = RB d 251 553 [l0, l1, l2, l3] (.int (x + y) :: st) (S, I, R, z) Q := RB_iadd rfl
set_option maxRecDepth 20000 in
theorem w251_553 : RB d 251 553 [l0, l1, l2, l3] (.int i :: .ref a :: st) (S, I, R, z) Q = (((S a).1 = 9 ∧ aIx i (S a).2) ∧ RB d 251 554 [l0, l1, l2, l3] (.int (I a i.toNatClampNeg) :: st) (S, I, R, z) Q) := RB_iald rfl
set_option maxRecDepth 20000 in
theorem w251_554 : RB d 251 554 [l0, l1, l2, l3] [.int x0, .ref a] (S, I, R, z) Q = ((S a).1 = 6 ∧ RM d 87 [.ref a, .int x0] (S, I, R, z) (fun v τ => RB d 251 557 [l0, l1, l2, l3] (aPush v []) τ Q)) := RB_callV (n := 2) (t := 0) (k := 55) (ins := .invokevirtual 55) rfl rfl rfl (by decide) (Nat.le_of_ble_eq_true rfl) (Nat.le_of_ble_eq_true rfl) rfl rfl
set_option maxRecDepth 20000 in
theorem w251_557 : RB d 251 557 [l0, l1, .ref a, l3] st (S, I, R, z) Q = RB d 251 558 [l0, l1, .ref a, l3] (.ref a :: st) (S, I, R, z) Q := RB_aloadn rfl rfl
set_option maxRecDepth 20000 in
theorem w251_557N : RB d 251 557 [l0, l1, .null, l3] st (S, I, R, z) Q = RB d 251 558 [l0, l1, .null, l3] (.null :: st) (S, I, R, z) Q := RB_aloadnN rfl rfl
set_option maxRecDepth 20000 in
theorem w251_558 : RB d 251 558 [.ref a, l1, l2, l3] st (S, I, R, z) Q = RB d 251 559 [.ref a, l1, l2, l3] (.ref a :: st) (S, I, R, z) Q := RB_aloadn rfl rfl
set_option maxRecDepth 20000 in
theorem w251_558N : RB d 251 558 [.null, l1, l2, l3] st (S, I, R, z) Q = RB d 251 559 [.null, l1, l2, l3] (.null :: st) (S, I, R, z) Q := RB_aloadnN rfl rfl
set_option maxRecDepth 20000 in
theorem w251_559 : RB d 251 559 [l0, l1, l2, .int x] st (S, I, R, z) Q = RB d 251 560 [l0, l1, l2, .int x] (.int x :: st) (S, I, R, z) Q := RB_iloadn rfl rfl
set_option maxRecDepth 20000 in
theorem w251_560 : RB d 251 560 [l0, l1, l2, l3] st (S, I, R, z) Q = RB d 251 561 [l0, l1, l2, l3] (.int 1 :: st) (S, I, R, z) Q := RB_iconst rfl ki1
set_option maxRecDepth 20000 in
theorem w251_561 : RB d 251 561 [l0, l1, l2, l3] (.int y :: .int x :: st) (S, I, R, z) Q = RB d 251 562 [l0, l1, l2, l3] (.int (x + y) :: st) (S, I, R, z) Q := RB_iadd rfl
set_option maxRecDepth 20000 in
theorem w251_562 : RB d 251 562 [l0, l1, l2, l3] (.int i :: .ref a :: st) (S, I, R, z) Q = (((S a).1 = 9 ∧ aIx i (S a).2) ∧ RB d 251 563 [l0, l1, l2, l3] (.int (I a i.toNatClampNeg) :: st) (S, I, R, z) Q) := RB_iald rfl
set_option maxRecDepth 20000 in
theorem w251_563 : RB d 251 563 [l0, l1, l2, l3] [.int x0, .ref a, s0] (S, I, R, z) Q = ((S a).1 = 7 ∧ RM d 173 [.ref a, .int x0] (S, I, R, z) (fun v τ => RB d 251 566 [l0, l1, l2, l3] (aPush v [s0]) τ Q)) := RB_callV (n := 2) (t := 0) (k := 58) (ins := .invokevirtual 58) rfl rfl rfl (by decide) (Nat.le_of_ble_eq_true rfl) (Nat.le_of_ble_eq_true rfl) rfl rfl
set_option maxRecDepth 20000 in
theorem w251_566 : RB d 251 566 [l0, l1, l2, l3] (.int y :: .int x :: st) (S, I, R, z) Q = ((x = y → RB d 251 1523 [l0, l1, l2, l3] st (S, I, R, z) Q) ∧ (¬ x = y → RB d 251 569 [l0, l1, l2, l3] st (S, I, R, z) Q)) := RB_ieq rfl (by decide) rfl
set_option maxRecDepth 20000 in
theorem w251_569 : RB d 251 569 [l0, l1, l2, l3] st (S, I, R, z) Q = RB d 251 570 [l0, l1, l2, l3] (.int 0 :: st) (S, I, R, z) Q := RB_iconst rfl ki0
set_option maxRecDepth 20000 in
theorem w251_570 : RB d 251 570 [l0, l1, l2, l3] [.int x] (S, I, R, z) Q = (narrow .boolean (.int x) = .int x ∧ Q (some (.int x)) (S, I, R, z)) := RB_zret rfl rfl (Or.inl rfl)
set_option maxRecDepth 20000 in
theorem w251_571 : RB d 251 571 [l0, .ref a, l2, l3] st (S, I, R, z) Q = RB d 251 572 [l0, .ref a, l2, l3] (.ref a :: st) (S, I, R, z) Q := RB_aloadn rfl rfl
set_option maxRecDepth 20000 in
theorem w251_571N : RB d 251 571 [l0, .null, l2, l3] st (S, I, R, z) Q = RB d 251 572 [l0, .null, l2, l3] (.null :: st) (S, I, R, z) Q := RB_aloadnN rfl rfl
set_option maxRecDepth 20000 in
theorem w251_572 : RB d 251 572 [.ref a, l1, l2, l3] st (S, I, R, z) Q = RB d 251 573 [.ref a, l1, l2, l3] (.ref a :: st) (S, I, R, z) Q := RB_aloadn rfl rfl
set_option maxRecDepth 20000 in
theorem w251_572N : RB d 251 572 [.null, l1, l2, l3] st (S, I, R, z) Q = RB d 251 573 [.null, l1, l2, l3] (.null :: st) (S, I, R, z) Q := RB_aloadnN rfl rfl
set_option maxRecDepth 20000 in
theorem w251_573 : RB d 251 573 [l0, l1, l2, .int x] st (S, I, R, z) Q = RB d 251 574 [l0, l1, l2, .int x] (.int x :: st) (S, I, R, z) Q := RB_iloadn rfl rfl
set_option maxRecDepth 20000 in
theorem w251_574 : RB d 251 574 [l0, l1, l2, l3] st (S, I, R, z) Q = RB d 251 575 [l0, l1, l2, l3] (.int 1 :: st) (S, I, R, z) Q := RB_iconst rfl ki1
set_option maxRecDepth 20000 in
theorem w251_575 : RB d 251 575 [l0, l1, l2, l3] (.int y :: .int x :: st) (S, I, R, z) Q = RB d 251 576 [l0, l1, l2, l3] (.int (x + y) :: st) (S, I, R, z) Q := RB_iadd rfl
set_option maxRecDepth 20000 in
theorem w251_576 : RB d 251 576 [l0, l1, l2, l3] (.int i :: .ref a :: st) (S, I, R, z) Q = (((S a).1 = 9 ∧ aIx i (S a).2) ∧ RB d 251 577 [l0, l1, l2, l3] (.int (I a i.toNatClampNeg) :: st) (S, I, R, z) Q) := RB_iald rfl
set_option maxRecDepth 20000 in
theorem w251_577 : RB d 251 577 [l0, l1, l2, l3] [.int x0, .ref a] (S, I, R, z) Q = ((S a).1 = 6 ∧ RM d 88 [.ref a, .int x0] (S, I, R, z) (fun v τ => RB d 251 580 [l0, l1, l2, l3] (aPush v []) τ Q)) := RB_callV (n := 2) (t := 0) (k := 59) (ins := .invokevirtual 59) rfl rfl rfl (by decide) (Nat.le_of_ble_eq_true rfl) (Nat.le_of_ble_eq_true rfl) rfl rfl
set_option maxRecDepth 20000 in
theorem w251_580 : RB d 251 580 [l0, l1, .ref a, l3] st (S, I, R, z) Q = RB d 251 581 [l0, l1, .ref a, l3] (.ref a :: st) (S, I, R, z) Q := RB_aloadn rfl rfl
set_option maxRecDepth 20000 in
theorem w251_580N : RB d 251 580 [l0, l1, .null, l3] st (S, I, R, z) Q = RB d 251 581 [l0, l1, .null, l3] (.null :: st) (S, I, R, z) Q := RB_aloadnN rfl rfl
set_option maxRecDepth 20000 in
theorem w251_581 : RB d 251 581 [.ref a, l1, l2, l3] st (S, I, R, z) Q = RB d 251 582 [.ref a, l1, l2, l3] (.ref a :: st) (S, I, R, z) Q := RB_aloadn rfl rfl
set_option maxRecDepth 20000 in
theorem w251_581N : RB d 251 581 [.null, l1, l2, l3] st (S, I, R, z) Q = RB d 251 582 [.null, l1, l2, l3] (.null :: st) (S, I, R, z) Q := RB_aloadnN rfl rfl
set_option maxRecDepth 20000 in
theorem w251_582 : RB d 251 582 [l0, l1, l2, .int x] st (S, I, R, z) Q = RB d 251 583 [l0, l1, l2, .int x] (.int x :: st) (S, I, R, z) Q := RB_iloadn rfl rfl
set_option maxRecDepth 20000 in
theorem w251_583 : RB d 251 583 [l0, l1, l2, l3] st (S, I, R, z) Q = RB d 251 584 [l0, l1, l2, l3] (.int 1 :: st) (S, I, R, z) Q := RB_iconst rfl ki1
set_option maxRecDepth 20000 in
theorem w251_584 : RB d 251 584 [l0, l1, l2, l3] (.int y :: .int x :: st) (S, I, R, z) Q = RB d 251 585 [l0, l1, l2, l3] (.int (x + y) :: st) (S, I, R, z) Q := RB_iadd rfl
set_option maxRecDepth 20000 in
theorem w251_585 : RB d 251 585 [l0, l1, l2, l3] (.int i :: .ref a :: st) (S, I, R, z) Q = (((S a).1 = 9 ∧ aIx i (S a).2) ∧ RB d 251 586 [l0, l1, l2, l3] (.int (I a i.toNatClampNeg) :: st) (S, I, R, z) Q) := RB_iald rfl
set_option maxRecDepth 20000 in
theorem w251_586 : RB d 251 586 [l0, l1, l2, l3] [.int x0, .ref a, s0] (S, I, R, z) Q = ((S a).1 = 7 ∧ RM d 175 [.ref a, .int x0] (S, I, R, z) (fun v τ => RB d 251 589 [l0, l1, l2, l3] (aPush v [s0]) τ Q)) := RB_callV (n := 2) (t := 0) (k := 62) (ins := .invokevirtual 62) rfl rfl rfl (by decide) (Nat.le_of_ble_eq_true rfl) (Nat.le_of_ble_eq_true rfl) rfl rfl
set_option maxRecDepth 20000 in
theorem w251_589 : RB d 251 589 [l0, l1, l2, l3] (.int y :: .int x :: st) (S, I, R, z) Q = ((x = y → RB d 251 1523 [l0, l1, l2, l3] st (S, I, R, z) Q) ∧ (¬ x = y → RB d 251 592 [l0, l1, l2, l3] st (S, I, R, z) Q)) := RB_ieq rfl (by decide) rfl
set_option maxRecDepth 20000 in
theorem w251_592 : RB d 251 592 [l0, l1, l2, l3] st (S, I, R, z) Q = RB d 251 593 [l0, l1, l2, l3] (.int 0 :: st) (S, I, R, z) Q := RB_iconst rfl ki0
set_option maxRecDepth 20000 in
theorem w251_593 : RB d 251 593 [l0, l1, l2, l3] [.int x] (S, I, R, z) Q = (narrow .boolean (.int x) = .int x ∧ Q (some (.int x)) (S, I, R, z)) := RB_zret rfl rfl (Or.inl rfl)
set_option maxRecDepth 20000 in
theorem w251_594 : RB d 251 594 [l0, .ref a, l2, l3] st (S, I, R, z) Q = RB d 251 595 [l0, .ref a, l2, l3] (.ref a :: st) (S, I, R, z) Q := RB_aloadn rfl rfl
set_option maxRecDepth 20000 in
theorem w251_594N : RB d 251 594 [l0, .null, l2, l3] st (S, I, R, z) Q = RB d 251 595 [l0, .null, l2, l3] (.null :: st) (S, I, R, z) Q := RB_aloadnN rfl rfl
set_option maxRecDepth 20000 in
theorem w251_595 : RB d 251 595 [.ref a, l1, l2, l3] st (S, I, R, z) Q = RB d 251 596 [.ref a, l1, l2, l3] (.ref a :: st) (S, I, R, z) Q := RB_aloadn rfl rfl
set_option maxRecDepth 20000 in
theorem w251_595N : RB d 251 595 [.null, l1, l2, l3] st (S, I, R, z) Q = RB d 251 596 [.null, l1, l2, l3] (.null :: st) (S, I, R, z) Q := RB_aloadnN rfl rfl
set_option maxRecDepth 20000 in
theorem w251_596 : RB d 251 596 [l0, l1, l2, .int x] st (S, I, R, z) Q = RB d 251 597 [l0, l1, l2, .int x] (.int x :: st) (S, I, R, z) Q := RB_iloadn rfl rfl
set_option maxRecDepth 20000 in
theorem w251_597 : RB d 251 597 [l0, l1, l2, l3] st (S, I, R, z) Q = RB d 251 598 [l0, l1, l2, l3] (.int 1 :: st) (S, I, R, z) Q := RB_iconst rfl ki1
set_option maxRecDepth 20000 in
theorem w251_598 : RB d 251 598 [l0, l1, l2, l3] (.int y :: .int x :: st) (S, I, R, z) Q = RB d 251 599 [l0, l1, l2, l3] (.int (x + y) :: st) (S, I, R, z) Q := RB_iadd rfl
set_option maxRecDepth 20000 in
theorem w251_599 : RB d 251 599 [l0, l1, l2, l3] (.int i :: .ref a :: st) (S, I, R, z) Q = (((S a).1 = 9 ∧ aIx i (S a).2) ∧ RB d 251 600 [l0, l1, l2, l3] (.int (I a i.toNatClampNeg) :: st) (S, I, R, z) Q) := RB_iald rfl
set_option maxRecDepth 20000 in
theorem w251_600 : RB d 251 600 [l0, l1, l2, l3] [.int x0, .ref a] (S, I, R, z) Q = ((S a).1 = 6 ∧ RM d 89 [.ref a, .int x0] (S, I, R, z) (fun v τ => RB d 251 603 [l0, l1, l2, l3] (aPush v []) τ Q)) := RB_callV (n := 2) (t := 0) (k := 63) (ins := .invokevirtual 63) rfl rfl rfl (by decide) (Nat.le_of_ble_eq_true rfl) (Nat.le_of_ble_eq_true rfl) rfl rfl
set_option maxRecDepth 20000 in
theorem w251_603 : RB d 251 603 [l0, l1, .ref a, l3] st (S, I, R, z) Q = RB d 251 604 [l0, l1, .ref a, l3] (.ref a :: st) (S, I, R, z) Q := RB_aloadn rfl rfl
set_option maxRecDepth 20000 in
theorem w251_603N : RB d 251 603 [l0, l1, .null, l3] st (S, I, R, z) Q = RB d 251 604 [l0, l1, .null, l3] (.null :: st) (S, I, R, z) Q := RB_aloadnN rfl rfl
set_option maxRecDepth 20000 in
theorem w251_604 : RB d 251 604 [.ref a, l1, l2, l3] st (S, I, R, z) Q = RB d 251 605 [.ref a, l1, l2, l3] (.ref a :: st) (S, I, R, z) Q := RB_aloadn rfl rfl
set_option maxRecDepth 20000 in
theorem w251_604N : RB d 251 604 [.null, l1, l2, l3] st (S, I, R, z) Q = RB d 251 605 [.null, l1, l2, l3] (.null :: st) (S, I, R, z) Q := RB_aloadnN rfl rfl
set_option maxRecDepth 20000 in
theorem w251_605 : RB d 251 605 [l0, l1, l2, .int x] st (S, I, R, z) Q = RB d 251 606 [l0, l1, l2, .int x] (.int x :: st) (S, I, R, z) Q := RB_iloadn rfl rfl
set_option maxRecDepth 20000 in
theorem w251_606 : RB d 251 606 [l0, l1, l2, l3] st (S, I, R, z) Q = RB d 251 607 [l0, l1, l2, l3] (.int 1 :: st) (S, I, R, z) Q := RB_iconst rfl ki1
set_option maxRecDepth 20000 in
theorem w251_607 : RB d 251 607 [l0, l1, l2, l3] (.int y :: .int x :: st) (S, I, R, z) Q = RB d 251 608 [l0, l1, l2, l3] (.int (x + y) :: st) (S, I, R, z) Q := RB_iadd rfl
set_option maxRecDepth 20000 in
theorem w251_608 : RB d 251 608 [l0, l1, l2, l3] (.int i :: .ref a :: st) (S, I, R, z) Q = (((S a).1 = 9 ∧ aIx i (S a).2) ∧ RB d 251 609 [l0, l1, l2, l3] (.int (I a i.toNatClampNeg) :: st) (S, I, R, z) Q) := RB_iald rfl
set_option maxRecDepth 20000 in
theorem w251_609 : RB d 251 609 [l0, l1, l2, l3] [.int x0, .ref a, s0] (S, I, R, z) Q = ((S a).1 = 7 ∧ RM d 179 [.ref a, .int x0] (S, I, R, z) (fun v τ => RB d 251 612 [l0, l1, l2, l3] (aPush v [s0]) τ Q)) := RB_callV (n := 2) (t := 0) (k := 66) (ins := .invokevirtual 66) rfl rfl rfl (by decide) (Nat.le_of_ble_eq_true rfl) (Nat.le_of_ble_eq_true rfl) rfl rfl
set_option maxRecDepth 20000 in
theorem w251_612 : RB d 251 612 [l0, l1, l2, l3] (.int y :: .int x :: st) (S, I, R, z) Q = ((x = y → RB d 251 1523 [l0, l1, l2, l3] st (S, I, R, z) Q) ∧ (¬ x = y → RB d 251 615 [l0, l1, l2, l3] st (S, I, R, z) Q)) := RB_ieq rfl (by decide) rfl
set_option maxRecDepth 20000 in
theorem w251_615 : RB d 251 615 [l0, l1, l2, l3] st (S, I, R, z) Q = RB d 251 616 [l0, l1, l2, l3] (.int 0 :: st) (S, I, R, z) Q := RB_iconst rfl ki0
set_option maxRecDepth 20000 in
theorem w251_616 : RB d 251 616 [l0, l1, l2, l3] [.int x] (S, I, R, z) Q = (narrow .boolean (.int x) = .int x ∧ Q (some (.int x)) (S, I, R, z)) := RB_zret rfl rfl (Or.inl rfl)
set_option maxRecDepth 20000 in
theorem w251_617 : RB d 251 617 [l0, .ref a, l2, l3] st (S, I, R, z) Q = RB d 251 618 [l0, .ref a, l2, l3] (.ref a :: st) (S, I, R, z) Q := RB_aloadn rfl rfl
set_option maxRecDepth 20000 in
theorem w251_617N : RB d 251 617 [l0, .null, l2, l3] st (S, I, R, z) Q = RB d 251 618 [l0, .null, l2, l3] (.null :: st) (S, I, R, z) Q := RB_aloadnN rfl rfl
set_option maxRecDepth 20000 in
theorem w251_618 : RB d 251 618 [.ref a, l1, l2, l3] st (S, I, R, z) Q = RB d 251 619 [.ref a, l1, l2, l3] (.ref a :: st) (S, I, R, z) Q := RB_aloadn rfl rfl
set_option maxRecDepth 20000 in
theorem w251_618N : RB d 251 618 [.null, l1, l2, l3] st (S, I, R, z) Q = RB d 251 619 [.null, l1, l2, l3] (.null :: st) (S, I, R, z) Q := RB_aloadnN rfl rfl
set_option maxRecDepth 20000 in
theorem w251_619 : RB d 251 619 [l0, l1, l2, .int x] st (S, I, R, z) Q = RB d 251 620 [l0, l1, l2, .int x] (.int x :: st) (S, I, R, z) Q := RB_iloadn rfl rfl
set_option maxRecDepth 20000 in
theorem w251_620 : RB d 251 620 [l0, l1, l2, l3] st (S, I, R, z) Q = RB d 251 621 [l0, l1, l2, l3] (.int 1 :: st) (S, I, R, z) Q := RB_iconst rfl ki1
set_option maxRecDepth 20000 in
theorem w251_621 : RB d 251 621 [l0, l1, l2, l3] (.int y :: .int x :: st) (S, I, R, z) Q = RB d 251 622 [l0, l1, l2, l3] (.int (x + y) :: st) (S, I, R, z) Q := RB_iadd rfl
set_option maxRecDepth 20000 in
theorem w251_622 : RB d 251 622 [l0, l1, l2, l3] (.int i :: .ref a :: st) (S, I, R, z) Q = (((S a).1 = 9 ∧ aIx i (S a).2) ∧ RB d 251 623 [l0, l1, l2, l3] (.int (I a i.toNatClampNeg) :: st) (S, I, R, z) Q) := RB_iald rfl
set_option maxRecDepth 20000 in
theorem w251_623 : RB d 251 623 [l0, l1, l2, l3] [.int x0, .ref a] (S, I, R, z) Q = ((S a).1 = 6 ∧ RM d 90 [.ref a, .int x0] (S, I, R, z) (fun v τ => RB d 251 626 [l0, l1, l2, l3] (aPush v []) τ Q)) := RB_callV (n := 2) (t := 0) (k := 67) (ins := .invokevirtual 67) rfl rfl rfl (by decide) (Nat.le_of_ble_eq_true rfl) (Nat.le_of_ble_eq_true rfl) rfl rfl
set_option maxRecDepth 20000 in
theorem w251_626 : RB d 251 626 [l0, l1, .ref a, l3] st (S, I, R, z) Q = RB d 251 627 [l0, l1, .ref a, l3] (.ref a :: st) (S, I, R, z) Q := RB_aloadn rfl rfl
set_option maxRecDepth 20000 in
theorem w251_626N : RB d 251 626 [l0, l1, .null, l3] st (S, I, R, z) Q = RB d 251 627 [l0, l1, .null, l3] (.null :: st) (S, I, R, z) Q := RB_aloadnN rfl rfl
set_option maxRecDepth 20000 in
theorem w251_627 : RB d 251 627 [.ref a, l1, l2, l3] st (S, I, R, z) Q = RB d 251 628 [.ref a, l1, l2, l3] (.ref a :: st) (S, I, R, z) Q := RB_aloadn rfl rfl
set_option maxRecDepth 20000 in
theorem w251_627N : RB d 251 627 [.null, l1, l2, l3] st (S, I, R, z) Q = RB d 251 628 [.null, l1, l2, l3] (.null :: st) (S, I, R, z) Q := RB_aloadnN rfl rfl
set_option maxRecDepth 20000 in
theorem w251_628 : RB d 251 628 [l0, l1, l2, .int x] st (S, I, R, z) Q = RB d 251 629 [l0, l1, l2, .int x] (.int x :: st) (S, I, R, z) Q := RB_iloadn rfl rfl
set_option maxRecDepth 20000 in
theorem w251_629 : RB d 251 629 [l0, l1, l2, l3] st (S, I, R, z) Q = RB d 251 630 [l0, l1, l2, l3] (.int 1 :: st) (S, I, R, z) Q := RB_iconst rfl ki1
set_option maxRecDepth 20000 in
theorem w251_630 : RB d 251 630 [l0, l1, l2, l3] (.int y :: .int x :: st) (S, I, R, z) Q = RB d 251 631 [l0, l1, l2, l3] (.int (x + y) :: st) (S, I, R, z) Q := RB_iadd rfl
set_option maxRecDepth 20000 in
theorem w251_631 : RB d 251 631 [l0, l1, l2, l3] (.int i :: .ref a :: st) (S, I, R, z) Q = (((S a).1 = 9 ∧ aIx i (S a).2) ∧ RB d 251 632 [l0, l1, l2, l3] (.int (I a i.toNatClampNeg) :: st) (S, I, R, z) Q) := RB_iald rfl
set_option maxRecDepth 20000 in
theorem w251_632 : RB d 251 632 [l0, l1, l2, l3] [.int x0, .ref a, s0] (S, I, R, z) Q = ((S a).1 = 7 ∧ RM d 181 [.ref a, .int x0] (S, I, R, z) (fun v τ => RB d 251 635 [l0, l1, l2, l3] (aPush v [s0]) τ Q)) := RB_callV (n := 2) (t := 0) (k := 70) (ins := .invokevirtual 70) rfl rfl rfl (by decide) (Nat.le_of_ble_eq_true rfl) (Nat.le_of_ble_eq_true rfl) rfl rfl
set_option maxRecDepth 20000 in
theorem w251_635 : RB d 251 635 [l0, l1, l2, l3] (.int y :: .int x :: st) (S, I, R, z) Q = ((x = y → RB d 251 1523 [l0, l1, l2, l3] st (S, I, R, z) Q) ∧ (¬ x = y → RB d 251 638 [l0, l1, l2, l3] st (S, I, R, z) Q)) := RB_ieq rfl (by decide) rfl
set_option maxRecDepth 20000 in
theorem w251_638 : RB d 251 638 [l0, l1, l2, l3] st (S, I, R, z) Q = RB d 251 639 [l0, l1, l2, l3] (.int 0 :: st) (S, I, R, z) Q := RB_iconst rfl ki0
set_option maxRecDepth 20000 in
theorem w251_639 : RB d 251 639 [l0, l1, l2, l3] [.int x] (S, I, R, z) Q = (narrow .boolean (.int x) = .int x ∧ Q (some (.int x)) (S, I, R, z)) := RB_zret rfl rfl (Or.inl rfl)
set_option maxRecDepth 20000 in
theorem w251_640 : RB d 251 640 [l0, .ref a, l2, l3] st (S, I, R, z) Q = RB d 251 641 [l0, .ref a, l2, l3] (.ref a :: st) (S, I, R, z) Q := RB_aloadn rfl rfl
set_option maxRecDepth 20000 in
theorem w251_640N : RB d 251 640 [l0, .null, l2, l3] st (S, I, R, z) Q = RB d 251 641 [l0, .null, l2, l3] (.null :: st) (S, I, R, z) Q := RB_aloadnN rfl rfl
set_option maxRecDepth 20000 in
theorem w251_641 : RB d 251 641 [l0, l1, l2, l3] [.ref a] (S, I, R, z) Q = ((S a).1 = 6 ∧ RM d 91 [.ref a] (S, I, R, z) (fun v τ => RB d 251 644 [l0, l1, l2, l3] (aPush v []) τ Q)) := RB_callV (n := 1) (t := 0) (k := 71) (ins := .invokevirtual 71) rfl rfl rfl (by decide) (Nat.le_of_ble_eq_true rfl) (Nat.le_of_ble_eq_true rfl) rfl rfl
set_option maxRecDepth 20000 in
theorem w251_644 : RB d 251 644 [l0, l1, .ref a, l3] st (S, I, R, z) Q = RB d 251 645 [l0, l1, .ref a, l3] (.ref a :: st) (S, I, R, z) Q := RB_aloadn rfl rfl
set_option maxRecDepth 20000 in
theorem w251_644N : RB d 251 644 [l0, l1, .null, l3] st (S, I, R, z) Q = RB d 251 645 [l0, l1, .null, l3] (.null :: st) (S, I, R, z) Q := RB_aloadnN rfl rfl
set_option maxRecDepth 20000 in
theorem w251_645 : RB d 251 645 [l0, l1, l2, l3] [.ref a, s0] (S, I, R, z) Q = ((S a).1 = 7 ∧ RM d 184 [.ref a] (S, I, R, z) (fun v τ => RB d 251 648 [l0, l1, l2, l3] (aPush v [s0]) τ Q)) := RB_callV (n := 1) (t := 0) (k := 75) (ins := .invokevirtual 75) rfl rfl rfl (by decide) (Nat.le_of_ble_eq_true rfl) (Nat.le_of_ble_eq_true rfl) rfl rfl
set_option maxRecDepth 20000 in
theorem w251_648 : RB d 251 648 [l0, l1, l2, l3] (.int y :: .int x :: st) (S, I, R, z) Q = ((x = y → RB d 251 1523 [l0, l1, l2, l3] st (S, I, R, z) Q) ∧ (¬ x = y → RB d 251 651 [l0, l1, l2, l3] st (S, I, R, z) Q)) := RB_ieq rfl (by decide) rfl
set_option maxRecDepth 20000 in
theorem w251_651 : RB d 251 651 [l0, l1, l2, l3] st (S, I, R, z) Q = RB d 251 652 [l0, l1, l2, l3] (.int 0 :: st) (S, I, R, z) Q := RB_iconst rfl ki0
set_option maxRecDepth 20000 in
theorem w251_652 : RB d 251 652 [l0, l1, l2, l3] [.int x] (S, I, R, z) Q = (narrow .boolean (.int x) = .int x ∧ Q (some (.int x)) (S, I, R, z)) := RB_zret rfl rfl (Or.inl rfl)
set_option maxRecDepth 20000 in
theorem w251_653 : RB d 251 653 [l0, .ref a, l2, l3] st (S, I, R, z) Q = RB d 251 654 [l0, .ref a, l2, l3] (.ref a :: st) (S, I, R, z) Q := RB_aloadn rfl rfl
set_option maxRecDepth 20000 in
theorem w251_653N : RB d 251 653 [l0, .null, l2, l3] st (S, I, R, z) Q = RB d 251 654 [l0, .null, l2, l3] (.null :: st) (S, I, R, z) Q := RB_aloadnN rfl rfl
set_option maxRecDepth 20000 in
theorem w251_654 : RB d 251 654 [.ref a, l1, l2, l3] st (S, I, R, z) Q = RB d 251 655 [.ref a, l1, l2, l3] (.ref a :: st) (S, I, R, z) Q := RB_aloadn rfl rfl
set_option maxRecDepth 20000 in
theorem w251_654N : RB d 251 654 [.null, l1, l2, l3] st (S, I, R, z) Q = RB d 251 655 [.null, l1, l2, l3] (.null :: st) (S, I, R, z) Q := RB_aloadnN rfl rfl
set_option maxRecDepth 20000 in
theorem w251_655 : RB d 251 655 [l0, l1, l2, .int x] st (S, I, R, z) Q = RB d 251 656 [l0, l1, l2, .int x] (.int x :: st) (S, I, R, z) Q := RB_iloadn rfl rfl
set_option maxRecDepth 20000 in
theorem w251_656 : RB d 251 656 [l0, l1, l2, l3] st (S, I, R, z) Q = RB d 251 657 [l0, l1, l2, l3] (.int 1 :: st) (S, I, R, z) Q := RB_iconst rfl ki1
set_option maxRecDepth 20000 in
theorem w251_657 : RB d 251 657 [l0, l1, l2, l3] (.int y :: .int x :: st) (S, I, R, z) Q = RB d 251 658 [l0, l1, l2, l3] (.int (x + y) :: st) (S, I, R, z) Q := RB_iadd rfl
set_option maxRecDepth 20000 in
theorem w251_658 : RB d 251 658 [l0, l1, l2, l3] (.int i :: .ref a :: st) (S, I, R, z) Q = (((S a).1 = 9 ∧ aIx i (S a).2) ∧ RB d 251 659 [l0, l1, l2, l3] (.int (I a i.toNatClampNeg) :: st) (S, I, R, z) Q) := RB_iald rfl
set_option maxRecDepth 20000 in
theorem w251_659 : RB d 251 659 [l0, l1, l2, l3] [.int x0, .ref a] (S, I, R, z) Q = ((S a).1 = 6 ∧ RM d 92 [.ref a, .int x0] (S, I, R, z) (fun v τ => RB d 251 662 [l0, l1, l2, l3] (aPush v []) τ Q)) := RB_callV (n := 2) (t := 0) (k := 76) (ins := .invokevirtual 76) rfl rfl rfl (by decide) (Nat.le_of_ble_eq_true rfl) (Nat.le_of_ble_eq_true rfl) rfl rfl
set_option maxRecDepth 20000 in
theorem w251_662 : RB d 251 662 [l0, l1, .ref a, l3] st (S, I, R, z) Q = RB d 251 663 [l0, l1, .ref a, l3] (.ref a :: st) (S, I, R, z) Q := RB_aloadn rfl rfl
set_option maxRecDepth 20000 in
theorem w251_662N : RB d 251 662 [l0, l1, .null, l3] st (S, I, R, z) Q = RB d 251 663 [l0, l1, .null, l3] (.null :: st) (S, I, R, z) Q := RB_aloadnN rfl rfl
set_option maxRecDepth 20000 in
theorem w251_663 : RB d 251 663 [.ref a, l1, l2, l3] st (S, I, R, z) Q = RB d 251 664 [.ref a, l1, l2, l3] (.ref a :: st) (S, I, R, z) Q := RB_aloadn rfl rfl
set_option maxRecDepth 20000 in
theorem w251_663N : RB d 251 663 [.null, l1, l2, l3] st (S, I, R, z) Q = RB d 251 664 [.null, l1, l2, l3] (.null :: st) (S, I, R, z) Q := RB_aloadnN rfl rfl
set_option maxRecDepth 20000 in
theorem w251_664 : RB d 251 664 [l0, l1, l2, .int x] st (S, I, R, z) Q = RB d 251 665 [l0, l1, l2, .int x] (.int x :: st) (S, I, R, z) Q := RB_iloadn rfl rfl
set_option maxRecDepth 20000 in
theorem w251_665 : RB d 251 665 [l0, l1, l2, l3] st (S, I, R, z) Q = RB d 251 666 [l0, l1, l2, l3] (.int 1 :: st) (S, I, R, z) Q := RB_iconst rfl ki1
set_option maxRecDepth 20000 in
theorem w251_666 : RB d 251 666 [l0, l1, l2, l3] (.int y :: .int x :: st) (S, I, R, z) Q = RB d 251 667 [l0, l1, l2, l3] (.int (x + y) :: st) (S, I, R, z) Q := RB_iadd rfl
set_option maxRecDepth 20000 in
theorem w251_667 : RB d 251 667 [l0, l1, l2, l3] (.int i :: .ref a :: st) (S, I, R, z) Q = (((S a).1 = 9 ∧ aIx i (S a).2) ∧ RB d 251 668 [l0, l1, l2, l3] (.int (I a i.toNatClampNeg) :: st) (S, I, R, z) Q) := RB_iald rfl
set_option maxRecDepth 20000 in
theorem w251_668 : RB d 251 668 [l0, l1, l2, l3] [.int x0, .ref a, s0] (S, I, R, z) Q = ((S a).1 = 7 ∧ RM d 185 [.ref a, .int x0] (S, I, R, z) (fun v τ => RB d 251 671 [l0, l1, l2, l3] (aPush v [s0]) τ Q)) := RB_callV (n := 2) (t := 0) (k := 79) (ins := .invokevirtual 79) rfl rfl rfl (by decide) (Nat.le_of_ble_eq_true rfl) (Nat.le_of_ble_eq_true rfl) rfl rfl
set_option maxRecDepth 20000 in
theorem w251_671 : RB d 251 671 [l0, l1, l2, l3] (.int y :: .int x :: st) (S, I, R, z) Q = ((x = y → RB d 251 1523 [l0, l1, l2, l3] st (S, I, R, z) Q) ∧ (¬ x = y → RB d 251 674 [l0, l1, l2, l3] st (S, I, R, z) Q)) := RB_ieq rfl (by decide) rfl
set_option maxRecDepth 20000 in
theorem w251_674 : RB d 251 674 [l0, l1, l2, l3] st (S, I, R, z) Q = RB d 251 675 [l0, l1, l2, l3] (.int 0 :: st) (S, I, R, z) Q := RB_iconst rfl ki0
set_option maxRecDepth 20000 in
theorem w251_675 : RB d 251 675 [l0, l1, l2, l3] [.int x] (S, I, R, z) Q = (narrow .boolean (.int x) = .int x ∧ Q (some (.int x)) (S, I, R, z)) := RB_zret rfl rfl (Or.inl rfl)
set_option maxRecDepth 20000 in
theorem w251_676 : RB d 251 676 [l0, .ref a, l2, l3] st (S, I, R, z) Q = RB d 251 677 [l0, .ref a, l2, l3] (.ref a :: st) (S, I, R, z) Q := RB_aloadn rfl rfl
set_option maxRecDepth 20000 in
theorem w251_676N : RB d 251 676 [l0, .null, l2, l3] st (S, I, R, z) Q = RB d 251 677 [l0, .null, l2, l3] (.null :: st) (S, I, R, z) Q := RB_aloadnN rfl rfl
set_option maxRecDepth 20000 in
theorem w251_677 : RB d 251 677 [.ref a, l1, l2, l3] st (S, I, R, z) Q = RB d 251 678 [.ref a, l1, l2, l3] (.ref a :: st) (S, I, R, z) Q := RB_aloadn rfl rfl
set_option maxRecDepth 20000 in
theorem w251_677N : RB d 251 677 [.null, l1, l2, l3] st (S, I, R, z) Q = RB d 251 678 [.null, l1, l2, l3] (.null :: st) (S, I, R, z) Q := RB_aloadnN rfl rfl
set_option maxRecDepth 20000 in
theorem w251_678 : RB d 251 678 [l0, l1, l2, .int x] st (S, I, R, z) Q = RB d 251 679 [l0, l1, l2, .int x] (.int x :: st) (S, I, R, z) Q := RB_iloadn rfl rfl
set_option maxRecDepth 20000 in
theorem w251_679 : RB d 251 679 [l0, l1, l2, l3] st (S, I, R, z) Q = RB d 251 680 [l0, l1, l2, l3] (.int 1 :: st) (S, I, R, z) Q := RB_iconst rfl ki1
set_option maxRecDepth 20000 in
theorem w251_680 : RB d 251 680 [l0, l1, l2, l3] (.int y :: .int x :: st) (S, I, R, z) Q = RB d 251 681 [l0, l1, l2, l3] (.int (x + y) :: st) (S, I, R, z) Q := RB_iadd rfl
set_option maxRecDepth 20000 in
theorem w251_681 : RB d 251 681 [l0, l1, l2, l3] (.int i :: .ref a :: st) (S, I, R, z) Q = (((S a).1 = 9 ∧ aIx i (S a).2) ∧ RB d 251 682 [l0, l1, l2, l3] (.int (I a i.toNatClampNeg) :: st) (S, I, R, z) Q) := RB_iald rfl
set_option maxRecDepth 20000 in
theorem w251_682 : RB d 251 682 [l0, l1, l2, l3] [.int x0, .ref a] (S, I, R, z) Q = ((S a).1 = 6 ∧ RM d 93 [.ref a, .int x0] (S, I, R, z) (fun v τ => RB d 251 685 [l0, l1, l2, l3] (aPush v []) τ Q)) := RB_callV (n := 2) (t := 0) (k := 80) (ins := .invokevirtual 80) rfl rfl rfl (by decide) (Nat.le_of_ble_eq_true rfl) (Nat.le_of_ble_eq_true rfl) rfl rfl
set_option maxRecDepth 20000 in
theorem w251_685 : RB d 251 685 [l0, l1, .ref a, l3] st (S, I, R, z) Q = RB d 251 686 [l0, l1, .ref a, l3] (.ref a :: st) (S, I, R, z) Q := RB_aloadn rfl rfl
set_option maxRecDepth 20000 in
theorem w251_685N : RB d 251 685 [l0, l1, .null, l3] st (S, I, R, z) Q = RB d 251 686 [l0, l1, .null, l3] (.null :: st) (S, I, R, z) Q := RB_aloadnN rfl rfl
set_option maxRecDepth 20000 in
theorem w251_686 : RB d 251 686 [.ref a, l1, l2, l3] st (S, I, R, z) Q = RB d 251 687 [.ref a, l1, l2, l3] (.ref a :: st) (S, I, R, z) Q := RB_aloadn rfl rfl
set_option maxRecDepth 20000 in
theorem w251_686N : RB d 251 686 [.null, l1, l2, l3] st (S, I, R, z) Q = RB d 251 687 [.null, l1, l2, l3] (.null :: st) (S, I, R, z) Q := RB_aloadnN rfl rfl
set_option maxRecDepth 20000 in
theorem w251_687 : RB d 251 687 [l0, l1, l2, .int x] st (S, I, R, z) Q = RB d 251 688 [l0, l1, l2, .int x] (.int x :: st) (S, I, R, z) Q := RB_iloadn rfl rfl
set_option maxRecDepth 20000 in
theorem w251_688 : RB d 251 688 [l0, l1, l2, l3] st (S, I, R, z) Q = RB d 251 689 [l0, l1, l2, l3] (.int 1 :: st) (S, I, R, z) Q := RB_iconst rfl ki1
set_option maxRecDepth 20000 in
theorem w251_689 : RB d 251 689 [l0, l1, l2, l3] (.int y :: .int x :: st) (S, I, R, z) Q = RB d 251 690 [l0, l1, l2, l3] (.int (x + y) :: st) (S, I, R, z) Q := RB_iadd rfl
set_option maxRecDepth 20000 in
theorem w251_690 : RB d 251 690 [l0, l1, l2, l3] (.int i :: .ref a :: st) (S, I, R, z) Q = (((S a).1 = 9 ∧ aIx i (S a).2) ∧ RB d 251 691 [l0, l1, l2, l3] (.int (I a i.toNatClampNeg) :: st) (S, I, R, z) Q) := RB_iald rfl
set_option maxRecDepth 20000 in
theorem w251_691 : RB d 251 691 [l0, l1, l2, l3] [.int x0, .ref a, s0] (S, I, R, z) Q = ((S a).1 = 7 ∧ RM d 186 [.ref a, .int x0] (S, I, R, z) (fun v τ => RB d 251 694 [l0, l1, l2, l3] (aPush v [s0]) τ Q)) := RB_callV (n := 2) (t := 0) (k := 83) (ins := .invokevirtual 83) rfl rfl rfl (by decide) (Nat.le_of_ble_eq_true rfl) (Nat.le_of_ble_eq_true rfl) rfl rfl
set_option maxRecDepth 20000 in
theorem w251_694 : RB d 251 694 [l0, l1, l2, l3] (.int y :: .int x :: st) (S, I, R, z) Q = ((x = y → RB d 251 1523 [l0, l1, l2, l3] st (S, I, R, z) Q) ∧ (¬ x = y → RB d 251 697 [l0, l1, l2, l3] st (S, I, R, z) Q)) := RB_ieq rfl (by decide) rfl
set_option maxRecDepth 20000 in
theorem w251_697 : RB d 251 697 [l0, l1, l2, l3] st (S, I, R, z) Q = RB d 251 698 [l0, l1, l2, l3] (.int 0 :: st) (S, I, R, z) Q := RB_iconst rfl ki0
set_option maxRecDepth 20000 in
theorem w251_698 : RB d 251 698 [l0, l1, l2, l3] [.int x] (S, I, R, z) Q = (narrow .boolean (.int x) = .int x ∧ Q (some (.int x)) (S, I, R, z)) := RB_zret rfl rfl (Or.inl rfl)
set_option maxRecDepth 20000 in
theorem w251_699 : RB d 251 699 [l0, .ref a, l2, l3] st (S, I, R, z) Q = RB d 251 700 [l0, .ref a, l2, l3] (.ref a :: st) (S, I, R, z) Q := RB_aloadn rfl rfl
set_option maxRecDepth 20000 in
theorem w251_699N : RB d 251 699 [l0, .null, l2, l3] st (S, I, R, z) Q = RB d 251 700 [l0, .null, l2, l3] (.null :: st) (S, I, R, z) Q := RB_aloadnN rfl rfl
set_option maxRecDepth 20000 in
theorem w251_700 : RB d 251 700 [.ref a, l1, l2, l3] st (S, I, R, z) Q = RB d 251 701 [.ref a, l1, l2, l3] (.ref a :: st) (S, I, R, z) Q := RB_aloadn rfl rfl
set_option maxRecDepth 20000 in
theorem w251_700N : RB d 251 700 [.null, l1, l2, l3] st (S, I, R, z) Q = RB d 251 701 [.null, l1, l2, l3] (.null :: st) (S, I, R, z) Q := RB_aloadnN rfl rfl
set_option maxRecDepth 20000 in
theorem w251_701 : RB d 251 701 [l0, l1, l2, .int x] st (S, I, R, z) Q = RB d 251 702 [l0, l1, l2, .int x] (.int x :: st) (S, I, R, z) Q := RB_iloadn rfl rfl
set_option maxRecDepth 20000 in
theorem w251_702 : RB d 251 702 [l0, l1, l2, l3] st (S, I, R, z) Q = RB d 251 703 [l0, l1, l2, l3] (.int 1 :: st) (S, I, R, z) Q := RB_iconst rfl ki1
set_option maxRecDepth 20000 in
theorem w251_703 : RB d 251 703 [l0, l1, l2, l3] (.int y :: .int x :: st) (S, I, R, z) Q = RB d 251 704 [l0, l1, l2, l3] (.int (x + y) :: st) (S, I, R, z) Q := RB_iadd rfl
set_option maxRecDepth 20000 in
theorem w251_704 : RB d 251 704 [l0, l1, l2, l3] (.int i :: .ref a :: st) (S, I, R, z) Q = (((S a).1 = 9 ∧ aIx i (S a).2) ∧ RB d 251 705 [l0, l1, l2, l3] (.int (I a i.toNatClampNeg) :: st) (S, I, R, z) Q) := RB_iald rfl
set_option maxRecDepth 20000 in
theorem w251_705 : RB d 251 705 [.ref a, l1, l2, l3] st (S, I, R, z) Q = RB d 251 706 [.ref a, l1, l2, l3] (.ref a :: st) (S, I, R, z) Q := RB_aloadn rfl rfl
set_option maxRecDepth 20000 in
theorem w251_705N : RB d 251 705 [.null, l1, l2, l3] st (S, I, R, z) Q = RB d 251 706 [.null, l1, l2, l3] (.null :: st) (S, I, R, z) Q := RB_aloadnN rfl rfl
set_option maxRecDepth 20000 in
theorem w251_706 : RB d 251 706 [l0, l1, l2, .int x] st (S, I, R, z) Q = RB d 251 707 [l0, l1, l2, .int x] (.int x :: st) (S, I, R, z) Q := RB_iloadn rfl rfl
set_option maxRecDepth 20000 in
theorem w251_707 : RB d 251 707 [l0, l1, l2, l3] st (S, I, R, z) Q = RB d 251 708 [l0, l1, l2, l3] (.int 2 :: st) (S, I, R, z) Q := RB_iconst rfl ki2
set_option maxRecDepth 20000 in
theorem w251_708 : RB d 251 708 [l0, l1, l2, l3] (.int y :: .int x :: st) (S, I, R, z) Q = RB d 251 709 [l0, l1, l2, l3] (.int (x + y) :: st) (S, I, R, z) Q := RB_iadd rfl
set_option maxRecDepth 20000 in
theorem w251_709 : RB d 251 709 [l0, l1, l2, l3] (.int i :: .ref a :: st) (S, I, R, z) Q = (((S a).1 = 9 ∧ aIx i (S a).2) ∧ RB d 251 710 [l0, l1, l2, l3] (.int (I a i.toNatClampNeg) :: st) (S, I, R, z) Q) := RB_iald rfl
set_option maxRecDepth 20000 in
theorem w251_710 : RB d 251 710 [l0, l1, l2, l3] [.int x1, .int x0, .ref a] (S, I, R, z) Q = ((S a).1 = 6 ∧ RM d 94 [.ref a, .int x0, .int x1] (S, I, R, z) (fun v τ => RB d 251 713 [l0, l1, l2, l3] (aPush v []) τ Q)) := RB_callV (n := 3) (t := 0) (k := 84) (ins := .invokevirtual 84) rfl rfl rfl (by decide) (Nat.le_of_ble_eq_true rfl) (Nat.le_of_ble_eq_true rfl) rfl rfl
set_option maxRecDepth 20000 in
theorem w251_713 : RB d 251 713 [l0, l1, .ref a, l3] st (S, I, R, z) Q = RB d 251 714 [l0, l1, .ref a, l3] (.ref a :: st) (S, I, R, z) Q := RB_aloadn rfl rfl
set_option maxRecDepth 20000 in
theorem w251_713N : RB d 251 713 [l0, l1, .null, l3] st (S, I, R, z) Q = RB d 251 714 [l0, l1, .null, l3] (.null :: st) (S, I, R, z) Q := RB_aloadnN rfl rfl
set_option maxRecDepth 20000 in
theorem w251_714 : RB d 251 714 [.ref a, l1, l2, l3] st (S, I, R, z) Q = RB d 251 715 [.ref a, l1, l2, l3] (.ref a :: st) (S, I, R, z) Q := RB_aloadn rfl rfl
set_option maxRecDepth 20000 in
theorem w251_714N : RB d 251 714 [.null, l1, l2, l3] st (S, I, R, z) Q = RB d 251 715 [.null, l1, l2, l3] (.null :: st) (S, I, R, z) Q := RB_aloadnN rfl rfl
set_option maxRecDepth 20000 in
theorem w251_715 : RB d 251 715 [l0, l1, l2, .int x] st (S, I, R, z) Q = RB d 251 716 [l0, l1, l2, .int x] (.int x :: st) (S, I, R, z) Q := RB_iloadn rfl rfl
set_option maxRecDepth 20000 in
theorem w251_716 : RB d 251 716 [l0, l1, l2, l3] st (S, I, R, z) Q = RB d 251 717 [l0, l1, l2, l3] (.int 1 :: st) (S, I, R, z) Q := RB_iconst rfl ki1
set_option maxRecDepth 20000 in
theorem w251_717 : RB d 251 717 [l0, l1, l2, l3] (.int y :: .int x :: st) (S, I, R, z) Q = RB d 251 718 [l0, l1, l2, l3] (.int (x + y) :: st) (S, I, R, z) Q := RB_iadd rfl
set_option maxRecDepth 20000 in
theorem w251_718 : RB d 251 718 [l0, l1, l2, l3] (.int i :: .ref a :: st) (S, I, R, z) Q = (((S a).1 = 9 ∧ aIx i (S a).2) ∧ RB d 251 719 [l0, l1, l2, l3] (.int (I a i.toNatClampNeg) :: st) (S, I, R, z) Q) := RB_iald rfl
set_option maxRecDepth 20000 in
theorem w251_719 : RB d 251 719 [.ref a, l1, l2, l3] st (S, I, R, z) Q = RB d 251 720 [.ref a, l1, l2, l3] (.ref a :: st) (S, I, R, z) Q := RB_aloadn rfl rfl
set_option maxRecDepth 20000 in
theorem w251_719N : RB d 251 719 [.null, l1, l2, l3] st (S, I, R, z) Q = RB d 251 720 [.null, l1, l2, l3] (.null :: st) (S, I, R, z) Q := RB_aloadnN rfl rfl
set_option maxRecDepth 20000 in
theorem w251_720 : RB d 251 720 [l0, l1, l2, .int x] st (S, I, R, z) Q = RB d 251 721 [l0, l1, l2, .int x] (.int x :: st) (S, I, R, z) Q := RB_iloadn rfl rfl
set_option maxRecDepth 20000 in
theorem w251_721 : RB d 251 721 [l0, l1, l2, l3] st (S, I, R, z) Q = RB d 251 722 [l0, l1, l2, l3] (.int 2 :: st) (S, I, R, z) Q := RB_iconst rfl ki2
set_option maxRecDepth 20000 in
theorem w251_722 : RB d 251 722 [l0, l1, l2, l3] (.int y :: .int x :: st) (S, I, R, z) Q = RB d 251 723 [l0, l1, l2, l3] (.int (x + y) :: st) (S, I, R, z) Q := RB_iadd rfl
set_option maxRecDepth 20000 in
theorem w251_723 : RB d 251 723 [l0, l1, l2, l3] (.int i :: .ref a :: st) (S, I, R, z) Q = (((S a).1 = 9 ∧ aIx i (S a).2) ∧ RB d 251 724 [l0, l1, l2, l3] (.int (I a i.toNatClampNeg) :: st) (S, I, R, z) Q) := RB_iald rfl
set_option maxRecDepth 20000 in
theorem w251_724 : RB d 251 724 [l0, l1, l2, l3] [.int x1, .int x0, .ref a, s0] (S, I, R, z) Q = ((S a).1 = 7 ∧ RM d 188 [.ref a, .int x0, .int x1] (S, I, R, z) (fun v τ => RB d 251 727 [l0, l1, l2, l3] (aPush v [s0]) τ Q)) := RB_callV (n := 3) (t := 0) (k := 87) (ins := .invokevirtual 87) rfl rfl rfl (by decide) (Nat.le_of_ble_eq_true rfl) (Nat.le_of_ble_eq_true rfl) rfl rfl
set_option maxRecDepth 20000 in
theorem w251_727 : RB d 251 727 [l0, l1, l2, l3] (.int y :: .int x :: st) (S, I, R, z) Q = ((x = y → RB d 251 1523 [l0, l1, l2, l3] st (S, I, R, z) Q) ∧ (¬ x = y → RB d 251 730 [l0, l1, l2, l3] st (S, I, R, z) Q)) := RB_ieq rfl (by decide) rfl
set_option maxRecDepth 20000 in
theorem w251_730 : RB d 251 730 [l0, l1, l2, l3] st (S, I, R, z) Q = RB d 251 731 [l0, l1, l2, l3] (.int 0 :: st) (S, I, R, z) Q := RB_iconst rfl ki0
set_option maxRecDepth 20000 in
theorem w251_731 : RB d 251 731 [l0, l1, l2, l3] [.int x] (S, I, R, z) Q = (narrow .boolean (.int x) = .int x ∧ Q (some (.int x)) (S, I, R, z)) := RB_zret rfl rfl (Or.inl rfl)
set_option maxRecDepth 20000 in
theorem w251_732 : RB d 251 732 [l0, .ref a, l2, l3] st (S, I, R, z) Q = RB d 251 733 [l0, .ref a, l2, l3] (.ref a :: st) (S, I, R, z) Q := RB_aloadn rfl rfl
set_option maxRecDepth 20000 in
theorem w251_732N : RB d 251 732 [l0, .null, l2, l3] st (S, I, R, z) Q = RB d 251 733 [l0, .null, l2, l3] (.null :: st) (S, I, R, z) Q := RB_aloadnN rfl rfl
set_option maxRecDepth 20000 in
theorem w251_733 : RB d 251 733 [.ref a, l1, l2, l3] st (S, I, R, z) Q = RB d 251 734 [.ref a, l1, l2, l3] (.ref a :: st) (S, I, R, z) Q := RB_aloadn rfl rfl
set_option maxRecDepth 20000 in
theorem w251_733N : RB d 251 733 [.null, l1, l2, l3] st (S, I, R, z) Q = RB d 251 734 [.null, l1, l2, l3] (.null :: st) (S, I, R, z) Q := RB_aloadnN rfl rfl
set_option maxRecDepth 20000 in
theorem w251_734 : RB d 251 734 [l0, l1, l2, .int x] st (S, I, R, z) Q = RB d 251 735 [l0, l1, l2, .int x] (.int x :: st) (S, I, R, z) Q := RB_iloadn rfl rfl
set_option maxRecDepth 20000 in
theorem w251_735 : RB d 251 735 [l0, l1, l2, l3] st (S, I, R, z) Q = RB d 251 736 [l0, l1, l2, l3] (.int 1 :: st) (S, I, R, z) Q := RB_iconst rfl ki1
set_option maxRecDepth 20000 in
theorem w251_736 : RB d 251 736 [l0, l1, l2, l3] (.int y :: .int x :: st) (S, I, R, z) Q = RB d 251 737 [l0, l1, l2, l3] (.int (x + y) :: st) (S, I, R, z) Q := RB_iadd rfl
set_option maxRecDepth 20000 in
theorem w251_737 : RB d 251 737 [l0, l1, l2, l3] (.int i :: .ref a :: st) (S, I, R, z) Q = (((S a).1 = 9 ∧ aIx i (S a).2) ∧ RB d 251 738 [l0, l1, l2, l3] (.int (I a i.toNatClampNeg) :: st) (S, I, R, z) Q) := RB_iald rfl
set_option maxRecDepth 20000 in
theorem w251_738 : RB d 251 738 [.ref a, l1, l2, l3] st (S, I, R, z) Q = RB d 251 739 [.ref a, l1, l2, l3] (.ref a :: st) (S, I, R, z) Q := RB_aloadn rfl rfl
set_option maxRecDepth 20000 in
theorem w251_738N : RB d 251 738 [.null, l1, l2, l3] st (S, I, R, z) Q = RB d 251 739 [.null, l1, l2, l3] (.null :: st) (S, I, R, z) Q := RB_aloadnN rfl rfl
set_option maxRecDepth 20000 in
theorem w251_739 : RB d 251 739 [l0, l1, l2, .int x] st (S, I, R, z) Q = RB d 251 740 [l0, l1, l2, .int x] (.int x :: st) (S, I, R, z) Q := RB_iloadn rfl rfl
set_option maxRecDepth 20000 in
theorem w251_740 : RB d 251 740 [l0, l1, l2, l3] st (S, I, R, z) Q = RB d 251 741 [l0, l1, l2, l3] (.int 2 :: st) (S, I, R, z) Q := RB_iconst rfl ki2
set_option maxRecDepth 20000 in
theorem w251_741 : RB d 251 741 [l0, l1, l2, l3] (.int y :: .int x :: st) (S, I, R, z) Q = RB d 251 742 [l0, l1, l2, l3] (.int (x + y) :: st) (S, I, R, z) Q := RB_iadd rfl
set_option maxRecDepth 20000 in
theorem w251_742 : RB d 251 742 [l0, l1, l2, l3] (.int i :: .ref a :: st) (S, I, R, z) Q = (((S a).1 = 9 ∧ aIx i (S a).2) ∧ RB d 251 743 [l0, l1, l2, l3] (.int (I a i.toNatClampNeg) :: st) (S, I, R, z) Q) := RB_iald rfl
set_option maxRecDepth 20000 in
theorem w251_743 : RB d 251 743 [l0, l1, l2, l3] [.int x1, .int x0, .ref a] (S, I, R, z) Q = ((S a).1 = 6 ∧ RM d 95 [.ref a, .int x0, .int x1] (S, I, R, z) (fun v τ => RB d 251 746 [l0, l1, l2, l3] (aPush v []) τ Q)) := RB_callV (n := 3) (t := 0) (k := 88) (ins := .invokevirtual 88) rfl rfl rfl (by decide) (Nat.le_of_ble_eq_true rfl) (Nat.le_of_ble_eq_true rfl) rfl rfl
set_option maxRecDepth 20000 in
theorem w251_746 : RB d 251 746 [l0, l1, .ref a, l3] st (S, I, R, z) Q = RB d 251 747 [l0, l1, .ref a, l3] (.ref a :: st) (S, I, R, z) Q := RB_aloadn rfl rfl
set_option maxRecDepth 20000 in
theorem w251_746N : RB d 251 746 [l0, l1, .null, l3] st (S, I, R, z) Q = RB d 251 747 [l0, l1, .null, l3] (.null :: st) (S, I, R, z) Q := RB_aloadnN rfl rfl
set_option maxRecDepth 20000 in
theorem w251_747 : RB d 251 747 [.ref a, l1, l2, l3] st (S, I, R, z) Q = RB d 251 748 [.ref a, l1, l2, l3] (.ref a :: st) (S, I, R, z) Q := RB_aloadn rfl rfl
set_option maxRecDepth 20000 in
theorem w251_747N : RB d 251 747 [.null, l1, l2, l3] st (S, I, R, z) Q = RB d 251 748 [.null, l1, l2, l3] (.null :: st) (S, I, R, z) Q := RB_aloadnN rfl rfl
set_option maxRecDepth 20000 in
theorem w251_748 : RB d 251 748 [l0, l1, l2, .int x] st (S, I, R, z) Q = RB d 251 749 [l0, l1, l2, .int x] (.int x :: st) (S, I, R, z) Q := RB_iloadn rfl rfl
set_option maxRecDepth 20000 in
theorem w251_749 : RB d 251 749 [l0, l1, l2, l3] st (S, I, R, z) Q = RB d 251 750 [l0, l1, l2, l3] (.int 1 :: st) (S, I, R, z) Q := RB_iconst rfl ki1
set_option maxRecDepth 20000 in
theorem w251_750 : RB d 251 750 [l0, l1, l2, l3] (.int y :: .int x :: st) (S, I, R, z) Q = RB d 251 751 [l0, l1, l2, l3] (.int (x + y) :: st) (S, I, R, z) Q := RB_iadd rfl
set_option maxRecDepth 20000 in
theorem w251_751 : RB d 251 751 [l0, l1, l2, l3] (.int i :: .ref a :: st) (S, I, R, z) Q = (((S a).1 = 9 ∧ aIx i (S a).2) ∧ RB d 251 752 [l0, l1, l2, l3] (.int (I a i.toNatClampNeg) :: st) (S, I, R, z) Q) := RB_iald rfl
set_option maxRecDepth 20000 in
theorem w251_752 : RB d 251 752 [.ref a, l1, l2, l3] st (S, I, R, z) Q = RB d 251 753 [.ref a, l1, l2, l3] (.ref a :: st) (S, I, R, z) Q := RB_aloadn rfl rfl
set_option maxRecDepth 20000 in
theorem w251_752N : RB d 251 752 [.null, l1, l2, l3] st (S, I, R, z) Q = RB d 251 753 [.null, l1, l2, l3] (.null :: st) (S, I, R, z) Q := RB_aloadnN rfl rfl
set_option maxRecDepth 20000 in
theorem w251_753 : RB d 251 753 [l0, l1, l2, .int x] st (S, I, R, z) Q = RB d 251 754 [l0, l1, l2, .int x] (.int x :: st) (S, I, R, z) Q := RB_iloadn rfl rfl
set_option maxRecDepth 20000 in
theorem w251_754 : RB d 251 754 [l0, l1, l2, l3] st (S, I, R, z) Q = RB d 251 755 [l0, l1, l2, l3] (.int 2 :: st) (S, I, R, z) Q := RB_iconst rfl ki2
set_option maxRecDepth 20000 in
theorem w251_755 : RB d 251 755 [l0, l1, l2, l3] (.int y :: .int x :: st) (S, I, R, z) Q = RB d 251 756 [l0, l1, l2, l3] (.int (x + y) :: st) (S, I, R, z) Q := RB_iadd rfl
set_option maxRecDepth 20000 in
theorem w251_756 : RB d 251 756 [l0, l1, l2, l3] (.int i :: .ref a :: st) (S, I, R, z) Q = (((S a).1 = 9 ∧ aIx i (S a).2) ∧ RB d 251 757 [l0, l1, l2, l3] (.int (I a i.toNatClampNeg) :: st) (S, I, R, z) Q) := RB_iald rfl
set_option maxRecDepth 20000 in
theorem w251_757 : RB d 251 757 [l0, l1, l2, l3] [.int x1, .int x0, .ref a, s0] (S, I, R, z) Q = ((S a).1 = 7 ∧ RM d 189 [.ref a, .int x0, .int x1] (S, I, R, z) (fun v τ => RB d 251 760 [l0, l1, l2, l3] (aPush v [s0]) τ Q)) := RB_callV (n := 3) (t := 0) (k := 91) (ins := .invokevirtual 91) rfl rfl rfl (by decide) (Nat.le_of_ble_eq_true rfl) (Nat.le_of_ble_eq_true rfl) rfl rfl
set_option maxRecDepth 20000 in
theorem w251_760 : RB d 251 760 [l0, l1, l2, l3] (.int y :: .int x :: st) (S, I, R, z) Q = ((x = y → RB d 251 1523 [l0, l1, l2, l3] st (S, I, R, z) Q) ∧ (¬ x = y → RB d 251 763 [l0, l1, l2, l3] st (S, I, R, z) Q)) := RB_ieq rfl (by decide) rfl
set_option maxRecDepth 20000 in
theorem w251_763 : RB d 251 763 [l0, l1, l2, l3] st (S, I, R, z) Q = RB d 251 764 [l0, l1, l2, l3] (.int 0 :: st) (S, I, R, z) Q := RB_iconst rfl ki0
set_option maxRecDepth 20000 in
theorem w251_764 : RB d 251 764 [l0, l1, l2, l3] [.int x] (S, I, R, z) Q = (narrow .boolean (.int x) = .int x ∧ Q (some (.int x)) (S, I, R, z)) := RB_zret rfl rfl (Or.inl rfl)
set_option maxRecDepth 20000 in
theorem w251_765 : RB d 251 765 [l0, .ref a, l2, l3] st (S, I, R, z) Q = RB d 251 766 [l0, .ref a, l2, l3] (.ref a :: st) (S, I, R, z) Q := RB_aloadn rfl rfl
set_option maxRecDepth 20000 in
theorem w251_765N : RB d 251 765 [l0, .null, l2, l3] st (S, I, R, z) Q = RB d 251 766 [l0, .null, l2, l3] (.null :: st) (S, I, R, z) Q := RB_aloadnN rfl rfl
set_option maxRecDepth 20000 in
theorem w251_766 : RB d 251 766 [.ref a, l1, l2, l3] st (S, I, R, z) Q = RB d 251 767 [.ref a, l1, l2, l3] (.ref a :: st) (S, I, R, z) Q := RB_aloadn rfl rfl
set_option maxRecDepth 20000 in
theorem w251_766N : RB d 251 766 [.null, l1, l2, l3] st (S, I, R, z) Q = RB d 251 767 [.null, l1, l2, l3] (.null :: st) (S, I, R, z) Q := RB_aloadnN rfl rfl
set_option maxRecDepth 20000 in
theorem w251_767 : RB d 251 767 [l0, l1, l2, .int x] st (S, I, R, z) Q = RB d 251 768 [l0, l1, l2, .int x] (.int x :: st) (S, I, R, z) Q := RB_iloadn rfl rfl
set_option maxRecDepth 20000 in
theorem w251_768 : RB d 251 768 [l0, l1, l2, l3] st (S, I, R, z) Q = RB d 251 769 [l0, l1, l2, l3] (.int 1 :: st) (S, I, R, z) Q := RB_iconst rfl ki1
set_option maxRecDepth 20000 in
theorem w251_769 : RB d 251 769 [l0, l1, l2, l3] (.int y :: .int x :: st) (S, I, R, z) Q = RB d 251 770 [l0, l1, l2, l3] (.int (x + y) :: st) (S, I, R, z) Q := RB_iadd rfl
set_option maxRecDepth 20000 in
theorem w251_770 : RB d 251 770 [l0, l1, l2, l3] (.int i :: .ref a :: st) (S, I, R, z) Q = (((S a).1 = 9 ∧ aIx i (S a).2) ∧ RB d 251 771 [l0, l1, l2, l3] (.int (I a i.toNatClampNeg) :: st) (S, I, R, z) Q) := RB_iald rfl
set_option maxRecDepth 20000 in
theorem w251_771 : RB d 251 771 [l0, l1, l2, l3] [.int x0, .ref a] (S, I, R, z) Q = ((S a).1 = 6 ∧ RM d 96 [.ref a, .int x0] (S, I, R, z) (fun v τ => RB d 251 774 [l0, l1, l2, l3] (aPush v []) τ Q)) := RB_callV (n := 2) (t := 0) (k := 92) (ins := .invokevirtual 92) rfl rfl rfl (by decide) (Nat.le_of_ble_eq_true rfl) (Nat.le_of_ble_eq_true rfl) rfl rfl
set_option maxRecDepth 20000 in
theorem w251_774 : RB d 251 774 [l0, l1, .ref a, l3] st (S, I, R, z) Q = RB d 251 775 [l0, l1, .ref a, l3] (.ref a :: st) (S, I, R, z) Q := RB_aloadn rfl rfl
set_option maxRecDepth 20000 in
theorem w251_774N : RB d 251 774 [l0, l1, .null, l3] st (S, I, R, z) Q = RB d 251 775 [l0, l1, .null, l3] (.null :: st) (S, I, R, z) Q := RB_aloadnN rfl rfl
set_option maxRecDepth 20000 in
theorem w251_775 : RB d 251 775 [.ref a, l1, l2, l3] st (S, I, R, z) Q = RB d 251 776 [.ref a, l1, l2, l3] (.ref a :: st) (S, I, R, z) Q := RB_aloadn rfl rfl
set_option maxRecDepth 20000 in
theorem w251_775N : RB d 251 775 [.null, l1, l2, l3] st (S, I, R, z) Q = RB d 251 776 [.null, l1, l2, l3] (.null :: st) (S, I, R, z) Q := RB_aloadnN rfl rfl
set_option maxRecDepth 20000 in
theorem w251_776 : RB d 251 776 [l0, l1, l2, .int x] st (S, I, R, z) Q = RB d 251 777 [l0, l1, l2, .int x] (.int x :: st) (S, I, R, z) Q := RB_iloadn rfl rfl
set_option maxRecDepth 20000 in
theorem w251_777 : RB d 251 777 [l0, l1, l2, l3] st (S, I, R, z) Q = RB d 251 778 [l0, l1, l2, l3] (.int 1 :: st) (S, I, R, z) Q := RB_iconst rfl ki1
set_option maxRecDepth 20000 in
theorem w251_778 : RB d 251 778 [l0, l1, l2, l3] (.int y :: .int x :: st) (S, I, R, z) Q = RB d 251 779 [l0, l1, l2, l3] (.int (x + y) :: st) (S, I, R, z) Q := RB_iadd rfl
set_option maxRecDepth 20000 in
theorem w251_779 : RB d 251 779 [l0, l1, l2, l3] (.int i :: .ref a :: st) (S, I, R, z) Q = (((S a).1 = 9 ∧ aIx i (S a).2) ∧ RB d 251 780 [l0, l1, l2, l3] (.int (I a i.toNatClampNeg) :: st) (S, I, R, z) Q) := RB_iald rfl
set_option maxRecDepth 20000 in
theorem w251_780 : RB d 251 780 [l0, l1, l2, l3] [.int x0, .ref a, s0] (S, I, R, z) Q = ((S a).1 = 7 ∧ RM d 190 [.ref a, .int x0] (S, I, R, z) (fun v τ => RB d 251 783 [l0, l1, l2, l3] (aPush v [s0]) τ Q)) := RB_callV (n := 2) (t := 0) (k := 95) (ins := .invokevirtual 95) rfl rfl rfl (by decide) (Nat.le_of_ble_eq_true rfl) (Nat.le_of_ble_eq_true rfl) rfl rfl
set_option maxRecDepth 20000 in
theorem w251_783 : RB d 251 783 [l0, l1, l2, l3] (.int y :: .int x :: st) (S, I, R, z) Q = ((x = y → RB d 251 1523 [l0, l1, l2, l3] st (S, I, R, z) Q) ∧ (¬ x = y → RB d 251 786 [l0, l1, l2, l3] st (S, I, R, z) Q)) := RB_ieq rfl (by decide) rfl
set_option maxRecDepth 20000 in
theorem w251_786 : RB d 251 786 [l0, l1, l2, l3] st (S, I, R, z) Q = RB d 251 787 [l0, l1, l2, l3] (.int 0 :: st) (S, I, R, z) Q := RB_iconst rfl ki0
set_option maxRecDepth 20000 in
theorem w251_787 : RB d 251 787 [l0, l1, l2, l3] [.int x] (S, I, R, z) Q = (narrow .boolean (.int x) = .int x ∧ Q (some (.int x)) (S, I, R, z)) := RB_zret rfl rfl (Or.inl rfl)
set_option maxRecDepth 20000 in
theorem w251_788 : RB d 251 788 [l0, .ref a, l2, l3] st (S, I, R, z) Q = RB d 251 789 [l0, .ref a, l2, l3] (.ref a :: st) (S, I, R, z) Q := RB_aloadn rfl rfl
set_option maxRecDepth 20000 in
theorem w251_788N : RB d 251 788 [l0, .null, l2, l3] st (S, I, R, z) Q = RB d 251 789 [l0, .null, l2, l3] (.null :: st) (S, I, R, z) Q := RB_aloadnN rfl rfl
set_option maxRecDepth 20000 in
theorem w251_789 : RB d 251 789 [.ref a, l1, l2, l3] st (S, I, R, z) Q = RB d 251 790 [.ref a, l1, l2, l3] (.ref a :: st) (S, I, R, z) Q := RB_aloadn rfl rfl
set_option maxRecDepth 20000 in
theorem w251_789N : RB d 251 789 [.null, l1, l2, l3] st (S, I, R, z) Q = RB d 251 790 [.null, l1, l2, l3] (.null :: st) (S, I, R, z) Q := RB_aloadnN rfl rfl
set_option maxRecDepth 20000 in
theorem w251_790 : RB d 251 790 [l0, l1, l2, .int x] st (S, I, R, z) Q = RB d 251 791 [l0, l1, l2, .int x] (.int x :: st) (S, I, R, z) Q := RB_iloadn rfl rfl
set_option maxRecDepth 20000 in
theorem w251_791 : RB d 251 791 [l0, l1, l2, l3] st (S, I, R, z) Q = RB d 251 792 [l0, l1, l2, l3] (.int 1 :: st) (S, I, R, z) Q := RB_iconst rfl ki1
set_option maxRecDepth 20000 in
theorem w251_792 : RB d 251 792 [l0, l1, l2, l3] (.int y :: .int x :: st) (S, I, R, z) Q = RB d 251 793 [l0, l1, l2, l3] (.int (x + y) :: st) (S, I, R, z) Q := RB_iadd rfl
set_option maxRecDepth 20000 in
theorem w251_793 : RB d 251 793 [l0, l1, l2, l3] (.int i :: .ref a :: st) (S, I, R, z) Q = (((S a).1 = 9 ∧ aIx i (S a).2) ∧ RB d 251 794 [l0, l1, l2, l3] (.int (I a i.toNatClampNeg) :: st) (S, I, R, z) Q) := RB_iald rfl
set_option maxRecDepth 20000 in
theorem w251_794 : RB d 251 794 [l0, l1, l2, l3] [.int x0, .ref a] (S, I, R, z) Q = ((S a).1 = 6 ∧ RM d 97 [.ref a, .int x0] (S, I, R, z) (fun v τ => RB d 251 797 [l0, l1, l2, l3] (aPush v []) τ Q)) := RB_callV (n := 2) (t := 0) (k := 96) (ins := .invokevirtual 96) rfl rfl rfl (by decide) (Nat.le_of_ble_eq_true rfl) (Nat.le_of_ble_eq_true rfl) rfl rfl
set_option maxRecDepth 20000 in
theorem w251_797 : RB d 251 797 [l0, l1, .ref a, l3] st (S, I, R, z) Q = RB d 251 798 [l0, l1, .ref a, l3] (.ref a :: st) (S, I, R, z) Q := RB_aloadn rfl rfl
set_option maxRecDepth 20000 in
theorem w251_797N : RB d 251 797 [l0, l1, .null, l3] st (S, I, R, z) Q = RB d 251 798 [l0, l1, .null, l3] (.null :: st) (S, I, R, z) Q := RB_aloadnN rfl rfl
set_option maxRecDepth 20000 in
theorem w251_798 : RB d 251 798 [.ref a, l1, l2, l3] st (S, I, R, z) Q = RB d 251 799 [.ref a, l1, l2, l3] (.ref a :: st) (S, I, R, z) Q := RB_aloadn rfl rfl
set_option maxRecDepth 20000 in
theorem w251_798N : RB d 251 798 [.null, l1, l2, l3] st (S, I, R, z) Q = RB d 251 799 [.null, l1, l2, l3] (.null :: st) (S, I, R, z) Q := RB_aloadnN rfl rfl
set_option maxRecDepth 20000 in
theorem w251_799 : RB d 251 799 [l0, l1, l2, .int x] st (S, I, R, z) Q = RB d 251 800 [l0, l1, l2, .int x] (.int x :: st) (S, I, R, z) Q := RB_iloadn rfl rfl
set_option maxRecDepth 20000 in
theorem w251_800 : RB d 251 800 [l0, l1, l2, l3] st (S, I, R, z) Q = RB d 251 801 [l0, l1, l2, l3] (.int 1 :: st) (S, I, R, z) Q := RB_iconst rfl ki1
set_option maxRecDepth 20000 in
theorem w251_801 : RB d 251 801 [l0, l1, l2, l3] (.int y :: .int x :: st) (S, I, R, z) Q = RB d 251 802 [l0, l1, l2, l3] (.int (x + y) :: st) (S, I, R, z) Q := RB_iadd rfl
set_option maxRecDepth 20000 in
theorem w251_802 : RB d 251 802 [l0, l1, l2, l3] (.int i :: .ref a :: st) (S, I, R, z) Q = (((S a).1 = 9 ∧ aIx i (S a).2) ∧ RB d 251 803 [l0, l1, l2, l3] (.int (I a i.toNatClampNeg) :: st) (S, I, R, z) Q) := RB_iald rfl
set_option maxRecDepth 20000 in
theorem w251_803 : RB d 251 803 [l0, l1, l2, l3] [.int x0, .ref a, s0] (S, I, R, z) Q = ((S a).1 = 7 ∧ RM d 192 [.ref a, .int x0] (S, I, R, z) (fun v τ => RB d 251 806 [l0, l1, l2, l3] (aPush v [s0]) τ Q)) := RB_callV (n := 2) (t := 0) (k := 99) (ins := .invokevirtual 99) rfl rfl rfl (by decide) (Nat.le_of_ble_eq_true rfl) (Nat.le_of_ble_eq_true rfl) rfl rfl
set_option maxRecDepth 20000 in
theorem w251_806 : RB d 251 806 [l0, l1, l2, l3] (.int y :: .int x :: st) (S, I, R, z) Q = ((x = y → RB d 251 1523 [l0, l1, l2, l3] st (S, I, R, z) Q) ∧ (¬ x = y → RB d 251 809 [l0, l1, l2, l3] st (S, I, R, z) Q)) := RB_ieq rfl (by decide) rfl
set_option maxRecDepth 20000 in
theorem w251_809 : RB d 251 809 [l0, l1, l2, l3] st (S, I, R, z) Q = RB d 251 810 [l0, l1, l2, l3] (.int 0 :: st) (S, I, R, z) Q := RB_iconst rfl ki0
set_option maxRecDepth 20000 in
theorem w251_810 : RB d 251 810 [l0, l1, l2, l3] [.int x] (S, I, R, z) Q = (narrow .boolean (.int x) = .int x ∧ Q (some (.int x)) (S, I, R, z)) := RB_zret rfl rfl (Or.inl rfl)
set_option maxRecDepth 20000 in
theorem w251_811 : RB d 251 811 [l0, .ref a, l2, l3] st (S, I, R, z) Q = RB d 251 812 [l0, .ref a, l2, l3] (.ref a :: st) (S, I, R, z) Q := RB_aloadn rfl rfl
set_option maxRecDepth 20000 in
theorem w251_811N : RB d 251 811 [l0, .null, l2, l3] st (S, I, R, z) Q = RB d 251 812 [l0, .null, l2, l3] (.null :: st) (S, I, R, z) Q := RB_aloadnN rfl rfl
set_option maxRecDepth 20000 in
theorem w251_812 : RB d 251 812 [.ref a, l1, l2, l3] st (S, I, R, z) Q = RB d 251 813 [.ref a, l1, l2, l3] (.ref a :: st) (S, I, R, z) Q := RB_aloadn rfl rfl
set_option maxRecDepth 20000 in
theorem w251_812N : RB d 251 812 [.null, l1, l2, l3] st (S, I, R, z) Q = RB d 251 813 [.null, l1, l2, l3] (.null :: st) (S, I, R, z) Q := RB_aloadnN rfl rfl
set_option maxRecDepth 20000 in
theorem w251_813 : RB d 251 813 [l0, l1, l2, .int x] st (S, I, R, z) Q = RB d 251 814 [l0, l1, l2, .int x] (.int x :: st) (S, I, R, z) Q := RB_iloadn rfl rfl
set_option maxRecDepth 20000 in
theorem w251_814 : RB d 251 814 [l0, l1, l2, l3] st (S, I, R, z) Q = RB d 251 815 [l0, l1, l2, l3] (.int 1 :: st) (S, I, R, z) Q := RB_iconst rfl ki1
set_option maxRecDepth 20000 in
theorem w251_815 : RB d 251 815 [l0, l1, l2, l3] (.int y :: .int x :: st) (S, I, R, z) Q = RB d 251 816 [l0, l1, l2, l3] (.int (x + y) :: st) (S, I, R, z) Q := RB_iadd rfl
set_option maxRecDepth 20000 in
theorem w251_816 : RB d 251 816 [l0, l1, l2, l3] (.int i :: .ref a :: st) (S, I, R, z) Q = (((S a).1 = 9 ∧ aIx i (S a).2) ∧ RB d 251 817 [l0, l1, l2, l3] (.int (I a i.toNatClampNeg) :: st) (S, I, R, z) Q) := RB_iald rfl
set_option maxRecDepth 20000 in
theorem w251_817 : RB d 251 817 [l0, l1, l2, l3] [.int x0, .ref a] (S, I, R, z) Q = ((S a).1 = 6 ∧ RM d 98 [.ref a, .int x0] (S, I, R, z) (fun v τ => RB d 251 820 [l0, l1, l2, l3] (aPush v []) τ Q)) := RB_callV (n := 2) (t := 0) (k := 100) (ins := .invokevirtual 100) rfl rfl rfl (by decide) (Nat.le_of_ble_eq_true rfl) (Nat.le_of_ble_eq_true rfl) rfl rfl
set_option maxRecDepth 20000 in
theorem w251_820 : RB d 251 820 [l0, l1, .ref a, l3] st (S, I, R, z) Q = RB d 251 821 [l0, l1, .ref a, l3] (.ref a :: st) (S, I, R, z) Q := RB_aloadn rfl rfl
set_option maxRecDepth 20000 in
theorem w251_820N : RB d 251 820 [l0, l1, .null, l3] st (S, I, R, z) Q = RB d 251 821 [l0, l1, .null, l3] (.null :: st) (S, I, R, z) Q := RB_aloadnN rfl rfl
set_option maxRecDepth 20000 in
theorem w251_821 : RB d 251 821 [.ref a, l1, l2, l3] st (S, I, R, z) Q = RB d 251 822 [.ref a, l1, l2, l3] (.ref a :: st) (S, I, R, z) Q := RB_aloadn rfl rfl
set_option maxRecDepth 20000 in
theorem w251_821N : RB d 251 821 [.null, l1, l2, l3] st (S, I, R, z) Q = RB d 251 822 [.null, l1, l2, l3] (.null :: st) (S, I, R, z) Q := RB_aloadnN rfl rfl
set_option maxRecDepth 20000 in
theorem w251_822 : RB d 251 822 [l0, l1, l2, .int x] st (S, I, R, z) Q = RB d 251 823 [l0, l1, l2, .int x] (.int x :: st) (S, I, R, z) Q := RB_iloadn rfl rfl
set_option maxRecDepth 20000 in
theorem w251_823 : RB d 251 823 [l0, l1, l2, l3] st (S, I, R, z) Q = RB d 251 824 [l0, l1, l2, l3] (.int 1 :: st) (S, I, R, z) Q := RB_iconst rfl ki1
set_option maxRecDepth 20000 in
theorem w251_824 : RB d 251 824 [l0, l1, l2, l3] (.int y :: .int x :: st) (S, I, R, z) Q = RB d 251 825 [l0, l1, l2, l3] (.int (x + y) :: st) (S, I, R, z) Q := RB_iadd rfl
set_option maxRecDepth 20000 in
theorem w251_825 : RB d 251 825 [l0, l1, l2, l3] (.int i :: .ref a :: st) (S, I, R, z) Q = (((S a).1 = 9 ∧ aIx i (S a).2) ∧ RB d 251 826 [l0, l1, l2, l3] (.int (I a i.toNatClampNeg) :: st) (S, I, R, z) Q) := RB_iald rfl
set_option maxRecDepth 20000 in
theorem w251_826 : RB d 251 826 [l0, l1, l2, l3] [.int x0, .ref a, s0] (S, I, R, z) Q = ((S a).1 = 7 ∧ RM d 195 [.ref a, .int x0] (S, I, R, z) (fun v τ => RB d 251 829 [l0, l1, l2, l3] (aPush v [s0]) τ Q)) := RB_callV (n := 2) (t := 0) (k := 103) (ins := .invokevirtual 103) rfl rfl rfl (by decide) (Nat.le_of_ble_eq_true rfl) (Nat.le_of_ble_eq_true rfl) rfl rfl
set_option maxRecDepth 20000 in
theorem w251_829 : RB d 251 829 [l0, l1, l2, l3] (.int y :: .int x :: st) (S, I, R, z) Q = ((x = y → RB d 251 1523 [l0, l1, l2, l3] st (S, I, R, z) Q) ∧ (¬ x = y → RB d 251 832 [l0, l1, l2, l3] st (S, I, R, z) Q)) := RB_ieq rfl (by decide) rfl
set_option maxRecDepth 20000 in
theorem w251_832 : RB d 251 832 [l0, l1, l2, l3] st (S, I, R, z) Q = RB d 251 833 [l0, l1, l2, l3] (.int 0 :: st) (S, I, R, z) Q := RB_iconst rfl ki0
set_option maxRecDepth 20000 in
theorem w251_833 : RB d 251 833 [l0, l1, l2, l3] [.int x] (S, I, R, z) Q = (narrow .boolean (.int x) = .int x ∧ Q (some (.int x)) (S, I, R, z)) := RB_zret rfl rfl (Or.inl rfl)
set_option maxRecDepth 20000 in
theorem w251_834 : RB d 251 834 [l0, .ref a, l2, l3] st (S, I, R, z) Q = RB d 251 835 [l0, .ref a, l2, l3] (.ref a :: st) (S, I, R, z) Q := RB_aloadn rfl rfl
set_option maxRecDepth 20000 in
theorem w251_834N : RB d 251 834 [l0, .null, l2, l3] st (S, I, R, z) Q = RB d 251 835 [l0, .null, l2, l3] (.null :: st) (S, I, R, z) Q := RB_aloadnN rfl rfl
set_option maxRecDepth 20000 in
theorem w251_835 : RB d 251 835 [l0, l1, l2, l3] [.ref a] (S, I, R, z) Q = ((S a).1 = 6 ∧ RM d 99 [.ref a] (S, I, R, z) (fun v τ => RB d 251 838 [l0, l1, l2, l3] (aPush v []) τ Q)) := RB_callV (n := 1) (t := 0) (k := 104) (ins := .invokevirtual 104) rfl rfl rfl (by decide) (Nat.le_of_ble_eq_true rfl) (Nat.le_of_ble_eq_true rfl) rfl rfl
set_option maxRecDepth 20000 in
theorem w251_838 : RB d 251 838 [l0, l1, .ref a, l3] st (S, I, R, z) Q = RB d 251 839 [l0, l1, .ref a, l3] (.ref a :: st) (S, I, R, z) Q := RB_aloadn rfl rfl
set_option maxRecDepth 20000 in
theorem w251_838N : RB d 251 838 [l0, l1, .null, l3] st (S, I, R, z) Q = RB d 251 839 [l0, l1, .null, l3] (.null :: st) (S, I, R, z) Q := RB_aloadnN rfl rfl
set_option maxRecDepth 20000 in
theorem w251_839 : RB d 251 839 [l0, l1, l2, l3] [.ref a, s0] (S, I, R, z) Q = ((S a).1 = 7 ∧ RM d 196 [.ref a] (S, I, R, z) (fun v τ => RB d 251 842 [l0, l1, l2, l3] (aPush v [s0]) τ Q)) := RB_callV (n := 1) (t := 0) (k := 107) (ins := .invokevirtual 107) rfl rfl rfl (by decide) (Nat.le_of_ble_eq_true rfl) (Nat.le_of_ble_eq_true rfl) rfl rfl
set_option maxRecDepth 20000 in
theorem w251_842 : RB d 251 842 [l0, l1, l2, l3] (.int y :: .int x :: st) (S, I, R, z) Q = ((x = y → RB d 251 1523 [l0, l1, l2, l3] st (S, I, R, z) Q) ∧ (¬ x = y → RB d 251 845 [l0, l1, l2, l3] st (S, I, R, z) Q)) := RB_ieq rfl (by decide) rfl
set_option maxRecDepth 20000 in
theorem w251_845 : RB d 251 845 [l0, l1, l2, l3] st (S, I, R, z) Q = RB d 251 846 [l0, l1, l2, l3] (.int 0 :: st) (S, I, R, z) Q := RB_iconst rfl ki0
set_option maxRecDepth 20000 in
theorem w251_846 : RB d 251 846 [l0, l1, l2, l3] [.int x] (S, I, R, z) Q = (narrow .boolean (.int x) = .int x ∧ Q (some (.int x)) (S, I, R, z)) := RB_zret rfl rfl (Or.inl rfl)
set_option maxRecDepth 20000 in
theorem w251_847 : RB d 251 847 [l0, .ref a, l2, l3] st (S, I, R, z) Q = RB d 251 848 [l0, .ref a, l2, l3] (.ref a :: st) (S, I, R, z) Q := RB_aloadn rfl rfl
set_option maxRecDepth 20000 in
theorem w251_847N : RB d 251 847 [l0, .null, l2, l3] st (S, I, R, z) Q = RB d 251 848 [l0, .null, l2, l3] (.null :: st) (S, I, R, z) Q := RB_aloadnN rfl rfl
set_option maxRecDepth 20000 in
theorem w251_848 : RB d 251 848 [.ref a, l1, l2, l3] st (S, I, R, z) Q = RB d 251 849 [.ref a, l1, l2, l3] (.ref a :: st) (S, I, R, z) Q := RB_aloadn rfl rfl
set_option maxRecDepth 20000 in
theorem w251_848N : RB d 251 848 [.null, l1, l2, l3] st (S, I, R, z) Q = RB d 251 849 [.null, l1, l2, l3] (.null :: st) (S, I, R, z) Q := RB_aloadnN rfl rfl
set_option maxRecDepth 20000 in
theorem w251_849 : RB d 251 849 [l0, l1, l2, .int x] st (S, I, R, z) Q = RB d 251 850 [l0, l1, l2, .int x] (.int x :: st) (S, I, R, z) Q := RB_iloadn rfl rfl
set_option maxRecDepth 20000 in
theorem w251_850 : RB d 251 850 [l0, l1, l2, l3] st (S, I, R, z) Q = RB d 251 851 [l0, l1, l2, l3] (.int 1 :: st) (S, I, R, z) Q := RB_iconst rfl ki1
set_option maxRecDepth 20000 in
theorem w251_851 : RB d 251 851 [l0, l1, l2, l3] (.int y :: .int x :: st) (S, I, R, z) Q = RB d 251 852 [l0, l1, l2, l3] (.int (x + y) :: st) (S, I, R, z) Q := RB_iadd rfl
set_option maxRecDepth 20000 in
theorem w251_852 : RB d 251 852 [l0, l1, l2, l3] (.int i :: .ref a :: st) (S, I, R, z) Q = (((S a).1 = 9 ∧ aIx i (S a).2) ∧ RB d 251 853 [l0, l1, l2, l3] (.int (I a i.toNatClampNeg) :: st) (S, I, R, z) Q) := RB_iald rfl
set_option maxRecDepth 20000 in
theorem w251_853 : RB d 251 853 [.ref a, l1, l2, l3] st (S, I, R, z) Q = RB d 251 854 [.ref a, l1, l2, l3] (.ref a :: st) (S, I, R, z) Q := RB_aloadn rfl rfl
set_option maxRecDepth 20000 in
theorem w251_853N : RB d 251 853 [.null, l1, l2, l3] st (S, I, R, z) Q = RB d 251 854 [.null, l1, l2, l3] (.null :: st) (S, I, R, z) Q := RB_aloadnN rfl rfl
set_option maxRecDepth 20000 in
theorem w251_854 : RB d 251 854 [l0, l1, l2, .int x] st (S, I, R, z) Q = RB d 251 855 [l0, l1, l2, .int x] (.int x :: st) (S, I, R, z) Q := RB_iloadn rfl rfl
set_option maxRecDepth 20000 in
theorem w251_855 : RB d 251 855 [l0, l1, l2, l3] st (S, I, R, z) Q = RB d 251 856 [l0, l1, l2, l3] (.int 2 :: st) (S, I, R, z) Q := RB_iconst rfl ki2
set_option maxRecDepth 20000 in
theorem w251_856 : RB d 251 856 [l0, l1, l2, l3] (.int y :: .int x :: st) (S, I, R, z) Q = RB d 251 857 [l0, l1, l2, l3] (.int (x + y) :: st) (S, I, R, z) Q := RB_iadd rfl
set_option maxRecDepth 20000 in
theorem w251_857 : RB d 251 857 [l0, l1, l2, l3] (.int i :: .ref a :: st) (S, I, R, z) Q = (((S a).1 = 9 ∧ aIx i (S a).2) ∧ RB d 251 858 [l0, l1, l2, l3] (.int (I a i.toNatClampNeg) :: st) (S, I, R, z) Q) := RB_iald rfl
set_option maxRecDepth 20000 in
theorem w251_858 : RB d 251 858 [.ref a, l1, l2, l3] st (S, I, R, z) Q = RB d 251 859 [.ref a, l1, l2, l3] (.ref a :: st) (S, I, R, z) Q := RB_aloadn rfl rfl
set_option maxRecDepth 20000 in
theorem w251_858N : RB d 251 858 [.null, l1, l2, l3] st (S, I, R, z) Q = RB d 251 859 [.null, l1, l2, l3] (.null :: st) (S, I, R, z) Q := RB_aloadnN rfl rfl
set_option maxRecDepth 20000 in
theorem w251_859 : RB d 251 859 [l0, l1, l2, .int x] st (S, I, R, z) Q = RB d 251 860 [l0, l1, l2, .int x] (.int x :: st) (S, I, R, z) Q := RB_iloadn rfl rfl
set_option maxRecDepth 20000 in
theorem w251_860 : RB d 251 860 [l0, l1, l2, l3] st (S, I, R, z) Q = RB d 251 861 [l0, l1, l2, l3] (.int 3 :: st) (S, I, R, z) Q := RB_iconst rfl ki3
set_option maxRecDepth 20000 in
theorem w251_861 : RB d 251 861 [l0, l1, l2, l3] (.int y :: .int x :: st) (S, I, R, z) Q = RB d 251 862 [l0, l1, l2, l3] (.int (x + y) :: st) (S, I, R, z) Q := RB_iadd rfl
set_option maxRecDepth 20000 in
theorem w251_862 : RB d 251 862 [l0, l1, l2, l3] (.int i :: .ref a :: st) (S, I, R, z) Q = (((S a).1 = 9 ∧ aIx i (S a).2) ∧ RB d 251 863 [l0, l1, l2, l3] (.int (I a i.toNatClampNeg) :: st) (S, I, R, z) Q) := RB_iald rfl
set_option maxRecDepth 20000 in
theorem w251_863 : RB d 251 863 [l0, l1, l2, l3] [.int x2, .int x1, .int x0, .ref a] (S, I, R, z) Q = ((S a).1 = 6 ∧ RM d 100 [.ref a, .int x0, .int x1, .int x2] (S, I, R, z) (fun v τ => RB d 251 866 [l0, l1, l2, l3] (aPush v []) τ Q)) := RB_callV (n := 4) (t := 0) (k := 108) (ins := .invokevirtual 108) rfl rfl rfl (by decide) (Nat.le_of_ble_eq_true rfl) (Nat.le_of_ble_eq_true rfl) rfl rfl
set_option maxRecDepth 20000 in
theorem w251_866 : RB d 251 866 [l0, l1, .ref a, l3] st (S, I, R, z) Q = RB d 251 867 [l0, l1, .ref a, l3] (.ref a :: st) (S, I, R, z) Q := RB_aloadn rfl rfl
set_option maxRecDepth 20000 in
theorem w251_866N : RB d 251 866 [l0, l1, .null, l3] st (S, I, R, z) Q = RB d 251 867 [l0, l1, .null, l3] (.null :: st) (S, I, R, z) Q := RB_aloadnN rfl rfl
set_option maxRecDepth 20000 in
theorem w251_867 : RB d 251 867 [.ref a, l1, l2, l3] st (S, I, R, z) Q = RB d 251 868 [.ref a, l1, l2, l3] (.ref a :: st) (S, I, R, z) Q := RB_aloadn rfl rfl
set_option maxRecDepth 20000 in
theorem w251_867N : RB d 251 867 [.null, l1, l2, l3] st (S, I, R, z) Q = RB d 251 868 [.null, l1, l2, l3] (.null :: st) (S, I, R, z) Q := RB_aloadnN rfl rfl
set_option maxRecDepth 20000 in
theorem w251_868 : RB d 251 868 [l0, l1, l2, .int x] st (S, I, R, z) Q = RB d 251 869 [l0, l1, l2, .int x] (.int x :: st) (S, I, R, z) Q := RB_iloadn rfl rfl
set_option maxRecDepth 20000 in
theorem w251_869 : RB d 251 869 [l0, l1, l2, l3] st (S, I, R, z) Q = RB d 251 870 [l0, l1, l2, l3] (.int 1 :: st) (S, I, R, z) Q := RB_iconst rfl ki1
set_option maxRecDepth 20000 in
theorem w251_870 : RB d 251 870 [l0, l1, l2, l3] (.int y :: .int x :: st) (S, I, R, z) Q = RB d 251 871 [l0, l1, l2, l3] (.int (x + y) :: st) (S, I, R, z) Q := RB_iadd rfl
set_option maxRecDepth 20000 in
theorem w251_871 : RB d 251 871 [l0, l1, l2, l3] (.int i :: .ref a :: st) (S, I, R, z) Q = (((S a).1 = 9 ∧ aIx i (S a).2) ∧ RB d 251 872 [l0, l1, l2, l3] (.int (I a i.toNatClampNeg) :: st) (S, I, R, z) Q) := RB_iald rfl
set_option maxRecDepth 20000 in
theorem w251_872 : RB d 251 872 [.ref a, l1, l2, l3] st (S, I, R, z) Q = RB d 251 873 [.ref a, l1, l2, l3] (.ref a :: st) (S, I, R, z) Q := RB_aloadn rfl rfl
set_option maxRecDepth 20000 in
theorem w251_872N : RB d 251 872 [.null, l1, l2, l3] st (S, I, R, z) Q = RB d 251 873 [.null, l1, l2, l3] (.null :: st) (S, I, R, z) Q := RB_aloadnN rfl rfl
set_option maxRecDepth 20000 in
theorem w251_873 : RB d 251 873 [l0, l1, l2, .int x] st (S, I, R, z) Q = RB d 251 874 [l0, l1, l2, .int x] (.int x :: st) (S, I, R, z) Q := RB_iloadn rfl rfl
set_option maxRecDepth 20000 in
theorem w251_874 : RB d 251 874 [l0, l1, l2, l3] st (S, I, R, z) Q = RB d 251 875 [l0, l1, l2, l3] (.int 2 :: st) (S, I, R, z) Q := RB_iconst rfl ki2
set_option maxRecDepth 20000 in
theorem w251_875 : RB d 251 875 [l0, l1, l2, l3] (.int y :: .int x :: st) (S, I, R, z) Q = RB d 251 876 [l0, l1, l2, l3] (.int (x + y) :: st) (S, I, R, z) Q := RB_iadd rfl
set_option maxRecDepth 20000 in
theorem w251_876 : RB d 251 876 [l0, l1, l2, l3] (.int i :: .ref a :: st) (S, I, R, z) Q = (((S a).1 = 9 ∧ aIx i (S a).2) ∧ RB d 251 877 [l0, l1, l2, l3] (.int (I a i.toNatClampNeg) :: st) (S, I, R, z) Q) := RB_iald rfl
set_option maxRecDepth 20000 in
theorem w251_877 : RB d 251 877 [.ref a, l1, l2, l3] st (S, I, R, z) Q = RB d 251 878 [.ref a, l1, l2, l3] (.ref a :: st) (S, I, R, z) Q := RB_aloadn rfl rfl
set_option maxRecDepth 20000 in
theorem w251_877N : RB d 251 877 [.null, l1, l2, l3] st (S, I, R, z) Q = RB d 251 878 [.null, l1, l2, l3] (.null :: st) (S, I, R, z) Q := RB_aloadnN rfl rfl
set_option maxRecDepth 20000 in
theorem w251_878 : RB d 251 878 [l0, l1, l2, .int x] st (S, I, R, z) Q = RB d 251 879 [l0, l1, l2, .int x] (.int x :: st) (S, I, R, z) Q := RB_iloadn rfl rfl
set_option maxRecDepth 20000 in
theorem w251_879 : RB d 251 879 [l0, l1, l2, l3] st (S, I, R, z) Q = RB d 251 880 [l0, l1, l2, l3] (.int 3 :: st) (S, I, R, z) Q := RB_iconst rfl ki3
set_option maxRecDepth 20000 in
theorem w251_880 : RB d 251 880 [l0, l1, l2, l3] (.int y :: .int x :: st) (S, I, R, z) Q = RB d 251 881 [l0, l1, l2, l3] (.int (x + y) :: st) (S, I, R, z) Q := RB_iadd rfl
set_option maxRecDepth 20000 in
theorem w251_881 : RB d 251 881 [l0, l1, l2, l3] (.int i :: .ref a :: st) (S, I, R, z) Q = (((S a).1 = 9 ∧ aIx i (S a).2) ∧ RB d 251 882 [l0, l1, l2, l3] (.int (I a i.toNatClampNeg) :: st) (S, I, R, z) Q) := RB_iald rfl
set_option maxRecDepth 20000 in
theorem w251_882 : RB d 251 882 [l0, l1, l2, l3] [.int x2, .int x1, .int x0, .ref a, s0] (S, I, R, z) Q = ((S a).1 = 7 ∧ RM d 199 [.ref a, .int x0, .int x1, .int x2] (S, I, R, z) (fun v τ => RB d 251 885 [l0, l1, l2, l3] (aPush v [s0]) τ Q)) := RB_callV (n := 4) (t := 0) (k := 112) (ins := .invokevirtual 112) rfl rfl rfl (by decide) (Nat.le_of_ble_eq_true rfl) (Nat.le_of_ble_eq_true rfl) rfl rfl
set_option maxRecDepth 20000 in
theorem w251_885 : RB d 251 885 [l0, l1, l2, l3] (.int y :: .int x :: st) (S, I, R, z) Q = ((x = y → RB d 251 1523 [l0, l1, l2, l3] st (S, I, R, z) Q) ∧ (¬ x = y → RB d 251 888 [l0, l1, l2, l3] st (S, I, R, z) Q)) := RB_ieq rfl (by decide) rfl
set_option maxRecDepth 20000 in
theorem w251_888 : RB d 251 888 [l0, l1, l2, l3] st (S, I, R, z) Q = RB d 251 889 [l0, l1, l2, l3] (.int 0 :: st) (S, I, R, z) Q := RB_iconst rfl ki0
set_option maxRecDepth 20000 in
theorem w251_889 : RB d 251 889 [l0, l1, l2, l3] [.int x] (S, I, R, z) Q = (narrow .boolean (.int x) = .int x ∧ Q (some (.int x)) (S, I, R, z)) := RB_zret rfl rfl (Or.inl rfl)
set_option maxRecDepth 20000 in
theorem w251_890 : RB d 251 890 [l0, .ref a, l2, l3] st (S, I, R, z) Q = RB d 251 891 [l0, .ref a, l2, l3] (.ref a :: st) (S, I, R, z) Q := RB_aloadn rfl rfl
set_option maxRecDepth 20000 in
theorem w251_890N : RB d 251 890 [l0, .null, l2, l3] st (S, I, R, z) Q = RB d 251 891 [l0, .null, l2, l3] (.null :: st) (S, I, R, z) Q := RB_aloadnN rfl rfl
set_option maxRecDepth 20000 in
theorem w251_891 : RB d 251 891 [.ref a, l1, l2, l3] st (S, I, R, z) Q = RB d 251 892 [.ref a, l1, l2, l3] (.ref a :: st) (S, I, R, z) Q := RB_aloadn rfl rfl
set_option maxRecDepth 20000 in
theorem w251_891N : RB d 251 891 [.null, l1, l2, l3] st (S, I, R, z) Q = RB d 251 892 [.null, l1, l2, l3] (.null :: st) (S, I, R, z) Q := RB_aloadnN rfl rfl
set_option maxRecDepth 20000 in
theorem w251_892 : RB d 251 892 [l0, l1, l2, .int x] st (S, I, R, z) Q = RB d 251 893 [l0, l1, l2, .int x] (.int x :: st) (S, I, R, z) Q := RB_iloadn rfl rfl
set_option maxRecDepth 20000 in
theorem w251_893 : RB d 251 893 [l0, l1, l2, l3] st (S, I, R, z) Q = RB d 251 894 [l0, l1, l2, l3] (.int 1 :: st) (S, I, R, z) Q := RB_iconst rfl ki1
set_option maxRecDepth 20000 in
theorem w251_894 : RB d 251 894 [l0, l1, l2, l3] (.int y :: .int x :: st) (S, I, R, z) Q = RB d 251 895 [l0, l1, l2, l3] (.int (x + y) :: st) (S, I, R, z) Q := RB_iadd rfl
set_option maxRecDepth 20000 in
theorem w251_895 : RB d 251 895 [l0, l1, l2, l3] (.int i :: .ref a :: st) (S, I, R, z) Q = (((S a).1 = 9 ∧ aIx i (S a).2) ∧ RB d 251 896 [l0, l1, l2, l3] (.int (I a i.toNatClampNeg) :: st) (S, I, R, z) Q) := RB_iald rfl
set_option maxRecDepth 20000 in
theorem w251_896 : RB d 251 896 [.ref a, l1, l2, l3] st (S, I, R, z) Q = RB d 251 897 [.ref a, l1, l2, l3] (.ref a :: st) (S, I, R, z) Q := RB_aloadn rfl rfl
set_option maxRecDepth 20000 in
theorem w251_896N : RB d 251 896 [.null, l1, l2, l3] st (S, I, R, z) Q = RB d 251 897 [.null, l1, l2, l3] (.null :: st) (S, I, R, z) Q := RB_aloadnN rfl rfl
set_option maxRecDepth 20000 in
theorem w251_897 : RB d 251 897 [l0, l1, l2, .int x] st (S, I, R, z) Q = RB d 251 898 [l0, l1, l2, .int x] (.int x :: st) (S, I, R, z) Q := RB_iloadn rfl rfl
set_option maxRecDepth 20000 in
theorem w251_898 : RB d 251 898 [l0, l1, l2, l3] st (S, I, R, z) Q = RB d 251 899 [l0, l1, l2, l3] (.int 2 :: st) (S, I, R, z) Q := RB_iconst rfl ki2
set_option maxRecDepth 20000 in
theorem w251_899 : RB d 251 899 [l0, l1, l2, l3] (.int y :: .int x :: st) (S, I, R, z) Q = RB d 251 900 [l0, l1, l2, l3] (.int (x + y) :: st) (S, I, R, z) Q := RB_iadd rfl
set_option maxRecDepth 20000 in
theorem w251_900 : RB d 251 900 [l0, l1, l2, l3] (.int i :: .ref a :: st) (S, I, R, z) Q = (((S a).1 = 9 ∧ aIx i (S a).2) ∧ RB d 251 901 [l0, l1, l2, l3] (.int (I a i.toNatClampNeg) :: st) (S, I, R, z) Q) := RB_iald rfl
set_option maxRecDepth 20000 in
theorem w251_901 : RB d 251 901 [l0, l1, l2, l3] [.int x1, .int x0, .ref a] (S, I, R, z) Q = ((S a).1 = 6 ∧ RM d 101 [.ref a, .int x0, .int x1] (S, I, R, z) (fun v τ => RB d 251 904 [l0, l1, l2, l3] (aPush v []) τ Q)) := RB_callV (n := 3) (t := 0) (k := 113) (ins := .invokevirtual 113) rfl rfl rfl (by decide) (Nat.le_of_ble_eq_true rfl) (Nat.le_of_ble_eq_true rfl) rfl rfl
set_option maxRecDepth 20000 in
theorem w251_904 : RB d 251 904 [l0, l1, .ref a, l3] st (S, I, R, z) Q = RB d 251 905 [l0, l1, .ref a, l3] (.ref a :: st) (S, I, R, z) Q := RB_aloadn rfl rfl
set_option maxRecDepth 20000 in
theorem w251_904N : RB d 251 904 [l0, l1, .null, l3] st (S, I, R, z) Q = RB d 251 905 [l0, l1, .null, l3] (.null :: st) (S, I, R, z) Q := RB_aloadnN rfl rfl
set_option maxRecDepth 20000 in
theorem w251_905 : RB d 251 905 [.ref a, l1, l2, l3] st (S, I, R, z) Q = RB d 251 906 [.ref a, l1, l2, l3] (.ref a :: st) (S, I, R, z) Q := RB_aloadn rfl rfl
set_option maxRecDepth 20000 in
theorem w251_905N : RB d 251 905 [.null, l1, l2, l3] st (S, I, R, z) Q = RB d 251 906 [.null, l1, l2, l3] (.null :: st) (S, I, R, z) Q := RB_aloadnN rfl rfl
set_option maxRecDepth 20000 in
theorem w251_906 : RB d 251 906 [l0, l1, l2, .int x] st (S, I, R, z) Q = RB d 251 907 [l0, l1, l2, .int x] (.int x :: st) (S, I, R, z) Q := RB_iloadn rfl rfl
set_option maxRecDepth 20000 in
theorem w251_907 : RB d 251 907 [l0, l1, l2, l3] st (S, I, R, z) Q = RB d 251 908 [l0, l1, l2, l3] (.int 1 :: st) (S, I, R, z) Q := RB_iconst rfl ki1
set_option maxRecDepth 20000 in
theorem w251_908 : RB d 251 908 [l0, l1, l2, l3] (.int y :: .int x :: st) (S, I, R, z) Q = RB d 251 909 [l0, l1, l2, l3] (.int (x + y) :: st) (S, I, R, z) Q := RB_iadd rfl
set_option maxRecDepth 20000 in
theorem w251_909 : RB d 251 909 [l0, l1, l2, l3] (.int i :: .ref a :: st) (S, I, R, z) Q = (((S a).1 = 9 ∧ aIx i (S a).2) ∧ RB d 251 910 [l0, l1, l2, l3] (.int (I a i.toNatClampNeg) :: st) (S, I, R, z) Q) := RB_iald rfl
set_option maxRecDepth 20000 in
theorem w251_910 : RB d 251 910 [.ref a, l1, l2, l3] st (S, I, R, z) Q = RB d 251 911 [.ref a, l1, l2, l3] (.ref a :: st) (S, I, R, z) Q := RB_aloadn rfl rfl
set_option maxRecDepth 20000 in
theorem w251_910N : RB d 251 910 [.null, l1, l2, l3] st (S, I, R, z) Q = RB d 251 911 [.null, l1, l2, l3] (.null :: st) (S, I, R, z) Q := RB_aloadnN rfl rfl
set_option maxRecDepth 20000 in
theorem w251_911 : RB d 251 911 [l0, l1, l2, .int x] st (S, I, R, z) Q = RB d 251 912 [l0, l1, l2, .int x] (.int x :: st) (S, I, R, z) Q := RB_iloadn rfl rfl
set_option maxRecDepth 20000 in
theorem w251_912 : RB d 251 912 [l0, l1, l2, l3] st (S, I, R, z) Q = RB d 251 913 [l0, l1, l2, l3] (.int 2 :: st) (S, I, R, z) Q := RB_iconst rfl ki2
set_option maxRecDepth 20000 in
theorem w251_913 : RB d 251 913 [l0, l1, l2, l3] (.int y :: .int x :: st) (S, I, R, z) Q = RB d 251 914 [l0, l1, l2, l3] (.int (x + y) :: st) (S, I, R, z) Q := RB_iadd rfl
set_option maxRecDepth 20000 in
theorem w251_914 : RB d 251 914 [l0, l1, l2, l3] (.int i :: .ref a :: st) (S, I, R, z) Q = (((S a).1 = 9 ∧ aIx i (S a).2) ∧ RB d 251 915 [l0, l1, l2, l3] (.int (I a i.toNatClampNeg) :: st) (S, I, R, z) Q) := RB_iald rfl
set_option maxRecDepth 20000 in
theorem w251_915 : RB d 251 915 [l0, l1, l2, l3] [.int x1, .int x0, .ref a, s0] (S, I, R, z) Q = ((S a).1 = 7 ∧ RM d 201 [.ref a, .int x0, .int x1] (S, I, R, z) (fun v τ => RB d 251 918 [l0, l1, l2, l3] (aPush v [s0]) τ Q)) := RB_callV (n := 3) (t := 0) (k := 116) (ins := .invokevirtual 116) rfl rfl rfl (by decide) (Nat.le_of_ble_eq_true rfl) (Nat.le_of_ble_eq_true rfl) rfl rfl
set_option maxRecDepth 20000 in
theorem w251_918 : RB d 251 918 [l0, l1, l2, l3] (.int y :: .int x :: st) (S, I, R, z) Q = ((x = y → RB d 251 1523 [l0, l1, l2, l3] st (S, I, R, z) Q) ∧ (¬ x = y → RB d 251 921 [l0, l1, l2, l3] st (S, I, R, z) Q)) := RB_ieq rfl (by decide) rfl
set_option maxRecDepth 20000 in
theorem w251_921 : RB d 251 921 [l0, l1, l2, l3] st (S, I, R, z) Q = RB d 251 922 [l0, l1, l2, l3] (.int 0 :: st) (S, I, R, z) Q := RB_iconst rfl ki0
set_option maxRecDepth 20000 in
theorem w251_922 : RB d 251 922 [l0, l1, l2, l3] [.int x] (S, I, R, z) Q = (narrow .boolean (.int x) = .int x ∧ Q (some (.int x)) (S, I, R, z)) := RB_zret rfl rfl (Or.inl rfl)
set_option maxRecDepth 20000 in
theorem w251_923 : RB d 251 923 [l0, .ref a, l2, l3] st (S, I, R, z) Q = RB d 251 924 [l0, .ref a, l2, l3] (.ref a :: st) (S, I, R, z) Q := RB_aloadn rfl rfl
set_option maxRecDepth 20000 in
theorem w251_923N : RB d 251 923 [l0, .null, l2, l3] st (S, I, R, z) Q = RB d 251 924 [l0, .null, l2, l3] (.null :: st) (S, I, R, z) Q := RB_aloadnN rfl rfl
set_option maxRecDepth 20000 in
theorem w251_924 : RB d 251 924 [l0, l1, l2, l3] [.ref a] (S, I, R, z) Q = ((S a).1 = 6 ∧ RM d 102 [.ref a] (S, I, R, z) (fun v τ => RB d 251 927 [l0, l1, l2, l3] (aPush v []) τ Q)) := RB_callV (n := 1) (t := 0) (k := 117) (ins := .invokevirtual 117) rfl rfl rfl (by decide) (Nat.le_of_ble_eq_true rfl) (Nat.le_of_ble_eq_true rfl) rfl rfl
set_option maxRecDepth 20000 in
theorem w251_927 : RB d 251 927 [l0, l1, .ref a, l3] st (S, I, R, z) Q = RB d 251 928 [l0, l1, .ref a, l3] (.ref a :: st) (S, I, R, z) Q := RB_aloadn rfl rfl
set_option maxRecDepth 20000 in
theorem w251_927N : RB d 251 927 [l0, l1, .null, l3] st (S, I, R, z) Q = RB d 251 928 [l0, l1, .null, l3] (.null :: st) (S, I, R, z) Q := RB_aloadnN rfl rfl
set_option maxRecDepth 20000 in
theorem w251_928 : RB d 251 928 [l0, l1, l2, l3] [.ref a, s0] (S, I, R, z) Q = ((S a).1 = 7 ∧ RM d 202 [.ref a] (S, I, R, z) (fun v τ => RB d 251 931 [l0, l1, l2, l3] (aPush v [s0]) τ Q)) := RB_callV (n := 1) (t := 0) (k := 120) (ins := .invokevirtual 120) rfl rfl rfl (by decide) (Nat.le_of_ble_eq_true rfl) (Nat.le_of_ble_eq_true rfl) rfl rfl
set_option maxRecDepth 20000 in
theorem w251_931 : RB d 251 931 [l0, l1, l2, l3] (.int y :: .int x :: st) (S, I, R, z) Q = ((x = y → RB d 251 1523 [l0, l1, l2, l3] st (S, I, R, z) Q) ∧ (¬ x = y → RB d 251 934 [l0, l1, l2, l3] st (S, I, R, z) Q)) := RB_ieq rfl (by decide) rfl
set_option maxRecDepth 20000 in
theorem w251_934 : RB d 251 934 [l0, l1, l2, l3] st (S, I, R, z) Q = RB d 251 935 [l0, l1, l2, l3] (.int 0 :: st) (S, I, R, z) Q := RB_iconst rfl ki0
set_option maxRecDepth 20000 in
theorem w251_935 : RB d 251 935 [l0, l1, l2, l3] [.int x] (S, I, R, z) Q = (narrow .boolean (.int x) = .int x ∧ Q (some (.int x)) (S, I, R, z)) := RB_zret rfl rfl (Or.inl rfl)
set_option maxRecDepth 20000 in
theorem w251_936 : RB d 251 936 [l0, .ref a, l2, l3] st (S, I, R, z) Q = RB d 251 937 [l0, .ref a, l2, l3] (.ref a :: st) (S, I, R, z) Q := RB_aloadn rfl rfl
set_option maxRecDepth 20000 in
theorem w251_936N : RB d 251 936 [l0, .null, l2, l3] st (S, I, R, z) Q = RB d 251 937 [l0, .null, l2, l3] (.null :: st) (S, I, R, z) Q := RB_aloadnN rfl rfl
set_option maxRecDepth 20000 in
theorem w251_937 : RB d 251 937 [.ref a, l1, l2, l3] st (S, I, R, z) Q = RB d 251 938 [.ref a, l1, l2, l3] (.ref a :: st) (S, I, R, z) Q := RB_aloadn rfl rfl
set_option maxRecDepth 20000 in
theorem w251_937N : RB d 251 937 [.null, l1, l2, l3] st (S, I, R, z) Q = RB d 251 938 [.null, l1, l2, l3] (.null :: st) (S, I, R, z) Q := RB_aloadnN rfl rfl
set_option maxRecDepth 20000 in
theorem w251_938 : RB d 251 938 [l0, l1, l2, .int x] st (S, I, R, z) Q = RB d 251 939 [l0, l1, l2, .int x] (.int x :: st) (S, I, R, z) Q := RB_iloadn rfl rfl
set_option maxRecDepth 20000 in
theorem w251_939 : RB d 251 939 [l0, l1, l2, l3] st (S, I, R, z) Q = RB d 251 940 [l0, l1, l2, l3] (.int 1 :: st) (S, I, R, z) Q := RB_iconst rfl ki1
set_option maxRecDepth 20000 in
theorem w251_940 : RB d 251 940 [l0, l1, l2, l3] (.int y :: .int x :: st) (S, I, R, z) Q = RB d 251 941 [l0, l1, l2, l3] (.int (x + y) :: st) (S, I, R, z) Q := RB_iadd rfl
set_option maxRecDepth 20000 in
theorem w251_941 : RB d 251 941 [l0, l1, l2, l3] (.int i :: .ref a :: st) (S, I, R, z) Q = (((S a).1 = 9 ∧ aIx i (S a).2) ∧ RB d 251 942 [l0, l1, l2, l3] (.int (I a i.toNatClampNeg) :: st) (S, I, R, z) Q) := RB_iald rfl
set_option maxRecDepth 20000 in
theorem w251_942 : RB d 251 942 [.ref a, l1, l2, l3] st (S, I, R, z) Q = RB d 251 943 [.ref a, l1, l2, l3] (.ref a :: st) (S, I, R, z) Q := RB_aloadn rfl rfl
set_option maxRecDepth 20000 in
theorem w251_942N : RB d 251 942 [.null, l1, l2, l3] st (S, I, R, z) Q = RB d 251 943 [.null, l1, l2, l3] (.null :: st) (S, I, R, z) Q := RB_aloadnN rfl rfl
set_option maxRecDepth 20000 in
theorem w251_943 : RB d 251 943 [l0, l1, l2, .int x] st (S, I, R, z) Q = RB d 251 944 [l0, l1, l2, .int x] (.int x :: st) (S, I, R, z) Q := RB_iloadn rfl rfl
set_option maxRecDepth 20000 in
theorem w251_944 : RB d 251 944 [l0, l1, l2, l3] st (S, I, R, z) Q = RB d 251 945 [l0, l1, l2, l3] (.int 2 :: st) (S, I, R, z) Q := RB_iconst rfl ki2
set_option maxRecDepth 20000 in
theorem w251_945 : RB d 251 945 [l0, l1, l2, l3] (.int y :: .int x :: st) (S, I, R, z) Q = RB d 251 946 [l0, l1, l2, l3] (.int (x + y) :: st) (S, I, R, z) Q := RB_iadd rfl
set_option maxRecDepth 20000 in
theorem w251_946 : RB d 251 946 [l0, l1, l2, l3] (.int i :: .ref a :: st) (S, I, R, z) Q = (((S a).1 = 9 ∧ aIx i (S a).2) ∧ RB d 251 947 [l0, l1, l2, l3] (.int (I a i.toNatClampNeg) :: st) (S, I, R, z) Q) := RB_iald rfl
set_option maxRecDepth 20000 in
theorem w251_947 : RB d 251 947 [.ref a, l1, l2, l3] st (S, I, R, z) Q = RB d 251 948 [.ref a, l1, l2, l3] (.ref a :: st) (S, I, R, z) Q := RB_aloadn rfl rfl
set_option maxRecDepth 20000 in
theorem w251_947N : RB d 251 947 [.null, l1, l2, l3] st (S, I, R, z) Q = RB d 251 948 [.null, l1, l2, l3] (.null :: st) (S, I, R, z) Q := RB_aloadnN rfl rfl
set_option maxRecDepth 20000 in
theorem w251_948 : RB d 251 948 [l0, l1, l2, .int x] st (S, I, R, z) Q = RB d 251 949 [l0, l1, l2, .int x] (.int x :: st) (S, I, R, z) Q := RB_iloadn rfl rfl
set_option maxRecDepth 20000 in
theorem w251_949 : RB d 251 949 [l0, l1, l2, l3] st (S, I, R, z) Q = RB d 251 950 [l0, l1, l2, l3] (.int 3 :: st) (S, I, R, z) Q := RB_iconst rfl ki3
set_option maxRecDepth 20000 in
theorem w251_950 : RB d 251 950 [l0, l1, l2, l3] (.int y :: .int x :: st) (S, I, R, z) Q = RB d 251 951 [l0, l1, l2, l3] (.int (x + y) :: st) (S, I, R, z) Q := RB_iadd rfl
set_option maxRecDepth 20000 in
theorem w251_951 : RB d 251 951 [l0, l1, l2, l3] (.int i :: .ref a :: st) (S, I, R, z) Q = (((S a).1 = 9 ∧ aIx i (S a).2) ∧ RB d 251 952 [l0, l1, l2, l3] (.int (I a i.toNatClampNeg) :: st) (S, I, R, z) Q) := RB_iald rfl
set_option maxRecDepth 20000 in
theorem w251_952 : RB d 251 952 [l0, l1, l2, l3] [.int x2, .int x1, .int x0, .ref a] (S, I, R, z) Q = ((S a).1 = 6 ∧ RM d 103 [.ref a, .int x0, .int x1, .int x2] (S, I, R, z) (fun v τ => RB d 251 955 [l0, l1, l2, l3] (aPush v []) τ Q)) := RB_callV (n := 4) (t := 0) (k := 121) (ins := .invokevirtual 121) rfl rfl rfl (by decide) (Nat.le_of_ble_eq_true rfl) (Nat.le_of_ble_eq_true rfl) rfl rfl
set_option maxRecDepth 20000 in
theorem w251_955 : RB d 251 955 [l0, l1, .ref a, l3] st (S, I, R, z) Q = RB d 251 956 [l0, l1, .ref a, l3] (.ref a :: st) (S, I, R, z) Q := RB_aloadn rfl rfl
set_option maxRecDepth 20000 in
theorem w251_955N : RB d 251 955 [l0, l1, .null, l3] st (S, I, R, z) Q = RB d 251 956 [l0, l1, .null, l3] (.null :: st) (S, I, R, z) Q := RB_aloadnN rfl rfl
set_option maxRecDepth 20000 in
theorem w251_956 : RB d 251 956 [.ref a, l1, l2, l3] st (S, I, R, z) Q = RB d 251 957 [.ref a, l1, l2, l3] (.ref a :: st) (S, I, R, z) Q := RB_aloadn rfl rfl
set_option maxRecDepth 20000 in
theorem w251_956N : RB d 251 956 [.null, l1, l2, l3] st (S, I, R, z) Q = RB d 251 957 [.null, l1, l2, l3] (.null :: st) (S, I, R, z) Q := RB_aloadnN rfl rfl
set_option maxRecDepth 20000 in
theorem w251_957 : RB d 251 957 [l0, l1, l2, .int x] st (S, I, R, z) Q = RB d 251 958 [l0, l1, l2, .int x] (.int x :: st) (S, I, R, z) Q := RB_iloadn rfl rfl
set_option maxRecDepth 20000 in
theorem w251_958 : RB d 251 958 [l0, l1, l2, l3] st (S, I, R, z) Q = RB d 251 959 [l0, l1, l2, l3] (.int 1 :: st) (S, I, R, z) Q := RB_iconst rfl ki1
set_option maxRecDepth 20000 in
theorem w251_959 : RB d 251 959 [l0, l1, l2, l3] (.int y :: .int x :: st) (S, I, R, z) Q = RB d 251 960 [l0, l1, l2, l3] (.int (x + y) :: st) (S, I, R, z) Q := RB_iadd rfl
set_option maxRecDepth 20000 in
theorem w251_960 : RB d 251 960 [l0, l1, l2, l3] (.int i :: .ref a :: st) (S, I, R, z) Q = (((S a).1 = 9 ∧ aIx i (S a).2) ∧ RB d 251 961 [l0, l1, l2, l3] (.int (I a i.toNatClampNeg) :: st) (S, I, R, z) Q) := RB_iald rfl
set_option maxRecDepth 20000 in
theorem w251_961 : RB d 251 961 [.ref a, l1, l2, l3] st (S, I, R, z) Q = RB d 251 962 [.ref a, l1, l2, l3] (.ref a :: st) (S, I, R, z) Q := RB_aloadn rfl rfl
set_option maxRecDepth 20000 in
theorem w251_961N : RB d 251 961 [.null, l1, l2, l3] st (S, I, R, z) Q = RB d 251 962 [.null, l1, l2, l3] (.null :: st) (S, I, R, z) Q := RB_aloadnN rfl rfl
set_option maxRecDepth 20000 in
theorem w251_962 : RB d 251 962 [l0, l1, l2, .int x] st (S, I, R, z) Q = RB d 251 963 [l0, l1, l2, .int x] (.int x :: st) (S, I, R, z) Q := RB_iloadn rfl rfl
set_option maxRecDepth 20000 in
theorem w251_963 : RB d 251 963 [l0, l1, l2, l3] st (S, I, R, z) Q = RB d 251 964 [l0, l1, l2, l3] (.int 2 :: st) (S, I, R, z) Q := RB_iconst rfl ki2
set_option maxRecDepth 20000 in
theorem w251_964 : RB d 251 964 [l0, l1, l2, l3] (.int y :: .int x :: st) (S, I, R, z) Q = RB d 251 965 [l0, l1, l2, l3] (.int (x + y) :: st) (S, I, R, z) Q := RB_iadd rfl
set_option maxRecDepth 20000 in
theorem w251_965 : RB d 251 965 [l0, l1, l2, l3] (.int i :: .ref a :: st) (S, I, R, z) Q = (((S a).1 = 9 ∧ aIx i (S a).2) ∧ RB d 251 966 [l0, l1, l2, l3] (.int (I a i.toNatClampNeg) :: st) (S, I, R, z) Q) := RB_iald rfl
set_option maxRecDepth 20000 in
theorem w251_966 : RB d 251 966 [.ref a, l1, l2, l3] st (S, I, R, z) Q = RB d 251 967 [.ref a, l1, l2, l3] (.ref a :: st) (S, I, R, z) Q := RB_aloadn rfl rfl
set_option maxRecDepth 20000 in
theorem w251_966N : RB d 251 966 [.null, l1, l2, l3] st (S, I, R, z) Q = RB d 251 967 [.null, l1, l2, l3] (.null :: st) (S, I, R, z) Q := RB_aloadnN rfl rfl
set_option maxRecDepth 20000 in
theorem w251_967 : RB d 251 967 [l0, l1, l2, .int x] st (S, I, R, z) Q = RB d 251 968 [l0, l1, l2, .int x] (.int x :: st) (S, I, R, z) Q := RB_iloadn rfl rfl
set_option maxRecDepth 20000 in
theorem w251_968 : RB d 251 968 [l0, l1, l2, l3] st (S, I, R, z) Q = RB d 251 969 [l0, l1, l2, l3] (.int 3 :: st) (S, I, R, z) Q := RB_iconst rfl ki3
set_option maxRecDepth 20000 in
theorem w251_969 : RB d 251 969 [l0, l1, l2, l3] (.int y :: .int x :: st) (S, I, R, z) Q = RB d 251 970 [l0, l1, l2, l3] (.int (x + y) :: st) (S, I, R, z) Q := RB_iadd rfl
set_option maxRecDepth 20000 in
theorem w251_970 : RB d 251 970 [l0, l1, l2, l3] (.int i :: .ref a :: st) (S, I, R, z) Q = (((S a).1 = 9 ∧ aIx i (S a).2) ∧ RB d 251 971 [l0, l1, l2, l3] (.int (I a i.toNatClampNeg) :: st) (S, I, R, z) Q) := RB_iald rfl
set_option maxRecDepth 20000 in
theorem w251_971 : RB d 251 971 [l0, l1, l2, l3] [.int x2, .int x1, .int x0, .ref a, s0] (S, I, R, z) Q = ((S a).1 = 7 ∧ RM d 203 [.ref a, .int x0, .int x1, .int x2] (S, I, R, z) (fun v τ => RB d 251 974 [l0, l1, l2, l3] (aPush v [s0]) τ Q)) := RB_callV (n := 4) (t := 0) (k := 124) (ins := .invokevirtual 124) rfl rfl rfl (by decide) (Nat.le_of_ble_eq_true rfl) (Nat.le_of_ble_eq_true rfl) rfl rfl
set_option maxRecDepth 20000 in
theorem w251_974 : RB d 251 974 [l0, l1, l2, l3] (.int y :: .int x :: st) (S, I, R, z) Q = ((x = y → RB d 251 1523 [l0, l1, l2, l3] st (S, I, R, z) Q) ∧ (¬ x = y → RB d 251 977 [l0, l1, l2, l3] st (S, I, R, z) Q)) := RB_ieq rfl (by decide) rfl
set_option maxRecDepth 20000 in
theorem w251_977 : RB d 251 977 [l0, l1, l2, l3] st (S, I, R, z) Q = RB d 251 978 [l0, l1, l2, l3] (.int 0 :: st) (S, I, R, z) Q := RB_iconst rfl ki0
set_option maxRecDepth 20000 in
theorem w251_978 : RB d 251 978 [l0, l1, l2, l3] [.int x] (S, I, R, z) Q = (narrow .boolean (.int x) = .int x ∧ Q (some (.int x)) (S, I, R, z)) := RB_zret rfl rfl (Or.inl rfl)
set_option maxRecDepth 20000 in
theorem w251_979 : RB d 251 979 [l0, .ref a, l2, l3] st (S, I, R, z) Q = RB d 251 980 [l0, .ref a, l2, l3] (.ref a :: st) (S, I, R, z) Q := RB_aloadn rfl rfl
set_option maxRecDepth 20000 in
theorem w251_979N : RB d 251 979 [l0, .null, l2, l3] st (S, I, R, z) Q = RB d 251 980 [l0, .null, l2, l3] (.null :: st) (S, I, R, z) Q := RB_aloadnN rfl rfl
set_option maxRecDepth 20000 in
theorem w251_980 : RB d 251 980 [.ref a, l1, l2, l3] st (S, I, R, z) Q = RB d 251 981 [.ref a, l1, l2, l3] (.ref a :: st) (S, I, R, z) Q := RB_aloadn rfl rfl
set_option maxRecDepth 20000 in
theorem w251_980N : RB d 251 980 [.null, l1, l2, l3] st (S, I, R, z) Q = RB d 251 981 [.null, l1, l2, l3] (.null :: st) (S, I, R, z) Q := RB_aloadnN rfl rfl
set_option maxRecDepth 20000 in
theorem w251_981 : RB d 251 981 [l0, l1, l2, .int x] st (S, I, R, z) Q = RB d 251 982 [l0, l1, l2, .int x] (.int x :: st) (S, I, R, z) Q := RB_iloadn rfl rfl
set_option maxRecDepth 20000 in
theorem w251_982 : RB d 251 982 [l0, l1, l2, l3] st (S, I, R, z) Q = RB d 251 983 [l0, l1, l2, l3] (.int 1 :: st) (S, I, R, z) Q := RB_iconst rfl ki1
set_option maxRecDepth 20000 in
theorem w251_983 : RB d 251 983 [l0, l1, l2, l3] (.int y :: .int x :: st) (S, I, R, z) Q = RB d 251 984 [l0, l1, l2, l3] (.int (x + y) :: st) (S, I, R, z) Q := RB_iadd rfl
set_option maxRecDepth 20000 in
theorem w251_984 : RB d 251 984 [l0, l1, l2, l3] (.int i :: .ref a :: st) (S, I, R, z) Q = (((S a).1 = 9 ∧ aIx i (S a).2) ∧ RB d 251 985 [l0, l1, l2, l3] (.int (I a i.toNatClampNeg) :: st) (S, I, R, z) Q) := RB_iald rfl
set_option maxRecDepth 20000 in
theorem w251_985 : RB d 251 985 [l0, l1, l2, l3] [.int x0, .ref a] (S, I, R, z) Q = ((S a).1 = 6 ∧ RM d 104 [.ref a, .int x0] (S, I, R, z) (fun v τ => RB d 251 988 [l0, l1, l2, l3] (aPush v []) τ Q)) := RB_callV (n := 2) (t := 0) (k := 125) (ins := .invokevirtual 125) rfl rfl rfl (by decide) (Nat.le_of_ble_eq_true rfl) (Nat.le_of_ble_eq_true rfl) rfl rfl
set_option maxRecDepth 20000 in
theorem w251_988 : RB d 251 988 [l0, l1, .ref a, l3] st (S, I, R, z) Q = RB d 251 989 [l0, l1, .ref a, l3] (.ref a :: st) (S, I, R, z) Q := RB_aloadn rfl rfl
set_option maxRecDepth 20000 in
theorem w251_988N : RB d 251 988 [l0, l1, .null, l3] st (S, I, R, z) Q = RB d 251 989 [l0, l1, .null, l3] (.null :: st) (S, I, R, z) Q := RB_aloadnN rfl rfl
set_option maxRecDepth 20000 in
theorem w251_989 : RB d 251 989 [.ref a, l1, l2, l3] st (S, I, R, z) Q = RB d 251 990 [.ref a, l1, l2, l3] (.ref a :: st) (S, I, R, z) Q := RB_aloadn rfl rfl
set_option maxRecDepth 20000 in
theorem w251_989N : RB d 251 989 [.null, l1, l2, l3] st (S, I, R, z) Q = RB d 251 990 [.null, l1, l2, l3] (.null :: st) (S, I, R, z) Q := RB_aloadnN rfl rfl
set_option maxRecDepth 20000 in
theorem w251_990 : RB d 251 990 [l0, l1, l2, .int x] st (S, I, R, z) Q = RB d 251 991 [l0, l1, l2, .int x] (.int x :: st) (S, I, R, z) Q := RB_iloadn rfl rfl
set_option maxRecDepth 20000 in
theorem w251_991 : RB d 251 991 [l0, l1, l2, l3] st (S, I, R, z) Q = RB d 251 992 [l0, l1, l2, l3] (.int 1 :: st) (S, I, R, z) Q := RB_iconst rfl ki1
set_option maxRecDepth 20000 in
theorem w251_992 : RB d 251 992 [l0, l1, l2, l3] (.int y :: .int x :: st) (S, I, R, z) Q = RB d 251 993 [l0, l1, l2, l3] (.int (x + y) :: st) (S, I, R, z) Q := RB_iadd rfl
set_option maxRecDepth 20000 in
theorem w251_993 : RB d 251 993 [l0, l1, l2, l3] (.int i :: .ref a :: st) (S, I, R, z) Q = (((S a).1 = 9 ∧ aIx i (S a).2) ∧ RB d 251 994 [l0, l1, l2, l3] (.int (I a i.toNatClampNeg) :: st) (S, I, R, z) Q) := RB_iald rfl
set_option maxRecDepth 20000 in
theorem w251_994 : RB d 251 994 [l0, l1, l2, l3] [.int x0, .ref a, s0] (S, I, R, z) Q = ((S a).1 = 7 ∧ RM d 204 [.ref a, .int x0] (S, I, R, z) (fun v τ => RB d 251 997 [l0, l1, l2, l3] (aPush v [s0]) τ Q)) := RB_callV (n := 2) (t := 0) (k := 128) (ins := .invokevirtual 128) rfl rfl rfl (by decide) (Nat.le_of_ble_eq_true rfl) (Nat.le_of_ble_eq_true rfl) rfl rfl
set_option maxRecDepth 20000 in
theorem w251_997 : RB d 251 997 [l0, l1, l2, l3] (.int y :: .int x :: st) (S, I, R, z) Q = ((x = y → RB d 251 1523 [l0, l1, l2, l3] st (S, I, R, z) Q) ∧ (¬ x = y → RB d 251 1000 [l0, l1, l2, l3] st (S, I, R, z) Q)) := RB_ieq rfl (by decide) rfl
set_option maxRecDepth 20000 in
theorem w251_1000 : RB d 251 1000 [l0, l1, l2, l3] st (S, I, R, z) Q = RB d 251 1001 [l0, l1, l2, l3] (.int 0 :: st) (S, I, R, z) Q := RB_iconst rfl ki0
set_option maxRecDepth 20000 in
theorem w251_1001 : RB d 251 1001 [l0, l1, l2, l3] [.int x] (S, I, R, z) Q = (narrow .boolean (.int x) = .int x ∧ Q (some (.int x)) (S, I, R, z)) := RB_zret rfl rfl (Or.inl rfl)
set_option maxRecDepth 20000 in
theorem w251_1002 : RB d 251 1002 [l0, .ref a, l2, l3] st (S, I, R, z) Q = RB d 251 1003 [l0, .ref a, l2, l3] (.ref a :: st) (S, I, R, z) Q := RB_aloadn rfl rfl
set_option maxRecDepth 20000 in
theorem w251_1002N : RB d 251 1002 [l0, .null, l2, l3] st (S, I, R, z) Q = RB d 251 1003 [l0, .null, l2, l3] (.null :: st) (S, I, R, z) Q := RB_aloadnN rfl rfl
set_option maxRecDepth 20000 in
theorem w251_1003 : RB d 251 1003 [l0, l1, l2, l3] [.ref a] (S, I, R, z) Q = ((S a).1 = 6 ∧ RM d 105 [.ref a] (S, I, R, z) (fun v τ => RB d 251 1006 [l0, l1, l2, l3] (aPush v []) τ Q)) := RB_callV (n := 1) (t := 0) (k := 129) (ins := .invokevirtual 129) rfl rfl rfl (by decide) (Nat.le_of_ble_eq_true rfl) (Nat.le_of_ble_eq_true rfl) rfl rfl
set_option maxRecDepth 20000 in
theorem w251_1006 : RB d 251 1006 [l0, l1, .ref a, l3] st (S, I, R, z) Q = RB d 251 1007 [l0, l1, .ref a, l3] (.ref a :: st) (S, I, R, z) Q := RB_aloadn rfl rfl
set_option maxRecDepth 20000 in
theorem w251_1006N : RB d 251 1006 [l0, l1, .null, l3] st (S, I, R, z) Q = RB d 251 1007 [l0, l1, .null, l3] (.null :: st) (S, I, R, z) Q := RB_aloadnN rfl rfl
set_option maxRecDepth 20000 in
theorem w251_1007 : RB d 251 1007 [l0, l1, l2, l3] [.ref a, s0] (S, I, R, z) Q = ((S a).1 = 7 ∧ RM d 216 [.ref a] (S, I, R, z) (fun v τ => RB d 251 1010 [l0, l1, l2, l3] (aPush v [s0]) τ Q)) := RB_callV (n := 1) (t := 0) (k := 132) (ins := .invokevirtual 132) rfl rfl rfl (by decide) (Nat.le_of_ble_eq_true rfl) (Nat.le_of_ble_eq_true rfl) rfl rfl
set_option maxRecDepth 20000 in
theorem w251_1010 : RB d 251 1010 [l0, l1, l2, l3] (.int y :: .int x :: st) (S, I, R, z) Q = ((x = y → RB d 251 1523 [l0, l1, l2, l3] st (S, I, R, z) Q) ∧ (¬ x = y → RB d 251 1013 [l0, l1, l2, l3] st (S, I, R, z) Q)) := RB_ieq rfl (by decide) rfl
set_option maxRecDepth 20000 in
theorem w251_1013 : RB d 251 1013 [l0, l1, l2, l3] st (S, I, R, z) Q = RB d 251 1014 [l0, l1, l2, l3] (.int 0 :: st) (S, I, R, z) Q := RB_iconst rfl ki0
set_option maxRecDepth 20000 in
theorem w251_1014 : RB d 251 1014 [l0, l1, l2, l3] [.int x] (S, I, R, z) Q = (narrow .boolean (.int x) = .int x ∧ Q (some (.int x)) (S, I, R, z)) := RB_zret rfl rfl (Or.inl rfl)
set_option maxRecDepth 20000 in
theorem w251_1015 : RB d 251 1015 [l0, .ref a, l2, l3] st (S, I, R, z) Q = RB d 251 1016 [l0, .ref a, l2, l3] (.ref a :: st) (S, I, R, z) Q := RB_aloadn rfl rfl
set_option maxRecDepth 20000 in
theorem w251_1015N : RB d 251 1015 [l0, .null, l2, l3] st (S, I, R, z) Q = RB d 251 1016 [l0, .null, l2, l3] (.null :: st) (S, I, R, z) Q := RB_aloadnN rfl rfl
set_option maxRecDepth 20000 in
theorem w251_1016 : RB d 251 1016 [.ref a, l1, l2, l3] st (S, I, R, z) Q = RB d 251 1017 [.ref a, l1, l2, l3] (.ref a :: st) (S, I, R, z) Q := RB_aloadn rfl rfl
set_option maxRecDepth 20000 in
theorem w251_1016N : RB d 251 1016 [.null, l1, l2, l3] st (S, I, R, z) Q = RB d 251 1017 [.null, l1, l2, l3] (.null :: st) (S, I, R, z) Q := RB_aloadnN rfl rfl
set_option maxRecDepth 20000 in
theorem w251_1017 : RB d 251 1017 [l0, l1, l2, .int x] st (S, I, R, z) Q = RB d 251 1018 [l0, l1, l2, .int x] (.int x :: st) (S, I, R, z) Q := RB_iloadn rfl rfl
set_option maxRecDepth 20000 in
theorem w251_1018 : RB d 251 1018 [l0, l1, l2, l3] st (S, I, R, z) Q = RB d 251 1019 [l0, l1, l2, l3] (.int 1 :: st) (S, I, R, z) Q := RB_iconst rfl ki1
set_option maxRecDepth 20000 in
theorem w251_1019 : RB d 251 1019 [l0, l1, l2, l3] (.int y :: .int x :: st) (S, I, R, z) Q = RB d 251 1020 [l0, l1, l2, l3] (.int (x + y) :: st) (S, I, R, z) Q := RB_iadd rfl
set_option maxRecDepth 20000 in
theorem w251_1020 : RB d 251 1020 [l0, l1, l2, l3] (.int i :: .ref a :: st) (S, I, R, z) Q = (((S a).1 = 9 ∧ aIx i (S a).2) ∧ RB d 251 1021 [l0, l1, l2, l3] (.int (I a i.toNatClampNeg) :: st) (S, I, R, z) Q) := RB_iald rfl
set_option maxRecDepth 20000 in
theorem w251_1021 : RB d 251 1021 [.ref a, l1, l2, l3] st (S, I, R, z) Q = RB d 251 1022 [.ref a, l1, l2, l3] (.ref a :: st) (S, I, R, z) Q := RB_aloadn rfl rfl
set_option maxRecDepth 20000 in
theorem w251_1021N : RB d 251 1021 [.null, l1, l2, l3] st (S, I, R, z) Q = RB d 251 1022 [.null, l1, l2, l3] (.null :: st) (S, I, R, z) Q := RB_aloadnN rfl rfl
set_option maxRecDepth 20000 in
theorem w251_1022 : RB d 251 1022 [l0, l1, l2, .int x] st (S, I, R, z) Q = RB d 251 1023 [l0, l1, l2, .int x] (.int x :: st) (S, I, R, z) Q := RB_iloadn rfl rfl
set_option maxRecDepth 20000 in
theorem w251_1023 : RB d 251 1023 [l0, l1, l2, l3] st (S, I, R, z) Q = RB d 251 1024 [l0, l1, l2, l3] (.int 2 :: st) (S, I, R, z) Q := RB_iconst rfl ki2
set_option maxRecDepth 20000 in
theorem w251_1024 : RB d 251 1024 [l0, l1, l2, l3] (.int y :: .int x :: st) (S, I, R, z) Q = RB d 251 1025 [l0, l1, l2, l3] (.int (x + y) :: st) (S, I, R, z) Q := RB_iadd rfl
set_option maxRecDepth 20000 in
theorem w251_1025 : RB d 251 1025 [l0, l1, l2, l3] (.int i :: .ref a :: st) (S, I, R, z) Q = (((S a).1 = 9 ∧ aIx i (S a).2) ∧ RB d 251 1026 [l0, l1, l2, l3] (.int (I a i.toNatClampNeg) :: st) (S, I, R, z) Q) := RB_iald rfl
set_option maxRecDepth 20000 in
theorem w251_1026 : RB d 251 1026 [l0, l1, l2, l3] [.int x1, .int x0, .ref a] (S, I, R, z) Q = ((S a).1 = 6 ∧ RM d 106 [.ref a, .int x0, .int x1] (S, I, R, z) (fun v τ => RB d 251 1029 [l0, l1, l2, l3] (aPush v []) τ Q)) := RB_callV (n := 3) (t := 0) (k := 133) (ins := .invokevirtual 133) rfl rfl rfl (by decide) (Nat.le_of_ble_eq_true rfl) (Nat.le_of_ble_eq_true rfl) rfl rfl
set_option maxRecDepth 20000 in
theorem w251_1029 : RB d 251 1029 [l0, l1, .ref a, l3] st (S, I, R, z) Q = RB d 251 1030 [l0, l1, .ref a, l3] (.ref a :: st) (S, I, R, z) Q := RB_aloadn rfl rfl
set_option maxRecDepth 20000 in
theorem w251_1029N : RB d 251 1029 [l0, l1, .null, l3] st (S, I, R, z) Q = RB d 251 1030 [l0, l1, .null, l3] (.null :: st) (S, I, R, z) Q := RB_aloadnN rfl rfl
set_option maxRecDepth 20000 in
theorem w251_1030 : RB d 251 1030 [.ref a, l1, l2, l3] st (S, I, R, z) Q = RB d 251 1031 [.ref a, l1, l2, l3] (.ref a :: st) (S, I, R, z) Q := RB_aloadn rfl rfl
set_option maxRecDepth 20000 in
theorem w251_1030N : RB d 251 1030 [.null, l1, l2, l3] st (S, I, R, z) Q = RB d 251 1031 [.null, l1, l2, l3] (.null :: st) (S, I, R, z) Q := RB_aloadnN rfl rfl
set_option maxRecDepth 20000 in
theorem w251_1031 : RB d 251 1031 [l0, l1, l2, .int x] st (S, I, R, z) Q = RB d 251 1032 [l0, l1, l2, .int x] (.int x :: st) (S, I, R, z) Q := RB_iloadn rfl rfl
set_option maxRecDepth 20000 in
theorem w251_1032 : RB d 251 1032 [l0, l1, l2, l3] st (S, I, R, z) Q = RB d 251 1033 [l0, l1, l2, l3] (.int 1 :: st) (S, I, R, z) Q := RB_iconst rfl ki1
set_option maxRecDepth 20000 in
theorem w251_1033 : RB d 251 1033 [l0, l1, l2, l3] (.int y :: .int x :: st) (S, I, R, z) Q = RB d 251 1034 [l0, l1, l2, l3] (.int (x + y) :: st) (S, I, R, z) Q := RB_iadd rfl
set_option maxRecDepth 20000 in
theorem w251_1034 : RB d 251 1034 [l0, l1, l2, l3] (.int i :: .ref a :: st) (S, I, R, z) Q = (((S a).1 = 9 ∧ aIx i (S a).2) ∧ RB d 251 1035 [l0, l1, l2, l3] (.int (I a i.toNatClampNeg) :: st) (S, I, R, z) Q) := RB_iald rfl
set_option maxRecDepth 20000 in
theorem w251_1035 : RB d 251 1035 [.ref a, l1, l2, l3] st (S, I, R, z) Q = RB d 251 1036 [.ref a, l1, l2, l3] (.ref a :: st) (S, I, R, z) Q := RB_aloadn rfl rfl
set_option maxRecDepth 20000 in
theorem w251_1035N : RB d 251 1035 [.null, l1, l2, l3] st (S, I, R, z) Q = RB d 251 1036 [.null, l1, l2, l3] (.null :: st) (S, I, R, z) Q := RB_aloadnN rfl rfl
set_option maxRecDepth 20000 in
theorem w251_1036 : RB d 251 1036 [l0, l1, l2, .int x] st (S, I, R, z) Q = RB d 251 1037 [l0, l1, l2, .int x] (.int x :: st) (S, I, R, z) Q := RB_iloadn rfl rfl
set_option maxRecDepth 20000 in
theorem w251_1037 : RB d 251 1037 [l0, l1, l2, l3] st (S, I, R, z) Q = RB d 251 1038 [l0, l1, l2, l3] (.int 2 :: st) (S, I, R, z) Q := RB_iconst rfl ki2
set_option maxRecDepth 20000 in
theorem w251_1038 : RB d 251 1038 [l0, l1, l2, l3] (.int y :: .int x :: st) (S, I, R, z) Q = RB d 251 1039 [l0, l1, l2, l3] (.int (x + y) :: st) (S, I, R, z) Q := RB_iadd rfl
set_option maxRecDepth 20000 in
theorem w251_1039 : RB d 251 1039 [l0, l1, l2, l3] (.int i :: .ref a :: st) (S, I, R, z) Q = (((S a).1 = 9 ∧ aIx i (S a).2) ∧ RB d 251 1040 [l0, l1, l2, l3] (.int (I a i.toNatClampNeg) :: st) (S, I, R, z) Q) := RB_iald rfl
set_option maxRecDepth 20000 in
theorem w251_1040 : RB d 251 1040 [l0, l1, l2, l3] [.int x1, .int x0, .ref a, s0] (S, I, R, z) Q = ((S a).1 = 7 ∧ RM d 217 [.ref a, .int x0, .int x1] (S, I, R, z) (fun v τ => RB d 251 1043 [l0, l1, l2, l3] (aPush v [s0]) τ Q)) := RB_callV (n := 3) (t := 0) (k := 136) (ins := .invokevirtual 136) rfl rfl rfl (by decide) (Nat.le_of_ble_eq_true rfl) (Nat.le_of_ble_eq_true rfl) rfl rfl
set_option maxRecDepth 20000 in
theorem w251_1043 : RB d 251 1043 [l0, l1, l2, l3] (.int y :: .int x :: st) (S, I, R, z) Q = ((x = y → RB d 251 1523 [l0, l1, l2, l3] st (S, I, R, z) Q) ∧ (¬ x = y → RB d 251 1046 [l0, l1, l2, l3] st (S, I, R, z) Q)) := RB_ieq rfl (by decide) rfl
set_option maxRecDepth 20000 in
theorem w251_1046 : RB d 251 1046 [l0, l1, l2, l3] st (S, I, R, z) Q = RB d 251 1047 [l0, l1, l2, l3] (.int 0 :: st) (S, I, R, z) Q := RB_iconst rfl ki0
set_option maxRecDepth 20000 in
theorem w251_1047 : RB d 251 1047 [l0, l1, l2, l3] [.int x] (S, I, R, z) Q = (narrow .boolean (.int x) = .int x ∧ Q (some (.int x)) (S, I, R, z)) := RB_zret rfl rfl (Or.inl rfl)
set_option maxRecDepth 20000 in
theorem w251_1048 : RB d 251 1048 [l0, .ref a, l2, l3] st (S, I, R, z) Q = RB d 251 1049 [l0, .ref a, l2, l3] (.ref a :: st) (S, I, R, z) Q := RB_aloadn rfl rfl
set_option maxRecDepth 20000 in
theorem w251_1048N : RB d 251 1048 [l0, .null, l2, l3] st (S, I, R, z) Q = RB d 251 1049 [l0, .null, l2, l3] (.null :: st) (S, I, R, z) Q := RB_aloadnN rfl rfl
set_option maxRecDepth 20000 in
theorem w251_1049 : RB d 251 1049 [.ref a, l1, l2, l3] st (S, I, R, z) Q = RB d 251 1050 [.ref a, l1, l2, l3] (.ref a :: st) (S, I, R, z) Q := RB_aloadn rfl rfl
set_option maxRecDepth 20000 in
theorem w251_1049N : RB d 251 1049 [.null, l1, l2, l3] st (S, I, R, z) Q = RB d 251 1050 [.null, l1, l2, l3] (.null :: st) (S, I, R, z) Q := RB_aloadnN rfl rfl
set_option maxRecDepth 20000 in
theorem w251_1050 : RB d 251 1050 [l0, l1, l2, .int x] st (S, I, R, z) Q = RB d 251 1051 [l0, l1, l2, .int x] (.int x :: st) (S, I, R, z) Q := RB_iloadn rfl rfl
set_option maxRecDepth 20000 in
theorem w251_1051 : RB d 251 1051 [l0, l1, l2, l3] st (S, I, R, z) Q = RB d 251 1052 [l0, l1, l2, l3] (.int 1 :: st) (S, I, R, z) Q := RB_iconst rfl ki1
set_option maxRecDepth 20000 in
theorem w251_1052 : RB d 251 1052 [l0, l1, l2, l3] (.int y :: .int x :: st) (S, I, R, z) Q = RB d 251 1053 [l0, l1, l2, l3] (.int (x + y) :: st) (S, I, R, z) Q := RB_iadd rfl
set_option maxRecDepth 20000 in
theorem w251_1053 : RB d 251 1053 [l0, l1, l2, l3] (.int i :: .ref a :: st) (S, I, R, z) Q = (((S a).1 = 9 ∧ aIx i (S a).2) ∧ RB d 251 1054 [l0, l1, l2, l3] (.int (I a i.toNatClampNeg) :: st) (S, I, R, z) Q) := RB_iald rfl
set_option maxRecDepth 20000 in
theorem w251_1054 : RB d 251 1054 [l0, l1, l2, l3] [.int x0, .ref a] (S, I, R, z) Q = ((S a).1 = 6 ∧ RM d 107 [.ref a, .int x0] (S, I, R, z) (fun v τ => RB d 251 1057 [l0, l1, l2, l3] (aPush v []) τ Q)) := RB_callV (n := 2) (t := 0) (k := 137) (ins := .invokevirtual 137) rfl rfl rfl (by decide) (Nat.le_of_ble_eq_true rfl) (Nat.le_of_ble_eq_true rfl) rfl rfl
set_option maxRecDepth 20000 in
theorem w251_1057 : RB d 251 1057 [l0, l1, .ref a, l3] st (S, I, R, z) Q = RB d 251 1058 [l0, l1, .ref a, l3] (.ref a :: st) (S, I, R, z) Q := RB_aloadn rfl rfl
set_option maxRecDepth 20000 in
theorem w251_1057N : RB d 251 1057 [l0, l1, .null, l3] st (S, I, R, z) Q = RB d 251 1058 [l0, l1, .null, l3] (.null :: st) (S, I, R, z) Q := RB_aloadnN rfl rfl
set_option maxRecDepth 20000 in
theorem w251_1058 : RB d 251 1058 [.ref a, l1, l2, l3] st (S, I, R, z) Q = RB d 251 1059 [.ref a, l1, l2, l3] (.ref a :: st) (S, I, R, z) Q := RB_aloadn rfl rfl
set_option maxRecDepth 20000 in
theorem w251_1058N : RB d 251 1058 [.null, l1, l2, l3] st (S, I, R, z) Q = RB d 251 1059 [.null, l1, l2, l3] (.null :: st) (S, I, R, z) Q := RB_aloadnN rfl rfl
set_option maxRecDepth 20000 in
theorem w251_1059 : RB d 251 1059 [l0, l1, l2, .int x] st (S, I, R, z) Q = RB d 251 1060 [l0, l1, l2, .int x] (.int x :: st) (S, I, R, z) Q := RB_iloadn rfl rfl
set_option maxRecDepth 20000 in
theorem w251_1060 : RB d 251 1060 [l0, l1, l2, l3] st (S, I, R, z) Q = RB d 251 1061 [l0, l1, l2, l3] (.int 1 :: st) (S, I, R, z) Q := RB_iconst rfl ki1
set_option maxRecDepth 20000 in
theorem w251_1061 : RB d 251 1061 [l0, l1, l2, l3] (.int y :: .int x :: st) (S, I, R, z) Q = RB d 251 1062 [l0, l1, l2, l3] (.int (x + y) :: st) (S, I, R, z) Q := RB_iadd rfl
set_option maxRecDepth 20000 in
theorem w251_1062 : RB d 251 1062 [l0, l1, l2, l3] (.int i :: .ref a :: st) (S, I, R, z) Q = (((S a).1 = 9 ∧ aIx i (S a).2) ∧ RB d 251 1063 [l0, l1, l2, l3] (.int (I a i.toNatClampNeg) :: st) (S, I, R, z) Q) := RB_iald rfl
set_option maxRecDepth 20000 in
theorem w251_1063 : RB d 251 1063 [l0, l1, l2, l3] [.int x0, .ref a, s0] (S, I, R, z) Q = ((S a).1 = 7 ∧ RM d 219 [.ref a, .int x0] (S, I, R, z) (fun v τ => RB d 251 1066 [l0, l1, l2, l3] (aPush v [s0]) τ Q)) := RB_callV (n := 2) (t := 0) (k := 140) (ins := .invokevirtual 140) rfl rfl rfl (by decide) (Nat.le_of_ble_eq_true rfl) (Nat.le_of_ble_eq_true rfl) rfl rfl
set_option maxRecDepth 20000 in
theorem w251_1066 : RB d 251 1066 [l0, l1, l2, l3] (.int y :: .int x :: st) (S, I, R, z) Q = ((x = y → RB d 251 1523 [l0, l1, l2, l3] st (S, I, R, z) Q) ∧ (¬ x = y → RB d 251 1069 [l0, l1, l2, l3] st (S, I, R, z) Q)) := RB_ieq rfl (by decide) rfl
set_option maxRecDepth 20000 in
theorem w251_1069 : RB d 251 1069 [l0, l1, l2, l3] st (S, I, R, z) Q = RB d 251 1070 [l0, l1, l2, l3] (.int 0 :: st) (S, I, R, z) Q := RB_iconst rfl ki0
set_option maxRecDepth 20000 in
theorem w251_1070 : RB d 251 1070 [l0, l1, l2, l3] [.int x] (S, I, R, z) Q = (narrow .boolean (.int x) = .int x ∧ Q (some (.int x)) (S, I, R, z)) := RB_zret rfl rfl (Or.inl rfl)
set_option maxRecDepth 20000 in
theorem w251_1071 : RB d 251 1071 [l0, .ref a, l2, l3] st (S, I, R, z) Q = RB d 251 1072 [l0, .ref a, l2, l3] (.ref a :: st) (S, I, R, z) Q := RB_aloadn rfl rfl
set_option maxRecDepth 20000 in
theorem w251_1071N : RB d 251 1071 [l0, .null, l2, l3] st (S, I, R, z) Q = RB d 251 1072 [l0, .null, l2, l3] (.null :: st) (S, I, R, z) Q := RB_aloadnN rfl rfl
set_option maxRecDepth 20000 in
theorem w251_1072 : RB d 251 1072 [.ref a, l1, l2, l3] st (S, I, R, z) Q = RB d 251 1073 [.ref a, l1, l2, l3] (.ref a :: st) (S, I, R, z) Q := RB_aloadn rfl rfl
set_option maxRecDepth 20000 in
theorem w251_1072N : RB d 251 1072 [.null, l1, l2, l3] st (S, I, R, z) Q = RB d 251 1073 [.null, l1, l2, l3] (.null :: st) (S, I, R, z) Q := RB_aloadnN rfl rfl
set_option maxRecDepth 20000 in
theorem w251_1073 : RB d 251 1073 [l0, l1, l2, .int x] st (S, I, R, z) Q = RB d 251 1074 [l0, l1, l2, .int x] (.int x :: st) (S, I, R, z) Q := RB_iloadn rfl rfl
set_option maxRecDepth 20000 in
theorem w251_1074 : RB d 251 1074 [l0, l1, l2, l3] st (S, I, R, z) Q = RB d 251 1075 [l0, l1, l2, l3] (.int 1 :: st) (S, I, R, z) Q := RB_iconst rfl ki1
set_option maxRecDepth 20000 in
theorem w251_1075 : RB d 251 1075 [l0, l1, l2, l3] (.int y :: .int x :: st) (S, I, R, z) Q = RB d 251 1076 [l0, l1, l2, l3] (.int (x + y) :: st) (S, I, R, z) Q := RB_iadd rfl
set_option maxRecDepth 20000 in
theorem w251_1076 : RB d 251 1076 [l0, l1, l2, l3] (.int i :: .ref a :: st) (S, I, R, z) Q = (((S a).1 = 9 ∧ aIx i (S a).2) ∧ RB d 251 1077 [l0, l1, l2, l3] (.int (I a i.toNatClampNeg) :: st) (S, I, R, z) Q) := RB_iald rfl
set_option maxRecDepth 20000 in
theorem w251_1077 : RB d 251 1077 [.ref a, l1, l2, l3] st (S, I, R, z) Q = RB d 251 1078 [.ref a, l1, l2, l3] (.ref a :: st) (S, I, R, z) Q := RB_aloadn rfl rfl
set_option maxRecDepth 20000 in
theorem w251_1077N : RB d 251 1077 [.null, l1, l2, l3] st (S, I, R, z) Q = RB d 251 1078 [.null, l1, l2, l3] (.null :: st) (S, I, R, z) Q := RB_aloadnN rfl rfl
set_option maxRecDepth 20000 in
theorem w251_1078 : RB d 251 1078 [l0, l1, l2, .int x] st (S, I, R, z) Q = RB d 251 1079 [l0, l1, l2, .int x] (.int x :: st) (S, I, R, z) Q := RB_iloadn rfl rfl
set_option maxRecDepth 20000 in
theorem w251_1079 : RB d 251 1079 [l0, l1, l2, l3] st (S, I, R, z) Q = RB d 251 1080 [l0, l1, l2, l3] (.int 2 :: st) (S, I, R, z) Q := RB_iconst rfl ki2
set_option maxRecDepth 20000 in
theorem w251_1080 : RB d 251 1080 [l0, l1, l2, l3] (.int y :: .int x :: st) (S, I, R, z) Q = RB d 251 1081 [l0, l1, l2, l3] (.int (x + y) :: st) (S, I, R, z) Q := RB_iadd rfl
set_option maxRecDepth 20000 in
theorem w251_1081 : RB d 251 1081 [l0, l1, l2, l3] (.int i :: .ref a :: st) (S, I, R, z) Q = (((S a).1 = 9 ∧ aIx i (S a).2) ∧ RB d 251 1082 [l0, l1, l2, l3] (.int (I a i.toNatClampNeg) :: st) (S, I, R, z) Q) := RB_iald rfl
set_option maxRecDepth 20000 in
theorem w251_1082 : RB d 251 1082 [.ref a, l1, l2, l3] st (S, I, R, z) Q = RB d 251 1083 [.ref a, l1, l2, l3] (.ref a :: st) (S, I, R, z) Q := RB_aloadn rfl rfl
set_option maxRecDepth 20000 in
theorem w251_1082N : RB d 251 1082 [.null, l1, l2, l3] st (S, I, R, z) Q = RB d 251 1083 [.null, l1, l2, l3] (.null :: st) (S, I, R, z) Q := RB_aloadnN rfl rfl
set_option maxRecDepth 20000 in
theorem w251_1083 : RB d 251 1083 [l0, l1, l2, .int x] st (S, I, R, z) Q = RB d 251 1084 [l0, l1, l2, .int x] (.int x :: st) (S, I, R, z) Q := RB_iloadn rfl rfl
set_option maxRecDepth 20000 in
theorem w251_1084 : RB d 251 1084 [l0, l1, l2, l3] st (S, I, R, z) Q = RB d 251 1085 [l0, l1, l2, l3] (.int 3 :: st) (S, I, R, z) Q := RB_iconst rfl ki3
set_option maxRecDepth 20000 in
theorem w251_1085 : RB d 251 1085 [l0, l1, l2, l3] (.int y :: .int x :: st) (S, I, R, z) Q = RB d 251 1086 [l0, l1, l2, l3] (.int (x + y) :: st) (S, I, R, z) Q := RB_iadd rfl
set_option maxRecDepth 20000 in
theorem w251_1086 : RB d 251 1086 [l0, l1, l2, l3] (.int i :: .ref a :: st) (S, I, R, z) Q = (((S a).1 = 9 ∧ aIx i (S a).2) ∧ RB d 251 1087 [l0, l1, l2, l3] (.int (I a i.toNatClampNeg) :: st) (S, I, R, z) Q) := RB_iald rfl
set_option maxRecDepth 20000 in
theorem w251_1087 : RB d 251 1087 [l0, l1, l2, l3] [.int x2, .int x1, .int x0, .ref a] (S, I, R, z) Q = ((S a).1 = 6 ∧ RM d 108 [.ref a, .int x0, .int x1, .int x2] (S, I, R, z) (fun v τ => RB d 251 1090 [l0, l1, l2, l3] (aPush v []) τ Q)) := RB_callV (n := 4) (t := 0) (k := 141) (ins := .invokevirtual 141) rfl rfl rfl (by decide) (Nat.le_of_ble_eq_true rfl) (Nat.le_of_ble_eq_true rfl) rfl rfl
set_option maxRecDepth 20000 in
theorem w251_1090 : RB d 251 1090 [l0, l1, .ref a, l3] st (S, I, R, z) Q = RB d 251 1091 [l0, l1, .ref a, l3] (.ref a :: st) (S, I, R, z) Q := RB_aloadn rfl rfl
set_option maxRecDepth 20000 in
theorem w251_1090N : RB d 251 1090 [l0, l1, .null, l3] st (S, I, R, z) Q = RB d 251 1091 [l0, l1, .null, l3] (.null :: st) (S, I, R, z) Q := RB_aloadnN rfl rfl
set_option maxRecDepth 20000 in
theorem w251_1091 : RB d 251 1091 [.ref a, l1, l2, l3] st (S, I, R, z) Q = RB d 251 1092 [.ref a, l1, l2, l3] (.ref a :: st) (S, I, R, z) Q := RB_aloadn rfl rfl
set_option maxRecDepth 20000 in
theorem w251_1091N : RB d 251 1091 [.null, l1, l2, l3] st (S, I, R, z) Q = RB d 251 1092 [.null, l1, l2, l3] (.null :: st) (S, I, R, z) Q := RB_aloadnN rfl rfl
set_option maxRecDepth 20000 in
theorem w251_1092 : RB d 251 1092 [l0, l1, l2, .int x] st (S, I, R, z) Q = RB d 251 1093 [l0, l1, l2, .int x] (.int x :: st) (S, I, R, z) Q := RB_iloadn rfl rfl
set_option maxRecDepth 20000 in
theorem w251_1093 : RB d 251 1093 [l0, l1, l2, l3] st (S, I, R, z) Q = RB d 251 1094 [l0, l1, l2, l3] (.int 1 :: st) (S, I, R, z) Q := RB_iconst rfl ki1
set_option maxRecDepth 20000 in
theorem w251_1094 : RB d 251 1094 [l0, l1, l2, l3] (.int y :: .int x :: st) (S, I, R, z) Q = RB d 251 1095 [l0, l1, l2, l3] (.int (x + y) :: st) (S, I, R, z) Q := RB_iadd rfl
set_option maxRecDepth 20000 in
theorem w251_1095 : RB d 251 1095 [l0, l1, l2, l3] (.int i :: .ref a :: st) (S, I, R, z) Q = (((S a).1 = 9 ∧ aIx i (S a).2) ∧ RB d 251 1096 [l0, l1, l2, l3] (.int (I a i.toNatClampNeg) :: st) (S, I, R, z) Q) := RB_iald rfl
set_option maxRecDepth 20000 in
theorem w251_1096 : RB d 251 1096 [.ref a, l1, l2, l3] st (S, I, R, z) Q = RB d 251 1097 [.ref a, l1, l2, l3] (.ref a :: st) (S, I, R, z) Q := RB_aloadn rfl rfl
set_option maxRecDepth 20000 in
theorem w251_1096N : RB d 251 1096 [.null, l1, l2, l3] st (S, I, R, z) Q = RB d 251 1097 [.null, l1, l2, l3] (.null :: st) (S, I, R, z) Q := RB_aloadnN rfl rfl
set_option maxRecDepth 20000 in
theorem w251_1097 : RB d 251 1097 [l0, l1, l2, .int x] st (S, I, R, z) Q = RB d 251 1098 [l0, l1, l2, .int x] (.int x :: st) (S, I, R, z) Q := RB_iloadn rfl rfl
set_option maxRecDepth 20000 in
theorem w251_1098 : RB d 251 1098 [l0, l1, l2, l3] st (S, I, R, z) Q = RB d 251 1099 [l0, l1, l2, l3] (.int 2 :: st) (S, I, R, z) Q := RB_iconst rfl ki2
set_option maxRecDepth 20000 in
theorem w251_1099 : RB d 251 1099 [l0, l1, l2, l3] (.int y :: .int x :: st) (S, I, R, z) Q = RB d 251 1100 [l0, l1, l2, l3] (.int (x + y) :: st) (S, I, R, z) Q := RB_iadd rfl
set_option maxRecDepth 20000 in
theorem w251_1100 : RB d 251 1100 [l0, l1, l2, l3] (.int i :: .ref a :: st) (S, I, R, z) Q = (((S a).1 = 9 ∧ aIx i (S a).2) ∧ RB d 251 1101 [l0, l1, l2, l3] (.int (I a i.toNatClampNeg) :: st) (S, I, R, z) Q) := RB_iald rfl
set_option maxRecDepth 20000 in
theorem w251_1101 : RB d 251 1101 [.ref a, l1, l2, l3] st (S, I, R, z) Q = RB d 251 1102 [.ref a, l1, l2, l3] (.ref a :: st) (S, I, R, z) Q := RB_aloadn rfl rfl
set_option maxRecDepth 20000 in
theorem w251_1101N : RB d 251 1101 [.null, l1, l2, l3] st (S, I, R, z) Q = RB d 251 1102 [.null, l1, l2, l3] (.null :: st) (S, I, R, z) Q := RB_aloadnN rfl rfl
set_option maxRecDepth 20000 in
theorem w251_1102 : RB d 251 1102 [l0, l1, l2, .int x] st (S, I, R, z) Q = RB d 251 1103 [l0, l1, l2, .int x] (.int x :: st) (S, I, R, z) Q := RB_iloadn rfl rfl
set_option maxRecDepth 20000 in
theorem w251_1103 : RB d 251 1103 [l0, l1, l2, l3] st (S, I, R, z) Q = RB d 251 1104 [l0, l1, l2, l3] (.int 3 :: st) (S, I, R, z) Q := RB_iconst rfl ki3
set_option maxRecDepth 20000 in
theorem w251_1104 : RB d 251 1104 [l0, l1, l2, l3] (.int y :: .int x :: st) (S, I, R, z) Q = RB d 251 1105 [l0, l1, l2, l3] (.int (x + y) :: st) (S, I, R, z) Q := RB_iadd rfl
set_option maxRecDepth 20000 in
theorem w251_1105 : RB d 251 1105 [l0, l1, l2, l3] (.int i :: .ref a :: st) (S, I, R, z) Q = (((S a).1 = 9 ∧ aIx i (S a).2) ∧ RB d 251 1106 [l0, l1, l2, l3] (.int (I a i.toNatClampNeg) :: st) (S, I, R, z) Q) := RB_iald rfl
set_option maxRecDepth 20000 in
theorem w251_1106 : RB d 251 1106 [l0, l1, l2, l3] [.int x2, .int x1, .int x0, .ref a, s0] (S, I, R, z) Q = ((S a).1 = 7 ∧ RM d 224 [.ref a, .int x0, .int x1, .int x2] (S, I, R, z) (fun v τ => RB d 251 1109 [l0, l1, l2, l3] (aPush v [s0]) τ Q)) := RB_callV (n := 4) (t := 0) (k := 144) (ins := .invokevirtual 144) rfl rfl rfl (by decide) (Nat.le_of_ble_eq_true rfl) (Nat.le_of_ble_eq_true rfl) rfl rfl
set_option maxRecDepth 20000 in
theorem w251_1109 : RB d 251 1109 [l0, l1, l2, l3] (.int y :: .int x :: st) (S, I, R, z) Q = ((x = y → RB d 251 1523 [l0, l1, l2, l3] st (S, I, R, z) Q) ∧ (¬ x = y → RB d 251 1112 [l0, l1, l2, l3] st (S, I, R, z) Q)) := RB_ieq rfl (by decide) rfl
set_option maxRecDepth 20000 in
theorem w251_1112 : RB d 251 1112 [l0, l1, l2, l3] st (S, I, R, z) Q = RB d 251 1113 [l0, l1, l2, l3] (.int 0 :: st) (S, I, R, z) Q := RB_iconst rfl ki0
set_option maxRecDepth 20000 in
theorem w251_1113 : RB d 251 1113 [l0, l1, l2, l3] [.int x] (S, I, R, z) Q = (narrow .boolean (.int x) = .int x ∧ Q (some (.int x)) (S, I, R, z)) := RB_zret rfl rfl (Or.inl rfl)
set_option maxRecDepth 20000 in
theorem w251_1114 : RB d 251 1114 [l0, .ref a, l2, l3] st (S, I, R, z) Q = RB d 251 1115 [l0, .ref a, l2, l3] (.ref a :: st) (S, I, R, z) Q := RB_aloadn rfl rfl
set_option maxRecDepth 20000 in
theorem w251_1114N : RB d 251 1114 [l0, .null, l2, l3] st (S, I, R, z) Q = RB d 251 1115 [l0, .null, l2, l3] (.null :: st) (S, I, R, z) Q := RB_aloadnN rfl rfl
set_option maxRecDepth 20000 in
theorem w251_1115 : RB d 251 1115 [.ref a, l1, l2, l3] st (S, I, R, z) Q = RB d 251 1116 [.ref a, l1, l2, l3] (.ref a :: st) (S, I, R, z) Q := RB_aloadn rfl rfl
set_option maxRecDepth 20000 in
theorem w251_1115N : RB d 251 1115 [.null, l1, l2, l3] st (S, I, R, z) Q = RB d 251 1116 [.null, l1, l2, l3] (.null :: st) (S, I, R, z) Q := RB_aloadnN rfl rfl
set_option maxRecDepth 20000 in
theorem w251_1116 : RB d 251 1116 [l0, l1, l2, .int x] st (S, I, R, z) Q = RB d 251 1117 [l0, l1, l2, .int x] (.int x :: st) (S, I, R, z) Q := RB_iloadn rfl rfl
set_option maxRecDepth 20000 in
theorem w251_1117 : RB d 251 1117 [l0, l1, l2, l3] st (S, I, R, z) Q = RB d 251 1118 [l0, l1, l2, l3] (.int 1 :: st) (S, I, R, z) Q := RB_iconst rfl ki1
set_option maxRecDepth 20000 in
theorem w251_1118 : RB d 251 1118 [l0, l1, l2, l3] (.int y :: .int x :: st) (S, I, R, z) Q = RB d 251 1119 [l0, l1, l2, l3] (.int (x + y) :: st) (S, I, R, z) Q := RB_iadd rfl
set_option maxRecDepth 20000 in
theorem w251_1119 : RB d 251 1119 [l0, l1, l2, l3] (.int i :: .ref a :: st) (S, I, R, z) Q = (((S a).1 = 9 ∧ aIx i (S a).2) ∧ RB d 251 1120 [l0, l1, l2, l3] (.int (I a i.toNatClampNeg) :: st) (S, I, R, z) Q) := RB_iald rfl
set_option maxRecDepth 20000 in
theorem w251_1120 : RB d 251 1120 [.ref a, l1, l2, l3] st (S, I, R, z) Q = RB d 251 1121 [.ref a, l1, l2, l3] (.ref a :: st) (S, I, R, z) Q := RB_aloadn rfl rfl
set_option maxRecDepth 20000 in
theorem w251_1120N : RB d 251 1120 [.null, l1, l2, l3] st (S, I, R, z) Q = RB d 251 1121 [.null, l1, l2, l3] (.null :: st) (S, I, R, z) Q := RB_aloadnN rfl rfl
set_option maxRecDepth 20000 in
theorem w251_1121 : RB d 251 1121 [l0, l1, l2, .int x] st (S, I, R, z) Q = RB d 251 1122 [l0, l1, l2, .int x] (.int x :: st) (S, I, R, z) Q := RB_iloadn rfl rfl
set_option maxRecDepth 20000 in
theorem w251_1122 : RB d 251 1122 [l0, l1, l2, l3] st (S, I, R, z) Q = RB d 251 1123 [l0, l1, l2, l3] (.int 2 :: st) (S, I, R, z) Q := RB_iconst rfl ki2
set_option maxRecDepth 20000 in
theorem w251_1123 : RB d 251 1123 [l0, l1, l2, l3] (.int y :: .int x :: st) (S, I, R, z) Q = RB d 251 1124 [l0, l1, l2, l3] (.int (x + y) :: st) (S, I, R, z) Q := RB_iadd rfl
set_option maxRecDepth 20000 in
theorem w251_1124 : RB d 251 1124 [l0, l1, l2, l3] (.int i :: .ref a :: st) (S, I, R, z) Q = (((S a).1 = 9 ∧ aIx i (S a).2) ∧ RB d 251 1125 [l0, l1, l2, l3] (.int (I a i.toNatClampNeg) :: st) (S, I, R, z) Q) := RB_iald rfl
set_option maxRecDepth 20000 in
theorem w251_1125 : RB d 251 1125 [.ref a, l1, l2, l3] st (S, I, R, z) Q = RB d 251 1126 [.ref a, l1, l2, l3] (.ref a :: st) (S, I, R, z) Q := RB_aloadn rfl rfl
set_option maxRecDepth 20000 in
theorem w251_1125N : RB d 251 1125 [.null, l1, l2, l3] st (S, I, R, z) Q = RB d 251 1126 [.null, l1, l2, l3] (.null :: st) (S, I, R, z) Q := RB_aloadnN rfl rfl
set_option maxRecDepth 20000 in
theorem w251_1126 : RB d 251 1126 [l0, l1, l2, .int x] st (S, I, R, z) Q = RB d 251 1127 [l0, l1, l2, .int x] (.int x :: st) (S, I, R, z) Q := RB_iloadn rfl rfl
set_option maxRecDepth 20000 in
theorem w251_1127 : RB d 251 1127 [l0, l1, l2, l3] st (S, I, R, z) Q = RB d 251 1128 [l0, l1, l2, l3] (.int 3 :: st) (S, I, R, z) Q := RB_iconst rfl ki3
set_option maxRecDepth 20000 in
theorem w251_1128 : RB d 251 1128 [l0, l1, l2, l3] (.int y :: .int x :: st) (S, I, R, z) Q = RB d 251 1129 [l0, l1, l2, l3] (.int (x + y) :: st) (S, I, R, z) Q := RB_iadd rfl
set_option maxRecDepth 20000 in
theorem w251_1129 : RB d 251 1129 [l0, l1, l2, l3] (.int i :: .ref a :: st) (S, I, R, z) Q = (((S a).1 = 9 ∧ aIx i (S a).2) ∧ RB d 251 1130 [l0, l1, l2, l3] (.int (I a i.toNatClampNeg) :: st) (S, I, R, z) Q) := RB_iald rfl
set_option maxRecDepth 20000 in
theorem w251_1130 : RB d 251 1130 [l0, l1, l2, l3] [.int x2, .int x1, .int x0, .ref a] (S, I, R, z) Q = ((S a).1 = 6 ∧ RM d 109 [.ref a, .int x0, .int x1, .int x2] (S, I, R, z) (fun v τ => RB d 251 1133 [l0, l1, l2, l3] (aPush v []) τ Q)) := RB_callV (n := 4) (t := 0) (k := 145) (ins := .invokevirtual 145) rfl rfl rfl (by decide) (Nat.le_of_ble_eq_true rfl) (Nat.le_of_ble_eq_true rfl) rfl rfl
set_option maxRecDepth 20000 in
theorem w251_1133 : RB d 251 1133 [l0, l1, .ref a, l3] st (S, I, R, z) Q = RB d 251 1134 [l0, l1, .ref a, l3] (.ref a :: st) (S, I, R, z) Q := RB_aloadn rfl rfl
set_option maxRecDepth 20000 in
theorem w251_1133N : RB d 251 1133 [l0, l1, .null, l3] st (S, I, R, z) Q = RB d 251 1134 [l0, l1, .null, l3] (.null :: st) (S, I, R, z) Q := RB_aloadnN rfl rfl
set_option maxRecDepth 20000 in
theorem w251_1134 : RB d 251 1134 [.ref a, l1, l2, l3] st (S, I, R, z) Q = RB d 251 1135 [.ref a, l1, l2, l3] (.ref a :: st) (S, I, R, z) Q := RB_aloadn rfl rfl
set_option maxRecDepth 20000 in
theorem w251_1134N : RB d 251 1134 [.null, l1, l2, l3] st (S, I, R, z) Q = RB d 251 1135 [.null, l1, l2, l3] (.null :: st) (S, I, R, z) Q := RB_aloadnN rfl rfl
set_option maxRecDepth 20000 in
theorem w251_1135 : RB d 251 1135 [l0, l1, l2, .int x] st (S, I, R, z) Q = RB d 251 1136 [l0, l1, l2, .int x] (.int x :: st) (S, I, R, z) Q := RB_iloadn rfl rfl
set_option maxRecDepth 20000 in
theorem w251_1136 : RB d 251 1136 [l0, l1, l2, l3] st (S, I, R, z) Q = RB d 251 1137 [l0, l1, l2, l3] (.int 1 :: st) (S, I, R, z) Q := RB_iconst rfl ki1
set_option maxRecDepth 20000 in
theorem w251_1137 : RB d 251 1137 [l0, l1, l2, l3] (.int y :: .int x :: st) (S, I, R, z) Q = RB d 251 1138 [l0, l1, l2, l3] (.int (x + y) :: st) (S, I, R, z) Q := RB_iadd rfl
set_option maxRecDepth 20000 in
theorem w251_1138 : RB d 251 1138 [l0, l1, l2, l3] (.int i :: .ref a :: st) (S, I, R, z) Q = (((S a).1 = 9 ∧ aIx i (S a).2) ∧ RB d 251 1139 [l0, l1, l2, l3] (.int (I a i.toNatClampNeg) :: st) (S, I, R, z) Q) := RB_iald rfl
set_option maxRecDepth 20000 in
theorem w251_1139 : RB d 251 1139 [.ref a, l1, l2, l3] st (S, I, R, z) Q = RB d 251 1140 [.ref a, l1, l2, l3] (.ref a :: st) (S, I, R, z) Q := RB_aloadn rfl rfl
set_option maxRecDepth 20000 in
theorem w251_1139N : RB d 251 1139 [.null, l1, l2, l3] st (S, I, R, z) Q = RB d 251 1140 [.null, l1, l2, l3] (.null :: st) (S, I, R, z) Q := RB_aloadnN rfl rfl
set_option maxRecDepth 20000 in
theorem w251_1140 : RB d 251 1140 [l0, l1, l2, .int x] st (S, I, R, z) Q = RB d 251 1141 [l0, l1, l2, .int x] (.int x :: st) (S, I, R, z) Q := RB_iloadn rfl rfl
set_option maxRecDepth 20000 in
theorem w251_1141 : RB d 251 1141 [l0, l1, l2, l3] st (S, I, R, z) Q = RB d 251 1142 [l0, l1, l2, l3] (.int 2 :: st) (S, I, R, z) Q := RB_iconst rfl ki2
set_option maxRecDepth 20000 in
theorem w251_1142 : RB d 251 1142 [l0, l1, l2, l3] (.int y :: .int x :: st) (S, I, R, z) Q = RB d 251 1143 [l0, l1, l2, l3] (.int (x + y) :: st) (S, I, R, z) Q := RB_iadd rfl
set_option maxRecDepth 20000 in
theorem w251_1143 : RB d 251 1143 [l0, l1, l2, l3] (.int i :: .ref a :: st) (S, I, R, z) Q = (((S a).1 = 9 ∧ aIx i (S a).2) ∧ RB d 251 1144 [l0, l1, l2, l3] (.int (I a i.toNatClampNeg) :: st) (S, I, R, z) Q) := RB_iald rfl
set_option maxRecDepth 20000 in
theorem w251_1144 : RB d 251 1144 [.ref a, l1, l2, l3] st (S, I, R, z) Q = RB d 251 1145 [.ref a, l1, l2, l3] (.ref a :: st) (S, I, R, z) Q := RB_aloadn rfl rfl
set_option maxRecDepth 20000 in
theorem w251_1144N : RB d 251 1144 [.null, l1, l2, l3] st (S, I, R, z) Q = RB d 251 1145 [.null, l1, l2, l3] (.null :: st) (S, I, R, z) Q := RB_aloadnN rfl rfl
set_option maxRecDepth 20000 in
theorem w251_1145 : RB d 251 1145 [l0, l1, l2, .int x] st (S, I, R, z) Q = RB d 251 1146 [l0, l1, l2, .int x] (.int x :: st) (S, I, R, z) Q := RB_iloadn rfl rfl
set_option maxRecDepth 20000 in
theorem w251_1146 : RB d 251 1146 [l0, l1, l2, l3] st (S, I, R, z) Q = RB d 251 1147 [l0, l1, l2, l3] (.int 3 :: st) (S, I, R, z) Q := RB_iconst rfl ki3
set_option maxRecDepth 20000 in
theorem w251_1147 : RB d 251 1147 [l0, l1, l2, l3] (.int y :: .int x :: st) (S, I, R, z) Q = RB d 251 1148 [l0, l1, l2, l3] (.int (x + y) :: st) (S, I, R, z) Q := RB_iadd rfl
set_option maxRecDepth 20000 in
theorem w251_1148 : RB d 251 1148 [l0, l1, l2, l3] (.int i :: .ref a :: st) (S, I, R, z) Q = (((S a).1 = 9 ∧ aIx i (S a).2) ∧ RB d 251 1149 [l0, l1, l2, l3] (.int (I a i.toNatClampNeg) :: st) (S, I, R, z) Q) := RB_iald rfl
set_option maxRecDepth 20000 in
theorem w251_1149 : RB d 251 1149 [l0, l1, l2, l3] [.int x2, .int x1, .int x0, .ref a, s0] (S, I, R, z) Q = ((S a).1 = 7 ∧ RM d 225 [.ref a, .int x0, .int x1, .int x2] (S, I, R, z) (fun v τ => RB d 251 1152 [l0, l1, l2, l3] (aPush v [s0]) τ Q)) := RB_callV (n := 4) (t := 0) (k := 148) (ins := .invokevirtual 148) rfl rfl rfl (by decide) (Nat.le_of_ble_eq_true rfl) (Nat.le_of_ble_eq_true rfl) rfl rfl
set_option maxRecDepth 20000 in
theorem w251_1152 : RB d 251 1152 [l0, l1, l2, l3] (.int y :: .int x :: st) (S, I, R, z) Q = ((x = y → RB d 251 1523 [l0, l1, l2, l3] st (S, I, R, z) Q) ∧ (¬ x = y → RB d 251 1155 [l0, l1, l2, l3] st (S, I, R, z) Q)) := RB_ieq rfl (by decide) rfl
set_option maxRecDepth 20000 in
theorem w251_1155 : RB d 251 1155 [l0, l1, l2, l3] st (S, I, R, z) Q = RB d 251 1156 [l0, l1, l2, l3] (.int 0 :: st) (S, I, R, z) Q := RB_iconst rfl ki0
set_option maxRecDepth 20000 in
theorem w251_1156 : RB d 251 1156 [l0, l1, l2, l3] [.int x] (S, I, R, z) Q = (narrow .boolean (.int x) = .int x ∧ Q (some (.int x)) (S, I, R, z)) := RB_zret rfl rfl (Or.inl rfl)
set_option maxRecDepth 20000 in
theorem w251_1157 : RB d 251 1157 [l0, .ref a, l2, l3] st (S, I, R, z) Q = RB d 251 1158 [l0, .ref a, l2, l3] (.ref a :: st) (S, I, R, z) Q := RB_aloadn rfl rfl
set_option maxRecDepth 20000 in
theorem w251_1157N : RB d 251 1157 [l0, .null, l2, l3] st (S, I, R, z) Q = RB d 251 1158 [l0, .null, l2, l3] (.null :: st) (S, I, R, z) Q := RB_aloadnN rfl rfl
set_option maxRecDepth 20000 in
theorem w251_1158 : RB d 251 1158 [.ref a, l1, l2, l3] st (S, I, R, z) Q = RB d 251 1159 [.ref a, l1, l2, l3] (.ref a :: st) (S, I, R, z) Q := RB_aloadn rfl rfl
set_option maxRecDepth 20000 in
theorem w251_1158N : RB d 251 1158 [.null, l1, l2, l3] st (S, I, R, z) Q = RB d 251 1159 [.null, l1, l2, l3] (.null :: st) (S, I, R, z) Q := RB_aloadnN rfl rfl
set_option maxRecDepth 20000 in
theorem w251_1159 : RB d 251 1159 [l0, l1, l2, .int x] st (S, I, R, z) Q = RB d 251 1160 [l0, l1, l2, .int x] (.int x :: st) (S, I, R, z) Q := RB_iloadn rfl rfl
set_option maxRecDepth 20000 in
theorem w251_1160 : RB d 251 1160 [l0, l1, l2, l3] st (S, I, R, z) Q = RB d 251 1161 [l0, l1, l2, l3] (.int 1 :: st) (S, I, R, z) Q := RB_iconst rfl ki1
set_option maxRecDepth 20000 in
theorem w251_1161 : RB d 251 1161 [l0, l1, l2, l3] (.int y :: .int x :: st) (S, I, R, z) Q = RB d 251 1162 [l0, l1, l2, l3] (.int (x + y) :: st) (S, I, R, z) Q := RB_iadd rfl
set_option maxRecDepth 20000 in
theorem w251_1162 : RB d 251 1162 [l0, l1, l2, l3] (.int i :: .ref a :: st) (S, I, R, z) Q = (((S a).1 = 9 ∧ aIx i (S a).2) ∧ RB d 251 1163 [l0, l1, l2, l3] (.int (I a i.toNatClampNeg) :: st) (S, I, R, z) Q) := RB_iald rfl
set_option maxRecDepth 20000 in
theorem w251_1163 : RB d 251 1163 [l0, l1, l2, l3] [.int x0, .ref a] (S, I, R, z) Q = ((S a).1 = 6 ∧ RM d 110 [.ref a, .int x0] (S, I, R, z) (fun v τ => RB d 251 1166 [l0, l1, l2, l3] (aPush v []) τ Q)) := RB_callV (n := 2) (t := 0) (k := 149) (ins := .invokevirtual 149) rfl rfl rfl (by decide) (Nat.le_of_ble_eq_true rfl) (Nat.le_of_ble_eq_true rfl) rfl rfl
set_option maxRecDepth 20000 in
theorem w251_1166 : RB d 251 1166 [l0, l1, .ref a, l3] st (S, I, R, z) Q = RB d 251 1167 [l0, l1, .ref a, l3] (.ref a :: st) (S, I, R, z) Q := RB_aloadn rfl rfl
set_option maxRecDepth 20000 in
theorem w251_1166N : RB d 251 1166 [l0, l1, .null, l3] st (S, I, R, z) Q = RB d 251 1167 [l0, l1, .null, l3] (.null :: st) (S, I, R, z) Q := RB_aloadnN rfl rfl
set_option maxRecDepth 20000 in
theorem w251_1167 : RB d 251 1167 [.ref a, l1, l2, l3] st (S, I, R, z) Q = RB d 251 1168 [.ref a, l1, l2, l3] (.ref a :: st) (S, I, R, z) Q := RB_aloadn rfl rfl
set_option maxRecDepth 20000 in
theorem w251_1167N : RB d 251 1167 [.null, l1, l2, l3] st (S, I, R, z) Q = RB d 251 1168 [.null, l1, l2, l3] (.null :: st) (S, I, R, z) Q := RB_aloadnN rfl rfl
set_option maxRecDepth 20000 in
theorem w251_1168 : RB d 251 1168 [l0, l1, l2, .int x] st (S, I, R, z) Q = RB d 251 1169 [l0, l1, l2, .int x] (.int x :: st) (S, I, R, z) Q := RB_iloadn rfl rfl
set_option maxRecDepth 20000 in
theorem w251_1169 : RB d 251 1169 [l0, l1, l2, l3] st (S, I, R, z) Q = RB d 251 1170 [l0, l1, l2, l3] (.int 1 :: st) (S, I, R, z) Q := RB_iconst rfl ki1
set_option maxRecDepth 20000 in
theorem w251_1170 : RB d 251 1170 [l0, l1, l2, l3] (.int y :: .int x :: st) (S, I, R, z) Q = RB d 251 1171 [l0, l1, l2, l3] (.int (x + y) :: st) (S, I, R, z) Q := RB_iadd rfl
set_option maxRecDepth 20000 in
theorem w251_1171 : RB d 251 1171 [l0, l1, l2, l3] (.int i :: .ref a :: st) (S, I, R, z) Q = (((S a).1 = 9 ∧ aIx i (S a).2) ∧ RB d 251 1172 [l0, l1, l2, l3] (.int (I a i.toNatClampNeg) :: st) (S, I, R, z) Q) := RB_iald rfl
set_option maxRecDepth 20000 in
theorem w251_1172 : RB d 251 1172 [l0, l1, l2, l3] [.int x0, .ref a, s0] (S, I, R, z) Q = ((S a).1 = 7 ∧ RM d 226 [.ref a, .int x0] (S, I, R, z) (fun v τ => RB d 251 1175 [l0, l1, l2, l3] (aPush v [s0]) τ Q)) := RB_callV (n := 2) (t := 0) (k := 152) (ins := .invokevirtual 152) rfl rfl rfl (by decide) (Nat.le_of_ble_eq_true rfl) (Nat.le_of_ble_eq_true rfl) rfl rfl
set_option maxRecDepth 20000 in
theorem w251_1175 : RB d 251 1175 [l0, l1, l2, l3] (.int y :: .int x :: st) (S, I, R, z) Q = ((x = y → RB d 251 1523 [l0, l1, l2, l3] st (S, I, R, z) Q) ∧ (¬ x = y → RB d 251 1178 [l0, l1, l2, l3] st (S, I, R, z) Q)) := RB_ieq rfl (by decide) rfl
set_option maxRecDepth 20000 in
theorem w251_1178 : RB d 251 1178 [l0, l1, l2, l3] st (S, I, R, z) Q = RB d 251 1179 [l0, l1, l2, l3] (.int 0 :: st) (S, I, R, z) Q := RB_iconst rfl ki0
set_option maxRecDepth 20000 in
theorem w251_1179 : RB d 251 1179 [l0, l1, l2, l3] [.int x] (S, I, R, z) Q = (narrow .boolean (.int x) = .int x ∧ Q (some (.int x)) (S, I, R, z)) := RB_zret rfl rfl (Or.inl rfl)
set_option maxRecDepth 20000 in
theorem w251_1180 : RB d 251 1180 [l0, .ref a, l2, l3] st (S, I, R, z) Q = RB d 251 1181 [l0, .ref a, l2, l3] (.ref a :: st) (S, I, R, z) Q := RB_aloadn rfl rfl
set_option maxRecDepth 20000 in
theorem w251_1180N : RB d 251 1180 [l0, .null, l2, l3] st (S, I, R, z) Q = RB d 251 1181 [l0, .null, l2, l3] (.null :: st) (S, I, R, z) Q := RB_aloadnN rfl rfl
set_option maxRecDepth 20000 in
theorem w251_1181 : RB d 251 1181 [.ref a, l1, l2, l3] st (S, I, R, z) Q = RB d 251 1182 [.ref a, l1, l2, l3] (.ref a :: st) (S, I, R, z) Q := RB_aloadn rfl rfl
set_option maxRecDepth 20000 in
theorem w251_1181N : RB d 251 1181 [.null, l1, l2, l3] st (S, I, R, z) Q = RB d 251 1182 [.null, l1, l2, l3] (.null :: st) (S, I, R, z) Q := RB_aloadnN rfl rfl
set_option maxRecDepth 20000 in
theorem w251_1182 : RB d 251 1182 [l0, l1, l2, .int x] st (S, I, R, z) Q = RB d 251 1183 [l0, l1, l2, .int x] (.int x :: st) (S, I, R, z) Q := RB_iloadn rfl rfl
set_option maxRecDepth 20000 in
theorem w251_1183 : RB d 251 1183 [l0, l1, l2, l3] st (S, I, R, z) Q = RB d 251 1184 [l0, l1, l2, l3] (.int 1 :: st) (S, I, R, z) Q := RB_iconst rfl ki1
set_option maxRecDepth 20000 in
theorem w251_1184 : RB d 251 1184 [l0, l1, l2, l3] (.int y :: .int x :: st) (S, I, R, z) Q = RB d 251 1185 [l0, l1, l2, l3] (.int (x + y) :: st) (S, I, R, z) Q := RB_iadd rfl
set_option maxRecDepth 20000 in
theorem w251_1185 : RB d 251 1185 [l0, l1, l2, l3] (.int i :: .ref a :: st) (S, I, R, z) Q = (((S a).1 = 9 ∧ aIx i (S a).2) ∧ RB d 251 1186 [l0, l1, l2, l3] (.int (I a i.toNatClampNeg) :: st) (S, I, R, z) Q) := RB_iald rfl
set_option maxRecDepth 20000 in
theorem w251_1186 : RB d 251 1186 [.ref a, l1, l2, l3] st (S, I, R, z) Q = RB d 251 1187 [.ref a, l1, l2, l3] (.ref a :: st) (S, I, R, z) Q := RB_aloadn rfl rfl
set_option maxRecDepth 20000 in
theorem w251_1186N : RB d 251 1186 [.null, l1, l2, l3] st (S, I, R, z) Q = RB d 251 1187 [.null, l1, l2, l3] (.null :: st) (S, I, R, z) Q := RB_aloadnN rfl rfl
set_option maxRecDepth 20000 in
theorem w251_1187 : RB d 251 1187 [l0, l1, l2, .int x] st (S, I, R, z) Q = RB d 251 1188 [l0, l1, l2, .int x] (.int x :: st) (S, I, R, z) Q := RB_iloadn rfl rfl
set_option maxRecDepth 20000 in
theorem w251_1188 : RB d 251 1188 [l0, l1, l2, l3] st (S, I, R, z) Q = RB d 251 1189 [l0, l1, l2, l3] (.int 2 :: st) (S, I, R, z) Q := RB_iconst rfl ki2
set_option maxRecDepth 20000 in
theorem w251_1189 : RB d 251 1189 [l0, l1, l2, l3] (.int y :: .int x :: st) (S, I, R, z) Q = RB d 251 1190 [l0, l1, l2, l3] (.int (x + y) :: st) (S, I, R, z) Q := RB_iadd rfl
set_option maxRecDepth 20000 in
theorem w251_1190 : RB d 251 1190 [l0, l1, l2, l3] (.int i :: .ref a :: st) (S, I, R, z) Q = (((S a).1 = 9 ∧ aIx i (S a).2) ∧ RB d 251 1191 [l0, l1, l2, l3] (.int (I a i.toNatClampNeg) :: st) (S, I, R, z) Q) := RB_iald rfl
set_option maxRecDepth 20000 in
theorem w251_1191 : RB d 251 1191 [l0, l1, l2, l3] [.int x1, .int x0, .ref a] (S, I, R, z) Q = ((S a).1 = 6 ∧ RM d 111 [.ref a, .int x0, .int x1] (S, I, R, z) (fun v τ => RB d 251 1194 [l0, l1, l2, l3] (aPush v []) τ Q)) := RB_callV (n := 3) (t := 0) (k := 153) (ins := .invokevirtual 153) rfl rfl rfl (by decide) (Nat.le_of_ble_eq_true rfl) (Nat.le_of_ble_eq_true rfl) rfl rfl
set_option maxRecDepth 20000 in
theorem w251_1194 : RB d 251 1194 [l0, l1, .ref a, l3] st (S, I, R, z) Q = RB d 251 1195 [l0, l1, .ref a, l3] (.ref a :: st) (S, I, R, z) Q := RB_aloadn rfl rfl
set_option maxRecDepth 20000 in
theorem w251_1194N : RB d 251 1194 [l0, l1, .null, l3] st (S, I, R, z) Q = RB d 251 1195 [l0, l1, .null, l3] (.null :: st) (S, I, R, z) Q := RB_aloadnN rfl rfl
set_option maxRecDepth 20000 in
theorem w251_1195 : RB d 251 1195 [.ref a, l1, l2, l3] st (S, I, R, z) Q = RB d 251 1196 [.ref a, l1, l2, l3] (.ref a :: st) (S, I, R, z) Q := RB_aloadn rfl rfl
set_option maxRecDepth 20000 in
theorem w251_1195N : RB d 251 1195 [.null, l1, l2, l3] st (S, I, R, z) Q = RB d 251 1196 [.null, l1, l2, l3] (.null :: st) (S, I, R, z) Q := RB_aloadnN rfl rfl
set_option maxRecDepth 20000 in
theorem w251_1196 : RB d 251 1196 [l0, l1, l2, .int x] st (S, I, R, z) Q = RB d 251 1197 [l0, l1, l2, .int x] (.int x :: st) (S, I, R, z) Q := RB_iloadn rfl rfl
set_option maxRecDepth 20000 in
theorem w251_1197 : RB d 251 1197 [l0, l1, l2, l3] st (S, I, R, z) Q = RB d 251 1198 [l0, l1, l2, l3] (.int 1 :: st) (S, I, R, z) Q := RB_iconst rfl ki1
set_option maxRecDepth 20000 in
theorem w251_1198 : RB d 251 1198 [l0, l1, l2, l3] (.int y :: .int x :: st) (S, I, R, z) Q = RB d 251 1199 [l0, l1, l2, l3] (.int (x + y) :: st) (S, I, R, z) Q := RB_iadd rfl
set_option maxRecDepth 20000 in
theorem w251_1199 : RB d 251 1199 [l0, l1, l2, l3] (.int i :: .ref a :: st) (S, I, R, z) Q = (((S a).1 = 9 ∧ aIx i (S a).2) ∧ RB d 251 1200 [l0, l1, l2, l3] (.int (I a i.toNatClampNeg) :: st) (S, I, R, z) Q) := RB_iald rfl
set_option maxRecDepth 20000 in
theorem w251_1200 : RB d 251 1200 [.ref a, l1, l2, l3] st (S, I, R, z) Q = RB d 251 1201 [.ref a, l1, l2, l3] (.ref a :: st) (S, I, R, z) Q := RB_aloadn rfl rfl
set_option maxRecDepth 20000 in
theorem w251_1200N : RB d 251 1200 [.null, l1, l2, l3] st (S, I, R, z) Q = RB d 251 1201 [.null, l1, l2, l3] (.null :: st) (S, I, R, z) Q := RB_aloadnN rfl rfl
set_option maxRecDepth 20000 in
theorem w251_1201 : RB d 251 1201 [l0, l1, l2, .int x] st (S, I, R, z) Q = RB d 251 1202 [l0, l1, l2, .int x] (.int x :: st) (S, I, R, z) Q := RB_iloadn rfl rfl
set_option maxRecDepth 20000 in
theorem w251_1202 : RB d 251 1202 [l0, l1, l2, l3] st (S, I, R, z) Q = RB d 251 1203 [l0, l1, l2, l3] (.int 2 :: st) (S, I, R, z) Q := RB_iconst rfl ki2
set_option maxRecDepth 20000 in
theorem w251_1203 : RB d 251 1203 [l0, l1, l2, l3] (.int y :: .int x :: st) (S, I, R, z) Q = RB d 251 1204 [l0, l1, l2, l3] (.int (x + y) :: st) (S, I, R, z) Q := RB_iadd rfl
set_option maxRecDepth 20000 in
theorem w251_1204 : RB d 251 1204 [l0, l1, l2, l3] (.int i :: .ref a :: st) (S, I, R, z) Q = (((S a).1 = 9 ∧ aIx i (S a).2) ∧ RB d 251 1205 [l0, l1, l2, l3] (.int (I a i.toNatClampNeg) :: st) (S, I, R, z) Q) := RB_iald rfl
set_option maxRecDepth 20000 in
theorem w251_1205 : RB d 251 1205 [l0, l1, l2, l3] [.int x1, .int x0, .ref a, s0] (S, I, R, z) Q = ((S a).1 = 7 ∧ RM d 227 [.ref a, .int x0, .int x1] (S, I, R, z) (fun v τ => RB d 251 1208 [l0, l1, l2, l3] (aPush v [s0]) τ Q)) := RB_callV (n := 3) (t := 0) (k := 156) (ins := .invokevirtual 156) rfl rfl rfl (by decide) (Nat.le_of_ble_eq_true rfl) (Nat.le_of_ble_eq_true rfl) rfl rfl
set_option maxRecDepth 20000 in
theorem w251_1208 : RB d 251 1208 [l0, l1, l2, l3] (.int y :: .int x :: st) (S, I, R, z) Q = ((x = y → RB d 251 1523 [l0, l1, l2, l3] st (S, I, R, z) Q) ∧ (¬ x = y → RB d 251 1211 [l0, l1, l2, l3] st (S, I, R, z) Q)) := RB_ieq rfl (by decide) rfl
set_option maxRecDepth 20000 in
theorem w251_1211 : RB d 251 1211 [l0, l1, l2, l3] st (S, I, R, z) Q = RB d 251 1212 [l0, l1, l2, l3] (.int 0 :: st) (S, I, R, z) Q := RB_iconst rfl ki0
set_option maxRecDepth 20000 in
theorem w251_1212 : RB d 251 1212 [l0, l1, l2, l3] [.int x] (S, I, R, z) Q = (narrow .boolean (.int x) = .int x ∧ Q (some (.int x)) (S, I, R, z)) := RB_zret rfl rfl (Or.inl rfl)
set_option maxRecDepth 20000 in
theorem w251_1213 : RB d 251 1213 [l0, .ref a, l2, l3] st (S, I, R, z) Q = RB d 251 1214 [l0, .ref a, l2, l3] (.ref a :: st) (S, I, R, z) Q := RB_aloadn rfl rfl
set_option maxRecDepth 20000 in
theorem w251_1213N : RB d 251 1213 [l0, .null, l2, l3] st (S, I, R, z) Q = RB d 251 1214 [l0, .null, l2, l3] (.null :: st) (S, I, R, z) Q := RB_aloadnN rfl rfl
set_option maxRecDepth 20000 in
theorem w251_1214 : RB d 251 1214 [.ref a, l1, l2, l3] st (S, I, R, z) Q = RB d 251 1215 [.ref a, l1, l2, l3] (.ref a :: st) (S, I, R, z) Q := RB_aloadn rfl rfl
set_option maxRecDepth 20000 in
theorem w251_1214N : RB d 251 1214 [.null, l1, l2, l3] st (S, I, R, z) Q = RB d 251 1215 [.null, l1, l2, l3] (.null :: st) (S, I, R, z) Q := RB_aloadnN rfl rfl
set_option maxRecDepth 20000 in
theorem w251_1215 : RB d 251 1215 [l0, l1, l2, .int x] st (S, I, R, z) Q = RB d 251 1216 [l0, l1, l2, .int x] (.int x :: st) (S, I, R, z) Q := RB_iloadn rfl rfl
set_option maxRecDepth 20000 in
theorem w251_1216 : RB d 251 1216 [l0, l1, l2, l3] st (S, I, R, z) Q = RB d 251 1217 [l0, l1, l2, l3] (.int 1 :: st) (S, I, R, z) Q := RB_iconst rfl ki1
set_option maxRecDepth 20000 in
theorem w251_1217 : RB d 251 1217 [l0, l1, l2, l3] (.int y :: .int x :: st) (S, I, R, z) Q = RB d 251 1218 [l0, l1, l2, l3] (.int (x + y) :: st) (S, I, R, z) Q := RB_iadd rfl
set_option maxRecDepth 20000 in
theorem w251_1218 : RB d 251 1218 [l0, l1, l2, l3] (.int i :: .ref a :: st) (S, I, R, z) Q = (((S a).1 = 9 ∧ aIx i (S a).2) ∧ RB d 251 1219 [l0, l1, l2, l3] (.int (I a i.toNatClampNeg) :: st) (S, I, R, z) Q) := RB_iald rfl
set_option maxRecDepth 20000 in
theorem w251_1219 : RB d 251 1219 [.ref a, l1, l2, l3] st (S, I, R, z) Q = RB d 251 1220 [.ref a, l1, l2, l3] (.ref a :: st) (S, I, R, z) Q := RB_aloadn rfl rfl
set_option maxRecDepth 20000 in
theorem w251_1219N : RB d 251 1219 [.null, l1, l2, l3] st (S, I, R, z) Q = RB d 251 1220 [.null, l1, l2, l3] (.null :: st) (S, I, R, z) Q := RB_aloadnN rfl rfl
set_option maxRecDepth 20000 in
theorem w251_1220 : RB d 251 1220 [l0, l1, l2, .int x] st (S, I, R, z) Q = RB d 251 1221 [l0, l1, l2, .int x] (.int x :: st) (S, I, R, z) Q := RB_iloadn rfl rfl
set_option maxRecDepth 20000 in
theorem w251_1221 : RB d 251 1221 [l0, l1, l2, l3] st (S, I, R, z) Q = RB d 251 1222 [l0, l1, l2, l3] (.int 2 :: st) (S, I, R, z) Q := RB_iconst rfl ki2
set_option maxRecDepth 20000 in
theorem w251_1222 : RB d 251 1222 [l0, l1, l2, l3] (.int y :: .int x :: st) (S, I, R, z) Q = RB d 251 1223 [l0, l1, l2, l3] (.int (x + y) :: st) (S, I, R, z) Q := RB_iadd rfl
set_option maxRecDepth 20000 in
theorem w251_1223 : RB d 251 1223 [l0, l1, l2, l3] (.int i :: .ref a :: st) (S, I, R, z) Q = (((S a).1 = 9 ∧ aIx i (S a).2) ∧ RB d 251 1224 [l0, l1, l2, l3] (.int (I a i.toNatClampNeg) :: st) (S, I, R, z) Q) := RB_iald rfl
set_option maxRecDepth 20000 in
theorem w251_1224 : RB d 251 1224 [.ref a, l1, l2, l3] st (S, I, R, z) Q = RB d 251 1225 [.ref a, l1, l2, l3] (.ref a :: st) (S, I, R, z) Q := RB_aloadn rfl rfl
set_option maxRecDepth 20000 in
theorem w251_1224N : RB d 251 1224 [.null, l1, l2, l3] st (S, I, R, z) Q = RB d 251 1225 [.null, l1, l2, l3] (.null :: st) (S, I, R, z) Q := RB_aloadnN rfl rfl
set_option maxRecDepth 20000 in
theorem w251_1225 : RB d 251 1225 [l0, l1, l2, .int x] st (S, I, R, z) Q = RB d 251 1226 [l0, l1, l2, .int x] (.int x :: st) (S, I, R, z) Q := RB_iloadn rfl rfl
set_option maxRecDepth 20000 in
theorem w251_1226 : RB d 251 1226 [l0, l1, l2, l3] st (S, I, R, z) Q = RB d 251 1227 [l0, l1, l2, l3] (.int 3 :: st) (S, I, R, z) Q := RB_iconst rfl ki3
set_option maxRecDepth 20000 in
theorem w251_1227 : RB d 251 1227 [l0, l1, l2, l3] (.int y :: .int x :: st) (S, I, R, z) Q = RB d 251 1228 [l0, l1, l2, l3] (.int (x + y) :: st) (S, I, R, z) Q := RB_iadd rfl
set_option maxRecDepth 20000 in
theorem w251_1228 : RB d 251 1228 [l0, l1, l2, l3] (.int i :: .ref a :: st) (S, I, R, z) Q = (((S a).1 = 9 ∧ aIx i (S a).2) ∧ RB d 251 1229 [l0, l1, l2, l3] (.int (I a i.toNatClampNeg) :: st) (S, I, R, z) Q) := RB_iald rfl
set_option maxRecDepth 20000 in
theorem w251_1229 : RB d 251 1229 [.ref a, l1, l2, l3] st (S, I, R, z) Q = RB d 251 1230 [.ref a, l1, l2, l3] (.ref a :: st) (S, I, R, z) Q := RB_aloadn rfl rfl
set_option maxRecDepth 20000 in
theorem w251_1229N : RB d 251 1229 [.null, l1, l2, l3] st (S, I, R, z) Q = RB d 251 1230 [.null, l1, l2, l3] (.null :: st) (S, I, R, z) Q := RB_aloadnN rfl rfl
set_option maxRecDepth 20000 in
theorem w251_1230 : RB d 251 1230 [l0, l1, l2, .int x] st (S, I, R, z) Q = RB d 251 1231 [l0, l1, l2, .int x] (.int x :: st) (S, I, R, z) Q := RB_iloadn rfl rfl
set_option maxRecDepth 20000 in
theorem w251_1231 : RB d 251 1231 [l0, l1, l2, l3] st (S, I, R, z) Q = RB d 251 1232 [l0, l1, l2, l3] (.int 4 :: st) (S, I, R, z) Q := RB_iconst rfl ki4
set_option maxRecDepth 20000 in
theorem w251_1232 : RB d 251 1232 [l0, l1, l2, l3] (.int y :: .int x :: st) (S, I, R, z) Q = RB d 251 1233 [l0, l1, l2, l3] (.int (x + y) :: st) (S, I, R, z) Q := RB_iadd rfl
set_option maxRecDepth 20000 in
theorem w251_1233 : RB d 251 1233 [l0, l1, l2, l3] (.int i :: .ref a :: st) (S, I, R, z) Q = (((S a).1 = 9 ∧ aIx i (S a).2) ∧ RB d 251 1234 [l0, l1, l2, l3] (.int (I a i.toNatClampNeg) :: st) (S, I, R, z) Q) := RB_iald rfl
set_option maxRecDepth 20000 in
theorem w251_1234 : RB d 251 1234 [.ref a, l1, l2, l3] st (S, I, R, z) Q = RB d 251 1235 [.ref a, l1, l2, l3] (.ref a :: st) (S, I, R, z) Q := RB_aloadn rfl rfl
set_option maxRecDepth 20000 in
theorem w251_1234N : RB d 251 1234 [.null, l1, l2, l3] st (S, I, R, z) Q = RB d 251 1235 [.null, l1, l2, l3] (.null :: st) (S, I, R, z) Q := RB_aloadnN rfl rfl
set_option maxRecDepth 20000 in
theorem w251_1235 : RB d 251 1235 [l0, l1, l2, .int x] st (S, I, R, z) Q = RB d 251 1236 [l0, l1, l2, .int x] (.int x :: st) (S, I, R, z) Q := RB_iloadn rfl rfl
set_option maxRecDepth 20000 in
theorem w251_1236 : RB d 251 1236 [l0, l1, l2, l3] st (S, I, R, z) Q = RB d 251 1237 [l0, l1, l2, l3] (.int 5 :: st) (S, I, R, z) Q := RB_iconst rfl ki5
set_option maxRecDepth 20000 in
theorem w251_1237 : RB d 251 1237 [l0, l1, l2, l3] (.int y :: .int x :: st) (S, I, R, z) Q = RB d 251 1238 [l0, l1, l2, l3] (.int (x + y) :: st) (S, I, R, z) Q := RB_iadd rfl
set_option maxRecDepth 20000 in
theorem w251_1238 : RB d 251 1238 [l0, l1, l2, l3] (.int i :: .ref a :: st) (S, I, R, z) Q = (((S a).1 = 9 ∧ aIx i (S a).2) ∧ RB d 251 1239 [l0, l1, l2, l3] (.int (I a i.toNatClampNeg) :: st) (S, I, R, z) Q) := RB_iald rfl
set_option maxRecDepth 20000 in
theorem w251_1239 : RB d 251 1239 [l0, l1, l2, l3] [.int x4, .int x3, .int x2, .int x1, .int x0, .ref a] (S, I, R, z) Q = ((S a).1 = 6 ∧ RM d 112 [.ref a, .int x0, .int x1, .int x2, .int x3, .int x4] (S, I, R, z) (fun v τ => RB d 251 1242 [l0, l1, l2, l3] (aPush v []) τ Q)) := RB_callV (n := 6) (t := 0) (k := 157) (ins := .invokevirtual 157) rfl rfl rfl (by decide) (Nat.le_of_ble_eq_true rfl) (Nat.le_of_ble_eq_true rfl) rfl rfl
set_option maxRecDepth 20000 in
theorem w251_1242 : RB d 251 1242 [l0, l1, .ref a, l3] st (S, I, R, z) Q = RB d 251 1243 [l0, l1, .ref a, l3] (.ref a :: st) (S, I, R, z) Q := RB_aloadn rfl rfl
set_option maxRecDepth 20000 in
theorem w251_1242N : RB d 251 1242 [l0, l1, .null, l3] st (S, I, R, z) Q = RB d 251 1243 [l0, l1, .null, l3] (.null :: st) (S, I, R, z) Q := RB_aloadnN rfl rfl
set_option maxRecDepth 20000 in
theorem w251_1243 : RB d 251 1243 [.ref a, l1, l2, l3] st (S, I, R, z) Q = RB d 251 1244 [.ref a, l1, l2, l3] (.ref a :: st) (S, I, R, z) Q := RB_aloadn rfl rfl
set_option maxRecDepth 20000 in
theorem w251_1243N : RB d 251 1243 [.null, l1, l2, l3] st (S, I, R, z) Q = RB d 251 1244 [.null, l1, l2, l3] (.null :: st) (S, I, R, z) Q := RB_aloadnN rfl rfl
set_option maxRecDepth 20000 in
theorem w251_1244 : RB d 251 1244 [l0, l1, l2, .int x] st (S, I, R, z) Q = RB d 251 1245 [l0, l1, l2, .int x] (.int x :: st) (S, I, R, z) Q := RB_iloadn rfl rfl
set_option maxRecDepth 20000 in
theorem w251_1245 : RB d 251 1245 [l0, l1, l2, l3] st (S, I, R, z) Q = RB d 251 1246 [l0, l1, l2, l3] (.int 1 :: st) (S, I, R, z) Q := RB_iconst rfl ki1
set_option maxRecDepth 20000 in
theorem w251_1246 : RB d 251 1246 [l0, l1, l2, l3] (.int y :: .int x :: st) (S, I, R, z) Q = RB d 251 1247 [l0, l1, l2, l3] (.int (x + y) :: st) (S, I, R, z) Q := RB_iadd rfl
set_option maxRecDepth 20000 in
theorem w251_1247 : RB d 251 1247 [l0, l1, l2, l3] (.int i :: .ref a :: st) (S, I, R, z) Q = (((S a).1 = 9 ∧ aIx i (S a).2) ∧ RB d 251 1248 [l0, l1, l2, l3] (.int (I a i.toNatClampNeg) :: st) (S, I, R, z) Q) := RB_iald rfl
set_option maxRecDepth 20000 in
theorem w251_1248 : RB d 251 1248 [.ref a, l1, l2, l3] st (S, I, R, z) Q = RB d 251 1249 [.ref a, l1, l2, l3] (.ref a :: st) (S, I, R, z) Q := RB_aloadn rfl rfl
set_option maxRecDepth 20000 in
theorem w251_1248N : RB d 251 1248 [.null, l1, l2, l3] st (S, I, R, z) Q = RB d 251 1249 [.null, l1, l2, l3] (.null :: st) (S, I, R, z) Q := RB_aloadnN rfl rfl
set_option maxRecDepth 20000 in
theorem w251_1249 : RB d 251 1249 [l0, l1, l2, .int x] st (S, I, R, z) Q = RB d 251 1250 [l0, l1, l2, .int x] (.int x :: st) (S, I, R, z) Q := RB_iloadn rfl rfl
set_option maxRecDepth 20000 in
theorem w251_1250 : RB d 251 1250 [l0, l1, l2, l3] st (S, I, R, z) Q = RB d 251 1251 [l0, l1, l2, l3] (.int 2 :: st) (S, I, R, z) Q := RB_iconst rfl ki2
set_option maxRecDepth 20000 in
theorem w251_1251 : RB d 251 1251 [l0, l1, l2, l3] (.int y :: .int x :: st) (S, I, R, z) Q = RB d 251 1252 [l0, l1, l2, l3] (.int (x + y) :: st) (S, I, R, z) Q := RB_iadd rfl
set_option maxRecDepth 20000 in
theorem w251_1252 : RB d 251 1252 [l0, l1, l2, l3] (.int i :: .ref a :: st) (S, I, R, z) Q = (((S a).1 = 9 ∧ aIx i (S a).2) ∧ RB d 251 1253 [l0, l1, l2, l3] (.int (I a i.toNatClampNeg) :: st) (S, I, R, z) Q) := RB_iald rfl
set_option maxRecDepth 20000 in
theorem w251_1253 : RB d 251 1253 [.ref a, l1, l2, l3] st (S, I, R, z) Q = RB d 251 1254 [.ref a, l1, l2, l3] (.ref a :: st) (S, I, R, z) Q := RB_aloadn rfl rfl
set_option maxRecDepth 20000 in
theorem w251_1253N : RB d 251 1253 [.null, l1, l2, l3] st (S, I, R, z) Q = RB d 251 1254 [.null, l1, l2, l3] (.null :: st) (S, I, R, z) Q := RB_aloadnN rfl rfl
set_option maxRecDepth 20000 in
theorem w251_1254 : RB d 251 1254 [l0, l1, l2, .int x] st (S, I, R, z) Q = RB d 251 1255 [l0, l1, l2, .int x] (.int x :: st) (S, I, R, z) Q := RB_iloadn rfl rfl
set_option maxRecDepth 20000 in
theorem w251_1255 : RB d 251 1255 [l0, l1, l2, l3] st (S, I, R, z) Q = RB d 251 1256 [l0, l1, l2, l3] (.int 3 :: st) (S, I, R, z) Q := RB_iconst rfl ki3
set_option maxRecDepth 20000 in
theorem w251_1256 : RB d 251 1256 [l0, l1, l2, l3] (.int y :: .int x :: st) (S, I, R, z) Q = RB d 251 1257 [l0, l1, l2, l3] (.int (x + y) :: st) (S, I, R, z) Q := RB_iadd rfl
set_option maxRecDepth 20000 in
theorem w251_1257 : RB d 251 1257 [l0, l1, l2, l3] (.int i :: .ref a :: st) (S, I, R, z) Q = (((S a).1 = 9 ∧ aIx i (S a).2) ∧ RB d 251 1258 [l0, l1, l2, l3] (.int (I a i.toNatClampNeg) :: st) (S, I, R, z) Q) := RB_iald rfl
set_option maxRecDepth 20000 in
theorem w251_1258 : RB d 251 1258 [.ref a, l1, l2, l3] st (S, I, R, z) Q = RB d 251 1259 [.ref a, l1, l2, l3] (.ref a :: st) (S, I, R, z) Q := RB_aloadn rfl rfl
set_option maxRecDepth 20000 in
theorem w251_1258N : RB d 251 1258 [.null, l1, l2, l3] st (S, I, R, z) Q = RB d 251 1259 [.null, l1, l2, l3] (.null :: st) (S, I, R, z) Q := RB_aloadnN rfl rfl
set_option maxRecDepth 20000 in
theorem w251_1259 : RB d 251 1259 [l0, l1, l2, .int x] st (S, I, R, z) Q = RB d 251 1260 [l0, l1, l2, .int x] (.int x :: st) (S, I, R, z) Q := RB_iloadn rfl rfl
set_option maxRecDepth 20000 in
theorem w251_1260 : RB d 251 1260 [l0, l1, l2, l3] st (S, I, R, z) Q = RB d 251 1261 [l0, l1, l2, l3] (.int 4 :: st) (S, I, R, z) Q := RB_iconst rfl ki4
set_option maxRecDepth 20000 in
theorem w251_1261 : RB d 251 1261 [l0, l1, l2, l3] (.int y :: .int x :: st) (S, I, R, z) Q = RB d 251 1262 [l0, l1, l2, l3] (.int (x + y) :: st) (S, I, R, z) Q := RB_iadd rfl
set_option maxRecDepth 20000 in
theorem w251_1262 : RB d 251 1262 [l0, l1, l2, l3] (.int i :: .ref a :: st) (S, I, R, z) Q = (((S a).1 = 9 ∧ aIx i (S a).2) ∧ RB d 251 1263 [l0, l1, l2, l3] (.int (I a i.toNatClampNeg) :: st) (S, I, R, z) Q) := RB_iald rfl
set_option maxRecDepth 20000 in
theorem w251_1263 : RB d 251 1263 [.ref a, l1, l2, l3] st (S, I, R, z) Q = RB d 251 1264 [.ref a, l1, l2, l3] (.ref a :: st) (S, I, R, z) Q := RB_aloadn rfl rfl
set_option maxRecDepth 20000 in
theorem w251_1263N : RB d 251 1263 [.null, l1, l2, l3] st (S, I, R, z) Q = RB d 251 1264 [.null, l1, l2, l3] (.null :: st) (S, I, R, z) Q := RB_aloadnN rfl rfl
set_option maxRecDepth 20000 in
theorem w251_1264 : RB d 251 1264 [l0, l1, l2, .int x] st (S, I, R, z) Q = RB d 251 1265 [l0, l1, l2, .int x] (.int x :: st) (S, I, R, z) Q := RB_iloadn rfl rfl
set_option maxRecDepth 20000 in
theorem w251_1265 : RB d 251 1265 [l0, l1, l2, l3] st (S, I, R, z) Q = RB d 251 1266 [l0, l1, l2, l3] (.int 5 :: st) (S, I, R, z) Q := RB_iconst rfl ki5
set_option maxRecDepth 20000 in
theorem w251_1266 : RB d 251 1266 [l0, l1, l2, l3] (.int y :: .int x :: st) (S, I, R, z) Q = RB d 251 1267 [l0, l1, l2, l3] (.int (x + y) :: st) (S, I, R, z) Q := RB_iadd rfl
set_option maxRecDepth 20000 in
theorem w251_1267 : RB d 251 1267 [l0, l1, l2, l3] (.int i :: .ref a :: st) (S, I, R, z) Q = (((S a).1 = 9 ∧ aIx i (S a).2) ∧ RB d 251 1268 [l0, l1, l2, l3] (.int (I a i.toNatClampNeg) :: st) (S, I, R, z) Q) := RB_iald rfl
set_option maxRecDepth 20000 in
theorem w251_1268 : RB d 251 1268 [l0, l1, l2, l3] [.int x4, .int x3, .int x2, .int x1, .int x0, .ref a, s0] (S, I, R, z) Q = ((S a).1 = 7 ∧ RM d 228 [.ref a, .int x0, .int x1, .int x2, .int x3, .int x4] (S, I, R, z) (fun v τ => RB d 251 1271 [l0, l1, l2, l3] (aPush v [s0]) τ Q)) := RB_callV (n := 6) (t := 0) (k := 161) (ins := .invokevirtual 161) rfl rfl rfl (by decide) (Nat.le_of_ble_eq_true rfl) (Nat.le_of_ble_eq_true rfl) rfl rfl
set_option maxRecDepth 20000 in
theorem w251_1271 : RB d 251 1271 [l0, l1, l2, l3] (.int y :: .int x :: st) (S, I, R, z) Q = ((x = y → RB d 251 1523 [l0, l1, l2, l3] st (S, I, R, z) Q) ∧ (¬ x = y → RB d 251 1274 [l0, l1, l2, l3] st (S, I, R, z) Q)) := RB_ieq rfl (by decide) rfl
set_option maxRecDepth 20000 in
theorem w251_1274 : RB d 251 1274 [l0, l1, l2, l3] st (S, I, R, z) Q = RB d 251 1275 [l0, l1, l2, l3] (.int 0 :: st) (S, I, R, z) Q := RB_iconst rfl ki0
set_option maxRecDepth 20000 in
theorem w251_1275 : RB d 251 1275 [l0, l1, l2, l3] [.int x] (S, I, R, z) Q = (narrow .boolean (.int x) = .int x ∧ Q (some (.int x)) (S, I, R, z)) := RB_zret rfl rfl (Or.inl rfl)
set_option maxRecDepth 20000 in
theorem w251_1276 : RB d 251 1276 [l0, .ref a, l2, l3] st (S, I, R, z) Q = RB d 251 1277 [l0, .ref a, l2, l3] (.ref a :: st) (S, I, R, z) Q := RB_aloadn rfl rfl
set_option maxRecDepth 20000 in
theorem w251_1276N : RB d 251 1276 [l0, .null, l2, l3] st (S, I, R, z) Q = RB d 251 1277 [l0, .null, l2, l3] (.null :: st) (S, I, R, z) Q := RB_aloadnN rfl rfl
set_option maxRecDepth 20000 in
theorem w251_1277 : RB d 251 1277 [.ref a, l1, l2, l3] st (S, I, R, z) Q = RB d 251 1278 [.ref a, l1, l2, l3] (.ref a :: st) (S, I, R, z) Q := RB_aloadn rfl rfl
set_option maxRecDepth 20000 in
theorem w251_1277N : RB d 251 1277 [.null, l1, l2, l3] st (S, I, R, z) Q = RB d 251 1278 [.null, l1, l2, l3] (.null :: st) (S, I, R, z) Q := RB_aloadnN rfl rfl
set_option maxRecDepth 20000 in
theorem w251_1278 : RB d 251 1278 [l0, l1, l2, .int x] st (S, I, R, z) Q = RB d 251 1279 [l0, l1, l2, .int x] (.int x :: st) (S, I, R, z) Q := RB_iloadn rfl rfl
set_option maxRecDepth 20000 in
theorem w251_1279 : RB d 251 1279 [l0, l1, l2, l3] st (S, I, R, z) Q = RB d 251 1280 [l0, l1, l2, l3] (.int 1 :: st) (S, I, R, z) Q := RB_iconst rfl ki1
set_option maxRecDepth 20000 in
theorem w251_1280 : RB d 251 1280 [l0, l1, l2, l3] (.int y :: .int x :: st) (S, I, R, z) Q = RB d 251 1281 [l0, l1, l2, l3] (.int (x + y) :: st) (S, I, R, z) Q := RB_iadd rfl
set_option maxRecDepth 20000 in
theorem w251_1281 : RB d 251 1281 [l0, l1, l2, l3] (.int i :: .ref a :: st) (S, I, R, z) Q = (((S a).1 = 9 ∧ aIx i (S a).2) ∧ RB d 251 1282 [l0, l1, l2, l3] (.int (I a i.toNatClampNeg) :: st) (S, I, R, z) Q) := RB_iald rfl
set_option maxRecDepth 20000 in
theorem w251_1282 : RB d 251 1282 [.ref a, l1, l2, l3] st (S, I, R, z) Q = RB d 251 1283 [.ref a, l1, l2, l3] (.ref a :: st) (S, I, R, z) Q := RB_aloadn rfl rfl
set_option maxRecDepth 20000 in
theorem w251_1282N : RB d 251 1282 [.null, l1, l2, l3] st (S, I, R, z) Q = RB d 251 1283 [.null, l1, l2, l3] (.null :: st) (S, I, R, z) Q := RB_aloadnN rfl rfl
set_option maxRecDepth 20000 in
theorem w251_1283 : RB d 251 1283 [l0, l1, l2, .int x] st (S, I, R, z) Q = RB d 251 1284 [l0, l1, l2, .int x] (.int x :: st) (S, I, R, z) Q := RB_iloadn rfl rfl
set_option maxRecDepth 20000 in
theorem w251_1284 : RB d 251 1284 [l0, l1, l2, l3] st (S, I, R, z) Q = RB d 251 1285 [l0, l1, l2, l3] (.int 2 :: st) (S, I, R, z) Q := RB_iconst rfl ki2
set_option maxRecDepth 20000 in
theorem w251_1285 : RB d 251 1285 [l0, l1, l2, l3] (.int y :: .int x :: st) (S, I, R, z) Q = RB d 251 1286 [l0, l1, l2, l3] (.int (x + y) :: st) (S, I, R, z) Q := RB_iadd rfl
set_option maxRecDepth 20000 in
theorem w251_1286 : RB d 251 1286 [l0, l1, l2, l3] (.int i :: .ref a :: st) (S, I, R, z) Q = (((S a).1 = 9 ∧ aIx i (S a).2) ∧ RB d 251 1287 [l0, l1, l2, l3] (.int (I a i.toNatClampNeg) :: st) (S, I, R, z) Q) := RB_iald rfl
set_option maxRecDepth 20000 in
theorem w251_1287 : RB d 251 1287 [.ref a, l1, l2, l3] st (S, I, R, z) Q = RB d 251 1288 [.ref a, l1, l2, l3] (.ref a :: st) (S, I, R, z) Q := RB_aloadn rfl rfl
set_option maxRecDepth 20000 in
theorem w251_1287N : RB d 251 1287 [.null, l1, l2, l3] st (S, I, R, z) Q = RB d 251 1288 [.null, l1, l2, l3] (.null :: st) (S, I, R, z) Q := RB_aloadnN rfl rfl
set_option maxRecDepth 20000 in
theorem w251_1288 : RB d 251 1288 [l0, l1, l2, .int x] st (S, I, R, z) Q = RB d 251 1289 [l0, l1, l2, .int x] (.int x :: st) (S, I, R, z) Q := RB_iloadn rfl rfl
set_option maxRecDepth 20000 in
theorem w251_1289 : RB d 251 1289 [l0, l1, l2, l3] st (S, I, R, z) Q = RB d 251 1290 [l0, l1, l2, l3] (.int 3 :: st) (S, I, R, z) Q := RB_iconst rfl ki3
set_option maxRecDepth 20000 in
theorem w251_1290 : RB d 251 1290 [l0, l1, l2, l3] (.int y :: .int x :: st) (S, I, R, z) Q = RB d 251 1291 [l0, l1, l2, l3] (.int (x + y) :: st) (S, I, R, z) Q := RB_iadd rfl
set_option maxRecDepth 20000 in
theorem w251_1291 : RB d 251 1291 [l0, l1, l2, l3] (.int i :: .ref a :: st) (S, I, R, z) Q = (((S a).1 = 9 ∧ aIx i (S a).2) ∧ RB d 251 1292 [l0, l1, l2, l3] (.int (I a i.toNatClampNeg) :: st) (S, I, R, z) Q) := RB_iald rfl
set_option maxRecDepth 20000 in
theorem w251_1292 : RB d 251 1292 [l0, l1, l2, l3] [.int x2, .int x1, .int x0, .ref a] (S, I, R, z) Q = ((S a).1 = 6 ∧ RM d 113 [.ref a, .int x0, .int x1, .int x2] (S, I, R, z) (fun v τ => RB d 251 1295 [l0, l1, l2, l3] (aPush v []) τ Q)) := RB_callV (n := 4) (t := 0) (k := 162) (ins := .invokevirtual 162) rfl rfl rfl (by decide) (Nat.le_of_ble_eq_true rfl) (Nat.le_of_ble_eq_true rfl) rfl rfl
set_option maxRecDepth 20000 in
theorem w251_1295 : RB d 251 1295 [l0, l1, .ref a, l3] st (S, I, R, z) Q = RB d 251 1296 [l0, l1, .ref a, l3] (.ref a :: st) (S, I, R, z) Q := RB_aloadn rfl rfl
set_option maxRecDepth 20000 in
theorem w251_1295N : RB d 251 1295 [l0, l1, .null, l3] st (S, I, R, z) Q = RB d 251 1296 [l0, l1, .null, l3] (.null :: st) (S, I, R, z) Q := RB_aloadnN rfl rfl
set_option maxRecDepth 20000 in
theorem w251_1296 : RB d 251 1296 [.ref a, l1, l2, l3] st (S, I, R, z) Q = RB d 251 1297 [.ref a, l1, l2, l3] (.ref a :: st) (S, I, R, z) Q := RB_aloadn rfl rfl
set_option maxRecDepth 20000 in
theorem w251_1296N : RB d 251 1296 [.null, l1, l2, l3] st (S, I, R, z) Q = RB d 251 1297 [.null, l1, l2, l3] (.null :: st) (S, I, R, z) Q := RB_aloadnN rfl rfl
set_option maxRecDepth 20000 in
theorem w251_1297 : RB d 251 1297 [l0, l1, l2, .int x] st (S, I, R, z) Q = RB d 251 1298 [l0, l1, l2, .int x] (.int x :: st) (S, I, R, z) Q := RB_iloadn rfl rfl
set_option maxRecDepth 20000 in
theorem w251_1298 : RB d 251 1298 [l0, l1, l2, l3] st (S, I, R, z) Q = RB d 251 1299 [l0, l1, l2, l3] (.int 1 :: st) (S, I, R, z) Q := RB_iconst rfl ki1
set_option maxRecDepth 20000 in
theorem w251_1299 : RB d 251 1299 [l0, l1, l2, l3] (.int y :: .int x :: st) (S, I, R, z) Q = RB d 251 1300 [l0, l1, l2, l3] (.int (x + y) :: st) (S, I, R, z) Q := RB_iadd rfl
set_option maxRecDepth 20000 in
theorem w251_1300 : RB d 251 1300 [l0, l1, l2, l3] (.int i :: .ref a :: st) (S, I, R, z) Q = (((S a).1 = 9 ∧ aIx i (S a).2) ∧ RB d 251 1301 [l0, l1, l2, l3] (.int (I a i.toNatClampNeg) :: st) (S, I, R, z) Q) := RB_iald rfl
set_option maxRecDepth 20000 in
theorem w251_1301 : RB d 251 1301 [.ref a, l1, l2, l3] st (S, I, R, z) Q = RB d 251 1302 [.ref a, l1, l2, l3] (.ref a :: st) (S, I, R, z) Q := RB_aloadn rfl rfl
set_option maxRecDepth 20000 in
theorem w251_1301N : RB d 251 1301 [.null, l1, l2, l3] st (S, I, R, z) Q = RB d 251 1302 [.null, l1, l2, l3] (.null :: st) (S, I, R, z) Q := RB_aloadnN rfl rfl
set_option maxRecDepth 20000 in
theorem w251_1302 : RB d 251 1302 [l0, l1, l2, .int x] st (S, I, R, z) Q = RB d 251 1303 [l0, l1, l2, .int x] (.int x :: st) (S, I, R, z) Q := RB_iloadn rfl rfl
set_option maxRecDepth 20000 in
theorem w251_1303 : RB d 251 1303 [l0, l1, l2, l3] st (S, I, R, z) Q = RB d 251 1304 [l0, l1, l2, l3] (.int 2 :: st) (S, I, R, z) Q := RB_iconst rfl ki2
set_option maxRecDepth 20000 in
theorem w251_1304 : RB d 251 1304 [l0, l1, l2, l3] (.int y :: .int x :: st) (S, I, R, z) Q = RB d 251 1305 [l0, l1, l2, l3] (.int (x + y) :: st) (S, I, R, z) Q := RB_iadd rfl
set_option maxRecDepth 20000 in
theorem w251_1305 : RB d 251 1305 [l0, l1, l2, l3] (.int i :: .ref a :: st) (S, I, R, z) Q = (((S a).1 = 9 ∧ aIx i (S a).2) ∧ RB d 251 1306 [l0, l1, l2, l3] (.int (I a i.toNatClampNeg) :: st) (S, I, R, z) Q) := RB_iald rfl
set_option maxRecDepth 20000 in
theorem w251_1306 : RB d 251 1306 [.ref a, l1, l2, l3] st (S, I, R, z) Q = RB d 251 1307 [.ref a, l1, l2, l3] (.ref a :: st) (S, I, R, z) Q := RB_aloadn rfl rfl
set_option maxRecDepth 20000 in
theorem w251_1306N : RB d 251 1306 [.null, l1, l2, l3] st (S, I, R, z) Q = RB d 251 1307 [.null, l1, l2, l3] (.null :: st) (S, I, R, z) Q := RB_aloadnN rfl rfl
set_option maxRecDepth 20000 in
theorem w251_1307 : RB d 251 1307 [l0, l1, l2, .int x] st (S, I, R, z) Q = RB d 251 1308 [l0, l1, l2, .int x] (.int x :: st) (S, I, R, z) Q := RB_iloadn rfl rfl
set_option maxRecDepth 20000 in
theorem w251_1308 : RB d 251 1308 [l0, l1, l2, l3] st (S, I, R, z) Q = RB d 251 1309 [l0, l1, l2, l3] (.int 3 :: st) (S, I, R, z) Q := RB_iconst rfl ki3
set_option maxRecDepth 20000 in
theorem w251_1309 : RB d 251 1309 [l0, l1, l2, l3] (.int y :: .int x :: st) (S, I, R, z) Q = RB d 251 1310 [l0, l1, l2, l3] (.int (x + y) :: st) (S, I, R, z) Q := RB_iadd rfl
set_option maxRecDepth 20000 in
theorem w251_1310 : RB d 251 1310 [l0, l1, l2, l3] (.int i :: .ref a :: st) (S, I, R, z) Q = (((S a).1 = 9 ∧ aIx i (S a).2) ∧ RB d 251 1311 [l0, l1, l2, l3] (.int (I a i.toNatClampNeg) :: st) (S, I, R, z) Q) := RB_iald rfl
set_option maxRecDepth 20000 in
theorem w251_1311 : RB d 251 1311 [l0, l1, l2, l3] [.int x2, .int x1, .int x0, .ref a, s0] (S, I, R, z) Q = ((S a).1 = 7 ∧ RM d 229 [.ref a, .int x0, .int x1, .int x2] (S, I, R, z) (fun v τ => RB d 251 1314 [l0, l1, l2, l3] (aPush v [s0]) τ Q)) := RB_callV (n := 4) (t := 0) (k := 165) (ins := .invokevirtual 165) rfl rfl rfl (by decide) (Nat.le_of_ble_eq_true rfl) (Nat.le_of_ble_eq_true rfl) rfl rfl
set_option maxRecDepth 20000 in
theorem w251_1314 : RB d 251 1314 [l0, l1, l2, l3] (.int y :: .int x :: st) (S, I, R, z) Q = ((x = y → RB d 251 1523 [l0, l1, l2, l3] st (S, I, R, z) Q) ∧ (¬ x = y → RB d 251 1317 [l0, l1, l2, l3] st (S, I, R, z) Q)) := RB_ieq rfl (by decide) rfl
set_option maxRecDepth 20000 in
theorem w251_1317 : RB d 251 1317 [l0, l1, l2, l3] st (S, I, R, z) Q = RB d 251 1318 [l0, l1, l2, l3] (.int 0 :: st) (S, I, R, z) Q := RB_iconst rfl ki0
set_option maxRecDepth 20000 in
theorem w251_1318 : RB d 251 1318 [l0, l1, l2, l3] [.int x] (S, I, R, z) Q = (narrow .boolean (.int x) = .int x ∧ Q (some (.int x)) (S, I, R, z)) := RB_zret rfl rfl (Or.inl rfl)
set_option maxRecDepth 20000 in
theorem w251_1319 : RB d 251 1319 [l0, .ref a, l2, l3] st (S, I, R, z) Q = RB d 251 1320 [l0, .ref a, l2, l3] (.ref a :: st) (S, I, R, z) Q := RB_aloadn rfl rfl
set_option maxRecDepth 20000 in
theorem w251_1319N : RB d 251 1319 [l0, .null, l2, l3] st (S, I, R, z) Q = RB d 251 1320 [l0, .null, l2, l3] (.null :: st) (S, I, R, z) Q := RB_aloadnN rfl rfl
set_option maxRecDepth 20000 in
theorem w251_1320 : RB d 251 1320 [.ref a, l1, l2, l3] st (S, I, R, z) Q = RB d 251 1321 [.ref a, l1, l2, l3] (.ref a :: st) (S, I, R, z) Q := RB_aloadn rfl rfl
set_option maxRecDepth 20000 in
theorem w251_1320N : RB d 251 1320 [.null, l1, l2, l3] st (S, I, R, z) Q = RB d 251 1321 [.null, l1, l2, l3] (.null :: st) (S, I, R, z) Q := RB_aloadnN rfl rfl
set_option maxRecDepth 20000 in
theorem w251_1321 : RB d 251 1321 [l0, l1, l2, .int x] st (S, I, R, z) Q = RB d 251 1322 [l0, l1, l2, .int x] (.int x :: st) (S, I, R, z) Q := RB_iloadn rfl rfl
set_option maxRecDepth 20000 in
theorem w251_1322 : RB d 251 1322 [l0, l1, l2, l3] st (S, I, R, z) Q = RB d 251 1323 [l0, l1, l2, l3] (.int 1 :: st) (S, I, R, z) Q := RB_iconst rfl ki1
set_option maxRecDepth 20000 in
theorem w251_1323 : RB d 251 1323 [l0, l1, l2, l3] (.int y :: .int x :: st) (S, I, R, z) Q = RB d 251 1324 [l0, l1, l2, l3] (.int (x + y) :: st) (S, I, R, z) Q := RB_iadd rfl
set_option maxRecDepth 20000 in
theorem w251_1324 : RB d 251 1324 [l0, l1, l2, l3] (.int i :: .ref a :: st) (S, I, R, z) Q = (((S a).1 = 9 ∧ aIx i (S a).2) ∧ RB d 251 1325 [l0, l1, l2, l3] (.int (I a i.toNatClampNeg) :: st) (S, I, R, z) Q) := RB_iald rfl
set_option maxRecDepth 20000 in
theorem w251_1325 : RB d 251 1325 [.ref a, l1, l2, l3] st (S, I, R, z) Q = RB d 251 1326 [.ref a, l1, l2, l3] (.ref a :: st) (S, I, R, z) Q := RB_aloadn rfl rfl
set_option maxRecDepth 20000 in
theorem w251_1325N : RB d 251 1325 [.null, l1, l2, l3] st (S, I, R, z) Q = RB d 251 1326 [.null, l1, l2, l3] (.null :: st) (S, I, R, z) Q := RB_aloadnN rfl rfl
set_option maxRecDepth 20000 in
theorem w251_1326 : RB d 251 1326 [l0, l1, l2, .int x] st (S, I, R, z) Q = RB d 251 1327 [l0, l1, l2, .int x] (.int x :: st) (S, I, R, z) Q := RB_iloadn rfl rfl
set_option maxRecDepth 20000 in
theorem w251_1327 : RB d 251 1327 [l0, l1, l2, l3] st (S, I, R, z) Q = RB d 251 1328 [l0, l1, l2, l3] (.int 2 :: st) (S, I, R, z) Q := RB_iconst rfl ki2
set_option maxRecDepth 20000 in
theorem w251_1328 : RB d 251 1328 [l0, l1, l2, l3] (.int y :: .int x :: st) (S, I, R, z) Q = RB d 251 1329 [l0, l1, l2, l3] (.int (x + y) :: st) (S, I, R, z) Q := RB_iadd rfl
set_option maxRecDepth 20000 in
theorem w251_1329 : RB d 251 1329 [l0, l1, l2, l3] (.int i :: .ref a :: st) (S, I, R, z) Q = (((S a).1 = 9 ∧ aIx i (S a).2) ∧ RB d 251 1330 [l0, l1, l2, l3] (.int (I a i.toNatClampNeg) :: st) (S, I, R, z) Q) := RB_iald rfl
set_option maxRecDepth 20000 in
theorem w251_1330 : RB d 251 1330 [l0, l1, l2, l3] [.int x1, .int x0, .ref a] (S, I, R, z) Q = ((S a).1 = 6 ∧ RM d 114 [.ref a, .int x0, .int x1] (S, I, R, z) (fun v τ => RB d 251 1333 [l0, l1, l2, l3] (aPush v []) τ Q)) := RB_callV (n := 3) (t := 0) (k := 166) (ins := .invokevirtual 166) rfl rfl rfl (by decide) (Nat.le_of_ble_eq_true rfl) (Nat.le_of_ble_eq_true rfl) rfl rfl
set_option maxRecDepth 20000 in
theorem w251_1333 : RB d 251 1333 [l0, l1, .ref a, l3] st (S, I, R, z) Q = RB d 251 1334 [l0, l1, .ref a, l3] (.ref a :: st) (S, I, R, z) Q := RB_aloadn rfl rfl
set_option maxRecDepth 20000 in
theorem w251_1333N : RB d 251 1333 [l0, l1, .null, l3] st (S, I, R, z) Q = RB d 251 1334 [l0, l1, .null, l3] (.null :: st) (S, I, R, z) Q := RB_aloadnN rfl rfl
set_option maxRecDepth 20000 in
theorem w251_1334 : RB d 251 1334 [.ref a, l1, l2, l3] st (S, I, R, z) Q = RB d 251 1335 [.ref a, l1, l2, l3] (.ref a :: st) (S, I, R, z) Q := RB_aloadn rfl rfl
set_option maxRecDepth 20000 in
theorem w251_1334N : RB d 251 1334 [.null, l1, l2, l3] st (S, I, R, z) Q = RB d 251 1335 [.null, l1, l2, l3] (.null :: st) (S, I, R, z) Q := RB_aloadnN rfl rfl
set_option maxRecDepth 20000 in
theorem w251_1335 : RB d 251 1335 [l0, l1, l2, .int x] st (S, I, R, z) Q = RB d 251 1336 [l0, l1, l2, .int x] (.int x :: st) (S, I, R, z) Q := RB_iloadn rfl rfl
set_option maxRecDepth 20000 in
theorem w251_1336 : RB d 251 1336 [l0, l1, l2, l3] st (S, I, R, z) Q = RB d 251 1337 [l0, l1, l2, l3] (.int 1 :: st) (S, I, R, z) Q := RB_iconst rfl ki1
set_option maxRecDepth 20000 in
theorem w251_1337 : RB d 251 1337 [l0, l1, l2, l3] (.int y :: .int x :: st) (S, I, R, z) Q = RB d 251 1338 [l0, l1, l2, l3] (.int (x + y) :: st) (S, I, R, z) Q := RB_iadd rfl
set_option maxRecDepth 20000 in
theorem w251_1338 : RB d 251 1338 [l0, l1, l2, l3] (.int i :: .ref a :: st) (S, I, R, z) Q = (((S a).1 = 9 ∧ aIx i (S a).2) ∧ RB d 251 1339 [l0, l1, l2, l3] (.int (I a i.toNatClampNeg) :: st) (S, I, R, z) Q) := RB_iald rfl
set_option maxRecDepth 20000 in
theorem w251_1339 : RB d 251 1339 [.ref a, l1, l2, l3] st (S, I, R, z) Q = RB d 251 1340 [.ref a, l1, l2, l3] (.ref a :: st) (S, I, R, z) Q := RB_aloadn rfl rfl
set_option maxRecDepth 20000 in
theorem w251_1339N : RB d 251 1339 [.null, l1, l2, l3] st (S, I, R, z) Q = RB d 251 1340 [.null, l1, l2, l3] (.null :: st) (S, I, R, z) Q := RB_aloadnN rfl rfl
set_option maxRecDepth 20000 in
theorem w251_1340 : RB d 251 1340 [l0, l1, l2, .int x] st (S, I, R, z) Q = RB d 251 1341 [l0, l1, l2, .int x] (.int x :: st) (S, I, R, z) Q := RB_iloadn rfl rfl
set_option maxRecDepth 20000 in
theorem w251_1341 : RB d 251 1341 [l0, l1, l2, l3] st (S, I, R, z) Q = RB d 251 1342 [l0, l1, l2, l3] (.int 2 :: st) (S, I, R, z) Q := RB_iconst rfl ki2
set_option maxRecDepth 20000 in
theorem w251_1342 : RB d 251 1342 [l0, l1, l2, l3] (.int y :: .int x :: st) (S, I, R, z) Q = RB d 251 1343 [l0, l1, l2, l3] (.int (x + y) :: st) (S, I, R, z) Q := RB_iadd rfl
set_option maxRecDepth 20000 in
theorem w251_1343 : RB d 251 1343 [l0, l1, l2, l3] (.int i :: .ref a :: st) (S, I, R, z) Q = (((S a).1 = 9 ∧ aIx i (S a).2) ∧ RB d 251 1344 [l0, l1, l2, l3] (.int (I a i.toNatClampNeg) :: st) (S, I, R, z) Q) := RB_iald rfl
set_option maxRecDepth 20000 in
theorem w251_1344 : RB d 251 1344 [l0, l1, l2, l3] [.int x1, .int x0, .ref a, s0] (S, I, R, z) Q = ((S a).1 = 7 ∧ RM d 230 [.ref a, .int x0, .int x1] (S, I, R, z) (fun v τ => RB d 251 1347 [l0, l1, l2, l3] (aPush v [s0]) τ Q)) := RB_callV (n := 3) (t := 0) (k := 169) (ins := .invokevirtual 169) rfl rfl rfl (by decide) (Nat.le_of_ble_eq_true rfl) (Nat.le_of_ble_eq_true rfl) rfl rfl
set_option maxRecDepth 20000 in
theorem w251_1347 : RB d 251 1347 [l0, l1, l2, l3] (.int y :: .int x :: st) (S, I, R, z) Q = ((x = y → RB d 251 1523 [l0, l1, l2, l3] st (S, I, R, z) Q) ∧ (¬ x = y → RB d 251 1350 [l0, l1, l2, l3] st (S, I, R, z) Q)) := RB_ieq rfl (by decide) rfl
set_option maxRecDepth 20000 in
theorem w251_1350 : RB d 251 1350 [l0, l1, l2, l3] st (S, I, R, z) Q = RB d 251 1351 [l0, l1, l2, l3] (.int 0 :: st) (S, I, R, z) Q := RB_iconst rfl ki0
set_option maxRecDepth 20000 in
theorem w251_1351 : RB d 251 1351 [l0, l1, l2, l3] [.int x] (S, I, R, z) Q = (narrow .boolean (.int x) = .int x ∧ Q (some (.int x)) (S, I, R, z)) := RB_zret rfl rfl (Or.inl rfl)
set_option maxRecDepth 20000 in
theorem w251_1352 : RB d 251 1352 [l0, .ref a, l2, l3] st (S, I, R, z) Q = RB d 251 1353 [l0, .ref a, l2, l3] (.ref a :: st) (S, I, R, z) Q := RB_aloadn rfl rfl
set_option maxRecDepth 20000 in
theorem w251_1352N : RB d 251 1352 [l0, .null, l2, l3] st (S, I, R, z) Q = RB d 251 1353 [l0, .null, l2, l3] (.null :: st) (S, I, R, z) Q := RB_aloadnN rfl rfl
set_option maxRecDepth 20000 in
theorem w251_1353 : RB d 251 1353 [.ref a, l1, l2, l3] st (S, I, R, z) Q = RB d 251 1354 [.ref a, l1, l2, l3] (.ref a :: st) (S, I, R, z) Q := RB_aloadn rfl rfl
set_option maxRecDepth 20000 in
theorem w251_1353N : RB d 251 1353 [.null, l1, l2, l3] st (S, I, R, z) Q = RB d 251 1354 [.null, l1, l2, l3] (.null :: st) (S, I, R, z) Q := RB_aloadnN rfl rfl
set_option maxRecDepth 20000 in
theorem w251_1354 : RB d 251 1354 [l0, l1, l2, .int x] st (S, I, R, z) Q = RB d 251 1355 [l0, l1, l2, .int x] (.int x :: st) (S, I, R, z) Q := RB_iloadn rfl rfl
set_option maxRecDepth 20000 in
theorem w251_1355 : RB d 251 1355 [l0, l1, l2, l3] st (S, I, R, z) Q = RB d 251 1356 [l0, l1, l2, l3] (.int 1 :: st) (S, I, R, z) Q := RB_iconst rfl ki1
set_option maxRecDepth 20000 in
theorem w251_1356 : RB d 251 1356 [l0, l1, l2, l3] (.int y :: .int x :: st) (S, I, R, z) Q = RB d 251 1357 [l0, l1, l2, l3] (.int (x + y) :: st) (S, I, R, z) Q := RB_iadd rfl
set_option maxRecDepth 20000 in
theorem w251_1357 : RB d 251 1357 [l0, l1, l2, l3] (.int i :: .ref a :: st) (S, I, R, z) Q = (((S a).1 = 9 ∧ aIx i (S a).2) ∧ RB d 251 1358 [l0, l1, l2, l3] (.int (I a i.toNatClampNeg) :: st) (S, I, R, z) Q) := RB_iald rfl
set_option maxRecDepth 20000 in
theorem w251_1358 : RB d 251 1358 [.ref a, l1, l2, l3] st (S, I, R, z) Q = RB d 251 1359 [.ref a, l1, l2, l3] (.ref a :: st) (S, I, R, z) Q := RB_aloadn rfl rfl
set_option maxRecDepth 20000 in
theorem w251_1358N : RB d 251 1358 [.null, l1, l2, l3] st (S, I, R, z) Q = RB d 251 1359 [.null, l1, l2, l3] (.null :: st) (S, I, R, z) Q := RB_aloadnN rfl rfl
set_option maxRecDepth 20000 in
theorem w251_1359 : RB d 251 1359 [l0, l1, l2, .int x] st (S, I, R, z) Q = RB d 251 1360 [l0, l1, l2, .int x] (.int x :: st) (S, I, R, z) Q := RB_iloadn rfl rfl
set_option maxRecDepth 20000 in
theorem w251_1360 : RB d 251 1360 [l0, l1, l2, l3] st (S, I, R, z) Q = RB d 251 1361 [l0, l1, l2, l3] (.int 2 :: st) (S, I, R, z) Q := RB_iconst rfl ki2
set_option maxRecDepth 20000 in
theorem w251_1361 : RB d 251 1361 [l0, l1, l2, l3] (.int y :: .int x :: st) (S, I, R, z) Q = RB d 251 1362 [l0, l1, l2, l3] (.int (x + y) :: st) (S, I, R, z) Q := RB_iadd rfl
set_option maxRecDepth 20000 in
theorem w251_1362 : RB d 251 1362 [l0, l1, l2, l3] (.int i :: .ref a :: st) (S, I, R, z) Q = (((S a).1 = 9 ∧ aIx i (S a).2) ∧ RB d 251 1363 [l0, l1, l2, l3] (.int (I a i.toNatClampNeg) :: st) (S, I, R, z) Q) := RB_iald rfl
set_option maxRecDepth 20000 in
theorem w251_1363 : RB d 251 1363 [l0, l1, l2, l3] [.int x1, .int x0, .ref a] (S, I, R, z) Q = ((S a).1 = 6 ∧ RM d 115 [.ref a, .int x0, .int x1] (S, I, R, z) (fun v τ => RB d 251 1366 [l0, l1, l2, l3] (aPush v []) τ Q)) := RB_callV (n := 3) (t := 0) (k := 170) (ins := .invokevirtual 170) rfl rfl rfl (by decide) (Nat.le_of_ble_eq_true rfl) (Nat.le_of_ble_eq_true rfl) rfl rfl
set_option maxRecDepth 20000 in
theorem w251_1366 : RB d 251 1366 [l0, l1, .ref a, l3] st (S, I, R, z) Q = RB d 251 1367 [l0, l1, .ref a, l3] (.ref a :: st) (S, I, R, z) Q := RB_aloadn rfl rfl
set_option maxRecDepth 20000 in
theorem w251_1366N : RB d 251 1366 [l0, l1, .null, l3] st (S, I, R, z) Q = RB d 251 1367 [l0, l1, .null, l3] (.null :: st) (S, I, R, z) Q := RB_aloadnN rfl rfl
set_option maxRecDepth 20000 in
theorem w251_1367 : RB d 251 1367 [.ref a, l1, l2, l3] st (S, I, R, z) Q = RB d 251 1368 [.ref a, l1, l2, l3] (.ref a :: st) (S, I, R, z) Q := RB_aloadn rfl rfl
set_option maxRecDepth 20000 in
theorem w251_1367N : RB d 251 1367 [.null, l1, l2, l3] st (S, I, R, z) Q = RB d 251 1368 [.null, l1, l2, l3] (.null :: st) (S, I, R, z) Q := RB_aloadnN rfl rfl
set_option maxRecDepth 20000 in
theorem w251_1368 : RB d 251 1368 [l0, l1, l2, .int x] st (S, I, R, z) Q = RB d 251 1369 [l0, l1, l2, .int x] (.int x :: st) (S, I, R, z) Q := RB_iloadn rfl rfl
set_option maxRecDepth 20000 in
theorem w251_1369 : RB d 251 1369 [l0, l1, l2, l3] st (S, I, R, z) Q = RB d 251 1370 [l0, l1, l2, l3] (.int 1 :: st) (S, I, R, z) Q := RB_iconst rfl ki1
set_option maxRecDepth 20000 in
theorem w251_1370 : RB d 251 1370 [l0, l1, l2, l3] (.int y :: .int x :: st) (S, I, R, z) Q = RB d 251 1371 [l0, l1, l2, l3] (.int (x + y) :: st) (S, I, R, z) Q := RB_iadd rfl
set_option maxRecDepth 20000 in
theorem w251_1371 : RB d 251 1371 [l0, l1, l2, l3] (.int i :: .ref a :: st) (S, I, R, z) Q = (((S a).1 = 9 ∧ aIx i (S a).2) ∧ RB d 251 1372 [l0, l1, l2, l3] (.int (I a i.toNatClampNeg) :: st) (S, I, R, z) Q) := RB_iald rfl
set_option maxRecDepth 20000 in
theorem w251_1372 : RB d 251 1372 [.ref a, l1, l2, l3] st (S, I, R, z) Q = RB d 251 1373 [.ref a, l1, l2, l3] (.ref a :: st) (S, I, R, z) Q := RB_aloadn rfl rfl
set_option maxRecDepth 20000 in
theorem w251_1372N : RB d 251 1372 [.null, l1, l2, l3] st (S, I, R, z) Q = RB d 251 1373 [.null, l1, l2, l3] (.null :: st) (S, I, R, z) Q := RB_aloadnN rfl rfl
set_option maxRecDepth 20000 in
theorem w251_1373 : RB d 251 1373 [l0, l1, l2, .int x] st (S, I, R, z) Q = RB d 251 1374 [l0, l1, l2, .int x] (.int x :: st) (S, I, R, z) Q := RB_iloadn rfl rfl
set_option maxRecDepth 20000 in
theorem w251_1374 : RB d 251 1374 [l0, l1, l2, l3] st (S, I, R, z) Q = RB d 251 1375 [l0, l1, l2, l3] (.int 2 :: st) (S, I, R, z) Q := RB_iconst rfl ki2
set_option maxRecDepth 20000 in
theorem w251_1375 : RB d 251 1375 [l0, l1, l2, l3] (.int y :: .int x :: st) (S, I, R, z) Q = RB d 251 1376 [l0, l1, l2, l3] (.int (x + y) :: st) (S, I, R, z) Q := RB_iadd rfl
set_option maxRecDepth 20000 in
theorem w251_1376 : RB d 251 1376 [l0, l1, l2, l3] (.int i :: .ref a :: st) (S, I, R, z) Q = (((S a).1 = 9 ∧ aIx i (S a).2) ∧ RB d 251 1377 [l0, l1, l2, l3] (.int (I a i.toNatClampNeg) :: st) (S, I, R, z) Q) := RB_iald rfl
set_option maxRecDepth 20000 in
theorem w251_1377 : RB d 251 1377 [l0, l1, l2, l3] [.int x1, .int x0, .ref a, s0] (S, I, R, z) Q = ((S a).1 = 7 ∧ RM d 231 [.ref a, .int x0, .int x1] (S, I, R, z) (fun v τ => RB d 251 1380 [l0, l1, l2, l3] (aPush v [s0]) τ Q)) := RB_callV (n := 3) (t := 0) (k := 173) (ins := .invokevirtual 173) rfl rfl rfl (by decide) (Nat.le_of_ble_eq_true rfl) (Nat.le_of_ble_eq_true rfl) rfl rfl
set_option maxRecDepth 20000 in
theorem w251_1380 : RB d 251 1380 [l0, l1, l2, l3] (.int y :: .int x :: st) (S, I, R, z) Q = ((x = y → RB d 251 1523 [l0, l1, l2, l3] st (S, I, R, z) Q) ∧ (¬ x = y → RB d 251 1383 [l0, l1, l2, l3] st (S, I, R, z) Q)) := RB_ieq rfl (by decide) rfl
set_option maxRecDepth 20000 in
theorem w251_1383 : RB d 251 1383 [l0, l1, l2, l3] st (S, I, R, z) Q = RB d 251 1384 [l0, l1, l2, l3] (.int 0 :: st) (S, I, R, z) Q := RB_iconst rfl ki0
set_option maxRecDepth 20000 in
theorem w251_1384 : RB d 251 1384 [l0, l1, l2, l3] [.int x] (S, I, R, z) Q = (narrow .boolean (.int x) = .int x ∧ Q (some (.int x)) (S, I, R, z)) := RB_zret rfl rfl (Or.inl rfl)
set_option maxRecDepth 20000 in
theorem w251_1385 : RB d 251 1385 [l0, .ref a, l2, l3] st (S, I, R, z) Q = RB d 251 1386 [l0, .ref a, l2, l3] (.ref a :: st) (S, I, R, z) Q := RB_aloadn rfl rfl
set_option maxRecDepth 20000 in
theorem w251_1385N : RB d 251 1385 [l0, .null, l2, l3] st (S, I, R, z) Q = RB d 251 1386 [l0, .null, l2, l3] (.null :: st) (S, I, R, z) Q := RB_aloadnN rfl rfl
set_option maxRecDepth 20000 in
theorem w251_1386 : RB d 251 1386 [.ref a, l1, l2, l3] st (S, I, R, z) Q = RB d 251 1387 [.ref a, l1, l2, l3] (.ref a :: st) (S, I, R, z) Q := RB_aloadn rfl rfl
set_option maxRecDepth 20000 in
theorem w251_1386N : RB d 251 1386 [.null, l1, l2, l3] st (S, I, R, z) Q = RB d 251 1387 [.null, l1, l2, l3] (.null :: st) (S, I, R, z) Q := RB_aloadnN rfl rfl
set_option maxRecDepth 20000 in
theorem w251_1387 : RB d 251 1387 [l0, l1, l2, .int x] st (S, I, R, z) Q = RB d 251 1388 [l0, l1, l2, .int x] (.int x :: st) (S, I, R, z) Q := RB_iloadn rfl rfl
set_option maxRecDepth 20000 in
theorem w251_1388 : RB d 251 1388 [l0, l1, l2, l3] st (S, I, R, z) Q = RB d 251 1389 [l0, l1, l2, l3] (.int 1 :: st) (S, I, R, z) Q := RB_iconst rfl ki1
set_option maxRecDepth 20000 in
theorem w251_1389 : RB d 251 1389 [l0, l1, l2, l3] (.int y :: .int x :: st) (S, I, R, z) Q = RB d 251 1390 [l0, l1, l2, l3] (.int (x + y) :: st) (S, I, R, z) Q := RB_iadd rfl
set_option maxRecDepth 20000 in
theorem w251_1390 : RB d 251 1390 [l0, l1, l2, l3] (.int i :: .ref a :: st) (S, I, R, z) Q = (((S a).1 = 9 ∧ aIx i (S a).2) ∧ RB d 251 1391 [l0, l1, l2, l3] (.int (I a i.toNatClampNeg) :: st) (S, I, R, z) Q) := RB_iald rfl
set_option maxRecDepth 20000 in
theorem w251_1391 : RB d 251 1391 [.ref a, l1, l2, l3] st (S, I, R, z) Q = RB d 251 1392 [.ref a, l1, l2, l3] (.ref a :: st) (S, I, R, z) Q := RB_aloadn rfl rfl
set_option maxRecDepth 20000 in
theorem w251_1391N : RB d 251 1391 [.null, l1, l2, l3] st (S, I, R, z) Q = RB d 251 1392 [.null, l1, l2, l3] (.null :: st) (S, I, R, z) Q := RB_aloadnN rfl rfl
set_option maxRecDepth 20000 in
theorem w251_1392 : RB d 251 1392 [l0, l1, l2, .int x] st (S, I, R, z) Q = RB d 251 1393 [l0, l1, l2, .int x] (.int x :: st) (S, I, R, z) Q := RB_iloadn rfl rfl
set_option maxRecDepth 20000 in
theorem w251_1393 : RB d 251 1393 [l0, l1, l2, l3] st (S, I, R, z) Q = RB d 251 1394 [l0, l1, l2, l3] (.int 2 :: st) (S, I, R, z) Q := RB_iconst rfl ki2
set_option maxRecDepth 20000 in
theorem w251_1394 : RB d 251 1394 [l0, l1, l2, l3] (.int y :: .int x :: st) (S, I, R, z) Q = RB d 251 1395 [l0, l1, l2, l3] (.int (x + y) :: st) (S, I, R, z) Q := RB_iadd rfl
set_option maxRecDepth 20000 in
theorem w251_1395 : RB d 251 1395 [l0, l1, l2, l3] (.int i :: .ref a :: st) (S, I, R, z) Q = (((S a).1 = 9 ∧ aIx i (S a).2) ∧ RB d 251 1396 [l0, l1, l2, l3] (.int (I a i.toNatClampNeg) :: st) (S, I, R, z) Q) := RB_iald rfl
set_option maxRecDepth 20000 in
theorem w251_1396 : RB d 251 1396 [l0, l1, l2, l3] [.int x1, .int x0, .ref a] (S, I, R, z) Q = ((S a).1 = 6 ∧ RM d 116 [.ref a, .int x0, .int x1] (S, I, R, z) (fun v τ => RB d 251 1399 [l0, l1, l2, l3] (aPush v []) τ Q)) := RB_callV (n := 3) (t := 0) (k := 174) (ins := .invokevirtual 174) rfl rfl rfl (by decide) (Nat.le_of_ble_eq_true rfl) (Nat.le_of_ble_eq_true rfl) rfl rfl
set_option maxRecDepth 20000 in
theorem w251_1399 : RB d 251 1399 [l0, l1, .ref a, l3] st (S, I, R, z) Q = RB d 251 1400 [l0, l1, .ref a, l3] (.ref a :: st) (S, I, R, z) Q := RB_aloadn rfl rfl
set_option maxRecDepth 20000 in
theorem w251_1399N : RB d 251 1399 [l0, l1, .null, l3] st (S, I, R, z) Q = RB d 251 1400 [l0, l1, .null, l3] (.null :: st) (S, I, R, z) Q := RB_aloadnN rfl rfl
set_option maxRecDepth 20000 in
theorem w251_1400 : RB d 251 1400 [.ref a, l1, l2, l3] st (S, I, R, z) Q = RB d 251 1401 [.ref a, l1, l2, l3] (.ref a :: st) (S, I, R, z) Q := RB_aloadn rfl rfl
set_option maxRecDepth 20000 in
theorem w251_1400N : RB d 251 1400 [.null, l1, l2, l3] st (S, I, R, z) Q = RB d 251 1401 [.null, l1, l2, l3] (.null :: st) (S, I, R, z) Q := RB_aloadnN rfl rfl
set_option maxRecDepth 20000 in
theorem w251_1401 : RB d 251 1401 [l0, l1, l2, .int x] st (S, I, R, z) Q = RB d 251 1402 [l0, l1, l2, .int x] (.int x :: st) (S, I, R, z) Q := RB_iloadn rfl rfl
set_option maxRecDepth 20000 in
theorem w251_1402 : RB d 251 1402 [l0, l1, l2, l3] st (S, I, R, z) Q = RB d 251 1403 [l0, l1, l2, l3] (.int 1 :: st) (S, I, R, z) Q := RB_iconst rfl ki1
set_option maxRecDepth 20000 in
theorem w251_1403 : RB d 251 1403 [l0, l1, l2, l3] (.int y :: .int x :: st) (S, I, R, z) Q = RB d 251 1404 [l0, l1, l2, l3] (.int (x + y) :: st) (S, I, R, z) Q := RB_iadd rfl
set_option maxRecDepth 20000 in
theorem w251_1404 : RB d 251 1404 [l0, l1, l2, l3] (.int i :: .ref a :: st) (S, I, R, z) Q = (((S a).1 = 9 ∧ aIx i (S a).2) ∧ RB d 251 1405 [l0, l1, l2, l3] (.int (I a i.toNatClampNeg) :: st) (S, I, R, z) Q) := RB_iald rfl
set_option maxRecDepth 20000 in
theorem w251_1405 : RB d 251 1405 [.ref a, l1, l2, l3] st (S, I, R, z) Q = RB d 251 1406 [.ref a, l1, l2, l3] (.ref a :: st) (S, I, R, z) Q := RB_aloadn rfl rfl
set_option maxRecDepth 20000 in
theorem w251_1405N : RB d 251 1405 [.null, l1, l2, l3] st (S, I, R, z) Q = RB d 251 1406 [.null, l1, l2, l3] (.null :: st) (S, I, R, z) Q := RB_aloadnN rfl rfl
set_option maxRecDepth 20000 in
theorem w251_1406 : RB d 251 1406 [l0, l1, l2, .int x] st (S, I, R, z) Q = RB d 251 1407 [l0, l1, l2, .int x] (.int x :: st) (S, I, R, z) Q := RB_iloadn rfl rfl
set_option maxRecDepth 20000 in
theorem w251_1407 : RB d 251 1407 [l0, l1, l2, l3] st (S, I, R, z) Q = RB d 251 1408 [l0, l1, l2, l3] (.int 2 :: st) (S, I, R, z) Q := RB_iconst rfl ki2
set_option maxRecDepth 20000 in
theorem w251_1408 : RB d 251 1408 [l0, l1, l2, l3] (.int y :: .int x :: st) (S, I, R, z) Q = RB d 251 1409 [l0, l1, l2, l3] (.int (x + y) :: st) (S, I, R, z) Q := RB_iadd rfl
set_option maxRecDepth 20000 in
theorem w251_1409 : RB d 251 1409 [l0, l1, l2, l3] (.int i :: .ref a :: st) (S, I, R, z) Q = (((S a).1 = 9 ∧ aIx i (S a).2) ∧ RB d 251 1410 [l0, l1, l2, l3] (.int (I a i.toNatClampNeg) :: st) (S, I, R, z) Q) := RB_iald rfl
set_option maxRecDepth 20000 in
theorem w251_1410 : RB d 251 1410 [l0, l1, l2, l3] [.int x1, .int x0, .ref a, s0] (S, I, R, z) Q = ((S a).1 = 7 ∧ RM d 232 [.ref a, .int x0, .int x1] (S, I, R, z) (fun v τ => RB d 251 1413 [l0, l1, l2, l3] (aPush v [s0]) τ Q)) := RB_callV (n := 3) (t := 0) (k := 177) (ins := .invokevirtual 177) rfl rfl rfl (by decide) (Nat.le_of_ble_eq_true rfl) (Nat.le_of_ble_eq_true rfl) rfl rfl
set_option maxRecDepth 20000 in
theorem w251_1413 : RB d 251 1413 [l0, l1, l2, l3] (.int y :: .int x :: st) (S, I, R, z) Q = ((x = y → RB d 251 1523 [l0, l1, l2, l3] st (S, I, R, z) Q) ∧ (¬ x = y → RB d 251 1416 [l0, l1, l2, l3] st (S, I, R, z) Q)) := RB_ieq rfl (by decide) rfl
set_option maxRecDepth 20000 in
theorem w251_1416 : RB d 251 1416 [l0, l1, l2, l3] st (S, I, R, z) Q = RB d 251 1417 [l0, l1, l2, l3] (.int 0 :: st) (S, I, R, z) Q := RB_iconst rfl ki0
set_option maxRecDepth 20000 in
theorem w251_1417 : RB d 251 1417 [l0, l1, l2, l3] [.int x] (S, I, R, z) Q = (narrow .boolean (.int x) = .int x ∧ Q (some (.int x)) (S, I, R, z)) := RB_zret rfl rfl (Or.inl rfl)
set_option maxRecDepth 20000 in
theorem w251_1418 : RB d 251 1418 [l0, .ref a, l2, l3] st (S, I, R, z) Q = RB d 251 1419 [l0, .ref a, l2, l3] (.ref a :: st) (S, I, R, z) Q := RB_aloadn rfl rfl
set_option maxRecDepth 20000 in
theorem w251_1418N : RB d 251 1418 [l0, .null, l2, l3] st (S, I, R, z) Q = RB d 251 1419 [l0, .null, l2, l3] (.null :: st) (S, I, R, z) Q := RB_aloadnN rfl rfl
set_option maxRecDepth 20000 in
theorem w251_1419 : RB d 251 1419 [.ref a, l1, l2, l3] st (S, I, R, z) Q = RB d 251 1420 [.ref a, l1, l2, l3] (.ref a :: st) (S, I, R, z) Q := RB_aloadn rfl rfl
set_option maxRecDepth 20000 in
theorem w251_1419N : RB d 251 1419 [.null, l1, l2, l3] st (S, I, R, z) Q = RB d 251 1420 [.null, l1, l2, l3] (.null :: st) (S, I, R, z) Q := RB_aloadnN rfl rfl
set_option maxRecDepth 20000 in
theorem w251_1420 : RB d 251 1420 [l0, l1, l2, .int x] st (S, I, R, z) Q = RB d 251 1421 [l0, l1, l2, .int x] (.int x :: st) (S, I, R, z) Q := RB_iloadn rfl rfl
set_option maxRecDepth 20000 in
theorem w251_1421 : RB d 251 1421 [l0, l1, l2, l3] st (S, I, R, z) Q = RB d 251 1422 [l0, l1, l2, l3] (.int 1 :: st) (S, I, R, z) Q := RB_iconst rfl ki1
set_option maxRecDepth 20000 in
theorem w251_1422 : RB d 251 1422 [l0, l1, l2, l3] (.int y :: .int x :: st) (S, I, R, z) Q = RB d 251 1423 [l0, l1, l2, l3] (.int (x + y) :: st) (S, I, R, z) Q := RB_iadd rfl
set_option maxRecDepth 20000 in
theorem w251_1423 : RB d 251 1423 [l0, l1, l2, l3] (.int i :: .ref a :: st) (S, I, R, z) Q = (((S a).1 = 9 ∧ aIx i (S a).2) ∧ RB d 251 1424 [l0, l1, l2, l3] (.int (I a i.toNatClampNeg) :: st) (S, I, R, z) Q) := RB_iald rfl
set_option maxRecDepth 20000 in
theorem w251_1424 : RB d 251 1424 [l0, l1, l2, l3] [.int x0, .ref a] (S, I, R, z) Q = ((S a).1 = 6 ∧ RM d 117 [.ref a, .int x0] (S, I, R, z) (fun v τ => RB d 251 1427 [l0, l1, l2, l3] (aPush v []) τ Q)) := RB_callV (n := 2) (t := 0) (k := 178) (ins := .invokevirtual 178) rfl rfl rfl (by decide) (Nat.le_of_ble_eq_true rfl) (Nat.le_of_ble_eq_true rfl) rfl rfl
set_option maxRecDepth 20000 in
theorem w251_1427 : RB d 251 1427 [l0, l1, .ref a, l3] st (S, I, R, z) Q = RB d 251 1428 [l0, l1, .ref a, l3] (.ref a :: st) (S, I, R, z) Q := RB_aloadn rfl rfl
set_option maxRecDepth 20000 in
theorem w251_1427N : RB d 251 1427 [l0, l1, .null, l3] st (S, I, R, z) Q = RB d 251 1428 [l0, l1, .null, l3] (.null :: st) (S, I, R, z) Q := RB_aloadnN rfl rfl
set_option maxRecDepth 20000 in
theorem w251_1428 : RB d 251 1428 [.ref a, l1, l2, l3] st (S, I, R, z) Q = RB d 251 1429 [.ref a, l1, l2, l3] (.ref a :: st) (S, I, R, z) Q := RB_aloadn rfl rfl
set_option maxRecDepth 20000 in
theorem w251_1428N : RB d 251 1428 [.null, l1, l2, l3] st (S, I, R, z) Q = RB d 251 1429 [.null, l1, l2, l3] (.null :: st) (S, I, R, z) Q := RB_aloadnN rfl rfl
set_option maxRecDepth 20000 in
theorem w251_1429 : RB d 251 1429 [l0, l1, l2, .int x] st (S, I, R, z) Q = RB d 251 1430 [l0, l1, l2, .int x] (.int x :: st) (S, I, R, z) Q := RB_iloadn rfl rfl
set_option maxRecDepth 20000 in
theorem w251_1430 : RB d 251 1430 [l0, l1, l2, l3] st (S, I, R, z) Q = RB d 251 1431 [l0, l1, l2, l3] (.int 1 :: st) (S, I, R, z) Q := RB_iconst rfl ki1
set_option maxRecDepth 20000 in
theorem w251_1431 : RB d 251 1431 [l0, l1, l2, l3] (.int y :: .int x :: st) (S, I, R, z) Q = RB d 251 1432 [l0, l1, l2, l3] (.int (x + y) :: st) (S, I, R, z) Q := RB_iadd rfl
set_option maxRecDepth 20000 in
theorem w251_1432 : RB d 251 1432 [l0, l1, l2, l3] (.int i :: .ref a :: st) (S, I, R, z) Q = (((S a).1 = 9 ∧ aIx i (S a).2) ∧ RB d 251 1433 [l0, l1, l2, l3] (.int (I a i.toNatClampNeg) :: st) (S, I, R, z) Q) := RB_iald rfl
set_option maxRecDepth 20000 in
theorem w251_1433 : RB d 251 1433 [l0, l1, l2, l3] [.int x0, .ref a, s0] (S, I, R, z) Q = ((S a).1 = 7 ∧ RM d 233 [.ref a, .int x0] (S, I, R, z) (fun v τ => RB d 251 1436 [l0, l1, l2, l3] (aPush v [s0]) τ Q)) := RB_callV (n := 2) (t := 0) (k := 181) (ins := .invokevirtual 181) rfl rfl rfl (by decide) (Nat.le_of_ble_eq_true rfl) (Nat.le_of_ble_eq_true rfl) rfl rfl
set_option maxRecDepth 20000 in
theorem w251_1436 : RB d 251 1436 [l0, l1, l2, l3] (.int y :: .int x :: st) (S, I, R, z) Q = ((x = y → RB d 251 1523 [l0, l1, l2, l3] st (S, I, R, z) Q) ∧ (¬ x = y → RB d 251 1439 [l0, l1, l2, l3] st (S, I, R, z) Q)) := RB_ieq rfl (by decide) rfl
set_option maxRecDepth 20000 in
theorem w251_1439 : RB d 251 1439 [l0, l1, l2, l3] st (S, I, R, z) Q = RB d 251 1440 [l0, l1, l2, l3] (.int 0 :: st) (S, I, R, z) Q := RB_iconst rfl ki0
set_option maxRecDepth 20000 in
theorem w251_1440 : RB d 251 1440 [l0, l1, l2, l3] [.int x] (S, I, R, z) Q = (narrow .boolean (.int x) = .int x ∧ Q (some (.int x)) (S, I, R, z)) := RB_zret rfl rfl (Or.inl rfl)
set_option maxRecDepth 20000 in
theorem w251_1441 : RB d 251 1441 [l0, .ref a, l2, l3] st (S, I, R, z) Q = RB d 251 1442 [l0, .ref a, l2, l3] (.ref a :: st) (S, I, R, z) Q := RB_aloadn rfl rfl
set_option maxRecDepth 20000 in
theorem w251_1441N : RB d 251 1441 [l0, .null, l2, l3] st (S, I, R, z) Q = RB d 251 1442 [l0, .null, l2, l3] (.null :: st) (S, I, R, z) Q := RB_aloadnN rfl rfl
set_option maxRecDepth 20000 in
theorem w251_1442 : RB d 251 1442 [.ref a, l1, l2, l3] st (S, I, R, z) Q = RB d 251 1443 [.ref a, l1, l2, l3] (.ref a :: st) (S, I, R, z) Q := RB_aloadn rfl rfl
set_option maxRecDepth 20000 in
theorem w251_1442N : RB d 251 1442 [.null, l1, l2, l3] st (S, I, R, z) Q = RB d 251 1443 [.null, l1, l2, l3] (.null :: st) (S, I, R, z) Q := RB_aloadnN rfl rfl
set_option maxRecDepth 20000 in
theorem w251_1443 : RB d 251 1443 [l0, l1, l2, .int x] st (S, I, R, z) Q = RB d 251 1444 [l0, l1, l2, .int x] (.int x :: st) (S, I, R, z) Q := RB_iloadn rfl rfl
set_option maxRecDepth 20000 in
theorem w251_1444 : RB d 251 1444 [l0, l1, l2, l3] st (S, I, R, z) Q = RB d 251 1445 [l0, l1, l2, l3] (.int 1 :: st) (S, I, R, z) Q := RB_iconst rfl ki1
set_option maxRecDepth 20000 in
theorem w251_1445 : RB d 251 1445 [l0, l1, l2, l3] (.int y :: .int x :: st) (S, I, R, z) Q = RB d 251 1446 [l0, l1, l2, l3] (.int (x + y) :: st) (S, I, R, z) Q := RB_iadd rfl
set_option maxRecDepth 20000 in
theorem w251_1446 : RB d 251 1446 [l0, l1, l2, l3] (.int i :: .ref a :: st) (S, I, R, z) Q = (((S a).1 = 9 ∧ aIx i (S a).2) ∧ RB d 251 1447 [l0, l1, l2, l3] (.int (I a i.toNatClampNeg) :: st) (S, I, R, z) Q) := RB_iald rfl
set_option maxRecDepth 20000 in
theorem w251_1447 : RB d 251 1447 [.ref a, l1, l2, l3] st (S, I, R, z) Q = RB d 251 1448 [.ref a, l1, l2, l3] (.ref a :: st) (S, I, R, z) Q := RB_aloadn rfl rfl
set_option maxRecDepth 20000 in
theorem w251_1447N : RB d 251 1447 [.null, l1, l2, l3] st (S, I, R, z) Q = RB d 251 1448 [.null, l1, l2, l3] (.null :: st) (S, I, R, z) Q := RB_aloadnN rfl rfl
set_option maxRecDepth 20000 in
theorem w251_1448 : RB d 251 1448 [l0, l1, l2, .int x] st (S, I, R, z) Q = RB d 251 1449 [l0, l1, l2, .int x] (.int x :: st) (S, I, R, z) Q := RB_iloadn rfl rfl
set_option maxRecDepth 20000 in
theorem w251_1449 : RB d 251 1449 [l0, l1, l2, l3] st (S, I, R, z) Q = RB d 251 1450 [l0, l1, l2, l3] (.int 2 :: st) (S, I, R, z) Q := RB_iconst rfl ki2
set_option maxRecDepth 20000 in
theorem w251_1450 : RB d 251 1450 [l0, l1, l2, l3] (.int y :: .int x :: st) (S, I, R, z) Q = RB d 251 1451 [l0, l1, l2, l3] (.int (x + y) :: st) (S, I, R, z) Q := RB_iadd rfl
set_option maxRecDepth 20000 in
theorem w251_1451 : RB d 251 1451 [l0, l1, l2, l3] (.int i :: .ref a :: st) (S, I, R, z) Q = (((S a).1 = 9 ∧ aIx i (S a).2) ∧ RB d 251 1452 [l0, l1, l2, l3] (.int (I a i.toNatClampNeg) :: st) (S, I, R, z) Q) := RB_iald rfl
set_option maxRecDepth 20000 in
theorem w251_1452 : RB d 251 1452 [l0, l1, l2, l3] [.int x1, .int x0, .ref a] (S, I, R, z) Q = ((S a).1 = 6 ∧ RM d 118 [.ref a, .int x0, .int x1] (S, I, R, z) (fun v τ => RB d 251 1455 [l0, l1, l2, l3] (aPush v []) τ Q)) := RB_callV (n := 3) (t := 0) (k := 182) (ins := .invokevirtual 182) rfl rfl rfl (by decide) (Nat.le_of_ble_eq_true rfl) (Nat.le_of_ble_eq_true rfl) rfl rfl
set_option maxRecDepth 20000 in
theorem w251_1455 : RB d 251 1455 [l0, l1, .ref a, l3] st (S, I, R, z) Q = RB d 251 1456 [l0, l1, .ref a, l3] (.ref a :: st) (S, I, R, z) Q := RB_aloadn rfl rfl
set_option maxRecDepth 20000 in
theorem w251_1455N : RB d 251 1455 [l0, l1, .null, l3] st (S, I, R, z) Q = RB d 251 1456 [l0, l1, .null, l3] (.null :: st) (S, I, R, z) Q := RB_aloadnN rfl rfl
set_option maxRecDepth 20000 in
theorem w251_1456 : RB d 251 1456 [.ref a, l1, l2, l3] st (S, I, R, z) Q = RB d 251 1457 [.ref a, l1, l2, l3] (.ref a :: st) (S, I, R, z) Q := RB_aloadn rfl rfl
set_option maxRecDepth 20000 in
theorem w251_1456N : RB d 251 1456 [.null, l1, l2, l3] st (S, I, R, z) Q = RB d 251 1457 [.null, l1, l2, l3] (.null :: st) (S, I, R, z) Q := RB_aloadnN rfl rfl
set_option maxRecDepth 20000 in
theorem w251_1457 : RB d 251 1457 [l0, l1, l2, .int x] st (S, I, R, z) Q = RB d 251 1458 [l0, l1, l2, .int x] (.int x :: st) (S, I, R, z) Q := RB_iloadn rfl rfl
set_option maxRecDepth 20000 in
theorem w251_1458 : RB d 251 1458 [l0, l1, l2, l3] st (S, I, R, z) Q = RB d 251 1459 [l0, l1, l2, l3] (.int 1 :: st) (S, I, R, z) Q := RB_iconst rfl ki1
set_option maxRecDepth 20000 in
theorem w251_1459 : RB d 251 1459 [l0, l1, l2, l3] (.int y :: .int x :: st) (S, I, R, z) Q = RB d 251 1460 [l0, l1, l2, l3] (.int (x + y) :: st) (S, I, R, z) Q := RB_iadd rfl
set_option maxRecDepth 20000 in
theorem w251_1460 : RB d 251 1460 [l0, l1, l2, l3] (.int i :: .ref a :: st) (S, I, R, z) Q = (((S a).1 = 9 ∧ aIx i (S a).2) ∧ RB d 251 1461 [l0, l1, l2, l3] (.int (I a i.toNatClampNeg) :: st) (S, I, R, z) Q) := RB_iald rfl
set_option maxRecDepth 20000 in
theorem w251_1461 : RB d 251 1461 [.ref a, l1, l2, l3] st (S, I, R, z) Q = RB d 251 1462 [.ref a, l1, l2, l3] (.ref a :: st) (S, I, R, z) Q := RB_aloadn rfl rfl
set_option maxRecDepth 20000 in
theorem w251_1461N : RB d 251 1461 [.null, l1, l2, l3] st (S, I, R, z) Q = RB d 251 1462 [.null, l1, l2, l3] (.null :: st) (S, I, R, z) Q := RB_aloadnN rfl rfl
set_option maxRecDepth 20000 in
theorem w251_1462 : RB d 251 1462 [l0, l1, l2, .int x] st (S, I, R, z) Q = RB d 251 1463 [l0, l1, l2, .int x] (.int x :: st) (S, I, R, z) Q := RB_iloadn rfl rfl
set_option maxRecDepth 20000 in
theorem w251_1463 : RB d 251 1463 [l0, l1, l2, l3] st (S, I, R, z) Q = RB d 251 1464 [l0, l1, l2, l3] (.int 2 :: st) (S, I, R, z) Q := RB_iconst rfl ki2
set_option maxRecDepth 20000 in
theorem w251_1464 : RB d 251 1464 [l0, l1, l2, l3] (.int y :: .int x :: st) (S, I, R, z) Q = RB d 251 1465 [l0, l1, l2, l3] (.int (x + y) :: st) (S, I, R, z) Q := RB_iadd rfl
set_option maxRecDepth 20000 in
theorem w251_1465 : RB d 251 1465 [l0, l1, l2, l3] (.int i :: .ref a :: st) (S, I, R, z) Q = (((S a).1 = 9 ∧ aIx i (S a).2) ∧ RB d 251 1466 [l0, l1, l2, l3] (.int (I a i.toNatClampNeg) :: st) (S, I, R, z) Q) := RB_iald rfl
set_option maxRecDepth 20000 in
theorem w251_1466 : RB d 251 1466 [l0, l1, l2, l3] [.int x1, .int x0, .ref a, s0] (S, I, R, z) Q = ((S a).1 = 7 ∧ RM d 234 [.ref a, .int x0, .int x1] (S, I, R, z) (fun v τ => RB d 251 1469 [l0, l1, l2, l3] (aPush v [s0]) τ Q)) := RB_callV (n := 3) (t := 0) (k := 185) (ins := .invokevirtual 185) rfl rfl rfl (by decide) (Nat.le_of_ble_eq_true rfl) (Nat.le_of_ble_eq_true rfl) rfl rfl
set_option maxRecDepth 20000 in
theorem w251_1469 : RB d 251 1469 [l0, l1, l2, l3] (.int y :: .int x :: st) (S, I, R, z) Q = ((x = y → RB d 251 1523 [l0, l1, l2, l3] st (S, I, R, z) Q) ∧ (¬ x = y → RB d 251 1472 [l0, l1, l2, l3] st (S, I, R, z) Q)) := RB_ieq rfl (by decide) rfl
set_option maxRecDepth 20000 in
theorem w251_1472 : RB d 251 1472 [l0, l1, l2, l3] st (S, I, R, z) Q = RB d 251 1473 [l0, l1, l2, l3] (.int 0 :: st) (S, I, R, z) Q := RB_iconst rfl ki0
set_option maxRecDepth 20000 in
theorem w251_1473 : RB d 251 1473 [l0, l1, l2, l3] [.int x] (S, I, R, z) Q = (narrow .boolean (.int x) = .int x ∧ Q (some (.int x)) (S, I, R, z)) := RB_zret rfl rfl (Or.inl rfl)
set_option maxRecDepth 20000 in
theorem w251_1474 : RB d 251 1474 [l0, .ref a, l2, l3] st (S, I, R, z) Q = RB d 251 1475 [l0, .ref a, l2, l3] (.ref a :: st) (S, I, R, z) Q := RB_aloadn rfl rfl
set_option maxRecDepth 20000 in
theorem w251_1474N : RB d 251 1474 [l0, .null, l2, l3] st (S, I, R, z) Q = RB d 251 1475 [l0, .null, l2, l3] (.null :: st) (S, I, R, z) Q := RB_aloadnN rfl rfl
set_option maxRecDepth 20000 in
theorem w251_1475 : RB d 251 1475 [l0, l1, l2, l3] [.ref a] (S, I, R, z) Q = ((S a).1 = 6 ∧ RM d 119 [.ref a] (S, I, R, z) (fun v τ => RB d 251 1478 [l0, l1, l2, l3] (aPush v []) τ Q)) := RB_callV (n := 1) (t := 0) (k := 186) (ins := .invokevirtual 186) rfl rfl rfl (by decide) (Nat.le_of_ble_eq_true rfl) (Nat.le_of_ble_eq_true rfl) rfl rfl
set_option maxRecDepth 20000 in
theorem w251_1478 : RB d 251 1478 [l0, l1, .ref a, l3] st (S, I, R, z) Q = RB d 251 1479 [l0, l1, .ref a, l3] (.ref a :: st) (S, I, R, z) Q := RB_aloadn rfl rfl
set_option maxRecDepth 20000 in
theorem w251_1478N : RB d 251 1478 [l0, l1, .null, l3] st (S, I, R, z) Q = RB d 251 1479 [l0, l1, .null, l3] (.null :: st) (S, I, R, z) Q := RB_aloadnN rfl rfl
set_option maxRecDepth 20000 in
theorem w251_1479 : RB d 251 1479 [l0, l1, l2, l3] [.ref a, s0] (S, I, R, z) Q = ((S a).1 = 7 ∧ RM d 235 [.ref a] (S, I, R, z) (fun v τ => RB d 251 1482 [l0, l1, l2, l3] (aPush v [s0]) τ Q)) := RB_callV (n := 1) (t := 0) (k := 189) (ins := .invokevirtual 189) rfl rfl rfl (by decide) (Nat.le_of_ble_eq_true rfl) (Nat.le_of_ble_eq_true rfl) rfl rfl
set_option maxRecDepth 20000 in
theorem w251_1482 : RB d 251 1482 [l0, l1, l2, l3] (.int y :: .int x :: st) (S, I, R, z) Q = ((x = y → RB d 251 1523 [l0, l1, l2, l3] st (S, I, R, z) Q) ∧ (¬ x = y → RB d 251 1485 [l0, l1, l2, l3] st (S, I, R, z) Q)) := RB_ieq rfl (by decide) rfl
set_option maxRecDepth 20000 in
theorem w251_1485 : RB d 251 1485 [l0, l1, l2, l3] st (S, I, R, z) Q = RB d 251 1486 [l0, l1, l2, l3] (.int 0 :: st) (S, I, R, z) Q := RB_iconst rfl ki0
set_option maxRecDepth 20000 in
theorem w251_1486 : RB d 251 1486 [l0, l1, l2, l3] [.int x] (S, I, R, z) Q = (narrow .boolean (.int x) = .int x ∧ Q (some (.int x)) (S, I, R, z)) := RB_zret rfl rfl (Or.inl rfl)
set_option maxRecDepth 20000 in
theorem w251_1487 : RB d 251 1487 [l0, .ref a, l2, l3] st (S, I, R, z) Q = RB d 251 1488 [l0, .ref a, l2, l3] (.ref a :: st) (S, I, R, z) Q := RB_aloadn rfl rfl
set_option maxRecDepth 20000 in
theorem w251_1487N : RB d 251 1487 [l0, .null, l2, l3] st (S, I, R, z) Q = RB d 251 1488 [l0, .null, l2, l3] (.null :: st) (S, I, R, z) Q := RB_aloadnN rfl rfl
set_option maxRecDepth 20000 in
theorem w251_1488 : RB d 251 1488 [l0, l1, l2, l3] [.ref a] (S, I, R, z) Q = ((S a).1 = 6 ∧ RM d 120 [.ref a] (S, I, R, z) (fun v τ => RB d 251 1491 [l0, l1, l2, l3] (aPush v []) τ Q)) := RB_callV (n := 1) (t := 0) (k := 190) (ins := .invokevirtual 190) rfl rfl rfl (by decide) (Nat.le_of_ble_eq_true rfl) (Nat.le_of_ble_eq_true rfl) rfl rfl
set_option maxRecDepth 20000 in
theorem w251_1491 : RB d 251 1491 [l0, l1, .ref a, l3] st (S, I, R, z) Q = RB d 251 1492 [l0, l1, .ref a, l3] (.ref a :: st) (S, I, R, z) Q := RB_aloadn rfl rfl
set_option maxRecDepth 20000 in
theorem w251_1491N : RB d 251 1491 [l0, l1, .null, l3] st (S, I, R, z) Q = RB d 251 1492 [l0, l1, .null, l3] (.null :: st) (S, I, R, z) Q := RB_aloadnN rfl rfl
set_option maxRecDepth 20000 in
theorem w251_1492 : RB d 251 1492 [l0, l1, l2, l3] [.ref a, s0] (S, I, R, z) Q = ((S a).1 = 7 ∧ RM d 236 [.ref a] (S, I, R, z) (fun v τ => RB d 251 1495 [l0, l1, l2, l3] (aPush v [s0]) τ Q)) := RB_callV (n := 1) (t := 0) (k := 193) (ins := .invokevirtual 193) rfl rfl rfl (by decide) (Nat.le_of_ble_eq_true rfl) (Nat.le_of_ble_eq_true rfl) rfl rfl
set_option maxRecDepth 20000 in
theorem w251_1495 : RB d 251 1495 [l0, l1, l2, l3] (.int y :: .int x :: st) (S, I, R, z) Q = ((x = y → RB d 251 1523 [l0, l1, l2, l3] st (S, I, R, z) Q) ∧ (¬ x = y → RB d 251 1498 [l0, l1, l2, l3] st (S, I, R, z) Q)) := RB_ieq rfl (by decide) rfl
set_option maxRecDepth 20000 in
theorem w251_1498 : RB d 251 1498 [l0, l1, l2, l3] st (S, I, R, z) Q = RB d 251 1499 [l0, l1, l2, l3] (.int 0 :: st) (S, I, R, z) Q := RB_iconst rfl ki0
set_option maxRecDepth 20000 in
theorem w251_1499 : RB d 251 1499 [l0, l1, l2, l3] [.int x] (S, I, R, z) Q = (narrow .boolean (.int x) = .int x ∧ Q (some (.int x)) (S, I, R, z)) := RB_zret rfl rfl (Or.inl rfl)
set_option maxRecDepth 20000 in
theorem w251_1500 : RB d 251 1500 [l0, .ref a, l2, l3] st (S, I, R, z) Q = RB d 251 1501 [l0, .ref a, l2, l3] (.ref a :: st) (S, I, R, z) Q := RB_aloadn rfl rfl
set_option maxRecDepth 20000 in
theorem w251_1500N : RB d 251 1500 [l0, .null, l2, l3] st (S, I, R, z) Q = RB d 251 1501 [l0, .null, l2, l3] (.null :: st) (S, I, R, z) Q := RB_aloadnN rfl rfl
set_option maxRecDepth 20000 in
theorem w251_1501 : RB d 251 1501 [.ref a, l1, l2, l3] st (S, I, R, z) Q = RB d 251 1502 [.ref a, l1, l2, l3] (.ref a :: st) (S, I, R, z) Q := RB_aloadn rfl rfl
set_option maxRecDepth 20000 in
theorem w251_1501N : RB d 251 1501 [.null, l1, l2, l3] st (S, I, R, z) Q = RB d 251 1502 [.null, l1, l2, l3] (.null :: st) (S, I, R, z) Q := RB_aloadnN rfl rfl
set_option maxRecDepth 20000 in
theorem w251_1502 : RB d 251 1502 [l0, l1, l2, .int x] st (S, I, R, z) Q = RB d 251 1503 [l0, l1, l2, .int x] (.int x :: st) (S, I, R, z) Q := RB_iloadn rfl rfl
set_option maxRecDepth 20000 in
theorem w251_1503 : RB d 251 1503 [l0, l1, l2, l3] st (S, I, R, z) Q = RB d 251 1504 [l0, l1, l2, l3] (.int 1 :: st) (S, I, R, z) Q := RB_iconst rfl ki1
set_option maxRecDepth 20000 in
theorem w251_1504 : RB d 251 1504 [l0, l1, l2, l3] (.int y :: .int x :: st) (S, I, R, z) Q = RB d 251 1505 [l0, l1, l2, l3] (.int (x + y) :: st) (S, I, R, z) Q := RB_iadd rfl
set_option maxRecDepth 20000 in
theorem w251_1505 : RB d 251 1505 [l0, l1, l2, l3] (.int i :: .ref a :: st) (S, I, R, z) Q = (((S a).1 = 9 ∧ aIx i (S a).2) ∧ RB d 251 1506 [l0, l1, l2, l3] (.int (I a i.toNatClampNeg) :: st) (S, I, R, z) Q) := RB_iald rfl
set_option maxRecDepth 20000 in
theorem w251_1506 : RB d 251 1506 [l0, l1, l2, l3] [.int x0, .ref a] (S, I, R, z) Q = ((S a).1 = 6 ∧ RM d 121 [.ref a, .int x0] (S, I, R, z) (fun v τ => RB d 251 1509 [l0, l1, l2, l3] (aPush v []) τ Q)) := RB_callV (n := 2) (t := 0) (k := 194) (ins := .invokevirtual 194) rfl rfl rfl (by decide) (Nat.le_of_ble_eq_true rfl) (Nat.le_of_ble_eq_true rfl) rfl rfl
set_option maxRecDepth 20000 in
theorem w251_1509 : RB d 251 1509 [l0, l1, .ref a, l3] st (S, I, R, z) Q = RB d 251 1510 [l0, l1, .ref a, l3] (.ref a :: st) (S, I, R, z) Q := RB_aloadn rfl rfl
set_option maxRecDepth 20000 in
theorem w251_1509N : RB d 251 1509 [l0, l1, .null, l3] st (S, I, R, z) Q = RB d 251 1510 [l0, l1, .null, l3] (.null :: st) (S, I, R, z) Q := RB_aloadnN rfl rfl
set_option maxRecDepth 20000 in
theorem w251_1510 : RB d 251 1510 [.ref a, l1, l2, l3] st (S, I, R, z) Q = RB d 251 1511 [.ref a, l1, l2, l3] (.ref a :: st) (S, I, R, z) Q := RB_aloadn rfl rfl
set_option maxRecDepth 20000 in
theorem w251_1510N : RB d 251 1510 [.null, l1, l2, l3] st (S, I, R, z) Q = RB d 251 1511 [.null, l1, l2, l3] (.null :: st) (S, I, R, z) Q := RB_aloadnN rfl rfl
set_option maxRecDepth 20000 in
theorem w251_1511 : RB d 251 1511 [l0, l1, l2, .int x] st (S, I, R, z) Q = RB d 251 1512 [l0, l1, l2, .int x] (.int x :: st) (S, I, R, z) Q := RB_iloadn rfl rfl
set_option maxRecDepth 20000 in
theorem w251_1512 : RB d 251 1512 [l0, l1, l2, l3] st (S, I, R, z) Q = RB d 251 1513 [l0, l1, l2, l3] (.int 1 :: st) (S, I, R, z) Q := RB_iconst rfl ki1
set_option maxRecDepth 20000 in
theorem w251_1513 : RB d 251 1513 [l0, l1, l2, l3] (.int y :: .int x :: st) (S, I, R, z) Q = RB d 251 1514 [l0, l1, l2, l3] (.int (x + y) :: st) (S, I, R, z) Q := RB_iadd rfl
set_option maxRecDepth 20000 in
theorem w251_1514 : RB d 251 1514 [l0, l1, l2, l3] (.int i :: .ref a :: st) (S, I, R, z) Q = (((S a).1 = 9 ∧ aIx i (S a).2) ∧ RB d 251 1515 [l0, l1, l2, l3] (.int (I a i.toNatClampNeg) :: st) (S, I, R, z) Q) := RB_iald rfl
set_option maxRecDepth 20000 in
theorem w251_1515 : RB d 251 1515 [l0, l1, l2, l3] [.int x0, .ref a, s0] (S, I, R, z) Q = ((S a).1 = 7 ∧ RM d 237 [.ref a, .int x0] (S, I, R, z) (fun v τ => RB d 251 1518 [l0, l1, l2, l3] (aPush v [s0]) τ Q)) := RB_callV (n := 2) (t := 0) (k := 197) (ins := .invokevirtual 197) rfl rfl rfl (by decide) (Nat.le_of_ble_eq_true rfl) (Nat.le_of_ble_eq_true rfl) rfl rfl
set_option maxRecDepth 20000 in
theorem w251_1518 : RB d 251 1518 [l0, l1, l2, l3] (.int y :: .int x :: st) (S, I, R, z) Q = ((x = y → RB d 251 1523 [l0, l1, l2, l3] st (S, I, R, z) Q) ∧ (¬ x = y → RB d 251 1521 [l0, l1, l2, l3] st (S, I, R, z) Q)) := RB_ieq rfl (by decide) rfl
set_option maxRecDepth 20000 in
theorem w251_1521 : RB d 251 1521 [l0, l1, l2, l3] st (S, I, R, z) Q = RB d 251 1522 [l0, l1, l2, l3] (.int 0 :: st) (S, I, R, z) Q := RB_iconst rfl ki0
set_option maxRecDepth 20000 in
theorem w251_1522 : RB d 251 1522 [l0, l1, l2, l3] [.int x] (S, I, R, z) Q = (narrow .boolean (.int x) = .int x ∧ Q (some (.int x)) (S, I, R, z)) := RB_zret rfl rfl (Or.inl rfl)
set_option maxRecDepth 20000 in
theorem w251_1523 : RB d 251 1523 [l0, l1, l2, .int x] st (S, I, R, z) Q = RB d 251 1526 [l0, l1, l2, .int (x + 6)] st (S, I, R, z) Q := RB_iinc rfl rfl (Nat.le_of_ble_eq_true rfl) ki6 rfl
set_option maxRecDepth 20000 in
theorem w251_1526 : RB d 251 1526 [l0, l1, l2, l3] st (S, I, R, z) Q = RB d 251 18 [l0, l1, l2, l3] st (S, I, R, z) Q := RB_goto rfl (by decide) rfl
set_option maxRecDepth 20000 in
theorem w251_1529 : RB d 251 1529 [l0, l1, l2, l3] st (S, I, R, z) Q = RB d 251 1530 [l0, l1, l2, l3] (.int 1 :: st) (S, I, R, z) Q := RB_iconst rfl ki1
set_option maxRecDepth 20000 in
theorem w251_1530 : RB d 251 1530 [l0, l1, l2, l3] [.int x] (S, I, R, z) Q = (narrow .boolean (.int x) = .int x ∧ Q (some (.int x)) (S, I, R, z)) := RB_zret rfl rfl (Or.inl rfl)
end
