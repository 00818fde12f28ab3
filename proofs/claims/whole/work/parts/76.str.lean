/-! TEXT: the constant strings; what is at hand; a step more -/
def fIx (f : Nat → Nat) (c : Nat) : Nat → Nat → Option Nat
  | 0, _ => none
  | m + 1, j => if f j = c then some j else fIx f c m (j + 1)
def tEq (T f : Nat → Nat) (p : Nat) : Nat → Nat → Bool
  | 0, _ => true
  | m + 1, j => decide (T (p + j) = f j) && tEq T f p m (j + 1)
def tAt (T f : Nat → Nat) (L : Nat) (t : Tok) : Bool := decide (t.2.2.1 = 1) && (decide (t.2.1 - t.1 = L) && tEq T f t.1 L 0)
def tKy (T : Nat → Nat) (t : Tok) : Option Nat := if tAt T (strB 0) 3 t = true then some 0 else if tAt T (strB 1) 4 t = true then some 1 else if tAt T (strB 2) 4 t = true then some 2 else none
def oI (o : Option Nat) : Int32 := match o with
  | none => -nI 1
  | some j => nI j
/-- a constant string at a, its bytes at v -/
def Cst (S : Nat → Nat × Nat) (I : Nat → Nat → Int32) (R : Nat → Nat → Option Nat) (a v L : Nat) (f : Nat → Nat) : Prop := S a = (14, 2) ∧ R a 0 = some v ∧ I a 1 = nI 0 ∧ S v = (15, L) ∧ (∀ j, j < L → I v j = nI (f j)) ∧ (∀ j, j < L → f j < 128) ∧ L ≤ 4
section
variable {d n k p q a v L : Nat} {f T : Nat → Nat} {t : Tok} {S : Nat → Nat × Nat} {I J : Nat → Nat → Int32} {R : Nat → Nat → Option Nat} {z : Nat × Nat} {x y : Int32} {Q : Option Value → HS → Prop} {l1 l2 : Value}
theorem fx128 : ∀ b, b < 128 → (nI b).toInt8.toInt32 = nI b ∧ ((nI b).toUInt32 % 65536).toInt32 = nI b ∧ nI b &&& 255 = nI b := by decide +kernel
theorem nch {b : Nat} (h : b < 128) : narrow .char (.int (nI b)) = .int (nI b) := by
  have : ((nI b).toUInt32 % 65536).toInt32 = nI b := (fx128 b h).2.1
  show Value.int ((nI b).toUInt32 % 65536).toInt32 = _
  rw [this]
theorem sh5 : ∀ L, L < 5 → nI L >>> (nI 0 &&& 31) = nI L := by decide
theorem c243 (h : Cst S I R a v L f) : RM (d + 1) 243 [.ref a] (S, I, R, z) Q = Q (some (.int (nI 1))) (S, I, R, z) := by
  obtain ⟨sa, ra, ia, sv, iv, hf, hL⟩ := h
  simp (disch := omega) only [e243, w243_0, w243_3, w243_6, w243_7, w243_10, w243_13, w243_14, w243_17, w243_18, sa, ra, ia, sv, aPush_s, aPush_n, vrf_s, vrf_n, true_and, and_true, false_and, and_false, true_imp_iff, false_imp_iff, not_true_eq_false, not_false_eq_true, eq_self, true_or, or_true, and_self, if_true, if_false, n_lit, n_of, n_an, Nat.add_sub_cancel, nI_add, pk_mul, n_sub, n_ixT, n_cl, n_leT, n_leF, n_ltT, n_ltF, n_eqT, n_eqF, Nat.reduceAdd, Nat.reduceMul, Nat.reduceSub, Nat.reduceEqDiff, Nat.reduceLT, Nat.reduceLeDiff, Nat.mul_one, Nat.one_mul, Nat.add_zero, Nat.zero_add, le_T, nz0, nz1]
theorem c242 (h : Cst S I R a v L f) : RM (d + 1) 242 [.ref a] (S, I, R, z) Q = Q (some (.int (nI 0))) (S, I, R, z) := by
  obtain ⟨sa, ra, ia, sv, iv, hf, hL⟩ := h
  have nb : narrow .byte (.int (nI 0)) = .int (nI 0) := rfl
  simp (disch := omega) only [e242, w242_0, w242_3, w242_6, w242_7, w242_10, w242_13, w242_14, sa, ra, ia, sv, aPush_s, aPush_n, vrf_s, vrf_n, true_and, and_true, false_and, and_false, true_imp_iff, false_imp_iff, not_true_eq_false, not_false_eq_true, eq_self, true_or, or_true, and_self, if_true, if_false, n_lit, n_of, n_an, Nat.add_sub_cancel, nI_add, pk_mul, n_sub, n_ixT, n_cl, n_leT, n_leF, n_ltT, n_ltF, n_eqT, n_eqF, Nat.reduceAdd, Nat.reduceMul, Nat.reduceSub, Nat.reduceEqDiff, Nat.reduceLT, Nat.reduceLeDiff, Nat.mul_one, Nat.one_mul, Nat.add_zero, Nat.zero_add, le_T, nb]
theorem c238 (h : Cst S I R a v L f) : RM (d + 2) 238 [.ref a] (S, I, R, z) Q = Q (some (.int (nI L))) (S, I, R, z) := by
  obtain ⟨sa, ra, ia, sv, iv, hf, hL⟩ := id h
  have hs := sh5 L (by omega)
  simp (disch := omega) only [e238, w238_0, w238_1, w238_4, w238_5, w238_6, w238_9, w238_10, sa, ra, ia, sv, aPush_s, aPush_n, vrf_s, vrf_n, true_and, and_true, false_and, and_false, true_imp_iff, false_imp_iff, not_true_eq_false, not_false_eq_true, eq_self, true_or, or_true, and_self, if_true, if_false, n_of, le_T, c242 h, hs, Nat.reduceLeDiff]
theorem c239 {j : Nat} (h : Cst S I R a v L f) (hj : j < L) : RM (d + 4) 239 [.ref a, .int (nI j)] (S, I, R, z) Q = Q (some (.int (nI (f j)))) (S, I, R, z) := by
  obtain ⟨sa, ra, ia, sv, iv, hf, hL⟩ := id h
  have ij := iv j hj
  have nc := nch (hf j hj)
  obtain ⟨-, u1, u2⟩ := fx128 (f j) (hf j hj)
  have hz : (nI j < 0) = False := eq_false (by rw [← nI_0]; exact nI_nlt (Nat.zero_le _) (by omega))
  have h1 : (nI 1 = 0) = False := eq_false (by decide)
  simp (disch := omega) only [e239, w239_0, w239_1, w239_4, w239_7, w239_8, w239_11, w239_12, w239_15, w239_16, w239_17, w239_20, w239_24, e245, w245_0, w245_1, w245_1N, w245_2, w245_3, w245_6, w245_6N, w245_7, w245_8, w245_9, w245_12, w245_13, w245_14, e244, w244_0, w244_1, w244_2, w244_5, w244_8, w244_9, e249, w249_0, w249_1, w249_4, w249_5, w249_6, w249_9, w249_9N, w249_10, w249_11, w249_16, w249_17, sa, ra, ia, sv, aPush_s, aPush_n, vrf_s, vrf_n, true_and, and_true, false_and, and_false, true_imp_iff, false_imp_iff, not_true_eq_false, not_false_eq_true, eq_self, true_or, or_true, and_self, if_true, if_false, n_of, n_cl, n_ixT, n_ltT, le_T, c243 h, ij, u1, u2, nc, hz, h1]
theorem l248 {c : Nat} (h : Cst S I R a v L f) (hc : c < 128) : ∀ (m j : Nat), j + m = L → RB (d + 1) 248 7 [.ref v, .int (nI c), l1, .int (nI L), .int (nI c), .int (nI j)] [] (S, I, R, z) Q = Q (some (.int (oI (fIx f c m j)))) (S, I, R, z) := by
  obtain ⟨sa, ra, ia, sv, iv, hf, hL⟩ := id h
  intro m
  induction m with
  | zero =>
    intro j hj
    rw [w248_7]
    simp (disch := omega) only [w248_0, w248_1, w248_2, w248_4, w248_5, w248_9, w248_10, w248_13, w248_13N, w248_14, w248_16, w248_17, w248_19, w248_22, w248_24, w248_25, w248_28, w248_31, w248_32, sa, ra, ia, sv, aPush_s, aPush_n, vrf_s, vrf_n, true_and, and_true, false_and, and_false, true_imp_iff, false_imp_iff, not_true_eq_false, not_false_eq_true, eq_self, true_or, or_true, and_self, if_true, if_false, n_lit, n_of, n_an, Nat.add_sub_cancel, nI_add, pk_mul, n_sub, n_ixT, n_cl, n_leT, n_leF, n_ltT, n_ltF, n_eqT, n_eqF, Nat.reduceAdd, Nat.reduceMul, Nat.reduceSub, Nat.reduceEqDiff, Nat.reduceLT, Nat.reduceLeDiff, Nat.mul_one, Nat.one_mul, Nat.add_zero, Nat.zero_add, le_T]
    rfl
  | succ m ih =>
    intro j hj
    have ij := iv j (by omega)
    have fj := hf j (by omega)
    rw [w248_7]
    by_cases e : f j = c
    · simp (disch := omega) only [w248_0, w248_1, w248_2, w248_4, w248_5, w248_9, w248_10, w248_13, w248_13N, w248_14, w248_16, w248_17, w248_19, w248_22, w248_24, w248_25, w248_28, w248_31, w248_32, sa, ra, ia, sv, aPush_s, aPush_n, vrf_s, vrf_n, true_and, and_true, false_and, and_false, true_imp_iff, false_imp_iff, not_true_eq_false, not_false_eq_true, eq_self, true_or, or_true, and_self, if_true, if_false, n_lit, n_of, n_an, Nat.add_sub_cancel, nI_add, pk_mul, n_sub, n_ixT, n_cl, n_leT, n_leF, n_ltT, n_ltF, n_eqT, n_eqF, Nat.reduceAdd, Nat.reduceMul, Nat.reduceSub, Nat.reduceEqDiff, Nat.reduceLT, Nat.reduceLeDiff, Nat.mul_one, Nat.one_mul, Nat.add_zero, Nat.zero_add, le_T, ij]
      show _ = Q (some (.int (oI (if f j = c then some j else _)))) _
      rw [if_pos e]
      rfl
    · simp (disch := omega) only [w248_0, w248_1, w248_2, w248_4, w248_5, w248_9, w248_10, w248_13, w248_13N, w248_14, w248_16, w248_17, w248_19, w248_22, w248_24, w248_25, w248_28, w248_31, w248_32, sa, ra, ia, sv, aPush_s, aPush_n, vrf_s, vrf_n, true_and, and_true, false_and, and_false, true_imp_iff, false_imp_iff, not_true_eq_false, not_false_eq_true, eq_self, true_or, or_true, and_self, if_true, if_false, n_lit, n_of, n_an, Nat.add_sub_cancel, nI_add, pk_mul, n_sub, n_ixT, n_cl, n_leT, n_leF, n_ltT, n_ltF, n_eqT, n_eqF, Nat.reduceAdd, Nat.reduceMul, Nat.reduceSub, Nat.reduceEqDiff, Nat.reduceLT, Nat.reduceLeDiff, Nat.mul_one, Nat.one_mul, Nat.add_zero, Nat.zero_add, le_T, ij]
      rw [ih (j + 1) (by omega)]
      show _ = Q (some (.int (oI (if f j = c then some j else _)))) _
      rw [if_neg e]
theorem c240 {c : Nat} (h : Cst S I R a v L f) (h0 : 0 < L) (hc : c < 128) : RM (d + 6) 240 [.ref a, .int (nI c)] (S, I, R, z) Q = Q (some (.int (oI (fIx f c L 0)))) (S, I, R, z) := by
  obtain ⟨sa, ra, ia, sv, iv, hf, hL⟩ := id h
  obtain ⟨u0, -, -⟩ := fx128 c hc
  simp (disch := omega) only [e240, w240_0, w240_1, w240_2, w240_3, w240_6, e241, w241_0, w241_1, w241_4, w241_7, w241_8, w241_11, w241_12, w241_13, w241_14, w241_17, w241_20, w241_23, w241_24, w241_27, w241_28, w241_29, w241_30, w241_36, e247, w247_0, w247_1, w247_4, w247_7, w247_8, w247_9, w247_10, w247_11, w247_14, w247_15, w247_16, w247_16N, w247_17, w247_18, w247_21, w247_22, w247_23, w247_24, w247_27, w247_28, w247_29, w247_29N, w247_30, w247_31, w247_32, w247_33, w247_36, e246, w246_0, w246_1, w246_4, w246_5, w246_8, w246_11, w246_12, w246_15, w246_16, e248, w248_0, w248_1, w248_2, w248_4, w248_5, sa, ra, ia, sv, aPush_s, aPush_n, vrf_s, vrf_n, true_and, and_true, false_and, and_false, true_imp_iff, false_imp_iff, not_true_eq_false, not_false_eq_true, eq_self, true_or, or_true, and_self, if_true, if_false, n_lit, n_of, n_an, Nat.add_sub_cancel, nI_add, pk_mul, n_sub, n_ixT, n_cl, n_leT, n_leF, n_ltT, n_ltF, n_eqT, n_eqF, Nat.reduceAdd, Nat.reduceMul, Nat.reduceSub, Nat.reduceEqDiff, Nat.reduceLT, Nat.reduceLeDiff, Nat.mul_one, Nat.one_mul, Nat.add_zero, Nat.zero_add, le_T, c243 h, c238 h, RM_max, RM_min, u0, nz1, ite_self]
  rw [l248 (d := d + 1) h hc L 0 (by omega)]
  simp only [w247_36, w241_20, w241_36, w240_6, aPush_s, aPush_n, vrf_s, vrf_n, true_and, and_true, false_and, and_false, true_imp_iff, false_imp_iff, not_true_eq_false, not_false_eq_true, eq_self, true_or, or_true, and_self, if_true, if_false]
theorem kst {i : Nat} (h : Kx S I R) (hi : i < 6) : Cst S I R (2 + i) (8 + i) (strL i) (strB i) := by
  obtain ⟨h1, h2, h3, h4, h5⟩ := h.2.1 i hi
  have key : ∀ i, i < 6 → (∀ j, j < strL i → strB i j < 128) ∧ strL i ≤ 4 := by decide
  exact ⟨h1, h2, h3, h4, h5, (key i hi).1, (key i hi).2⟩
theorem c53 {c : Nat} (hT : Th S R) (tp : Tp I T n) (tk : tOk n t) (h : TkC I t) (hc : c < 256) : RM (d + 1) 53 [.ref 54, .int (nI c)] (S, I, R, z) Q = Q (some (.int (nI (b2n (decide (tSg T c t)))))) (S, I, R, z) := by
  obtain ⟨s54, s55, s56, r540, r546⟩ := id hT
  obtain ⟨n96, i1, ib, hb⟩ := id tp
  obtain ⟨i2, i3, i4, i5⟩ := h
  obtain ⟨k1, k2, k3, k4⟩ := tk
  by_cases e : t.2.2.1 = 3
  · have hp : t.1 < n := by have := k4 (by omega); omega
    have ip := ib t.1 hp
    have hbp := hb t.1
    by_cases e2 : T t.1 = c
    · rw [decide_eq_true (show tSg T c t from ⟨e, e2⟩)]
      simp (disch := omega) only [e53, w53_0, w53_1, w53_4, w53_5, w53_8, w53_9, w53_12, w53_13, w53_16, w53_19, w53_20, w53_23, w53_24, w53_27, w53_28, w53_29, w53_32, w53_33, w53_36, w53_37, s54, s55, s56, r540, r546, aPush_s, aPush_n, vrf_s, vrf_n, true_and, and_true, false_and, and_false, true_imp_iff, false_imp_iff, not_true_eq_false, not_false_eq_true, eq_self, true_or, or_true, and_self, if_true, if_false, n_lit, n_of, n_an, Nat.add_sub_cancel, nI_add, pk_mul, n_sub, n_ixT, n_cl, n_leT, n_leF, n_ltT, n_ltF, n_eqT, n_eqF, Nat.reduceAdd, Nat.reduceMul, Nat.reduceSub, Nat.reduceEqDiff, Nat.reduceLT, Nat.reduceLeDiff, Nat.mul_one, Nat.one_mul, Nat.add_zero, Nat.zero_add, le_T, nz0, nz1, i1, i2, i4, ip, b2n_t]
    · rw [decide_eq_false (show ¬ tSg T c t from fun q => e2 q.2)]
      simp (disch := omega) only [e53, w53_0, w53_1, w53_4, w53_5, w53_8, w53_9, w53_12, w53_13, w53_16, w53_19, w53_20, w53_23, w53_24, w53_27, w53_28, w53_29, w53_32, w53_33, w53_36, w53_37, s54, s55, s56, r540, r546, aPush_s, aPush_n, vrf_s, vrf_n, true_and, and_true, false_and, and_false, true_imp_iff, false_imp_iff, not_true_eq_false, not_false_eq_true, eq_self, true_or, or_true, and_self, if_true, if_false, n_lit, n_of, n_an, Nat.add_sub_cancel, nI_add, pk_mul, n_sub, n_ixT, n_cl, n_leT, n_leF, n_ltT, n_ltF, n_eqT, n_eqF, Nat.reduceAdd, Nat.reduceMul, Nat.reduceSub, Nat.reduceEqDiff, Nat.reduceLT, Nat.reduceLeDiff, Nat.mul_one, Nat.one_mul, Nat.add_zero, Nat.zero_add, le_T, nz0, nz1, i1, i2, i4, ip, b2n_f]
  · rw [decide_eq_false (show ¬ tSg T c t from fun q => e q.1)]
    simp (disch := omega) only [e53, w53_0, w53_1, w53_4, w53_5, w53_8, w53_9, w53_12, w53_13, w53_16, w53_19, w53_20, w53_23, w53_24, w53_27, w53_28, w53_29, w53_32, w53_33, w53_36, w53_37, s54, s55, s56, r540, r546, aPush_s, aPush_n, vrf_s, vrf_n, true_and, and_true, false_and, and_false, true_imp_iff, false_imp_iff, not_true_eq_false, not_false_eq_true, eq_self, true_or, or_true, and_self, if_true, if_false, n_lit, n_of, n_an, Nat.add_sub_cancel, nI_add, pk_mul, n_sub, n_ixT, n_cl, n_leT, n_leF, n_ltT, n_ltF, n_eqT, n_eqF, Nat.reduceAdd, Nat.reduceMul, Nat.reduceSub, Nat.reduceEqDiff, Nat.reduceLT, Nat.reduceLeDiff, Nat.mul_one, Nat.one_mul, Nat.add_zero, Nat.zero_add, le_T, nz0, nz1, i1, i2, i4, b2n_f]
theorem c55 {m : Nat} (hT : Th S R) (i7 : I 54 7 = nI m) (hm : m < 96) : RM (d + 1) 55 [.ref 54, .int x] (S, I, R, z) Q = Q none (S, aW (aW I 56 m x) 54 7 (nI (m + 1)), R, z) := by
  obtain ⟨s54, s55, s56, r540, r546⟩ := id hT
  simp (disch := omega) only [e55, w55_0, w55_1, w55_4, w55_5, w55_8, w55_9, w55_12, w55_13, w55_16, w55_17, w55_20, w55_21, w55_22, w55_23, w55_24, w55_27, w55_28, w55_29, w55_32, s54, s55, s56, r540, r546, aPush_s, aPush_n, vrf_s, vrf_n, true_and, and_true, false_and, and_false, true_imp_iff, false_imp_iff, not_true_eq_false, not_false_eq_true, eq_self, true_or, or_true, and_self, if_true, if_false, n_lit, n_of, n_an, Nat.add_sub_cancel, nI_add, pk_mul, n_sub, n_ixT, n_cl, n_leT, n_leF, n_ltT, n_ltF, n_eqT, n_eqF, Nat.reduceAdd, Nat.reduceMul, Nat.reduceSub, Nat.reduceEqDiff, Nat.reduceLT, Nat.reduceLeDiff, Nat.mul_one, Nat.one_mul, Nat.add_zero, Nat.zero_add, le_T, nz0, nz1, i7, aW_o, aW_i, aW_e]
theorem c55f {m : Nat} (hT : Th S R) (i7 : I 54 7 = nI m) (hm : m = 96) : RM (d + 1) 55 [.ref 54, .int x] (S, I, R, z) Q = Q none (S, I, R, z) := by
  obtain ⟨s54, s55, s56, r540, r546⟩ := id hT
  subst hm
  simp (disch := omega) only [e55, w55_0, w55_1, w55_4, w55_5, w55_8, w55_9, w55_12, w55_13, w55_16, w55_17, w55_20, w55_21, w55_22, w55_23, w55_24, w55_27, w55_28, w55_29, w55_32, s54, s55, s56, r540, r546, aPush_s, aPush_n, vrf_s, vrf_n, true_and, and_true, false_and, and_false, true_imp_iff, false_imp_iff, not_true_eq_false, not_false_eq_true, eq_self, true_or, or_true, and_self, if_true, if_false, n_lit, n_of, n_an, Nat.add_sub_cancel, nI_add, pk_mul, n_sub, n_ixT, n_cl, n_leT, n_leF, n_ltT, n_ltF, n_eqT, n_eqF, Nat.reduceAdd, Nat.reduceMul, Nat.reduceSub, Nat.reduceEqDiff, Nat.reduceLT, Nat.reduceLeDiff, Nat.mul_one, Nat.one_mul, Nat.add_zero, Nat.zero_add, le_T, nz0, nz1, i7]
theorem l54 (hT : Th S R) (tp : Tp I T n) (i2 : I 54 2 = nI p) (h : Cst S I R a v L f) (hL : p + L ≤ n) : ∀ (m j : Nat), j + m = L → RB (d + 4) 54 28 [.ref 54, .ref a, .int (nI j)] [] (S, I, R, z) Q = Q (some (.int (nI (b2n (tEq T f p m j))))) (S, I, R, z) := by
  obtain ⟨s54, s55, s56, r540, r546⟩ := id hT
  obtain ⟨n96, i1, ib, hb⟩ := id tp
  obtain ⟨sa, ra, ia, sv, iv, hf, hL4⟩ := id h
  intro m
  induction m with
  | zero =>
    intro j hj
    rw [w54_28]
    simp (disch := omega) only [w54_0, w54_1, w54_4, w54_5, w54_8, w54_9, w54_12, w54_13, w54_16, w54_17, w54_17N, w54_18, w54_21, w54_24, w54_25, w54_26, w54_27, w54_29, w54_29N, w54_30, w54_33, w54_36, w54_37, w54_40, w54_41, w54_44, w54_45, w54_46, w54_47, w54_47N, w54_48, w54_49, w54_52, w54_55, w54_56, w54_57, w54_60, w54_63, w54_64, s54, s55, s56, r540, r546, aPush_s, aPush_n, vrf_s, vrf_n, true_and, and_true, false_and, and_false, true_imp_iff, false_imp_iff, not_true_eq_false, not_false_eq_true, eq_self, true_or, or_true, and_self, if_true, if_false, n_lit, n_of, n_an, Nat.add_sub_cancel, nI_add, pk_mul, n_sub, n_ixT, n_cl, n_leT, n_leF, n_ltT, n_ltF, n_eqT, n_eqF, Nat.reduceAdd, Nat.reduceMul, Nat.reduceSub, Nat.reduceEqDiff, Nat.reduceLT, Nat.reduceLeDiff, Nat.mul_one, Nat.one_mul, Nat.add_zero, Nat.zero_add, le_T, nz0, nz1, sa, ra, ia, sv, c238 h]
    rfl
  | succ m ih =>
    intro j hj
    have ij := ib (p + j) (by omega)
    have fj := hf j (by omega)
    have hbj := hb (p + j)
    rw [w54_28]
    by_cases e : T (p + j) = f j
    · simp (disch := omega) only [w54_0, w54_1, w54_4, w54_5, w54_8, w54_9, w54_12, w54_13, w54_16, w54_17, w54_17N, w54_18, w54_21, w54_24, w54_25, w54_26, w54_27, w54_29, w54_29N, w54_30, w54_33, w54_36, w54_37, w54_40, w54_41, w54_44, w54_45, w54_46, w54_47, w54_47N, w54_48, w54_49, w54_52, w54_55, w54_56, w54_57, w54_60, w54_63, w54_64, s54, s55, s56, r540, r546, aPush_s, aPush_n, vrf_s, vrf_n, true_and, and_true, false_and, and_false, true_imp_iff, false_imp_iff, not_true_eq_false, not_false_eq_true, eq_self, true_or, or_true, and_self, if_true, if_false, n_lit, n_of, n_an, Nat.add_sub_cancel, nI_add, pk_mul, n_sub, n_ixT, n_cl, n_leT, n_leF, n_ltT, n_ltF, n_eqT, n_eqF, Nat.reduceAdd, Nat.reduceMul, Nat.reduceSub, Nat.reduceEqDiff, Nat.reduceLT, Nat.reduceLeDiff, Nat.mul_one, Nat.one_mul, Nat.add_zero, Nat.zero_add, le_T, nz0, nz1, sa, ra, ia, sv, c238 h, c239 h, i2, ij]
      rw [ih (j + 1) (by omega)]
      show _ = Q (some (.int (nI (b2n (decide (T (p + j) = f j) && tEq T f p m (j + 1)))))) _
      rw [decide_eq_true e, Bool.true_and]
    · simp (disch := omega) only [w54_0, w54_1, w54_4, w54_5, w54_8, w54_9, w54_12, w54_13, w54_16, w54_17, w54_17N, w54_18, w54_21, w54_24, w54_25, w54_26, w54_27, w54_29, w54_29N, w54_30, w54_33, w54_36, w54_37, w54_40, w54_41, w54_44, w54_45, w54_46, w54_47, w54_47N, w54_48, w54_49, w54_52, w54_55, w54_56, w54_57, w54_60, w54_63, w54_64, s54, s55, s56, r540, r546, aPush_s, aPush_n, vrf_s, vrf_n, true_and, and_true, false_and, and_false, true_imp_iff, false_imp_iff, not_true_eq_false, not_false_eq_true, eq_self, true_or, or_true, and_self, if_true, if_false, n_lit, n_of, n_an, Nat.add_sub_cancel, nI_add, pk_mul, n_sub, n_ixT, n_cl, n_leT, n_leF, n_ltT, n_ltF, n_eqT, n_eqF, Nat.reduceAdd, Nat.reduceMul, Nat.reduceSub, Nat.reduceEqDiff, Nat.reduceLT, Nat.reduceLeDiff, Nat.mul_one, Nat.one_mul, Nat.add_zero, Nat.zero_add, le_T, nz0, nz1, sa, ra, ia, sv, c238 h, c239 h, i2, ij]
      show _ = Q (some (.int (nI (b2n (decide (T (p + j) = f j) && tEq T f p m (j + 1)))))) _
      rw [decide_eq_false e, Bool.false_and]
      rfl
theorem c54 (hT : Th S R) (tp : Tp I T n) (tk : tOk n t) (ht : TkC I t) (h : Cst S I R a v L f) : RM (d + 5) 54 [.ref 54, .ref a] (S, I, R, z) Q = Q (some (.int (nI (b2n (tAt T f L t))))) (S, I, R, z) := by
  obtain ⟨s54, s55, s56, r540, r546⟩ := id hT
  obtain ⟨n96, i1, ib, hb⟩ := id tp
  obtain ⟨i2, i3, i4, i5⟩ := id ht
  obtain ⟨k1, k2, k3, k4⟩ := id tk
  obtain ⟨sa, ra, ia, sv, iv, hf, hL4⟩ := id h
  unfold tAt
  by_cases e : t.2.2.1 = 1
  · rw [decide_eq_true e, Bool.true_and]
    by_cases e2 : t.2.1 - t.1 = L
    · rw [decide_eq_true e2, Bool.true_and]
      simp (disch := omega) only [e54, w54_0, w54_1, w54_4, w54_5, w54_8, w54_9, w54_12, w54_13, w54_16, w54_17, w54_17N, w54_18, w54_21, w54_24, w54_25, w54_26, w54_27, w54_29, w54_29N, w54_30, w54_33, w54_36, w54_37, w54_40, w54_41, w54_44, w54_45, w54_46, w54_47, w54_47N, w54_48, w54_49, w54_52, w54_55, w54_56, w54_57, w54_60, w54_63, w54_64, s54, s55, s56, r540, r546, aPush_s, aPush_n, vrf_s, vrf_n, true_and, and_true, false_and, and_false, true_imp_iff, false_imp_iff, not_true_eq_false, not_false_eq_true, eq_self, true_or, or_true, and_self, if_true, if_false, n_lit, n_of, n_an, Nat.add_sub_cancel, nI_add, pk_mul, n_sub, n_ixT, n_cl, n_leT, n_leF, n_ltT, n_ltF, n_eqT, n_eqF, Nat.reduceAdd, Nat.reduceMul, Nat.reduceSub, Nat.reduceEqDiff, Nat.reduceLT, Nat.reduceLeDiff, Nat.mul_one, Nat.one_mul, Nat.add_zero, Nat.zero_add, le_T, nz0, nz1, sa, ra, ia, sv, c238 h, i2, i3, i4, n_sub]
      exact l54 hT tp i2 h (by omega) L 0 (by omega)
    · rw [decide_eq_false e2, Bool.false_and]
      simp (disch := omega) only [e54, w54_0, w54_1, w54_4, w54_5, w54_8, w54_9, w54_12, w54_13, w54_16, w54_17, w54_17N, w54_18, w54_21, w54_24, w54_25, w54_26, w54_27, w54_29, w54_29N, w54_30, w54_33, w54_36, w54_37, w54_40, w54_41, w54_44, w54_45, w54_46, w54_47, w54_47N, w54_48, w54_49, w54_52, w54_55, w54_56, w54_57, w54_60, w54_63, w54_64, s54, s55, s56, r540, r546, aPush_s, aPush_n, vrf_s, vrf_n, true_and, and_true, false_and, and_false, true_imp_iff, false_imp_iff, not_true_eq_false, not_false_eq_true, eq_self, true_or, or_true, and_self, if_true, if_false, n_lit, n_of, n_an, Nat.add_sub_cancel, nI_add, pk_mul, n_sub, n_ixT, n_cl, n_leT, n_leF, n_ltT, n_ltF, n_eqT, n_eqF, Nat.reduceAdd, Nat.reduceMul, Nat.reduceSub, Nat.reduceEqDiff, Nat.reduceLT, Nat.reduceLeDiff, Nat.mul_one, Nat.one_mul, Nat.add_zero, Nat.zero_add, le_T, nz0, nz1, sa, ra, ia, sv, c238 h, i2, i3, i4, n_sub, b2n_f]
  · rw [decide_eq_false e, Bool.false_and]
    simp (disch := omega) only [e54, w54_0, w54_1, w54_4, w54_5, w54_8, w54_9, w54_12, w54_13, w54_16, w54_17, w54_17N, w54_18, w54_21, w54_24, w54_25, w54_26, w54_27, w54_29, w54_29N, w54_30, w54_33, w54_36, w54_37, w54_40, w54_41, w54_44, w54_45, w54_46, w54_47, w54_47N, w54_48, w54_49, w54_52, w54_55, w54_56, w54_57, w54_60, w54_63, w54_64, s54, s55, s56, r540, r546, aPush_s, aPush_n, vrf_s, vrf_n, true_and, and_true, false_and, and_false, true_imp_iff, false_imp_iff, not_true_eq_false, not_false_eq_true, eq_self, true_or, or_true, and_self, if_true, if_false, n_lit, n_of, n_an, Nat.add_sub_cancel, nI_add, pk_mul, n_sub, n_ixT, n_cl, n_leT, n_leF, n_ltT, n_ltF, n_eqT, n_eqF, Nat.reduceAdd, Nat.reduceMul, Nat.reduceSub, Nat.reduceEqDiff, Nat.reduceLT, Nat.reduceLeDiff, Nat.mul_one, Nat.one_mul, Nat.add_zero, Nat.zero_add, le_T, nz0, nz1, sa, ra, ia, sv, i4, b2n_f]
theorem c49 (hT : Th S R) (tp : Tp I T n) (tk : tOk n t) (ht : TkC I t) (kx : Kx S I R) : RM (d + 6) 49 [.ref 54] (S, I, R, z) Q = Q (some (.int (oI (tKy T t)))) (S, I, R, z) := by
  have h0 := fun (d : Nat) (Q : Option Value → HS → Prop) => c54 (d := d) (z := z) (Q := Q) hT tp tk ht (kst (i := 0) kx (by decide))
  have h1 := fun (d : Nat) (Q : Option Value → HS → Prop) => c54 (d := d) (z := z) (Q := Q) hT tp tk ht (kst (i := 1) kx (by decide))
  have h2 := fun (d : Nat) (Q : Option Value → HS → Prop) => c54 (d := d) (z := z) (Q := Q) hT tp tk ht (kst (i := 2) kx (by decide))
  obtain ⟨s54, s55, s56, r540, r546⟩ := id hT
  unfold tKy
  have e0 : strL 0 = 3 := rfl
  have e1 : strL 1 = 4 := rfl
  have e2 : strL 2 = 4 := rfl
  simp only [e0, e1, e2, Nat.reduceAdd] at h0 h1 h2
  by_cases b0 : tAt T (strB 0) 3 t = true
  · rw [if_pos b0]
    simp (disch := omega) only [e49, w49_0, w49_1, w49_3, w49_6, w49_9, w49_10, w49_13, w49_14, w49_16, w49_19, w49_22, w49_23, w49_26, w49_27, w49_29, w49_32, w49_35, w49_36, w49_39, w49_40, s54, s55, s56, r540, r546, aPush_s, aPush_n, vrf_s, vrf_n, true_and, and_true, false_and, and_false, true_imp_iff, false_imp_iff, not_true_eq_false, not_false_eq_true, eq_self, true_or, or_true, and_self, if_true, if_false, n_lit, n_of, n_an, Nat.add_sub_cancel, nI_add, pk_mul, n_sub, n_ixT, n_cl, n_leT, n_leF, n_ltT, n_ltF, n_eqT, n_eqF, Nat.reduceAdd, Nat.reduceMul, Nat.reduceSub, Nat.reduceEqDiff, Nat.reduceLT, Nat.reduceLeDiff, Nat.mul_one, Nat.one_mul, Nat.add_zero, Nat.zero_add, le_T, nz0, nz1, h0, b0, b2n_t]
    rfl
  · rw [if_neg b0]
    have b0 := Bool.eq_false_iff.mpr b0
    by_cases b1 : tAt T (strB 1) 4 t = true
    · rw [if_pos b1]
      simp (disch := omega) only [e49, w49_0, w49_1, w49_3, w49_6, w49_9, w49_10, w49_13, w49_14, w49_16, w49_19, w49_22, w49_23, w49_26, w49_27, w49_29, w49_32, w49_35, w49_36, w49_39, w49_40, s54, s55, s56, r540, r546, aPush_s, aPush_n, vrf_s, vrf_n, true_and, and_true, false_and, and_false, true_imp_iff, false_imp_iff, not_true_eq_false, not_false_eq_true, eq_self, true_or, or_true, and_self, if_true, if_false, n_lit, n_of, n_an, Nat.add_sub_cancel, nI_add, pk_mul, n_sub, n_ixT, n_cl, n_leT, n_leF, n_ltT, n_ltF, n_eqT, n_eqF, Nat.reduceAdd, Nat.reduceMul, Nat.reduceSub, Nat.reduceEqDiff, Nat.reduceLT, Nat.reduceLeDiff, Nat.mul_one, Nat.one_mul, Nat.add_zero, Nat.zero_add, le_T, nz0, nz1, h0, h1, b0, b1, b2n_t, b2n_f]
      rfl
    · rw [if_neg b1]
      have b1 := Bool.eq_false_iff.mpr b1
      by_cases b2 : tAt T (strB 2) 4 t = true
      · rw [if_pos b2]
        simp (disch := omega) only [e49, w49_0, w49_1, w49_3, w49_6, w49_9, w49_10, w49_13, w49_14, w49_16, w49_19, w49_22, w49_23, w49_26, w49_27, w49_29, w49_32, w49_35, w49_36, w49_39, w49_40, s54, s55, s56, r540, r546, aPush_s, aPush_n, vrf_s, vrf_n, true_and, and_true, false_and, and_false, true_imp_iff, false_imp_iff, not_true_eq_false, not_false_eq_true, eq_self, true_or, or_true, and_self, if_true, if_false, n_lit, n_of, n_an, Nat.add_sub_cancel, nI_add, pk_mul, n_sub, n_ixT, n_cl, n_leT, n_leF, n_ltT, n_ltF, n_eqT, n_eqF, Nat.reduceAdd, Nat.reduceMul, Nat.reduceSub, Nat.reduceEqDiff, Nat.reduceLT, Nat.reduceLeDiff, Nat.mul_one, Nat.one_mul, Nat.add_zero, Nat.zero_add, le_T, nz0, nz1, h0, h1, h2, b0, b1, b2, b2n_t, b2n_f]
        rfl
      · rw [if_neg b2]
        have b2 := Bool.eq_false_iff.mpr b2
        simp (disch := omega) only [e49, w49_0, w49_1, w49_3, w49_6, w49_9, w49_10, w49_13, w49_14, w49_16, w49_19, w49_22, w49_23, w49_26, w49_27, w49_29, w49_32, w49_35, w49_36, w49_39, w49_40, s54, s55, s56, r540, r546, aPush_s, aPush_n, vrf_s, vrf_n, true_and, and_true, false_and, and_false, true_imp_iff, false_imp_iff, not_true_eq_false, not_false_eq_true, eq_self, true_or, or_true, and_self, if_true, if_false, n_lit, n_of, n_an, Nat.add_sub_cancel, nI_add, pk_mul, n_sub, n_ixT, n_cl, n_leT, n_leF, n_ltT, n_ltF, n_eqT, n_eqF, Nat.reduceAdd, Nat.reduceMul, Nat.reduceSub, Nat.reduceEqDiff, Nat.reduceLT, Nat.reduceLeDiff, Nat.mul_one, Nat.one_mul, Nat.add_zero, Nat.zero_add, le_T, nz0, nz1, h0, h1, h2, b0, b1, b2, b2n_t, b2n_f]
        rfl
end
