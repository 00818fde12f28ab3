/-! TEXT: a Text is made, and kept -/
section
variable {d n k p q a b o f l r t u c len : Nat} {S : Nat → Nat × Nat} {I J K : Nat → Nat → Int32} {R : Nat → Nat → Option Nat} {z : Nat × Nat} {x y : Int32} {Q : Option Value → HS → Prop} {l1 l2 : Value}
theorem c48 (hT : Th S R) (ht : 103 ≤ t) (i7 : I 54 7 = nI len) (i8 : I 54 8 = nI k) (i9 : I 54 9 = nI a) (hl : len ≤ 96)
    (hQ : ∀ S' I' R', (∀ q, q ≠ t → q ≠ t + 1 → S' q = S q ∧ I' q = I q ∧ R' q = R q) → S' t = (4, 3) → S' (t + 1) = (9, len) → R' t 2 = some (t + 1) → I' t 0 = nI k → I' t 1 = nI a → (∀ j, j < len → I' (t + 1) j = I 56 j) → Q (some (.ref t)) (S', I', R', (t + 2, u + 3 + len))) : RM (d + 3) 48 [.ref 54] (S, I, R, (t, u)) Q := by
  obtain ⟨s54, s55, s56, r540, r546⟩ := id hT
  have hA : nS (nS S t 4 3) (t + 1) 9 len 56 = (9, 96) := by rw [nS_o (by omega), nS_o (by omega)]; exact s56
  have hB : nS (nS S t 4 3) (t + 1) 9 len (t + 1) = (9, len) := nS_e
  have hC := fun (d : Nat) (I : Nat → Nat → Int32) (R : Nat → Nat → Option Nat) (z : Nat × Nat) (Q : Option Value → HS → Prop) => RM_cp (d := d) (I := I) (R := R) (z := z) (Q := Q) (sp := 0) (dp := 0) (n := len) hA hB (by omega) (by omega) (by omega) (by omega) (by omega) (by omega)
  have h0 : ¬ nI len < 0 := Int32.not_lt.2 (by rw [← nI_0]; exact nI_le (Nat.zero_le _) (by omega))
  simp (disch := omega) only [e48, w48_0, w48_3, w48_4, w48_5, w48_8, w48_9, w48_12, w48_13, w48_16, w48_17, w48_20, w48_23, w48_23N, e66, w66_0, w66_1, w66_4, w66_5, w66_6, w66_9, w66_10, w66_11, w66_14, w66_15, w66_17, w66_19, w66_22, w66_22N, w66_23, w66_24, w66_25, w66_28, w66_29, w66_31, w66_34, RM_obj, aNc_t, nS_e, nS_o, nZ_o, nN_o, aR_e, i7, i8, i9, s54, r546, hC, h0, aPush_s, aPush_n, vrf_s, vrf_n, true_and, and_true, false_and, and_false, true_imp_iff, false_imp_iff, not_true_eq_false, not_false_eq_true, eq_self, true_or, or_true, and_self, if_true, if_false, n_lit, n_cl, n_ltF, n_leT, le_T, Nat.reduceLeDiff, Nat.reduceLT]
  refine hQ _ _ _ (fun q q1 q2 => ⟨?_, ?_, ?_⟩) ?_ hB ?_ ?_ ?_ (fun j hj => ?_)
  · simp (disch := omega) only [nS_o]
  · simp (disch := omega) only [aC_o, nZ_o, aW_o]
  · simp (disch := omega) only [nN_o, aR_o]
  · simp (disch := omega) only [nS_o, nS_e]
  · exact aR_e
  · simp (disch := omega) only [aC_o, nZ_o, aW_o, aW_e, aW_i]
  · simp (disch := omega) only [aC_o, nZ_o, aW_o, aW_e, aW_i]
  · rw [aC_in (Nat.zero_le _) (by omega)]
    simp (disch := omega) only [nZ_o, aW_o, Nat.zero_add, Nat.sub_zero]
theorem c12 (hS : S 17 = (2, 18)) (s23 : S 23 = (13, 14)) (s24 : S 24 = (9, 3)) (r12 : R 17 12 = some 23) (r14 : R 17 14 = some 24) (st : S t = (4, 3)) (it : I t 0 = nI k) (hk : k < 3) (ht : 103 ≤ t) (i13 : I 17 13 = nI c) (hc : c < 14) : RM (d + 1) 12 [.ref 17, .ref t] (S, I, R, z) Q = Q (some (.int (nI c))) (S, aW (aW I 24 k (nI c)) 17 13 (nI (c + 1)), aR R 23 c (some t), z) := by
  have o13 : aOfK 13 = 4 := by decide
  simp (disch := omega) only [e12, w12_0, w12_1, w12_4, w12_6, w12_9, w12_11, w12_12, w12_13, w12_16, w12_17, w12_20, w12_20N, w12_21, w12_21N, w12_22, w12_23, w12_26, w12_26N, w12_27, w12_30, w12_31, w12_34, w12_35, w12_36, w12_37, w12_40, w12_41, w12_42, w12_45, w12_46, w12_49, w12_50, w12_51, hS, s23, s24, r12, r14, st, it, i13, o13, aR_o, aW_o, aW_e, aW_i, aPush_s, aPush_n, vrf_s, vrf_n, true_and, and_true, false_and, and_false, true_imp_iff, false_imp_iff, not_true_eq_false, not_false_eq_true, eq_self, true_or, or_true, and_self, if_true, if_false, n_lit, n_of, n_an, Nat.add_sub_cancel, nI_add, pk_mul, n_sub, n_ixT, n_cl, n_leT, n_leF, n_ltT, n_ltF, n_eqT, n_eqF, Nat.reduceAdd, Nat.reduceMul, Nat.reduceSub, Nat.reduceEqDiff, Nat.reduceLT, Nat.reduceLeDiff, Nat.mul_one, Nat.one_mul, Nat.add_zero, Nat.zero_add, le_T]
theorem c12f (hS : S 17 = (2, 18)) (i13 : I 17 13 = nI c) (hc : c = 14) : RM (d + 1) 12 [.ref 17, .ref t] (S, I, R, z) Q = Q (some (.int (-nI 1000000003))) (S, I, R, z) := by
  simp (disch := omega) only [e12, w12_0, w12_1, w12_4, w12_6, w12_9, w12_11, w12_12, w12_13, w12_16, w12_17, w12_20, w12_20N, w12_21, w12_21N, w12_22, w12_23, w12_26, w12_26N, w12_27, w12_30, w12_31, w12_34, w12_35, w12_36, w12_37, w12_40, w12_41, w12_42, w12_45, w12_46, w12_49, w12_50, w12_51, hS, i13, aPush_s, aPush_n, vrf_s, vrf_n, true_and, and_true, false_and, and_false, true_imp_iff, false_imp_iff, not_true_eq_false, not_false_eq_true, eq_self, true_or, or_true, and_self, if_true, if_false, n_lit, n_of, n_an, Nat.add_sub_cancel, nI_add, pk_mul, n_sub, n_ixT, n_cl, n_leT, n_leF, n_ltT, n_ltF, n_eqT, n_eqF, Nat.reduceAdd, Nat.reduceMul, Nat.reduceSub, Nat.reduceEqDiff, Nat.reduceLT, Nat.reduceLeDiff, Nat.mul_one, Nat.one_mul, Nat.add_zero, Nat.zero_add]
end
