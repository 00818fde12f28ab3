/-! TEXT: the key of the reference -/
section
variable {d n k p q a b o f l r : Nat} {T : Nat → Nat} {t : Tok} {H : List Nat} {C : List Int32} {te : List Bool} {S : Nat → Nat × Nat} {I J K : Nat → Nat → Int32} {R : Nat → Nat → Option Nat} {z : Nat × Nat} {x y : Int32} {Q : Option Value → HS → Prop} {l1 l2 : Value}
theorem l208b {w L ka : Nat} {f : Nat → Nat} (hm : Md S R) (tq : Tq I T n) (i8 : I 81 8 = nI p) (hL : p + L ≤ n) (hw : w < 3) (kw : I 88 w = nI ka) (hka : ka + L ≤ 11) (hf : ∀ j, j < L → I 87 (ka + j) = nI (f j) ∧ f j < 256) : ∀ (m j : Nat), j + m = L → (∀ l4, RB d 208 106 [.ref 81, .int (nI w), .int (nI L), .int (nI (b2n (tEq T f p m j))), l4] [] (S, I, R, z) Q) → RB d 208 55 [.ref 81, .int (nI w), .int (nI L), .int (nI 1), .int (nI j)] [] (S, I, R, z) Q := by
  obtain ⟨Md_s1, Md_s81, Md_s82, Md_s83, Md_s84, Md_s85, Md_s86, Md_s87, Md_s88, Md_s89, Md_s90, Md_s91, Md_s92, Md_s93, Md_s94, Md_s95, Md_s96, Md_s97, Md_s98, Md_s99, Md_s100, Md_s101, Md_s102, Md_r81_0, Md_r81_1, Md_r81_2, Md_r81_4, Md_r81_5, Md_r81_13, Md_r81_14, Md_r81_15, Md_r81_18, Md_r81_20, Md_r81_21, Md_r81_22, Md_r81_23, Md_r81_24, Md_r81_25, Md_r81_26, Md_r81_27, Md_r81_28, Md_r81_29, Md_r81_30, Md_r81_31⟩ := id hm
  obtain ⟨n96, i6, ib, hb⟩ := id tq
  intro m
  induction m with
  | zero =>
    intro j hj hQ
    have e : j = L := by omega
    rw [w208_55]
    simp (disch := omega) only [w208_57, w208_58, w208_61, w208_62, w208_65, w208_66, w208_69, w208_70, w208_73, w208_75, w208_76, w208_77, w208_78, w208_81, w208_82, w208_85, w208_86, w208_87, w208_89, w208_90, w208_91, w208_94, w208_95, w208_98, w208_99, w208_100, w208_103, Md_s1, Md_s81, Md_s82, Md_s83, Md_s84, Md_s85, Md_s86, Md_s87, Md_s88, Md_s89, Md_s90, Md_s91, Md_s92, Md_s93, Md_s94, Md_s95, Md_s96, Md_s97, Md_s98, Md_s99, Md_s100, Md_s101, Md_s102, Md_r81_0, Md_r81_1, Md_r81_2, Md_r81_4, Md_r81_5, Md_r81_13, Md_r81_14, Md_r81_15, Md_r81_18, Md_r81_20, Md_r81_21, Md_r81_22, Md_r81_23, Md_r81_24, Md_r81_25, Md_r81_26, Md_r81_27, Md_r81_28, Md_r81_29, Md_r81_30, Md_r81_31, aPush_s, aPush_n, vrf_s, vrf_n, true_and, and_true, false_and, and_false, true_imp_iff, false_imp_iff, not_true_eq_false, not_false_eq_true, eq_self, true_or, or_true, and_self, if_true, if_false, n_lit, n_of, n_an, Nat.add_sub_cancel, nI_add, pk_mul, n_sub, n_ixT, n_cl, n_leT, n_leF, n_ltT, n_ltF, n_eqT, n_eqF, Nat.reduceAdd, Nat.reduceMul, Nat.reduceSub, Nat.reduceEqDiff, Nat.reduceLT, Nat.reduceLeDiff, Nat.mul_one, Nat.one_mul, Nat.add_zero, Nat.zero_add, le_T, nz0, nz1]
    exact hQ _
  | succ m ih =>
    intro j hj hQ
    obtain ⟨fj, hfj⟩ := hf j (by omega)
    have ij := ib (p + j) (by omega)
    have hbj := hb (p + j)
    rw [w208_55]
    by_cases e : T (p + j) = f j
    · simp (disch := omega) only [w208_57, w208_58, w208_61, w208_62, w208_65, w208_66, w208_69, w208_70, w208_73, w208_75, w208_76, w208_77, w208_78, w208_81, w208_82, w208_85, w208_86, w208_87, w208_89, w208_90, w208_91, w208_94, w208_95, w208_98, w208_99, w208_100, w208_103, Md_s1, Md_s81, Md_s82, Md_s83, Md_s84, Md_s85, Md_s86, Md_s87, Md_s88, Md_s89, Md_s90, Md_s91, Md_s92, Md_s93, Md_s94, Md_s95, Md_s96, Md_s97, Md_s98, Md_s99, Md_s100, Md_s101, Md_s102, Md_r81_0, Md_r81_1, Md_r81_2, Md_r81_4, Md_r81_5, Md_r81_13, Md_r81_14, Md_r81_15, Md_r81_18, Md_r81_20, Md_r81_21, Md_r81_22, Md_r81_23, Md_r81_24, Md_r81_25, Md_r81_26, Md_r81_27, Md_r81_28, Md_r81_29, Md_r81_30, Md_r81_31, aPush_s, aPush_n, vrf_s, vrf_n, true_and, and_true, false_and, and_false, true_imp_iff, false_imp_iff, not_true_eq_false, not_false_eq_true, eq_self, true_or, or_true, and_self, if_true, if_false, n_lit, n_of, n_an, Nat.add_sub_cancel, nI_add, pk_mul, n_sub, n_ixT, n_cl, n_leT, n_leF, n_ltT, n_ltF, n_eqT, n_eqF, Nat.reduceAdd, Nat.reduceMul, Nat.reduceSub, Nat.reduceEqDiff, Nat.reduceLT, Nat.reduceLeDiff, Nat.mul_one, Nat.one_mul, Nat.add_zero, Nat.zero_add, le_T, nz0, nz1, i8, kw, fj, ij]
      refine ih (j + 1) (by omega) (fun l4 => ?_)
      have g := hQ l4
      rw [show tEq T f p (m + 1) j = tEq T f p m (j + 1) by show (decide (T (p + j) = f j) && tEq T f p m (j + 1)) = _; rw [decide_eq_true e, Bool.true_and]] at g
      exact g
    · have e2 : tEq T f p (m + 1) j = false := by
        show (decide (T (p + j) = f j) && tEq T f p m (j + 1)) = _
        rw [decide_eq_false e, Bool.false_and]
      simp only [e2, b2n_f] at hQ
      simp (disch := omega) only [w208_57, w208_58, w208_61, w208_62, w208_65, w208_66, w208_69, w208_70, w208_73, w208_75, w208_76, w208_77, w208_78, w208_81, w208_82, w208_85, w208_86, w208_87, w208_89, w208_90, w208_91, w208_94, w208_95, w208_98, w208_99, w208_100, w208_103, Md_s1, Md_s81, Md_s82, Md_s83, Md_s84, Md_s85, Md_s86, Md_s87, Md_s88, Md_s89, Md_s90, Md_s91, Md_s92, Md_s93, Md_s94, Md_s95, Md_s96, Md_s97, Md_s98, Md_s99, Md_s100, Md_s101, Md_s102, Md_r81_0, Md_r81_1, Md_r81_2, Md_r81_4, Md_r81_5, Md_r81_13, Md_r81_14, Md_r81_15, Md_r81_18, Md_r81_20, Md_r81_21, Md_r81_22, Md_r81_23, Md_r81_24, Md_r81_25, Md_r81_26, Md_r81_27, Md_r81_28, Md_r81_29, Md_r81_30, Md_r81_31, aPush_s, aPush_n, vrf_s, vrf_n, true_and, and_true, false_and, and_false, true_imp_iff, false_imp_iff, not_true_eq_false, not_false_eq_true, eq_self, true_or, or_true, and_self, if_true, if_false, n_lit, n_of, n_an, Nat.add_sub_cancel, nI_add, pk_mul, n_sub, n_ixT, n_cl, n_leT, n_leF, n_ltT, n_ltF, n_eqT, n_eqF, Nat.reduceAdd, Nat.reduceMul, Nat.reduceSub, Nat.reduceEqDiff, Nat.reduceLT, Nat.reduceLeDiff, Nat.mul_one, Nat.one_mul, Nat.add_zero, Nat.zero_add, le_T, nz0, nz1, i8, kw, fj, ij]
      rw [w208_55]
      by_cases g : j + 1 < L
      · simp (disch := omega) only [w208_57, w208_58, w208_61, w208_62, w208_65, w208_66, w208_69, w208_70, w208_73, w208_75, w208_76, w208_77, w208_78, w208_81, w208_82, w208_85, w208_86, w208_87, w208_89, w208_90, w208_91, w208_94, w208_95, w208_98, w208_99, w208_100, w208_103, Md_s1, Md_s81, Md_s82, Md_s83, Md_s84, Md_s85, Md_s86, Md_s87, Md_s88, Md_s89, Md_s90, Md_s91, Md_s92, Md_s93, Md_s94, Md_s95, Md_s96, Md_s97, Md_s98, Md_s99, Md_s100, Md_s101, Md_s102, Md_r81_0, Md_r81_1, Md_r81_2, Md_r81_4, Md_r81_5, Md_r81_13, Md_r81_14, Md_r81_15, Md_r81_18, Md_r81_20, Md_r81_21, Md_r81_22, Md_r81_23, Md_r81_24, Md_r81_25, Md_r81_26, Md_r81_27, Md_r81_28, Md_r81_29, Md_r81_30, Md_r81_31, aPush_s, aPush_n, vrf_s, vrf_n, true_and, and_true, false_and, and_false, true_imp_iff, false_imp_iff, not_true_eq_false, not_false_eq_true, eq_self, true_or, or_true, and_self, if_true, if_false, n_lit, n_of, n_an, Nat.add_sub_cancel, nI_add, pk_mul, n_sub, n_ixT, n_cl, n_leT, n_leF, n_ltT, n_ltF, n_eqT, n_eqF, Nat.reduceAdd, Nat.reduceMul, Nat.reduceSub, Nat.reduceEqDiff, Nat.reduceLT, Nat.reduceLeDiff, Nat.mul_one, Nat.one_mul, Nat.add_zero, Nat.zero_add, le_T, nz0, nz1]
        exact hQ _
      · simp (disch := omega) only [w208_57, w208_58, w208_61, w208_62, w208_65, w208_66, w208_69, w208_70, w208_73, w208_75, w208_76, w208_77, w208_78, w208_81, w208_82, w208_85, w208_86, w208_87, w208_89, w208_90, w208_91, w208_94, w208_95, w208_98, w208_99, w208_100, w208_103, Md_s1, Md_s81, Md_s82, Md_s83, Md_s84, Md_s85, Md_s86, Md_s87, Md_s88, Md_s89, Md_s90, Md_s91, Md_s92, Md_s93, Md_s94, Md_s95, Md_s96, Md_s97, Md_s98, Md_s99, Md_s100, Md_s101, Md_s102, Md_r81_0, Md_r81_1, Md_r81_2, Md_r81_4, Md_r81_5, Md_r81_13, Md_r81_14, Md_r81_15, Md_r81_18, Md_r81_20, Md_r81_21, Md_r81_22, Md_r81_23, Md_r81_24, Md_r81_25, Md_r81_26, Md_r81_27, Md_r81_28, Md_r81_29, Md_r81_30, Md_r81_31, aPush_s, aPush_n, vrf_s, vrf_n, true_and, and_true, false_and, and_false, true_imp_iff, false_imp_iff, not_true_eq_false, not_false_eq_true, eq_self, true_or, or_true, and_self, if_true, if_false, n_lit, n_of, n_an, Nat.add_sub_cancel, nI_add, pk_mul, n_sub, n_ixT, n_cl, n_leT, n_leF, n_ltT, n_ltF, n_eqT, n_eqF, Nat.reduceAdd, Nat.reduceMul, Nat.reduceSub, Nat.reduceEqDiff, Nat.reduceLT, Nat.reduceLeDiff, Nat.mul_one, Nat.one_mul, Nat.add_zero, Nat.zero_add, le_T, nz0, nz1]
        exact hQ _
theorem l208w {w : Nat} (hm : Md S R) (tq : Tq I T n) (kk : Kk I) (tk : tOk n t) (e1 : t.2.2.1 = 1) (hw : w < 3) (i8 : I 81 8 = nI t.1) (i7 : I 81 7 = nI t.2.1)
    (hT : tAt T (strB w) (strL w) t = true → ∀ l2 l3 l4, RB d 208 110 [.ref 81, .int (nI w), l2, l3, l4] [] (S, I, R, z) Q)
    (hF : tAt T (strB w) (strL w) t = false → ∀ l2 l3 l4, RB d 208 12 [.ref 81, .int (nI (w + 1)), l2, l3, l4] [] (S, I, R, z) Q) : ∀ l2 l3 l4, RB d 208 12 [.ref 81, .int (nI w), l2, l3, l4] [] (S, I, R, z) Q := by
  intro l2 l3 l4
  obtain ⟨Md_s1, Md_s81, Md_s82, Md_s83, Md_s84, Md_s85, Md_s86, Md_s87, Md_s88, Md_s89, Md_s90, Md_s91, Md_s92, Md_s93, Md_s94, Md_s95, Md_s96, Md_s97, Md_s98, Md_s99, Md_s100, Md_s101, Md_s102, Md_r81_0, Md_r81_1, Md_r81_2, Md_r81_4, Md_r81_5, Md_r81_13, Md_r81_14, Md_r81_15, Md_r81_18, Md_r81_20, Md_r81_21, Md_r81_22, Md_r81_23, Md_r81_24, Md_r81_25, Md_r81_26, Md_r81_27, Md_r81_28, Md_r81_29, Md_r81_30, Md_r81_31⟩ := id hm
  obtain ⟨n96, i6, ib, hb⟩ := id tq
  obtain ⟨t1, t2, t3, t4⟩ := id tk
  have key : ∀ w, w < 3 → keyA (w + 1) = strL w + keyA w ∧ keyA w + strL w ≤ 11 ∧ 0 < strL w ∧ ∀ j, j < strL w → keyB (keyA w + j) = strB w j ∧ strB w j < 256 := by decide
  obtain ⟨k1, k2, k3, k4⟩ := key w hw
  have kw := kk.2 w (by omega)
  have kw1 := kk.2 (w + 1) (by omega)
  rw [k1] at kw1
  have hf : ∀ j, j < strL w → I 87 (keyA w + j) = nI (strB w j) ∧ strB w j < 256 := fun j hj => by
    rw [kk.1 _ (by omega), (k4 j hj).1]
    exact ⟨rfl, (k4 j hj).2⟩
  obtain ⟨ka, eka⟩ : ∃ ka, ka = keyA w := ⟨_, rfl⟩
  obtain ⟨L, eL⟩ : ∃ L, L = strL w := ⟨_, rfl⟩
  simp only [← eka, ← eL] at kw kw1 k2 k3 hT hF hf
  have tail : ∀ b, b = tAt T (strB w) L t → ∀ l2 l4, RB d 208 106 [.ref 81, .int (nI w), l2, .int (nI (b2n b)), l4] [] (S, I, R, z) Q := by
    intro b eb l2 l4
    cases b
    · simp (disch := omega) only [w208_106, w208_107, w208_110, w208_111, w208_112, w208_115, w208_116, w208_119, w208_120, w208_121, w208_124, Md_s1, Md_s81, Md_s82, Md_s83, Md_s84, Md_s85, Md_s86, Md_s87, Md_s88, Md_s89, Md_s90, Md_s91, Md_s92, Md_s93, Md_s94, Md_s95, Md_s96, Md_s97, Md_s98, Md_s99, Md_s100, Md_s101, Md_s102, Md_r81_0, Md_r81_1, Md_r81_2, Md_r81_4, Md_r81_5, Md_r81_13, Md_r81_14, Md_r81_15, Md_r81_18, Md_r81_20, Md_r81_21, Md_r81_22, Md_r81_23, Md_r81_24, Md_r81_25, Md_r81_26, Md_r81_27, Md_r81_28, Md_r81_29, Md_r81_30, Md_r81_31, aPush_s, aPush_n, vrf_s, vrf_n, true_and, and_true, false_and, and_false, true_imp_iff, false_imp_iff, not_true_eq_false, not_false_eq_true, eq_self, true_or, or_true, and_self, if_true, if_false, n_lit, n_of, n_an, Nat.add_sub_cancel, nI_add, pk_mul, n_sub, n_ixT, n_cl, n_leT, n_leF, n_ltT, n_ltF, n_eqT, n_eqF, Nat.reduceAdd, Nat.reduceMul, Nat.reduceSub, Nat.reduceEqDiff, Nat.reduceLT, Nat.reduceLeDiff, Nat.mul_one, Nat.one_mul, Nat.add_zero, Nat.zero_add, le_T, nz0, nz1, b2n_f]
      exact hF eb.symm _ _ _
    · simp (disch := omega) only [w208_106, w208_107, Md_s1, Md_s81, Md_s82, Md_s83, Md_s84, Md_s85, Md_s86, Md_s87, Md_s88, Md_s89, Md_s90, Md_s91, Md_s92, Md_s93, Md_s94, Md_s95, Md_s96, Md_s97, Md_s98, Md_s99, Md_s100, Md_s101, Md_s102, Md_r81_0, Md_r81_1, Md_r81_2, Md_r81_4, Md_r81_5, Md_r81_13, Md_r81_14, Md_r81_15, Md_r81_18, Md_r81_20, Md_r81_21, Md_r81_22, Md_r81_23, Md_r81_24, Md_r81_25, Md_r81_26, Md_r81_27, Md_r81_28, Md_r81_29, Md_r81_30, Md_r81_31, aPush_s, aPush_n, vrf_s, vrf_n, true_and, and_true, false_and, and_false, true_imp_iff, false_imp_iff, not_true_eq_false, not_false_eq_true, eq_self, true_or, or_true, and_self, if_true, if_false, n_lit, n_of, n_an, Nat.add_sub_cancel, nI_add, pk_mul, n_sub, n_ixT, n_cl, n_leT, n_leF, n_ltT, n_ltF, n_eqT, n_eqF, Nat.reduceAdd, Nat.reduceMul, Nat.reduceSub, Nat.reduceEqDiff, Nat.reduceLT, Nat.reduceLeDiff, Nat.mul_one, Nat.one_mul, Nat.add_zero, Nat.zero_add, le_T, nz0, nz1, b2n_t]
      exact hT eb.symm _ _ _
  rw [w208_12]
  by_cases e : t.2.1 - t.1 = L
  · simp (disch := omega) only [w208_13, w208_14, w208_17, w208_18, w208_21, w208_22, w208_23, w208_24, w208_25, w208_26, w208_29, w208_30, w208_31, w208_32, w208_33, w208_34, w208_35, w208_38, w208_39, w208_42, w208_43, w208_46, w208_47, w208_50, w208_51, w208_52, w208_53, Md_s1, Md_s81, Md_s82, Md_s83, Md_s84, Md_s85, Md_s86, Md_s87, Md_s88, Md_s89, Md_s90, Md_s91, Md_s92, Md_s93, Md_s94, Md_s95, Md_s96, Md_s97, Md_s98, Md_s99, Md_s100, Md_s101, Md_s102, Md_r81_0, Md_r81_1, Md_r81_2, Md_r81_4, Md_r81_5, Md_r81_13, Md_r81_14, Md_r81_15, Md_r81_18, Md_r81_20, Md_r81_21, Md_r81_22, Md_r81_23, Md_r81_24, Md_r81_25, Md_r81_26, Md_r81_27, Md_r81_28, Md_r81_29, Md_r81_30, Md_r81_31, aPush_s, aPush_n, vrf_s, vrf_n, true_and, and_true, false_and, and_false, true_imp_iff, false_imp_iff, not_true_eq_false, not_false_eq_true, eq_self, true_or, or_true, and_self, if_true, if_false, n_lit, n_of, n_an, Nat.add_sub_cancel, nI_add, pk_mul, n_sub, n_ixT, n_cl, n_leT, n_leF, n_ltT, n_ltF, n_eqT, n_eqF, Nat.reduceAdd, Nat.reduceMul, Nat.reduceSub, Nat.reduceEqDiff, Nat.reduceLT, Nat.reduceLeDiff, Nat.mul_one, Nat.one_mul, Nat.add_zero, Nat.zero_add, le_T, nz0, nz1, kw, kw1, i7, i8]
    refine l208b hm tq i8 (by omega) hw kw k2 hf L 0 (by omega) (fun l4 => tail _ ?_ _ _)
    unfold tAt
    rw [decide_eq_true e1, decide_eq_true e, Bool.true_and, Bool.true_and]
  · simp (disch := omega) only [w208_13, w208_14, w208_17, w208_18, w208_21, w208_22, w208_23, w208_24, w208_25, w208_26, w208_29, w208_30, w208_31, w208_32, w208_33, w208_34, w208_35, w208_38, w208_39, w208_42, w208_43, w208_46, w208_47, w208_50, w208_51, w208_52, w208_53, Md_s1, Md_s81, Md_s82, Md_s83, Md_s84, Md_s85, Md_s86, Md_s87, Md_s88, Md_s89, Md_s90, Md_s91, Md_s92, Md_s93, Md_s94, Md_s95, Md_s96, Md_s97, Md_s98, Md_s99, Md_s100, Md_s101, Md_s102, Md_r81_0, Md_r81_1, Md_r81_2, Md_r81_4, Md_r81_5, Md_r81_13, Md_r81_14, Md_r81_15, Md_r81_18, Md_r81_20, Md_r81_21, Md_r81_22, Md_r81_23, Md_r81_24, Md_r81_25, Md_r81_26, Md_r81_27, Md_r81_28, Md_r81_29, Md_r81_30, Md_r81_31, aPush_s, aPush_n, vrf_s, vrf_n, true_and, and_true, false_and, and_false, true_imp_iff, false_imp_iff, not_true_eq_false, not_false_eq_true, eq_self, true_or, or_true, and_self, if_true, if_false, n_lit, n_of, n_an, Nat.add_sub_cancel, nI_add, pk_mul, n_sub, n_ixT, n_cl, n_leT, n_leF, n_ltT, n_ltF, n_eqT, n_eqF, Nat.reduceAdd, Nat.reduceMul, Nat.reduceSub, Nat.reduceEqDiff, Nat.reduceLT, Nat.reduceLeDiff, Nat.mul_one, Nat.one_mul, Nat.add_zero, Nat.zero_add, le_T, nz0, nz1, kw, kw1, i7, i8]
    rw [w208_55]
    simp (disch := omega) only [w208_57, w208_58, w208_61, w208_62, w208_65, w208_66, w208_69, w208_70, w208_73, w208_75, w208_76, w208_77, w208_78, w208_81, w208_82, w208_85, w208_86, w208_87, w208_89, w208_90, w208_91, w208_94, w208_95, w208_98, w208_99, w208_100, w208_103, Md_s1, Md_s81, Md_s82, Md_s83, Md_s84, Md_s85, Md_s86, Md_s87, Md_s88, Md_s89, Md_s90, Md_s91, Md_s92, Md_s93, Md_s94, Md_s95, Md_s96, Md_s97, Md_s98, Md_s99, Md_s100, Md_s101, Md_s102, Md_r81_0, Md_r81_1, Md_r81_2, Md_r81_4, Md_r81_5, Md_r81_13, Md_r81_14, Md_r81_15, Md_r81_18, Md_r81_20, Md_r81_21, Md_r81_22, Md_r81_23, Md_r81_24, Md_r81_25, Md_r81_26, Md_r81_27, Md_r81_28, Md_r81_29, Md_r81_30, Md_r81_31, aPush_s, aPush_n, vrf_s, vrf_n, true_and, and_true, false_and, and_false, true_imp_iff, false_imp_iff, not_true_eq_false, not_false_eq_true, eq_self, true_or, or_true, and_self, if_true, if_false, n_lit, n_of, n_an, Nat.add_sub_cancel, nI_add, pk_mul, n_sub, n_ixT, n_cl, n_leT, n_leF, n_ltT, n_ltF, n_eqT, n_eqF, Nat.reduceAdd, Nat.reduceMul, Nat.reduceSub, Nat.reduceEqDiff, Nat.reduceLT, Nat.reduceLeDiff, Nat.mul_one, Nat.one_mul, Nat.add_zero, Nat.zero_add, le_T, nz0, nz1]
    exact tail false (by unfold tAt; rw [decide_eq_false e, Bool.false_and, Bool.and_false]) _ _
theorem c208 (hm : Md S R) (tq : Tq I T n) (kk : Kk I) (tk : tOk n t) (hg : t.2.2.2 = false) (h : TkR T I t) (i7 : I 81 7 = nI t.2.1) (hN : tKy T t = none → Q (some (.int (nI 0))) (S, I, R, z)) (hY : ∀ k J, tKy T t = some k → TkR T J (tNx T n t) → J 81 7 = nI (tNx T n t).2.1 → F81 (aW I 81 12 (nI k)) J → Q (some (.int (nI 1))) (S, J, R, z)) : RM (d + 4) 208 [.ref 81] (S, I, R, z) Q := by
  obtain ⟨Md_s1, Md_s81, Md_s82, Md_s83, Md_s84, Md_s85, Md_s86, Md_s87, Md_s88, Md_s89, Md_s90, Md_s91, Md_s92, Md_s93, Md_s94, Md_s95, Md_s96, Md_s97, Md_s98, Md_s99, Md_s100, Md_s101, Md_s102, Md_r81_0, Md_r81_1, Md_r81_2, Md_r81_4, Md_r81_5, Md_r81_13, Md_r81_14, Md_r81_15, Md_r81_18, Md_r81_20, Md_r81_21, Md_r81_22, Md_r81_23, Md_r81_24, Md_r81_25, Md_r81_26, Md_r81_27, Md_r81_28, Md_r81_29, Md_r81_30, Md_r81_31⟩ := id hm
  obtain ⟨i8, i9, i10, i10', en⟩ := id h
  obtain ⟨t1, t2, t3, t4⟩ := id tk
  by_cases e1 : t.2.2.1 = 1
  · have c1 : tCd t = 1 := by
      unfold tCd
      rw [if_pos e1, hg, if_neg (by decide)]
    have en := en (by omega)
    rw [c1] at i9
    simp (disch := omega) only [e208, w208_0, w208_1, w208_4, w208_5, w208_8, w208_9, w208_10, w208_11, Md_s1, Md_s81, Md_s82, Md_s83, Md_s84, Md_s85, Md_s86, Md_s87, Md_s88, Md_s89, Md_s90, Md_s91, Md_s92, Md_s93, Md_s94, Md_s95, Md_s96, Md_s97, Md_s98, Md_s99, Md_s100, Md_s101, Md_s102, Md_r81_0, Md_r81_1, Md_r81_2, Md_r81_4, Md_r81_5, Md_r81_13, Md_r81_14, Md_r81_15, Md_r81_18, Md_r81_20, Md_r81_21, Md_r81_22, Md_r81_23, Md_r81_24, Md_r81_25, Md_r81_26, Md_r81_27, Md_r81_28, Md_r81_29, Md_r81_30, Md_r81_31, aPush_s, aPush_n, vrf_s, vrf_n, true_and, and_true, false_and, and_false, true_imp_iff, false_imp_iff, not_true_eq_false, not_false_eq_true, eq_self, true_or, or_true, and_self, if_true, if_false, n_lit, n_of, n_an, Nat.add_sub_cancel, nI_add, pk_mul, n_sub, n_ixT, n_cl, n_leT, n_leF, n_ltT, n_ltF, n_eqT, n_eqF, Nat.reduceAdd, Nat.reduceMul, Nat.reduceSub, Nat.reduceEqDiff, Nat.reduceLT, Nat.reduceLeDiff, Nat.mul_one, Nat.one_mul, Nat.add_zero, Nat.zero_add, le_T, nz0, nz1, i9]
    have yes : ∀ w, tKy T t = some w → ∀ l2 l3 l4, RB (d + 3) 208 110 [.ref 81, .int (nI w), l2, l3, l4] [] (S, I, R, z) Q := by
      intro w ew l2 l3 l4
      simp (disch := omega) only [w208_110, w208_111, w208_112, w208_115, w208_116, Md_s1, Md_s81, Md_s82, Md_s83, Md_s84, Md_s85, Md_s86, Md_s87, Md_s88, Md_s89, Md_s90, Md_s91, Md_s92, Md_s93, Md_s94, Md_s95, Md_s96, Md_s97, Md_s98, Md_s99, Md_s100, Md_s101, Md_s102, Md_r81_0, Md_r81_1, Md_r81_2, Md_r81_4, Md_r81_5, Md_r81_13, Md_r81_14, Md_r81_15, Md_r81_18, Md_r81_20, Md_r81_21, Md_r81_22, Md_r81_23, Md_r81_24, Md_r81_25, Md_r81_26, Md_r81_27, Md_r81_28, Md_r81_29, Md_r81_30, Md_r81_31, aPush_s, aPush_n, vrf_s, vrf_n, true_and, and_true, false_and, and_false, true_imp_iff, false_imp_iff, not_true_eq_false, not_false_eq_true, eq_self, true_or, or_true, and_self, if_true, if_false, n_lit, n_of, n_an, Nat.add_sub_cancel, nI_add, pk_mul, n_sub, n_ixT, n_cl, n_leT, n_leF, n_ltT, n_ltF, n_eqT, n_eqF, Nat.reduceAdd, Nat.reduceMul, Nat.reduceSub, Nat.reduceEqDiff, Nat.reduceLT, Nat.reduceLeDiff, Nat.mul_one, Nat.one_mul, Nat.add_zero, Nat.zero_add, le_T, nz0, nz1]
      refine c207 hm ⟨tq.1, ?_, ?_, tq.2.2.2⟩ t2 ?_ (fun J tJ j7 fJ => ?_)
      · rw [aW_i (by decide)]
        exact tq.2.1
      · rw [aW_o (by decide)]
        exact tq.2.2.1
      · unfold En
        rw [aW_i (by decide), aW_i (by decide)]
        exact en
      · simp (disch := omega) only [w208_119, w208_120, Md_s1, Md_s81, Md_s82, Md_s83, Md_s84, Md_s85, Md_s86, Md_s87, Md_s88, Md_s89, Md_s90, Md_s91, Md_s92, Md_s93, Md_s94, Md_s95, Md_s96, Md_s97, Md_s98, Md_s99, Md_s100, Md_s101, Md_s102, Md_r81_0, Md_r81_1, Md_r81_2, Md_r81_4, Md_r81_5, Md_r81_13, Md_r81_14, Md_r81_15, Md_r81_18, Md_r81_20, Md_r81_21, Md_r81_22, Md_r81_23, Md_r81_24, Md_r81_25, Md_r81_26, Md_r81_27, Md_r81_28, Md_r81_29, Md_r81_30, Md_r81_31, aPush_s, aPush_n, vrf_s, vrf_n, true_and, and_true, false_and, and_false, true_imp_iff, false_imp_iff, not_true_eq_false, not_false_eq_true, eq_self, true_or, or_true, and_self, if_true, if_false, n_lit, n_of, n_an, Nat.add_sub_cancel, nI_add, pk_mul, n_sub, n_ixT, n_cl, n_leT, n_leF, n_ltT, n_ltF, n_eqT, n_eqF, Nat.reduceAdd, Nat.reduceMul, Nat.reduceSub, Nat.reduceEqDiff, Nat.reduceLT, Nat.reduceLeDiff, Nat.mul_one, Nat.one_mul, Nat.add_zero, Nat.zero_add, le_T, nz0, nz1]
        exact hY w J ew tJ j7 fJ
    refine l208w hm tq kk tk e1 (w := 0) (by decide) i8 i7 (fun b0 => yes 0 ?_) (fun b0 => ?_) _ _ _
    · have b0 : tAt T (strB 0) 3 t = true := b0
      unfold tKy
      rw [if_pos b0]
    have b0 : ¬ tAt T (strB 0) 3 t = true := Bool.eq_false_iff.mp b0
    refine l208w hm tq kk tk e1 (w := 1) (by decide) i8 i7 (fun b1 => yes 1 ?_) (fun b1 => ?_)
    · have b1 : tAt T (strB 1) 4 t = true := b1
      unfold tKy
      rw [if_neg b0, if_pos b1]
    have b1 : ¬ tAt T (strB 1) 4 t = true := Bool.eq_false_iff.mp b1
    refine l208w hm tq kk tk e1 (w := 2) (by decide) i8 i7 (fun b2 => yes 2 ?_) (fun b2 l2 l3 l4 => ?_)
    · have b2 : tAt T (strB 2) 4 t = true := b2
      unfold tKy
      rw [if_neg b0, if_neg b1, if_pos b2]
    have b2 : ¬ tAt T (strB 2) 4 t = true := Bool.eq_false_iff.mp b2
    rw [w208_12]
    simp (disch := omega) only [w208_13, w208_14, w208_127, w208_128, Md_s1, Md_s81, Md_s82, Md_s83, Md_s84, Md_s85, Md_s86, Md_s87, Md_s88, Md_s89, Md_s90, Md_s91, Md_s92, Md_s93, Md_s94, Md_s95, Md_s96, Md_s97, Md_s98, Md_s99, Md_s100, Md_s101, Md_s102, Md_r81_0, Md_r81_1, Md_r81_2, Md_r81_4, Md_r81_5, Md_r81_13, Md_r81_14, Md_r81_15, Md_r81_18, Md_r81_20, Md_r81_21, Md_r81_22, Md_r81_23, Md_r81_24, Md_r81_25, Md_r81_26, Md_r81_27, Md_r81_28, Md_r81_29, Md_r81_30, Md_r81_31, aPush_s, aPush_n, vrf_s, vrf_n, true_and, and_true, false_and, and_false, true_imp_iff, false_imp_iff, not_true_eq_false, not_false_eq_true, eq_self, true_or, or_true, and_self, if_true, if_false, n_lit, n_of, n_an, Nat.add_sub_cancel, nI_add, pk_mul, n_sub, n_ixT, n_cl, n_leT, n_leF, n_ltT, n_ltF, n_eqT, n_eqF, Nat.reduceAdd, Nat.reduceMul, Nat.reduceSub, Nat.reduceEqDiff, Nat.reduceLT, Nat.reduceLeDiff, Nat.mul_one, Nat.one_mul, Nat.add_zero, Nat.zero_add, le_T, nz0, nz1]
    refine hN ?_
    unfold tKy
    rw [if_neg b0, if_neg b1, if_neg b2]
  · have c1 : tCd t ≠ 1 := by
      unfold tCd
      rw [if_neg e1]
      repeat' split
      all_goals omega
    have c4 := tCd_4 t3
    simp (disch := omega) only [e208, w208_0, w208_1, w208_4, w208_5, w208_8, w208_9, Md_s1, Md_s81, Md_s82, Md_s83, Md_s84, Md_s85, Md_s86, Md_s87, Md_s88, Md_s89, Md_s90, Md_s91, Md_s92, Md_s93, Md_s94, Md_s95, Md_s96, Md_s97, Md_s98, Md_s99, Md_s100, Md_s101, Md_s102, Md_r81_0, Md_r81_1, Md_r81_2, Md_r81_4, Md_r81_5, Md_r81_13, Md_r81_14, Md_r81_15, Md_r81_18, Md_r81_20, Md_r81_21, Md_r81_22, Md_r81_23, Md_r81_24, Md_r81_25, Md_r81_26, Md_r81_27, Md_r81_28, Md_r81_29, Md_r81_30, Md_r81_31, aPush_s, aPush_n, vrf_s, vrf_n, true_and, and_true, false_and, and_false, true_imp_iff, false_imp_iff, not_true_eq_false, not_false_eq_true, eq_self, true_or, or_true, and_self, if_true, if_false, n_lit, n_of, n_an, Nat.add_sub_cancel, nI_add, pk_mul, n_sub, n_ixT, n_cl, n_leT, n_leF, n_ltT, n_ltF, n_eqT, n_eqF, Nat.reduceAdd, Nat.reduceMul, Nat.reduceSub, Nat.reduceEqDiff, Nat.reduceLT, Nat.reduceLeDiff, Nat.mul_one, Nat.one_mul, Nat.add_zero, Nat.zero_add, le_T, nz0, nz1, i9]
    refine hN ?_
    unfold tKy tAt
    simp only [decide_eq_false e1, Bool.false_and, if_neg (show ¬ false = true by decide)]
end
