/-! a State: the letter that comes next, lines -/
section
variable {d r : Nat} {g : Nat → Nat} {S : Nat → Nat × Nat} {I : Nat → Nat → Int32} {R : Nat → Nat → Option Nat} {z : Nat × Nat} {Q : Option Value → HS → Prop}
theorem l28 {a A s : Nat} (hs : Cs S I R r g) (ha : a < g 2) (hA : A < 64) (hb : s < 2147483648) (hQ : ∀ J, Sc r I J → Q (some (.int (nB (sNxt g a A s 6)))) (S, J, R, z)) : ∀ (j k : Nat) (J : Nat → Nat → Int32) (v7 : Value), k + j = 6 → Sc r I J → RB (d + 4) 28 9 [.ref r, .int (nI a), .int (nI A), .int (nI s), .int (nB (sNxt g a A s k)), .int (nM (sNxt g a A s k)), .int (nI k), v7] [] (S, J, R, z) Q
  | 0, k, J, v7, h, hJ => by
    obtain rfl : k = 6 := by omega
    rw [w28_9]
    simp (disch := omega) only [w28_0, w28_1, w28_3, w28_4, w28_6, w28_7, w28_11, w28_13, w28_16, w28_17, w28_19, w28_22, w28_25, w28_26, w28_27, w28_29, w28_30, w28_33, w28_35, w28_37, w28_40, w28_42, w28_44, w28_47, w28_49, w28_51, w28_53, w28_55, w28_58, w28_61, w28_63, aPush_s, aPush_n, vrf_s, vrf_n, true_and, and_true, false_and, and_false, true_imp_iff, false_imp_iff, not_true_eq_false, not_false_eq_true, eq_self, true_or, or_true, and_self, if_true, if_false, n_lit, n_of, n_an, Nat.add_sub_cancel, nI_add, pk_mul, n_sub, n_ixT, n_cl, n_leT, n_leF, n_ltT, n_ltF, n_eqT, n_eqF, Nat.reduceAdd, Nat.reduceMul, Nat.reduceSub, Nat.reduceEqDiff, Nat.reduceLT, Nat.reduceLeDiff, Nat.mul_one, Nat.one_mul, Nat.add_zero, Nat.zero_add]
    exact hQ J hJ
  | j + 1, k, J, v7, h, hJ => by
    have ih := fun J' v7 => l28 hs ha hA hb hQ j (k + 1) J' v7 (by omega)
    have hk : k < 6 := by omega
    have hsJ := hs.sc hJ
    obtain ⟨hr, ⟨Sd_sr, Sd_s_r___1_, Sd_s_r___2_, Sd_s_r___3_, Sd_s_r___4_, Sd_s_r___5_, Sd_s_r___6_, Sd_s_r___7_, Sd_s_r___8_, Sd_s_r___9_, Sd_s_r___10_, Sd_rr_0, Sd_rr_1, Sd_rr_2, Sd_rr_4, Sd_rr_5, Sd_rr_12, Sd_rr_14, Sd_rr_15, Sd_rr_16, Sd_rr_17⟩, ok, ⟨n3, n6, n7, n8, n9, n10, n11, n13⟩, ⟨a1, a2, a3, a4, a5, a7⟩, ct⟩ := id hsJ
    rw [w28_9]
    by_cases b : A.testBit k = true
    · rw [show sNxt g a A s (k + 1) = sNxt g a A s k from if_pos b] at ih
      simp (disch := omega) only [w28_0, w28_1, w28_3, w28_4, w28_6, w28_7, w28_11, w28_13, w28_16, w28_17, w28_19, w28_22, w28_25, w28_26, w28_27, w28_29, w28_30, w28_33, w28_35, w28_37, w28_40, w28_42, w28_44, w28_47, w28_49, w28_51, w28_53, w28_55, w28_58, w28_61, w28_63, Sd_sr, Sd_s_r___1_, Sd_s_r___2_, Sd_s_r___3_, Sd_s_r___4_, Sd_s_r___5_, Sd_s_r___6_, Sd_s_r___7_, Sd_s_r___8_, Sd_s_r___9_, Sd_s_r___10_, Sd_rr_0, Sd_rr_1, Sd_rr_2, Sd_rr_4, Sd_rr_5, Sd_rr_12, Sd_rr_14, Sd_rr_15, Sd_rr_16, Sd_rr_17, aPush_s, aPush_n, vrf_s, vrf_n, true_and, and_true, false_and, and_false, true_imp_iff, false_imp_iff, not_true_eq_false, not_false_eq_true, eq_self, true_or, or_true, and_self, if_true, if_false, n_lit, n_of, n_an, Nat.add_sub_cancel, nI_add, pk_mul, n_sub, n_ixT, n_cl, n_leT, n_leF, n_ltT, n_ltF, n_eqT, n_eqF, Nat.reduceAdd, Nat.reduceMul, Nat.reduceSub, Nat.reduceEqDiff, Nat.reduceLT, Nat.reduceLeDiff, Nat.mul_one, Nat.one_mul, Nat.add_zero, Nat.zero_add, c129, b, b2n_t]
      exact ih _ _ hJ
    · have b' : A.testBit k = false := by simpa using b
      have hn : sNxt g a A s (k + 1) = match sNxt g a A s k with
        | none => some (k, sScore g a k s)
        | some (b, m) => if m < sScore g a k s then some (k, sScore g a k s) else some (b, m) := if_neg b
      rw [hn] at ih
      simp (disch := omega) only [w28_0, w28_1, w28_3, w28_4, w28_6, w28_7, w28_11, w28_13, w28_16, w28_17, w28_19, w28_22, w28_25, w28_26, w28_27, w28_29, w28_30, w28_33, w28_35, w28_37, w28_40, w28_42, w28_44, w28_47, w28_49, w28_51, w28_53, w28_55, w28_58, w28_61, w28_63, Sd_sr, Sd_s_r___1_, Sd_s_r___2_, Sd_s_r___3_, Sd_s_r___4_, Sd_s_r___5_, Sd_s_r___6_, Sd_s_r___7_, Sd_s_r___8_, Sd_s_r___9_, Sd_s_r___10_, Sd_rr_0, Sd_rr_1, Sd_rr_2, Sd_rr_4, Sd_rr_5, Sd_rr_12, Sd_rr_14, Sd_rr_15, Sd_rr_16, Sd_rr_17, aPush_s, aPush_n, vrf_s, vrf_n, true_and, and_true, false_and, and_false, true_imp_iff, false_imp_iff, not_true_eq_false, not_false_eq_true, eq_self, true_or, or_true, and_self, if_true, if_false, n_lit, n_of, n_an, Nat.add_sub_cancel, nI_add, pk_mul, n_sub, n_ixT, n_cl, n_leT, n_leF, n_ltT, n_ltF, n_eqT, n_eqF, Nat.reduceAdd, Nat.reduceMul, Nat.reduceSub, Nat.reduceEqDiff, Nat.reduceLT, Nat.reduceLeDiff, Nat.mul_one, Nat.one_mul, Nat.add_zero, Nat.zero_add, c129, b', b2n_f]
      refine c24 hsJ ha hk hb ?_
      intro J' hJ'
      rcases q : sNxt g a A s k with _ | ⟨b1, m⟩
      · rw [q] at ih
        simp (disch := omega) only [w28_0, w28_1, w28_3, w28_4, w28_6, w28_7, w28_11, w28_13, w28_16, w28_17, w28_19, w28_22, w28_25, w28_26, w28_27, w28_29, w28_30, w28_33, w28_35, w28_37, w28_40, w28_42, w28_44, w28_47, w28_49, w28_51, w28_53, w28_55, w28_58, w28_61, w28_63, Sd_sr, Sd_s_r___1_, Sd_s_r___2_, Sd_s_r___3_, Sd_s_r___4_, Sd_s_r___5_, Sd_s_r___6_, Sd_s_r___7_, Sd_s_r___8_, Sd_s_r___9_, Sd_s_r___10_, Sd_rr_0, Sd_rr_1, Sd_rr_2, Sd_rr_4, Sd_rr_5, Sd_rr_12, Sd_rr_14, Sd_rr_15, Sd_rr_16, Sd_rr_17, aPush_s, aPush_n, vrf_s, vrf_n, true_and, and_true, false_and, and_false, true_imp_iff, false_imp_iff, not_true_eq_false, not_false_eq_true, eq_self, true_or, or_true, and_self, if_true, if_false, n_lit, n_of, n_an, Nat.add_sub_cancel, nI_add, pk_mul, n_sub, n_ixT, n_cl, n_leT, n_leF, n_ltT, n_ltF, n_eqT, n_eqF, Nat.reduceAdd, Nat.reduceMul, Nat.reduceSub, Nat.reduceEqDiff, Nat.reduceLT, Nat.reduceLeDiff, Nat.mul_one, Nat.one_mul, Nat.add_zero, Nat.zero_add, nB, nM, n_m1lt]
        exact ih _ _ (hJ.trans hJ')
      · have hb1 := (sNxt_some q).1
        dsimp only at hb1
        rw [q] at ih
        by_cases c : m < sScore g a k s
        · dsimp only at ih
          rw [if_pos c] at ih
          have c' : ¬ sScore g a k s ≤ m := Int32.not_le.2 c
          simp (disch := omega) only [w28_0, w28_1, w28_3, w28_4, w28_6, w28_7, w28_11, w28_13, w28_16, w28_17, w28_19, w28_22, w28_25, w28_26, w28_27, w28_29, w28_30, w28_33, w28_35, w28_37, w28_40, w28_42, w28_44, w28_47, w28_49, w28_51, w28_53, w28_55, w28_58, w28_61, w28_63, Sd_sr, Sd_s_r___1_, Sd_s_r___2_, Sd_s_r___3_, Sd_s_r___4_, Sd_s_r___5_, Sd_s_r___6_, Sd_s_r___7_, Sd_s_r___8_, Sd_s_r___9_, Sd_s_r___10_, Sd_rr_0, Sd_rr_1, Sd_rr_2, Sd_rr_4, Sd_rr_5, Sd_rr_12, Sd_rr_14, Sd_rr_15, Sd_rr_16, Sd_rr_17, aPush_s, aPush_n, vrf_s, vrf_n, true_and, and_true, false_and, and_false, true_imp_iff, false_imp_iff, not_true_eq_false, not_false_eq_true, eq_self, true_or, or_true, and_self, if_true, if_false, n_lit, n_of, n_an, Nat.add_sub_cancel, nI_add, pk_mul, n_sub, n_ixT, n_cl, n_leT, n_leF, n_ltT, n_ltF, n_eqT, n_eqF, Nat.reduceAdd, Nat.reduceMul, Nat.reduceSub, Nat.reduceEqDiff, Nat.reduceLT, Nat.reduceLeDiff, Nat.mul_one, Nat.one_mul, Nat.add_zero, Nat.zero_add, nB, nM, c']
          exact ih _ _ (hJ.trans hJ')
        · dsimp only at ih
          rw [if_neg c] at ih
          have c' : sScore g a k s ≤ m := Int32.not_lt.1 c
          simp (disch := omega) only [w28_0, w28_1, w28_3, w28_4, w28_6, w28_7, w28_11, w28_13, w28_16, w28_17, w28_19, w28_22, w28_25, w28_26, w28_27, w28_29, w28_30, w28_33, w28_35, w28_37, w28_40, w28_42, w28_44, w28_47, w28_49, w28_51, w28_53, w28_55, w28_58, w28_61, w28_63, Sd_sr, Sd_s_r___1_, Sd_s_r___2_, Sd_s_r___3_, Sd_s_r___4_, Sd_s_r___5_, Sd_s_r___6_, Sd_s_r___7_, Sd_s_r___8_, Sd_s_r___9_, Sd_s_r___10_, Sd_rr_0, Sd_rr_1, Sd_rr_2, Sd_rr_4, Sd_rr_5, Sd_rr_12, Sd_rr_14, Sd_rr_15, Sd_rr_16, Sd_rr_17, aPush_s, aPush_n, vrf_s, vrf_n, true_and, and_true, false_and, and_false, true_imp_iff, false_imp_iff, not_true_eq_false, not_false_eq_true, eq_self, true_or, or_true, and_self, if_true, if_false, n_lit, n_of, n_an, Nat.add_sub_cancel, nI_add, pk_mul, n_sub, n_ixT, n_cl, n_leT, n_leF, n_ltT, n_ltF, n_eqT, n_eqF, Nat.reduceAdd, Nat.reduceMul, Nat.reduceSub, Nat.reduceEqDiff, Nat.reduceLT, Nat.reduceLeDiff, Nat.mul_one, Nat.one_mul, Nat.add_zero, Nat.zero_add, nB, nM, c']
          exact ih _ _ (hJ.trans hJ')
theorem c28 {a A s : Nat} (hs : Cs S I R r g) (ha : a < g 2) (hA : A < 64) (hb : s < 2147483648) (hQ : ∀ J, Sc r I J → Q (some (.int (nB (sNxt g a A s 6)))) (S, J, R, z)) : RM (d + 5) 28 [.ref r, .int (nI a), .int (nI A), .int (nI s)] (S, I, R, z) Q := by
  simp only [e28, w28_0, w28_1, w28_3, w28_4, w28_6, w28_7, w28_11, w28_13, w28_16, w28_17, w28_19, w28_22, w28_25, w28_26, w28_27, w28_29, w28_30, w28_33, w28_35, w28_37, w28_40, w28_42, w28_44, w28_47, w28_49, w28_51, w28_53, w28_55, w28_58, w28_61, w28_63, n_lit, n_of, n_an, Nat.add_sub_cancel, nI_add, pk_mul, n_sub, n_ixT, n_cl, n_leT, n_leF, n_ltT, n_ltF, n_eqT, n_eqF, Nat.reduceAdd, Nat.reduceMul, Nat.reduceSub, Nat.reduceEqDiff, Nat.reduceLT, Nat.reduceLeDiff, Nat.mul_one, Nat.one_mul, Nat.add_zero, Nat.zero_add]
  exact l28 hs ha hA hb hQ 6 0 I _ rfl (Sc.refl r I)
theorem l40 {w a : Nat} (hs : Cs S I R r g) (hw : w < g 1) (ha : a < g 2) : ∀ (f k A n : Nat) (J : Nat → Nat → Int32) (v6 : Value), k + f = 6 → A < 64 → 6 ≤ f + sPop 6 A → Sc r I J → (∀ J, Sc r I J → Q (some (.int (nI (sLin g w a f A n)))) (S, J, R, z)) → RB (d + 5) 40 8 [.ref r, .int (nI w), .int (nI a), .int (nI n), .int (nI A), .int (nI k), v6] [] (S, J, R, z) Q
  | 0, k, A, n, J, v6, hk, hA, hp, hJ, hQ => by
    obtain rfl : k = 6 := by omega
    rw [w40_8]
    simp (disch := omega) only [w40_0, w40_1, w40_2, w40_3, w40_5, w40_6, w40_10, w40_12, w40_15, w40_16, w40_17, w40_20, w40_22, w40_23, w40_24, w40_25, w40_28, w40_29, w40_30, w40_32, w40_33, w40_34, w40_36, w40_39, w40_42, w40_44, w40_45, w40_46, w40_47, w40_49, w40_52, w40_55, w40_56, w40_59, w40_60, w40_61, w40_62, w40_64, w40_65, w40_67, w40_68, w40_69, w40_71, w40_74, w40_77, w40_78, aPush_s, aPush_n, vrf_s, vrf_n, true_and, and_true, false_and, and_false, true_imp_iff, false_imp_iff, not_true_eq_false, not_false_eq_true, eq_self, true_or, or_true, and_self, if_true, if_false, n_lit, n_of, n_an, Nat.add_sub_cancel, nI_add, pk_mul, n_sub, n_ixT, n_cl, n_leT, n_leF, n_ltT, n_ltF, n_eqT, n_eqF, Nat.reduceAdd, Nat.reduceMul, Nat.reduceSub, Nat.reduceEqDiff, Nat.reduceLT, Nat.reduceLeDiff, Nat.mul_one, Nat.one_mul, Nat.add_zero, Nat.zero_add]
    exact hQ J hJ
  | f + 1, k, A, n, J, v6, hk, hA, hp, hJ, hQ => by
    have hls := sLs_lt g w
    have hsJ := hs.sc hJ
    have ih := fun A' n' J' v6 => l40 hs hw ha f (k + 1) A' n' J' v6 (by omega)
    obtain ⟨hr, ⟨Sd_sr, Sd_s_r___1_, Sd_s_r___2_, Sd_s_r___3_, Sd_s_r___4_, Sd_s_r___5_, Sd_s_r___6_, Sd_s_r___7_, Sd_s_r___8_, Sd_s_r___9_, Sd_s_r___10_, Sd_rr_0, Sd_rr_1, Sd_rr_2, Sd_rr_4, Sd_rr_5, Sd_rr_12, Sd_rr_14, Sd_rr_15, Sd_rr_16, Sd_rr_17⟩, ok, ⟨n3, n6, n7, n8, n9, n10, n11, n13⟩, ⟨a1, a2, a3, a4, a5, a7⟩, ct⟩ := id hsJ
    rw [w40_8]
    by_cases e : sLs g w &&& A = sLs g w
    · have hq : ∀ J, Sc r I J → Q (some (.int (nI n))) (S, J, R, z) := by
        intro J hJ
        have := hQ J hJ
        unfold sLin at this
        rw [if_pos e] at this
        exact this
      simp (disch := omega) only [w40_0, w40_1, w40_2, w40_3, w40_5, w40_6, w40_10, w40_12, w40_15, w40_16, w40_17, w40_20, w40_22, w40_23, w40_24, w40_25, w40_28, w40_29, w40_30, w40_32, w40_33, w40_34, w40_36, w40_39, w40_42, w40_44, w40_45, w40_46, w40_47, w40_49, w40_52, w40_55, w40_56, w40_59, w40_60, w40_61, w40_62, w40_64, w40_65, w40_67, w40_68, w40_69, w40_71, w40_74, w40_77, w40_78, Sd_sr, Sd_s_r___1_, Sd_s_r___2_, Sd_s_r___3_, Sd_s_r___4_, Sd_s_r___5_, Sd_s_r___6_, Sd_s_r___7_, Sd_s_r___8_, Sd_s_r___9_, Sd_s_r___10_, Sd_rr_0, Sd_rr_1, Sd_rr_2, Sd_rr_4, Sd_rr_5, Sd_rr_12, Sd_rr_14, Sd_rr_15, Sd_rr_16, Sd_rr_17, aPush_s, aPush_n, vrf_s, vrf_n, true_and, and_true, false_and, and_false, true_imp_iff, false_imp_iff, not_true_eq_false, not_false_eq_true, eq_self, true_or, or_true, and_self, if_true, if_false, n_lit, n_of, n_an, Nat.add_sub_cancel, nI_add, pk_mul, n_sub, n_ixT, n_cl, n_leT, n_leF, n_ltT, n_ltF, n_eqT, n_eqF, Nat.reduceAdd, Nat.reduceMul, Nat.reduceSub, Nat.reduceEqDiff, Nat.reduceLT, Nat.reduceLeDiff, Nat.mul_one, Nat.one_mul, Nat.add_zero, Nat.zero_add, c15 hsJ hw, n_setE, e]
      exact hq J hJ
    · simp (disch := omega) only [w40_0, w40_1, w40_2, w40_3, w40_5, w40_6, w40_10, w40_12, w40_15, w40_16, w40_17, w40_20, w40_22, w40_23, w40_24, w40_25, w40_28, w40_29, w40_30, w40_32, w40_33, w40_34, w40_36, w40_39, w40_42, w40_44, w40_45, w40_46, w40_47, w40_49, w40_52, w40_55, w40_56, w40_59, w40_60, w40_61, w40_62, w40_64, w40_65, w40_67, w40_68, w40_69, w40_71, w40_74, w40_77, w40_78, Sd_sr, Sd_s_r___1_, Sd_s_r___2_, Sd_s_r___3_, Sd_s_r___4_, Sd_s_r___5_, Sd_s_r___6_, Sd_s_r___7_, Sd_s_r___8_, Sd_s_r___9_, Sd_s_r___10_, Sd_rr_0, Sd_rr_1, Sd_rr_2, Sd_rr_4, Sd_rr_5, Sd_rr_12, Sd_rr_14, Sd_rr_15, Sd_rr_16, Sd_rr_17, aPush_s, aPush_n, vrf_s, vrf_n, true_and, and_true, false_and, and_false, true_imp_iff, false_imp_iff, not_true_eq_false, not_false_eq_true, eq_self, true_or, or_true, and_self, if_true, if_false, n_lit, n_of, n_an, Nat.add_sub_cancel, nI_add, pk_mul, n_sub, n_ixT, n_cl, n_leT, n_leF, n_ltT, n_ltF, n_eqT, n_eqF, Nat.reduceAdd, Nat.reduceMul, Nat.reduceSub, Nat.reduceEqDiff, Nat.reduceLT, Nat.reduceLeDiff, Nat.mul_one, Nat.one_mul, Nat.add_zero, Nat.zero_add, c15 hsJ hw, n_setE, e, c19 hsJ hw hA]
      have hf := sFits_lt ok w A
      refine c28 hsJ ha hA (by omega) ?_
      intro J' hJ'
      have hJ2 := hJ.trans hJ'
      have hsJ2 := hs.sc hJ2
      rcases q : sNxt g a A (sFits g w A) 6 with _ | ⟨l, m⟩
      · exact absurd (show sLs g w &&& A = sLs g w by
          rw [n_all A hA (sNxt_none q)]
          exact n_in63 _ hls) e
      · obtain ⟨hl, hb⟩ := sNxt_some q
        dsimp only at hl hb
        have hq : ∀ J, Sc r I J → Q (some (.int (nI (sLin g w a f (A ||| 2 ^ l) (n + if sPl g w l = 0 then 1 else 0))))) (S, J, R, z) := by
          intro J hJ
          have := hQ J hJ
          unfold sLin at this
          rw [if_neg e, q] at this
          exact this
        have hpl := sPl_lt g w l
        have hp2 := n_add1 A hA l hl hb
        by_cases e2 : sPl g w l = 0
        · rw [if_pos e2] at hq
          simp (disch := omega) only [w40_0, w40_1, w40_2, w40_3, w40_5, w40_6, w40_10, w40_12, w40_15, w40_16, w40_17, w40_20, w40_22, w40_23, w40_24, w40_25, w40_28, w40_29, w40_30, w40_32, w40_33, w40_34, w40_36, w40_39, w40_42, w40_44, w40_45, w40_46, w40_47, w40_49, w40_52, w40_55, w40_56, w40_59, w40_60, w40_61, w40_62, w40_64, w40_65, w40_67, w40_68, w40_69, w40_71, w40_74, w40_77, w40_78, Sd_sr, Sd_s_r___1_, Sd_s_r___2_, Sd_s_r___3_, Sd_s_r___4_, Sd_s_r___5_, Sd_s_r___6_, Sd_s_r___7_, Sd_s_r___8_, Sd_s_r___9_, Sd_s_r___10_, Sd_rr_0, Sd_rr_1, Sd_rr_2, Sd_rr_4, Sd_rr_5, Sd_rr_12, Sd_rr_14, Sd_rr_15, Sd_rr_16, Sd_rr_17, aPush_s, aPush_n, vrf_s, vrf_n, true_and, and_true, false_and, and_false, true_imp_iff, false_imp_iff, not_true_eq_false, not_false_eq_true, eq_self, true_or, or_true, and_self, if_true, if_false, n_lit, n_of, n_an, Nat.add_sub_cancel, nI_add, pk_mul, n_sub, n_ixT, n_cl, n_leT, n_leF, n_ltT, n_ltF, n_eqT, n_eqF, Nat.reduceAdd, Nat.reduceMul, Nat.reduceSub, Nat.reduceEqDiff, Nat.reduceLT, Nat.reduceLeDiff, Nat.mul_one, Nat.one_mul, Nat.add_zero, Nat.zero_add, nB, c14 hsJ2 hw hl, e2, n_shl, n_or]
          exact ih _ _ _ _ (n_or64 hA hl) (by omega) hJ2 hq
        · rw [if_neg e2] at hq
          simp (disch := omega) only [w40_0, w40_1, w40_2, w40_3, w40_5, w40_6, w40_10, w40_12, w40_15, w40_16, w40_17, w40_20, w40_22, w40_23, w40_24, w40_25, w40_28, w40_29, w40_30, w40_32, w40_33, w40_34, w40_36, w40_39, w40_42, w40_44, w40_45, w40_46, w40_47, w40_49, w40_52, w40_55, w40_56, w40_59, w40_60, w40_61, w40_62, w40_64, w40_65, w40_67, w40_68, w40_69, w40_71, w40_74, w40_77, w40_78, Sd_sr, Sd_s_r___1_, Sd_s_r___2_, Sd_s_r___3_, Sd_s_r___4_, Sd_s_r___5_, Sd_s_r___6_, Sd_s_r___7_, Sd_s_r___8_, Sd_s_r___9_, Sd_s_r___10_, Sd_rr_0, Sd_rr_1, Sd_rr_2, Sd_rr_4, Sd_rr_5, Sd_rr_12, Sd_rr_14, Sd_rr_15, Sd_rr_16, Sd_rr_17, aPush_s, aPush_n, vrf_s, vrf_n, true_and, and_true, false_and, and_false, true_imp_iff, false_imp_iff, not_true_eq_false, not_false_eq_true, eq_self, true_or, or_true, and_self, if_true, if_false, n_lit, n_of, n_an, Nat.add_sub_cancel, nI_add, pk_mul, n_sub, n_ixT, n_cl, n_leT, n_leF, n_ltT, n_ltF, n_eqT, n_eqF, Nat.reduceAdd, Nat.reduceMul, Nat.reduceSub, Nat.reduceEqDiff, Nat.reduceLT, Nat.reduceLeDiff, Nat.mul_one, Nat.one_mul, Nat.add_zero, Nat.zero_add, nB, c14 hsJ2 hw hl, e2, n_shl, n_or]
          exact ih _ _ _ _ (n_or64 hA hl) (by omega) hJ2 hq
theorem c40 {w a : Nat} (hs : Cs S I R r g) (hw : w < g 1) (ha : a < g 2) (hQ : ∀ J, Sc r I J → Q (some (.int (nI (sLines g w a)))) (S, J, R, z)) : RM (d + 6) 40 [.ref r, .int (nI w), .int (nI a)] (S, I, R, z) Q := by
  simp only [e40, w40_0, w40_1, w40_2, w40_3, w40_5, w40_6, w40_10, w40_12, w40_15, w40_16, w40_17, w40_20, w40_22, w40_23, w40_24, w40_25, w40_28, w40_29, w40_30, w40_32, w40_33, w40_34, w40_36, w40_39, w40_42, w40_44, w40_45, w40_46, w40_47, w40_49, w40_52, w40_55, w40_56, w40_59, w40_60, w40_61, w40_62, w40_64, w40_65, w40_67, w40_68, w40_69, w40_71, w40_74, w40_77, w40_78, n_lit, n_of, n_an, Nat.add_sub_cancel, nI_add, pk_mul, n_sub, n_ixT, n_cl, n_leT, n_leF, n_ltT, n_ltF, n_eqT, n_eqF, Nat.reduceAdd, Nat.reduceMul, Nat.reduceSub, Nat.reduceEqDiff, Nat.reduceLT, Nat.reduceLeDiff, Nat.mul_one, Nat.one_mul, Nat.add_zero, Nat.zero_add]
  exact l40 hs hw ha 6 0 0 0 I _ rfl (by decide) (by decide) (Sc.refl r I) hQ
end
