/-! a Text worked out -/
theorem n_sa (x y : Int32) : x - y + y = x := Int32.sub_add_cancel x y
theorem tr_num {x : Int32} (h : 0 ≤ x) (h2 : x < 10000) : tr x = x := by
  unfold tr
  rw [if_pos h, if_pos h2]
theorem tr_big {m : Nat} (h : 10000 ≤ m) (h2 : m < 10003) : (tr (nI m) = -1 ∧ m = 10000) ∨ (tr (nI m) = -2 ∧ m = 10001) ∨ (tr (nI m) = -3 ∧ m = 10002) := by
  have : m = 10000 ∨ m = 10001 ∨ m = 10002 := by omega
  rcases this with e | e | e
  · subst e; exact Or.inl ⟨by decide, rfl⟩
  · subst e; exact Or.inr (Or.inl ⟨by decide, rfl⟩)
  · subst e; exact Or.inr (Or.inr ⟨by decide, rfl⟩)
theorem sg_of {x : Int32} (h : ¬ 0 ≤ x) (h2 : -10 < x) : x = -1 ∨ x = -2 ∨ x = -3 ∨ x = -4 ∨ x = -5 ∨ x = -6 ∨ x = -7 ∨ x = -8 ∨ x = -9 := by
  have h3 : x.toInt < 0 := by
    have := Int32.lt_iff_toInt_lt.1 (Int32.not_le.1 h)
    simpa using this
  have h4 : -10 < x.toInt := by
    have := Int32.lt_iff_toInt_lt.1 h2
    simpa using this
  have h5 : x.toInt = -1 ∨ x.toInt = -2 ∨ x.toInt = -3 ∨ x.toInt = -4 ∨ x.toInt = -5 ∨ x.toInt = -6 ∨ x.toInt = -7 ∨ x.toInt = -8 ∨ x.toInt = -9 := by omega
  rcases h5 with e | e | e | e | e | e | e | e | e
  · exact Or.inl (Int32.toInt_inj.1 e)
  · exact Or.inr (Or.inl (Int32.toInt_inj.1 e))
  · exact Or.inr (Or.inr (Or.inl (Int32.toInt_inj.1 e)))
  · exact Or.inr (Or.inr (Or.inr (Or.inl (Int32.toInt_inj.1 e))))
  · exact Or.inr (Or.inr (Or.inr (Or.inr (Or.inl (Int32.toInt_inj.1 e)))))
  · exact Or.inr (Or.inr (Or.inr (Or.inr (Or.inr (Or.inl (Int32.toInt_inj.1 e))))))
  · exact Or.inr (Or.inr (Or.inr (Or.inr (Or.inr (Or.inr (Or.inl (Int32.toInt_inj.1 e)))))))
  · exact Or.inr (Or.inr (Or.inr (Or.inr (Or.inr (Or.inr (Or.inr (Or.inl (Int32.toInt_inj.1 e))))))))
  · exact Or.inr (Or.inr (Or.inr (Or.inr (Or.inr (Or.inr (Or.inr (Or.inr (Int32.toInt_inj.1 e))))))))
theorem sg_tr {x : Int32} (h : x = -1 ∨ x = -2 ∨ x = -3 ∨ x = -4 ∨ x = -5 ∨ x = -6 ∨ x = -7 ∨ x = -8 ∨ x = -9) : tr x < -3 ∧ tr x ≠ -33 := by
  rcases h with e | e | e | e | e | e | e | e | e <;> subst e <;> decide
section
variable {d q c t : Nat} {g : Nat → Nat} {S : Nat → Nat × Nat} {I : Nat → Nat → Int32} {R : Nat → Nat → Option Nat} {z : Nat × Nat} {Q : Option Value → HS → Prop}
theorem l67 {a b e : Int32} (hT : Tx S I R g t c) (ok : Ok g) (ht : t < g 7) (hq : 16 ≤ q) (hS : S q = (9, 96)) (hq1 : q ≠ c) (hq2 : q ≠ c + 1) : ∀ (j k : Nat) (J : Nat → Nat → Int32) (v : Value), k + j = sLen g t → (∀ p, p ≠ q → J p = I p) → Stk (J q) (sRun (sCode g t) (sF a b e) k) → (∀ J, (∀ p, p ≠ q → J p = I p) → Q (some (.int (sVal g t (sF a b e)))) (S, J, R, z)) → RB (d + 1) 67 6 [.ref c, .int a, .int b, .int e, .ref q, .int (nI (sD (sCode g t) k) - nI 1), .int (nI k), v] [] (S, J, R, z) Q
  | 0, k, J, v, h, hJ, hst, hQ => by
    have hk : k = sLen g t := by omega
    obtain ⟨t1, t2, t3, t4, t5, t6, t7⟩ := id hT
    have ho := (ok.2.2.2.2.2.2.2.2 t ht).2
    have hl := sRun_len (f := sF a b e) ho k (by omega)
    have hqq := hQ J hJ
    have hn96 := ho.1
    have hd1 : sD (sCode g t) k = 1 := by rw [hk]; exact ho.2.1
    rw [w67_6, hd1]
    simp (disch := omega) only [w67_0, w67_1, w67_3, w67_4, w67_8, w67_9, w67_12, w67_13, w67_16, w67_17, w67_20, w67_22, w67_23, w67_25, w67_27, w67_29, w67_32, w67_34, w67_35, w67_36, w67_36N, w67_38, w67_39, w67_42, w67_45, w67_45N, w67_47, w67_49, w67_51, w67_52, w67_53, w67_54, w67_57, w67_58, w67_61, w67_63, w67_65, w67_68, w67_70, w67_73, w67_73N, w67_75, w67_77, w67_77N, w67_79, w67_81, w67_82, w67_85, w67_86, w67_89, w67_90, w67_91, w67_94, w67_96, w67_97, w67_100, w67_103, w67_103N, w67_105, w67_107, w67_109, w67_110, w67_110N, w67_112, w67_114, w67_115, w67_115N, w67_117, w67_119, w67_120, w67_121, w67_122, w67_125, w67_126, w67_129, w67_132, w67_134, w67_137, w67_137N, w67_139, w67_141, w67_142, w67_145, w67_146, t2, t3, t4, hS, hk, aPush_s, aPush_n, vrf_s, vrf_n, true_and, and_true, false_and, and_false, true_imp_iff, false_imp_iff, not_true_eq_false, not_false_eq_true, eq_self, true_or, or_true, and_self, if_true, if_false, n_lit, n_of, n_an, Nat.add_sub_cancel, nI_add, pk_mul, n_sub, n_ixT, n_cl, n_leT, n_leF, n_ltT, n_ltF, n_eqT, n_eqF, Nat.reduceAdd, Nat.reduceMul, Nat.reduceSub, Nat.reduceEqDiff, Nat.reduceLT, Nat.reduceLeDiff, Nat.mul_one, Nat.one_mul, Nat.add_zero, Nat.zero_add]
    rcases er : sRun (sCode g t) (sF a b e) k with _ | ⟨x, _ | ⟨y, r⟩⟩
    · rw [er, hd1] at hl
      cases hl
    · rw [er] at hst
      rw [show J q 0 = x from hst.1]
      rw [sVal, ← hk, er] at hqq
      exact hqq
    · rw [er, hd1] at hl
      simp only [List.length_cons] at hl
      omega
  | j + 1, k, J, v, h, hJ, hst, hQ => by
    have ih := fun J' v' => l67 (a := a) (b := b) (e := e) hT ok ht hq hS hq1 hq2 j (k + 1) J' v' (by omega)
    obtain ⟨t1, t2, t3, t4, t5, t6, t7⟩ := id hT
    have ho := (ok.2.2.2.2.2.2.2.2 t ht).2
    have hn96 := ho.1
    have hk : k < sLen g t := by omega
    have hl := sRun_len (f := sF a b e) ho k (by omega)
    have hok := ho.2.2 k hk
    have hJc : J (c + 1) k = tr (sCode g t k) := by rw [hJ (c + 1) (fun x => hq2 x.symm)]; exact t7 k hk
    have hd : sD (sCode g t) k ≤ k := by
      clear ih
      generalize sCode g t = cc
      clear hQ hst hok hl h hk hJc t7 ho
      induction k with
      | zero => exact Nat.le_refl _
      | succ k ih2 =>
        unfold sD
        split
        · omega
        · split <;> omega
    have hlt : sD (sCode g t) k < 96 := by omega
    rw [w67_6]
    by_cases e1 : 0 ≤ sCode g t k
    · have es : sD (sCode g t) (k + 1) = sD (sCode g t) k + 1 := if_pos e1
      rw [es, show nI (sD (sCode g t) k + 1) - nI 1 = nI (sD (sCode g t) k) from nI_pred _] at ih
      rw [if_pos e1] at hok
      by_cases e2 : sCode g t k < 10000
      · have er : sRun (sCode g t) (sF a b e) (k + 1) = sCode g t k :: sRun (sCode g t) (sF a b e) k := by
          show sStep _ _ _ = _
          unfold sStep
          rw [if_pos e1, if_pos e2]
        rw [tr_num e1 e2] at hJc
        have e3 : ¬ sCode g t k < -nI 3 := fun x => absurd (Int32.lt_of_le_of_lt e1 x) (by decide)
        simp (disch := omega) only [w67_0, w67_1, w67_3, w67_4, w67_8, w67_9, w67_12, w67_13, w67_16, w67_17, w67_20, w67_22, w67_23, w67_25, w67_27, w67_29, w67_32, w67_34, w67_35, w67_36, w67_36N, w67_38, w67_39, w67_42, w67_45, w67_45N, w67_47, w67_49, w67_51, w67_52, w67_53, w67_54, w67_57, w67_58, w67_61, w67_63, w67_65, w67_68, w67_70, w67_73, w67_73N, w67_75, w67_77, w67_77N, w67_79, w67_81, w67_82, w67_85, w67_86, w67_89, w67_90, w67_91, w67_94, w67_96, w67_97, w67_100, w67_103, w67_103N, w67_105, w67_107, w67_109, w67_110, w67_110N, w67_112, w67_114, w67_115, w67_115N, w67_117, w67_119, w67_120, w67_121, w67_122, w67_125, w67_126, w67_129, w67_132, w67_134, w67_137, w67_137N, w67_139, w67_141, w67_142, w67_145, w67_146, t2, t3, t4, hS, hq, aPush_s, aPush_n, vrf_s, vrf_n, true_and, and_true, false_and, and_false, true_imp_iff, false_imp_iff, not_true_eq_false, not_false_eq_true, eq_self, true_or, or_true, and_self, if_true, if_false, n_lit, n_of, n_an, Nat.add_sub_cancel, nI_add, pk_mul, n_sub, n_ixT, n_cl, n_leT, n_leF, n_ltT, n_ltF, n_eqT, n_eqF, Nat.reduceAdd, Nat.reduceMul, Nat.reduceSub, Nat.reduceEqDiff, Nat.reduceLT, Nat.reduceLeDiff, Nat.mul_one, Nat.one_mul, Nat.add_zero, Nat.zero_add, n_sa, hJc, e3, c68, show nI 0 ≤ sCode g t k from e1]
        refine ih _ _ (fun p hp => (aW_o hp).trans (hJ p hp)) ?_ hQ
        rw [er]
        exact Stk_w hl hst
      · obtain ⟨m, hm1, hm2⟩ := nI_of (Int32.not_lt.2 e1)
        rw [hm2, n_lt hm1 (by unfold sNm; split <;> omega)] at hok
        have hm3 : m < 10003 := by
          revert hok
          unfold sNm
          split <;> omega
        have hm4 : 10000 ≤ m := by
          rw [hm2, n_lit, n_lt hm1 (by omega)] at e2
          omega
        have er : sRun (sCode g t) (sF a b e) (k + 1) = sF a b e (m - 10000) :: sRun (sCode g t) (sF a b e) k := by
          show sStep _ _ _ = _
          unfold sStep
          rw [if_pos e1, if_neg e2, hm2, n_lit, n_sub hm4, n_cl (by omega)]
        rw [hm2] at hJc
        rcases tr_big hm4 hm3 with ⟨w1, w2⟩ | ⟨w1, w2⟩ | ⟨w1, w2⟩
        · rw [w1] at hJc
          simp (disch := omega) only [w67_0, w67_1, w67_3, w67_4, w67_8, w67_9, w67_12, w67_13, w67_16, w67_17, w67_20, w67_22, w67_23, w67_25, w67_27, w67_29, w67_32, w67_34, w67_35, w67_36, w67_36N, w67_38, w67_39, w67_42, w67_45, w67_45N, w67_47, w67_49, w67_51, w67_52, w67_53, w67_54, w67_57, w67_58, w67_61, w67_63, w67_65, w67_68, w67_70, w67_73, w67_73N, w67_75, w67_77, w67_77N, w67_79, w67_81, w67_82, w67_85, w67_86, w67_89, w67_90, w67_91, w67_94, w67_96, w67_97, w67_100, w67_103, w67_103N, w67_105, w67_107, w67_109, w67_110, w67_110N, w67_112, w67_114, w67_115, w67_115N, w67_117, w67_119, w67_120, w67_121, w67_122, w67_125, w67_126, w67_129, w67_132, w67_134, w67_137, w67_137N, w67_139, w67_141, w67_142, w67_145, w67_146, t2, t3, t4, hS, hq, aPush_s, aPush_n, vrf_s, vrf_n, true_and, and_true, false_and, and_false, true_imp_iff, false_imp_iff, not_true_eq_false, not_false_eq_true, eq_self, true_or, or_true, and_self, if_true, if_false, n_of, n_lit, n_of, n_an, Nat.add_sub_cancel, nI_add, pk_mul, n_sub, n_ixT, n_cl, n_leT, n_leF, n_ltT, n_ltF, n_eqT, n_eqF, Nat.reduceAdd, Nat.reduceMul, Nat.reduceSub, Nat.reduceEqDiff, Nat.reduceLT, Nat.reduceLeDiff, Nat.mul_one, Nat.one_mul, Nat.add_zero, Nat.zero_add, n_sa, show J (c + 1) k = -nI 1 from hJc, show ¬ -nI 1 < -nI 3 by decide, c68, show ¬ nI 0 ≤ -nI 1 by decide]
          refine ih _ _ (fun p hp => (aW_o hp).trans (hJ p hp)) ?_ hQ
          rw [er, w2]
          exact Stk_w hl hst
        · rw [w1] at hJc
          simp (disch := omega) only [w67_0, w67_1, w67_3, w67_4, w67_8, w67_9, w67_12, w67_13, w67_16, w67_17, w67_20, w67_22, w67_23, w67_25, w67_27, w67_29, w67_32, w67_34, w67_35, w67_36, w67_36N, w67_38, w67_39, w67_42, w67_45, w67_45N, w67_47, w67_49, w67_51, w67_52, w67_53, w67_54, w67_57, w67_58, w67_61, w67_63, w67_65, w67_68, w67_70, w67_73, w67_73N, w67_75, w67_77, w67_77N, w67_79, w67_81, w67_82, w67_85, w67_86, w67_89, w67_90, w67_91, w67_94, w67_96, w67_97, w67_100, w67_103, w67_103N, w67_105, w67_107, w67_109, w67_110, w67_110N, w67_112, w67_114, w67_115, w67_115N, w67_117, w67_119, w67_120, w67_121, w67_122, w67_125, w67_126, w67_129, w67_132, w67_134, w67_137, w67_137N, w67_139, w67_141, w67_142, w67_145, w67_146, t2, t3, t4, hS, hq, aPush_s, aPush_n, vrf_s, vrf_n, true_and, and_true, false_and, and_false, true_imp_iff, false_imp_iff, not_true_eq_false, not_false_eq_true, eq_self, true_or, or_true, and_self, if_true, if_false, n_of, n_lit, n_of, n_an, Nat.add_sub_cancel, nI_add, pk_mul, n_sub, n_ixT, n_cl, n_leT, n_leF, n_ltT, n_ltF, n_eqT, n_eqF, Nat.reduceAdd, Nat.reduceMul, Nat.reduceSub, Nat.reduceEqDiff, Nat.reduceLT, Nat.reduceLeDiff, Nat.mul_one, Nat.one_mul, Nat.add_zero, Nat.zero_add, n_sa, show J (c + 1) k = -nI 2 from hJc, show ¬ -nI 2 < -nI 3 by decide, c68, show ¬ nI 0 ≤ -nI 2 by decide, show ¬ -nI 2 = -nI 1 by decide, show ¬ -nI 2 = -nI 3 by decide]
          refine ih _ _ (fun p hp => (aW_o hp).trans (hJ p hp)) ?_ hQ
          rw [er, w2]
          exact Stk_w hl hst
        · rw [w1] at hJc
          simp (disch := omega) only [w67_0, w67_1, w67_3, w67_4, w67_8, w67_9, w67_12, w67_13, w67_16, w67_17, w67_20, w67_22, w67_23, w67_25, w67_27, w67_29, w67_32, w67_34, w67_35, w67_36, w67_36N, w67_38, w67_39, w67_42, w67_45, w67_45N, w67_47, w67_49, w67_51, w67_52, w67_53, w67_54, w67_57, w67_58, w67_61, w67_63, w67_65, w67_68, w67_70, w67_73, w67_73N, w67_75, w67_77, w67_77N, w67_79, w67_81, w67_82, w67_85, w67_86, w67_89, w67_90, w67_91, w67_94, w67_96, w67_97, w67_100, w67_103, w67_103N, w67_105, w67_107, w67_109, w67_110, w67_110N, w67_112, w67_114, w67_115, w67_115N, w67_117, w67_119, w67_120, w67_121, w67_122, w67_125, w67_126, w67_129, w67_132, w67_134, w67_137, w67_137N, w67_139, w67_141, w67_142, w67_145, w67_146, t2, t3, t4, hS, hq, aPush_s, aPush_n, vrf_s, vrf_n, true_and, and_true, false_and, and_false, true_imp_iff, false_imp_iff, not_true_eq_false, not_false_eq_true, eq_self, true_or, or_true, and_self, if_true, if_false, n_of, n_lit, n_of, n_an, Nat.add_sub_cancel, nI_add, pk_mul, n_sub, n_ixT, n_cl, n_leT, n_leF, n_ltT, n_ltF, n_eqT, n_eqF, Nat.reduceAdd, Nat.reduceMul, Nat.reduceSub, Nat.reduceEqDiff, Nat.reduceLT, Nat.reduceLeDiff, Nat.mul_one, Nat.one_mul, Nat.add_zero, Nat.zero_add, n_sa, show J (c + 1) k = -nI 3 from hJc, show ¬ -nI 3 < -nI 3 by decide, c68, show ¬ nI 0 ≤ -nI 3 by decide, show ¬ -nI 3 = -nI 1 by decide]
          refine ih _ _ (fun p hp => (aW_o hp).trans (hJ p hp)) ?_ hQ
          rw [er, w2]
          exact Stk_w hl hst
    · rw [if_neg e1] at hok
      by_cases e2 : sCode g t k = -10
      · rw [if_pos e2] at hok
        have es : sD (sCode g t) (k + 1) = sD (sCode g t) k := by
          show (if _ then _ else _) = _
          rw [if_neg e1, if_pos e2]
        rw [es, n_sub hok] at ih
        rw [e2] at hJc
        have hJc : J (c + 1) k = -nI 33 := hJc.trans (by decide)
        rcases er0 : sRun (sCode g t) (sF a b e) k with _ | ⟨y, r⟩
        · rw [er0] at hl
          simp only [List.length_nil] at hl
          omega
        · have er : sRun (sCode g t) (sF a b e) (k + 1) = (if y = 0 then 1 else 0) :: r := by
            show sStep _ _ _ = _
            unfold sStep
            rw [if_neg e1, if_pos e2, er0]
          rw [er0] at hst hl
          have hl2 : r.length = sD (sCode g t) k - 1 := by
            rw [← hl, List.length_cons]
            omega
          have hy : J q (sD (sCode g t) k - 1) = y := by
            rw [← hl2]
            exact hst.1
          by_cases y0 : y = nI 0
          · simp (disch := omega) only [w67_0, w67_1, w67_3, w67_4, w67_8, w67_9, w67_12, w67_13, w67_16, w67_17, w67_20, w67_22, w67_23, w67_25, w67_27, w67_29, w67_32, w67_34, w67_35, w67_36, w67_36N, w67_38, w67_39, w67_42, w67_45, w67_45N, w67_47, w67_49, w67_51, w67_52, w67_53, w67_54, w67_57, w67_58, w67_61, w67_63, w67_65, w67_68, w67_70, w67_73, w67_73N, w67_75, w67_77, w67_77N, w67_79, w67_81, w67_82, w67_85, w67_86, w67_89, w67_90, w67_91, w67_94, w67_96, w67_97, w67_100, w67_103, w67_103N, w67_105, w67_107, w67_109, w67_110, w67_110N, w67_112, w67_114, w67_115, w67_115N, w67_117, w67_119, w67_120, w67_121, w67_122, w67_125, w67_126, w67_129, w67_132, w67_134, w67_137, w67_137N, w67_139, w67_141, w67_142, w67_145, w67_146, t2, t3, t4, hS, hq, aPush_s, aPush_n, vrf_s, vrf_n, true_and, and_true, false_and, and_false, true_imp_iff, false_imp_iff, not_true_eq_false, not_false_eq_true, eq_self, true_or, or_true, and_self, if_true, if_false, n_lit, n_of, n_an, Nat.add_sub_cancel, nI_add, pk_mul, n_sub, n_ixT, n_cl, n_leT, n_leF, n_ltT, n_ltF, n_eqT, n_eqF, Nat.reduceAdd, Nat.reduceMul, Nat.reduceSub, Nat.reduceEqDiff, Nat.reduceLT, Nat.reduceLeDiff, Nat.mul_one, Nat.one_mul, Nat.add_zero, Nat.zero_add, n_lt0, hJc, show -nI 33 < -nI 3 by decide, hy, y0]
            refine ih _ _ (fun p hp => (aW_o hp).trans (hJ p hp)) ?_ hQ
            rw [er, y0]
            exact Stk_w hl2 hst.2
          · simp (disch := omega) only [w67_0, w67_1, w67_3, w67_4, w67_8, w67_9, w67_12, w67_13, w67_16, w67_17, w67_20, w67_22, w67_23, w67_25, w67_27, w67_29, w67_32, w67_34, w67_35, w67_36, w67_36N, w67_38, w67_39, w67_42, w67_45, w67_45N, w67_47, w67_49, w67_51, w67_52, w67_53, w67_54, w67_57, w67_58, w67_61, w67_63, w67_65, w67_68, w67_70, w67_73, w67_73N, w67_75, w67_77, w67_77N, w67_79, w67_81, w67_82, w67_85, w67_86, w67_89, w67_90, w67_91, w67_94, w67_96, w67_97, w67_100, w67_103, w67_103N, w67_105, w67_107, w67_109, w67_110, w67_110N, w67_112, w67_114, w67_115, w67_115N, w67_117, w67_119, w67_120, w67_121, w67_122, w67_125, w67_126, w67_129, w67_132, w67_134, w67_137, w67_137N, w67_139, w67_141, w67_142, w67_145, w67_146, t2, t3, t4, hS, hq, aPush_s, aPush_n, vrf_s, vrf_n, true_and, and_true, false_and, and_false, true_imp_iff, false_imp_iff, not_true_eq_false, not_false_eq_true, eq_self, true_or, or_true, and_self, if_true, if_false, n_lit, n_of, n_an, Nat.add_sub_cancel, nI_add, pk_mul, n_sub, n_ixT, n_cl, n_leT, n_leF, n_ltT, n_ltF, n_eqT, n_eqF, Nat.reduceAdd, Nat.reduceMul, Nat.reduceSub, Nat.reduceEqDiff, Nat.reduceLT, Nat.reduceLeDiff, Nat.mul_one, Nat.one_mul, Nat.add_zero, Nat.zero_add, n_lt0, hJc, show -nI 33 < -nI 3 by decide, hy, y0]
            refine ih _ _ (fun p hp => (aW_o hp).trans (hJ p hp)) ?_ hQ
            rw [er, if_neg (show ¬ y = 0 from y0)]
            exact Stk_w hl2 hst.2
      · rw [if_neg e2] at hok
        obtain ⟨hok, hok9⟩ := hok
        have es : sD (sCode g t) (k + 1) = sD (sCode g t) k - 1 := by
          show (if _ then _ else _) = _
          rw [if_neg e1, if_neg e2]
        rw [es, n_sub (show 1 ≤ sD (sCode g t) k - 1 by omega)] at ih
        have sg := sg_of e1 hok9
        obtain ⟨s1, s2⟩ := sg_tr sg
        have s1' : tr (sCode g t k) < -nI 3 := s1
        have s2' : ¬ tr (sCode g t k) = -nI 33 := s2
        rcases er0 : sRun (sCode g t) (sF a b e) k with _ | ⟨y, _ | ⟨x, r⟩⟩
        · rw [er0] at hl
          simp only [List.length_nil] at hl
          omega
        · rw [er0] at hl
          simp only [List.length_cons, List.length_nil] at hl
          omega
        · have er : sRun (sCode g t) (sF a b e) (k + 1) = sTwo (sCode g t k) x y :: r := by
            show sStep _ _ _ = _
            unfold sStep
            rw [if_neg e1, if_neg e2, er0]
          rw [er0] at hst hl
          have hl2 : r.length = sD (sCode g t) k - 1 - 1 := by
            rw [← hl, List.length_cons, List.length_cons]
            omega
          have hy : J q (sD (sCode g t) k - 1 - 1 + 1) = y := by
            rw [← hl2]
            exact hst.1
          have hx : J q (sD (sCode g t) k - 1 - 1) = x := by
            rw [← hl2]
            exact hst.2.1
          simp (disch := omega) only [w67_0, w67_1, w67_3, w67_4, w67_8, w67_9, w67_12, w67_13, w67_16, w67_17, w67_20, w67_22, w67_23, w67_25, w67_27, w67_29, w67_32, w67_34, w67_35, w67_36, w67_36N, w67_38, w67_39, w67_42, w67_45, w67_45N, w67_47, w67_49, w67_51, w67_52, w67_53, w67_54, w67_57, w67_58, w67_61, w67_63, w67_65, w67_68, w67_70, w67_73, w67_73N, w67_75, w67_77, w67_77N, w67_79, w67_81, w67_82, w67_85, w67_86, w67_89, w67_90, w67_91, w67_94, w67_96, w67_97, w67_100, w67_103, w67_103N, w67_105, w67_107, w67_109, w67_110, w67_110N, w67_112, w67_114, w67_115, w67_115N, w67_117, w67_119, w67_120, w67_121, w67_122, w67_125, w67_126, w67_129, w67_132, w67_134, w67_137, w67_137N, w67_139, w67_141, w67_142, w67_145, w67_146, t2, t3, t4, hS, hq, aPush_s, aPush_n, vrf_s, vrf_n, true_and, and_true, false_and, and_false, true_imp_iff, false_imp_iff, not_true_eq_false, not_false_eq_true, eq_self, true_or, or_true, and_self, if_true, if_false, n_lit, n_of, n_an, Nat.add_sub_cancel, nI_add, pk_mul, n_sub, n_ixT, n_cl, n_leT, n_leF, n_ltT, n_ltF, n_eqT, n_eqF, Nat.reduceAdd, Nat.reduceMul, Nat.reduceSub, Nat.reduceEqDiff, Nat.reduceLT, Nat.reduceLeDiff, Nat.mul_one, Nat.one_mul, Nat.add_zero, Nat.zero_add, hJc, s1', s2', hy, hx, c69 sg]
          refine ih _ _ (fun p hp => (aW_o hp).trans (hJ p hp)) ?_ hQ
          rw [er]
          exact Stk_w hl2 hst.2.2
theorem c67 {a b e : Int32} (hT : Tx S I R g t c) (ok : Ok g) (ht : t < g 7) (hq : 16 ≤ q) (hS : S q = (9, 96)) (hq1 : q ≠ c) (hq2 : q ≠ c + 1) (hQ : ∀ J, (∀ p, p ≠ q → J p = I p) → Q (some (.int (sVal g t (sF a b e)))) (S, J, R, z)) : RM (d + 2) 67 [.ref c, .int a, .int b, .int e, .ref q] (S, I, R, z) Q := by
  simp only [e67, w67_0, w67_1, w67_3, w67_4, w67_8, w67_9, w67_12, w67_13, w67_16, w67_17, w67_20, w67_22, w67_23, w67_25, w67_27, w67_29, w67_32, w67_34, w67_35, w67_36, w67_36N, w67_38, w67_39, w67_42, w67_45, w67_45N, w67_47, w67_49, w67_51, w67_52, w67_53, w67_54, w67_57, w67_58, w67_61, w67_63, w67_65, w67_68, w67_70, w67_73, w67_73N, w67_75, w67_77, w67_77N, w67_79, w67_81, w67_82, w67_85, w67_86, w67_89, w67_90, w67_91, w67_94, w67_96, w67_97, w67_100, w67_103, w67_103N, w67_105, w67_107, w67_109, w67_110, w67_110N, w67_112, w67_114, w67_115, w67_115N, w67_117, w67_119, w67_120, w67_121, w67_122, w67_125, w67_126, w67_129, w67_132, w67_134, w67_137, w67_137N, w67_139, w67_141, w67_142, w67_145, w67_146, n_lit, n_of, n_an, Nat.add_sub_cancel, nI_add, pk_mul, n_sub, n_ixT, n_cl, n_leT, n_leF, n_ltT, n_ltF, n_eqT, n_eqF, Nat.reduceAdd, Nat.reduceMul, Nat.reduceSub, Nat.reduceEqDiff, Nat.reduceLT, Nat.reduceLeDiff, Nat.mul_one, Nat.one_mul, Nat.add_zero, Nat.zero_add]
  have l := l67 (d := d) (z := z) (a := a) (b := b) (e := e) hT ok ht hq hS hq1 hq2 (sLen g t) 0 I (.long 0) (Nat.zero_add _) (fun _ _ => rfl) True.intro hQ
  rw [show nI (sD (sCode g t) 0) - nI 1 = -nI 1 from (show nI 0 - nI 1 = -nI 1 by decide)] at l
  exact l
end
