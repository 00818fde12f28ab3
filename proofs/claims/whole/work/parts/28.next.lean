/-! the letter that comes next -/
def sNxt (g : Nat → Nat) (a A s : Nat) : Nat → Option (Nat × Int32)
  | 0 => none
  | l + 1 => if A.testBit l then sNxt g a A s l else match sNxt g a A s l with
    | none => some (l, sScore g a l s)
    | some (b, m) => if m < sScore g a l s then some (l, sScore g a l s) else some (b, m)
def nB (o : Option (Nat × Int32)) : Int32 := match o with
  | none => -nI 1
  | some e => nI e.1
def nM (o : Option (Nat × Int32)) : Int32 := match o with
  | none => nI 0
  | some e => e.2
theorem sNxt_some {g : Nat → Nat} {a A s : Nat} {e : Nat × Int32} : ∀ {n}, sNxt g a A s n = some e → e.1 < n ∧ A.testBit e.1 = false
  | 0, h => by cases h
  | l + 1, h => by
    unfold sNxt at h
    by_cases b : A.testBit l = true
    · rw [if_pos b] at h
      have := sNxt_some h
      exact ⟨by omega, this.2⟩
    · rw [if_neg b] at h
      have b' : A.testBit l = false := by simpa using b
      rcases q : sNxt g a A s l with _ | ⟨b1, m⟩
      · rw [q] at h
        dsimp only at h
        cases h
        exact ⟨Nat.lt_succ_self _, b'⟩
      · rw [q] at h
        dsimp only at h
        by_cases c : m < sScore g a l s
        · rw [if_pos c] at h
          cases h
          exact ⟨Nat.lt_succ_self _, b'⟩
        · rw [if_neg c] at h
          cases h
          have := sNxt_some q
          exact ⟨by omega, this.2⟩
theorem sNxt_none {g : Nat → Nat} {a A s : Nat} : ∀ {n}, sNxt g a A s n = none → ∀ l, l < n → A.testBit l = true
  | 0, _, l, hl => by omega
  | n + 1, h, l, hl => by
    unfold sNxt at h
    by_cases b : A.testBit n = true
    · rw [if_pos b] at h
      by_cases e : l = n
      · exact e ▸ b
      · exact sNxt_none h l (by omega)
    · rw [if_neg b] at h
      rcases q : sNxt g a A s n with _ | ⟨b1, m⟩
      · rw [q] at h
        cases h
      · rw [q] at h
        dsimp only at h
        split at h <;> cases h
section
variable {d : Nat} {S : Nat → Nat × Nat} {I : Nat → Nat → Int32} {R : Nat → Nat → Option Nat} {z : Nat × Nat} {Q : Option Value → HS → Prop}
theorem l163 {a A s : Nat} (hm : Mr S I R) (ha : a < G I 2) (hA : A < 64) (hs : s < 2147483648) (hQ : ∀ J, Si I J → Q (some (.int (nB (sNxt (G I) a A s 6)))) (S, J, R, z)) : ∀ (j k : Nat) (J : Nat → Nat → Int32) (v7 : Value), k + j = 6 → Si I J → RB (d + 5) 163 9 [.ref 81, .int (nI a), .int (nI A), .int (nI s), .int (nB (sNxt (G I) a A s k)), .int (nM (sNxt (G I) a A s k)), .int (nI k), v7] [] (S, J, R, z) Q
  | 0, k, J, v7, h, hJ => by
    obtain rfl : k = 6 := by omega
    rw [w163_9]
    simp (disch := omega) only [w163_0, w163_1, w163_3, w163_4, w163_6, w163_7, w163_11, w163_13, w163_16, w163_17, w163_19, w163_20, w163_21, w163_22, w163_23, w163_26, w163_29, w163_30, w163_31, w163_33, w163_34, w163_37, w163_39, w163_41, w163_44, w163_46, w163_48, w163_51, w163_53, w163_55, w163_57, w163_59, w163_62, w163_65, w163_67, aPush_s, aPush_n, vrf_s, vrf_n, true_and, and_true, false_and, and_false, true_imp_iff, false_imp_iff, not_true_eq_false, not_false_eq_true, eq_self, true_or, or_true, and_self, if_true, if_false, n_lit, n_of, n_an, Nat.add_sub_cancel, nI_add, pk_mul, n_sub, n_ixT, n_cl, n_leT, n_leF, n_ltT, n_ltF, n_eqT, n_eqF, Nat.reduceAdd, Nat.reduceMul, Nat.reduceSub, Nat.reduceEqDiff, Nat.reduceLT, Nat.reduceLeDiff, Nat.mul_one, Nat.one_mul, Nat.add_zero, Nat.zero_add]
    exact hQ J hJ
  | j + 1, k, J, v7, h, hJ => by
    have ih := fun J' v7 => l163 hm ha hA hs hQ j (k + 1) J' v7 (by omega)
    have hk : k < 6 := by omega
    have hG := hJ.G
    obtain ⟨⟨Md_s1, Md_s81, Md_s82, Md_s83, Md_s84, Md_s85, Md_s86, Md_s87, Md_s88, Md_s89, Md_s90, Md_s91, Md_s92, Md_s93, Md_s94, Md_s95, Md_s96, Md_s97, Md_s98, Md_s99, Md_s100, Md_s101, Md_s102, Md_r81_0, Md_r81_1, Md_r81_2, Md_r81_4, Md_r81_5, Md_r81_13, Md_r81_14, Md_r81_15, Md_r81_18, Md_r81_20, Md_r81_21, Md_r81_22, Md_r81_23, Md_r81_24, Md_r81_25, Md_r81_26, Md_r81_27, Md_r81_28, Md_r81_29, Md_r81_30, Md_r81_31⟩, hc, ok⟩ := id hm
    rw [w163_9]
    by_cases b : A.testBit k = true
    · rw [show sNxt (G I) a A s (k + 1) = sNxt (G I) a A s k from if_pos b] at ih
      simp (disch := omega) only [w163_0, w163_1, w163_3, w163_4, w163_6, w163_7, w163_11, w163_13, w163_16, w163_17, w163_19, w163_20, w163_21, w163_22, w163_23, w163_26, w163_29, w163_30, w163_31, w163_33, w163_34, w163_37, w163_39, w163_41, w163_44, w163_46, w163_48, w163_51, w163_53, w163_55, w163_57, w163_59, w163_62, w163_65, w163_67, Md_s1, Md_s81, Md_s82, Md_s83, Md_s84, Md_s85, Md_s86, Md_s87, Md_s88, Md_s89, Md_s90, Md_s91, Md_s92, Md_s93, Md_s94, Md_s95, Md_s96, Md_s97, Md_s98, Md_s99, Md_s100, Md_s101, Md_s102, Md_r81_0, Md_r81_1, Md_r81_2, Md_r81_4, Md_r81_5, Md_r81_13, Md_r81_14, Md_r81_15, Md_r81_18, Md_r81_20, Md_r81_21, Md_r81_22, Md_r81_23, Md_r81_24, Md_r81_25, Md_r81_26, Md_r81_27, Md_r81_28, Md_r81_29, Md_r81_30, Md_r81_31, aPush_s, aPush_n, vrf_s, vrf_n, true_and, and_true, false_and, and_false, true_imp_iff, false_imp_iff, not_true_eq_false, not_false_eq_true, eq_self, true_or, or_true, and_self, if_true, if_false, n_lit, n_of, n_an, Nat.add_sub_cancel, nI_add, pk_mul, n_sub, n_ixT, n_cl, n_leT, n_leF, n_ltT, n_ltF, n_eqT, n_eqF, Nat.reduceAdd, Nat.reduceMul, Nat.reduceSub, Nat.reduceEqDiff, Nat.reduceLT, Nat.reduceLeDiff, Nat.mul_one, Nat.one_mul, Nat.add_zero, Nat.zero_add, n_bit, b, b2n_t]
      exact ih _ _ hJ
    · have b' : A.testBit k = false := by simpa using b
      have hn : sNxt (G I) a A s (k + 1) = match sNxt (G I) a A s k with
        | none => some (k, sScore (G I) a k s)
        | some (b, m) => if m < sScore (G I) a k s then some (k, sScore (G I) a k s) else some (b, m) := if_neg b
      rw [hn] at ih
      simp (disch := omega) only [w163_0, w163_1, w163_3, w163_4, w163_6, w163_7, w163_11, w163_13, w163_16, w163_17, w163_19, w163_20, w163_21, w163_22, w163_23, w163_26, w163_29, w163_30, w163_31, w163_33, w163_34, w163_37, w163_39, w163_41, w163_44, w163_46, w163_48, w163_51, w163_53, w163_55, w163_57, w163_59, w163_62, w163_65, w163_67, Md_s1, Md_s81, Md_s82, Md_s83, Md_s84, Md_s85, Md_s86, Md_s87, Md_s88, Md_s89, Md_s90, Md_s91, Md_s92, Md_s93, Md_s94, Md_s95, Md_s96, Md_s97, Md_s98, Md_s99, Md_s100, Md_s101, Md_s102, Md_r81_0, Md_r81_1, Md_r81_2, Md_r81_4, Md_r81_5, Md_r81_13, Md_r81_14, Md_r81_15, Md_r81_18, Md_r81_20, Md_r81_21, Md_r81_22, Md_r81_23, Md_r81_24, Md_r81_25, Md_r81_26, Md_r81_27, Md_r81_28, Md_r81_29, Md_r81_30, Md_r81_31, aPush_s, aPush_n, vrf_s, vrf_n, true_and, and_true, false_and, and_false, true_imp_iff, false_imp_iff, not_true_eq_false, not_false_eq_true, eq_self, true_or, or_true, and_self, if_true, if_false, n_lit, n_of, n_an, Nat.add_sub_cancel, nI_add, pk_mul, n_sub, n_ixT, n_cl, n_leT, n_leF, n_ltT, n_ltF, n_eqT, n_eqF, Nat.reduceAdd, Nat.reduceMul, Nat.reduceSub, Nat.reduceEqDiff, Nat.reduceLT, Nat.reduceLeDiff, Nat.mul_one, Nat.one_mul, Nat.add_zero, Nat.zero_add, n_bit, b', b2n_f]
      refine c162 (hm.si hJ) (by rw [hG]; exact ha) hk hs ?_
      intro J' hJ'
      rw [hG]
      rcases q : sNxt (G I) a A s k with _ | ⟨b1, m⟩
      · rw [q] at ih
        simp (disch := omega) only [w163_0, w163_1, w163_3, w163_4, w163_6, w163_7, w163_11, w163_13, w163_16, w163_17, w163_19, w163_20, w163_21, w163_22, w163_23, w163_26, w163_29, w163_30, w163_31, w163_33, w163_34, w163_37, w163_39, w163_41, w163_44, w163_46, w163_48, w163_51, w163_53, w163_55, w163_57, w163_59, w163_62, w163_65, w163_67, Md_s1, Md_s81, Md_s82, Md_s83, Md_s84, Md_s85, Md_s86, Md_s87, Md_s88, Md_s89, Md_s90, Md_s91, Md_s92, Md_s93, Md_s94, Md_s95, Md_s96, Md_s97, Md_s98, Md_s99, Md_s100, Md_s101, Md_s102, Md_r81_0, Md_r81_1, Md_r81_2, Md_r81_4, Md_r81_5, Md_r81_13, Md_r81_14, Md_r81_15, Md_r81_18, Md_r81_20, Md_r81_21, Md_r81_22, Md_r81_23, Md_r81_24, Md_r81_25, Md_r81_26, Md_r81_27, Md_r81_28, Md_r81_29, Md_r81_30, Md_r81_31, aPush_s, aPush_n, vrf_s, vrf_n, true_and, and_true, false_and, and_false, true_imp_iff, false_imp_iff, not_true_eq_false, not_false_eq_true, eq_self, true_or, or_true, and_self, if_true, if_false, n_lit, n_of, n_an, Nat.add_sub_cancel, nI_add, pk_mul, n_sub, n_ixT, n_cl, n_leT, n_leF, n_ltT, n_ltF, n_eqT, n_eqF, Nat.reduceAdd, Nat.reduceMul, Nat.reduceSub, Nat.reduceEqDiff, Nat.reduceLT, Nat.reduceLeDiff, Nat.mul_one, Nat.one_mul, Nat.add_zero, Nat.zero_add, nB, nM, n_m1lt]
        exact ih _ _ (hJ.trans hJ')
      · have hb := (sNxt_some q).1
        dsimp only at hb
        rw [q] at ih
        by_cases c : m < sScore (G I) a k s
        · dsimp only at ih
          rw [if_pos c] at ih
          have c' : ¬ sScore (G I) a k s ≤ m := Int32.not_le.2 c
          simp (disch := omega) only [w163_0, w163_1, w163_3, w163_4, w163_6, w163_7, w163_11, w163_13, w163_16, w163_17, w163_19, w163_20, w163_21, w163_22, w163_23, w163_26, w163_29, w163_30, w163_31, w163_33, w163_34, w163_37, w163_39, w163_41, w163_44, w163_46, w163_48, w163_51, w163_53, w163_55, w163_57, w163_59, w163_62, w163_65, w163_67, Md_s1, Md_s81, Md_s82, Md_s83, Md_s84, Md_s85, Md_s86, Md_s87, Md_s88, Md_s89, Md_s90, Md_s91, Md_s92, Md_s93, Md_s94, Md_s95, Md_s96, Md_s97, Md_s98, Md_s99, Md_s100, Md_s101, Md_s102, Md_r81_0, Md_r81_1, Md_r81_2, Md_r81_4, Md_r81_5, Md_r81_13, Md_r81_14, Md_r81_15, Md_r81_18, Md_r81_20, Md_r81_21, Md_r81_22, Md_r81_23, Md_r81_24, Md_r81_25, Md_r81_26, Md_r81_27, Md_r81_28, Md_r81_29, Md_r81_30, Md_r81_31, aPush_s, aPush_n, vrf_s, vrf_n, true_and, and_true, false_and, and_false, true_imp_iff, false_imp_iff, not_true_eq_false, not_false_eq_true, eq_self, true_or, or_true, and_self, if_true, if_false, n_lit, n_of, n_an, Nat.add_sub_cancel, nI_add, pk_mul, n_sub, n_ixT, n_cl, n_leT, n_leF, n_ltT, n_ltF, n_eqT, n_eqF, Nat.reduceAdd, Nat.reduceMul, Nat.reduceSub, Nat.reduceEqDiff, Nat.reduceLT, Nat.reduceLeDiff, Nat.mul_one, Nat.one_mul, Nat.add_zero, Nat.zero_add, nB, nM, c']
          exact ih _ _ (hJ.trans hJ')
        · dsimp only at ih
          rw [if_neg c] at ih
          have c' : sScore (G I) a k s ≤ m := Int32.not_lt.1 c
          simp (disch := omega) only [w163_0, w163_1, w163_3, w163_4, w163_6, w163_7, w163_11, w163_13, w163_16, w163_17, w163_19, w163_20, w163_21, w163_22, w163_23, w163_26, w163_29, w163_30, w163_31, w163_33, w163_34, w163_37, w163_39, w163_41, w163_44, w163_46, w163_48, w163_51, w163_53, w163_55, w163_57, w163_59, w163_62, w163_65, w163_67, Md_s1, Md_s81, Md_s82, Md_s83, Md_s84, Md_s85, Md_s86, Md_s87, Md_s88, Md_s89, Md_s90, Md_s91, Md_s92, Md_s93, Md_s94, Md_s95, Md_s96, Md_s97, Md_s98, Md_s99, Md_s100, Md_s101, Md_s102, Md_r81_0, Md_r81_1, Md_r81_2, Md_r81_4, Md_r81_5, Md_r81_13, Md_r81_14, Md_r81_15, Md_r81_18, Md_r81_20, Md_r81_21, Md_r81_22, Md_r81_23, Md_r81_24, Md_r81_25, Md_r81_26, Md_r81_27, Md_r81_28, Md_r81_29, Md_r81_30, Md_r81_31, aPush_s, aPush_n, vrf_s, vrf_n, true_and, and_true, false_and, and_false, true_imp_iff, false_imp_iff, not_true_eq_false, not_false_eq_true, eq_self, true_or, or_true, and_self, if_true, if_false, n_lit, n_of, n_an, Nat.add_sub_cancel, nI_add, pk_mul, n_sub, n_ixT, n_cl, n_leT, n_leF, n_ltT, n_ltF, n_eqT, n_eqF, Nat.reduceAdd, Nat.reduceMul, Nat.reduceSub, Nat.reduceEqDiff, Nat.reduceLT, Nat.reduceLeDiff, Nat.mul_one, Nat.one_mul, Nat.add_zero, Nat.zero_add, nB, nM, c']
          exact ih _ _ (hJ.trans hJ')
theorem c163 {a A s : Nat} (hm : Mr S I R) (ha : a < G I 2) (hA : A < 64) (hs : s < 2147483648) (hQ : ∀ J, Si I J → Q (some (.int (nB (sNxt (G I) a A s 6)))) (S, J, R, z)) : RM (d + 6) 163 [.ref 81, .int (nI a), .int (nI A), .int (nI s)] (S, I, R, z) Q := by
  simp only [e163, w163_0, w163_1, w163_3, w163_4, w163_6, w163_7, w163_11, w163_13, w163_16, w163_17, w163_19, w163_20, w163_21, w163_22, w163_23, w163_26, w163_29, w163_30, w163_31, w163_33, w163_34, w163_37, w163_39, w163_41, w163_44, w163_46, w163_48, w163_51, w163_53, w163_55, w163_57, w163_59, w163_62, w163_65, w163_67, n_lit, n_of, n_an, Nat.add_sub_cancel, nI_add, pk_mul, n_sub, n_ixT, n_cl, n_leT, n_leF, n_ltT, n_ltF, n_eqT, n_eqF, Nat.reduceAdd, Nat.reduceMul, Nat.reduceSub, Nat.reduceEqDiff, Nat.reduceLT, Nat.reduceLeDiff, Nat.mul_one, Nat.one_mul, Nat.add_zero, Nat.zero_add]
  exact l163 hm ha hA hs hQ 6 0 I _ rfl (Si.refl I)
end
