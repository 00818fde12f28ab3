/-! sets of letters -/
theorem n_set : ∀ L, L < 64 → ∀ A, A < 64 → (nI L &&& (nI A ^^^ -nI 1) = nI 0 ↔ L &&& A = L) := by decide +kernel
theorem n_setE {L A : Nat} (h : L < 64) (h2 : A < 64) : (nI L &&& (nI A ^^^ -nI 1) = nI 0) = (L &&& A = L) := propext (n_set L h A h2)
theorem n_all : ∀ A, A < 64 → (∀ l, l < 6 → A.testBit l = true) → A = 63 := by decide +kernel
theorem n_pop6 : ∀ A, A < 64 → 6 ≤ sPop 6 A → A = 63 := by decide +kernel
theorem n_in63 : ∀ L, L < 64 → L &&& 63 = L := by decide +kernel
theorem n_add1 : ∀ A, A < 64 → ∀ l, l < 6 → A.testBit l = false → sPop 6 (A ||| 2 ^ l) = sPop 6 A + 1 := by decide +kernel
theorem n_or64 {A l : Nat} (h : A < 64) (hl : l < 6) : A ||| 2 ^ l < 64 := Nat.or_lt_two_pow (n := 6) h (Nat.pow_lt_pow_right (by decide) hl)
/-- the lines of a game that is only thought -/
def sLin (g : Nat → Nat) (w a : Nat) : Nat → Nat → Nat → Nat
  | 0, _, n => n
  | f + 1, A, n => if sLs g w &&& A = sLs g w then n else match sNxt g a A (sFits g w A) 6 with
    | none => n
    | some e => sLin g w a f (A ||| 2 ^ e.1) (n + if sPl g w e.1 = 0 then 1 else 0)
def sLines (g : Nat → Nat) (w a : Nat) : Nat := sLin g w a 6 0 0
section
variable {d : Nat} {S : Nat → Nat × Nat} {I : Nat → Nat → Int32} {R : Nat → Nat → Option Nat} {z : Nat × Nat} {Q : Option Value → HS → Prop}
theorem l187 {w a : Nat} (hm : Mr S I R) (hw : w < G I 1) (ha : a < G I 2) : ∀ (f A n : Nat) (J : Nat → Nat → Int32) (v5 : Value), A < 64 → 6 ≤ f + sPop 6 A → Si I J → (∀ J, Si I J → Q (some (.int (nI (sLin (G I) w a f A n)))) (S, J, R, z)) → RB (d + 6) 187 5 [.ref 81, .int (nI w), .int (nI a), .int (nI A), .int (nI n), v5] [] (S, J, R, z) Q
  | 0, A, n, J, v5, hA, hp, hJ, hQ => by
    have hls := sLs_lt (G I) w
    have hG := hJ.G
    have e : sLs (G I) w &&& A = sLs (G I) w := by
      rw [n_pop6 A hA (by omega)]
      exact n_in63 _ hls
    have hwJ : w < G J 1 := by rw [hG]; exact hw
    obtain ⟨⟨Md_s1, Md_s81, Md_s82, Md_s83, Md_s84, Md_s85, Md_s86, Md_s87, Md_s88, Md_s89, Md_s90, Md_s91, Md_s92, Md_s93, Md_s94, Md_s95, Md_s96, Md_s97, Md_s98, Md_s99, Md_s100, Md_s101, Md_s102, Md_r81_0, Md_r81_1, Md_r81_2, Md_r81_4, Md_r81_5, Md_r81_13, Md_r81_14, Md_r81_15, Md_r81_18, Md_r81_20, Md_r81_21, Md_r81_22, Md_r81_23, Md_r81_24, Md_r81_25, Md_r81_26, Md_r81_27, Md_r81_28, Md_r81_29, Md_r81_30, Md_r81_31⟩, hc, ok⟩ := id hm
    rw [w187_5]
    simp (disch := omega) only [w187_0, w187_1, w187_2, w187_3, w187_6, w187_7, w187_10, w187_11, w187_12, w187_13, w187_14, w187_17, w187_18, w187_19, w187_20, w187_21, w187_22, w187_23, w187_26, w187_29, w187_31, w187_33, w187_34, w187_35, w187_37, w187_40, w187_43, w187_44, w187_47, w187_48, w187_49, w187_51, w187_52, w187_53, w187_55, w187_56, w187_57, w187_58, w187_61, w187_63, Md_s1, Md_s81, Md_s82, Md_s83, Md_s84, Md_s85, Md_s86, Md_s87, Md_s88, Md_s89, Md_s90, Md_s91, Md_s92, Md_s93, Md_s94, Md_s95, Md_s96, Md_s97, Md_s98, Md_s99, Md_s100, Md_s101, Md_s102, Md_r81_0, Md_r81_1, Md_r81_2, Md_r81_4, Md_r81_5, Md_r81_13, Md_r81_14, Md_r81_15, Md_r81_18, Md_r81_20, Md_r81_21, Md_r81_22, Md_r81_23, Md_r81_24, Md_r81_25, Md_r81_26, Md_r81_27, Md_r81_28, Md_r81_29, Md_r81_30, Md_r81_31, aPush_s, aPush_n, vrf_s, vrf_n, true_and, and_true, false_and, and_false, true_imp_iff, false_imp_iff, not_true_eq_false, not_false_eq_true, eq_self, true_or, or_true, and_self, if_true, if_false, n_lit, n_of, n_an, Nat.add_sub_cancel, nI_add, pk_mul, n_sub, n_ixT, n_cl, n_leT, n_leF, n_ltT, n_ltF, n_eqT, n_eqF, Nat.reduceAdd, Nat.reduceMul, Nat.reduceSub, Nat.reduceEqDiff, Nat.reduceLT, Nat.reduceLeDiff, Nat.mul_one, Nat.one_mul, Nat.add_zero, Nat.zero_add, c147 (hm.si hJ) hwJ, hG, n_setE, e]
    exact hQ J hJ
  | f + 1, A, n, J, v5, hA, hp, hJ, hQ => by
    have hls := sLs_lt (G I) w
    have hG := hJ.G
    have hwJ : w < G J 1 := by rw [hG]; exact hw
    have ih := fun A' n' J' v5 => l187 hm hw ha f A' n' J' v5
    obtain ⟨⟨Md_s1, Md_s81, Md_s82, Md_s83, Md_s84, Md_s85, Md_s86, Md_s87, Md_s88, Md_s89, Md_s90, Md_s91, Md_s92, Md_s93, Md_s94, Md_s95, Md_s96, Md_s97, Md_s98, Md_s99, Md_s100, Md_s101, Md_s102, Md_r81_0, Md_r81_1, Md_r81_2, Md_r81_4, Md_r81_5, Md_r81_13, Md_r81_14, Md_r81_15, Md_r81_18, Md_r81_20, Md_r81_21, Md_r81_22, Md_r81_23, Md_r81_24, Md_r81_25, Md_r81_26, Md_r81_27, Md_r81_28, Md_r81_29, Md_r81_30, Md_r81_31⟩, hc, ok⟩ := id hm
    rw [w187_5]
    by_cases e : sLs (G I) w &&& A = sLs (G I) w
    · have hq : ∀ J, Si I J → Q (some (.int (nI n))) (S, J, R, z) := by
        intro J hJ
        have := hQ J hJ
        unfold sLin at this
        rw [if_pos e] at this
        exact this
      simp (disch := omega) only [w187_0, w187_1, w187_2, w187_3, w187_6, w187_7, w187_10, w187_11, w187_12, w187_13, w187_14, w187_17, w187_18, w187_19, w187_20, w187_21, w187_22, w187_23, w187_26, w187_29, w187_31, w187_33, w187_34, w187_35, w187_37, w187_40, w187_43, w187_44, w187_47, w187_48, w187_49, w187_51, w187_52, w187_53, w187_55, w187_56, w187_57, w187_58, w187_61, w187_63, Md_s1, Md_s81, Md_s82, Md_s83, Md_s84, Md_s85, Md_s86, Md_s87, Md_s88, Md_s89, Md_s90, Md_s91, Md_s92, Md_s93, Md_s94, Md_s95, Md_s96, Md_s97, Md_s98, Md_s99, Md_s100, Md_s101, Md_s102, Md_r81_0, Md_r81_1, Md_r81_2, Md_r81_4, Md_r81_5, Md_r81_13, Md_r81_14, Md_r81_15, Md_r81_18, Md_r81_20, Md_r81_21, Md_r81_22, Md_r81_23, Md_r81_24, Md_r81_25, Md_r81_26, Md_r81_27, Md_r81_28, Md_r81_29, Md_r81_30, Md_r81_31, aPush_s, aPush_n, vrf_s, vrf_n, true_and, and_true, false_and, and_false, true_imp_iff, false_imp_iff, not_true_eq_false, not_false_eq_true, eq_self, true_or, or_true, and_self, if_true, if_false, n_lit, n_of, n_an, Nat.add_sub_cancel, nI_add, pk_mul, n_sub, n_ixT, n_cl, n_leT, n_leF, n_ltT, n_ltF, n_eqT, n_eqF, Nat.reduceAdd, Nat.reduceMul, Nat.reduceSub, Nat.reduceEqDiff, Nat.reduceLT, Nat.reduceLeDiff, Nat.mul_one, Nat.one_mul, Nat.add_zero, Nat.zero_add, c147 (hm.si hJ) hwJ, hG, n_setE, e]
      exact hq J hJ
    · simp (disch := omega) only [w187_0, w187_1, w187_2, w187_3, w187_6, w187_7, w187_10, w187_11, w187_12, w187_13, w187_14, w187_17, w187_18, w187_19, w187_20, w187_21, w187_22, w187_23, w187_26, w187_29, w187_31, w187_33, w187_34, w187_35, w187_37, w187_40, w187_43, w187_44, w187_47, w187_48, w187_49, w187_51, w187_52, w187_53, w187_55, w187_56, w187_57, w187_58, w187_61, w187_63, Md_s1, Md_s81, Md_s82, Md_s83, Md_s84, Md_s85, Md_s86, Md_s87, Md_s88, Md_s89, Md_s90, Md_s91, Md_s92, Md_s93, Md_s94, Md_s95, Md_s96, Md_s97, Md_s98, Md_s99, Md_s100, Md_s101, Md_s102, Md_r81_0, Md_r81_1, Md_r81_2, Md_r81_4, Md_r81_5, Md_r81_13, Md_r81_14, Md_r81_15, Md_r81_18, Md_r81_20, Md_r81_21, Md_r81_22, Md_r81_23, Md_r81_24, Md_r81_25, Md_r81_26, Md_r81_27, Md_r81_28, Md_r81_29, Md_r81_30, Md_r81_31, aPush_s, aPush_n, vrf_s, vrf_n, true_and, and_true, false_and, and_false, true_imp_iff, false_imp_iff, not_true_eq_false, not_false_eq_true, eq_self, true_or, or_true, and_self, if_true, if_false, n_lit, n_of, n_an, Nat.add_sub_cancel, nI_add, pk_mul, n_sub, n_ixT, n_cl, n_leT, n_leF, n_ltT, n_ltF, n_eqT, n_eqF, Nat.reduceAdd, Nat.reduceMul, Nat.reduceSub, Nat.reduceEqDiff, Nat.reduceLT, Nat.reduceLeDiff, Nat.mul_one, Nat.one_mul, Nat.add_zero, Nat.zero_add, c147 (hm.si hJ) hwJ, hG, n_setE, e, c148 (hm.si hJ) hwJ hA]
      have hf := sFits_lt ok w A
      refine c163 (hm.si hJ) (by rw [hG]; exact ha) hA (by omega) ?_
      intro J' hJ'
      have hJ2 := hJ.trans hJ'
      have hG2 := hJ2.G
      have hwJ2 : w < G J' 1 := by rw [hG2]; exact hw
      rw [hG]
      rcases q : sNxt (G I) a A (sFits (G I) w A) 6 with _ | ⟨l, m⟩
      · exact absurd (show sLs (G I) w &&& A = sLs (G I) w by
          rw [n_all A hA (sNxt_none q)]
          exact n_in63 _ hls) e
      · obtain ⟨hl, hb⟩ := sNxt_some q
        dsimp only at hl hb
        have hq : ∀ J, Si I J → Q (some (.int (nI (sLin (G I) w a f (A ||| 2 ^ l) (n + if sPl (G I) w l = 0 then 1 else 0))))) (S, J, R, z) := by
          intro J hJ
          have := hQ J hJ
          unfold sLin at this
          rw [if_neg e, q] at this
          exact this
        have hpl := sPl_lt (G I) w l
        have hp2 := n_add1 A hA l hl hb
        by_cases e2 : sPl (G I) w l = 0
        · rw [if_pos e2] at hq
          simp (disch := omega) only [w187_0, w187_1, w187_2, w187_3, w187_6, w187_7, w187_10, w187_11, w187_12, w187_13, w187_14, w187_17, w187_18, w187_19, w187_20, w187_21, w187_22, w187_23, w187_26, w187_29, w187_31, w187_33, w187_34, w187_35, w187_37, w187_40, w187_43, w187_44, w187_47, w187_48, w187_49, w187_51, w187_52, w187_53, w187_55, w187_56, w187_57, w187_58, w187_61, w187_63, Md_s1, Md_s81, Md_s82, Md_s83, Md_s84, Md_s85, Md_s86, Md_s87, Md_s88, Md_s89, Md_s90, Md_s91, Md_s92, Md_s93, Md_s94, Md_s95, Md_s96, Md_s97, Md_s98, Md_s99, Md_s100, Md_s101, Md_s102, Md_r81_0, Md_r81_1, Md_r81_2, Md_r81_4, Md_r81_5, Md_r81_13, Md_r81_14, Md_r81_15, Md_r81_18, Md_r81_20, Md_r81_21, Md_r81_22, Md_r81_23, Md_r81_24, Md_r81_25, Md_r81_26, Md_r81_27, Md_r81_28, Md_r81_29, Md_r81_30, Md_r81_31, aPush_s, aPush_n, vrf_s, vrf_n, true_and, and_true, false_and, and_false, true_imp_iff, false_imp_iff, not_true_eq_false, not_false_eq_true, eq_self, true_or, or_true, and_self, if_true, if_false, n_lit, n_of, n_an, Nat.add_sub_cancel, nI_add, pk_mul, n_sub, n_ixT, n_cl, n_leT, n_leF, n_ltT, n_ltF, n_eqT, n_eqF, Nat.reduceAdd, Nat.reduceMul, Nat.reduceSub, Nat.reduceEqDiff, Nat.reduceLT, Nat.reduceLeDiff, Nat.mul_one, Nat.one_mul, Nat.add_zero, Nat.zero_add, nB, c146 (hm.si hJ2) hwJ2 hl, hG2, e2, n_shl, n_or]
          exact ih _ _ _ _ (n_or64 hA hl) (by omega) hJ2 hq
        · rw [if_neg e2] at hq
          simp (disch := omega) only [w187_0, w187_1, w187_2, w187_3, w187_6, w187_7, w187_10, w187_11, w187_12, w187_13, w187_14, w187_17, w187_18, w187_19, w187_20, w187_21, w187_22, w187_23, w187_26, w187_29, w187_31, w187_33, w187_34, w187_35, w187_37, w187_40, w187_43, w187_44, w187_47, w187_48, w187_49, w187_51, w187_52, w187_53, w187_55, w187_56, w187_57, w187_58, w187_61, w187_63, Md_s1, Md_s81, Md_s82, Md_s83, Md_s84, Md_s85, Md_s86, Md_s87, Md_s88, Md_s89, Md_s90, Md_s91, Md_s92, Md_s93, Md_s94, Md_s95, Md_s96, Md_s97, Md_s98, Md_s99, Md_s100, Md_s101, Md_s102, Md_r81_0, Md_r81_1, Md_r81_2, Md_r81_4, Md_r81_5, Md_r81_13, Md_r81_14, Md_r81_15, Md_r81_18, Md_r81_20, Md_r81_21, Md_r81_22, Md_r81_23, Md_r81_24, Md_r81_25, Md_r81_26, Md_r81_27, Md_r81_28, Md_r81_29, Md_r81_30, Md_r81_31, aPush_s, aPush_n, vrf_s, vrf_n, true_and, and_true, false_and, and_false, true_imp_iff, false_imp_iff, not_true_eq_false, not_false_eq_true, eq_self, true_or, or_true, and_self, if_true, if_false, n_lit, n_of, n_an, Nat.add_sub_cancel, nI_add, pk_mul, n_sub, n_ixT, n_cl, n_leT, n_leF, n_ltT, n_ltF, n_eqT, n_eqF, Nat.reduceAdd, Nat.reduceMul, Nat.reduceSub, Nat.reduceEqDiff, Nat.reduceLT, Nat.reduceLeDiff, Nat.mul_one, Nat.one_mul, Nat.add_zero, Nat.zero_add, nB, c146 (hm.si hJ2) hwJ2 hl, hG2, e2, n_shl, n_or]
          exact ih _ _ _ _ (n_or64 hA hl) (by omega) hJ2 hq
theorem c187 {w a : Nat} (hm : Mr S I R) (hw : w < G I 1) (ha : a < G I 2) (hQ : ∀ J, Si I J → Q (some (.int (nI (sLines (G I) w a)))) (S, J, R, z)) : RM (d + 7) 187 [.ref 81, .int (nI w), .int (nI a)] (S, I, R, z) Q := by
  simp only [e187, w187_0, w187_1, w187_2, w187_3, w187_6, w187_7, w187_10, w187_11, w187_12, w187_13, w187_14, w187_17, w187_18, w187_19, w187_20, w187_21, w187_22, w187_23, w187_26, w187_29, w187_31, w187_33, w187_34, w187_35, w187_37, w187_40, w187_43, w187_44, w187_47, w187_48, w187_49, w187_51, w187_52, w187_53, w187_55, w187_56, w187_57, w187_58, w187_61, w187_63, n_lit, n_of, n_an, Nat.add_sub_cancel, nI_add, pk_mul, n_sub, n_ixT, n_cl, n_leT, n_leF, n_ltT, n_ltF, n_eqT, n_eqF, Nat.reduceAdd, Nat.reduceMul, Nat.reduceSub, Nat.reduceEqDiff, Nat.reduceLT, Nat.reduceLeDiff, Nat.mul_one, Nat.one_mul, Nat.add_zero, Nat.zero_add]
  exact l187 hm hw ha 6 0 0 I _ (by decide) (by decide) (Si.refl I) hQ
end
