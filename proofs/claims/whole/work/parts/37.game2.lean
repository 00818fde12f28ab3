section
variable {d r : Nat} {g : Nat → Nat} {S : Nat → Nat × Nat} {I : Nat → Nat → Int32} {R : Nat → Nat → Option Nat} {z : Nat × Nat} {Q : Option Value → HS → Prop}
theorem c31 (hs : Cs S I R r g) : RM (d + 4) 31 [.ref r] (S, I, R, z) Q = Q (some (.int (nI (b2n (sHung g))))) (S, I, R, z) := by
  obtain ⟨hr, ⟨Sd_sr, Sd_s_r___1_, Sd_s_r___2_, Sd_s_r___3_, Sd_s_r___4_, Sd_s_r___5_, Sd_s_r___6_, Sd_s_r___7_, Sd_s_r___8_, Sd_s_r___9_, Sd_s_r___10_, Sd_rr_0, Sd_rr_1, Sd_rr_2, Sd_rr_4, Sd_rr_5, Sd_rr_12, Sd_rr_14, Sd_rr_15, Sd_rr_16, Sd_rr_17⟩, ok, ⟨n3, n6, n7, n8, n9, n10, n11, n13⟩, ⟨a1, a2, a3, a4, a5, a7⟩, ct⟩ := id hs
  have h6 := ok.2.2.2.2.1
  unfold sHung
  by_cases e : g 3 = 4294967295
  · have h0 : sHad g = false := by simp [sHad, e]
    have h5 : g 5 = 0 := by rcases ok.2.2.1 with q | q; exact q.2; exact absurd q (by have := ok.1; omega)
    rw [show (g 3 != 4294967295) = false by simp [e]]
    simp (disch := omega) only [e31, w31_0, w31_1, w31_4, w31_7, w31_8, w31_11, w31_12, w31_15, w31_18, w31_19, w31_22, w31_23, Sd_sr, Sd_s_r___1_, Sd_s_r___2_, Sd_s_r___3_, Sd_s_r___4_, Sd_s_r___5_, Sd_s_r___6_, Sd_s_r___7_, Sd_s_r___8_, Sd_s_r___9_, Sd_s_r___10_, Sd_rr_0, Sd_rr_1, Sd_rr_2, Sd_rr_4, Sd_rr_5, Sd_rr_12, Sd_rr_14, Sd_rr_15, Sd_rr_16, Sd_rr_17, aPush_s, aPush_n, vrf_s, vrf_n, true_and, and_true, false_and, and_false, true_imp_iff, false_imp_iff, not_true_eq_false, not_false_eq_true, eq_self, true_or, or_true, and_self, if_true, if_false, n_lit, n_of, n_an, Nat.add_sub_cancel, nI_add, pk_mul, n_sub, n_ixT, n_cl, n_leT, n_leF, n_ltT, n_ltF, n_eqT, n_eqF, Nat.reduceAdd, Nat.reduceMul, Nat.reduceSub, Nat.reduceEqDiff, Nat.reduceLT, Nat.reduceLeDiff, Nat.mul_one, Nat.one_mul, Nat.add_zero, Nat.zero_add, n3, n6, n7, n8, n9, n10, n11, n13, c30 hs, h0, h5, b2n_f, nz0, Bool.false_and]
  · rw [show (g 3 != 4294967295) = true by simp [e], Bool.true_and]
    rcases f : sHad g with _ | _
    · by_cases c : nI (g 5) < nI (g 6)
      · rw [decide_eq_true c]
        simp (disch := omega) only [e31, w31_0, w31_1, w31_4, w31_7, w31_8, w31_11, w31_12, w31_15, w31_18, w31_19, w31_22, w31_23, Sd_sr, Sd_s_r___1_, Sd_s_r___2_, Sd_s_r___3_, Sd_s_r___4_, Sd_s_r___5_, Sd_s_r___6_, Sd_s_r___7_, Sd_s_r___8_, Sd_s_r___9_, Sd_s_r___10_, Sd_rr_0, Sd_rr_1, Sd_rr_2, Sd_rr_4, Sd_rr_5, Sd_rr_12, Sd_rr_14, Sd_rr_15, Sd_rr_16, Sd_rr_17, aPush_s, aPush_n, vrf_s, vrf_n, true_and, and_true, false_and, and_false, true_imp_iff, false_imp_iff, not_true_eq_false, not_false_eq_true, eq_self, true_or, or_true, and_self, if_true, if_false, n3, n6, n7, n8, n9, n10, n11, n13, n_lit, c30 hs, f, b2n_f, c, nz0, Bool.not_false, Bool.not_true, Bool.and_false, n_eqT]
      · rw [decide_eq_false c]
        simp (disch := omega) only [e31, w31_0, w31_1, w31_4, w31_7, w31_8, w31_11, w31_12, w31_15, w31_18, w31_19, w31_22, w31_23, Sd_sr, Sd_s_r___1_, Sd_s_r___2_, Sd_s_r___3_, Sd_s_r___4_, Sd_s_r___5_, Sd_s_r___6_, Sd_s_r___7_, Sd_s_r___8_, Sd_s_r___9_, Sd_s_r___10_, Sd_rr_0, Sd_rr_1, Sd_rr_2, Sd_rr_4, Sd_rr_5, Sd_rr_12, Sd_rr_14, Sd_rr_15, Sd_rr_16, Sd_rr_17, aPush_s, aPush_n, vrf_s, vrf_n, true_and, and_true, false_and, and_false, true_imp_iff, false_imp_iff, not_true_eq_false, not_false_eq_true, eq_self, true_or, or_true, and_self, if_true, if_false, n3, n6, n7, n8, n9, n10, n11, n13, n_lit, c30 hs, f, b2n_f, b2n_t, c, nz1, Bool.not_false, Bool.and_self, n_eqT]
    · simp (disch := omega) only [e31, w31_0, w31_1, w31_4, w31_7, w31_8, w31_11, w31_12, w31_15, w31_18, w31_19, w31_22, w31_23, Sd_sr, Sd_s_r___1_, Sd_s_r___2_, Sd_s_r___3_, Sd_s_r___4_, Sd_s_r___5_, Sd_s_r___6_, Sd_s_r___7_, Sd_s_r___8_, Sd_s_r___9_, Sd_s_r___10_, Sd_rr_0, Sd_rr_1, Sd_rr_2, Sd_rr_4, Sd_rr_5, Sd_rr_12, Sd_rr_14, Sd_rr_15, Sd_rr_16, Sd_rr_17, aPush_s, aPush_n, vrf_s, vrf_n, true_and, and_true, false_and, and_false, true_imp_iff, false_imp_iff, not_true_eq_false, not_false_eq_true, eq_self, true_or, or_true, and_self, if_true, if_false, n_lit, n_of, n_an, Nat.add_sub_cancel, nI_add, pk_mul, n_sub, n_ixT, n_cl, n_leT, n_leF, n_ltT, n_ltF, n_eqT, n_eqF, Nat.reduceAdd, Nat.reduceMul, Nat.reduceSub, Nat.reduceEqDiff, Nat.reduceLT, Nat.reduceLeDiff, Nat.mul_one, Nat.one_mul, Nat.add_zero, Nat.zero_add, n3, n6, n7, n8, n9, n10, n11, n13, c30 hs, f, b2n_t, b2n_f, nz0, Bool.not_true, Bool.false_and]
theorem c182 {w : Nat} (hm : Mr S I R) (hw : w < G I 1) (hQ : ∀ J, Si I J → Q (some (.int (sTimes (G I) w))) (S, J, R, z)) : RM (d + 3) 182 [.ref 81, .int (nI w)] (S, I, R, z) Q := by
  obtain ⟨⟨Md_s1, Md_s81, Md_s82, Md_s83, Md_s84, Md_s85, Md_s86, Md_s87, Md_s88, Md_s89, Md_s90, Md_s91, Md_s92, Md_s93, Md_s94, Md_s95, Md_s96, Md_s97, Md_s98, Md_s99, Md_s100, Md_s101, Md_s102, Md_r81_0, Md_r81_1, Md_r81_2, Md_r81_4, Md_r81_5, Md_r81_13, Md_r81_14, Md_r81_15, Md_r81_18, Md_r81_20, Md_r81_21, Md_r81_22, Md_r81_23, Md_r81_24, Md_r81_25, Md_r81_26, Md_r81_27, Md_r81_28, Md_r81_29, Md_r81_30, Md_r81_31⟩, hc, ok⟩ := id hm
  have h1 := ok.1
  have hw12 : w < 12 := by omega
  have c3 : (1 : Nat) < 3 := by decide
  unfold sTimes at hQ
  rcases e : sCt (G I) 1 (G I 7) with _ | t
  · rw [e] at hQ
    dsimp only at hQ
    simp (disch := omega) only [e182, w182_0, w182_1, w182_2, w182_5, w182_6, w182_7, w182_10, w182_11, w182_12, w182_13, w182_16, w182_17, w182_18, w182_21, w182_22, w182_23, w182_24, w182_25, w182_28, w182_29, w182_30, w182_33, w182_36, w182_37, w182_38, w182_41, w182_42, w182_45, w182_48, Md_s1, Md_s81, Md_s82, Md_s83, Md_s84, Md_s85, Md_s86, Md_s87, Md_s88, Md_s89, Md_s90, Md_s91, Md_s92, Md_s93, Md_s94, Md_s95, Md_s96, Md_s97, Md_s98, Md_s99, Md_s100, Md_s101, Md_s102, Md_r81_0, Md_r81_1, Md_r81_2, Md_r81_4, Md_r81_5, Md_r81_13, Md_r81_14, Md_r81_15, Md_r81_18, Md_r81_20, Md_r81_21, Md_r81_22, Md_r81_23, Md_r81_24, Md_r81_25, Md_r81_26, Md_r81_27, Md_r81_28, Md_r81_29, Md_r81_30, Md_r81_31, aPush_s, aPush_n, vrf_s, vrf_n, true_and, and_true, false_and, and_false, true_imp_iff, false_imp_iff, not_true_eq_false, not_false_eq_true, eq_self, true_or, or_true, and_self, if_true, if_false, n_lit, n_of, n_an, Nat.add_sub_cancel, nI_add, pk_mul, n_sub, n_ixT, n_cl, n_leT, n_leF, n_ltT, n_ltF, n_eqT, n_eqF, Nat.reduceAdd, Nat.reduceMul, Nat.reduceSub, Nat.reduceEqDiff, Nat.reduceLT, Nat.reduceLeDiff, Nat.mul_one, Nat.one_mul, Nat.add_zero, Nat.zero_add, c218 hm c3, e, c145 hm hw12]
    simp only [n_m1le, aPush_s, aPush_n, vrf_s, vrf_n, true_and, and_true, false_and, and_false, true_imp_iff, false_imp_iff, not_true_eq_false, not_false_eq_true, eq_self, true_or, or_true, and_self, if_true, if_false]
    rw [c145 ((hm.si Si.w93).si Si.w93) hw12, G_w93, G_w93]
    simp (disch := omega) only [w182_0, w182_1, w182_2, w182_5, w182_6, w182_7, w182_10, w182_11, w182_12, w182_13, w182_16, w182_17, w182_18, w182_21, w182_22, w182_23, w182_24, w182_25, w182_28, w182_29, w182_30, w182_33, w182_36, w182_37, w182_38, w182_41, w182_42, w182_45, w182_48, aPush_s, aPush_n, vrf_s, vrf_n, true_and, and_true, false_and, and_false, true_imp_iff, false_imp_iff, not_true_eq_false, not_false_eq_true, eq_self, true_or, or_true, and_self, if_true, if_false, n_lit, n_of, n_an, Nat.add_sub_cancel, nI_add, pk_mul, n_sub, n_ixT, n_cl, n_leT, n_leF, n_ltT, n_ltF, n_eqT, n_eqF, Nat.reduceAdd, Nat.reduceMul, Nat.reduceSub, Nat.reduceEqDiff, Nat.reduceLT, Nat.reduceLeDiff, Nat.mul_one, Nat.one_mul, Nat.add_zero, Nat.zero_add]
    exact hQ _ (Si.w93.trans Si.w93)
  · rw [e] at hQ
    dsimp only at hQ
    have ht := sCt_some e
    have h7 := ok.2.2.2.2.2.1
    simp (disch := omega) only [e182, w182_0, w182_1, w182_2, w182_5, w182_6, w182_7, w182_10, w182_11, w182_12, w182_13, w182_16, w182_17, w182_18, w182_21, w182_22, w182_23, w182_24, w182_25, w182_28, w182_29, w182_30, w182_33, w182_36, w182_37, w182_38, w182_41, w182_42, w182_45, w182_48, Md_s1, Md_s81, Md_s82, Md_s83, Md_s84, Md_s85, Md_s86, Md_s87, Md_s88, Md_s89, Md_s90, Md_s91, Md_s92, Md_s93, Md_s94, Md_s95, Md_s96, Md_s97, Md_s98, Md_s99, Md_s100, Md_s101, Md_s102, Md_r81_0, Md_r81_1, Md_r81_2, Md_r81_4, Md_r81_5, Md_r81_13, Md_r81_14, Md_r81_15, Md_r81_18, Md_r81_20, Md_r81_21, Md_r81_22, Md_r81_23, Md_r81_24, Md_r81_25, Md_r81_26, Md_r81_27, Md_r81_28, Md_r81_29, Md_r81_30, Md_r81_31, aPush_s, aPush_n, vrf_s, vrf_n, true_and, and_true, false_and, and_false, true_imp_iff, false_imp_iff, not_true_eq_false, not_false_eq_true, eq_self, true_or, or_true, and_self, if_true, if_false, n_lit, n_of, n_an, Nat.add_sub_cancel, nI_add, pk_mul, n_sub, n_ixT, n_cl, n_leT, n_leF, n_ltT, n_ltF, n_eqT, n_eqF, Nat.reduceAdd, Nat.reduceMul, Nat.reduceSub, Nat.reduceEqDiff, Nat.reduceLT, Nat.reduceLeDiff, Nat.mul_one, Nat.one_mul, Nat.add_zero, Nat.zero_add, c218 hm c3, e, c145 hm hw12]
    refine c221 ((hm.si Si.w93).si Si.w93) (by rw [G_w93, G_w93]; exact ht.1) ?_
    intro J hJ
    rw [G_w93, G_w93, sVal_cong (m := 2) (f' := sF (nI (sW (G I) w)) (nI w) (nI 0)) ok ht.1 (by rw [ht.2]; rfl) (fun j hj => by
      rcases j with _ | _ | j
      · simp [aW, sF]
      · simp [aW, sF]
      · omega)]
    simp (disch := omega) only [w182_0, w182_1, w182_2, w182_5, w182_6, w182_7, w182_10, w182_11, w182_12, w182_13, w182_16, w182_17, w182_18, w182_21, w182_22, w182_23, w182_24, w182_25, w182_28, w182_29, w182_30, w182_33, w182_36, w182_37, w182_38, w182_41, w182_42, w182_45, w182_48, aPush_s, aPush_n, vrf_s, vrf_n, true_and, and_true, false_and, and_false, true_imp_iff, false_imp_iff, not_true_eq_false, not_false_eq_true, eq_self, true_or, or_true, and_self, if_true, if_false, n_lit, n_of, n_an, Nat.add_sub_cancel, nI_add, pk_mul, n_sub, n_ixT, n_cl, n_leT, n_leF, n_ltT, n_ltF, n_eqT, n_eqF, Nat.reduceAdd, Nat.reduceMul, Nat.reduceSub, Nat.reduceEqDiff, Nat.reduceLT, Nat.reduceLeDiff, Nat.mul_one, Nat.one_mul, Nat.add_zero, Nat.zero_add, c136]
    exact hQ J ((Si.w93.trans Si.w93).trans (fun q h1 _ => hJ q h1))
theorem c36 {w : Nat} (hs : Cs S I R r g) (hw : w < g 1) (hQ : ∀ J, Sc r I J → Q (some (.int (sTimes g w))) (S, J, R, z)) : RM (d + 3) 36 [.ref r, .int (nI w)] (S, I, R, z) Q := by
  obtain ⟨hr, ⟨Sd_sr, Sd_s_r___1_, Sd_s_r___2_, Sd_s_r___3_, Sd_s_r___4_, Sd_s_r___5_, Sd_s_r___6_, Sd_s_r___7_, Sd_s_r___8_, Sd_s_r___9_, Sd_s_r___10_, Sd_rr_0, Sd_rr_1, Sd_rr_2, Sd_rr_4, Sd_rr_5, Sd_rr_12, Sd_rr_14, Sd_rr_15, Sd_rr_16, Sd_rr_17⟩, ok, ⟨n3, n6, n7, n8, n9, n10, n11, n13⟩, ⟨a1, a2, a3, a4, a5, a7⟩, ct⟩ := id hs
  have h1 := ok.1
  have c3 : (1 : Nat) < 3 := by decide
  unfold sTimes at hQ
  rcases e : sCt g 1 (g 7) with _ | t
  · rw [e] at hQ
    dsimp only at hQ
    simp (disch := omega) only [e36, w36_0, w36_1, w36_2, w36_5, w36_5N, w36_6, w36_6N, w36_7, w36_7N, w36_10, w36_11, w36_14, w36_15, w36_16, w36_19, w36_19N, w36_20, w36_21, w36_24, w36_25, w36_26, w36_27, w36_28, w36_29, w36_32, w36_35, w36_36, w36_39, w36_42, Sd_sr, Sd_s_r___1_, Sd_s_r___2_, Sd_s_r___3_, Sd_s_r___4_, Sd_s_r___5_, Sd_s_r___6_, Sd_s_r___7_, Sd_s_r___8_, Sd_s_r___9_, Sd_s_r___10_, Sd_rr_0, Sd_rr_1, Sd_rr_2, Sd_rr_4, Sd_rr_5, Sd_rr_12, Sd_rr_14, Sd_rr_15, Sd_rr_16, Sd_rr_17, aPush_s, aPush_n, vrf_s, vrf_n, true_and, and_true, false_and, and_false, true_imp_iff, false_imp_iff, not_true_eq_false, not_false_eq_true, eq_self, true_or, or_true, and_self, if_true, if_false, n_lit, n_of, n_an, Nat.add_sub_cancel, nI_add, pk_mul, n_sub, n_ixT, n_cl, n_leT, n_leF, n_ltT, n_ltF, n_eqT, n_eqF, Nat.reduceAdd, Nat.reduceMul, Nat.reduceSub, Nat.reduceEqDiff, Nat.reduceLT, Nat.reduceLeDiff, Nat.mul_one, Nat.one_mul, Nat.add_zero, Nat.zero_add, n3, n6, n7, n8, n9, n10, n11, n13, c39n hs c3 e, a2 w hw]
    exact hQ I (Sc.refl r I)
  · rw [e] at hQ
    dsimp only at hQ
    have ht := sCt_some e
    obtain ⟨c, hc, hT⟩ := ct t ht.1
    have hT1 := hT.1
    have c14 : ¬ c = 14 := by omega
    simp (disch := omega) only [e36, w36_0, w36_1, w36_2, w36_5, w36_5N, w36_6, w36_6N, w36_7, w36_7N, w36_10, w36_11, w36_14, w36_15, w36_16, w36_19, w36_19N, w36_20, w36_21, w36_24, w36_25, w36_26, w36_27, w36_28, w36_29, w36_32, w36_35, w36_36, w36_39, w36_42, Sd_sr, Sd_s_r___1_, Sd_s_r___2_, Sd_s_r___3_, Sd_s_r___4_, Sd_s_r___5_, Sd_s_r___6_, Sd_s_r___7_, Sd_s_r___8_, Sd_s_r___9_, Sd_s_r___10_, Sd_rr_0, Sd_rr_1, Sd_rr_2, Sd_rr_4, Sd_rr_5, Sd_rr_12, Sd_rr_14, Sd_rr_15, Sd_rr_16, Sd_rr_17, aPush_s, aPush_n, vrf_s, vrf_n, true_and, and_true, false_and, and_false, true_imp_iff, false_imp_iff, not_true_eq_false, not_false_eq_true, eq_self, true_or, or_true, and_self, if_true, if_false, n_lit, n_of, n_an, Nat.add_sub_cancel, nI_add, pk_mul, n_sub, n_ixT, n_cl, n_leT, n_leF, n_ltT, n_ltF, n_eqT, n_eqF, Nat.reduceAdd, Nat.reduceMul, Nat.reduceSub, Nat.reduceEqDiff, Nat.reduceLT, Nat.reduceLeDiff, Nat.mul_one, Nat.one_mul, Nat.add_zero, Nat.zero_add, n3, n6, n7, n8, n9, n10, n11, n13, c39s hs c3 e hc, c14, a2 w hw, hT.2.1]
    refine c67 hT ok ht.1 (by omega) (by assumption) (by omega) (by omega) ?_
    intro J hJ
    simp (disch := omega) only [w36_0, w36_1, w36_2, w36_5, w36_5N, w36_6, w36_6N, w36_7, w36_7N, w36_10, w36_11, w36_14, w36_15, w36_16, w36_19, w36_19N, w36_20, w36_21, w36_24, w36_25, w36_26, w36_27, w36_28, w36_29, w36_32, w36_35, w36_36, w36_39, w36_42, aPush_s, aPush_n, vrf_s, vrf_n, true_and, and_true, false_and, and_false, true_imp_iff, false_imp_iff, not_true_eq_false, not_false_eq_true, eq_self, true_or, or_true, and_self, if_true, if_false, n_lit, n_of, n_an, Nat.add_sub_cancel, nI_add, pk_mul, n_sub, n_ixT, n_cl, n_leT, n_leF, n_ltT, n_ltF, n_eqT, n_eqF, Nat.reduceAdd, Nat.reduceMul, Nat.reduceSub, Nat.reduceEqDiff, Nat.reduceLT, Nat.reduceLeDiff, Nat.mul_one, Nat.one_mul, Nat.add_zero, Nat.zero_add, c130 (show nI 0 ≤ nI 999 by decide)]
    exact hQ J (fun p h1 _ _ => hJ p h1)
end
