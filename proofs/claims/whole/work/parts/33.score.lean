/-! a State: scores -/
/-- all but the rows that a State only writes on -/
def Sc (r : Nat) (I I' : Nat → Nat → Int32) : Prop := ∀ p, p ≠ r + 8 → p ≠ r + 9 → p ≠ r + 9 → I' p = I p
theorem Sc.refl (r : Nat) (I : Nat → Nat → Int32) : Sc r I I := fun _ _ _ _ => rfl
theorem Sc.trans {r : Nat} {A B C : Nat → Nat → Int32} (h : Sc r A B) (h2 : Sc r B C) : Sc r A C := fun q h3 h4 h5 => (h2 q h3 h4 h5).trans (h q h3 h4 h5)
theorem Cs.sc {r : Nat} {g : Nat → Nat} {S : Nat → Nat × Nat} {I I' : Nat → Nat → Int32} {R : Nat → Nat → Option Nat} (hs : Cs S I R r g) (h : Sc r I I') : Cs S I' R r g := by
  obtain ⟨hr, sd, ok, cn, ⟨a1, a2, a3, a4, a5, a7⟩, ct⟩ := hs
  have h0 : I' r = I r := h r (by omega) (by omega) (by omega)
  have h1 : I' (r + 1) = I (r + 1) := h _ (by omega) (by omega) (by omega)
  have h2 : I' (r + 2) = I (r + 2) := h _ (by omega) (by omega) (by omega)
  have h3 : I' (r + 3) = I (r + 3) := h _ (by omega) (by omega) (by omega)
  have h4 : I' (r + 4) = I (r + 4) := h _ (by omega) (by omega) (by omega)
  have h5 : I' (r + 5) = I (r + 5) := h _ (by omega) (by omega) (by omega)
  have h7 : I' (r + 7) = I (r + 7) := h _ (by omega) (by omega) (by omega)
  refine ⟨hr, sd, ok, ?_, ⟨?_, ?_, ?_, ?_, ?_, ?_⟩, ?_⟩
  · unfold Cn at cn ⊢
    rw [h0]
    exact cn
  · rw [h1]; exact a1
  · rw [h2]; exact a2
  · rw [h3]; exact a3
  · rw [h4]; exact a4
  · rw [h5]; exact a5
  · rw [h7]; exact a7
  · intro t ht
    obtain ⟨c, hc, t1, t2, t3, t4, t5, t6, t7⟩ := ct t ht
    have e1 : I' c = I c := h _ (by omega) (by omega) (by omega)
    have e2 : I' (c + 1) = I (c + 1) := h _ (by omega) (by omega) (by omega)
    refine ⟨c, hc, t1, t2, t3, t4, ?_, ?_, ?_⟩
    · rw [e1]; exact t5
    · rw [e1]; exact t6
    · rw [e2]; exact t7
section
variable {d r : Nat} {g : Nat → Nat} {S : Nat → Nat × Nat} {I : Nat → Nat → Int32} {R : Nat → Nat → Option Nat} {z : Nat × Nat} {Q : Option Value → HS → Prop}
theorem c26 {a l : Nat} (hs : Cs S I R r g) (ha : a < g 2) (hl : l < 6) : RM (d + 3) 26 [.ref r, .int (nI a), .int (nI l)] (S, I, R, z) Q = Q (some (.int (nI (sFreq g a l)))) (S, I, R, z) := by
  obtain ⟨hr, ⟨Sd_sr, Sd_s_r___1_, Sd_s_r___2_, Sd_s_r___3_, Sd_s_r___4_, Sd_s_r___5_, Sd_s_r___6_, Sd_s_r___7_, Sd_s_r___8_, Sd_s_r___9_, Sd_s_r___10_, Sd_rr_0, Sd_rr_1, Sd_rr_2, Sd_rr_4, Sd_rr_5, Sd_rr_12, Sd_rr_14, Sd_rr_15, Sd_rr_16, Sd_rr_17⟩, ok, ⟨n3, n6, n7, n8, n9, n10, n11, n13⟩, ⟨a1, a2, a3, a4, a5, a7⟩, ct⟩ := id hs
  have h1 := ok.1
  have h2 := ok.2.1
  have hp2 := pow_12 h1
  have hal : 2 ^ g 1 - 1 < 2147483648 := by omega
  have hh := sHav_lt ok (2 ^ g 1 - 1) l
  have hh2 : sHav g (2 ^ g 1 - 1) l < 2147483648 := by omega
  have hfs := (ok.2.2.2.2.2.2.2.1 a ha).2
  by_cases f : g (32 + 2 * a + 1) = l
  · simp (disch := omega) only [e26, w26_0, w26_1, w26_2, w26_3, w26_4, w26_7, w26_10, w26_13, w26_14, w26_17, w26_18, w26_19, w26_20, w26_23, w26_24, w26_27, w26_28, w26_29, Sd_sr, Sd_s_r___1_, Sd_s_r___2_, Sd_s_r___3_, Sd_s_r___4_, Sd_s_r___5_, Sd_s_r___6_, Sd_s_r___7_, Sd_s_r___8_, Sd_s_r___9_, Sd_s_r___10_, Sd_rr_0, Sd_rr_1, Sd_rr_2, Sd_rr_4, Sd_rr_5, Sd_rr_12, Sd_rr_14, Sd_rr_15, Sd_rr_16, Sd_rr_17, aPush_s, aPush_n, vrf_s, vrf_n, true_and, and_true, false_and, and_false, true_imp_iff, false_imp_iff, not_true_eq_false, not_false_eq_true, eq_self, true_or, or_true, and_self, if_true, if_false, n_lit, n_of, n_an, Nat.add_sub_cancel, nI_add, pk_mul, n_sub, n_ixT, n_cl, n_leT, n_leF, n_ltT, n_ltF, n_eqT, n_eqF, Nat.reduceAdd, Nat.reduceMul, Nat.reduceSub, Nat.reduceEqDiff, Nat.reduceLT, Nat.reduceLeDiff, Nat.mul_one, Nat.one_mul, Nat.add_zero, Nat.zero_add, n3, n6, n7, n8, n9, n10, n11, n13, c16 hs, c18 hs hal hl, c17 hs hh2, a5 a ha, f, sFreq, sIs]
  · simp (disch := omega) only [e26, w26_0, w26_1, w26_2, w26_3, w26_4, w26_7, w26_10, w26_13, w26_14, w26_17, w26_18, w26_19, w26_20, w26_23, w26_24, w26_27, w26_28, w26_29, Sd_sr, Sd_s_r___1_, Sd_s_r___2_, Sd_s_r___3_, Sd_s_r___4_, Sd_s_r___5_, Sd_s_r___6_, Sd_s_r___7_, Sd_s_r___8_, Sd_s_r___9_, Sd_s_r___10_, Sd_rr_0, Sd_rr_1, Sd_rr_2, Sd_rr_4, Sd_rr_5, Sd_rr_12, Sd_rr_14, Sd_rr_15, Sd_rr_16, Sd_rr_17, aPush_s, aPush_n, vrf_s, vrf_n, true_and, and_true, false_and, and_false, true_imp_iff, false_imp_iff, not_true_eq_false, not_false_eq_true, eq_self, true_or, or_true, and_self, if_true, if_false, n_lit, n_of, n_an, Nat.add_sub_cancel, nI_add, pk_mul, n_sub, n_ixT, n_cl, n_leT, n_leF, n_ltT, n_ltF, n_eqT, n_eqF, Nat.reduceAdd, Nat.reduceMul, Nat.reduceSub, Nat.reduceEqDiff, Nat.reduceLT, Nat.reduceLeDiff, Nat.mul_one, Nat.one_mul, Nat.add_zero, Nat.zero_add, n3, n6, n7, n8, n9, n10, n11, n13, c16 hs, c18 hs hal hl, c17 hs hh2, a5 a ha, f, sFreq, sIs]
theorem c25 {a l s : Nat} (hs : Cs S I R r g) (ha : a < g 2) (hl : l < 6) (hb : s < 2147483648) (hQ : ∀ J, Sc r I J → Q (some (.int (sPlain g a l s))) (S, J, R, z)) : RM (d + 3) 25 [.ref r, .int (nI a), .int (nI l), .int (nI s)] (S, I, R, z) Q := by
  obtain ⟨hr, ⟨Sd_sr, Sd_s_r___1_, Sd_s_r___2_, Sd_s_r___3_, Sd_s_r___4_, Sd_s_r___5_, Sd_s_r___6_, Sd_s_r___7_, Sd_s_r___8_, Sd_s_r___9_, Sd_s_r___10_, Sd_rr_0, Sd_rr_1, Sd_rr_2, Sd_rr_4, Sd_rr_5, Sd_rr_12, Sd_rr_14, Sd_rr_15, Sd_rr_16, Sd_rr_17⟩, ok, ⟨n3, n6, n7, n8, n9, n10, n11, n13⟩, ⟨a1, a2, a3, a4, a5, a7⟩, ct⟩ := id hs
  have h1 := ok.1
  have h2 := ok.2.1
  have h7 := ok.2.2.2.2.2.1
  have hh := sHav_lt ok s l
  have hh2 : sHav g s l < 2147483648 := by omega
  have hfs := (ok.2.2.2.2.2.2.2.1 a ha).2
  have c3 : (0 : Nat) < 3 := by decide
  have hq := hQ I (Sc.refl r I)
  unfold sPlain at hQ hq
  rcases e : sCt g 0 (g 7) with _ | t
  · rw [e] at hq
    dsimp only at hq
    by_cases f : g (32 + 2 * a + 1) = l
    · rw [if_pos f] at hq
      simp (disch := omega) only [e25, w25_0, w25_1, w25_4, w25_5, w25_6, w25_7, w25_10, w25_11, w25_14, w25_15, w25_17, w25_18, w25_19, w25_22, w25_22N, w25_24, w25_24N, w25_26, w25_26N, w25_29, w25_31, w25_34, w25_36, w25_39, w25_40, w25_41, w25_42, w25_43, w25_44, w25_47, w25_49, w25_49N, w25_51, w25_53, w25_56, w25_57, w25_59, w25_62, w25_64, w25_67, w25_68, w25_71, w25_72, w25_73, w25_76, w25_79, w25_81, w25_83, w25_84, w25_87, w25_90, Sd_sr, Sd_s_r___1_, Sd_s_r___2_, Sd_s_r___3_, Sd_s_r___4_, Sd_s_r___5_, Sd_s_r___6_, Sd_s_r___7_, Sd_s_r___8_, Sd_s_r___9_, Sd_s_r___10_, Sd_rr_0, Sd_rr_1, Sd_rr_2, Sd_rr_4, Sd_rr_5, Sd_rr_12, Sd_rr_14, Sd_rr_15, Sd_rr_16, Sd_rr_17, aPush_s, aPush_n, vrf_s, vrf_n, true_and, and_true, false_and, and_false, true_imp_iff, false_imp_iff, not_true_eq_false, not_false_eq_true, eq_self, true_or, or_true, and_self, if_true, if_false, n_lit, n_of, n_an, Nat.add_sub_cancel, nI_add, pk_mul, n_sub, n_ixT, n_cl, n_leT, n_leF, n_ltT, n_ltF, n_eqT, n_eqF, Nat.reduceAdd, Nat.reduceMul, Nat.reduceSub, Nat.reduceEqDiff, Nat.reduceLT, Nat.reduceLeDiff, Nat.mul_one, Nat.one_mul, Nat.add_zero, Nat.zero_add, n3, n6, n7, n8, n9, n10, n11, n13, a5 a ha, f, c39n hs c3 e]
      exact hq
    · rw [if_neg f] at hq
      simp (disch := omega) only [e25, w25_0, w25_1, w25_4, w25_5, w25_6, w25_7, w25_10, w25_11, w25_14, w25_15, w25_17, w25_18, w25_19, w25_22, w25_22N, w25_24, w25_24N, w25_26, w25_26N, w25_29, w25_31, w25_34, w25_36, w25_39, w25_40, w25_41, w25_42, w25_43, w25_44, w25_47, w25_49, w25_49N, w25_51, w25_53, w25_56, w25_57, w25_59, w25_62, w25_64, w25_67, w25_68, w25_71, w25_72, w25_73, w25_76, w25_79, w25_81, w25_83, w25_84, w25_87, w25_90, Sd_sr, Sd_s_r___1_, Sd_s_r___2_, Sd_s_r___3_, Sd_s_r___4_, Sd_s_r___5_, Sd_s_r___6_, Sd_s_r___7_, Sd_s_r___8_, Sd_s_r___9_, Sd_s_r___10_, Sd_rr_0, Sd_rr_1, Sd_rr_2, Sd_rr_4, Sd_rr_5, Sd_rr_12, Sd_rr_14, Sd_rr_15, Sd_rr_16, Sd_rr_17, aPush_s, aPush_n, vrf_s, vrf_n, true_and, and_true, false_and, and_false, true_imp_iff, false_imp_iff, not_true_eq_false, not_false_eq_true, eq_self, true_or, or_true, and_self, if_true, if_false, n_lit, n_of, n_an, Nat.add_sub_cancel, nI_add, pk_mul, n_sub, n_ixT, n_cl, n_leT, n_leF, n_ltT, n_ltF, n_eqT, n_eqF, Nat.reduceAdd, Nat.reduceMul, Nat.reduceSub, Nat.reduceEqDiff, Nat.reduceLT, Nat.reduceLeDiff, Nat.mul_one, Nat.one_mul, Nat.add_zero, Nat.zero_add, n3, n6, n7, n8, n9, n10, n11, n13, a5 a ha, f, c39n hs c3 e]
      exact hq
  · rw [e] at hQ
    dsimp only at hQ
    have ht := sCt_some e
    obtain ⟨c, hc, hT⟩ := ct t ht.1
    have hT1 := hT.1
    have c14 : ¬ c = 14 := by omega
    by_cases f : g (32 + 2 * a + 1) = l
    · simp (disch := omega) only [e25, w25_0, w25_1, w25_4, w25_5, w25_6, w25_7, w25_10, w25_11, w25_14, w25_15, w25_17, w25_18, w25_19, w25_22, w25_22N, w25_24, w25_24N, w25_26, w25_26N, w25_29, w25_31, w25_34, w25_36, w25_39, w25_40, w25_41, w25_42, w25_43, w25_44, w25_47, w25_49, w25_49N, w25_51, w25_53, w25_56, w25_57, w25_59, w25_62, w25_64, w25_67, w25_68, w25_71, w25_72, w25_73, w25_76, w25_79, w25_81, w25_83, w25_84, w25_87, w25_90, Sd_sr, Sd_s_r___1_, Sd_s_r___2_, Sd_s_r___3_, Sd_s_r___4_, Sd_s_r___5_, Sd_s_r___6_, Sd_s_r___7_, Sd_s_r___8_, Sd_s_r___9_, Sd_s_r___10_, Sd_rr_0, Sd_rr_1, Sd_rr_2, Sd_rr_4, Sd_rr_5, Sd_rr_12, Sd_rr_14, Sd_rr_15, Sd_rr_16, Sd_rr_17, aPush_s, aPush_n, vrf_s, vrf_n, true_and, and_true, false_and, and_false, true_imp_iff, false_imp_iff, not_true_eq_false, not_false_eq_true, eq_self, true_or, or_true, and_self, if_true, if_false, n_lit, n_of, n_an, Nat.add_sub_cancel, nI_add, pk_mul, n_sub, n_ixT, n_cl, n_leT, n_leF, n_ltT, n_ltF, n_eqT, n_eqF, Nat.reduceAdd, Nat.reduceMul, Nat.reduceSub, Nat.reduceEqDiff, Nat.reduceLT, Nat.reduceLeDiff, Nat.mul_one, Nat.one_mul, Nat.add_zero, Nat.zero_add, n3, n6, n7, n8, n9, n10, n11, n13, a5 a ha, f, c39s hs c3 e hc, c14, c18 hs hb hl, c250 hh, c17 hs hh2, hT.2.1]
      refine c67 hT ok ht.1 (by omega) (by assumption) (by omega) (by omega) ?_
      intro J hJ
      simp (disch := omega) only [w25_0, w25_1, w25_4, w25_5, w25_6, w25_7, w25_10, w25_11, w25_14, w25_15, w25_17, w25_18, w25_19, w25_22, w25_22N, w25_24, w25_24N, w25_26, w25_26N, w25_29, w25_31, w25_34, w25_36, w25_39, w25_40, w25_41, w25_42, w25_43, w25_44, w25_47, w25_49, w25_49N, w25_51, w25_53, w25_56, w25_57, w25_59, w25_62, w25_64, w25_67, w25_68, w25_71, w25_72, w25_73, w25_76, w25_79, w25_81, w25_83, w25_84, w25_87, w25_90, aPush_s, aPush_n, vrf_s, vrf_n, true_and, and_true, false_and, and_false, true_imp_iff, false_imp_iff, not_true_eq_false, not_false_eq_true, eq_self, true_or, or_true, and_self, if_true, if_false, n_lit, n_of, n_an, Nat.add_sub_cancel, nI_add, pk_mul, n_sub, n_ixT, n_cl, n_leT, n_leF, n_ltT, n_ltF, n_eqT, n_eqF, Nat.reduceAdd, Nat.reduceMul, Nat.reduceSub, Nat.reduceEqDiff, Nat.reduceLT, Nat.reduceLeDiff, Nat.mul_one, Nat.one_mul, Nat.add_zero, Nat.zero_add, c130 (show nI 0 ≤ nI 9999 by decide)]
      have := hQ J (fun p h1 _ _ => hJ p h1)
      rw [show sIs g a l = 1 from if_pos f] at this
      exact this
    · simp (disch := omega) only [e25, w25_0, w25_1, w25_4, w25_5, w25_6, w25_7, w25_10, w25_11, w25_14, w25_15, w25_17, w25_18, w25_19, w25_22, w25_22N, w25_24, w25_24N, w25_26, w25_26N, w25_29, w25_31, w25_34, w25_36, w25_39, w25_40, w25_41, w25_42, w25_43, w25_44, w25_47, w25_49, w25_49N, w25_51, w25_53, w25_56, w25_57, w25_59, w25_62, w25_64, w25_67, w25_68, w25_71, w25_72, w25_73, w25_76, w25_79, w25_81, w25_83, w25_84, w25_87, w25_90, Sd_sr, Sd_s_r___1_, Sd_s_r___2_, Sd_s_r___3_, Sd_s_r___4_, Sd_s_r___5_, Sd_s_r___6_, Sd_s_r___7_, Sd_s_r___8_, Sd_s_r___9_, Sd_s_r___10_, Sd_rr_0, Sd_rr_1, Sd_rr_2, Sd_rr_4, Sd_rr_5, Sd_rr_12, Sd_rr_14, Sd_rr_15, Sd_rr_16, Sd_rr_17, aPush_s, aPush_n, vrf_s, vrf_n, true_and, and_true, false_and, and_false, true_imp_iff, false_imp_iff, not_true_eq_false, not_false_eq_true, eq_self, true_or, or_true, and_self, if_true, if_false, n_lit, n_of, n_an, Nat.add_sub_cancel, nI_add, pk_mul, n_sub, n_ixT, n_cl, n_leT, n_leF, n_ltT, n_ltF, n_eqT, n_eqF, Nat.reduceAdd, Nat.reduceMul, Nat.reduceSub, Nat.reduceEqDiff, Nat.reduceLT, Nat.reduceLeDiff, Nat.mul_one, Nat.one_mul, Nat.add_zero, Nat.zero_add, n3, n6, n7, n8, n9, n10, n11, n13, a5 a ha, f, c39s hs c3 e hc, c14, c18 hs hb hl, c250 hh, c17 hs hh2, hT.2.1]
      refine c67 hT ok ht.1 (by omega) (by assumption) (by omega) (by omega) ?_
      intro J hJ
      simp (disch := omega) only [w25_0, w25_1, w25_4, w25_5, w25_6, w25_7, w25_10, w25_11, w25_14, w25_15, w25_17, w25_18, w25_19, w25_22, w25_22N, w25_24, w25_24N, w25_26, w25_26N, w25_29, w25_31, w25_34, w25_36, w25_39, w25_40, w25_41, w25_42, w25_43, w25_44, w25_47, w25_49, w25_49N, w25_51, w25_53, w25_56, w25_57, w25_59, w25_62, w25_64, w25_67, w25_68, w25_71, w25_72, w25_73, w25_76, w25_79, w25_81, w25_83, w25_84, w25_87, w25_90, aPush_s, aPush_n, vrf_s, vrf_n, true_and, and_true, false_and, and_false, true_imp_iff, false_imp_iff, not_true_eq_false, not_false_eq_true, eq_self, true_or, or_true, and_self, if_true, if_false, n_lit, n_of, n_an, Nat.add_sub_cancel, nI_add, pk_mul, n_sub, n_ixT, n_cl, n_leT, n_leF, n_ltT, n_ltF, n_eqT, n_eqF, Nat.reduceAdd, Nat.reduceMul, Nat.reduceSub, Nat.reduceEqDiff, Nat.reduceLT, Nat.reduceLeDiff, Nat.mul_one, Nat.one_mul, Nat.add_zero, Nat.zero_add, c130 (show nI 0 ≤ nI 9999 by decide)]
      have := hQ J (fun p h1 _ _ => hJ p h1)
      rw [show sIs g a l = 0 from if_neg f] at this
      exact this
end
