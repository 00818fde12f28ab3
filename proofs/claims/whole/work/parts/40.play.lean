theorem Mr.sg {S : Nat → Nat × Nat} {I J : Nat → Nat → Int32} {R : Nat → Nat → Option Nat} {g : Nat → Nat} (h : Mr S I R) (hs : Sg I g J) (ok : Ok g) : Mr S J R := by
  refine ⟨h.1, fun p hp => ?_, ?_⟩
  · rw [hs.2 1 (by decide) (by decide) (by decide)]
    exact h.2.1 p hp
  · rw [hs.1]
    exact ok
theorem Sg.si {I J K : Nat → Nat → Int32} {g : Nat → Nat} (h : Sg I g J) (h2 : Si J K) : Sg I g K := ⟨h2.G.trans h.1, fun q a b c => (h2 q b c).trans (h.2 q a b c)⟩
theorem Sg.trans {I J K : Nat → Nat → Int32} {g g' : Nat → Nat} (h : Sg I g J) (h2 : Sg J g' K) : Sg I g' K := ⟨h2.1, fun q a b c => (h2.2 q a b c).trans (h.2 q a b c)⟩
theorem Si.sg {I J K : Nat → Nat → Int32} {g : Nat → Nat} (h : Si I J) (h2 : Sg J g K) : Sg I g K := ⟨h2.1, fun q a b c => (h2.2 q a b c).trans (h q b c)⟩
section
variable {d : Nat} {S : Nat → Nat × Nat} {I : Nat → Nat → Int32} {R : Nat → Nat → Option Nat} {z : Nat × Nat} {Q : Option Value → HS → Prop}
theorem sHad_F {g : Nat → Nat} (ok : Ok g) (h3 : g 3 < g 1) (h : sHad g = false) : ¬ sLs g (g 3) &&& g 4 = sLs g (g 3) := by
  intro e
  have h1 := ok.1
  have : (g 3 != 4294967295) = true := by
    simp only [bne_iff_ne, ne_eq]
    omega
  unfold sHad at h
  rw [this, e, beq_self_eq_true] at h
  cases h
theorem l180 {a : Nat} : ∀ (f : Nat) (I : Nat → Nat → Int32) (v2 : Value), Mr S I R → a < G I 2 → 6 ≤ f + sPop 6 (G I 4) → (∀ J, Sg I (sPlay a f (G I)) J → Q none (S, J, R, z)) → RB (d + 6) 180 0 [.ref 81, .int (nI a), v2] [] (S, I, R, z) Q
  | 0, I, v2, hm, ha, hp, hQ => by
    have hq := hQ I ⟨rfl, fun _ _ _ _ => rfl⟩
    obtain ⟨⟨Md_s1, Md_s81, Md_s82, Md_s83, Md_s84, Md_s85, Md_s86, Md_s87, Md_s88, Md_s89, Md_s90, Md_s91, Md_s92, Md_s93, Md_s94, Md_s95, Md_s96, Md_s97, Md_s98, Md_s99, Md_s100, Md_s101, Md_s102, Md_r81_0, Md_r81_1, Md_r81_2, Md_r81_4, Md_r81_5, Md_r81_13, Md_r81_14, Md_r81_15, Md_r81_18, Md_r81_20, Md_r81_21, Md_r81_22, Md_r81_23, Md_r81_24, Md_r81_25, Md_r81_26, Md_r81_27, Md_r81_28, Md_r81_29, Md_r81_30, Md_r81_31⟩, hc, ok⟩ := id hm
    have h1 := ok.1
    have h4 := ok.2.2.2.1
    rw [w180_0]
    by_cases e : G I 3 = 4294967295
    · simp (disch := omega) only [w180_1, w180_4, w180_5, w180_6, w180_9, w180_10, w180_13, w180_16, w180_17, w180_20, w180_23, w180_24, w180_25, w180_26, w180_27, w180_30, w180_31, w180_32, w180_33, w180_36, w180_39, w180_42, w180_43, w180_46, Md_s1, Md_s81, Md_s82, Md_s83, Md_s84, Md_s85, Md_s86, Md_s87, Md_s88, Md_s89, Md_s90, Md_s91, Md_s92, Md_s93, Md_s94, Md_s95, Md_s96, Md_s97, Md_s98, Md_s99, Md_s100, Md_s101, Md_s102, Md_r81_0, Md_r81_1, Md_r81_2, Md_r81_4, Md_r81_5, Md_r81_13, Md_r81_14, Md_r81_15, Md_r81_18, Md_r81_20, Md_r81_21, Md_r81_22, Md_r81_23, Md_r81_24, Md_r81_25, Md_r81_26, Md_r81_27, Md_r81_28, Md_r81_29, Md_r81_30, Md_r81_31, aPush_s, aPush_n, vrf_s, vrf_n, true_and, and_true, false_and, and_false, true_imp_iff, false_imp_iff, not_true_eq_false, not_false_eq_true, eq_self, true_or, or_true, and_self, if_true, if_false, n_lit, n_of, n_an, Nat.add_sub_cancel, nI_add, pk_mul, n_sub, n_ixT, n_cl, n_leT, n_leF, n_ltT, n_ltF, n_eqT, n_eqF, Nat.reduceAdd, Nat.reduceMul, Nat.reduceSub, Nat.reduceEqDiff, Nat.reduceLT, Nat.reduceLeDiff, Nat.mul_one, Nat.one_mul, Nat.add_zero, Nat.zero_add, G_eq I, e, n_neg]
      exact hq
    · have h3 : G I 3 < G I 1 := by rcases ok.2.2.1 with q | q; exact absurd q.1 e; exact q
      have hh : sHad (G I) = true := by
        unfold sHad
        have q := n_pop6 _ h4 (by omega)
        rw [q, n_in63 _ (sLs_lt _ _), beq_self_eq_true]
        simp [e]
      simp (disch := omega) only [w180_1, w180_4, w180_5, w180_6, w180_9, w180_10, w180_13, w180_16, w180_17, w180_20, w180_23, w180_24, w180_25, w180_26, w180_27, w180_30, w180_31, w180_32, w180_33, w180_36, w180_39, w180_42, w180_43, w180_46, Md_s1, Md_s81, Md_s82, Md_s83, Md_s84, Md_s85, Md_s86, Md_s87, Md_s88, Md_s89, Md_s90, Md_s91, Md_s92, Md_s93, Md_s94, Md_s95, Md_s96, Md_s97, Md_s98, Md_s99, Md_s100, Md_s101, Md_s102, Md_r81_0, Md_r81_1, Md_r81_2, Md_r81_4, Md_r81_5, Md_r81_13, Md_r81_14, Md_r81_15, Md_r81_18, Md_r81_20, Md_r81_21, Md_r81_22, Md_r81_23, Md_r81_24, Md_r81_25, Md_r81_26, Md_r81_27, Md_r81_28, Md_r81_29, Md_r81_30, Md_r81_31, aPush_s, aPush_n, vrf_s, vrf_n, true_and, and_true, false_and, and_false, true_imp_iff, false_imp_iff, not_true_eq_false, not_false_eq_true, eq_self, true_or, or_true, and_self, if_true, if_false, n_lit, n_of, n_an, Nat.add_sub_cancel, nI_add, pk_mul, n_sub, n_ixT, n_cl, n_leT, n_leF, n_ltT, n_ltF, n_eqT, n_eqF, Nat.reduceAdd, Nat.reduceMul, Nat.reduceSub, Nat.reduceEqDiff, Nat.reduceLT, Nat.reduceLeDiff, Nat.mul_one, Nat.one_mul, Nat.add_zero, Nat.zero_add, G_eq I, n_big, c176 hm, hh, b2n_t]
      exact hq
  | f + 1, I, v2, hm, ha, hp, hQ => by
    have ih := fun J => l180 (a := a) f J
    have hq := hQ I
    obtain ⟨⟨Md_s1, Md_s81, Md_s82, Md_s83, Md_s84, Md_s85, Md_s86, Md_s87, Md_s88, Md_s89, Md_s90, Md_s91, Md_s92, Md_s93, Md_s94, Md_s95, Md_s96, Md_s97, Md_s98, Md_s99, Md_s100, Md_s101, Md_s102, Md_r81_0, Md_r81_1, Md_r81_2, Md_r81_4, Md_r81_5, Md_r81_13, Md_r81_14, Md_r81_15, Md_r81_18, Md_r81_20, Md_r81_21, Md_r81_22, Md_r81_23, Md_r81_24, Md_r81_25, Md_r81_26, Md_r81_27, Md_r81_28, Md_r81_29, Md_r81_30, Md_r81_31⟩, hc, ok⟩ := id hm
    have h1 := ok.1
    have h4 := ok.2.2.2.1
    unfold sPlay at hQ hq
    rw [w180_0]
    by_cases e : G I 3 = 4294967295
    · rw [if_pos (Or.inl e)] at hq
      simp (disch := omega) only [w180_1, w180_4, w180_5, w180_6, w180_9, w180_10, w180_13, w180_16, w180_17, w180_20, w180_23, w180_24, w180_25, w180_26, w180_27, w180_30, w180_31, w180_32, w180_33, w180_36, w180_39, w180_42, w180_43, w180_46, Md_s1, Md_s81, Md_s82, Md_s83, Md_s84, Md_s85, Md_s86, Md_s87, Md_s88, Md_s89, Md_s90, Md_s91, Md_s92, Md_s93, Md_s94, Md_s95, Md_s96, Md_s97, Md_s98, Md_s99, Md_s100, Md_s101, Md_s102, Md_r81_0, Md_r81_1, Md_r81_2, Md_r81_4, Md_r81_5, Md_r81_13, Md_r81_14, Md_r81_15, Md_r81_18, Md_r81_20, Md_r81_21, Md_r81_22, Md_r81_23, Md_r81_24, Md_r81_25, Md_r81_26, Md_r81_27, Md_r81_28, Md_r81_29, Md_r81_30, Md_r81_31, aPush_s, aPush_n, vrf_s, vrf_n, true_and, and_true, false_and, and_false, true_imp_iff, false_imp_iff, not_true_eq_false, not_false_eq_true, eq_self, true_or, or_true, and_self, if_true, if_false, n_lit, n_of, n_an, Nat.add_sub_cancel, nI_add, pk_mul, n_sub, n_ixT, n_cl, n_leT, n_leF, n_ltT, n_ltF, n_eqT, n_eqF, Nat.reduceAdd, Nat.reduceMul, Nat.reduceSub, Nat.reduceEqDiff, Nat.reduceLT, Nat.reduceLeDiff, Nat.mul_one, Nat.one_mul, Nat.add_zero, Nat.zero_add, G_eq I, e, n_neg]
      exact hq ⟨rfl, fun _ _ _ _ => rfl⟩
    · have h3 : G I 3 < G I 1 := by rcases ok.2.2.1 with q | q; exact absurd q.1 e; exact q
      rcases f1 : sHad (G I) with _ | _
      · rcases f2 : sHung (G I) with _ | _
        · simp (disch := omega) only [w180_1, w180_4, w180_5, w180_6, w180_9, w180_10, w180_13, w180_16, w180_17, w180_20, w180_23, w180_24, w180_25, w180_26, w180_27, w180_30, w180_31, w180_32, w180_33, w180_36, w180_39, w180_42, w180_43, w180_46, Md_s1, Md_s81, Md_s82, Md_s83, Md_s84, Md_s85, Md_s86, Md_s87, Md_s88, Md_s89, Md_s90, Md_s91, Md_s92, Md_s93, Md_s94, Md_s95, Md_s96, Md_s97, Md_s98, Md_s99, Md_s100, Md_s101, Md_s102, Md_r81_0, Md_r81_1, Md_r81_2, Md_r81_4, Md_r81_5, Md_r81_13, Md_r81_14, Md_r81_15, Md_r81_18, Md_r81_20, Md_r81_21, Md_r81_22, Md_r81_23, Md_r81_24, Md_r81_25, Md_r81_26, Md_r81_27, Md_r81_28, Md_r81_29, Md_r81_30, Md_r81_31, aPush_s, aPush_n, vrf_s, vrf_n, true_and, and_true, false_and, and_false, true_imp_iff, false_imp_iff, not_true_eq_false, not_false_eq_true, eq_self, true_or, or_true, and_self, if_true, if_false, n_lit, n_of, n_an, Nat.add_sub_cancel, nI_add, pk_mul, n_sub, n_ixT, n_cl, n_leT, n_leF, n_ltT, n_ltF, n_eqT, n_eqF, Nat.reduceAdd, Nat.reduceMul, Nat.reduceSub, Nat.reduceEqDiff, Nat.reduceLT, Nat.reduceLeDiff, Nat.mul_one, Nat.one_mul, Nat.add_zero, Nat.zero_add, G_eq I, n_big, c176 hm, c177 hm, c149 hm, f1, f2, b2n_f]
          have hn := sNow_lt ok
          refine c163 hm ha h4 (by omega) ?_
          intro J hJ
          rcases q : sNxt (G I) a (G I 4) (sNow (G I)) 6 with _ | ⟨l, m⟩
          · exact absurd (show sLs (G I) (G I 3) &&& G I 4 = _ by rw [n_all _ h4 (sNxt_none q)]; exact n_in63 _ (sLs_lt _ _)) (sHad_F ok h3 f1)
          · obtain ⟨hl, hb⟩ := sNxt_some q
            dsimp only at hl hb
            have hG := hJ.G
            simp (disch := omega) only [w180_1, w180_4, w180_5, w180_6, w180_9, w180_10, w180_13, w180_16, w180_17, w180_20, w180_23, w180_24, w180_25, w180_26, w180_27, w180_30, w180_31, w180_32, w180_33, w180_36, w180_39, w180_42, w180_43, w180_46, Md_s1, Md_s81, Md_s82, Md_s83, Md_s84, Md_s85, Md_s86, Md_s87, Md_s88, Md_s89, Md_s90, Md_s91, Md_s92, Md_s93, Md_s94, Md_s95, Md_s96, Md_s97, Md_s98, Md_s99, Md_s100, Md_s101, Md_s102, Md_r81_0, Md_r81_1, Md_r81_2, Md_r81_4, Md_r81_5, Md_r81_13, Md_r81_14, Md_r81_15, Md_r81_18, Md_r81_20, Md_r81_21, Md_r81_22, Md_r81_23, Md_r81_24, Md_r81_25, Md_r81_26, Md_r81_27, Md_r81_28, Md_r81_29, Md_r81_30, Md_r81_31, aPush_s, aPush_n, vrf_s, vrf_n, true_and, and_true, false_and, and_false, true_imp_iff, false_imp_iff, not_true_eq_false, not_false_eq_true, eq_self, true_or, or_true, and_self, if_true, if_false, n_lit, n_of, n_an, Nat.add_sub_cancel, nI_add, pk_mul, n_sub, n_ixT, n_cl, n_leT, n_leF, n_ltT, n_ltF, n_eqT, n_eqF, Nat.reduceAdd, Nat.reduceMul, Nat.reduceSub, Nat.reduceEqDiff, Nat.reduceLT, Nat.reduceLeDiff, Nat.mul_one, Nat.one_mul, Nat.add_zero, Nat.zero_add, nB]
            refine c178 (hm.si hJ) (by rw [hG]; exact h3) hl ?_
            intro K hK
            rw [hG] at hK
            have okA := ok.ask h3 hl
            have hS := hJ.sg hK
            have e4 : sAsk (G I) l 4 = G I 4 ||| 2 ^ l := (gu_n (by decide)).trans gu_e
            have e2 : sAsk (G I) l 2 = G I 2 := (gu_n (by decide)).trans (gu_n (by decide))
            have hp2 := n_add1 _ h4 l hl hb
            simp (disch := omega) only [w180_1, w180_4, w180_5, w180_6, w180_9, w180_10, w180_13, w180_16, w180_17, w180_20, w180_23, w180_24, w180_25, w180_26, w180_27, w180_30, w180_31, w180_32, w180_33, w180_36, w180_39, w180_42, w180_43, w180_46, Md_s1, Md_s81, Md_s82, Md_s83, Md_s84, Md_s85, Md_s86, Md_s87, Md_s88, Md_s89, Md_s90, Md_s91, Md_s92, Md_s93, Md_s94, Md_s95, Md_s96, Md_s97, Md_s98, Md_s99, Md_s100, Md_s101, Md_s102, Md_r81_0, Md_r81_1, Md_r81_2, Md_r81_4, Md_r81_5, Md_r81_13, Md_r81_14, Md_r81_15, Md_r81_18, Md_r81_20, Md_r81_21, Md_r81_22, Md_r81_23, Md_r81_24, Md_r81_25, Md_r81_26, Md_r81_27, Md_r81_28, Md_r81_29, Md_r81_30, Md_r81_31, aPush_s, aPush_n, vrf_s, vrf_n, true_and, and_true, false_and, and_false, true_imp_iff, false_imp_iff, not_true_eq_false, not_false_eq_true, eq_self, true_or, or_true, and_self, if_true, if_false, n_lit, n_of, n_an, Nat.add_sub_cancel, nI_add, pk_mul, n_sub, n_ixT, n_cl, n_leT, n_leF, n_ltT, n_ltF, n_eqT, n_eqF, Nat.reduceAdd, Nat.reduceMul, Nat.reduceSub, Nat.reduceEqDiff, Nat.reduceLT, Nat.reduceLeDiff, Nat.mul_one, Nat.one_mul, Nat.add_zero, Nat.zero_add]
            refine ih K _ (hm.sg hS okA) (by rw [hS.1, e2]; exact ha) (by rw [hS.1, e4]; omega) ?_
            intro L hL
            rw [hS.1] at hL
            refine hQ L ?_
            rw [if_neg (by rw [f1, f2]; simp [e]), q]
            exact hS.trans hL
        · rw [if_pos (Or.inr (Or.inr f2))] at hq
          simp (disch := omega) only [w180_1, w180_4, w180_5, w180_6, w180_9, w180_10, w180_13, w180_16, w180_17, w180_20, w180_23, w180_24, w180_25, w180_26, w180_27, w180_30, w180_31, w180_32, w180_33, w180_36, w180_39, w180_42, w180_43, w180_46, Md_s1, Md_s81, Md_s82, Md_s83, Md_s84, Md_s85, Md_s86, Md_s87, Md_s88, Md_s89, Md_s90, Md_s91, Md_s92, Md_s93, Md_s94, Md_s95, Md_s96, Md_s97, Md_s98, Md_s99, Md_s100, Md_s101, Md_s102, Md_r81_0, Md_r81_1, Md_r81_2, Md_r81_4, Md_r81_5, Md_r81_13, Md_r81_14, Md_r81_15, Md_r81_18, Md_r81_20, Md_r81_21, Md_r81_22, Md_r81_23, Md_r81_24, Md_r81_25, Md_r81_26, Md_r81_27, Md_r81_28, Md_r81_29, Md_r81_30, Md_r81_31, aPush_s, aPush_n, vrf_s, vrf_n, true_and, and_true, false_and, and_false, true_imp_iff, false_imp_iff, not_true_eq_false, not_false_eq_true, eq_self, true_or, or_true, and_self, if_true, if_false, n_lit, n_of, n_an, Nat.add_sub_cancel, nI_add, pk_mul, n_sub, n_ixT, n_cl, n_leT, n_leF, n_ltT, n_ltF, n_eqT, n_eqF, Nat.reduceAdd, Nat.reduceMul, Nat.reduceSub, Nat.reduceEqDiff, Nat.reduceLT, Nat.reduceLeDiff, Nat.mul_one, Nat.one_mul, Nat.add_zero, Nat.zero_add, G_eq I, n_big, c176 hm, c177 hm, f1, f2, b2n_f, b2n_t]
          exact hq ⟨rfl, fun _ _ _ _ => rfl⟩
      · rw [if_pos (Or.inr (Or.inl f1))] at hq
        simp (disch := omega) only [w180_1, w180_4, w180_5, w180_6, w180_9, w180_10, w180_13, w180_16, w180_17, w180_20, w180_23, w180_24, w180_25, w180_26, w180_27, w180_30, w180_31, w180_32, w180_33, w180_36, w180_39, w180_42, w180_43, w180_46, Md_s1, Md_s81, Md_s82, Md_s83, Md_s84, Md_s85, Md_s86, Md_s87, Md_s88, Md_s89, Md_s90, Md_s91, Md_s92, Md_s93, Md_s94, Md_s95, Md_s96, Md_s97, Md_s98, Md_s99, Md_s100, Md_s101, Md_s102, Md_r81_0, Md_r81_1, Md_r81_2, Md_r81_4, Md_r81_5, Md_r81_13, Md_r81_14, Md_r81_15, Md_r81_18, Md_r81_20, Md_r81_21, Md_r81_22, Md_r81_23, Md_r81_24, Md_r81_25, Md_r81_26, Md_r81_27, Md_r81_28, Md_r81_29, Md_r81_30, Md_r81_31, aPush_s, aPush_n, vrf_s, vrf_n, true_and, and_true, false_and, and_false, true_imp_iff, false_imp_iff, not_true_eq_false, not_false_eq_true, eq_self, true_or, or_true, and_self, if_true, if_false, n_lit, n_of, n_an, Nat.add_sub_cancel, nI_add, pk_mul, n_sub, n_ixT, n_cl, n_leT, n_leF, n_ltT, n_ltF, n_eqT, n_eqF, Nat.reduceAdd, Nat.reduceMul, Nat.reduceSub, Nat.reduceEqDiff, Nat.reduceLT, Nat.reduceLeDiff, Nat.mul_one, Nat.one_mul, Nat.add_zero, Nat.zero_add, G_eq I, n_big, c176 hm, f1, b2n_t]
        exact hq ⟨rfl, fun _ _ _ _ => rfl⟩
end
