section
variable {d r : Nat} {g : Nat → Nat} {S : Nat → Nat × Nat} {I : Nat → Nat → Int32} {R : Nat → Nat → Option Nat} {z : Nat × Nat} {Q : Option Value → HS → Prop}
theorem Ok.ask (ok : Ok g) (h3 : g 3 < g 1) {l : Nat} (hl : l < 6) : Ok (sAsk g l) := by
  have e : ∀ i, i ≠ 4 → i ≠ 5 → sAsk g l i = g i := fun i h4 h5 => (gu_n h5).trans (gu_n h4)
  obtain ⟨o1, o2, o3, o4, o5, o6, o7, o8, o9⟩ := ok
  refine ⟨?_, ?_, ?_, ?_, ?_, ?_, ?_, ?_, ?_⟩
  · rw [e 1 (by decide) (by decide)]; exact o1
  · rw [e 2 (by decide) (by decide)]; exact o2
  · rw [e 3 (by decide) (by decide), e 1 (by decide) (by decide)]; exact Or.inr h3
  · rw [show sAsk g l 4 = g 4 ||| 2 ^ l from (gu_n (by decide)).trans gu_e]
    exact n_or64 o4 hl
  · rw [e 6 (by decide) (by decide)]; exact o5
  · rw [e 7 (by decide) (by decide)]; exact o6
  · intro w hw
    rw [e 1 (by decide) (by decide)] at hw
    rw [e _ (by omega) (by omega), e _ (by omega) (by omega)]
    exact o7 w hw
  · intro a ha
    rw [e 2 (by decide) (by decide)] at ha
    rw [e _ (by omega) (by omega), e _ (by omega) (by omega)]
    exact o8 a ha
  · intro t ht
    rw [e 7 (by decide) (by decide)] at ht
    have h := o9 t ht
    rw [e _ (by omega) (by omega)]
    refine ⟨h.1, ?_⟩
    have e1 : sCode (sAsk g l) t = sCode g t := by
      funext k
      unfold sCode
      rw [e _ (by omega) (by omega)]
    have e2 : sLen (sAsk g l) t = sLen g t := by
      unfold sLen
      rw [e _ (by omega) (by omega)]
    have e3 : sKey (sAsk g l) t = sKey g t := by
      unfold sKey
      rw [e _ (by omega) (by omega)]
    rw [e1, e2, e3]
    exact h.2
theorem c178 {l : Nat} (hm : Mr S I R) (h3 : G I 3 < G I 1) (hl : l < 6) (hQ : ∀ J, Sg I (sAsk (G I) l) J → Q (some (.int (nI (sPl (G I) (G I 3) l)))) (S, J, R, z)) : RM (d + 3) 178 [.ref 81, .int (nI l)] (S, I, R, z) Q := by
  obtain ⟨⟨Md_s1, Md_s81, Md_s82, Md_s83, Md_s84, Md_s85, Md_s86, Md_s87, Md_s88, Md_s89, Md_s90, Md_s91, Md_s92, Md_s93, Md_s94, Md_s95, Md_s96, Md_s97, Md_s98, Md_s99, Md_s100, Md_s101, Md_s102, Md_r81_0, Md_r81_1, Md_r81_2, Md_r81_4, Md_r81_5, Md_r81_13, Md_r81_14, Md_r81_15, Md_r81_18, Md_r81_20, Md_r81_21, Md_r81_22, Md_r81_23, Md_r81_24, Md_r81_25, Md_r81_26, Md_r81_27, Md_r81_28, Md_r81_29, Md_r81_30, Md_r81_31⟩, hc, ok⟩ := id hm
  have h1 := ok.1
  have h4 := ok.2.2.2.1
  have hp := sPl_lt (G I) (G I 3) l
  have ho := n_or64 h4 hl
  have hu : uN (nI (G I 4 ||| 2 ^ l)) = G I 4 ||| 2 ^ l := uN_nI (by omega)
  by_cases e : sPl (G I) (G I 3) l = 0
  · simp (disch := omega) only [e178, w178_0, w178_1, w178_2, w178_5, w178_6, w178_7, w178_8, w178_11, w178_12, w178_13, w178_16, w178_17, w178_18, w178_19, w178_20, w178_21, w178_22, w178_23, w178_24, w178_25, w178_28, w178_29, w178_30, w178_31, w178_32, w178_35, w178_36, w178_39, w178_40, w178_41, w178_42, w178_43, Md_s1, Md_s81, Md_s82, Md_s83, Md_s84, Md_s85, Md_s86, Md_s87, Md_s88, Md_s89, Md_s90, Md_s91, Md_s92, Md_s93, Md_s94, Md_s95, Md_s96, Md_s97, Md_s98, Md_s99, Md_s100, Md_s101, Md_s102, Md_r81_0, Md_r81_1, Md_r81_2, Md_r81_4, Md_r81_5, Md_r81_13, Md_r81_14, Md_r81_15, Md_r81_18, Md_r81_20, Md_r81_21, Md_r81_22, Md_r81_23, Md_r81_24, Md_r81_25, Md_r81_26, Md_r81_27, Md_r81_28, Md_r81_29, Md_r81_30, Md_r81_31, aPush_s, aPush_n, vrf_s, vrf_n, true_and, and_true, false_and, and_false, true_imp_iff, false_imp_iff, not_true_eq_false, not_false_eq_true, eq_self, true_or, or_true, and_self, if_true, if_false, n_lit, n_of, n_an, Nat.add_sub_cancel, nI_add, pk_mul, n_sub, n_ixT, n_cl, n_leT, n_leF, n_ltT, n_ltF, n_eqT, n_eqF, Nat.reduceAdd, Nat.reduceMul, Nat.reduceSub, Nat.reduceEqDiff, Nat.reduceLT, Nat.reduceLeDiff, Nat.mul_one, Nat.one_mul, Nat.add_zero, Nat.zero_add, G_eq I, c146 hm h3 hl, aW_i, n_shl, n_or, e]
    rw [← e]
    refine hQ _ ⟨?_, fun q a _ _ => (aW_o a).trans (aW_o a)⟩
    rw [G_w82, G_w82, hu]
    unfold sAsk
    rw [if_pos e]
  · simp (disch := omega) only [e178, w178_0, w178_1, w178_2, w178_5, w178_6, w178_7, w178_8, w178_11, w178_12, w178_13, w178_16, w178_17, w178_18, w178_19, w178_20, w178_21, w178_22, w178_23, w178_24, w178_25, w178_28, w178_29, w178_30, w178_31, w178_32, w178_35, w178_36, w178_39, w178_40, w178_41, w178_42, w178_43, Md_s1, Md_s81, Md_s82, Md_s83, Md_s84, Md_s85, Md_s86, Md_s87, Md_s88, Md_s89, Md_s90, Md_s91, Md_s92, Md_s93, Md_s94, Md_s95, Md_s96, Md_s97, Md_s98, Md_s99, Md_s100, Md_s101, Md_s102, Md_r81_0, Md_r81_1, Md_r81_2, Md_r81_4, Md_r81_5, Md_r81_13, Md_r81_14, Md_r81_15, Md_r81_18, Md_r81_20, Md_r81_21, Md_r81_22, Md_r81_23, Md_r81_24, Md_r81_25, Md_r81_26, Md_r81_27, Md_r81_28, Md_r81_29, Md_r81_30, Md_r81_31, aPush_s, aPush_n, vrf_s, vrf_n, true_and, and_true, false_and, and_false, true_imp_iff, false_imp_iff, not_true_eq_false, not_false_eq_true, eq_self, true_or, or_true, and_self, if_true, if_false, n_lit, n_of, n_an, Nat.add_sub_cancel, nI_add, pk_mul, n_sub, n_ixT, n_cl, n_leT, n_leF, n_ltT, n_ltF, n_eqT, n_eqF, Nat.reduceAdd, Nat.reduceMul, Nat.reduceSub, Nat.reduceEqDiff, Nat.reduceLT, Nat.reduceLeDiff, Nat.mul_one, Nat.one_mul, Nat.add_zero, Nat.zero_add, G_eq I, c146 hm h3 hl, aW_i, n_shl, n_or, e]
    refine hQ _ ⟨?_, fun q a _ _ => (aW_o a).trans (aW_o a)⟩
    rw [G_w82, G_w82, hu]
    unfold sAsk
    rw [if_neg e, Nat.add_zero]
end
