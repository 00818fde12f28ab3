/-! TEXT: the reference's next word -/
section
variable {d n k p q a b o f l : Nat} {T : Nat → Nat} {t : Tok} {S : Nat → Nat × Nat} {I J K : Nat → Nat → Int32} {R : Nat → Nat → Option Nat} {z : Nat × Nat} {x y : Int32} {Q : Option Value → HS → Prop} {l1 l2 : Value}
theorem l207c (hm : Md S R) : ∀ (f j : Nat) (I : Nat → Nat → Int32), f = n - (p + j) → p + j ≤ n → Tq I T n → I 81 8 = nI p → I 81 7 = nI (p + j) → (j ≤ 4 → I 81 10 = nI (tNum T p j)) → (∀ i, i < j → 48 ≤ T (p + i) ∧ T (p + i) ≤ 57) → (∀ J q, q = tRn T n 2 (n - (p + j)) (p + j) → J 81 7 = nI q → (q - p ≤ 4 → J 81 10 = nI (tNum T p (q - p))) → F81 I J → (∀ i, i ≠ 7 → i ≠ 10 → J 81 i = I 81 i) → RB (d + 2) 207 238 [.ref 81, l1] [] (S, J, R, z) Q) → RB (d + 2) 207 170 [.ref 81, l1] [] (S, I, R, z) Q := by
  obtain ⟨Md_s1, Md_s81, Md_s82, Md_s83, Md_s84, Md_s85, Md_s86, Md_s87, Md_s88, Md_s89, Md_s90, Md_s91, Md_s92, Md_s93, Md_s94, Md_s95, Md_s96, Md_s97, Md_s98, Md_s99, Md_s100, Md_s101, Md_s102, Md_r81_0, Md_r81_1, Md_r81_2, Md_r81_4, Md_r81_5, Md_r81_13, Md_r81_14, Md_r81_15, Md_r81_18, Md_r81_20, Md_r81_21, Md_r81_22, Md_r81_23, Md_r81_24, Md_r81_25, Md_r81_26, Md_r81_27, Md_r81_28, Md_r81_29, Md_r81_30, Md_r81_31⟩ := id hm
  intro f
  induction f with
  | zero =>
    intro j I hf hp tq i8 i7 i10 hd hQ
    obtain ⟨n96, i6, ib, hb⟩ := id tq
    have e : ¬ tSo T n (p + j) = 2 := fun q => by have := tSo_n (T := T) (n := n) (p := p + j) (by omega); omega
    rw [w207_170]
    simp (disch := omega) only [w207_171, w207_172, w207_175, w207_178, w207_181, w207_182, w207_183, w207_186, w207_187, w207_190, w207_191, w207_192, w207_195, w207_197, w207_198, w207_201, w207_202, w207_203, w207_206, w207_207, w207_210, w207_211, w207_212, w207_214, w207_215, w207_218, w207_219, w207_222, w207_225, w207_226, w207_227, w207_230, w207_231, w207_232, w207_235, Md_s1, Md_s81, Md_s82, Md_s83, Md_s84, Md_s85, Md_s86, Md_s87, Md_s88, Md_s89, Md_s90, Md_s91, Md_s92, Md_s93, Md_s94, Md_s95, Md_s96, Md_s97, Md_s98, Md_s99, Md_s100, Md_s101, Md_s102, Md_r81_0, Md_r81_1, Md_r81_2, Md_r81_4, Md_r81_5, Md_r81_13, Md_r81_14, Md_r81_15, Md_r81_18, Md_r81_20, Md_r81_21, Md_r81_22, Md_r81_23, Md_r81_24, Md_r81_25, Md_r81_26, Md_r81_27, Md_r81_28, Md_r81_29, Md_r81_30, Md_r81_31, aPush_s, aPush_n, vrf_s, vrf_n, true_and, and_true, false_and, and_false, true_imp_iff, false_imp_iff, not_true_eq_false, not_false_eq_true, eq_self, true_or, or_true, and_self, if_true, if_false, n_lit, n_of, n_an, Nat.add_sub_cancel, nI_add, pk_mul, n_sub, n_ixT, n_cl, n_leT, n_leF, n_ltT, n_ltF, n_eqT, n_eqF, Nat.reduceAdd, Nat.reduceMul, Nat.reduceSub, Nat.reduceEqDiff, Nat.reduceLT, Nat.reduceLeDiff, Nat.mul_one, Nat.one_mul, Nat.add_zero, Nat.zero_add, le_T, nz0, nz1, i7, c206 hm tq (show p + j ≤ 96 by omega), decide_eq_false e, b2n_f]
    refine hQ I (p + j) (by rw [tRn_e (fun q => e q.2)]) i7 (fun h => ?_) F81.rf (fun _ _ _ => rfl)
    rw [Nat.add_sub_cancel_left] at h ⊢
    exact i10 h
  | succ f ih =>
    intro j I hf hp tq i8 i7 i10 hd hQ
    obtain ⟨n96, i6, ib, hb⟩ := id tq
    rw [w207_170]
    by_cases e : tSo T n (p + j) = 2
    · have hj2 := tSo_2 e
      have ip := ib (p + j) (by omega)
      have hd' : ∀ i, i < j + 1 → 48 ≤ T (p + i) ∧ T (p + i) ≤ 57 := fun i hi => by
        by_cases ei : i = j
        · rw [ei]
          exact hj2
        · exact hd i (by omega)
      by_cases h4 : j < 4
      · have v10 := i10 (by omega)
        have hlt := tNum_lt (T := T) (p := p) (fun j => hb _) j (by omega) hd
        have hl4 : 10 ^ j ≤ 10 ^ 4 := Nat.pow_le_pow_right (by decide) (by omega)
        simp (disch := omega) only [w207_171, w207_172, w207_175, w207_178, w207_181, w207_182, w207_183, w207_186, w207_187, w207_190, w207_191, w207_192, w207_195, w207_197, w207_198, w207_201, w207_202, w207_203, w207_206, w207_207, w207_210, w207_211, w207_212, w207_214, w207_215, w207_218, w207_219, w207_222, w207_225, w207_226, w207_227, w207_230, w207_231, w207_232, w207_235, Md_s1, Md_s81, Md_s82, Md_s83, Md_s84, Md_s85, Md_s86, Md_s87, Md_s88, Md_s89, Md_s90, Md_s91, Md_s92, Md_s93, Md_s94, Md_s95, Md_s96, Md_s97, Md_s98, Md_s99, Md_s100, Md_s101, Md_s102, Md_r81_0, Md_r81_1, Md_r81_2, Md_r81_4, Md_r81_5, Md_r81_13, Md_r81_14, Md_r81_15, Md_r81_18, Md_r81_20, Md_r81_21, Md_r81_22, Md_r81_23, Md_r81_24, Md_r81_25, Md_r81_26, Md_r81_27, Md_r81_28, Md_r81_29, Md_r81_30, Md_r81_31, aPush_s, aPush_n, vrf_s, vrf_n, true_and, and_true, false_and, and_false, true_imp_iff, false_imp_iff, not_true_eq_false, not_false_eq_true, eq_self, true_or, or_true, and_self, if_true, if_false, n_lit, n_of, n_an, Nat.add_sub_cancel, nI_add, pk_mul, n_sub, n_ixT, n_cl, n_leT, n_leF, n_ltT, n_ltF, n_eqT, n_eqF, Nat.reduceAdd, Nat.reduceMul, Nat.reduceSub, Nat.reduceEqDiff, Nat.reduceLT, Nat.reduceLeDiff, Nat.mul_one, Nat.one_mul, Nat.add_zero, Nat.zero_add, le_T, nz0, nz1, i7, i8, ip, v10, c206 hm tq (show p + j ≤ 96 by omega), decide_eq_true e, b2n_t, aW_i, aW_e]
        refine ih (j + 1) _ (by omega) (by omega) (tq.fr ((F81.aw (by decide)).tr (F81.aw (by decide)))) ?_ ?_ (fun _ => ?_) hd' (fun J q hq j7 j10 fJ gJ => hQ J q ?_ j7 j10 (((F81.aw (by decide)).tr (F81.aw (by decide))).tr fJ) (fun i g1 g2 => ?_))
        · rw [aW_i (by decide), aW_i (by decide)]
          exact i8
        · rw [aW_e]
          rfl
        · rw [aW_i (by decide), aW_e]
          show _ = nI (tNum T p j * 10 + T (p + j) - 48)
          rw [Nat.mul_comm (tNum T p j) 10]
        · rw [hq, tRn_s (by omega) e]
          rfl
        · rw [gJ i g1 g2, aW_i g1, aW_i g2]
      · simp (disch := omega) only [w207_171, w207_172, w207_175, w207_178, w207_181, w207_182, w207_183, w207_186, w207_187, w207_190, w207_191, w207_192, w207_195, w207_197, w207_198, w207_201, w207_202, w207_203, w207_206, w207_207, w207_210, w207_211, w207_212, w207_214, w207_215, w207_218, w207_219, w207_222, w207_225, w207_226, w207_227, w207_230, w207_231, w207_232, w207_235, Md_s1, Md_s81, Md_s82, Md_s83, Md_s84, Md_s85, Md_s86, Md_s87, Md_s88, Md_s89, Md_s90, Md_s91, Md_s92, Md_s93, Md_s94, Md_s95, Md_s96, Md_s97, Md_s98, Md_s99, Md_s100, Md_s101, Md_s102, Md_r81_0, Md_r81_1, Md_r81_2, Md_r81_4, Md_r81_5, Md_r81_13, Md_r81_14, Md_r81_15, Md_r81_18, Md_r81_20, Md_r81_21, Md_r81_22, Md_r81_23, Md_r81_24, Md_r81_25, Md_r81_26, Md_r81_27, Md_r81_28, Md_r81_29, Md_r81_30, Md_r81_31, aPush_s, aPush_n, vrf_s, vrf_n, true_and, and_true, false_and, and_false, true_imp_iff, false_imp_iff, not_true_eq_false, not_false_eq_true, eq_self, true_or, or_true, and_self, if_true, if_false, n_lit, n_of, n_an, Nat.add_sub_cancel, nI_add, pk_mul, n_sub, n_ixT, n_cl, n_leT, n_leF, n_ltT, n_ltF, n_eqT, n_eqF, Nat.reduceAdd, Nat.reduceMul, Nat.reduceSub, Nat.reduceEqDiff, Nat.reduceLT, Nat.reduceLeDiff, Nat.mul_one, Nat.one_mul, Nat.add_zero, Nat.zero_add, le_T, nz0, nz1, i7, i8, c206 hm tq (show p + j ≤ 96 by omega), decide_eq_true e, b2n_t, aW_i, aW_e]
        refine ih (j + 1) _ (by omega) (by omega) (tq.fr ((F81.aw (by decide)).tr (F81.aw (by decide)))) ?_ ?_ (fun _ => ?_) hd' (fun J q hq j7 j10 fJ gJ => hQ J q ?_ j7 j10 (((F81.aw (by decide)).tr (F81.aw (by decide))).tr fJ) (fun i g1 g2 => ?_))
        · rw [aW_i (by decide), aW_i (by decide)]
          exact i8
        · rw [aW_e]
          rfl
        · omega
        · rw [hq, tRn_s (by omega) e]
          rfl
        · rw [gJ i g1 g2, aW_i g1, aW_i g2]
    · simp (disch := omega) only [w207_171, w207_172, w207_175, w207_178, w207_181, w207_182, w207_183, w207_186, w207_187, w207_190, w207_191, w207_192, w207_195, w207_197, w207_198, w207_201, w207_202, w207_203, w207_206, w207_207, w207_210, w207_211, w207_212, w207_214, w207_215, w207_218, w207_219, w207_222, w207_225, w207_226, w207_227, w207_230, w207_231, w207_232, w207_235, Md_s1, Md_s81, Md_s82, Md_s83, Md_s84, Md_s85, Md_s86, Md_s87, Md_s88, Md_s89, Md_s90, Md_s91, Md_s92, Md_s93, Md_s94, Md_s95, Md_s96, Md_s97, Md_s98, Md_s99, Md_s100, Md_s101, Md_s102, Md_r81_0, Md_r81_1, Md_r81_2, Md_r81_4, Md_r81_5, Md_r81_13, Md_r81_14, Md_r81_15, Md_r81_18, Md_r81_20, Md_r81_21, Md_r81_22, Md_r81_23, Md_r81_24, Md_r81_25, Md_r81_26, Md_r81_27, Md_r81_28, Md_r81_29, Md_r81_30, Md_r81_31, aPush_s, aPush_n, vrf_s, vrf_n, true_and, and_true, false_and, and_false, true_imp_iff, false_imp_iff, not_true_eq_false, not_false_eq_true, eq_self, true_or, or_true, and_self, if_true, if_false, n_lit, n_of, n_an, Nat.add_sub_cancel, nI_add, pk_mul, n_sub, n_ixT, n_cl, n_leT, n_leF, n_ltT, n_ltF, n_eqT, n_eqF, Nat.reduceAdd, Nat.reduceMul, Nat.reduceSub, Nat.reduceEqDiff, Nat.reduceLT, Nat.reduceLeDiff, Nat.mul_one, Nat.one_mul, Nat.add_zero, Nat.zero_add, le_T, nz0, nz1, i7, c206 hm tq (show p + j ≤ 96 by omega), decide_eq_false e, b2n_f]
      refine hQ I (p + j) (by rw [tRn_e (fun q => e q.2)]) i7 (fun h => ?_) F81.rf (fun _ _ _ => rfl)
      rw [Nat.add_sub_cancel_left] at h ⊢
      exact i10 h
end
