/-! TEXT: go of the reference -/
section
variable {d n k p q a b o f l : Nat} {T : Nat → Nat} {t : Tok} {S : Nat → Nat × Nat} {I J K : Nat → Nat → Int32} {R : Nat → Nat → Option Nat} {z : Nat × Nat} {x y : Int32} {Q : Option Value → HS → Prop} {l1 l2 : Value}
theorem c207 (hm : Md S R) (tq : Tq I T n) (ht : t.2.1 ≤ n) (en : En I t) (hQ : ∀ J, TkR T J (tNx T n t) → J 81 7 = nI (tNx T n t).2.1 → F81 I J → Q none (S, J, R, z)) : RM (d + 3) 207 [.ref 81] (S, I, R, z) Q := by
  obtain ⟨Md_s1, Md_s81, Md_s82, Md_s83, Md_s84, Md_s85, Md_s86, Md_s87, Md_s88, Md_s89, Md_s90, Md_s91, Md_s92, Md_s93, Md_s94, Md_s95, Md_s96, Md_s97, Md_s98, Md_s99, Md_s100, Md_s101, Md_s102, Md_r81_0, Md_r81_1, Md_r81_2, Md_r81_4, Md_r81_5, Md_r81_13, Md_r81_14, Md_r81_15, Md_r81_18, Md_r81_20, Md_r81_21, Md_r81_22, Md_r81_23, Md_r81_24, Md_r81_25, Md_r81_26, Md_r81_27, Md_r81_28, Md_r81_29, Md_r81_30, Md_r81_31⟩ := id hm
  have n96 := tq.1
  obtain ⟨i7, en⟩ := en
  have hP : tP T n t.2.1 ≤ n := (tSk_le (n - t.2.1) t.2.1).2 ht
  have hqP : t.2.1 ≤ tP T n t.2.1 := (tSk_le (n - t.2.1) t.2.1).1
  simp only [e207]
  refine l207a hm (n - t.2.1) t.2.1 I rfl ht tq i7 (fun J j7 fJ gJ => ?_)
  have tqJ := tq.fr fJ
  obtain ⟨-, j6, jb, hb⟩ := id tqJ
  have j11 : J 81 11 = I 81 11 := gJ 11 (by decide)
  obtain ⟨P, eP⟩ : ∃ P, P = tP T n t.2.1 := ⟨_, rfl⟩
  rw [← eP] at j7 hP hqP
  obtain ⟨g, eg⟩ : ∃ g, g = (decide (t.2.2.1 = 1 ∨ t.2.2.1 = 2) && decide (P = t.2.1)) := ⟨_, rfl⟩
  have hg : (nI P = J 81 11) = (g = true) := by
    rw [j11, eg]
    rcases en with ⟨h1, h2⟩ | ⟨h1, h2 | ⟨e, he, h2⟩⟩
    · rw [h2, decide_eq_true h1, Bool.true_and, decide_eq_true_eq]
      exact propext (nI_eq (by omega) (by omega))
    · rw [h2, decide_eq_false h1, Bool.false_and]
      exact propext ⟨fun q => by
        have key : ∀ P, P < 97 → ¬ nI P = -nI 1 := by decide
        exact absurd q (key P (by omega)), fun q => by cases q⟩
    · rw [h2, decide_eq_false h1, Bool.false_and]
      exact propext ⟨fun q => by
        have := (nI_eq (by omega) (by omega)).1 q
        omega, fun q => by cases q⟩
  have hQ : ∀ J q s, s = tSo T n P → q = tE T n s P → TkR T J (P, q, s, g) → J 81 7 = nI q → F81 I J → Q none (S, J, R, z) := by
    intro J q s es eq h h7 fr
    refine hQ J ?_ ?_ fr
    · rw [eq, es, eg, eP] at h
      exact h
    · rw [h7, eq, es, eP]
      rfl
  have start : RB (d + 2) 207 63 [.ref 81, .int (nI (b2n g))] [] (S, aW J 81 8 (nI P), R, z) Q → RB (d + 2) 207 38 [.ref 81, .long 0] [] (S, J, R, z) Q := by
    intro h
    cases g
    · have hg : (nI P = J 81 11) = False := by rw [hg]; exact eq_false (by decide)
      simp (disch := omega) only [w207_38, w207_39, w207_40, w207_43, w207_46, w207_47, w207_50, w207_51, w207_54, w207_57, w207_58, w207_61, w207_62, Md_s1, Md_s81, Md_s82, Md_s83, Md_s84, Md_s85, Md_s86, Md_s87, Md_s88, Md_s89, Md_s90, Md_s91, Md_s92, Md_s93, Md_s94, Md_s95, Md_s96, Md_s97, Md_s98, Md_s99, Md_s100, Md_s101, Md_s102, Md_r81_0, Md_r81_1, Md_r81_2, Md_r81_4, Md_r81_5, Md_r81_13, Md_r81_14, Md_r81_15, Md_r81_18, Md_r81_20, Md_r81_21, Md_r81_22, Md_r81_23, Md_r81_24, Md_r81_25, Md_r81_26, Md_r81_27, Md_r81_28, Md_r81_29, Md_r81_30, Md_r81_31, aPush_s, aPush_n, vrf_s, vrf_n, true_and, and_true, false_and, and_false, true_imp_iff, false_imp_iff, not_true_eq_false, not_false_eq_true, eq_self, true_or, or_true, and_self, if_true, if_false, n_lit, n_of, n_an, Nat.add_sub_cancel, nI_add, pk_mul, n_sub, n_ixT, n_cl, n_leT, n_leF, n_ltT, n_ltF, n_eqT, n_eqF, Nat.reduceAdd, Nat.reduceMul, Nat.reduceSub, Nat.reduceEqDiff, Nat.reduceLT, Nat.reduceLeDiff, Nat.mul_one, Nat.one_mul, Nat.add_zero, Nat.zero_add, le_T, nz0, nz1, j7, aW_e, aW_i, hg, b2n_f] at h ⊢
      exact h
    · have hg : (nI P = J 81 11) = True := by rw [hg]; exact eq_true rfl
      simp (disch := omega) only [w207_38, w207_39, w207_40, w207_43, w207_46, w207_47, w207_50, w207_51, w207_54, w207_57, w207_58, w207_61, w207_62, Md_s1, Md_s81, Md_s82, Md_s83, Md_s84, Md_s85, Md_s86, Md_s87, Md_s88, Md_s89, Md_s90, Md_s91, Md_s92, Md_s93, Md_s94, Md_s95, Md_s96, Md_s97, Md_s98, Md_s99, Md_s100, Md_s101, Md_s102, Md_r81_0, Md_r81_1, Md_r81_2, Md_r81_4, Md_r81_5, Md_r81_13, Md_r81_14, Md_r81_15, Md_r81_18, Md_r81_20, Md_r81_21, Md_r81_22, Md_r81_23, Md_r81_24, Md_r81_25, Md_r81_26, Md_r81_27, Md_r81_28, Md_r81_29, Md_r81_30, Md_r81_31, aPush_s, aPush_n, vrf_s, vrf_n, true_and, and_true, false_and, and_false, true_imp_iff, false_imp_iff, not_true_eq_false, not_false_eq_true, eq_self, true_or, or_true, and_self, if_true, if_false, n_lit, n_of, n_an, Nat.add_sub_cancel, nI_add, pk_mul, n_sub, n_ixT, n_cl, n_leT, n_leF, n_ltT, n_ltF, n_eqT, n_eqF, Nat.reduceAdd, Nat.reduceMul, Nat.reduceSub, Nat.reduceEqDiff, Nat.reduceLT, Nat.reduceLeDiff, Nat.mul_one, Nat.one_mul, Nat.add_zero, Nat.zero_add, le_T, nz0, nz1, j7, aW_e, aW_i, hg, b2n_t] at h ⊢
      exact h
  apply start
  have fK : F81 I (aW J 81 8 (nI P)) := fJ.tr (F81.aw (by decide))
  obtain ⟨K, eK⟩ : ∃ K, K = aW J 81 8 (nI P) := ⟨_, rfl⟩
  rw [← eK] at fK ⊢
  have tqK := tq.fr fK
  have k6 := tqK.2.1
  have k7 : K 81 7 = nI P := by rw [eK, aW_i (by decide), j7]
  have k8 : K 81 8 = nI P := by rw [eK, aW_e]
  have kb := tqK.2.2.1
  have s3 := tSo_3 (T := T) (n := n) P
  have c5 := fun (d : Nat) (Q : Option Value → HS → Prop) => c205 (d := d) (z := z) (Q := Q) hm tqK (show P ≤ 96 by omega)
  have c6 := fun (d : Nat) (Q : Option Value → HS → Prop) => c206 (d := d) (z := z) (Q := Q) hm tqK (show P ≤ 96 by omega)
  obtain ⟨s, es⟩ : ∃ s, s = tSo T n P := ⟨_, rfl⟩
  rw [← es] at s3
  simp only [← es] at c5 c6
  by_cases s0 : s = 0
  · have ePn : P = n := by
      rcases Nat.lt_or_ge P n with q | q
      · exact absurd (es.symm.trans s0) (tSo_0 q)
      · omega
    have k6' : K 81 6 = nI P := by rw [k6, ePn]
    simp (disch := omega) only [w207_63, w207_64, w207_67, w207_68, w207_71, w207_74, w207_75, w207_76, w207_79, w207_303, Md_s1, Md_s81, Md_s82, Md_s83, Md_s84, Md_s85, Md_s86, Md_s87, Md_s88, Md_s89, Md_s90, Md_s91, Md_s92, Md_s93, Md_s94, Md_s95, Md_s96, Md_s97, Md_s98, Md_s99, Md_s100, Md_s101, Md_s102, Md_r81_0, Md_r81_1, Md_r81_2, Md_r81_4, Md_r81_5, Md_r81_13, Md_r81_14, Md_r81_15, Md_r81_18, Md_r81_20, Md_r81_21, Md_r81_22, Md_r81_23, Md_r81_24, Md_r81_25, Md_r81_26, Md_r81_27, Md_r81_28, Md_r81_29, Md_r81_30, Md_r81_31, aPush_s, aPush_n, vrf_s, vrf_n, true_and, and_true, false_and, and_false, true_imp_iff, false_imp_iff, not_true_eq_false, not_false_eq_true, eq_self, true_or, or_true, and_self, if_true, if_false, n_lit, n_of, n_an, Nat.add_sub_cancel, nI_add, pk_mul, n_sub, n_ixT, n_cl, n_leT, n_leF, n_ltT, n_ltF, n_eqT, n_eqF, Nat.reduceAdd, Nat.reduceMul, Nat.reduceSub, Nat.reduceEqDiff, Nat.reduceLT, Nat.reduceLeDiff, Nat.mul_one, Nat.one_mul, Nat.add_zero, Nat.zero_add, le_T, nz0, nz1, k6', k8]
    refine hQ _ P 0 (s0.symm.trans es) rfl ⟨?_, ?_, (fun q => by rcases q with q | q <;> cases q), (fun q => by cases q), (fun q => absurd rfl q)⟩ ?_ (fK.tr (F81.aw (by decide)))
    · rw [aW_i (by decide)]; exact k8
    · rw [aW_e]; rfl
    · rw [aW_i (by decide)]; exact k7
  · have hPn : P < n := tSo_n (T := T) (by rw [← es]; exact s0)
    have kp := kb P hPn
    by_cases s1 : s = 1
    · subst s1
      simp (disch := omega) only [w207_63, w207_64, w207_67, w207_68, w207_71, w207_74, w207_75, w207_76, w207_79, w207_82, w207_83, w207_84, w207_87, w207_90, Md_s1, Md_s81, Md_s82, Md_s83, Md_s84, Md_s85, Md_s86, Md_s87, Md_s88, Md_s89, Md_s90, Md_s91, Md_s92, Md_s93, Md_s94, Md_s95, Md_s96, Md_s97, Md_s98, Md_s99, Md_s100, Md_s101, Md_s102, Md_r81_0, Md_r81_1, Md_r81_2, Md_r81_4, Md_r81_5, Md_r81_13, Md_r81_14, Md_r81_15, Md_r81_18, Md_r81_20, Md_r81_21, Md_r81_22, Md_r81_23, Md_r81_24, Md_r81_25, Md_r81_26, Md_r81_27, Md_r81_28, Md_r81_29, Md_r81_30, Md_r81_31, aPush_s, aPush_n, vrf_s, vrf_n, true_and, and_true, false_and, and_false, true_imp_iff, false_imp_iff, not_true_eq_false, not_false_eq_true, eq_self, true_or, or_true, and_self, if_true, if_false, n_lit, n_of, n_an, Nat.add_sub_cancel, nI_add, pk_mul, n_sub, n_ixT, n_cl, n_leT, n_leF, n_ltT, n_ltF, n_eqT, n_eqF, Nat.reduceAdd, Nat.reduceMul, Nat.reduceSub, Nat.reduceEqDiff, Nat.reduceLT, Nat.reduceLeDiff, Nat.mul_one, Nat.one_mul, Nat.add_zero, Nat.zero_add, le_T, nz0, nz1, k6, k8, c5, decide_true, b2n_t]
      refine l207b hm (n - P) P K rfl hP tqK k7 (fun L l7 fL gL => ?_)
      have l8 : L 81 8 = nI P := (gL 8 (by decide)).trans k8
      have lb := (tqK.fr fL).2.2.1 P hPn
      have hq : tRn T n 1 (n - P) P = tE T n 1 P := by
        rw [tRn_s hPn es.symm]
        rfl
      rw [hq] at l7
      have fin : ∀ c, c = tCd (P, tE T n 1 P, 1, g) → Q none (S, aW (aW (aW L 81 9 (nI c)) 81 10 (nI (T P))) 81 11 (nI (tE T n 1 P)), R, z) := by
        intro c ec
        refine hQ _ (tE T n 1 P) 1 es rfl ⟨?_, ?_, (fun _ => ?_), (fun q => by cases q), (fun _ => ⟨?_, Or.inl ⟨Or.inl rfl, aW_e⟩⟩)⟩ ?_ ((((fK.tr fL).tr (F81.aw (by decide))).tr (F81.aw (by decide))).tr (F81.aw (by decide)))
        · rw [aW_i (by decide), aW_i (by decide), aW_i (by decide)]; exact l8
        · rw [aW_i (by decide), aW_i (by decide), aW_e, ec]
        · rw [aW_i (by decide), aW_e]
        · rw [aW_i (by decide), aW_i (by decide), aW_i (by decide)]; exact l7
        · rw [aW_i (by decide), aW_i (by decide), aW_i (by decide)]; exact l7
      cases g
      · have := fin 1 rfl
        simp (disch := omega) only [w207_117, w207_118, w207_119, w207_122, w207_123, w207_126, w207_127, w207_130, w207_131, w207_132, w207_135, w207_136, w207_139, w207_140, w207_143, w207_144, w207_145, w207_148, w207_151, w207_303, Md_s1, Md_s81, Md_s82, Md_s83, Md_s84, Md_s85, Md_s86, Md_s87, Md_s88, Md_s89, Md_s90, Md_s91, Md_s92, Md_s93, Md_s94, Md_s95, Md_s96, Md_s97, Md_s98, Md_s99, Md_s100, Md_s101, Md_s102, Md_r81_0, Md_r81_1, Md_r81_2, Md_r81_4, Md_r81_5, Md_r81_13, Md_r81_14, Md_r81_15, Md_r81_18, Md_r81_20, Md_r81_21, Md_r81_22, Md_r81_23, Md_r81_24, Md_r81_25, Md_r81_26, Md_r81_27, Md_r81_28, Md_r81_29, Md_r81_30, Md_r81_31, aPush_s, aPush_n, vrf_s, vrf_n, true_and, and_true, false_and, and_false, true_imp_iff, false_imp_iff, not_true_eq_false, not_false_eq_true, eq_self, true_or, or_true, and_self, if_true, if_false, n_lit, n_of, n_an, Nat.add_sub_cancel, nI_add, pk_mul, n_sub, n_ixT, n_cl, n_leT, n_leF, n_ltT, n_ltF, n_eqT, n_eqF, Nat.reduceAdd, Nat.reduceMul, Nat.reduceSub, Nat.reduceEqDiff, Nat.reduceLT, Nat.reduceLeDiff, Nat.mul_one, Nat.one_mul, Nat.add_zero, Nat.zero_add, le_T, nz0, nz1, l7, l8, lb, b2n_f, aW_i, aW_e, aW_o]
        exact this
      · have := fin 4 rfl
        simp (disch := omega) only [w207_117, w207_118, w207_119, w207_122, w207_123, w207_126, w207_127, w207_130, w207_131, w207_132, w207_135, w207_136, w207_139, w207_140, w207_143, w207_144, w207_145, w207_148, w207_151, w207_303, Md_s1, Md_s81, Md_s82, Md_s83, Md_s84, Md_s85, Md_s86, Md_s87, Md_s88, Md_s89, Md_s90, Md_s91, Md_s92, Md_s93, Md_s94, Md_s95, Md_s96, Md_s97, Md_s98, Md_s99, Md_s100, Md_s101, Md_s102, Md_r81_0, Md_r81_1, Md_r81_2, Md_r81_4, Md_r81_5, Md_r81_13, Md_r81_14, Md_r81_15, Md_r81_18, Md_r81_20, Md_r81_21, Md_r81_22, Md_r81_23, Md_r81_24, Md_r81_25, Md_r81_26, Md_r81_27, Md_r81_28, Md_r81_29, Md_r81_30, Md_r81_31, aPush_s, aPush_n, vrf_s, vrf_n, true_and, and_true, false_and, and_false, true_imp_iff, false_imp_iff, not_true_eq_false, not_false_eq_true, eq_self, true_or, or_true, and_self, if_true, if_false, n_lit, n_of, n_an, Nat.add_sub_cancel, nI_add, pk_mul, n_sub, n_ixT, n_cl, n_leT, n_leF, n_ltT, n_ltF, n_eqT, n_eqF, Nat.reduceAdd, Nat.reduceMul, Nat.reduceSub, Nat.reduceEqDiff, Nat.reduceLT, Nat.reduceLeDiff, Nat.mul_one, Nat.one_mul, Nat.add_zero, Nat.zero_add, le_T, nz0, nz1, l7, l8, lb, b2n_t, aW_i, aW_e, aW_o]
        exact this
    · by_cases s2 : s = 2
      · subst s2
        simp (disch := omega) only [w207_63, w207_64, w207_67, w207_68, w207_71, w207_74, w207_75, w207_76, w207_79, w207_82, w207_83, w207_84, w207_87, w207_90, w207_94, w207_95, w207_98, w207_101, w207_104, w207_105, w207_106, w207_109, w207_110, w207_111, w207_114, w207_117, w207_118, w207_119, w207_122, w207_123, w207_126, w207_127, w207_130, w207_131, w207_132, w207_135, w207_136, w207_139, w207_140, w207_143, w207_144, w207_145, w207_148, w207_151, w207_154, w207_155, w207_156, w207_159, w207_162, w207_165, w207_166, w207_167, Md_s1, Md_s81, Md_s82, Md_s83, Md_s84, Md_s85, Md_s86, Md_s87, Md_s88, Md_s89, Md_s90, Md_s91, Md_s92, Md_s93, Md_s94, Md_s95, Md_s96, Md_s97, Md_s98, Md_s99, Md_s100, Md_s101, Md_s102, Md_r81_0, Md_r81_1, Md_r81_2, Md_r81_4, Md_r81_5, Md_r81_13, Md_r81_14, Md_r81_15, Md_r81_18, Md_r81_20, Md_r81_21, Md_r81_22, Md_r81_23, Md_r81_24, Md_r81_25, Md_r81_26, Md_r81_27, Md_r81_28, Md_r81_29, Md_r81_30, Md_r81_31, aPush_s, aPush_n, vrf_s, vrf_n, true_and, and_true, false_and, and_false, true_imp_iff, false_imp_iff, not_true_eq_false, not_false_eq_true, eq_self, true_or, or_true, and_self, if_true, if_false, n_lit, n_of, n_an, Nat.add_sub_cancel, nI_add, pk_mul, n_sub, n_ixT, n_cl, n_leT, n_leF, n_ltT, n_ltF, n_eqT, n_eqF, Nat.reduceAdd, Nat.reduceMul, Nat.reduceSub, Nat.reduceEqDiff, Nat.reduceLT, Nat.reduceLeDiff, Nat.mul_one, Nat.one_mul, Nat.add_zero, Nat.zero_add, le_T, nz0, nz1, k6, k8, c5, c6, b2n_t, b2n_f, decide_true, decide_false]
        refine l207c hm (n - P) 0 (aW K 81 10 (nI 0)) rfl hP (tqK.fr (F81.aw (by decide))) (by rw [aW_i (by decide)]; exact k8) (by rw [aW_i (by decide)]; exact k7) (fun _ => aW_e) (fun i hi => absurd hi (Nat.not_lt_zero _)) (fun L q hq l7 l10 fL gL => ?_)
        have l8 : L 81 8 = nI P := by rw [gL 8 (by decide) (by decide), aW_i (by decide)]; exact k8
        have fL' : F81 I L := (fK.tr (F81.aw (by decide))).tr fL
        have hq : q = tE T n 2 P := by
          rw [hq]
          show tRn T n 2 (n - P) P = _
          rw [tRn_s hPn es.symm]
          rfl
        have hqn : q ≤ n ∧ P ≤ q := by
          rw [hq]
          have := (tNx_ok (T := T) (n := n) (t := t) ht).1
          have h1 := this.2.1
          have h2 := this.1
          have e1 : (tNx T n t).2.1 = tE T n 2 P := by
            show tE T n (tSo T n (tP T n t.2.1)) (tP T n t.2.1) = _
            rw [← eP, ← es]
          have e2 : (tNx T n t).1 = P := eP.symm
          rw [e1] at h1 h2
          rw [e2] at h2
          exact ⟨h1, h2⟩
        have fin : ∀ c, c = tCd (P, q, 2, g) → Q none (S, aW (aW L 81 9 (nI c)) 81 11 (nI q), R, z) := by
          intro c ec
          refine hQ _ q 2 es hq ⟨?_, ?_, (fun q => by rcases q with q | q <;> cases q), (fun _ h4 => ?_), (fun _ => ⟨?_, Or.inl ⟨Or.inr rfl, aW_e⟩⟩)⟩ ?_ ((fL'.tr (F81.aw (by decide))).tr (F81.aw (by decide)))
          · rw [aW_i (by decide), aW_i (by decide)]; exact l8
          · rw [aW_i (by decide), aW_e, ec]
          · rw [aW_i (by decide), aW_i (by decide)]; exact l10 h4
          · rw [aW_i (by decide), aW_i (by decide)]; exact l7
          · rw [aW_i (by decide), aW_i (by decide)]; exact l7
        cases g
        · by_cases h4 : q - P ≤ 4
          · have := fin 2 (by show 2 = if 2 = 1 then _ else if 2 = 2 then (if false = true ∨ 4 < q - P then 4 else 2) else 2; rw [if_neg (by decide), if_pos rfl, if_neg (fun z => z.elim (fun z => by cases z) (fun z => by omega))])
            simp (disch := omega) only [w207_238, w207_239, w207_240, w207_243, w207_244, w207_247, w207_248, w207_251, w207_252, w207_253, w207_256, w207_257, w207_260, w207_261, w207_264, w207_265, w207_266, w207_269, w207_272, w207_303, Md_s1, Md_s81, Md_s82, Md_s83, Md_s84, Md_s85, Md_s86, Md_s87, Md_s88, Md_s89, Md_s90, Md_s91, Md_s92, Md_s93, Md_s94, Md_s95, Md_s96, Md_s97, Md_s98, Md_s99, Md_s100, Md_s101, Md_s102, Md_r81_0, Md_r81_1, Md_r81_2, Md_r81_4, Md_r81_5, Md_r81_13, Md_r81_14, Md_r81_15, Md_r81_18, Md_r81_20, Md_r81_21, Md_r81_22, Md_r81_23, Md_r81_24, Md_r81_25, Md_r81_26, Md_r81_27, Md_r81_28, Md_r81_29, Md_r81_30, Md_r81_31, aPush_s, aPush_n, vrf_s, vrf_n, true_and, and_true, false_and, and_false, true_imp_iff, false_imp_iff, not_true_eq_false, not_false_eq_true, eq_self, true_or, or_true, and_self, if_true, if_false, n_lit, n_of, n_an, Nat.add_sub_cancel, nI_add, pk_mul, n_sub, n_ixT, n_cl, n_leT, n_leF, n_ltT, n_ltF, n_eqT, n_eqF, Nat.reduceAdd, Nat.reduceMul, Nat.reduceSub, Nat.reduceEqDiff, Nat.reduceLT, Nat.reduceLeDiff, Nat.mul_one, Nat.one_mul, Nat.add_zero, Nat.zero_add, le_T, nz0, nz1, l7, l8, b2n_f, aW_i, aW_e, aW_o]
            exact this
          · have := fin 4 (by show 4 = if 2 = 1 then _ else if 2 = 2 then (if false = true ∨ 4 < q - P then 4 else 2) else 2; rw [if_neg (by decide), if_pos rfl, if_pos (Or.inr (by omega))])
            simp (disch := omega) only [w207_238, w207_239, w207_240, w207_243, w207_244, w207_247, w207_248, w207_251, w207_252, w207_253, w207_256, w207_257, w207_260, w207_261, w207_264, w207_265, w207_266, w207_269, w207_272, w207_303, Md_s1, Md_s81, Md_s82, Md_s83, Md_s84, Md_s85, Md_s86, Md_s87, Md_s88, Md_s89, Md_s90, Md_s91, Md_s92, Md_s93, Md_s94, Md_s95, Md_s96, Md_s97, Md_s98, Md_s99, Md_s100, Md_s101, Md_s102, Md_r81_0, Md_r81_1, Md_r81_2, Md_r81_4, Md_r81_5, Md_r81_13, Md_r81_14, Md_r81_15, Md_r81_18, Md_r81_20, Md_r81_21, Md_r81_22, Md_r81_23, Md_r81_24, Md_r81_25, Md_r81_26, Md_r81_27, Md_r81_28, Md_r81_29, Md_r81_30, Md_r81_31, aPush_s, aPush_n, vrf_s, vrf_n, true_and, and_true, false_and, and_false, true_imp_iff, false_imp_iff, not_true_eq_false, not_false_eq_true, eq_self, true_or, or_true, and_self, if_true, if_false, n_lit, n_of, n_an, Nat.add_sub_cancel, nI_add, pk_mul, n_sub, n_ixT, n_cl, n_leT, n_leF, n_ltT, n_ltF, n_eqT, n_eqF, Nat.reduceAdd, Nat.reduceMul, Nat.reduceSub, Nat.reduceEqDiff, Nat.reduceLT, Nat.reduceLeDiff, Nat.mul_one, Nat.one_mul, Nat.add_zero, Nat.zero_add, le_T, nz0, nz1, l7, l8, b2n_f, aW_i, aW_e, aW_o]
            exact this
        · have := fin 4 rfl
          simp (disch := omega) only [w207_238, w207_239, w207_240, w207_243, w207_244, w207_247, w207_248, w207_251, w207_252, w207_253, w207_256, w207_257, w207_260, w207_261, w207_264, w207_265, w207_266, w207_269, w207_272, w207_303, Md_s1, Md_s81, Md_s82, Md_s83, Md_s84, Md_s85, Md_s86, Md_s87, Md_s88, Md_s89, Md_s90, Md_s91, Md_s92, Md_s93, Md_s94, Md_s95, Md_s96, Md_s97, Md_s98, Md_s99, Md_s100, Md_s101, Md_s102, Md_r81_0, Md_r81_1, Md_r81_2, Md_r81_4, Md_r81_5, Md_r81_13, Md_r81_14, Md_r81_15, Md_r81_18, Md_r81_20, Md_r81_21, Md_r81_22, Md_r81_23, Md_r81_24, Md_r81_25, Md_r81_26, Md_r81_27, Md_r81_28, Md_r81_29, Md_r81_30, Md_r81_31, aPush_s, aPush_n, vrf_s, vrf_n, true_and, and_true, false_and, and_false, true_imp_iff, false_imp_iff, not_true_eq_false, not_false_eq_true, eq_self, true_or, or_true, and_self, if_true, if_false, n_lit, n_of, n_an, Nat.add_sub_cancel, nI_add, pk_mul, n_sub, n_ixT, n_cl, n_leT, n_leF, n_ltT, n_ltF, n_eqT, n_eqF, Nat.reduceAdd, Nat.reduceMul, Nat.reduceSub, Nat.reduceEqDiff, Nat.reduceLT, Nat.reduceLeDiff, Nat.mul_one, Nat.one_mul, Nat.add_zero, Nat.zero_add, le_T, nz0, nz1, l7, l8, b2n_t, aW_i, aW_e, aW_o]
          exact this
      · have s3' : s = 3 := by omega
        subst s3'
        simp (disch := omega) only [w207_63, w207_64, w207_67, w207_68, w207_71, w207_74, w207_75, w207_76, w207_79, w207_82, w207_83, w207_84, w207_87, w207_90, w207_154, w207_155, w207_156, w207_159, w207_162, w207_275, w207_276, w207_277, w207_280, w207_281, w207_282, w207_285, w207_286, w207_289, w207_290, w207_293, w207_294, w207_295, w207_298, w207_299, w207_300, w207_303, Md_s1, Md_s81, Md_s82, Md_s83, Md_s84, Md_s85, Md_s86, Md_s87, Md_s88, Md_s89, Md_s90, Md_s91, Md_s92, Md_s93, Md_s94, Md_s95, Md_s96, Md_s97, Md_s98, Md_s99, Md_s100, Md_s101, Md_s102, Md_r81_0, Md_r81_1, Md_r81_2, Md_r81_4, Md_r81_5, Md_r81_13, Md_r81_14, Md_r81_15, Md_r81_18, Md_r81_20, Md_r81_21, Md_r81_22, Md_r81_23, Md_r81_24, Md_r81_25, Md_r81_26, Md_r81_27, Md_r81_28, Md_r81_29, Md_r81_30, Md_r81_31, aPush_s, aPush_n, vrf_s, vrf_n, true_and, and_true, false_and, and_false, true_imp_iff, false_imp_iff, not_true_eq_false, not_false_eq_true, eq_self, true_or, or_true, and_self, if_true, if_false, n_lit, n_of, n_an, Nat.add_sub_cancel, nI_add, pk_mul, n_sub, n_ixT, n_cl, n_leT, n_leF, n_ltT, n_ltF, n_eqT, n_eqF, Nat.reduceAdd, Nat.reduceMul, Nat.reduceSub, Nat.reduceEqDiff, Nat.reduceLT, Nat.reduceLeDiff, Nat.mul_one, Nat.one_mul, Nat.add_zero, Nat.zero_add, le_T, nz0, nz1, k6, k7, k8, c5, c6, kp, b2n_f, decide_false, aW_i, aW_e, aW_o]
        refine hQ _ (P + 1) 3 es rfl ⟨?_, ?_, (fun _ => ?_), (fun q => by cases q), (fun _ => ⟨?_, Or.inr ⟨(fun q => by rcases q with q | q <;> cases q), ?_⟩⟩)⟩ ?_ ?_
        · rw [aW_i (by decide), aW_i (by decide), aW_i (by decide)]; exact k8
        · rw [aW_i (by decide), aW_i (by decide), aW_e]; rfl
        · rw [aW_i (by decide), aW_e]
        · rw [aW_e]
        · rw [aW_i (by decide), aW_i (by decide), aW_i (by decide), eK, aW_i (by decide), j11]
          rcases en with ⟨h1, h2⟩ | ⟨h1, h2 | ⟨e, he, h2⟩⟩
          · exact Or.inr ⟨t.2.1, by show t.2.1 < P + 1; omega, h2⟩
          · exact Or.inl h2
          · exact Or.inr ⟨e, by show e < P + 1; omega, h2⟩
        · rw [aW_e]
        · exact ((fK.tr (F81.aw (by decide))).tr (F81.aw (by decide))).tr (F81.aw (by decide))
end
