/-! TEXT: the words and signs of HangedWord's tape -/
def F54 (I J : Nat → Nat → Int32) : Prop := (∀ q, q ≠ 54 → J q = I q) ∧ ∀ j, j < 2 ∨ 5 < j → J 54 j = I 54 j
def Tp (I : Nat → Nat → Int32) (T : Nat → Nat) (n : Nat) : Prop := n ≤ 96 ∧ I 54 1 = nI n ∧ (∀ j, j < n → I 55 j = nI (T j)) ∧ ∀ j, T j < 256
def TkC (I : Nat → Nat → Int32) (t : Tok) : Prop := I 54 2 = nI t.1 ∧ I 54 3 = nI t.2.1 ∧ I 54 4 = nI t.2.2.1 ∧ I 54 5 = nI (b2n t.2.2.2)
def Th (S : Nat → Nat × Nat) (R : Nat → Nat → Option Nat) : Prop := S 54 = (3, 12) ∧ S 55 = (9, 96) ∧ S 56 = (9, 96) ∧ R 54 0 = some 55 ∧ R 54 6 = some 56
section
variable {d n k p q : Nat} {T : Nat → Nat} {S : Nat → Nat × Nat} {I J : Nat → Nat → Int32} {R : Nat → Nat → Option Nat} {z : Nat × Nat} {x y w : Int32} {Q : Option Value → HS → Prop} {l1 l2 : Value}
theorem F54.rf : F54 I I := ⟨fun _ _ => rfl, fun _ _ => rfl⟩
theorem F54.tr {K : Nat → Nat → Int32} (h : F54 I J) (h2 : F54 J K) : F54 I K := ⟨fun q hq => (h2.1 q hq).trans (h.1 q hq), fun j hj => (h2.2 j hj).trans (h.2 j hj)⟩
theorem F54.aw {j : Nat} {v : Int32} (hj : 2 ≤ j ∧ j ≤ 5) : F54 I (aW I 54 j v) := ⟨fun q hq => aW_o hq, fun i hi => aW_i (by omega)⟩
theorem Tp.fr (h : Tp I T n) (f : F54 I J) : Tp J T n := ⟨h.1, (f.2 1 (by omega)).trans h.2.1, by rw [f.1 55 (by decide)]; exact h.2.2.1, h.2.2.2⟩
theorem c52 (hT : Th S R) (tp : Tp I T n) (hp : p ≤ 96) : RM (d + 1) 52 [.ref 54, .int (nI p)] (S, I, R, z) Q = Q (some (.int (nI (tSo T n p)))) (S, I, R, z) := by
  obtain ⟨s54, s55, s56, r540, r546⟩ := id hT
  obtain ⟨n96, i1, ib, hb⟩ := id tp
  have hbp := hb p
  unfold tSo
  by_cases e : p < n
  · have ip := ib p e
    rw [if_pos e]
    by_cases a1 : 97 ≤ T p ∧ T p ≤ 122
    · obtain ⟨b1, b2⟩ := id a1
      rw [if_pos a1]
      simp (disch := omega) only [e52, w52_0, w52_1, w52_4, w52_5, w52_6, w52_9, w52_12, w52_13, w52_14, w52_15, w52_18, w52_19, w52_20, w52_21, w52_22, w52_24, w52_27, w52_28, w52_30, w52_33, w52_34, w52_37, w52_38, w52_40, w52_43, w52_44, w52_46, w52_49, w52_50, w52_53, w52_54, s54, s55, s56, r540, r546, aPush_s, aPush_n, vrf_s, vrf_n, true_and, and_true, false_and, and_false, true_imp_iff, false_imp_iff, not_true_eq_false, not_false_eq_true, eq_self, true_or, or_true, and_self, if_true, if_false, n_lit, n_of, n_an, Nat.add_sub_cancel, nI_add, pk_mul, n_sub, n_ixT, n_cl, n_leT, n_leF, n_ltT, n_ltF, n_eqT, n_eqF, Nat.reduceAdd, Nat.reduceMul, Nat.reduceSub, Nat.reduceEqDiff, Nat.reduceLT, Nat.reduceLeDiff, Nat.mul_one, Nat.one_mul, Nat.add_zero, Nat.zero_add, le_T, i1, ip]
    · rw [if_neg a1]
      by_cases a2 : 48 ≤ T p ∧ T p ≤ 57
      · obtain ⟨b1, b2⟩ := id a2
        rw [if_pos a2]
        simp (disch := omega) only [e52, w52_0, w52_1, w52_4, w52_5, w52_6, w52_9, w52_12, w52_13, w52_14, w52_15, w52_18, w52_19, w52_20, w52_21, w52_22, w52_24, w52_27, w52_28, w52_30, w52_33, w52_34, w52_37, w52_38, w52_40, w52_43, w52_44, w52_46, w52_49, w52_50, w52_53, w52_54, s54, s55, s56, r540, r546, aPush_s, aPush_n, vrf_s, vrf_n, true_and, and_true, false_and, and_false, true_imp_iff, false_imp_iff, not_true_eq_false, not_false_eq_true, eq_self, true_or, or_true, and_self, if_true, if_false, n_lit, n_of, n_an, Nat.add_sub_cancel, nI_add, pk_mul, n_sub, n_ixT, n_cl, n_leT, n_leF, n_ltT, n_ltF, n_eqT, n_eqF, Nat.reduceAdd, Nat.reduceMul, Nat.reduceSub, Nat.reduceEqDiff, Nat.reduceLT, Nat.reduceLeDiff, Nat.mul_one, Nat.one_mul, Nat.add_zero, Nat.zero_add, le_T, i1, ip]
      · rw [if_neg a2]
        rcases (show T p < 48 ∨ (57 < T p ∧ T p < 97) ∨ 122 < T p by omega) with b1 | ⟨b1, b2⟩ | b1
        · simp (disch := omega) only [e52, w52_0, w52_1, w52_4, w52_5, w52_6, w52_9, w52_12, w52_13, w52_14, w52_15, w52_18, w52_19, w52_20, w52_21, w52_22, w52_24, w52_27, w52_28, w52_30, w52_33, w52_34, w52_37, w52_38, w52_40, w52_43, w52_44, w52_46, w52_49, w52_50, w52_53, w52_54, s54, s55, s56, r540, r546, aPush_s, aPush_n, vrf_s, vrf_n, true_and, and_true, false_and, and_false, true_imp_iff, false_imp_iff, not_true_eq_false, not_false_eq_true, eq_self, true_or, or_true, and_self, if_true, if_false, n_lit, n_of, n_an, Nat.add_sub_cancel, nI_add, pk_mul, n_sub, n_ixT, n_cl, n_leT, n_leF, n_ltT, n_ltF, n_eqT, n_eqF, Nat.reduceAdd, Nat.reduceMul, Nat.reduceSub, Nat.reduceEqDiff, Nat.reduceLT, Nat.reduceLeDiff, Nat.mul_one, Nat.one_mul, Nat.add_zero, Nat.zero_add, le_T, i1, ip]
        · simp (disch := omega) only [e52, w52_0, w52_1, w52_4, w52_5, w52_6, w52_9, w52_12, w52_13, w52_14, w52_15, w52_18, w52_19, w52_20, w52_21, w52_22, w52_24, w52_27, w52_28, w52_30, w52_33, w52_34, w52_37, w52_38, w52_40, w52_43, w52_44, w52_46, w52_49, w52_50, w52_53, w52_54, s54, s55, s56, r540, r546, aPush_s, aPush_n, vrf_s, vrf_n, true_and, and_true, false_and, and_false, true_imp_iff, false_imp_iff, not_true_eq_false, not_false_eq_true, eq_self, true_or, or_true, and_self, if_true, if_false, n_lit, n_of, n_an, Nat.add_sub_cancel, nI_add, pk_mul, n_sub, n_ixT, n_cl, n_leT, n_leF, n_ltT, n_ltF, n_eqT, n_eqF, Nat.reduceAdd, Nat.reduceMul, Nat.reduceSub, Nat.reduceEqDiff, Nat.reduceLT, Nat.reduceLeDiff, Nat.mul_one, Nat.one_mul, Nat.add_zero, Nat.zero_add, le_T, i1, ip]
        · simp (disch := omega) only [e52, w52_0, w52_1, w52_4, w52_5, w52_6, w52_9, w52_12, w52_13, w52_14, w52_15, w52_18, w52_19, w52_20, w52_21, w52_22, w52_24, w52_27, w52_28, w52_30, w52_33, w52_34, w52_37, w52_38, w52_40, w52_43, w52_44, w52_46, w52_49, w52_50, w52_53, w52_54, s54, s55, s56, r540, r546, aPush_s, aPush_n, vrf_s, vrf_n, true_and, and_true, false_and, and_false, true_imp_iff, false_imp_iff, not_true_eq_false, not_false_eq_true, eq_self, true_or, or_true, and_self, if_true, if_false, n_lit, n_of, n_an, Nat.add_sub_cancel, nI_add, pk_mul, n_sub, n_ixT, n_cl, n_leT, n_leF, n_ltT, n_ltF, n_eqT, n_eqF, Nat.reduceAdd, Nat.reduceMul, Nat.reduceSub, Nat.reduceEqDiff, Nat.reduceLT, Nat.reduceLeDiff, Nat.mul_one, Nat.one_mul, Nat.add_zero, Nat.zero_add, le_T, i1, ip]
  · rw [if_neg e]
    simp (disch := omega) only [e52, w52_0, w52_1, w52_4, w52_5, w52_6, w52_9, w52_12, w52_13, w52_14, w52_15, w52_18, w52_19, w52_20, w52_21, w52_22, w52_24, w52_27, w52_28, w52_30, w52_33, w52_34, w52_37, w52_38, w52_40, w52_43, w52_44, w52_46, w52_49, w52_50, w52_53, w52_54, s54, s55, s56, r540, r546, aPush_s, aPush_n, vrf_s, vrf_n, true_and, and_true, false_and, and_false, true_imp_iff, false_imp_iff, not_true_eq_false, not_false_eq_true, eq_self, true_or, or_true, and_self, if_true, if_false, n_lit, n_of, n_an, Nat.add_sub_cancel, nI_add, pk_mul, n_sub, n_ixT, n_cl, n_leT, n_leF, n_ltT, n_ltF, n_eqT, n_eqF, Nat.reduceAdd, Nat.reduceMul, Nat.reduceSub, Nat.reduceEqDiff, Nat.reduceLT, Nat.reduceLeDiff, Nat.mul_one, Nat.one_mul, Nat.add_zero, Nat.zero_add, le_T, i1]
theorem l51a (hT : Th S R) : ∀ (f p : Nat) (I : Nat → Nat → Int32), f = n - p → p ≤ n → Tp I T n → I 54 2 = nI p → (∀ J, J 54 2 = nI (tP T n p) → F54 I J → (∀ j, j ≠ 2 → J 54 j = I 54 j) → RB (d + 2) 51 70 [.ref 54, l1, l2] [] (S, J, R, z) Q) → RB (d + 2) 51 32 [.ref 54, l1, l2] [] (S, I, R, z) Q := by
  obtain ⟨s54, s55, s56, r540, r546⟩ := id hT
  intro f
  induction f with
  | zero =>
    intro p I hf hp tp i2 hQ
    obtain ⟨n96, i1, ib, hb⟩ := id tp
    have e : p = n := by omega
    subst e
    rw [w51_32]
    simp (disch := omega) only [w51_33, w51_36, w51_37, w51_40, w51_43, w51_44, w51_47, w51_48, w51_51, w51_52, w51_54, w51_57, w51_58, w51_59, w51_62, w51_63, w51_64, w51_67, s54, s55, s56, r540, r546, aPush_s, aPush_n, vrf_s, vrf_n, true_and, and_true, false_and, and_false, true_imp_iff, false_imp_iff, not_true_eq_false, not_false_eq_true, eq_self, true_or, or_true, and_self, if_true, if_false, n_lit, n_of, n_an, Nat.add_sub_cancel, nI_add, pk_mul, n_sub, n_ixT, n_cl, n_leT, n_leF, n_ltT, n_ltF, n_eqT, n_eqF, Nat.reduceAdd, Nat.reduceMul, Nat.reduceSub, Nat.reduceEqDiff, Nat.reduceLT, Nat.reduceLeDiff, Nat.mul_one, Nat.one_mul, Nat.add_zero, Nat.zero_add, le_T, i1, i2]
    exact hQ I (by rw [i2]; unfold tP; rw [tSk_e (by omega)]) F54.rf (fun _ _ => rfl)
  | succ f ih =>
    intro p I hf hp tp i2 hQ
    obtain ⟨n96, i1, ib, hb⟩ := id tp
    have hbp := hb p
    have ip := ib p (by omega)
    rw [w51_32]
    by_cases e : T p = 32
    · simp (disch := omega) only [w51_33, w51_36, w51_37, w51_40, w51_43, w51_44, w51_47, w51_48, w51_51, w51_52, w51_54, w51_57, w51_58, w51_59, w51_62, w51_63, w51_64, w51_67, s54, s55, s56, r540, r546, aPush_s, aPush_n, vrf_s, vrf_n, true_and, and_true, false_and, and_false, true_imp_iff, false_imp_iff, not_true_eq_false, not_false_eq_true, eq_self, true_or, or_true, and_self, if_true, if_false, n_lit, n_of, n_an, Nat.add_sub_cancel, nI_add, pk_mul, n_sub, n_ixT, n_cl, n_leT, n_leF, n_ltT, n_ltF, n_eqT, n_eqF, Nat.reduceAdd, Nat.reduceMul, Nat.reduceSub, Nat.reduceEqDiff, Nat.reduceLT, Nat.reduceLeDiff, Nat.mul_one, Nat.one_mul, Nat.add_zero, Nat.zero_add, le_T, i1, i2, ip]
      refine ih (p + 1) _ (by omega) (by omega) (tp.fr (F54.aw (by decide))) aW_e (fun J j2 f2 g2 => hQ J ?_ ((F54.aw (by decide)).tr f2) (fun j hj => (g2 j hj).trans (aW_i hj)))
      rw [j2]
      unfold tP
      rw [tSk_s (by omega) e]
    · simp (disch := omega) only [w51_33, w51_36, w51_37, w51_40, w51_43, w51_44, w51_47, w51_48, w51_51, w51_52, w51_54, w51_57, w51_58, w51_59, w51_62, w51_63, w51_64, w51_67, s54, s55, s56, r540, r546, aPush_s, aPush_n, vrf_s, vrf_n, true_and, and_true, false_and, and_false, true_imp_iff, false_imp_iff, not_true_eq_false, not_false_eq_true, eq_self, true_or, or_true, and_self, if_true, if_false, n_lit, n_of, n_an, Nat.add_sub_cancel, nI_add, pk_mul, n_sub, n_ixT, n_cl, n_leT, n_leF, n_ltT, n_ltF, n_eqT, n_eqF, Nat.reduceAdd, Nat.reduceMul, Nat.reduceSub, Nat.reduceEqDiff, Nat.reduceLT, Nat.reduceLeDiff, Nat.mul_one, Nat.one_mul, Nat.add_zero, Nat.zero_add, le_T, i1, i2, ip]
      exact hQ I (by rw [i2]; unfold tP; rw [tSk_e (fun q => e q.2)]) F54.rf (fun _ _ => rfl)
theorem l51b (hT : Th S R) {s : Nat} (hs : s ≤ 2) : ∀ (f p : Nat) (I : Nat → Nat → Int32), f = n - p → p ≤ n → Tp I T n → I 54 3 = nI p → I 54 4 = nI s → (s = 0 → p = n) → (∀ J, J 54 3 = nI (tRn T n s (n - p) p) → F54 I J → (∀ j, j ≠ 3 → J 54 j = I 54 j) → RB (d + 2) 51 174 [.ref 54, l1, l2] [] (S, J, R, z) Q) → RB (d + 2) 51 127 [.ref 54, l1, l2] [] (S, I, R, z) Q := by
  obtain ⟨s54, s55, s56, r540, r546⟩ := id hT
  intro f
  induction f with
  | zero =>
    intro p I hf hp tp i3 i4 h0 hQ
    obtain ⟨n96, i1, ib, hb⟩ := id tp
    have e : p = n := by omega
    subst e
    rw [w51_127]
    simp (disch := omega) only [w51_128, w51_131, w51_132, w51_135, w51_136, w51_139, w51_140, w51_143, w51_146, w51_147, w51_148, w51_151, w51_154, w51_155, w51_158, w51_161, w51_162, w51_163, w51_166, w51_167, w51_168, w51_171, s54, s55, s56, r540, r546, aPush_s, aPush_n, vrf_s, vrf_n, true_and, and_true, false_and, and_false, true_imp_iff, false_imp_iff, not_true_eq_false, not_false_eq_true, eq_self, true_or, or_true, and_self, if_true, if_false, n_lit, n_of, n_an, Nat.add_sub_cancel, nI_add, pk_mul, n_sub, n_ixT, n_cl, n_leT, n_leF, n_ltT, n_ltF, n_eqT, n_eqF, Nat.reduceAdd, Nat.reduceMul, Nat.reduceSub, Nat.reduceEqDiff, Nat.reduceLT, Nat.reduceLeDiff, Nat.mul_one, Nat.one_mul, Nat.add_zero, Nat.zero_add, le_T, i1, i3, i4]
    exact hQ I (by rw [i3, tRn_e (by omega)]) F54.rf (fun _ _ => rfl)
  | succ f ih =>
    intro p I hf hp tp i3 i4 h0 hQ
    obtain ⟨n96, i1, ib, hb⟩ := id tp
    have h3 := tSo_3 (T := T) (n := n) p
    rw [w51_127]
    by_cases e : tSo T n p = s
    · simp (disch := omega) only [w51_128, w51_131, w51_132, w51_135, w51_136, w51_139, w51_140, w51_143, w51_146, w51_147, w51_148, w51_151, w51_154, w51_155, w51_158, w51_161, w51_162, w51_163, w51_166, w51_167, w51_168, w51_171, s54, s55, s56, r540, r546, aPush_s, aPush_n, vrf_s, vrf_n, true_and, and_true, false_and, and_false, true_imp_iff, false_imp_iff, not_true_eq_false, not_false_eq_true, eq_self, true_or, or_true, and_self, if_true, if_false, n_lit, n_of, n_an, Nat.add_sub_cancel, nI_add, pk_mul, n_sub, n_ixT, n_cl, n_leT, n_leF, n_ltT, n_ltF, n_eqT, n_eqF, Nat.reduceAdd, Nat.reduceMul, Nat.reduceSub, Nat.reduceEqDiff, Nat.reduceLT, Nat.reduceLeDiff, Nat.mul_one, Nat.one_mul, Nat.add_zero, Nat.zero_add, le_T, i1, i3, i4, c52 hT tp (show p ≤ 96 by omega)]
      refine ih (p + 1) _ (by omega) (by omega) (tp.fr (F54.aw (by decide))) aW_e ((aW_i (by decide)).trans i4) (fun q => by have := h0 q; omega) (fun J j2 f2 g2 => hQ J ?_ ((F54.aw (by decide)).tr f2) (fun j hj => (g2 j hj).trans (aW_i hj)))
      rw [j2, tRn_s (by omega) e]
    · simp (disch := omega) only [w51_128, w51_131, w51_132, w51_135, w51_136, w51_139, w51_140, w51_143, w51_146, w51_147, w51_148, w51_151, w51_154, w51_155, w51_158, w51_161, w51_162, w51_163, w51_166, w51_167, w51_168, w51_171, s54, s55, s56, r540, r546, aPush_s, aPush_n, vrf_s, vrf_n, true_and, and_true, false_and, and_false, true_imp_iff, false_imp_iff, not_true_eq_false, not_false_eq_true, eq_self, true_or, or_true, and_self, if_true, if_false, n_lit, n_of, n_an, Nat.add_sub_cancel, nI_add, pk_mul, n_sub, n_ixT, n_cl, n_leT, n_leF, n_ltT, n_ltF, n_eqT, n_eqF, Nat.reduceAdd, Nat.reduceMul, Nat.reduceSub, Nat.reduceEqDiff, Nat.reduceLT, Nat.reduceLeDiff, Nat.mul_one, Nat.one_mul, Nat.add_zero, Nat.zero_add, le_T, i1, i3, i4, c52 hT tp (show p ≤ 96 by omega)]
      exact hQ I (by rw [i3, tRn_e (fun q => e q.2)]) F54.rf (fun _ _ => rfl)
/-- goOn -/
theorem c51 {t : Tok} (hT : Th S R) (tp : Tp I T n) (ht : t.2.1 ≤ n) (h3 : t.2.2.1 ≤ 3) (i3 : I 54 3 = nI t.2.1) (i4 : I 54 4 = nI t.2.2.1) (hQ : ∀ J, TkC J (tNx T n t) → F54 I J → Q none (S, J, R, z)) : RM (d + 3) 51 [.ref 54] (S, I, R, z) Q := by
  obtain ⟨s54, s55, s56, r540, r546⟩ := id hT
  obtain ⟨n96, i1, ib, hb⟩ := id tp
  obtain ⟨p0, q, s, f⟩ := t
  dsimp only at ht h3 i3 i4
  have start : RB (d + 2) 51 32 [.ref 54, .int (nI (b2n (decide (s = 1 ∨ s = 2)))), .int (nI q)] [] (S, aW I 54 2 (nI q), R, z) Q → RM (d + 3) 51 [.ref 54] (S, I, R, z) Q := by
    intro h
    rcases (show s = 1 ∨ s = 2 ∨ (s ≠ 1 ∧ s ≠ 2) by omega) with e | e | ⟨e, e'⟩
    · subst e
      simp (disch := omega) only [e51, w51_0, w51_1, w51_4, w51_5, w51_8, w51_9, w51_12, w51_13, w51_16, w51_17, w51_20, w51_21, w51_22, w51_23, w51_26, w51_27, w51_28, w51_29, s54, s55, s56, r540, r546, aPush_s, aPush_n, vrf_s, vrf_n, true_and, and_true, false_and, and_false, true_imp_iff, false_imp_iff, not_true_eq_false, not_false_eq_true, eq_self, true_or, or_true, and_self, if_true, if_false, n_lit, n_of, n_an, Nat.add_sub_cancel, nI_add, pk_mul, n_sub, n_ixT, n_cl, n_leT, n_leF, n_ltT, n_ltF, n_eqT, n_eqF, Nat.reduceAdd, Nat.reduceMul, Nat.reduceSub, Nat.reduceEqDiff, Nat.reduceLT, Nat.reduceLeDiff, Nat.mul_one, Nat.one_mul, Nat.add_zero, Nat.zero_add, le_T, i3, i4]
      exact h
    · subst e
      simp (disch := omega) only [e51, w51_0, w51_1, w51_4, w51_5, w51_8, w51_9, w51_12, w51_13, w51_16, w51_17, w51_20, w51_21, w51_22, w51_23, w51_26, w51_27, w51_28, w51_29, s54, s55, s56, r540, r546, aPush_s, aPush_n, vrf_s, vrf_n, true_and, and_true, false_and, and_false, true_imp_iff, false_imp_iff, not_true_eq_false, not_false_eq_true, eq_self, true_or, or_true, and_self, if_true, if_false, n_lit, n_of, n_an, Nat.add_sub_cancel, nI_add, pk_mul, n_sub, n_ixT, n_cl, n_leT, n_leF, n_ltT, n_ltF, n_eqT, n_eqF, Nat.reduceAdd, Nat.reduceMul, Nat.reduceSub, Nat.reduceEqDiff, Nat.reduceLT, Nat.reduceLeDiff, Nat.mul_one, Nat.one_mul, Nat.add_zero, Nat.zero_add, le_T, i3, i4]
      exact h
    · rw [decide_eq_false (fun q => q.elim e e')] at h
      simp (disch := omega) only [e51, w51_0, w51_1, w51_4, w51_5, w51_8, w51_9, w51_12, w51_13, w51_16, w51_17, w51_20, w51_21, w51_22, w51_23, w51_26, w51_27, w51_28, w51_29, s54, s55, s56, r540, r546, aPush_s, aPush_n, vrf_s, vrf_n, true_and, and_true, false_and, and_false, true_imp_iff, false_imp_iff, not_true_eq_false, not_false_eq_true, eq_self, true_or, or_true, and_self, if_true, if_false, n_lit, n_of, n_an, Nat.add_sub_cancel, nI_add, pk_mul, n_sub, n_ixT, n_cl, n_leT, n_leF, n_ltT, n_ltF, n_eqT, n_eqF, Nat.reduceAdd, Nat.reduceMul, Nat.reduceSub, Nat.reduceEqDiff, Nat.reduceLT, Nat.reduceLeDiff, Nat.mul_one, Nat.one_mul, Nat.add_zero, Nat.zero_add, le_T, i3, i4]
      exact h
  apply start
  obtain ⟨b, eb⟩ : ∃ b, b = decide (s = 1 ∨ s = 2) := ⟨_, rfl⟩
  rw [← eb]
  refine l51a hT (n - q) q _ rfl ht (tp.fr (F54.aw (by decide))) aW_e (fun J j2 f2 g2 => ?_)
  have hP : tP T n q ≤ n := (tSk_le (n - q) q).2 ht
  have hs3 := tSo_3 (T := T) (n := n) (tP T n q)
  have fJ : F54 I J := (F54.aw (by decide)).tr f2
  have tpJ := tp.fr fJ
  have j1 := tpJ.2.1
  obtain ⟨P, eP⟩ : ∃ P, P = tP T n q := ⟨_, rfl⟩
  obtain ⟨s', es⟩ : ∃ s', s' = tSo T n P := ⟨_, rfl⟩
  rw [← eP] at j2 hP hs3
  rw [← es] at hs3
  have hQ : ∀ J, J 54 2 = nI P → J 54 3 = nI (tE T n s' P) → J 54 4 = nI s' → J 54 5 = nI (b2n (b && decide (P = q))) → F54 I J → Q none (S, J, R, z) := by
    intro J k2 k3 k4 k5 fr
    refine hQ J ⟨?_, ?_, ?_, ?_⟩ fr
    · rw [k2, eP]; rfl
    · rw [k3, es, eP]; rfl
    · rw [k4, es, eP]; rfl
    · rw [k5, eb, eP]; rfl
  have c : ∀ Q', RM (d + 2) 52 [.ref 54, .int (nI P)] (S, J, R, z) Q' = Q' (some (.int (nI s'))) (S, J, R, z) := fun Q' => by rw [c52 hT tpJ (by omega), es]
  have mid : RB (d + 2) 51 127 [.ref 54, .int (nI (b2n b)), .int (nI q)] [] (S, aW (aW (aW J 54 4 (nI s')) 54 5 (nI (b2n (b && decide (P = q))))) 54 3 (nI (if s' = 0 then P else P + 1)), R, z) Q → RB (d + 2) 51 70 [.ref 54, .int (nI (b2n b)), .int (nI q)] [] (S, J, R, z) Q := by
    intro h
    by_cases e0 : s' = 0
    · rw [if_pos e0] at h
      subst e0
      cases b
      · simp (disch := omega) only [w51_70, w51_71, w51_72, w51_73, w51_76, w51_79, w51_82, w51_83, w51_84, w51_87, w51_88, w51_91, w51_92, w51_95, w51_96, w51_99, w51_100, w51_103, w51_104, w51_105, w51_108, w51_111, w51_112, w51_115, w51_118, w51_119, w51_122, w51_123, w51_124, s54, s55, s56, r540, r546, aPush_s, aPush_n, vrf_s, vrf_n, true_and, and_true, false_and, and_false, true_imp_iff, false_imp_iff, not_true_eq_false, not_false_eq_true, eq_self, true_or, or_true, and_self, if_true, if_false, n_lit, n_of, n_an, Nat.add_sub_cancel, nI_add, pk_mul, n_sub, n_ixT, n_cl, n_leT, n_leF, n_ltT, n_ltF, n_eqT, n_eqF, Nat.reduceAdd, Nat.reduceMul, Nat.reduceSub, Nat.reduceEqDiff, Nat.reduceLT, Nat.reduceLeDiff, Nat.mul_one, Nat.one_mul, Nat.add_zero, Nat.zero_add, le_T, c, j2, aW_e, aW_i, b2n_f, Bool.false_and] at h ⊢
        exact h
      · by_cases ep : P = q
        · have c2 := c
          rw [ep] at c2
          simp (disch := omega) only [w51_70, w51_71, w51_72, w51_73, w51_76, w51_79, w51_82, w51_83, w51_84, w51_87, w51_88, w51_91, w51_92, w51_95, w51_96, w51_99, w51_100, w51_103, w51_104, w51_105, w51_108, w51_111, w51_112, w51_115, w51_118, w51_119, w51_122, w51_123, w51_124, s54, s55, s56, r540, r546, aPush_s, aPush_n, vrf_s, vrf_n, true_and, and_true, false_and, and_false, true_imp_iff, false_imp_iff, not_true_eq_false, not_false_eq_true, eq_self, true_or, or_true, and_self, if_true, if_false, n_lit, n_of, n_an, Nat.add_sub_cancel, nI_add, pk_mul, n_sub, n_ixT, n_cl, n_leT, n_leF, n_ltT, n_ltF, n_eqT, n_eqF, Nat.reduceAdd, Nat.reduceMul, Nat.reduceSub, Nat.reduceEqDiff, Nat.reduceLT, Nat.reduceLeDiff, Nat.mul_one, Nat.one_mul, Nat.add_zero, Nat.zero_add, le_T, c2, j2, aW_e, aW_i, b2n_t, ep, decide_true, Bool.and_self] at h ⊢
          exact h
        · simp (disch := omega) only [w51_70, w51_71, w51_72, w51_73, w51_76, w51_79, w51_82, w51_83, w51_84, w51_87, w51_88, w51_91, w51_92, w51_95, w51_96, w51_99, w51_100, w51_103, w51_104, w51_105, w51_108, w51_111, w51_112, w51_115, w51_118, w51_119, w51_122, w51_123, w51_124, s54, s55, s56, r540, r546, aPush_s, aPush_n, vrf_s, vrf_n, true_and, and_true, false_and, and_false, true_imp_iff, false_imp_iff, not_true_eq_false, not_false_eq_true, eq_self, true_or, or_true, and_self, if_true, if_false, n_lit, n_of, n_an, Nat.add_sub_cancel, nI_add, pk_mul, n_sub, n_ixT, n_cl, n_leT, n_leF, n_ltT, n_ltF, n_eqT, n_eqF, Nat.reduceAdd, Nat.reduceMul, Nat.reduceSub, Nat.reduceEqDiff, Nat.reduceLT, Nat.reduceLeDiff, Nat.mul_one, Nat.one_mul, Nat.add_zero, Nat.zero_add, le_T, c, j2, aW_e, aW_i, b2n_t, b2n_f, decide_eq_false ep, Bool.and_false] at h ⊢
          exact h
    · rw [if_neg e0] at h
      cases b
      · simp (disch := omega) only [w51_70, w51_71, w51_72, w51_73, w51_76, w51_79, w51_82, w51_83, w51_84, w51_87, w51_88, w51_91, w51_92, w51_95, w51_96, w51_99, w51_100, w51_103, w51_104, w51_105, w51_108, w51_111, w51_112, w51_115, w51_118, w51_119, w51_122, w51_123, w51_124, s54, s55, s56, r540, r546, aPush_s, aPush_n, vrf_s, vrf_n, true_and, and_true, false_and, and_false, true_imp_iff, false_imp_iff, not_true_eq_false, not_false_eq_true, eq_self, true_or, or_true, and_self, if_true, if_false, n_lit, n_of, n_an, Nat.add_sub_cancel, nI_add, pk_mul, n_sub, n_ixT, n_cl, n_leT, n_leF, n_ltT, n_ltF, n_eqT, n_eqF, Nat.reduceAdd, Nat.reduceMul, Nat.reduceSub, Nat.reduceEqDiff, Nat.reduceLT, Nat.reduceLeDiff, Nat.mul_one, Nat.one_mul, Nat.add_zero, Nat.zero_add, le_T, c, j2, aW_e, aW_i, b2n_f, Bool.false_and] at h ⊢
        exact h
      · by_cases ep : P = q
        · have c2 := c
          rw [ep] at c2
          simp (disch := omega) only [w51_70, w51_71, w51_72, w51_73, w51_76, w51_79, w51_82, w51_83, w51_84, w51_87, w51_88, w51_91, w51_92, w51_95, w51_96, w51_99, w51_100, w51_103, w51_104, w51_105, w51_108, w51_111, w51_112, w51_115, w51_118, w51_119, w51_122, w51_123, w51_124, s54, s55, s56, r540, r546, aPush_s, aPush_n, vrf_s, vrf_n, true_and, and_true, false_and, and_false, true_imp_iff, false_imp_iff, not_true_eq_false, not_false_eq_true, eq_self, true_or, or_true, and_self, if_true, if_false, n_lit, n_of, n_an, Nat.add_sub_cancel, nI_add, pk_mul, n_sub, n_ixT, n_cl, n_leT, n_leF, n_ltT, n_ltF, n_eqT, n_eqF, Nat.reduceAdd, Nat.reduceMul, Nat.reduceSub, Nat.reduceEqDiff, Nat.reduceLT, Nat.reduceLeDiff, Nat.mul_one, Nat.one_mul, Nat.add_zero, Nat.zero_add, le_T, c2, j2, aW_e, aW_i, b2n_t, ep, decide_true, Bool.and_self] at h ⊢
          exact h
        · simp (disch := omega) only [w51_70, w51_71, w51_72, w51_73, w51_76, w51_79, w51_82, w51_83, w51_84, w51_87, w51_88, w51_91, w51_92, w51_95, w51_96, w51_99, w51_100, w51_103, w51_104, w51_105, w51_108, w51_111, w51_112, w51_115, w51_118, w51_119, w51_122, w51_123, w51_124, s54, s55, s56, r540, r546, aPush_s, aPush_n, vrf_s, vrf_n, true_and, and_true, false_and, and_false, true_imp_iff, false_imp_iff, not_true_eq_false, not_false_eq_true, eq_self, true_or, or_true, and_self, if_true, if_false, n_lit, n_of, n_an, Nat.add_sub_cancel, nI_add, pk_mul, n_sub, n_ixT, n_cl, n_leT, n_leF, n_ltT, n_ltF, n_eqT, n_eqF, Nat.reduceAdd, Nat.reduceMul, Nat.reduceSub, Nat.reduceEqDiff, Nat.reduceLT, Nat.reduceLeDiff, Nat.mul_one, Nat.one_mul, Nat.add_zero, Nat.zero_add, le_T, c, j2, aW_e, aW_i, b2n_t, b2n_f, decide_eq_false ep, Bool.and_false] at h ⊢
          exact h
  apply mid
  have fK : F54 I (aW (aW (aW J 54 4 (nI s')) 54 5 (nI (b2n (b && decide (P = q))))) 54 3 (nI (if s' = 0 then P else P + 1))) := ((fJ.tr (F54.aw (by decide))).tr (F54.aw (by decide))).tr (F54.aw (by decide))
  obtain ⟨K, eK⟩ : ∃ K, K = aW (aW (aW J 54 4 (nI s')) 54 5 (nI (b2n (b && decide (P = q))))) 54 3 (nI (if s' = 0 then P else P + 1)) := ⟨_, rfl⟩
  rw [← eK] at fK ⊢
  have k2 : K 54 2 = nI P := by rw [eK, aW_i (by decide), aW_i (by decide), aW_i (by decide), j2]
  have k3 : K 54 3 = nI (if s' = 0 then P else P + 1) := by rw [eK, aW_e]
  have k4 : K 54 4 = nI s' := by rw [eK, aW_i (by decide), aW_i (by decide), aW_e]
  have k5 : K 54 5 = nI (b2n (b && decide (P = q))) := by rw [eK, aW_i (by decide), aW_e]
  by_cases e3 : s' = 3
  · rw [w51_127]
    have hQ' := hQ K k2 (by rw [k3]; unfold tE; rw [if_neg (by omega), if_neg (by omega), if_pos e3]) k4 k5 fK
    simp (disch := omega) only [w51_128, w51_131, w51_132, w51_135, w51_136, w51_139, w51_140, w51_143, w51_146, w51_147, w51_148, w51_151, w51_154, w51_155, w51_158, w51_161, w51_162, w51_163, w51_166, w51_167, w51_168, w51_171, w51_174, s54, s55, s56, r540, r546, aPush_s, aPush_n, vrf_s, vrf_n, true_and, and_true, false_and, and_false, true_imp_iff, false_imp_iff, not_true_eq_false, not_false_eq_true, eq_self, true_or, or_true, and_self, if_true, if_false, n_lit, n_of, n_an, Nat.add_sub_cancel, nI_add, pk_mul, n_sub, n_ixT, n_cl, n_leT, n_leF, n_ltT, n_ltF, n_eqT, n_eqF, Nat.reduceAdd, Nat.reduceMul, Nat.reduceSub, Nat.reduceEqDiff, Nat.reduceLT, Nat.reduceLeDiff, Nat.mul_one, Nat.one_mul, Nat.add_zero, Nat.zero_add, le_T, k4]
    exact hQ'
  · have h0 : s' ≠ 0 → P < n := fun q => tSo_n (T := T) (by rw [← es]; exact q)
    have h0' : s' = 0 → P = n := fun q => by
      rcases Nat.lt_or_ge P n with g | g
      · exact absurd (es.symm.trans q) (tSo_0 g)
      · omega
    refine l51b hT (by omega) (n - (if s' = 0 then P else P + 1)) (if s' = 0 then P else P + 1) K rfl ?_ (tp.fr fK) k3 k4 (fun q => by rw [if_pos q]; exact h0' q) (fun L l3 f3 g3 => ?_)
    · split
      · exact hP
      · rename_i q
        exact h0 q
    · have hQ' := hQ L ((g3 2 (by decide)).trans k2) ?_ ((g3 4 (by decide)).trans k4) ((g3 5 (by decide)).trans k5) (fK.tr f3)
      · simp (disch := omega) only [w51_174]
        exact hQ'
      · rw [l3]
        unfold tE
        split
        · rename_i q
          rw [tRn_e (by have := h0' q; omega)]
        · first | rfl | rw [if_neg e3]
end
