/-! the object's constructor -/
section
variable {d u : Nat} {S S' : Nat → Nat × Nat} {I I' : Nat → Nat → Int32} {R R' : Nat → Nat → Option Nat} {Q : Option Value → HS → Prop}
theorem Cs.newc {r : Nat} (h : ∀ g, IsNew g → Cs S I R r g) (e : ∀ q, r ≤ q → q ≤ r + 10 → S' q = S q ∧ I' q = I q ∧ R' q = R q) : ∀ g, IsNew g → Cs S' I' R' r g := by
  intro g hg
  obtain ⟨hr, sd, ok, cn, ⟨a1, a2, a3, a4, a5, a7⟩, ct⟩ := h g hg
  obtain ⟨h0, h1, h2, h3, h4, h5, h6, h7⟩ := hg
  have e0 := e r (by omega) (by omega)
  refine ⟨hr, ?_, ok, ?_, ⟨fun w hw => by omega, fun w hw => by omega, fun w hw => by omega, fun w hw => by omega, fun w hw => by omega, fun k hk => ?_⟩, fun t ht => by omega⟩
  · unfold Sd at sd ⊢
    rw [e0.1, e0.2.2, (e (r + 1) (by omega) (by omega)).1, (e (r + 2) (by omega) (by omega)).1, (e (r + 3) (by omega) (by omega)).1, (e (r + 4) (by omega) (by omega)).1, (e (r + 5) (by omega) (by omega)).1, (e (r + 6) (by omega) (by omega)).1, (e (r + 7) (by omega) (by omega)).1, (e (r + 8) (by omega) (by omega)).1, (e (r + 9) (by omega) (by omega)).1, (e (r + 10) (by omega) (by omega)).1]
    exact sd
  · unfold Cn at cn ⊢
    rw [e0.2.1]
    exact cn
  · rw [(e (r + 7) (by omega) (by omega)).2.1]
    exact a7 k hk
def ShN (S : Nat → Nat × Nat) (I : Nat → Nat → Int32) (R : Nat → Nat → Option Nat) (n : Nat) : Prop := ∀ j, j < n → R 52 j = some (58 + 2 * j) ∧ S (58 + 2 * j) = (0, 3) ∧ S (59 + 2 * j) = (9, 24) ∧ R (58 + 2 * j) 0 = some (59 + 2 * j) ∧ I (58 + 2 * j) 1 = -nI 1 ∧ I (58 + 2 * j) 2 = nI 0 ∧ ∀ k, I (59 + 2 * j) k = nI 0
def SlN (S : Nat → Nat × Nat) (I : Nat → Nat → Int32) (R : Nat → Nat → Option Nat) (n : Nat) : Prop := ∀ j, j < n → R 53 j = some (66 + 3 * j) ∧ S (66 + 3 * j) = (1, 5) ∧ R (66 + 3 * j) 4 = some (67 + 3 * j) ∧ S (67 + 3 * j) = (0, 3) ∧ R (67 + 3 * j) 0 = some (68 + 3 * j) ∧ S (68 + 3 * j) = (9, 24) ∧ I (66 + 3 * j) 0 = nI 0
theorem l76a (h16 : S 16 = (6, 10)) (hR4 : R 16 4 = some 52) (h52 : S 52 = (11, 4)) (hQ : ∀ S' I' R' u', (∀ q, q < 58 → S' q = S q ∧ I' q = I q) → (∀ q, 66 ≤ q → S' q = S q) → (∀ q, q < 58 → q ≠ 52 → R' q = R q) → ShN S' I' R' 4 → u' ≤ u + 108 → RB (d + 3) 76 119 [.ref 16, .int (nI 4)] [] (S', I', R', (66, u')) Q) : ∀ (j i : Nat) (S' : Nat → Nat × Nat) (I' : Nat → Nat → Int32) (R' : Nat → Nat → Option Nat) (u' : Nat), i + j = 4 → (∀ q, q < 58 → S' q = S q ∧ I' q = I q) → (∀ q, 58 + 2 * i ≤ q → S' q = S q) → (∀ q, q < 58 → q ≠ 52 → R' q = R q) → ShN S' I' R' i → u' ≤ u + 27 * i → RB (d + 3) 76 95 [.ref 16, .int (nI i)] [] (S', I', R', (58 + 2 * i, u')) Q
  | 0, i, S', I', R', u', h, h1, h2, h3, h4, h5 => by
    obtain rfl : i = 4 := by omega
    rw [w76_95]
    simp (disch := omega) only [w76_96, w76_97, w76_100, w76_101, w76_104, w76_105, w76_108, w76_109, w76_112, w76_112N, w76_113, w76_116, aPush_s, aPush_n, vrf_s, vrf_n, true_and, and_true, false_and, and_false, true_imp_iff, false_imp_iff, not_true_eq_false, not_false_eq_true, eq_self, true_or, or_true, and_self, if_true, if_false, n_lit, n_of, n_an, Nat.add_sub_cancel, nI_add, pk_mul, n_sub, n_ixT, n_cl, n_leT, n_leF, n_ltT, n_ltF, n_eqT, n_eqF, Nat.reduceAdd, Nat.reduceMul, Nat.reduceSub, Nat.reduceEqDiff, Nat.reduceLT, Nat.reduceLeDiff, Nat.mul_one, Nat.one_mul, Nat.add_zero, Nat.zero_add]
    exact hQ S' I' R' u' h1 h2 h3 h4 h5
  | j + 1, i, S', I', R', u', h, h1, h2, h3, h4, h5 => by
    have s16 : S' 16 = (6, 10) := (h1 16 (by decide)).1.trans h16
    have s52 : S' 52 = (11, 4) := (h1 52 (by decide)).1.trans h52
    have r4 : R' 16 4 = some 52 := by rw [h3 16 (by decide) (by decide)]; exact hR4
    have o11 : aOfK 11 = 0 := by decide
    have ih := l76a h16 hR4 h52 hQ j (i + 1)
    have e59 : 59 + 2 * i = 58 + 2 * i + 1 := by omega
    rw [w76_95]
    simp (disch := omega) only [w76_96, w76_97, w76_100, w76_101, w76_104, w76_105, w76_108, w76_109, w76_112, w76_112N, w76_113, w76_116, e0, w0_0, w0_1, w0_4, w0_5, w0_7, w0_9, w0_12, w0_13, w0_14, w0_17, w0_18, w0_19, w0_22, aNc_t, nS_e, aPush_s, aPush_n, vrf_s, vrf_n, true_and, and_true, false_and, and_false, true_imp_iff, false_imp_iff, not_true_eq_false, not_false_eq_true, eq_self, true_or, or_true, and_self, if_true, if_false, n_lit, n_of, n_cl, n_ltF, n_ltT, n_leT, n_leF, n_ixT, nI_add, le_T, Nat.reduceAdd, Nat.reduceLeDiff, Nat.reduceLT, Nat.reduceEqDiff, RM_obj, nS_o, s16, s52, r4, o11]
    rw [show 58 + 2 * i + 1 + 1 = 58 + 2 * (i + 1) by omega]
    refine ih _ _ _ _ (by omega) (fun q hq => ⟨?_, ?_⟩) (fun q hq => ?_) (fun q hq q2 => ?_) (fun k hk => ?_) (by omega)
    · simp (disch := omega) only [nS_o]
      exact (h1 q hq).1
    · simp (disch := omega) only [nZ_o, aW_o]
      exact (h1 q hq).2
    · simp (disch := omega) only [nS_o]
      exact h2 q (by omega)
    · simp (disch := omega) only [nN_o, aR_o]
      exact h3 q hq q2
    · by_cases e : k = i
      · subst e
        rw [e59]
        refine ⟨?_, ?_, ?_, ?_, ?_, ?_, fun l => ?_⟩
        · rw [aR_e]
        · simp (disch := omega) only [nS_o, nS_e]
        · rw [nS_e]
        · simp (disch := omega) only [aR_o, aR_e]
        · simp (disch := omega) only [aW_e, aW_i]
        · rw [aW_e]
        · simp (disch := omega) only [aW_o, nZ_e]
      · obtain ⟨g1, g2, g3, g4, g5, g6, g7⟩ := h4 k (by omega)
        refine ⟨?_, ?_, ?_, ?_, ?_, ?_, fun l => ?_⟩
        · rw [aR_i e]
          simp (disch := omega) only [nN_o, aR_o]
          exact g1
        · simp (disch := omega) only [nS_o]; exact g2
        · simp (disch := omega) only [nS_o]; exact g3
        · simp (disch := omega) only [nN_o, aR_o]; exact g4
        · simp (disch := omega) only [nZ_o, aW_o]; exact g5
        · simp (disch := omega) only [nZ_o, aW_o]; exact g6
        · simp (disch := omega) only [nZ_o, aW_o]; exact g7 l
theorem l76b (h16 : S 16 = (6, 10)) (hR5 : R 16 5 = some 53) (h53 : S 53 = (12, 5)) (hQ : ∀ S' I' R' u', (∀ q, q < 66 → S' q = S q ∧ I' q = I q) → (∀ q, 81 ≤ q → S' q = S q) → (∀ q, q < 66 → q ≠ 53 → R' q = R q) → SlN S' I' R' 5 → u' ≤ u + 160 → RB (d + 4) 76 145 [.ref 16, .int (nI 5)] [] (S', I', R', (81, u')) Q) : ∀ (j i : Nat) (S' : Nat → Nat × Nat) (I' : Nat → Nat → Int32) (R' : Nat → Nat → Option Nat) (u' : Nat), i + j = 5 → (∀ q, q < 66 → S' q = S q ∧ I' q = I q) → (∀ q, 66 + 3 * i ≤ q → S' q = S q) → (∀ q, q < 66 → q ≠ 53 → R' q = R q) → SlN S' I' R' i → u' ≤ u + 32 * i → RB (d + 4) 76 121 [.ref 16, .int (nI i)] [] (S', I', R', (66 + 3 * i, u')) Q
  | 0, i, S', I', R', u', h, h1, h2, h3, h4, h5 => by
    obtain rfl : i = 5 := by omega
    rw [w76_121]
    simp (disch := omega) only [w76_122, w76_123, w76_126, w76_127, w76_130, w76_131, w76_134, w76_135, w76_138, w76_138N, w76_139, w76_142, aPush_s, aPush_n, vrf_s, vrf_n, true_and, and_true, false_and, and_false, true_imp_iff, false_imp_iff, not_true_eq_false, not_false_eq_true, eq_self, true_or, or_true, and_self, if_true, if_false, n_lit, n_of, n_an, Nat.add_sub_cancel, nI_add, pk_mul, n_sub, n_ixT, n_cl, n_leT, n_leF, n_ltT, n_ltF, n_eqT, n_eqF, Nat.reduceAdd, Nat.reduceMul, Nat.reduceSub, Nat.reduceEqDiff, Nat.reduceLT, Nat.reduceLeDiff, Nat.mul_one, Nat.one_mul, Nat.add_zero, Nat.zero_add]
    exact hQ S' I' R' u' h1 h2 h3 h4 h5
  | j + 1, i, S', I', R', u', h, h1, h2, h3, h4, h5 => by
    have s16 : S' 16 = (6, 10) := (h1 16 (by decide)).1.trans h16
    have s53 : S' 53 = (12, 5) := (h1 53 (by decide)).1.trans h53
    have r5 : R' 16 5 = some 53 := by rw [h3 16 (by decide) (by decide)]; exact hR5
    have o12 : aOfK 12 = 1 := by decide
    have ih := l76b h16 hR5 h53 hQ j (i + 1)
    have e67 : 67 + 3 * i = 66 + 3 * i + 1 := by omega
    have e68 : 68 + 3 * i = 66 + 3 * i + 1 + 1 := by omega
    rw [w76_121]
    simp (disch := omega) only [w76_122, w76_123, w76_126, w76_127, w76_130, w76_131, w76_134, w76_135, w76_138, w76_138N, w76_139, w76_142, e7, w7_0, w7_1, w7_4, w7_5, w7_6, w7_9, w7_10, w7_11, w7_14, w7_15, w7_16, w7_19, w7_20, w7_21, w7_24, w7_25, w7_28, w7_29, w7_32, w7_35, e0, w0_0, w0_1, w0_4, w0_5, w0_7, w0_9, w0_12, w0_13, w0_14, w0_17, w0_18, w0_19, w0_22, aNc_t, nS_e, aPush_s, aPush_n, vrf_s, vrf_n, true_and, and_true, false_and, and_false, true_imp_iff, false_imp_iff, not_true_eq_false, not_false_eq_true, eq_self, true_or, or_true, and_self, if_true, if_false, n_lit, n_of, n_cl, n_ltF, n_ltT, n_leT, n_leF, n_ixT, nI_add, le_T, Nat.reduceAdd, Nat.reduceLeDiff, Nat.reduceLT, Nat.reduceEqDiff, RM_obj, nS_o, s16, s53, r5, o12]
    rw [show 66 + 3 * i + 1 + 1 + 1 = 66 + 3 * (i + 1) by omega]
    refine ih _ _ _ _ (by omega) (fun q hq => ⟨?_, ?_⟩) (fun q hq => ?_) (fun q hq q2 => ?_) (fun k hk => ?_) (by omega)
    · simp (disch := omega) only [nS_o]
      exact (h1 q hq).1
    · simp (disch := omega) only [nZ_o, aW_o]
      exact (h1 q hq).2
    · simp (disch := omega) only [nS_o]
      exact h2 q (by omega)
    · simp (disch := omega) only [nN_o, aR_o]
      exact h3 q hq q2
    · by_cases e : k = i
      · subst e
        rw [e67, e68]
        refine ⟨?_, ?_, ?_, ?_, ?_, ?_, ?_⟩
        · rw [aR_e]
        · simp (disch := omega) only [nS_o, nS_e]
        · simp (disch := omega) only [aR_o, aR_e]
        · simp (disch := omega) only [nS_o, nS_e]
        · simp (disch := omega) only [aR_o, aR_e]
        · rw [nS_e]
        · simp (disch := omega) only [aW_o, nZ_o, aW_e, aW_i]
      · obtain ⟨g1, g2, g3, g4, g5, g6, g7⟩ := h4 k (by omega)
        refine ⟨?_, ?_, ?_, ?_, ?_, ?_, ?_⟩
        · rw [aR_i e]
          simp (disch := omega) only [nN_o, aR_o]
          exact g1
        · simp (disch := omega) only [nS_o]; exact g2
        · simp (disch := omega) only [nN_o, aR_o]; exact g3
        · simp (disch := omega) only [nS_o]; exact g4
        · simp (disch := omega) only [nN_o, aR_o]; exact g5
        · simp (disch := omega) only [nS_o]; exact g6
        · simp (disch := omega) only [nZ_o, aW_o]; exact g7
/-- a new object, at 16 -/
def NwO (S : Nat → Nat × Nat) (I : Nat → Nat → Int32) (R : Nat → Nat → Option Nat) : Prop := (∀ g, IsNew g → Cs S I R 17 g) ∧ (∀ g, IsNew g → Cs S I R 28 g) ∧ (∀ g, IsNew g → Cs S I R 39 g) ∧ (∀ t, R 23 t = none) ∧ (∀ t, R 34 t = none) ∧ ShN S I R 4 ∧ SlN S I R 5 ∧ S 16 = (6, 10) ∧ S 52 = (11, 4) ∧ S 53 = (12, 5) ∧ S 54 = (3, 12) ∧ S 55 = (9, 96) ∧ S 56 = (9, 96) ∧ S 57 = (9, 60) ∧ S 50 = (5, 3) ∧ S 51 = (9, 768) ∧ R 16 0 = some 17 ∧ R 16 1 = some 28 ∧ R 16 2 = some 39 ∧ R 16 3 = some 50 ∧ R 16 4 = some 52 ∧ R 16 5 = some 53 ∧ R 16 6 = some 54 ∧ R 16 7 = some 57 ∧ R 54 0 = some 55 ∧ R 54 6 = some 56 ∧ R 50 0 = some 51 ∧ I 16 8 = nI 0 ∧ I 16 9 = nI 0 ∧ I 54 1 = nI 0 ∧ I 54 10 = nI 0 ∧ I 54 11 = nI 0
theorem c76 (h16 : S 16 = (6, 10)) (h99 : ∀ q, 17 ≤ q → S q = (99, 0)) (hQ : ∀ S' I' R' u', (∀ q, q < 16 → S' q = S q ∧ I' q = I q ∧ R' q = R q) → (∀ q, 81 ≤ q → S' q = (99, 0)) → NwO S' I' R' → u' ≤ u + 5000 → Q none (S', I', R', (81, u'))) : RM (d + 5) 76 [.ref 16] (S, I, R, (17, u)) Q := by
  simp (disch := omega) only [e76, w76_0, w76_1, w76_4, w76_5, w76_8, w76_9, w76_12, w76_15, w76_16, w76_19, w76_20, w76_23, w76_26, w76_27, w76_30, w76_31, w76_34, w76_37, w76_38, w76_41, w76_42, w76_45, w76_48, w76_49, w76_50, w76_53, w76_56, w76_57, w76_58, w76_61, w76_64, w76_65, w76_68, w76_69, w76_72, w76_75, w76_76, w76_78, w76_80, w76_83, w76_84, w76_85, w76_88, w76_89, w76_90, w76_93, w76_94, aNc_t, nS_e, aPush_s, aPush_n, vrf_s, vrf_n, true_and, and_true, false_and, and_false, true_imp_iff, false_imp_iff, not_true_eq_false, not_false_eq_true, eq_self, true_or, or_true, and_self, if_true, if_false, n_lit, n_of, n_cl, n_ltF, n_ltT, n_leT, n_leF, n_ixT, nI_add, le_T, Nat.reduceAdd, Nat.reduceLeDiff, Nat.reduceLT, Nat.reduceEqDiff, RM_obj, nS_o, h16]
  refine c8_17 nS_e ?_
  intro S1 I1 R1 a1 a2 a3 a4 a5 a6
  have s1 : S1 16 = (6, 10) := by rw [a1 16 (by decide), nS_o (by decide)]; exact h16
  simp (disch := omega) only [w76_0, w76_1, w76_4, w76_5, w76_8, w76_9, w76_12, w76_15, w76_16, w76_19, w76_20, w76_23, w76_26, w76_27, w76_30, w76_31, w76_34, w76_37, w76_38, w76_41, w76_42, w76_45, w76_48, w76_49, w76_50, w76_53, w76_56, w76_57, w76_58, w76_61, w76_64, w76_65, w76_68, w76_69, w76_72, w76_75, w76_76, w76_78, w76_80, w76_83, w76_84, w76_85, w76_88, w76_89, w76_90, w76_93, w76_94, aNc_t, nS_e, aPush_s, aPush_n, vrf_s, vrf_n, true_and, and_true, false_and, and_false, true_imp_iff, false_imp_iff, not_true_eq_false, not_false_eq_true, eq_self, true_or, or_true, and_self, if_true, if_false, n_lit, n_of, n_cl, n_ltF, n_ltT, n_leT, n_leF, n_ixT, nI_add, le_T, Nat.reduceAdd, Nat.reduceLeDiff, Nat.reduceLT, Nat.reduceEqDiff, RM_obj, nS_o, s1]
  refine c8_28 nS_e ?_
  intro S2 I2 R2 b1 b2 b3 b4 b5 b6
  have s2 : S2 16 = (6, 10) := by rw [b1 16 (by decide), nS_o (by decide)]; exact s1
  simp (disch := omega) only [w76_0, w76_1, w76_4, w76_5, w76_8, w76_9, w76_12, w76_15, w76_16, w76_19, w76_20, w76_23, w76_26, w76_27, w76_30, w76_31, w76_34, w76_37, w76_38, w76_41, w76_42, w76_45, w76_48, w76_49, w76_50, w76_53, w76_56, w76_57, w76_58, w76_61, w76_64, w76_65, w76_68, w76_69, w76_72, w76_75, w76_76, w76_78, w76_80, w76_83, w76_84, w76_85, w76_88, w76_89, w76_90, w76_93, w76_94, aNc_t, nS_e, aPush_s, aPush_n, vrf_s, vrf_n, true_and, and_true, false_and, and_false, true_imp_iff, false_imp_iff, not_true_eq_false, not_false_eq_true, eq_self, true_or, or_true, and_self, if_true, if_false, n_lit, n_of, n_cl, n_ltF, n_ltT, n_leT, n_leF, n_ixT, nI_add, le_T, Nat.reduceAdd, Nat.reduceLeDiff, Nat.reduceLT, Nat.reduceEqDiff, RM_obj, nS_o, s2]
  refine c8_39 nS_e ?_
  intro S3 I3 R3 f1 f2 f3 f4 f5 f6
  have s3 : S3 16 = (6, 10) := by rw [f1 16 (by decide), nS_o (by decide)]; exact s2
  simp (disch := omega) only [w76_0, w76_1, w76_4, w76_5, w76_8, w76_9, w76_12, w76_15, w76_16, w76_19, w76_20, w76_23, w76_26, w76_27, w76_30, w76_31, w76_34, w76_37, w76_38, w76_41, w76_42, w76_45, w76_48, w76_49, w76_50, w76_53, w76_56, w76_57, w76_58, w76_61, w76_64, w76_65, w76_68, w76_69, w76_72, w76_75, w76_76, w76_78, w76_80, w76_83, w76_84, w76_85, w76_88, w76_89, w76_90, w76_93, w76_94, e70, w70_0, w70_1, w70_4, w70_5, w70_8, w70_10, w70_13, w70_14, w70_15, w70_18, w70_19, w70_21, w70_24, e45, w45_0, w45_1, w45_4, w45_5, w45_7, w45_9, w45_12, w45_13, w45_14, w45_17, w45_18, w45_19, w45_22, w45_23, w45_24, w45_27, w45_28, w45_29, w45_32, w45_33, w45_34, w45_37, w45_38, w45_40, w45_42, w45_45, w45_46, w45_47, w45_50, w45_51, w45_52, w45_55, w45_56, w45_57, w45_60, w45_61, w45_62, w45_65, w45_66, w45_67, w45_70, aNc_t, nS_e, aPush_s, aPush_n, vrf_s, vrf_n, true_and, and_true, false_and, and_false, true_imp_iff, false_imp_iff, not_true_eq_false, not_false_eq_true, eq_self, true_or, or_true, and_self, if_true, if_false, n_lit, n_of, n_cl, n_ltF, n_ltT, n_leT, n_leF, n_ixT, nI_add, le_T, Nat.reduceAdd, Nat.reduceLeDiff, Nat.reduceLT, Nat.reduceEqDiff, RM_obj, nS_o, s3]
  refine l76a ?_ ?_ ?_ ?_ 4 0 _ _ _ _ rfl (fun q hq => ⟨rfl, rfl⟩) (fun q hq => rfl) (fun q hq _ => rfl) (fun j hj => absurd hj (Nat.not_lt_zero _)) (Nat.le_refl _)
  · simp (disch := omega) only [nS_o]
    exact s3
  · simp (disch := omega) only [nN_o, aR_o, aR_i, aR_e]
  · simp (disch := omega) only [nS_o, nS_e]
  intro S4 I4 R4 u4 g1 g2 g3 g4 g5
  simp (disch := omega) only [w76_119, w76_120, aPush_s, aPush_n, vrf_s, vrf_n, true_and, and_true, false_and, and_false, true_imp_iff, false_imp_iff, not_true_eq_false, not_false_eq_true, eq_self, true_or, or_true, and_self, if_true, if_false, n_lit]
  refine l76b ?_ ?_ ?_ ?_ 5 0 S4 I4 R4 u4 rfl (fun q hq => ⟨rfl, rfl⟩) (fun q hq => rfl) (fun q hq _ => rfl) (fun j hj => absurd hj (Nat.not_lt_zero _)) (Nat.le_refl _)
  · rw [(g1 16 (by decide)).1]
    simp (disch := omega) only [nS_o]
    exact s3
  · rw [g3 16 (by decide) (by decide)]
    simp (disch := omega) only [nN_o, aR_o, aR_i, aR_e]
  · rw [(g1 53 (by decide)).1]
    simp (disch := omega) only [nS_o, nS_e]
  intro S5 I5 R5 u5 k1 k2 k3 k4 k5
  simp (disch := omega) only [w76_145, aPush_s, aPush_n, vrf_s, vrf_n, true_and, and_true, false_and, and_false, true_imp_iff, false_imp_iff, not_true_eq_false, not_false_eq_true, eq_self, true_or, or_true, and_self, if_true, if_false]
  have x1 : ∀ q, q < 50 → q ≠ 16 → S5 q = S3 q ∧ I5 q = I3 q ∧ R5 q = R3 q := by
    intro q hq h16
    refine ⟨?_, ?_, ?_⟩
    · rw [(k1 q (by omega)).1, (g1 q (by omega)).1]
      simp (disch := omega) only [nS_o]
    · rw [(k1 q (by omega)).2, (g1 q (by omega)).2]
      simp (disch := omega) only [nZ_o, aW_o]
    · rw [k3 q (by omega) (by omega), g3 q (by omega) (by omega)]
      simp (disch := omega) only [nN_o, aR_o]
  have x2 : ∀ q, q < 39 → q ≠ 16 → S5 q = S2 q ∧ I5 q = I2 q ∧ R5 q = R2 q := by
    intro q hq h16
    obtain ⟨y1, y2, y3⟩ := x1 q (by omega) h16
    refine ⟨?_, ?_, ?_⟩
    · rw [y1, f1 q (by omega)]
      simp (disch := omega) only [nS_o]
    · rw [y2, f3 q hq]
      simp (disch := omega) only [nZ_o]
    · rw [y3, f4 q hq]
      simp (disch := omega) only [nN_o, aR_o]
  have x3 : ∀ q, q < 28 → q ≠ 16 → S5 q = S1 q ∧ I5 q = I1 q ∧ R5 q = R1 q := by
    intro q hq h16
    obtain ⟨y1, y2, y3⟩ := x2 q (by omega) h16
    refine ⟨?_, ?_, ?_⟩
    · rw [y1, b1 q (by omega)]
      simp (disch := omega) only [nS_o]
    · rw [y2, b3 q hq]
      simp (disch := omega) only [nZ_o]
    · rw [y3, b4 q hq]
      simp (disch := omega) only [nN_o, aR_o]
  have z3 : ∀ q, 50 ≤ q → S3 q = (99, 0) := by
    intro q hq
    rw [f2 q hq, nS_o (by omega), b2 q (by omega), nS_o (by omega), a2 q (by omega), nS_o (by omega)]
    exact h99 q (by omega)
  have sl : ∀ q, q < 58 → S5 q = S4 q := fun q hq => (k1 q (by omega)).1
  have il : ∀ q, q < 58 → I5 q = I4 q := fun q hq => (k1 q (by omega)).2
  have rl : ∀ q, q < 58 → q ≠ 53 → R5 q = R4 q := fun q hq h => k3 q (by omega) h
  refine hQ S5 I5 R5 u5 (fun q hq => ?_) (fun q hq => ?_) ⟨?_, ?_, ?_, ?_, ?_, ?_, k4, ?_, ?_, ?_, ?_, ?_, ?_, ?_, ?_, ?_, ?_, ?_, ?_, ?_, ?_, ?_, ?_, ?_, ?_, ?_, ?_, ?_, ?_, ?_, ?_, ?_⟩ (by omega)
  · obtain ⟨y1, y2, y3⟩ := x3 q (by omega) (by omega)
    refine ⟨?_, ?_, ?_⟩
    · rw [y1, a1 q (by omega), nS_o (by omega)]
    · rw [y2, a3 q (by omega), nZ_o (by omega)]
    · rw [y3, a4 q (by omega), nN_o (by omega)]
  · rw [k2 q hq, g2 q (by omega)]
    simp (disch := omega) only [nS_o]
    exact z3 q (by omega)
  · exact Cs.newc a5 (fun q h1 h2 => x3 q (by omega) (by omega))
  · exact Cs.newc b5 (fun q h1 h2 => x2 q (by omega) (by omega))
  · exact Cs.newc f5 (fun q h1 h2 => x1 q (by omega) (by omega))
  · intro t
    rw [(x3 23 (by decide) (by decide)).2.2]
    exact a6 t
  · intro t
    rw [(x2 34 (by decide) (by decide)).2.2]
    exact b6 t
  · intro j hj
    obtain ⟨y1, y2, y3, y4, y5, y6, y7⟩ := g4 j hj
    rw [k3 52 (by decide) (by decide), (k1 (58 + 2 * j) (by omega)).1, (k1 (59 + 2 * j) (by omega)).1, k3 (58 + 2 * j) (by omega) (by omega), (k1 (58 + 2 * j) (by omega)).2, (k1 (59 + 2 * j) (by omega)).2]
    exact ⟨y1, y2, y3, y4, y5, y6, y7⟩
  · rw [sl 16 (by decide), (g1 16 (by decide)).1]
    simp (disch := omega) only [nS_o]
    exact s3
  all_goals first
    | (rw [sl _ (by decide), (g1 _ (by decide)).1]; simp (disch := omega) only [nS_o, nS_e])
    | (rw [rl _ (by decide) (by decide), g3 _ (by decide) (by decide)]; simp (disch := omega) only [nN_o, aR_o, aR_i, aR_e])
    | (rw [il _ (by decide), (g1 _ (by decide)).2]; simp (disch := omega) only [nZ_o, aW_o, aW_i, aW_e])
    | skip
  · rw [f4 16 (by decide)]
    simp (disch := omega) only [nN_o, aR_i]
    rw [b4 16 (by decide)]
    simp (disch := omega) only [nN_o, aR_e]
  · rw [f4 16 (by decide)]
    simp (disch := omega) only [nN_o, aR_e]
end
