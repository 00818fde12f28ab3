/-! the model's constructor; both objects are made -/
section
variable {d u : Nat} {S S' : Nat → Nat × Nat} {I I' : Nat → Nat → Int32} {R R' : Nat → Nat → Option Nat} {Q : Option Value → HS → Prop}
set_option maxRecDepth 8000 in
theorem c134 (h81 : S 81 = (7, 33)) (hI : ∀ j, I 81 j = nI 0) (h1 : S 1 = (9, 4)) (hQ : ∀ S' I' R' u', (∀ q, q < 81 → S' q = S q ∧ I' q = I q ∧ R' q = R q) → (∀ q, 103 ≤ q → S' q = S q) → Md S' R' → Kk I' → IsNew (G I') → (I' 81 3 = nI 0 ∧ I' 81 6 = nI 0 ∧ I' 81 32 = nI 0) → (∀ j, j < 4 → I' 94 j = -nI 1 ∧ I' 95 j = nI 0) → (∀ j, I' 96 j = nI 0) → (∀ j, I' 97 j = nI 0) → u' ≤ u + 6000 → Q none (S', I', R', (103, u'))) : RM (d + 2) 134 [.ref 81] (S, I, R, (82, u)) Q := by
  simp (disch := omega) only [e134, w134_0, w134_1, w134_4, w134_5, w134_8, w134_10, w134_13, w134_14, w134_17, w134_19, w134_22, w134_23, w134_26, w134_28, w134_31, w134_32, w134_34, w134_36, w134_39, w134_40, w134_42, w134_44, w134_47, w134_48, w134_50, w134_52, w134_53, w134_54, w134_56, w134_57, w134_58, w134_59, w134_61, w134_62, w134_63, w134_64, w134_66, w134_67, w134_68, w134_69, w134_71, w134_72, w134_73, w134_74, w134_76, w134_77, w134_78, w134_79, w134_81, w134_82, w134_83, w134_85, w134_87, w134_88, w134_89, w134_91, w134_93, w134_94, w134_95, w134_97, w134_99, w134_100, w134_101, w134_103, w134_105, w134_106, w134_107, w134_109, w134_111, w134_112, w134_115, w134_116, w134_117, w134_119, w134_120, w134_121, w134_122, w134_123, w134_124, w134_125, w134_126, w134_127, w134_128, w134_129, w134_131, w134_132, w134_133, w134_134, w134_136, w134_137, w134_140, w134_141, w134_143, w134_145, w134_148, w134_149, w134_151, w134_153, w134_156, w134_157, w134_159, w134_161, w134_164, w134_165, w134_167, w134_169, w134_172, w134_173, w134_174, w134_176, w134_179, w134_180, w134_181, w134_183, w134_184, w134_185, w134_186, w134_187, w134_188, w134_189, w134_190, w134_191, w134_192, w134_193, w134_194, w134_195, w134_196, w134_197, w134_198, w134_199, w134_202, w134_203, w134_204, w134_206, w134_209, w134_210, w134_212, w134_214, w134_217, w134_218, w134_219, w134_221, w134_224, w134_225, w134_226, w134_228, w134_231, w134_232, w134_233, w134_235, w134_238, w134_239, w134_241, w134_243, w134_246, w134_247, w134_249, w134_251, w134_254, w134_255, w134_257, w134_259, w134_262, w134_263, w134_266, w134_267, w134_268, w134_269, w134_270, w134_273, w134_274, w134_275, w134_276, w134_277, w134_280, w134_282, w134_284, w134_285, aNc_t, nS_e, aPush_s, aPush_n, vrf_s, vrf_n, true_and, and_true, false_and, and_false, true_imp_iff, false_imp_iff, not_true_eq_false, not_false_eq_true, eq_self, true_or, or_true, and_self, if_true, if_false, n_lit, n_of, n_cl, n_ltF, n_ltT, n_leT, n_leF, n_ixT, nI_add, le_T, Nat.reduceAdd, Nat.reduceLeDiff, Nat.reduceLT, Nat.reduceEqDiff, RM_obj, nS_o, h81, nN_o, aR_o, aR_i, aR_e]
  refine hQ _ _ _ _ (fun q hq => ⟨?_, ?_, ?_⟩) (fun q hq => ?_) ?_ ⟨fun j hj => ?_, fun j hj => ?_⟩ ⟨?_, ?_, ?_, ?_, ?_, ?_, ?_, ?_⟩ ⟨?_, ?_, ?_⟩ (fun j hj => ⟨?_, ?_⟩) (fun j => ?_) (fun j => ?_) (by omega)
  · simp (disch := omega) only [nS_o]
  · simp (disch := omega) only [nZ_o, aW_o]
  · simp (disch := omega) only [nN_o, aR_o]
  · simp (disch := omega) only [nS_o]
  · unfold Md
    simp (disch := omega) only [nS_o, nS_e, h1, h81, nN_o, aR_o, aR_i, aR_e, and_self]
  · have j11 : j = 0 ∨ j = 1 ∨ j = 2 ∨ j = 3 ∨ j = 4 ∨ j = 5 ∨ j = 6 ∨ j = 7 ∨ j = 8 ∨ j = 9 ∨ j = 10 := by omega
    rcases j11 with rfl | rfl | rfl | rfl | rfl | rfl | rfl | rfl | rfl | rfl | rfl <;> simp (disch := omega) only [nZ_o, aW_o, aW_i, aW_e] <;> decide
  · have j4 : j = 0 ∨ j = 1 ∨ j = 2 ∨ j = 3 := by omega
    rcases j4 with rfl | rfl | rfl | rfl <;> simp (disch := omega) only [nZ_o, aW_o, aW_i, aW_e] <;> decide
  · show uN (_) = 1
    simp (disch := omega) only [nZ_o, aW_o, aW_i, aW_e, nZ_e]
    decide
  · show uN (_) = 0
    simp (disch := omega) only [nZ_o, aW_o, aW_i, aW_e, nZ_e]
    decide
  · show uN (_) = 0
    simp (disch := omega) only [nZ_o, aW_o, aW_i, aW_e, nZ_e]
    decide
  · show uN (_) = 4294967295
    simp (disch := omega) only [nZ_o, aW_o, aW_i, aW_e, nZ_e]
    decide
  · show uN (_) = 0
    simp (disch := omega) only [nZ_o, aW_o, aW_i, aW_e, nZ_e]
    decide
  · show uN (_) = 0
    simp (disch := omega) only [nZ_o, aW_o, aW_i, aW_e, nZ_e]
    decide
  · show uN (_) = 6
    simp (disch := omega) only [nZ_o, aW_o, aW_i, aW_e, nZ_e]
    decide
  · show uN (_) = 0
    simp (disch := omega) only [nZ_o, aW_o, aW_i, aW_e, nZ_e]
    decide
  · simp (disch := omega) only [nZ_o, aW_o]
    exact hI 3
  · simp (disch := omega) only [nZ_o, aW_o]
    exact hI 6
  · simp (disch := omega) only [nZ_o, aW_o]
    exact hI 32
  · have j4 : j = 0 ∨ j = 1 ∨ j = 2 ∨ j = 3 := by omega
    rcases j4 with rfl | rfl | rfl | rfl <;> simp (disch := omega) only [nZ_o, aW_o, aW_i, aW_e]
  · simp (disch := omega) only [nZ_o, aW_o, nZ_e]
  · simp (disch := omega) only [nZ_o, aW_o, nZ_e]
  · simp (disch := omega) only [nZ_o, aW_o, nZ_e]
/-- the constants at the start -/
def C0 (S : Nat → Nat × Nat) (I : Nat → Nat → Int32) (R : Nat → Nat → Option Nat) : Prop := Kb S I ∧ (∀ i, i < 6 → S (2 + i) = (14, 2) ∧ R (2 + i) 0 = some (8 + i) ∧ I (2 + i) 1 = nI 0 ∧ S (8 + i) = (15, strL i) ∧ ∀ j, j < strL i → I (8 + i) j = nI (strB i j)) ∧ S 1 = (9, 4) ∧ ∀ p, p < 4 → I 1 p = nI (6 ^ (3 - p))
theorem law_start {sc : (Nat × Nat) × (Nat → Int32)} (h15 : S 15 = sc.1 ∧ I 15 = sc.2) (hC : C0 S I R) (h99 : ∀ q, 16 ≤ q → S q = (99, 0)) (hQ : ∀ S I R z, Inv sc 0 S I R z → RB (d + 300) 251 18 [.ref 15, .ref 16, .ref 81, .int (nI 0)] [] (S, I, R, z) Q) : RB (d + 300) 251 0 [.ref 15, .long 0, .long 0, .long 0] [] (S, I, R, (16, 0)) Q := by
  obtain ⟨kb, ks, k1, kp⟩ := hC
  simp (disch := omega) only [w251_0, w251_3, w251_4, aNc_t, nS_e, aPush_s, aPush_n, vrf_s, vrf_n, true_and, and_true, false_and, and_false, true_imp_iff, false_imp_iff, not_true_eq_false, not_false_eq_true, eq_self, true_or, or_true, and_self, if_true, if_false, n_lit, n_of, n_cl, n_ltF, n_ltT, n_leT, n_leF, n_ixT, nI_add, le_T, Nat.reduceAdd, Nat.reduceLeDiff, Nat.reduceLT, Nat.reduceEqDiff, RM_obj]
  refine c76 nS_e (fun q hq => by rw [nS_o (by omega)]; exact h99 q (by omega)) ?_
  intro S1 I1 R1 u1 a1 a2 a3 a4
  simp (disch := omega) only [w251_7, w251_8, w251_11, w251_12, aNc_t, nS_e, aPush_s, aPush_n, vrf_s, vrf_n, true_and, and_true, false_and, and_false, true_imp_iff, false_imp_iff, not_true_eq_false, not_false_eq_true, eq_self, true_or, or_true, and_self, if_true, if_false, n_lit, n_of, n_cl, n_ltF, n_ltT, n_leT, n_leF, n_ixT, nI_add, le_T, Nat.reduceAdd, Nat.reduceLeDiff, Nat.reduceLT, Nat.reduceEqDiff, RM_obj]
  refine c134 nS_e (fun j => nZ_e) (by rw [nS_o (by decide), (a1 1 (by decide)).1, nS_o (by decide)]; exact k1) ?_
  intro S2 I2 R2 u2 b1 b2 b3 b4 b5 b6 b7 b8 b9 b10
  simp (disch := omega) only [w251_15, w251_16, w251_17, aNc_t, nS_e, aPush_s, aPush_n, vrf_s, vrf_n, true_and, and_true, false_and, and_false, true_imp_iff, false_imp_iff, not_true_eq_false, not_false_eq_true, eq_self, true_or, or_true, and_self, if_true, if_false, n_lit, n_of, n_cl, n_ltF, n_ltT, n_leT, n_leF, n_ixT, nI_add, le_T, Nat.reduceAdd, Nat.reduceLeDiff, Nat.reduceLT, Nat.reduceEqDiff, RM_obj]
  refine hQ S2 I2 R2 (103, u2) ?_
  obtain ⟨n17, n28, n39, t17, t28, sh, sl, s16, s52, s53, s54, s55, s56, s57, s50, s51, r0, r1, r2, r3, r4, r5, r6, r7, r540, r546, r500, i8, i9, i54, i5410, i5411⟩ := a3
  have x : ∀ q, q < 81 → S2 q = S1 q ∧ I2 q = I1 q ∧ R2 q = R1 q := fun q hq => by
    obtain ⟨y1, y2, y3⟩ := b1 q hq
    refine ⟨?_, ?_, ?_⟩
    · rw [y1, nS_o (by omega)]
    · rw [y2, nZ_o (by omega)]
    · rw [y3, nN_o (by omega)]
  have y : ∀ q, q < 16 → S2 q = S q ∧ I2 q = I q ∧ R2 q = R q := fun q hq => by
    obtain ⟨y1, y2, y3⟩ := x q (by omega)
    obtain ⟨z1, z2, z3⟩ := a1 q hq
    refine ⟨?_, ?_, ?_⟩
    · rw [y1, z1, nS_o (by omega)]
    · rw [y2, z2, nZ_o (by omega)]
    · rw [y3, z3, nN_o (by omega)]
  have ok := b5.ok
  obtain ⟨g0, g1, g2, g3, g4, g5, g6, g7⟩ := id b5
  have c17 := Cs.newc n17 (S' := S2) (I' := I2) (R' := R2) (fun q h1 h2 => x q (by omega)) _ b5
  have c28 := Cs.newc n28 (S' := S2) (I' := I2) (R' := R2) (fun q h1 h2 => x q (by omega)) _ b5
  have c39 := Cs.newc n39 (S' := S2) (I' := I2) (R' := R2) (fun q h1 h2 => x q (by omega)) _ b5
  have s81 : S2 81 = (7, 33) := b3.2.1
  refine ⟨⟨⟨(y 15 (by decide)).1.trans h15.1, (x 16 (by decide)).1.trans s16, s81⟩, (y 15 (by decide)).2.1.trans h15.2⟩, ⟨Nat.le_refl _, Nat.le_refl _, by show u2 ≤ _; omega, fun k hk => ?_⟩, ⟨?_, fun i hi => ?_, b4⟩, ⟨?_, b3, c17.2.1, c28.2.1, c39.2.1, fun i hi => ?_, fun i hi => ?_⟩, ⟨b3, fun p hp => ?_, ok⟩, c17, ⟨fun t ht => Or.inl ?_, fun t ht => Or.inl ?_⟩, ⟨?_, Or.inl b6.1⟩, ⟨0, by decide, ?_, b6.2.2, fun j hj => absurd hj (Nat.not_lt_zero _)⟩, ⟨⟨by rw [(x 54 (by decide)).2.1]; exact i5410, by rw [(x 54 (by decide)).2.1]; exact i5411⟩, 0, by decide, ?_, b6.2.1, fun j hj => absurd hj (Nat.not_lt_zero _)⟩, fun i hi => ⟨0, by decide, ?_, (b7 i hi).2, ?_, Or.inl ⟨(b7 i hi).1, rfl⟩, fun k hk => ?_⟩, fun i hi => ⟨?_, Or.inl (b9 i)⟩⟩
  · rw [b2 k hk, nS_o (by have : 103 ≤ k := hk; omega)]
    exact a2 k (by have : 103 ≤ k := hk; omega)
  · unfold Kb at kb ⊢
    rw [(y 0 (by decide)).1, (y 0 (by decide)).2.1]
    exact kb
  · rw [(y (2 + i) (by omega)).1, (y (2 + i) (by omega)).2.1, (y (2 + i) (by omega)).2.2, (y (8 + i) (by omega)).1, (y (8 + i) (by omega)).2.1]
    exact ks i hi
  · unfold Hd
    rw [(x 16 (by decide)).1, (x 52 (by decide)).1, (x 53 (by decide)).1, (x 54 (by decide)).1, (x 55 (by decide)).1, (x 56 (by decide)).1, (x 57 (by decide)).1, (x 50 (by decide)).1, (x 51 (by decide)).1, (x 16 (by decide)).2.2, (x 54 (by decide)).2.2, (x 50 (by decide)).2.2]
    exact ⟨s16, s52, s53, s54, s55, s56, s57, s50, s51, (y 0 (by decide)).1.trans kb.1, r0, r1, r2, r3, r4, r5, r6, r7, r540, r546, r500⟩
  · obtain ⟨q1, q2, q3, q4, -⟩ := sh i hi
    rw [(x 52 (by decide)).2.2, (x (58 + 2 * i) (by omega)).1, (x (59 + 2 * i) (by omega)).1, (x (58 + 2 * i) (by omega)).2.2]
    exact ⟨q1, q2, q3, q4⟩
  · obtain ⟨q1, q2, q3, q4, q5, q6, -⟩ := sl i hi
    rw [(x 53 (by decide)).2.2, (x (66 + 3 * i) (by omega)).1, (x (67 + 3 * i) (by omega)).1, (x (68 + 3 * i) (by omega)).1, (x (66 + 3 * i) (by omega)).2.2, (x (67 + 3 * i) (by omega)).2.2]
    exact ⟨q1, q2, q3, q4, q5, q6⟩
  · rw [(y 1 (by decide)).2.1]
    exact kp p hp
  · rw [(x 23 (by decide)).2.2]
    exact t17 t
  · rw [(x 34 (by decide)).2.2]
    exact t28 t
  · rw [(x 16 (by decide)).2.1, i8, b6.1]
  · rw [(x 16 (by decide)).2.1]
    exact i9
  · rw [(x 54 (by decide)).2.1]
    exact i54
  · rw [(x _ (by omega)).2.1]
    exact (sh i hi).2.2.2.2.2.1
  · rw [(x _ (by omega)).2.1, (b7 i hi).1]
    exact (sh i hi).2.2.2.2.1
  · rw [(x _ (by omega)).2.1, b8]
    exact (sh i hi).2.2.2.2.2.2 k
  · rw [(x _ (by omega)).2.1, b9]
    exact (sl i hi).2.2.2.2.2.2
end
