/-! TEXT: rank and settle of the reference -/
def F89 (I J : Nat → Nat → Int32) : Prop := (∀ q, q ≠ 81 → q ≠ 89 → J q = I q) ∧ ∀ j, j ≠ 16 → j ≠ 19 → J 81 j = I 81 j
/-- the reference's rows: what waits, the code -/
def Rw (I : Nat → Nat → Int32) (H : List Nat) (C : List Int32) : Prop := I 81 19 = nI H.length ∧ I 81 16 = nI C.length ∧ tStk I 90 (H.map (fun h => -nI h)) ∧ tStk I 89 C
section
variable {d n k p q a b o f l r : Nat} {T : Nat → Nat} {t : Tok} {H : List Nat} {C : List Int32} {S : Nat → Nat × Nat} {I J K : Nat → Nat → Int32} {R : Nat → Nat → Option Nat} {z : Nat × Nat} {x y : Int32} {Q : Option Value → HS → Prop} {l1 l2 : Value}
theorem neg_eq : ∀ a, a < 12 → ∀ b, b < 12 → ((-nI a = -nI b) ↔ (a = b)) := by decide +kernel
theorem neg_lt : ∀ a, a < 12 → ∀ b, b < 12 → ((-nI a < -nI b) ↔ (b < a)) := by decide +kernel
theorem neg_eqT {a b : Nat} (ha : a < 12) (h : a = b) : (-nI a = -nI b) = True := eq_true (by rw [h])
theorem neg_eqF {a b : Nat} (ha : a < 12) (hb : b < 12) (h : a ≠ b) : (-nI a = -nI b) = False := eq_false (fun q => h ((neg_eq a ha b hb).1 q))
theorem neg_ltT {a b : Nat} (ha : a < 12) (h : b < a) : (-nI a < -nI b) = True := eq_true ((neg_lt a ha b (by omega)).2 h)
theorem neg_ltF {a b : Nat} (hb : b < 12) (h : a ≤ b) : (-nI a < -nI b) = False := eq_false (fun q => absurd ((neg_lt a (by omega) b hb).1 q) (Nat.not_lt.mpr h))
theorem c210 {h : Nat} (h1 : 1 ≤ h) (h2 : h ≤ 11) : RM (d + 1) 210 [.int (-nI h)] (S, I, R, z) Q = Q (some (.int (nI (tRk h)))) (S, I, R, z) := by
  rcases (show h = 1 ∨ h = 2 ∨ (2 < h ∧ h ≤ 5) ∨ (5 < h ∧ h ≤ 7) ∨ (7 < h ∧ h ≤ 9) ∨ 9 < h by omega) with e | e | ⟨e, e'⟩ | ⟨e, e'⟩ | ⟨e, e'⟩ | e
  · subst e
    simp (disch := omega) only [e210, w210_0, w210_1, w210_2, w210_5, w210_6, w210_9, w210_10, w210_12, w210_15, w210_16, w210_19, w210_20, w210_22, w210_25, w210_26, w210_29, w210_30, w210_32, w210_35, w210_36, w210_39, w210_40, w210_42, w210_45, w210_46, w210_49, w210_51, aPush_s, aPush_n, vrf_s, vrf_n, true_and, and_true, false_and, and_false, true_imp_iff, false_imp_iff, not_true_eq_false, not_false_eq_true, eq_self, true_or, or_true, and_self, if_true, if_false, n_lit, n_of, n_an, Nat.add_sub_cancel, nI_add, pk_mul, n_sub, n_ixT, n_cl, n_leT, n_leF, n_ltT, n_ltF, n_eqT, n_eqF, Nat.reduceAdd, Nat.reduceMul, Nat.reduceSub, Nat.reduceEqDiff, Nat.reduceLT, Nat.reduceLeDiff, Nat.mul_one, Nat.one_mul, Nat.add_zero, Nat.zero_add, neg_eqT, neg_eqF, neg_ltT, neg_ltF]
    rfl
  · subst e
    simp (disch := omega) only [e210, w210_0, w210_1, w210_2, w210_5, w210_6, w210_9, w210_10, w210_12, w210_15, w210_16, w210_19, w210_20, w210_22, w210_25, w210_26, w210_29, w210_30, w210_32, w210_35, w210_36, w210_39, w210_40, w210_42, w210_45, w210_46, w210_49, w210_51, aPush_s, aPush_n, vrf_s, vrf_n, true_and, and_true, false_and, and_false, true_imp_iff, false_imp_iff, not_true_eq_false, not_false_eq_true, eq_self, true_or, or_true, and_self, if_true, if_false, n_lit, n_of, n_an, Nat.add_sub_cancel, nI_add, pk_mul, n_sub, n_ixT, n_cl, n_leT, n_leF, n_ltT, n_ltF, n_eqT, n_eqF, Nat.reduceAdd, Nat.reduceMul, Nat.reduceSub, Nat.reduceEqDiff, Nat.reduceLT, Nat.reduceLeDiff, Nat.mul_one, Nat.one_mul, Nat.add_zero, Nat.zero_add, neg_eqT, neg_eqF, neg_ltT, neg_ltF]
    rfl
  · have er : tRk h = 3 := by unfold tRk; rw [if_neg (by omega), if_neg (by omega), if_pos (by omega)]
    rw [er]
    simp (disch := omega) only [e210, w210_0, w210_1, w210_2, w210_5, w210_6, w210_9, w210_10, w210_12, w210_15, w210_16, w210_19, w210_20, w210_22, w210_25, w210_26, w210_29, w210_30, w210_32, w210_35, w210_36, w210_39, w210_40, w210_42, w210_45, w210_46, w210_49, w210_51, aPush_s, aPush_n, vrf_s, vrf_n, true_and, and_true, false_and, and_false, true_imp_iff, false_imp_iff, not_true_eq_false, not_false_eq_true, eq_self, true_or, or_true, and_self, if_true, if_false, n_lit, n_of, n_an, Nat.add_sub_cancel, nI_add, pk_mul, n_sub, n_ixT, n_cl, n_leT, n_leF, n_ltT, n_ltF, n_eqT, n_eqF, Nat.reduceAdd, Nat.reduceMul, Nat.reduceSub, Nat.reduceEqDiff, Nat.reduceLT, Nat.reduceLeDiff, Nat.mul_one, Nat.one_mul, Nat.add_zero, Nat.zero_add, neg_eqT, neg_eqF, neg_ltT, neg_ltF]
  · have er : tRk h = 4 := by unfold tRk; rw [if_neg (by omega), if_neg (by omega), if_neg (by omega), if_pos (by omega)]
    rw [er]
    simp (disch := omega) only [e210, w210_0, w210_1, w210_2, w210_5, w210_6, w210_9, w210_10, w210_12, w210_15, w210_16, w210_19, w210_20, w210_22, w210_25, w210_26, w210_29, w210_30, w210_32, w210_35, w210_36, w210_39, w210_40, w210_42, w210_45, w210_46, w210_49, w210_51, aPush_s, aPush_n, vrf_s, vrf_n, true_and, and_true, false_and, and_false, true_imp_iff, false_imp_iff, not_true_eq_false, not_false_eq_true, eq_self, true_or, or_true, and_self, if_true, if_false, n_lit, n_of, n_an, Nat.add_sub_cancel, nI_add, pk_mul, n_sub, n_ixT, n_cl, n_leT, n_leF, n_ltT, n_ltF, n_eqT, n_eqF, Nat.reduceAdd, Nat.reduceMul, Nat.reduceSub, Nat.reduceEqDiff, Nat.reduceLT, Nat.reduceLeDiff, Nat.mul_one, Nat.one_mul, Nat.add_zero, Nat.zero_add, neg_eqT, neg_eqF, neg_ltT, neg_ltF]
  · have er : tRk h = 5 := by unfold tRk; rw [if_neg (by omega), if_neg (by omega), if_neg (by omega), if_neg (by omega), if_pos (by omega)]
    rw [er]
    simp (disch := omega) only [e210, w210_0, w210_1, w210_2, w210_5, w210_6, w210_9, w210_10, w210_12, w210_15, w210_16, w210_19, w210_20, w210_22, w210_25, w210_26, w210_29, w210_30, w210_32, w210_35, w210_36, w210_39, w210_40, w210_42, w210_45, w210_46, w210_49, w210_51, aPush_s, aPush_n, vrf_s, vrf_n, true_and, and_true, false_and, and_false, true_imp_iff, false_imp_iff, not_true_eq_false, not_false_eq_true, eq_self, true_or, or_true, and_self, if_true, if_false, n_lit, n_of, n_an, Nat.add_sub_cancel, nI_add, pk_mul, n_sub, n_ixT, n_cl, n_leT, n_leF, n_ltT, n_ltF, n_eqT, n_eqF, Nat.reduceAdd, Nat.reduceMul, Nat.reduceSub, Nat.reduceEqDiff, Nat.reduceLT, Nat.reduceLeDiff, Nat.mul_one, Nat.one_mul, Nat.add_zero, Nat.zero_add, neg_eqT, neg_eqF, neg_ltT, neg_ltF]
  · have er : tRk h = 6 := by unfold tRk; rw [if_neg (by omega), if_neg (by omega), if_neg (by omega), if_neg (by omega), if_neg (by omega)]
    rw [er]
    simp (disch := omega) only [e210, w210_0, w210_1, w210_2, w210_5, w210_6, w210_9, w210_10, w210_12, w210_15, w210_16, w210_19, w210_20, w210_22, w210_25, w210_26, w210_29, w210_30, w210_32, w210_35, w210_36, w210_39, w210_40, w210_42, w210_45, w210_46, w210_49, w210_51, aPush_s, aPush_n, vrf_s, vrf_n, true_and, and_true, false_and, and_false, true_imp_iff, false_imp_iff, not_true_eq_false, not_false_eq_true, eq_self, true_or, or_true, and_self, if_true, if_false, n_lit, n_of, n_an, Nat.add_sub_cancel, nI_add, pk_mul, n_sub, n_ixT, n_cl, n_leT, n_leF, n_ltT, n_ltF, n_eqT, n_eqF, Nat.reduceAdd, Nat.reduceMul, Nat.reduceSub, Nat.reduceEqDiff, Nat.reduceLT, Nat.reduceLeDiff, Nat.mul_one, Nat.one_mul, Nat.add_zero, Nat.zero_add, neg_eqT, neg_eqF, neg_ltT, neg_ltF]
theorem F89.rf : F89 I I := ⟨fun _ _ _ => rfl, fun _ _ _ => rfl⟩
theorem F89.tr (h : F89 I J) (h2 : F89 J K) : F89 I K := ⟨fun q h1 h3 => (h2.1 q h1 h3).trans (h.1 q h1 h3), fun j h1 h3 => (h2.2 j h1 h3).trans (h.2 j h1 h3)⟩
theorem F89.pp {m : Nat} {u v w : Int32} : F89 I (aW (aW (aW I 81 19 u) 89 m v) 81 16 w) := ⟨fun q h1 h2 => by rw [aW_o h1, aW_o h2, aW_o h1], fun j h1 h2 => by rw [aW_i h1, aW_o (by decide), aW_i h2]⟩
/-- settle -/
theorem l211 (hm : Md S R) (hr : r ≤ 6) : ∀ (H : List Nat) (C : List Int32) (I : Nat → Nat → Int32), cEl H → H.length + C.length ≤ 96 → Rw I H C → (∀ J, Rw J (stl r H C).1 (stl r H C).2 → F89 I J → Q none (S, J, R, z)) → RB (d + 1) 211 0 [.ref 81, .int (nI r)] [] (S, I, R, z) Q := by
  obtain ⟨Md_s1, Md_s81, Md_s82, Md_s83, Md_s84, Md_s85, Md_s86, Md_s87, Md_s88, Md_s89, Md_s90, Md_s91, Md_s92, Md_s93, Md_s94, Md_s95, Md_s96, Md_s97, Md_s98, Md_s99, Md_s100, Md_s101, Md_s102, Md_r81_0, Md_r81_1, Md_r81_2, Md_r81_4, Md_r81_5, Md_r81_13, Md_r81_14, Md_r81_15, Md_r81_18, Md_r81_20, Md_r81_21, Md_r81_22, Md_r81_23, Md_r81_24, Md_r81_25, Md_r81_26, Md_r81_27, Md_r81_28, Md_r81_29, Md_r81_30, Md_r81_31⟩ := id hm
  intro H
  induction H with
  | nil =>
    intro C I hel hl hw hQ
    obtain ⟨w1, w2, w3, w4⟩ := id hw
    have w1 : I 81 19 = nI 0 := w1
    rw [w211_0]
    simp (disch := omega) only [w211_1, w211_4, w211_7, w211_8, w211_11, w211_12, w211_15, w211_16, w211_17, w211_18, w211_20, w211_23, w211_24, w211_27, w211_28, w211_31, w211_32, w211_33, w211_34, w211_37, w211_38, w211_41, w211_42, w211_43, w211_46, w211_47, w211_48, w211_51, w211_52, w211_55, w211_56, w211_59, w211_60, w211_63, w211_64, w211_67, w211_68, w211_69, w211_70, w211_71, w211_74, w211_75, w211_76, w211_79, w211_82, Md_s1, Md_s81, Md_s82, Md_s83, Md_s84, Md_s85, Md_s86, Md_s87, Md_s88, Md_s89, Md_s90, Md_s91, Md_s92, Md_s93, Md_s94, Md_s95, Md_s96, Md_s97, Md_s98, Md_s99, Md_s100, Md_s101, Md_s102, Md_r81_0, Md_r81_1, Md_r81_2, Md_r81_4, Md_r81_5, Md_r81_13, Md_r81_14, Md_r81_15, Md_r81_18, Md_r81_20, Md_r81_21, Md_r81_22, Md_r81_23, Md_r81_24, Md_r81_25, Md_r81_26, Md_r81_27, Md_r81_28, Md_r81_29, Md_r81_30, Md_r81_31, aPush_s, aPush_n, vrf_s, vrf_n, true_and, and_true, false_and, and_false, true_imp_iff, false_imp_iff, not_true_eq_false, not_false_eq_true, eq_self, true_or, or_true, and_self, if_true, if_false, n_lit, n_of, n_an, Nat.add_sub_cancel, nI_add, pk_mul, n_sub, n_ixT, n_cl, n_leT, n_leF, n_ltT, n_ltF, n_eqT, n_eqF, Nat.reduceAdd, Nat.reduceMul, Nat.reduceSub, Nat.reduceEqDiff, Nat.reduceLT, Nat.reduceLeDiff, Nat.mul_one, Nat.one_mul, Nat.add_zero, Nat.zero_add, le_T, nz0, nz1, w1]
    exact hQ I hw F89.rf
  | cons h H ih =>
    intro C I hel hl hw hQ
    obtain ⟨w1, w2, w3, w4⟩ := id hw
    have w1 : I 81 19 = nI (H.length + 1) := w1
    have w3h : I 90 H.length = -nI h := by
      have := w3.1
      rw [List.length_map] at this
      exact this
    have hh := hel h List.mem_cons_self
    rw [List.length_cons] at hl
    rw [w211_0]
    by_cases e11 : h = 11
    · simp (disch := omega) only [w211_1, w211_4, w211_7, w211_8, w211_11, w211_12, w211_15, w211_16, w211_17, w211_18, w211_20, w211_23, w211_24, w211_27, w211_28, w211_31, w211_32, w211_33, w211_34, w211_37, w211_38, w211_41, w211_42, w211_43, w211_46, w211_47, w211_48, w211_51, w211_52, w211_55, w211_56, w211_59, w211_60, w211_63, w211_64, w211_67, w211_68, w211_69, w211_70, w211_71, w211_74, w211_75, w211_76, w211_79, w211_82, Md_s1, Md_s81, Md_s82, Md_s83, Md_s84, Md_s85, Md_s86, Md_s87, Md_s88, Md_s89, Md_s90, Md_s91, Md_s92, Md_s93, Md_s94, Md_s95, Md_s96, Md_s97, Md_s98, Md_s99, Md_s100, Md_s101, Md_s102, Md_r81_0, Md_r81_1, Md_r81_2, Md_r81_4, Md_r81_5, Md_r81_13, Md_r81_14, Md_r81_15, Md_r81_18, Md_r81_20, Md_r81_21, Md_r81_22, Md_r81_23, Md_r81_24, Md_r81_25, Md_r81_26, Md_r81_27, Md_r81_28, Md_r81_29, Md_r81_30, Md_r81_31, aPush_s, aPush_n, vrf_s, vrf_n, true_and, and_true, false_and, and_false, true_imp_iff, false_imp_iff, not_true_eq_false, not_false_eq_true, eq_self, true_or, or_true, and_self, if_true, if_false, n_lit, n_of, n_an, Nat.add_sub_cancel, nI_add, pk_mul, n_sub, n_ixT, n_cl, n_leT, n_leF, n_ltT, n_ltF, n_eqT, n_eqF, Nat.reduceAdd, Nat.reduceMul, Nat.reduceSub, Nat.reduceEqDiff, Nat.reduceLT, Nat.reduceLeDiff, Nat.mul_one, Nat.one_mul, Nat.add_zero, Nat.zero_add, le_T, nz0, nz1, w1, w3h, neg_eqT]
      exact hQ I (by rw [show stl r (h :: H) C = (h :: H, C) from if_pos (Or.inl e11)]; exact hw) F89.rf
    · by_cases er : tRk h < r
      · simp (disch := omega) only [w211_1, w211_4, w211_7, w211_8, w211_11, w211_12, w211_15, w211_16, w211_17, w211_18, w211_20, w211_23, w211_24, w211_27, w211_28, w211_31, w211_32, w211_33, w211_34, w211_37, w211_38, w211_41, w211_42, w211_43, w211_46, w211_47, w211_48, w211_51, w211_52, w211_55, w211_56, w211_59, w211_60, w211_63, w211_64, w211_67, w211_68, w211_69, w211_70, w211_71, w211_74, w211_75, w211_76, w211_79, w211_82, Md_s1, Md_s81, Md_s82, Md_s83, Md_s84, Md_s85, Md_s86, Md_s87, Md_s88, Md_s89, Md_s90, Md_s91, Md_s92, Md_s93, Md_s94, Md_s95, Md_s96, Md_s97, Md_s98, Md_s99, Md_s100, Md_s101, Md_s102, Md_r81_0, Md_r81_1, Md_r81_2, Md_r81_4, Md_r81_5, Md_r81_13, Md_r81_14, Md_r81_15, Md_r81_18, Md_r81_20, Md_r81_21, Md_r81_22, Md_r81_23, Md_r81_24, Md_r81_25, Md_r81_26, Md_r81_27, Md_r81_28, Md_r81_29, Md_r81_30, Md_r81_31, aPush_s, aPush_n, vrf_s, vrf_n, true_and, and_true, false_and, and_false, true_imp_iff, false_imp_iff, not_true_eq_false, not_false_eq_true, eq_self, true_or, or_true, and_self, if_true, if_false, n_lit, n_of, n_an, Nat.add_sub_cancel, nI_add, pk_mul, n_sub, n_ixT, n_cl, n_leT, n_leF, n_ltT, n_ltF, n_eqT, n_eqF, Nat.reduceAdd, Nat.reduceMul, Nat.reduceSub, Nat.reduceEqDiff, Nat.reduceLT, Nat.reduceLeDiff, Nat.mul_one, Nat.one_mul, Nat.add_zero, Nat.zero_add, le_T, nz0, nz1, w1, w3h, neg_eqF, c210 hh.1 hh.2]
        exact hQ I (by rw [show stl r (h :: H) C = (h :: H, C) from if_pos (Or.inr er)]; exact hw) F89.rf
      · have h6 : tRk h ≤ 6 := by
          unfold tRk
          repeat' split
          all_goals omega
        have es : stl r (h :: H) C = stl r H (-nI h :: C) := if_neg (fun q => q.elim e11 er)
        rw [es] at hQ
        simp (disch := omega) only [w211_1, w211_4, w211_7, w211_8, w211_11, w211_12, w211_15, w211_16, w211_17, w211_18, w211_20, w211_23, w211_24, w211_27, w211_28, w211_31, w211_32, w211_33, w211_34, w211_37, w211_38, w211_41, w211_42, w211_43, w211_46, w211_47, w211_48, w211_51, w211_52, w211_55, w211_56, w211_59, w211_60, w211_63, w211_64, w211_67, w211_68, w211_69, w211_70, w211_71, w211_74, w211_75, w211_76, w211_79, w211_82, Md_s1, Md_s81, Md_s82, Md_s83, Md_s84, Md_s85, Md_s86, Md_s87, Md_s88, Md_s89, Md_s90, Md_s91, Md_s92, Md_s93, Md_s94, Md_s95, Md_s96, Md_s97, Md_s98, Md_s99, Md_s100, Md_s101, Md_s102, Md_r81_0, Md_r81_1, Md_r81_2, Md_r81_4, Md_r81_5, Md_r81_13, Md_r81_14, Md_r81_15, Md_r81_18, Md_r81_20, Md_r81_21, Md_r81_22, Md_r81_23, Md_r81_24, Md_r81_25, Md_r81_26, Md_r81_27, Md_r81_28, Md_r81_29, Md_r81_30, Md_r81_31, aPush_s, aPush_n, vrf_s, vrf_n, true_and, and_true, false_and, and_false, true_imp_iff, false_imp_iff, not_true_eq_false, not_false_eq_true, eq_self, true_or, or_true, and_self, if_true, if_false, n_lit, n_of, n_an, Nat.add_sub_cancel, nI_add, pk_mul, n_sub, n_ixT, n_cl, n_leT, n_leF, n_ltT, n_ltF, n_eqT, n_eqF, Nat.reduceAdd, Nat.reduceMul, Nat.reduceSub, Nat.reduceEqDiff, Nat.reduceLT, Nat.reduceLeDiff, Nat.mul_one, Nat.one_mul, Nat.add_zero, Nat.zero_add, le_T, nz0, nz1, w1, w2, w3h, neg_eqF, c210 hh.1 hh.2, aW_e, aW_i, aW_o]
        refine ih (-nI h :: C) _ (fun y hy => hel y (List.mem_cons_of_mem _ hy)) (by rw [List.length_cons]; omega) ⟨?_, ?_, ?_, ?_⟩ (fun J hJ fJ => hQ J hJ (F89.pp.tr fJ))
        · rw [aW_i (by decide), aW_o (by decide), aW_e]
        · rw [aW_e]; rfl
        · refine w3.2.cong (fun j hj => ?_)
          rw [aW_o (by decide), aW_o (by decide), aW_o (by decide)]
        · have := w4.pu (x := -nI h)
          refine this.cong (fun j hj => ?_)
          rw [aW_o (by decide)]
          by_cases ej : j = C.length
          · rw [ej, aW_e, aW_e]
          · rw [aW_i ej, aW_i ej, aW_o (by decide)]
end
