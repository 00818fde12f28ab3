/-! the best way of asking: the object's tables, and both sides -/
theorem or_gt : ∀ A, A < 64 → ∀ l, l < 6 → A.testBit l = false → A < A ||| 2 ^ l := by decide +kernel
theorem or_in {A B A0 : Nat} (h : A &&& A0 = A0) : (A ||| B) &&& A0 = A0 := by
  apply Nat.eq_of_testBit_eq
  intro i
  have h2 := congrArg (fun x => x.testBit i) h
  rw [Nat.testBit_and, Nat.testBit_or]
  rw [Nat.testBit_and] at h2
  cases hA : A.testBit i <;> cases hB : A0.testBit i <;> simp_all
theorem in_bit {A A0 l : Nat} (h : A &&& A0 = A0) (h2 : A0.testBit l = true) : A.testBit l = true := by
  have h3 := congrArg (fun x => x.testBit l) h
  rw [Nat.testBit_and, h2, Bool.and_true] at h3
  exact h3
theorem sFv_le (g : Nat → Nat) (A w : Nat) : sFv g A w ≤ 99 := sB_le99 g _ _ _
theorem sFv_done {g : Nat → Nat} {A w : Nat} (hw : w < g 1) (h : sLs g w &&& A = sLs g w) : sFv g A w = 0 := by
  unfold sFv
  rcases 6 - sPop 6 A with _ | f
  · rfl
  · show (if sDone g (sFits g w A) A = true then 0 else _) = 0
    rw [if_pos ((done_fit hw).2 h)]
/-- what the tables tell from a on -/
def TB (g : Nat → Nat) (A0 s a : Nat) (X : Nat → Int32) : Prop := ∀ A, a ≤ A → A < 64 → A &&& A0 = A0 → ∀ w, w < g 1 → s.testBit w = true → X (12 * A + w) = nI (sFv g A w)
section
variable {d r : Nat} {g : Nat → Nat} {S : Nat → Nat × Nat} {I J : Nat → Nat → Int32} {R : Nat → Nat → Option Nat} {z : Nat × Nat} {Q : Option Value → HS → Prop}
theorem l74 {A l s : Nat} {T : Nat → Nat} {v7 : Value} (h50 : S 50 = (5, 3)) (h51 : S 51 = (9, 768)) (hR0 : R 50 0 = some 51) (hs : Cs S I R r g) (hA : A < 64) (hl : l < 6) (hs4 : s < 4096) (hT : ∀ w, w < g 1 → s.testBit w = true → I 51 (12 * (A ||| 2 ^ l) + w) = nI (T w)) (hT2 : ∀ w, T w ≤ 99) (hQ : Q (some (.int (nI (mx (vW g T s l) (g 1))))) (S, I, R, z)) : ∀ (j k : Nat) (v7 : Value), k + j = g 1 → RB (d + 2) 74 6 [.ref 50, .ref r, .int (nI A), .int (nI l), .int (nI s), .int (nI (mx (vW g T s l) k)), .int (nI k), v7] [] (S, I, R, z) Q
  | 0, k, v7, h => by
    obtain rfl : k = g 1 := by omega
    obtain ⟨hr, ⟨Sd_sr, Sd_s_r___1_, Sd_s_r___2_, Sd_s_r___3_, Sd_s_r___4_, Sd_s_r___5_, Sd_s_r___6_, Sd_s_r___7_, Sd_s_r___8_, Sd_s_r___9_, Sd_s_r___10_, Sd_rr_0, Sd_rr_1, Sd_rr_2, Sd_rr_4, Sd_rr_5, Sd_rr_12, Sd_rr_14, Sd_rr_15, Sd_rr_16, Sd_rr_17⟩, ok, ⟨n3, n6, n7, n8, n9, n10, n11, n13⟩, ⟨a1, a2, a3, a4, a5, a7⟩, ct⟩ := id hs
    have h1 := ok.1
    rw [w74_6]
    simp (disch := omega) only [w74_0, w74_1, w74_3, w74_4, w74_8, w74_8N, w74_9, w74_12, w74_15, w74_17, w74_19, w74_22, w74_25, w74_25N, w74_26, w74_28, w74_29, w74_32, w74_35, w74_36, w74_39, w74_40, w74_42, w74_44, w74_46, w74_47, w74_50, w74_51, w74_52, w74_53, w74_54, w74_55, w74_57, w74_58, w74_60, w74_61, w74_62, w74_63, w74_66, w74_68, w74_71, w74_74, w74_76, Sd_sr, Sd_s_r___1_, Sd_s_r___2_, Sd_s_r___3_, Sd_s_r___4_, Sd_s_r___5_, Sd_s_r___6_, Sd_s_r___7_, Sd_s_r___8_, Sd_s_r___9_, Sd_s_r___10_, Sd_rr_0, Sd_rr_1, Sd_rr_2, Sd_rr_4, Sd_rr_5, Sd_rr_12, Sd_rr_14, Sd_rr_15, Sd_rr_16, Sd_rr_17, n3, n6, n7, n8, n9, n10, n11, n13, aPush_s, aPush_n, vrf_s, vrf_n, true_and, and_true, false_and, and_false, true_imp_iff, false_imp_iff, not_true_eq_false, not_false_eq_true, eq_self, true_or, or_true, and_self, if_true, if_false, n_lit, n_of, n_an, Nat.add_sub_cancel, nI_add, pk_mul, n_sub, n_ixT, n_cl, n_leT, n_leF, n_ltT, n_ltF, n_eqT, n_eqF, Nat.reduceAdd, Nat.reduceMul, Nat.reduceSub, Nat.reduceEqDiff, Nat.reduceLT, Nat.reduceLeDiff, Nat.mul_one, Nat.one_mul, Nat.add_zero, Nat.zero_add]
    exact hQ
  | j + 1, k, v7', h => by
    have ih := fun v7' => l74 (v7 := v7) h50 h51 hR0 hs hA hl hs4 hT hT2 hQ j (k + 1) v7' (by omega)
    have hk : k < g 1 := by omega
    have hA2 := n_or64 hA hl
    have hpl := sPl_lt g k l
    have hbd : mx (vW g T s l) k ≤ 100 := by
      rw [mx_iff]
      intro i _
      unfold vW
      split
      · have := hT2 i
        have := b2n_le (sPl g i l == 0)
        omega
      · exact Nat.zero_le _
    have hTk := hT2 k
    have e1 : mx (vW g T s l) (k + 1) = if mx (vW g T s l) k < vW g T s l k then vW g T s l k else mx (vW g T s l) k := rfl
    obtain ⟨hr, ⟨Sd_sr, Sd_s_r___1_, Sd_s_r___2_, Sd_s_r___3_, Sd_s_r___4_, Sd_s_r___5_, Sd_s_r___6_, Sd_s_r___7_, Sd_s_r___8_, Sd_s_r___9_, Sd_s_r___10_, Sd_rr_0, Sd_rr_1, Sd_rr_2, Sd_rr_4, Sd_rr_5, Sd_rr_12, Sd_rr_14, Sd_rr_15, Sd_rr_16, Sd_rr_17⟩, ok, ⟨n3, n6, n7, n8, n9, n10, n11, n13⟩, ⟨a1, a2, a3, a4, a5, a7⟩, ct⟩ := id hs
    have h1 := ok.1
    rw [w74_6]
    rcases b : s.testBit k with _ | _
    · have ev : vW g T s l k = 0 := by
        unfold vW
        rw [b]
        rfl
      rw [ev, if_neg (Nat.not_lt_zero _)] at e1
      rw [e1] at ih
      simp (disch := omega) only [w74_0, w74_1, w74_3, w74_4, w74_8, w74_8N, w74_9, w74_12, w74_15, w74_17, w74_19, w74_22, w74_25, w74_25N, w74_26, w74_28, w74_29, w74_32, w74_35, w74_36, w74_39, w74_40, w74_42, w74_44, w74_46, w74_47, w74_50, w74_51, w74_52, w74_53, w74_54, w74_55, w74_57, w74_58, w74_60, w74_61, w74_62, w74_63, w74_66, w74_68, w74_71, w74_74, w74_76, Sd_sr, Sd_s_r___1_, Sd_s_r___2_, Sd_s_r___3_, Sd_s_r___4_, Sd_s_r___5_, Sd_s_r___6_, Sd_s_r___7_, Sd_s_r___8_, Sd_s_r___9_, Sd_s_r___10_, Sd_rr_0, Sd_rr_1, Sd_rr_2, Sd_rr_4, Sd_rr_5, Sd_rr_12, Sd_rr_14, Sd_rr_15, Sd_rr_16, Sd_rr_17, n3, n6, n7, n8, n9, n10, n11, n13, aPush_s, aPush_n, vrf_s, vrf_n, true_and, and_true, false_and, and_false, true_imp_iff, false_imp_iff, not_true_eq_false, not_false_eq_true, eq_self, true_or, or_true, and_self, if_true, if_false, n_lit, n_of, n_an, Nat.add_sub_cancel, nI_add, pk_mul, n_sub, n_ixT, n_cl, n_leT, n_leF, n_ltT, n_ltF, n_eqT, n_eqF, Nat.reduceAdd, Nat.reduceMul, Nat.reduceSub, Nat.reduceEqDiff, Nat.reduceLT, Nat.reduceLeDiff, Nat.mul_one, Nat.one_mul, Nat.add_zero, Nat.zero_add, c129, b, b2n_f]
      exact ih _
    · have ev : vW g T s l k = b2n (sPl g k l == 0) + T k := by
        unfold vW
        rw [b]
        rfl
      have ht := hT k hk b
      by_cases c : sPl g k l = 0
      · rw [c, show b2n ((0 : Nat) == 0) = 1 from rfl] at ev
        have hmx : (if nI (mx (vW g T s l) k) < nI (1 + T k) then nI (1 + T k) else nI (mx (vW g T s l) k)) = nI (mx (vW g T s l) (k + 1)) := by
          rw [e1, ev]
          by_cases c2 : mx (vW g T s l) k < 1 + T k
          · rw [if_pos c2, if_pos (nI_lt c2 (by omega))]
          · rw [if_neg c2, if_neg (nI_nlt (by omega) (by omega))]
        simp (disch := omega) only [w74_0, w74_1, w74_3, w74_4, w74_8, w74_8N, w74_9, w74_12, w74_15, w74_17, w74_19, w74_22, w74_25, w74_25N, w74_26, w74_28, w74_29, w74_32, w74_35, w74_36, w74_39, w74_40, w74_42, w74_44, w74_46, w74_47, w74_50, w74_51, w74_52, w74_53, w74_54, w74_55, w74_57, w74_58, w74_60, w74_61, w74_62, w74_63, w74_66, w74_68, w74_71, w74_74, w74_76, h50, h51, hR0, Sd_sr, Sd_s_r___1_, Sd_s_r___2_, Sd_s_r___3_, Sd_s_r___4_, Sd_s_r___5_, Sd_s_r___6_, Sd_s_r___7_, Sd_s_r___8_, Sd_s_r___9_, Sd_s_r___10_, Sd_rr_0, Sd_rr_1, Sd_rr_2, Sd_rr_4, Sd_rr_5, Sd_rr_12, Sd_rr_14, Sd_rr_15, Sd_rr_16, Sd_rr_17, n3, n6, n7, n8, n9, n10, n11, n13, aPush_s, aPush_n, vrf_s, vrf_n, true_and, and_true, false_and, and_false, true_imp_iff, false_imp_iff, not_true_eq_false, not_false_eq_true, eq_self, true_or, or_true, and_self, if_true, if_false, n_lit, n_of, n_an, nI_add, pk_mul, n_ixT, n_cl, n_leT, n_leF, n_eqT, n_eqF, Nat.reduceEqDiff, c129, b, b2n_t, c14 hs hk hl, c, n_shl, n_or, Nat.mul_comm (A ||| 2 ^ l) 12, ht, RM_max, hmx]
        exact ih _
      · rw [show (sPl g k l == 0) = false by simpa using c, b2n_f, Nat.zero_add] at ev
        have hmx : (if nI (mx (vW g T s l) k) < nI (0 + T k) then nI (0 + T k) else nI (mx (vW g T s l) k)) = nI (mx (vW g T s l) (k + 1)) := by
          rw [e1, ev, Nat.zero_add]
          by_cases c2 : mx (vW g T s l) k < T k
          · rw [if_pos c2, if_pos (nI_lt c2 (by omega))]
          · rw [if_neg c2, if_neg (nI_nlt (by omega) (by omega))]
        simp (disch := omega) only [w74_0, w74_1, w74_3, w74_4, w74_8, w74_8N, w74_9, w74_12, w74_15, w74_17, w74_19, w74_22, w74_25, w74_25N, w74_26, w74_28, w74_29, w74_32, w74_35, w74_36, w74_39, w74_40, w74_42, w74_44, w74_46, w74_47, w74_50, w74_51, w74_52, w74_53, w74_54, w74_55, w74_57, w74_58, w74_60, w74_61, w74_62, w74_63, w74_66, w74_68, w74_71, w74_74, w74_76, h50, h51, hR0, Sd_sr, Sd_s_r___1_, Sd_s_r___2_, Sd_s_r___3_, Sd_s_r___4_, Sd_s_r___5_, Sd_s_r___6_, Sd_s_r___7_, Sd_s_r___8_, Sd_s_r___9_, Sd_s_r___10_, Sd_rr_0, Sd_rr_1, Sd_rr_2, Sd_rr_4, Sd_rr_5, Sd_rr_12, Sd_rr_14, Sd_rr_15, Sd_rr_16, Sd_rr_17, n3, n6, n7, n8, n9, n10, n11, n13, aPush_s, aPush_n, vrf_s, vrf_n, true_and, and_true, false_and, and_false, true_imp_iff, false_imp_iff, not_true_eq_false, not_false_eq_true, eq_self, true_or, or_true, and_self, if_true, if_false, n_lit, n_of, n_an, nI_add, pk_mul, n_ixT, n_cl, n_leT, n_leF, n_eqT, n_eqF, Nat.reduceEqDiff, c129, b, b2n_t, c14 hs hk hl, c, n_shl, n_or, Nat.mul_comm (A ||| 2 ^ l) 12, ht, RM_max, hmx]
        exact ih _
theorem c74 {A l s : Nat} {T : Nat → Nat} (h50 : S 50 = (5, 3)) (h51 : S 51 = (9, 768)) (hR0 : R 50 0 = some 51) (hs : Cs S I R r g) (hA : A < 64) (hl : l < 6) (hs4 : s < 4096) (hT : ∀ w, w < g 1 → s.testBit w = true → I 51 (12 * (A ||| 2 ^ l) + w) = nI (T w)) (hT2 : ∀ w, T w ≤ 99) : RM (d + 3) 74 [.ref 50, .ref r, .int (nI A), .int (nI l), .int (nI s)] (S, I, R, z) Q = Q (some (.int (nI (mx (vW g T s l) (g 1))))) (S, I, R, z) := by
  simp (disch := omega) only [e74, w74_0, w74_1, w74_3, w74_4, w74_8, w74_8N, w74_9, w74_12, w74_15, w74_17, w74_19, w74_22, w74_25, w74_25N, w74_26, w74_28, w74_29, w74_32, w74_35, w74_36, w74_39, w74_40, w74_42, w74_44, w74_46, w74_47, w74_50, w74_51, w74_52, w74_53, w74_54, w74_55, w74_57, w74_58, w74_60, w74_61, w74_62, w74_63, w74_66, w74_68, w74_71, w74_74, w74_76, aPush_s, aPush_n, vrf_s, vrf_n, true_and, and_true, false_and, and_false, true_imp_iff, false_imp_iff, not_true_eq_false, not_false_eq_true, eq_self, true_or, or_true, and_self, if_true, if_false, n_lit, n_of, n_an, Nat.add_sub_cancel, nI_add, pk_mul, n_sub, n_ixT, n_cl, n_leT, n_leF, n_ltT, n_ltF, n_eqT, n_eqF, Nat.reduceAdd, Nat.reduceMul, Nat.reduceSub, Nat.reduceEqDiff, Nat.reduceLT, Nat.reduceLeDiff, Nat.mul_one, Nat.one_mul, Nat.add_zero, Nat.zero_add]
  refine RB_det ?_
  exact l74 (v7 := .null) h50 h51 hR0 hs hA hl hs4 hT hT2 ⟨rfl, rfl⟩ (g 1) 0 _ (Nat.zero_add _)
theorem l73 {A w s : Nat} {T : Nat → Nat → Nat} (h50 : S 50 = (5, 3)) (h51 : S 51 = (9, 768)) (hR0 : R 50 0 = some 51) (hs : Cs S I R r g) (hA : A < 64) (hs4 : s < 4096) (hT : ∀ l, l < 6 → A.testBit l = false → ∀ w, w < g 1 → s.testBit w = true → I 51 (12 * (A ||| 2 ^ l) + w) = nI (T l w)) (hT2 : ∀ l w, T l w ≤ 99) : ∀ (j k : Nat), k + j = 6 → RB (d + 3) 73 29 [.ref 50, .ref r, .int (nI A), .int (nI w), .int (nI s), .int (nI (mnS 6 (fun l => A.testBit l) (fun l => mx (vW g (T l) s l) (g 1)) k)), .int (nI k)] [] (S, I, R, z) Q = Q (some (.int (nI (mnS 6 (fun l => A.testBit l) (fun l => mx (vW g (T l) s l) (g 1)) 6)))) (S, I, R, z)
  | 0, k, h => by
    obtain rfl : k = 6 := by omega
    rw [w73_29]
    simp (disch := omega) only [w73_0, w73_0N, w73_1, w73_2, w73_5, w73_6, w73_7, w73_8, w73_9, w73_12, w73_13, w73_14, w73_14N, w73_15, w73_16, w73_17, w73_20, w73_22, w73_24, w73_26, w73_27, w73_31, w73_33, w73_36, w73_37, w73_39, w73_42, w73_45, w73_47, w73_48, w73_48N, w73_49, w73_50, w73_52, w73_54, w73_57, w73_60, w73_62, w73_65, w73_68, w73_70, aPush_s, aPush_n, vrf_s, vrf_n, true_and, and_true, false_and, and_false, true_imp_iff, false_imp_iff, not_true_eq_false, not_false_eq_true, eq_self, true_or, or_true, and_self, if_true, if_false, n_lit, n_of, n_an, Nat.add_sub_cancel, nI_add, pk_mul, n_sub, n_ixT, n_cl, n_leT, n_leF, n_ltT, n_ltF, n_eqT, n_eqF, Nat.reduceAdd, Nat.reduceMul, Nat.reduceSub, Nat.reduceEqDiff, Nat.reduceLT, Nat.reduceLeDiff, Nat.mul_one, Nat.one_mul, Nat.add_zero, Nat.zero_add]
  | j + 1, k, h => by
    have ih := l73 (w := w) h50 h51 hR0 hs hA hs4 hT hT2 j (k + 1) (by omega)
    have hk : k < 6 := by omega
    have hle := (mn_iff.1 (Nat.le_refl (mnS 6 (fun l => A.testBit l) (fun l => mx (vW g (T l) s l) (g 1)) k))).1
    have hbd : mx (vW g (T k) s k) (g 1) ≤ 100 := by
      rw [mx_iff]
      intro i _
      unfold vW
      split
      · have := hT2 k i
        have := b2n_le (sPl g i k == 0)
        omega
      · exact Nat.zero_le _
    have e1 : mnS 6 (fun l => A.testBit l) (fun l => mx (vW g (T l) s l) (g 1)) (k + 1) = if A.testBit k then mnS 6 (fun l => A.testBit l) (fun l => mx (vW g (T l) s l) (g 1)) k else if mx (vW g (T k) s k) (g 1) < mnS 6 (fun l => A.testBit l) (fun l => mx (vW g (T l) s l) (g 1)) k then mx (vW g (T k) s k) (g 1) else mnS 6 (fun l => A.testBit l) (fun l => mx (vW g (T l) s l) (g 1)) k := rfl
    rw [w73_29]
    rcases b : A.testBit k with _ | _
    · rw [b, if_neg (by decide)] at e1
      have hmn : (if nI (mx (vW g (T k) s k) (g 1)) < nI (mnS 6 (fun l => A.testBit l) (fun l => mx (vW g (T l) s l) (g 1)) k) then nI (mx (vW g (T k) s k) (g 1)) else nI (mnS 6 (fun l => A.testBit l) (fun l => mx (vW g (T l) s l) (g 1)) k)) = nI (mnS 6 (fun l => A.testBit l) (fun l => mx (vW g (T l) s l) (g 1)) (k + 1)) := by
        rw [e1]
        by_cases c2 : mx (vW g (T k) s k) (g 1) < mnS 6 (fun l => A.testBit l) (fun l => mx (vW g (T l) s l) (g 1)) k
        · rw [if_pos c2, if_pos (nI_lt c2 (by omega))]
        · rw [if_neg c2, if_neg (nI_nlt (by omega) (by omega))]
      simp (disch := omega) only [w73_0, w73_0N, w73_1, w73_2, w73_5, w73_6, w73_7, w73_8, w73_9, w73_12, w73_13, w73_14, w73_14N, w73_15, w73_16, w73_17, w73_20, w73_22, w73_24, w73_26, w73_27, w73_31, w73_33, w73_36, w73_37, w73_39, w73_42, w73_45, w73_47, w73_48, w73_48N, w73_49, w73_50, w73_52, w73_54, w73_57, w73_60, w73_62, w73_65, w73_68, w73_70, h50, aPush_s, aPush_n, vrf_s, vrf_n, true_and, and_true, false_and, and_false, true_imp_iff, false_imp_iff, not_true_eq_false, not_false_eq_true, eq_self, true_or, or_true, and_self, if_true, if_false, n_lit, n_of, n_an, nI_add, n_leT, n_leF, n_eqT, n_eqF, Nat.reduceEqDiff, c129, b, b2n_f, c74 (T := T k) h50 h51 hR0 hs hA hk hs4 (hT k hk b) (hT2 k), RM_min, hmn]
      exact ih
    · rw [b, if_pos rfl] at e1
      rw [e1] at ih
      simp (disch := omega) only [w73_0, w73_0N, w73_1, w73_2, w73_5, w73_6, w73_7, w73_8, w73_9, w73_12, w73_13, w73_14, w73_14N, w73_15, w73_16, w73_17, w73_20, w73_22, w73_24, w73_26, w73_27, w73_31, w73_33, w73_36, w73_37, w73_39, w73_42, w73_45, w73_47, w73_48, w73_48N, w73_49, w73_50, w73_52, w73_54, w73_57, w73_60, w73_62, w73_65, w73_68, w73_70, aPush_s, aPush_n, vrf_s, vrf_n, true_and, and_true, false_and, and_false, true_imp_iff, false_imp_iff, not_true_eq_false, not_false_eq_true, eq_self, true_or, or_true, and_self, if_true, if_false, n_lit, n_of, n_an, Nat.add_sub_cancel, nI_add, pk_mul, n_sub, n_ixT, n_cl, n_leT, n_leF, n_ltT, n_ltF, n_eqT, n_eqF, Nat.reduceAdd, Nat.reduceMul, Nat.reduceSub, Nat.reduceEqDiff, Nat.reduceLT, Nat.reduceLeDiff, Nat.mul_one, Nat.one_mul, Nat.add_zero, Nat.zero_add, c129, b, b2n_t]
      exact ih
theorem c73 {A A0 s w : Nat} (h50 : S 50 = (5, 3)) (h51 : S 51 = (9, 768)) (hR0 : R 50 0 = some 51) (hs : Cs S I R r g) (hA : A < 64) (hA0 : A &&& A0 = A0) (hw : w < g 1) (hb : s.testBit w = true) (hsf : ∀ k, k < g 1 → sFit g w A k = true → s.testBit k = true) (hT : TB g A0 s (A + 1) (I 51)) : RM (d + 4) 73 [.ref 50, .ref r, .int (nI A), .int (nI w)] (S, I, R, z) Q = Q (some (.int (nI (sFv g A w)))) (S, I, R, z) := by
  obtain ⟨hr, ⟨Sd_sr, Sd_s_r___1_, Sd_s_r___2_, Sd_s_r___3_, Sd_s_r___4_, Sd_s_r___5_, Sd_s_r___6_, Sd_s_r___7_, Sd_s_r___8_, Sd_s_r___9_, Sd_s_r___10_, Sd_rr_0, Sd_rr_1, Sd_rr_2, Sd_rr_4, Sd_rr_5, Sd_rr_12, Sd_rr_14, Sd_rr_15, Sd_rr_16, Sd_rr_17⟩, ok, ⟨n3, n6, n7, n8, n9, n10, n11, n13⟩, ⟨a1, a2, a3, a4, a5, a7⟩, ct⟩ := id hs
  have hls := sLs_lt g w
  by_cases e : sLs g w &&& A = sLs g w
  · rw [sFv_done hw e]
    simp (disch := omega) only [e73, w73_0, w73_0N, w73_1, w73_2, w73_5, w73_6, w73_7, w73_8, w73_9, w73_12, w73_13, w73_14, w73_14N, w73_15, w73_16, w73_17, w73_20, w73_22, w73_24, w73_26, w73_27, w73_31, w73_33, w73_36, w73_37, w73_39, w73_42, w73_45, w73_47, w73_48, w73_48N, w73_49, w73_50, w73_52, w73_54, w73_57, w73_60, w73_62, w73_65, w73_68, w73_70, Sd_sr, Sd_s_r___1_, Sd_s_r___2_, Sd_s_r___3_, Sd_s_r___4_, Sd_s_r___5_, Sd_s_r___6_, Sd_s_r___7_, Sd_s_r___8_, Sd_s_r___9_, Sd_s_r___10_, Sd_rr_0, Sd_rr_1, Sd_rr_2, Sd_rr_4, Sd_rr_5, Sd_rr_12, Sd_rr_14, Sd_rr_15, Sd_rr_16, Sd_rr_17, aPush_s, aPush_n, vrf_s, vrf_n, true_and, and_true, false_and, and_false, true_imp_iff, false_imp_iff, not_true_eq_false, not_false_eq_true, eq_self, true_or, or_true, and_self, if_true, if_false, n_lit, n_of, n_an, Nat.add_sub_cancel, nI_add, pk_mul, n_sub, n_ixT, n_cl, n_leT, n_leF, n_ltT, n_ltF, n_eqT, n_eqF, Nat.reduceAdd, Nat.reduceMul, Nat.reduceSub, Nat.reduceEqDiff, Nat.reduceLT, Nat.reduceLeDiff, Nat.mul_one, Nat.one_mul, Nat.add_zero, Nat.zero_add, c15 hs hw, n_setE, e]
  · have h63 : A ≠ 63 := fun q => by rw [q] at e; exact e (n_in63 _ hls)
    obtain ⟨l0, hl0, hb0⟩ := un_ex hA h63
    have hp2 := n_add1 A hA l0 hl0 hb0
    have hle6 : ∀ A, A < 64 → sPop 6 A ≤ 6 := by decide +kernel
    have h6 := hle6 _ (n_or64 hA hl0)
    have hf : (5 - sPop 6 A) + 1 = 6 - sPop 6 A := by omega
    rw [sFv_eq hw hA hf e]
    have hsl := sFits_lt ok w A
    simp (disch := omega) only [e73, w73_0, w73_0N, w73_1, w73_2, w73_5, w73_6, w73_7, w73_8, w73_9, w73_12, w73_13, w73_14, w73_14N, w73_15, w73_16, w73_17, w73_20, w73_22, w73_24, w73_26, w73_27, w73_31, w73_33, w73_36, w73_37, w73_39, w73_42, w73_45, w73_47, w73_48, w73_48N, w73_49, w73_50, w73_52, w73_54, w73_57, w73_60, w73_62, w73_65, w73_68, w73_70, Sd_sr, Sd_s_r___1_, Sd_s_r___2_, Sd_s_r___3_, Sd_s_r___4_, Sd_s_r___5_, Sd_s_r___6_, Sd_s_r___7_, Sd_s_r___8_, Sd_s_r___9_, Sd_s_r___10_, Sd_rr_0, Sd_rr_1, Sd_rr_2, Sd_rr_4, Sd_rr_5, Sd_rr_12, Sd_rr_14, Sd_rr_15, Sd_rr_16, Sd_rr_17, aPush_s, aPush_n, vrf_s, vrf_n, true_and, and_true, false_and, and_false, true_imp_iff, false_imp_iff, not_true_eq_false, not_false_eq_true, eq_self, true_or, or_true, and_self, if_true, if_false, n_lit, n_of, n_an, Nat.add_sub_cancel, nI_add, pk_mul, n_sub, n_ixT, n_cl, n_leT, n_leF, n_ltT, n_ltF, n_eqT, n_eqF, Nat.reduceAdd, Nat.reduceMul, Nat.reduceSub, Nat.reduceEqDiff, Nat.reduceLT, Nat.reduceLeDiff, Nat.mul_one, Nat.one_mul, Nat.add_zero, Nat.zero_add, c15 hs hw, n_setE, e, c19 hs hw hA]
    exact l73 (T := fun l => sFv g (A ||| 2 ^ l)) h50 h51 hR0 hs hA hsl (fun l hl hb k hk hkb => by
      rw [sFits_bit hk] at hkb
      exact hT _ (or_gt A hA l hl hb) (n_or64 hA hl) (or_in hA0) k hk (hsf k hk hkb)) (fun l k => sFv_le _ _ _) 6 0 rfl
/-- all but the tables stays -/
def F51 (I J : Nat → Nat → Int32) : Prop := ∀ q, q ≠ 51 → J q = I q
theorem l72 {A A0 s : Nat} (h50 : S 50 = (5, 3)) (h51 : S 51 = (9, 768)) (hR0 : R 50 0 = some 51) (hs : Cs S I R r g) (hA : A < 64) (hA0 : A &&& A0 = A0) (hs4 : s < 4096) (hsf : ∀ w, w < g 1 → s.testBit w = true → ∀ k, k < g 1 → sFit g w A k = true → s.testBit k = true) (hQ : ∀ J, F51 I J → TB g A0 s A (J 51) → Q none (S, J, R, z)) : ∀ (j k : Nat) (J : Nat → Nat → Int32), k + j = g 1 → F51 I J → TB g A0 s (A + 1) (J 51) → (∀ w, w < k → s.testBit w = true → J 51 (12 * A + w) = nI (sFv g A w)) → RB (d + 4) 72 3 [.ref 50, .ref r, .int (nI A), .int (nI s), .int (nI k)] [] (S, J, R, z) Q
  | 0, k, J, h, hJ, hT, hk => by
    obtain rfl : k = g 1 := by omega
    have hsJ := hs.cong (fun q hq => hJ q (by have := hs.1; omega))
    obtain ⟨hr, ⟨Sd_sr, Sd_s_r___1_, Sd_s_r___2_, Sd_s_r___3_, Sd_s_r___4_, Sd_s_r___5_, Sd_s_r___6_, Sd_s_r___7_, Sd_s_r___8_, Sd_s_r___9_, Sd_s_r___10_, Sd_rr_0, Sd_rr_1, Sd_rr_2, Sd_rr_4, Sd_rr_5, Sd_rr_12, Sd_rr_14, Sd_rr_15, Sd_rr_16, Sd_rr_17⟩, ok, ⟨n3, n6, n7, n8, n9, n10, n11, n13⟩, ⟨a1, a2, a3, a4, a5, a7⟩, ct⟩ := id hsJ
    have h1 := ok.1
    rw [w72_3]
    simp (disch := omega) only [w72_0, w72_1, w72_5, w72_5N, w72_6, w72_9, w72_12, w72_13, w72_15, w72_18, w72_21, w72_22, w72_25, w72_26, w72_28, w72_29, w72_31, w72_32, w72_33, w72_33N, w72_34, w72_35, w72_37, w72_40, w72_41, w72_44, w72_47, Sd_sr, Sd_s_r___1_, Sd_s_r___2_, Sd_s_r___3_, Sd_s_r___4_, Sd_s_r___5_, Sd_s_r___6_, Sd_s_r___7_, Sd_s_r___8_, Sd_s_r___9_, Sd_s_r___10_, Sd_rr_0, Sd_rr_1, Sd_rr_2, Sd_rr_4, Sd_rr_5, Sd_rr_12, Sd_rr_14, Sd_rr_15, Sd_rr_16, Sd_rr_17, n3, n6, n7, n8, n9, n10, n11, n13, aPush_s, aPush_n, vrf_s, vrf_n, true_and, and_true, false_and, and_false, true_imp_iff, false_imp_iff, not_true_eq_false, not_false_eq_true, eq_self, true_or, or_true, and_self, if_true, if_false, n_lit, n_of, n_an, Nat.add_sub_cancel, nI_add, pk_mul, n_sub, n_ixT, n_cl, n_leT, n_leF, n_ltT, n_ltF, n_eqT, n_eqF, Nat.reduceAdd, Nat.reduceMul, Nat.reduceSub, Nat.reduceEqDiff, Nat.reduceLT, Nat.reduceLeDiff, Nat.mul_one, Nat.one_mul, Nat.add_zero, Nat.zero_add]
    refine hQ J hJ ?_
    intro A' h1' h2' h3' w hw hb
    by_cases e : A' = A
    · subst e
      exact hk w hw hb
    · exact hT A' (by omega) h2' h3' w hw hb
  | j + 1, k, J, h, hJ, hT, hkk => by
    have ih := fun J => l72 h50 h51 hR0 hs hA hA0 hs4 hsf hQ j (k + 1) J (by omega)
    have hk : k < g 1 := by omega
    have hsJ := hs.cong (fun q hq => hJ q (by have := hs.1; omega))
    obtain ⟨hr, ⟨Sd_sr, Sd_s_r___1_, Sd_s_r___2_, Sd_s_r___3_, Sd_s_r___4_, Sd_s_r___5_, Sd_s_r___6_, Sd_s_r___7_, Sd_s_r___8_, Sd_s_r___9_, Sd_s_r___10_, Sd_rr_0, Sd_rr_1, Sd_rr_2, Sd_rr_4, Sd_rr_5, Sd_rr_12, Sd_rr_14, Sd_rr_15, Sd_rr_16, Sd_rr_17⟩, ok, ⟨n3, n6, n7, n8, n9, n10, n11, n13⟩, ⟨a1, a2, a3, a4, a5, a7⟩, ct⟩ := id hsJ
    have h1 := ok.1
    rw [w72_3]
    rcases b : s.testBit k with _ | _
    · simp (disch := omega) only [w72_0, w72_1, w72_5, w72_5N, w72_6, w72_9, w72_12, w72_13, w72_15, w72_18, w72_21, w72_22, w72_25, w72_26, w72_28, w72_29, w72_31, w72_32, w72_33, w72_33N, w72_34, w72_35, w72_37, w72_40, w72_41, w72_44, w72_47, Sd_sr, Sd_s_r___1_, Sd_s_r___2_, Sd_s_r___3_, Sd_s_r___4_, Sd_s_r___5_, Sd_s_r___6_, Sd_s_r___7_, Sd_s_r___8_, Sd_s_r___9_, Sd_s_r___10_, Sd_rr_0, Sd_rr_1, Sd_rr_2, Sd_rr_4, Sd_rr_5, Sd_rr_12, Sd_rr_14, Sd_rr_15, Sd_rr_16, Sd_rr_17, n3, n6, n7, n8, n9, n10, n11, n13, aPush_s, aPush_n, vrf_s, vrf_n, true_and, and_true, false_and, and_false, true_imp_iff, false_imp_iff, not_true_eq_false, not_false_eq_true, eq_self, true_or, or_true, and_self, if_true, if_false, n_lit, n_of, n_an, Nat.add_sub_cancel, nI_add, pk_mul, n_sub, n_ixT, n_cl, n_leT, n_leF, n_ltT, n_ltF, n_eqT, n_eqF, Nat.reduceAdd, Nat.reduceMul, Nat.reduceSub, Nat.reduceEqDiff, Nat.reduceLT, Nat.reduceLeDiff, Nat.mul_one, Nat.one_mul, Nat.add_zero, Nat.zero_add, c129, b, b2n_f]
      exact ih J hJ hT (fun w hw hb => by
        by_cases e : w = k
        · subst e; rw [b] at hb; cases hb
        · exact hkk w (by omega) hb)
    · simp (disch := omega) only [w72_0, w72_1, w72_5, w72_5N, w72_6, w72_9, w72_12, w72_13, w72_15, w72_18, w72_21, w72_22, w72_25, w72_26, w72_28, w72_29, w72_31, w72_32, w72_33, w72_33N, w72_34, w72_35, w72_37, w72_40, w72_41, w72_44, w72_47, h50, h51, hR0, Sd_sr, Sd_s_r___1_, Sd_s_r___2_, Sd_s_r___3_, Sd_s_r___4_, Sd_s_r___5_, Sd_s_r___6_, Sd_s_r___7_, Sd_s_r___8_, Sd_s_r___9_, Sd_s_r___10_, Sd_rr_0, Sd_rr_1, Sd_rr_2, Sd_rr_4, Sd_rr_5, Sd_rr_12, Sd_rr_14, Sd_rr_15, Sd_rr_16, Sd_rr_17, n3, n6, n7, n8, n9, n10, n11, n13, aPush_s, aPush_n, vrf_s, vrf_n, true_and, and_true, false_and, and_false, true_imp_iff, false_imp_iff, not_true_eq_false, not_false_eq_true, eq_self, true_or, or_true, and_self, if_true, if_false, n_lit, n_of, n_an, Nat.add_sub_cancel, nI_add, pk_mul, n_sub, n_ixT, n_cl, n_leT, n_leF, n_ltT, n_ltF, n_eqT, n_eqF, Nat.reduceAdd, Nat.reduceMul, Nat.reduceSub, Nat.reduceEqDiff, Nat.reduceLT, Nat.reduceLeDiff, Nat.mul_one, Nat.one_mul, Nat.add_zero, Nat.zero_add, le_T, c129, b, b2n_t, c73 h50 h51 hR0 hsJ hA hA0 hk b (hsf k hk b) hT, Nat.mul_comm A 12]
      refine ih _ (fun q hq => (aW_o hq).trans (hJ q hq)) ?_ ?_
      · intro A' h1' h2' h3' w hw hb
        rw [aW_i (by omega)]
        exact hT A' h1' h2' h3' w hw hb
      · intro w hw hb
        by_cases e : w = k
        · subst e
          exact aW_e
        · rw [aW_i (by omega)]
          exact hkk w (by omega) hb
theorem c72 {A A0 s : Nat} (h50 : S 50 = (5, 3)) (h51 : S 51 = (9, 768)) (hR0 : R 50 0 = some 51) (hs : Cs S I R r g) (hA : A < 64) (hA0 : A &&& A0 = A0) (hs4 : s < 4096) (hsf : ∀ w, w < g 1 → s.testBit w = true → ∀ k, k < g 1 → sFit g w A k = true → s.testBit k = true) (hT : TB g A0 s (A + 1) (I 51)) (hQ : ∀ J, F51 I J → TB g A0 s A (J 51) → Q none (S, J, R, z)) : RM (d + 5) 72 [.ref 50, .ref r, .int (nI A), .int (nI s)] (S, I, R, z) Q := by
  simp (disch := omega) only [e72, w72_0, w72_1, w72_5, w72_5N, w72_6, w72_9, w72_12, w72_13, w72_15, w72_18, w72_21, w72_22, w72_25, w72_26, w72_28, w72_29, w72_31, w72_32, w72_33, w72_33N, w72_34, w72_35, w72_37, w72_40, w72_41, w72_44, w72_47, aPush_s, aPush_n, vrf_s, vrf_n, true_and, and_true, false_and, and_false, true_imp_iff, false_imp_iff, not_true_eq_false, not_false_eq_true, eq_self, true_or, or_true, and_self, if_true, if_false, n_lit, n_of, n_an, Nat.add_sub_cancel, nI_add, pk_mul, n_sub, n_ixT, n_cl, n_leT, n_leF, n_ltT, n_ltF, n_eqT, n_eqF, Nat.reduceAdd, Nat.reduceMul, Nat.reduceSub, Nat.reduceEqDiff, Nat.reduceLT, Nat.reduceLeDiff, Nat.mul_one, Nat.one_mul, Nat.add_zero, Nat.zero_add]
  exact l72 h50 h51 hR0 hs hA hA0 hs4 hsf hQ (g 1) 0 I (Nat.zero_add _) (fun _ _ => rfl) hT (fun w hw => absurd hw (Nat.not_lt_zero _))
theorem l71 {s : Nat} (h50 : S 50 = (5, 3)) (h51 : S 51 = (9, 768)) (hR0 : R 50 0 = some 51) (hs : Cs S I R r g) (h3 : g 3 < g 1) (hs4 : s = sFits g (g 3) (g 4)) (hQ : ∀ J v3, F51 I J → TB g (g 4) s (g 4) (J 51) → RB (d + 5) 71 61 [.ref 50, .ref r, .int (nI s), v3] [] (S, J, R, z) Q) : ∀ (j : Nat) (J : Nat → Nat → Int32), g 4 + j ≤ 64 → F51 I J → TB g (g 4) s (g 4 + j) (J 51) → RB (d + 5) 71 27 [.ref 50, .ref r, .int (nI s), .int (nI (g 4 + j) - nI 1)] [] (S, J, R, z) Q
  | 0, J, h, hJ, hT => by
    have hsJ := hs.cong (fun q hq => hJ q (by have := hs.1; omega))
    obtain ⟨hr, ⟨Sd_sr, Sd_s_r___1_, Sd_s_r___2_, Sd_s_r___3_, Sd_s_r___4_, Sd_s_r___5_, Sd_s_r___6_, Sd_s_r___7_, Sd_s_r___8_, Sd_s_r___9_, Sd_s_r___10_, Sd_rr_0, Sd_rr_1, Sd_rr_2, Sd_rr_4, Sd_rr_5, Sd_rr_12, Sd_rr_14, Sd_rr_15, Sd_rr_16, Sd_rr_17⟩, ok, ⟨n3, n6, n7, n8, n9, n10, n11, n13⟩, ⟨a1, a2, a3, a4, a5, a7⟩, ct⟩ := id hsJ
    have h4 := ok.2.2.2.1
    have e : nI (g 4 + 0) - nI 1 < nI (g 4) := by
      rw [Nat.add_zero]
      have key : ∀ q, q < 64 → nI q - nI 1 < nI q := by decide +kernel
      exact key _ h4
    rw [w71_27]
    simp (disch := omega) only [w71_28, w71_28N, w71_29, w71_32, w71_35, w71_36, w71_36N, w71_37, w71_40, w71_41, w71_41N, w71_42, w71_45, w71_48, w71_49, w71_49N, w71_50, w71_51, w71_52, w71_55, w71_58, Sd_sr, Sd_s_r___1_, Sd_s_r___2_, Sd_s_r___3_, Sd_s_r___4_, Sd_s_r___5_, Sd_s_r___6_, Sd_s_r___7_, Sd_s_r___8_, Sd_s_r___9_, Sd_s_r___10_, Sd_rr_0, Sd_rr_1, Sd_rr_2, Sd_rr_4, Sd_rr_5, Sd_rr_12, Sd_rr_14, Sd_rr_15, Sd_rr_16, Sd_rr_17, n3, n6, n7, n8, n9, n10, n11, n13, aPush_s, aPush_n, vrf_s, vrf_n, true_and, and_true, false_and, and_false, true_imp_iff, false_imp_iff, not_true_eq_false, not_false_eq_true, eq_self, true_or, or_true, and_self, if_true, if_false, n_lit, e]
    exact hQ J _ hJ hT
  | j + 1, J, h, hJ, hT => by
    have ih := fun J => l71 h50 h51 hR0 hs h3 hs4 hQ j J (by omega)
    have hsJ := hs.cong (fun q hq => hJ q (by have := hs.1; omega))
    obtain ⟨hr, ⟨Sd_sr, Sd_s_r___1_, Sd_s_r___2_, Sd_s_r___3_, Sd_s_r___4_, Sd_s_r___5_, Sd_s_r___6_, Sd_s_r___7_, Sd_s_r___8_, Sd_s_r___9_, Sd_s_r___10_, Sd_rr_0, Sd_rr_1, Sd_rr_2, Sd_rr_4, Sd_rr_5, Sd_rr_12, Sd_rr_14, Sd_rr_15, Sd_rr_16, Sd_rr_17⟩, ok, ⟨n3, n6, n7, n8, n9, n10, n11, n13⟩, ⟨a1, a2, a3, a4, a5, a7⟩, ct⟩ := id hsJ
    have h4 := ok.2.2.2.1
    have hlt := sFits_lt ok (g 3) (g 4)
    have e : nI (g 4 + (j + 1)) - nI 1 = nI (g 4 + j) := by
      rw [n_sub (by omega)]
      rfl
    rw [w71_27, e]
    by_cases c : (g 4 + j) &&& g 4 = g 4
    · simp (disch := omega) only [w71_28, w71_28N, w71_29, w71_32, w71_35, w71_36, w71_36N, w71_37, w71_40, w71_41, w71_41N, w71_42, w71_45, w71_48, w71_49, w71_49N, w71_50, w71_51, w71_52, w71_55, w71_58, Sd_sr, Sd_s_r___1_, Sd_s_r___2_, Sd_s_r___3_, Sd_s_r___4_, Sd_s_r___5_, Sd_s_r___6_, Sd_s_r___7_, Sd_s_r___8_, Sd_s_r___9_, Sd_s_r___10_, Sd_rr_0, Sd_rr_1, Sd_rr_2, Sd_rr_4, Sd_rr_5, Sd_rr_12, Sd_rr_14, Sd_rr_15, Sd_rr_16, Sd_rr_17, n3, n6, n7, n8, n9, n10, n11, n13, h50, aPush_s, aPush_n, vrf_s, vrf_n, true_and, and_true, false_and, and_false, true_imp_iff, false_imp_iff, not_true_eq_false, not_false_eq_true, eq_self, true_or, or_true, and_self, if_true, if_false, n_lit, n_of, n_an, n_ltF, n_eqT, n_eqF, n_and, c]
      refine c72 (A0 := g 4) h50 h51 hR0 hsJ (by omega) c (by omega) ?_ hT ?_
      · intro w hw hb k hk hf
        rw [hs4, sFits_bit hw] at hb
        rw [hs4, sFits_bit hk]
        exact fit_mono hb (fun l _ hl2 => in_bit c hl2) hf
      · intro K hK hTK
        simp (disch := omega) only [w71_28, w71_28N, w71_29, w71_32, w71_35, w71_36, w71_36N, w71_37, w71_40, w71_41, w71_41N, w71_42, w71_45, w71_48, w71_49, w71_49N, w71_50, w71_51, w71_52, w71_55, w71_58, aPush_s, aPush_n, vrf_s, vrf_n, true_and, and_true, false_and, and_false, true_imp_iff, false_imp_iff, not_true_eq_false, not_false_eq_true, eq_self, true_or, or_true, and_self, if_true, if_false, n_lit, n_of, n_an]
        exact ih K (fun q hq => (hK q hq).trans (hJ q hq)) hTK
    · have c2 : (g 4 + j) &&& g 4 < 64 := Nat.lt_of_le_of_lt Nat.and_le_right h4
      simp (disch := omega) only [w71_28, w71_28N, w71_29, w71_32, w71_35, w71_36, w71_36N, w71_37, w71_40, w71_41, w71_41N, w71_42, w71_45, w71_48, w71_49, w71_49N, w71_50, w71_51, w71_52, w71_55, w71_58, Sd_sr, Sd_s_r___1_, Sd_s_r___2_, Sd_s_r___3_, Sd_s_r___4_, Sd_s_r___5_, Sd_s_r___6_, Sd_s_r___7_, Sd_s_r___8_, Sd_s_r___9_, Sd_s_r___10_, Sd_rr_0, Sd_rr_1, Sd_rr_2, Sd_rr_4, Sd_rr_5, Sd_rr_12, Sd_rr_14, Sd_rr_15, Sd_rr_16, Sd_rr_17, n3, n6, n7, n8, n9, n10, n11, n13, aPush_s, aPush_n, vrf_s, vrf_n, true_and, and_true, false_and, and_false, true_imp_iff, false_imp_iff, not_true_eq_false, not_false_eq_true, eq_self, true_or, or_true, and_self, if_true, if_false, n_lit, n_of, n_an, n_ltF, n_eqT, n_eqF, n_and, c]
      refine ih J hJ ?_
      intro A' h1' h2' h3' w hw hb
      by_cases e2 : A' = g 4 + j
      · subst e2
        exact absurd h3' c
      · exact hT A' (by omega) h2' h3' w hw hb
end
