/-! a State: which words fit, texts, scores -/
def fT (g : Nat → Nat) (h a w l : Nat) : Bool := !a.testBit l || sPl g h l == sPl g w l
theorem sPl_bit (g : Nat → Nat) (w l p : Nat) (hp : p < 4) : (sPl g w l).testBit p = (sL g w p == l) := by
  unfold sPl
  rw [bs_bit]
  simp only [hp, decide_true, Bool.true_and]
theorem fT_eq (g : Nat → Nat) (h a w : Nat) : al 6 (fT g h a w) = sFit g h a w := by
  rw [Bool.eq_iff_iff, al_iff]
  unfold sFit
  rw [al_iff]
  constructor
  · intro H p hp
    have x6 := sL_lt g w p
    have y6 := sL_lt g h p
    by_cases e : sL g w p = sL g h p
    · simp [e]
    · have hx : a.testBit (sL g w p) = false := by
        rcases q : a.testBit (sL g w p) with _ | _
        · rfl
        · have h1 := H _ x6
          unfold fT at h1
          rw [q] at h1
          simp only [Bool.not_true, Bool.false_or, beq_iff_eq] at h1
          have h2 := sPl_bit g w (sL g w p) p hp
          rw [← h1, sPl_bit g h _ p hp] at h2
          simp only [beq_self_eq_true, beq_iff_eq] at h2
          exact absurd h2.symm e
      have hy : a.testBit (sL g h p) = false := by
        rcases q : a.testBit (sL g h p) with _ | _
        · rfl
        · have h1 := H _ y6
          unfold fT at h1
          rw [q] at h1
          simp only [Bool.not_true, Bool.false_or, beq_iff_eq] at h1
          have h2 := sPl_bit g h (sL g h p) p hp
          rw [h1, sPl_bit g w _ p hp] at h2
          simp only [beq_self_eq_true, beq_iff_eq] at h2
          exact absurd h2 e
      simp [hx, hy]
  · intro H l hl
    unfold fT
    rcases q : a.testBit l with _ | _
    · rfl
    · simp only [Bool.not_true, Bool.false_or, beq_iff_eq]
      unfold sPl
      apply bs_cong
      intro p hp
      have h1 := H p hp
      by_cases e : sL g w p = sL g h p
      · rw [e]
      · simp only [Bool.or_eq_true, beq_iff_eq, e, false_or, Bool.and_eq_true, Bool.not_eq_true'] at h1
        have hx : sL g w p ≠ l := fun q2 => by rw [q2, q] at h1; cases h1.1
        have hy : sL g h p ≠ l := fun q2 => by rw [q2, q] at h1; cases h1.2
        rw [beq_eq_false_iff_ne.2 hx, beq_eq_false_iff_ne.2 hy]
section
variable {d r : Nat} {g : Nat → Nat} {S : Nat → Nat × Nat} {I : Nat → Nat → Int32} {R : Nat → Nat → Option Nat} {z : Nat × Nat} {Q : Option Value → HS → Prop}
theorem l20 {h a w : Nat} (hs : Cs S I R r g) (hh : h < g 1) (hw : w < g 1) (ha : a < 64) : ∀ (j k : Nat), k + j = 6 → al k (fT g h a w) = true → RB (d + 1) 20 3 [.ref r, .int (nI h), .int (nI w), .int (nI a), .int (nI k)] [] (S, I, R, z) Q = Q (some (.int (nI (b2n (al 6 (fT g h a w)))))) (S, I, R, z)
  | 0, k, e, hk => by
    obtain rfl : k = 6 := by omega
    rw [w20_3, hk]
    simp (disch := omega) only [w20_0, w20_1, w20_5, w20_7, w20_10, w20_11, w20_13, w20_16, w20_19, w20_20, w20_21, w20_23, w20_26, w20_27, w20_28, w20_30, w20_33, w20_36, w20_37, w20_38, w20_41, w20_44, w20_45, aPush_s, aPush_n, vrf_s, vrf_n, true_and, and_true, false_and, and_false, true_imp_iff, false_imp_iff, not_true_eq_false, not_false_eq_true, eq_self, true_or, or_true, and_self, if_true, if_false, n_lit, n_of, n_an, Nat.add_sub_cancel, nI_add, pk_mul, n_sub, n_ixT, n_cl, n_leT, n_leF, n_ltT, n_ltF, n_eqT, n_eqF, Nat.reduceAdd, Nat.reduceMul, Nat.reduceSub, Nat.reduceEqDiff, Nat.reduceLT, Nat.reduceLeDiff, Nat.mul_one, Nat.one_mul, Nat.add_zero, Nat.zero_add, b2n_t, nz1]
  | j + 1, k, e, hk => by
    have hk6 : k < 6 := by omega
    have ih := l20 hs hh hw ha j (k + 1) (by omega)
    have hp1 := sPl_lt g h k
    have hp2 := sPl_lt g w k
    have he : al (k + 1) (fT g h a w) = fT g h a w k := by
      show (al k _ && _) = _
      rw [hk, Bool.true_and]
    rw [he] at ih
    obtain ⟨hr, ⟨Sd_sr, Sd_s_r___1_, Sd_s_r___2_, Sd_s_r___3_, Sd_s_r___4_, Sd_s_r___5_, Sd_s_r___6_, Sd_s_r___7_, Sd_s_r___8_, Sd_s_r___9_, Sd_s_r___10_, Sd_rr_0, Sd_rr_1, Sd_rr_2, Sd_rr_4, Sd_rr_5, Sd_rr_12, Sd_rr_14, Sd_rr_15, Sd_rr_16, Sd_rr_17⟩, ok, ⟨n3, n6, n7, n8, n9, n10, n11, n13⟩, ⟨a1, a2, a3, a4, a5, a7⟩, ct⟩ := id hs
    rw [w20_3]
    by_cases b : a.testBit k = true
    · by_cases q : sPl g h k = sPl g w k
      · have f : fT g h a w k = true := by simp [fT, q]
        have ih := ih f
        simp (disch := omega) only [w20_0, w20_1, w20_5, w20_7, w20_10, w20_11, w20_13, w20_16, w20_19, w20_20, w20_21, w20_23, w20_26, w20_27, w20_28, w20_30, w20_33, w20_36, w20_37, w20_38, w20_41, w20_44, w20_45, Sd_sr, Sd_s_r___1_, Sd_s_r___2_, Sd_s_r___3_, Sd_s_r___4_, Sd_s_r___5_, Sd_s_r___6_, Sd_s_r___7_, Sd_s_r___8_, Sd_s_r___9_, Sd_s_r___10_, Sd_rr_0, Sd_rr_1, Sd_rr_2, Sd_rr_4, Sd_rr_5, Sd_rr_12, Sd_rr_14, Sd_rr_15, Sd_rr_16, Sd_rr_17, aPush_s, aPush_n, vrf_s, vrf_n, true_and, and_true, false_and, and_false, true_imp_iff, false_imp_iff, not_true_eq_false, not_false_eq_true, eq_self, true_or, or_true, and_self, if_true, if_false, n_lit, n_of, n_an, Nat.add_sub_cancel, nI_add, pk_mul, n_sub, n_ixT, n_cl, n_leT, n_leF, n_ltT, n_ltF, n_eqT, n_eqF, Nat.reduceAdd, Nat.reduceMul, Nat.reduceSub, Nat.reduceEqDiff, Nat.reduceLT, Nat.reduceLeDiff, Nat.mul_one, Nat.one_mul, Nat.add_zero, Nat.zero_add, c129, b, b2n_t, c14 hs hh hk6, c14 hs hw hk6, q]
        exact ih
      · have f : fT g h a w k = false := by simp [fT, q, b]
        rw [al_F hk6 f]
        simp (disch := omega) only [w20_0, w20_1, w20_5, w20_7, w20_10, w20_11, w20_13, w20_16, w20_19, w20_20, w20_21, w20_23, w20_26, w20_27, w20_28, w20_30, w20_33, w20_36, w20_37, w20_38, w20_41, w20_44, w20_45, Sd_sr, Sd_s_r___1_, Sd_s_r___2_, Sd_s_r___3_, Sd_s_r___4_, Sd_s_r___5_, Sd_s_r___6_, Sd_s_r___7_, Sd_s_r___8_, Sd_s_r___9_, Sd_s_r___10_, Sd_rr_0, Sd_rr_1, Sd_rr_2, Sd_rr_4, Sd_rr_5, Sd_rr_12, Sd_rr_14, Sd_rr_15, Sd_rr_16, Sd_rr_17, aPush_s, aPush_n, vrf_s, vrf_n, true_and, and_true, false_and, and_false, true_imp_iff, false_imp_iff, not_true_eq_false, not_false_eq_true, eq_self, true_or, or_true, and_self, if_true, if_false, n_lit, n_of, n_an, Nat.add_sub_cancel, nI_add, pk_mul, n_sub, n_ixT, n_cl, n_leT, n_leF, n_ltT, n_ltF, n_eqT, n_eqF, Nat.reduceAdd, Nat.reduceMul, Nat.reduceSub, Nat.reduceEqDiff, Nat.reduceLT, Nat.reduceLeDiff, Nat.mul_one, Nat.one_mul, Nat.add_zero, Nat.zero_add, c129, b, b2n_t, b2n_f, c14 hs hh hk6, c14 hs hw hk6, q, nz0]
    · have b' : a.testBit k = false := by simpa using b
      have f : fT g h a w k = true := by simp [fT, b']
      have ih := ih f
      simp (disch := omega) only [w20_0, w20_1, w20_5, w20_7, w20_10, w20_11, w20_13, w20_16, w20_19, w20_20, w20_21, w20_23, w20_26, w20_27, w20_28, w20_30, w20_33, w20_36, w20_37, w20_38, w20_41, w20_44, w20_45, Sd_sr, Sd_s_r___1_, Sd_s_r___2_, Sd_s_r___3_, Sd_s_r___4_, Sd_s_r___5_, Sd_s_r___6_, Sd_s_r___7_, Sd_s_r___8_, Sd_s_r___9_, Sd_s_r___10_, Sd_rr_0, Sd_rr_1, Sd_rr_2, Sd_rr_4, Sd_rr_5, Sd_rr_12, Sd_rr_14, Sd_rr_15, Sd_rr_16, Sd_rr_17, aPush_s, aPush_n, vrf_s, vrf_n, true_and, and_true, false_and, and_false, true_imp_iff, false_imp_iff, not_true_eq_false, not_false_eq_true, eq_self, true_or, or_true, and_self, if_true, if_false, n_lit, n_of, n_an, Nat.add_sub_cancel, nI_add, pk_mul, n_sub, n_ixT, n_cl, n_leT, n_leF, n_ltT, n_ltF, n_eqT, n_eqF, Nat.reduceAdd, Nat.reduceMul, Nat.reduceSub, Nat.reduceEqDiff, Nat.reduceLT, Nat.reduceLeDiff, Nat.mul_one, Nat.one_mul, Nat.add_zero, Nat.zero_add, c129, b', b2n_f]
      exact ih
theorem c20 {h a w : Nat} (hs : Cs S I R r g) (hh : h < g 1) (hw : w < g 1) (ha : a < 64) : RM (d + 2) 20 [.ref r, .int (nI h), .int (nI w), .int (nI a)] (S, I, R, z) Q = Q (some (.int (nI (b2n (sFit g h a w))))) (S, I, R, z) := by
  rw [← fT_eq]
  simp only [e20, w20_0, w20_1, w20_5, w20_7, w20_10, w20_11, w20_13, w20_16, w20_19, w20_20, w20_21, w20_23, w20_26, w20_27, w20_28, w20_30, w20_33, w20_36, w20_37, w20_38, w20_41, w20_44, w20_45, n_lit, n_of, n_an, Nat.add_sub_cancel, nI_add, pk_mul, n_sub, n_ixT, n_cl, n_leT, n_leF, n_ltT, n_ltF, n_eqT, n_eqF, Nat.reduceAdd, Nat.reduceMul, Nat.reduceSub, Nat.reduceEqDiff, Nat.reduceLT, Nat.reduceLeDiff, Nat.mul_one, Nat.one_mul, Nat.add_zero, Nat.zero_add]
  exact l20 hs hh hw ha 6 0 rfl rfl
theorem l19 {h a : Nat} (hs : Cs S I R r g) (hh : h < g 1) (ha : a < 64) : ∀ (j k : Nat), k + j = g 1 → RB (d + 2) 19 5 [.ref r, .int (nI h), .int (nI a), .int (nI (bs k (fun w => sFit g h a w))), .int (nI k)] [] (S, I, R, z) Q = Q (some (.int (nI (sFits g h a)))) (S, I, R, z)
  | 0, k, e => by
    obtain rfl : k = g 1 := by omega
    obtain ⟨hr, ⟨Sd_sr, Sd_s_r___1_, Sd_s_r___2_, Sd_s_r___3_, Sd_s_r___4_, Sd_s_r___5_, Sd_s_r___6_, Sd_s_r___7_, Sd_s_r___8_, Sd_s_r___9_, Sd_s_r___10_, Sd_rr_0, Sd_rr_1, Sd_rr_2, Sd_rr_4, Sd_rr_5, Sd_rr_12, Sd_rr_14, Sd_rr_15, Sd_rr_16, Sd_rr_17⟩, ok, ⟨n3, n6, n7, n8, n9, n10, n11, n13⟩, ⟨a1, a2, a3, a4, a5, a7⟩, ct⟩ := id hs
    have h1 := ok.1
    rw [w19_5]
    simp (disch := omega) only [w19_0, w19_1, w19_2, w19_3, w19_7, w19_8, w19_11, w19_14, w19_15, w19_16, w19_17, w19_19, w19_20, w19_23, w19_26, w19_27, w19_29, w19_30, w19_33, w19_34, w19_35, w19_36, w19_39, w19_42, w19_43, Sd_sr, Sd_s_r___1_, Sd_s_r___2_, Sd_s_r___3_, Sd_s_r___4_, Sd_s_r___5_, Sd_s_r___6_, Sd_s_r___7_, Sd_s_r___8_, Sd_s_r___9_, Sd_s_r___10_, Sd_rr_0, Sd_rr_1, Sd_rr_2, Sd_rr_4, Sd_rr_5, Sd_rr_12, Sd_rr_14, Sd_rr_15, Sd_rr_16, Sd_rr_17, aPush_s, aPush_n, vrf_s, vrf_n, true_and, and_true, false_and, and_false, true_imp_iff, false_imp_iff, not_true_eq_false, not_false_eq_true, eq_self, true_or, or_true, and_self, if_true, if_false, n_lit, n_of, n_an, Nat.add_sub_cancel, nI_add, pk_mul, n_sub, n_ixT, n_cl, n_leT, n_leF, n_ltT, n_ltF, n_eqT, n_eqF, Nat.reduceAdd, Nat.reduceMul, Nat.reduceSub, Nat.reduceEqDiff, Nat.reduceLT, Nat.reduceLeDiff, Nat.mul_one, Nat.one_mul, Nat.add_zero, Nat.zero_add, n3, n6, n7, n8, n9, n10, n11, n13, sFits]
  | j + 1, k, e => by
    have hk : k < g 1 := by omega
    have ih := l19 hs hh ha j (k + 1) (by omega)
    obtain ⟨hr, ⟨Sd_sr, Sd_s_r___1_, Sd_s_r___2_, Sd_s_r___3_, Sd_s_r___4_, Sd_s_r___5_, Sd_s_r___6_, Sd_s_r___7_, Sd_s_r___8_, Sd_s_r___9_, Sd_s_r___10_, Sd_rr_0, Sd_rr_1, Sd_rr_2, Sd_rr_4, Sd_rr_5, Sd_rr_12, Sd_rr_14, Sd_rr_15, Sd_rr_16, Sd_rr_17⟩, ok, ⟨n3, n6, n7, n8, n9, n10, n11, n13⟩, ⟨a1, a2, a3, a4, a5, a7⟩, ct⟩ := id hs
    have h1 := ok.1
    rw [w19_5]
    by_cases f : sFit g h a k = true
    · rw [bs_T f] at ih
      simp (disch := omega) only [w19_0, w19_1, w19_2, w19_3, w19_7, w19_8, w19_11, w19_14, w19_15, w19_16, w19_17, w19_19, w19_20, w19_23, w19_26, w19_27, w19_29, w19_30, w19_33, w19_34, w19_35, w19_36, w19_39, w19_42, w19_43, Sd_sr, Sd_s_r___1_, Sd_s_r___2_, Sd_s_r___3_, Sd_s_r___4_, Sd_s_r___5_, Sd_s_r___6_, Sd_s_r___7_, Sd_s_r___8_, Sd_s_r___9_, Sd_s_r___10_, Sd_rr_0, Sd_rr_1, Sd_rr_2, Sd_rr_4, Sd_rr_5, Sd_rr_12, Sd_rr_14, Sd_rr_15, Sd_rr_16, Sd_rr_17, aPush_s, aPush_n, vrf_s, vrf_n, true_and, and_true, false_and, and_false, true_imp_iff, false_imp_iff, not_true_eq_false, not_false_eq_true, eq_self, true_or, or_true, and_self, if_true, if_false, n_lit, n_of, n_an, Nat.add_sub_cancel, nI_add, pk_mul, n_sub, n_ixT, n_cl, n_leT, n_leF, n_ltT, n_ltF, n_eqT, n_eqF, Nat.reduceAdd, Nat.reduceMul, Nat.reduceSub, Nat.reduceEqDiff, Nat.reduceLT, Nat.reduceLeDiff, Nat.mul_one, Nat.one_mul, Nat.add_zero, Nat.zero_add, n3, n6, n7, n8, n9, n10, n11, n13, c20 hs hh hk ha, f, b2n_t, n_shl, n_or]
      exact ih
    · have f' : sFit g h a k = false := by simpa using f
      rw [bs_F f'] at ih
      simp (disch := omega) only [w19_0, w19_1, w19_2, w19_3, w19_7, w19_8, w19_11, w19_14, w19_15, w19_16, w19_17, w19_19, w19_20, w19_23, w19_26, w19_27, w19_29, w19_30, w19_33, w19_34, w19_35, w19_36, w19_39, w19_42, w19_43, Sd_sr, Sd_s_r___1_, Sd_s_r___2_, Sd_s_r___3_, Sd_s_r___4_, Sd_s_r___5_, Sd_s_r___6_, Sd_s_r___7_, Sd_s_r___8_, Sd_s_r___9_, Sd_s_r___10_, Sd_rr_0, Sd_rr_1, Sd_rr_2, Sd_rr_4, Sd_rr_5, Sd_rr_12, Sd_rr_14, Sd_rr_15, Sd_rr_16, Sd_rr_17, aPush_s, aPush_n, vrf_s, vrf_n, true_and, and_true, false_and, and_false, true_imp_iff, false_imp_iff, not_true_eq_false, not_false_eq_true, eq_self, true_or, or_true, and_self, if_true, if_false, n_lit, n_of, n_an, Nat.add_sub_cancel, nI_add, pk_mul, n_sub, n_ixT, n_cl, n_leT, n_leF, n_ltT, n_ltF, n_eqT, n_eqF, Nat.reduceAdd, Nat.reduceMul, Nat.reduceSub, Nat.reduceEqDiff, Nat.reduceLT, Nat.reduceLeDiff, Nat.mul_one, Nat.one_mul, Nat.add_zero, Nat.zero_add, n3, n6, n7, n8, n9, n10, n11, n13, c20 hs hh hk ha, f', b2n_f, n_or, Nat.or_zero]
      exact ih
theorem c19 {h a : Nat} (hs : Cs S I R r g) (hh : h < g 1) (ha : a < 64) : RM (d + 3) 19 [.ref r, .int (nI h), .int (nI a)] (S, I, R, z) Q = Q (some (.int (nI (sFits g h a)))) (S, I, R, z) := by
  simp only [e19, w19_0, w19_1, w19_2, w19_3, w19_7, w19_8, w19_11, w19_14, w19_15, w19_16, w19_17, w19_19, w19_20, w19_23, w19_26, w19_27, w19_29, w19_30, w19_33, w19_34, w19_35, w19_36, w19_39, w19_42, w19_43, n_lit, n_of, n_an, Nat.add_sub_cancel, nI_add, pk_mul, n_sub, n_ixT, n_cl, n_leT, n_leF, n_ltT, n_ltF, n_eqT, n_eqF, Nat.reduceAdd, Nat.reduceMul, Nat.reduceSub, Nat.reduceEqDiff, Nat.reduceLT, Nat.reduceLeDiff, Nat.mul_one, Nat.one_mul, Nat.add_zero, Nat.zero_add]
  exact l19 hs hh ha (g 1) 0 (Nat.zero_add _)
theorem c21 (hs : Cs S I R r g) : RM (d + 4) 21 [.ref r] (S, I, R, z) Q = Q (some (.int (nI (sNow g)))) (S, I, R, z) := by
  obtain ⟨hr, ⟨Sd_sr, Sd_s_r___1_, Sd_s_r___2_, Sd_s_r___3_, Sd_s_r___4_, Sd_s_r___5_, Sd_s_r___6_, Sd_s_r___7_, Sd_s_r___8_, Sd_s_r___9_, Sd_s_r___10_, Sd_rr_0, Sd_rr_1, Sd_rr_2, Sd_rr_4, Sd_rr_5, Sd_rr_12, Sd_rr_14, Sd_rr_15, Sd_rr_16, Sd_rr_17⟩, ok, ⟨n3, n6, n7, n8, n9, n10, n11, n13⟩, ⟨a1, a2, a3, a4, a5, a7⟩, ct⟩ := id hs
  have h1 := ok.1
  unfold sNow
  by_cases e : g 3 = 4294967295
  · rw [if_pos e]
    simp (disch := omega) only [e21, w21_0, w21_1, w21_4, w21_7, w21_8, w21_11, w21_12, w21_13, w21_16, w21_17, w21_20, w21_23, Sd_sr, Sd_s_r___1_, Sd_s_r___2_, Sd_s_r___3_, Sd_s_r___4_, Sd_s_r___5_, Sd_s_r___6_, Sd_s_r___7_, Sd_s_r___8_, Sd_s_r___9_, Sd_s_r___10_, Sd_rr_0, Sd_rr_1, Sd_rr_2, Sd_rr_4, Sd_rr_5, Sd_rr_12, Sd_rr_14, Sd_rr_15, Sd_rr_16, Sd_rr_17, aPush_s, aPush_n, vrf_s, vrf_n, true_and, and_true, false_and, and_false, true_imp_iff, false_imp_iff, not_true_eq_false, not_false_eq_true, eq_self, true_or, or_true, and_self, if_true, if_false, n_lit, n_of, n_an, Nat.add_sub_cancel, nI_add, pk_mul, n_sub, n_ixT, n_cl, n_leT, n_leF, n_ltT, n_ltF, n_eqT, n_eqF, Nat.reduceAdd, Nat.reduceMul, Nat.reduceSub, Nat.reduceEqDiff, Nat.reduceLT, Nat.reduceLeDiff, Nat.mul_one, Nat.one_mul, Nat.add_zero, Nat.zero_add, n3, n6, n7, n8, n9, n10, n11, n13, e, show (nI 0 ≤ nI 4294967295) = False by decide]
  · rw [if_neg e]
    have h3 : g 3 < g 1 := by rcases ok.2.2.1 with q | q; exact absurd q.1 e; exact q
    have h4 := ok.2.2.2.1
    simp (disch := omega) only [e21, w21_0, w21_1, w21_4, w21_7, w21_8, w21_11, w21_12, w21_13, w21_16, w21_17, w21_20, w21_23, Sd_sr, Sd_s_r___1_, Sd_s_r___2_, Sd_s_r___3_, Sd_s_r___4_, Sd_s_r___5_, Sd_s_r___6_, Sd_s_r___7_, Sd_s_r___8_, Sd_s_r___9_, Sd_s_r___10_, Sd_rr_0, Sd_rr_1, Sd_rr_2, Sd_rr_4, Sd_rr_5, Sd_rr_12, Sd_rr_14, Sd_rr_15, Sd_rr_16, Sd_rr_17, aPush_s, aPush_n, vrf_s, vrf_n, true_and, and_true, false_and, and_false, true_imp_iff, false_imp_iff, not_true_eq_false, not_false_eq_true, eq_self, true_or, or_true, and_self, if_true, if_false, n_lit, n_of, n_an, Nat.add_sub_cancel, nI_add, pk_mul, n_sub, n_ixT, n_cl, n_leT, n_leF, n_ltT, n_ltF, n_eqT, n_eqF, Nat.reduceAdd, Nat.reduceMul, Nat.reduceSub, Nat.reduceEqDiff, Nat.reduceLT, Nat.reduceLeDiff, Nat.mul_one, Nat.one_mul, Nat.add_zero, Nat.zero_add, n3, n6, n7, n8, n9, n10, n11, n13, c19 hs h3 h4]
theorem c39n {k : Nat} (hs : Cs S I R r g) (hk : k < 3) (h : sCt g k (g 7) = none) : RM (d + 1) 39 [.ref r, .int (nI k)] (S, I, R, z) Q = Q (some .null) (S, I, R, z) := by
  obtain ⟨hr, ⟨Sd_sr, Sd_s_r___1_, Sd_s_r___2_, Sd_s_r___3_, Sd_s_r___4_, Sd_s_r___5_, Sd_s_r___6_, Sd_s_r___7_, Sd_s_r___8_, Sd_s_r___9_, Sd_s_r___10_, Sd_rr_0, Sd_rr_1, Sd_rr_2, Sd_rr_4, Sd_rr_5, Sd_rr_12, Sd_rr_14, Sd_rr_15, Sd_rr_16, Sd_rr_17⟩, ok, ⟨n3, n6, n7, n8, n9, n10, n11, n13⟩, ⟨a1, a2, a3, a4, a5, a7⟩, ct⟩ := id hs
  have q := a7 k hk
  rw [h] at q
  simp (disch := omega) only [e39, w39_0, w39_1, w39_4, w39_5, w39_6, w39_7, w39_8, w39_11, w39_12, w39_13, w39_16, w39_19, w39_20, w39_23, w39_24, w39_25, w39_28, w39_29, w39_29N, Sd_sr, Sd_s_r___1_, Sd_s_r___2_, Sd_s_r___3_, Sd_s_r___4_, Sd_s_r___5_, Sd_s_r___6_, Sd_s_r___7_, Sd_s_r___8_, Sd_s_r___9_, Sd_s_r___10_, Sd_rr_0, Sd_rr_1, Sd_rr_2, Sd_rr_4, Sd_rr_5, Sd_rr_12, Sd_rr_14, Sd_rr_15, Sd_rr_16, Sd_rr_17, aPush_s, aPush_n, vrf_s, vrf_n, true_and, and_true, false_and, and_false, true_imp_iff, false_imp_iff, not_true_eq_false, not_false_eq_true, eq_self, true_or, or_true, and_self, if_true, if_false, n_lit, n_of, n_an, Nat.add_sub_cancel, nI_add, pk_mul, n_sub, n_ixT, n_cl, n_leT, n_leF, n_ltT, n_ltF, n_eqT, n_eqF, Nat.reduceAdd, Nat.reduceMul, Nat.reduceSub, Nat.reduceEqDiff, Nat.reduceLT, Nat.reduceLeDiff, Nat.mul_one, Nat.one_mul, Nat.add_zero, Nat.zero_add, n3, n6, n7, n8, n9, n10, n11, n13, q, n_m1lt]
theorem c39s {k t c : Nat} (hs : Cs S I R r g) (hk : k < 3) (h : sCt g k (g 7) = some t) (hc : R (r + 6) t = some c) : RM (d + 1) 39 [.ref r, .int (nI k)] (S, I, R, z) Q = Q (some (.ref c)) (S, I, R, z) := by
  obtain ⟨hr, ⟨Sd_sr, Sd_s_r___1_, Sd_s_r___2_, Sd_s_r___3_, Sd_s_r___4_, Sd_s_r___5_, Sd_s_r___6_, Sd_s_r___7_, Sd_s_r___8_, Sd_s_r___9_, Sd_s_r___10_, Sd_rr_0, Sd_rr_1, Sd_rr_2, Sd_rr_4, Sd_rr_5, Sd_rr_12, Sd_rr_14, Sd_rr_15, Sd_rr_16, Sd_rr_17⟩, ok, ⟨n3, n6, n7, n8, n9, n10, n11, n13⟩, ⟨a1, a2, a3, a4, a5, a7⟩, ct⟩ := id hs
  have q := a7 k hk
  rw [h] at q
  have ht := (sCt_some h).1
  have h7 := ok.2.2.2.2.2.1
  simp (disch := omega) only [e39, w39_0, w39_1, w39_4, w39_5, w39_6, w39_7, w39_8, w39_11, w39_12, w39_13, w39_16, w39_19, w39_20, w39_23, w39_24, w39_25, w39_28, w39_29, w39_29N, Sd_sr, Sd_s_r___1_, Sd_s_r___2_, Sd_s_r___3_, Sd_s_r___4_, Sd_s_r___5_, Sd_s_r___6_, Sd_s_r___7_, Sd_s_r___8_, Sd_s_r___9_, Sd_s_r___10_, Sd_rr_0, Sd_rr_1, Sd_rr_2, Sd_rr_4, Sd_rr_5, Sd_rr_12, Sd_rr_14, Sd_rr_15, Sd_rr_16, Sd_rr_17, aPush_s, aPush_n, vrf_s, vrf_n, true_and, and_true, false_and, and_false, true_imp_iff, false_imp_iff, not_true_eq_false, not_false_eq_true, eq_self, true_or, or_true, and_self, if_true, if_false, n_lit, n_of, n_an, Nat.add_sub_cancel, nI_add, pk_mul, n_sub, n_ixT, n_cl, n_leT, n_leF, n_ltT, n_ltF, n_eqT, n_eqF, Nat.reduceAdd, Nat.reduceMul, Nat.reduceSub, Nat.reduceEqDiff, Nat.reduceLT, Nat.reduceLeDiff, Nat.mul_one, Nat.one_mul, Nat.add_zero, Nat.zero_add, n3, n6, n7, n8, n9, n10, n11, n13, q, n_m1lt, hc, Nat.reduceLeDiff, Nat.le_refl]
theorem c68 {s a b c : Int32} : RM (d + 1) 68 [.int s, .int a, .int b, .int c] (S, I, R, z) Q = Q (some (.int (if 0 ≤ s then s else if s = -1 then a else if s = -3 then c else b))) (S, I, R, z) := by
  by_cases h : 0 ≤ s
  · have h' : ¬ s < 0 := Int32.not_lt.2 h
    simp only [e68, w68_0, w68_1, w68_4, w68_5, w68_6, w68_7, w68_8, w68_11, w68_12, w68_15, w68_16, w68_18, w68_21, w68_22, w68_25, w68_26, aPush_s, aPush_n, vrf_s, vrf_n, true_and, and_true, false_and, and_false, true_imp_iff, false_imp_iff, not_true_eq_false, not_false_eq_true, eq_self, true_or, or_true, and_self, if_true, if_false, h, h']
  · have h' : s < 0 := Int32.not_le.1 h
    by_cases h1 : s = -1
    · simp only [e68, w68_0, w68_1, w68_4, w68_5, w68_6, w68_7, w68_8, w68_11, w68_12, w68_15, w68_16, w68_18, w68_21, w68_22, w68_25, w68_26, aPush_s, aPush_n, vrf_s, vrf_n, true_and, and_true, false_and, and_false, true_imp_iff, false_imp_iff, not_true_eq_false, not_false_eq_true, eq_self, true_or, or_true, and_self, if_true, if_false, h, h', h1]
      simp
    · by_cases h3 : s = -3
      · simp only [e68, w68_0, w68_1, w68_4, w68_5, w68_6, w68_7, w68_8, w68_11, w68_12, w68_15, w68_16, w68_18, w68_21, w68_22, w68_25, w68_26, aPush_s, aPush_n, vrf_s, vrf_n, true_and, and_true, false_and, and_false, true_imp_iff, false_imp_iff, not_true_eq_false, not_false_eq_true, eq_self, true_or, or_true, and_self, if_true, if_false, h, h', h1, h3]
        simp
      · simp only [e68, w68_0, w68_1, w68_4, w68_5, w68_6, w68_7, w68_8, w68_11, w68_12, w68_15, w68_16, w68_18, w68_21, w68_22, w68_25, w68_26, aPush_s, aPush_n, vrf_s, vrf_n, true_and, and_true, false_and, and_false, true_imp_iff, false_imp_iff, not_true_eq_false, not_false_eq_true, eq_self, true_or, or_true, and_self, if_true, if_false, h, h', h1, h3]
theorem c69 {s x y : Int32} (h : s = -1 ∨ s = -2 ∨ s = -3 ∨ s = -4 ∨ s = -5 ∨ s = -6 ∨ s = -7 ∨ s = -8 ∨ s = -9) : RM (d + 1) 69 [.int (-(tr s)), .int x, .int y] (S, I, R, z) Q = Q (some (.int (sTwo s x y))) (S, I, R, z) := by
  rcases h with e | e | e | e | e | e | e | e | e <;> subst e
  · rw [show -(tr (-1)) = 124 by decide]
    by_cases hx : x = 0 <;> by_cases hy : y = 0 <;> simp (decide := true) only [e69, w69_0, w69_1, w69_76, w69_77, w69_80, w69_81, w69_84, w69_85, w69_88, w69_89, w69_90, w69_91, w69_94, w69_95, w69_98, w69_99, w69_102, w69_103, w69_104, w69_105, w69_106, w69_109, w69_110, w69_113, w69_114, w69_115, w69_116, w69_117, w69_120, w69_121, w69_124, w69_125, w69_126, w69_127, w69_128, w69_131, w69_132, w69_135, w69_136, w69_137, w69_138, w69_139, w69_140, w69_141, w69_142, w69_143, w69_144, w69_145, w69_146, w69_147, w69_148, w69_149, w69_150, w69_153, w69_154, w69_157, w69_158, w69_159, w69_160, aTsR, aPush_s, aPush_n, vrf_s, vrf_n, true_and, and_true, false_and, and_false, true_imp_iff, false_imp_iff, not_true_eq_false, not_false_eq_true, eq_self, true_or, or_true, and_self, if_true, if_false, hx, hy, sTwo]
  · rw [show -(tr (-2)) = 38 by decide]
    by_cases hx : x = 0 <;> by_cases hy : y = 0 <;> simp (decide := true) only [e69, w69_0, w69_1, w69_76, w69_77, w69_80, w69_81, w69_84, w69_85, w69_88, w69_89, w69_90, w69_91, w69_94, w69_95, w69_98, w69_99, w69_102, w69_103, w69_104, w69_105, w69_106, w69_109, w69_110, w69_113, w69_114, w69_115, w69_116, w69_117, w69_120, w69_121, w69_124, w69_125, w69_126, w69_127, w69_128, w69_131, w69_132, w69_135, w69_136, w69_137, w69_138, w69_139, w69_140, w69_141, w69_142, w69_143, w69_144, w69_145, w69_146, w69_147, w69_148, w69_149, w69_150, w69_153, w69_154, w69_157, w69_158, w69_159, w69_160, aTsR, aPush_s, aPush_n, vrf_s, vrf_n, true_and, and_true, false_and, and_false, true_imp_iff, false_imp_iff, not_true_eq_false, not_false_eq_true, eq_self, true_or, or_true, and_self, if_true, if_false, hx, hy, sTwo]
  · rw [show -(tr (-3)) = 60 by decide]
    by_cases hx : x < y <;> simp (decide := true) only [e69, w69_0, w69_1, w69_76, w69_77, w69_80, w69_81, w69_84, w69_85, w69_88, w69_89, w69_90, w69_91, w69_94, w69_95, w69_98, w69_99, w69_102, w69_103, w69_104, w69_105, w69_106, w69_109, w69_110, w69_113, w69_114, w69_115, w69_116, w69_117, w69_120, w69_121, w69_124, w69_125, w69_126, w69_127, w69_128, w69_131, w69_132, w69_135, w69_136, w69_137, w69_138, w69_139, w69_140, w69_141, w69_142, w69_143, w69_144, w69_145, w69_146, w69_147, w69_148, w69_149, w69_150, w69_153, w69_154, w69_157, w69_158, w69_159, w69_160, aTsR, aPush_s, aPush_n, vrf_s, vrf_n, true_and, and_true, false_and, and_false, true_imp_iff, false_imp_iff, not_true_eq_false, not_false_eq_true, eq_self, true_or, or_true, and_self, if_true, if_false, hx, sTwo, ← Int32.not_lt]
  · rw [show -(tr (-4)) = 61 by decide]
    by_cases hx : x = y <;> simp (decide := true) only [e69, w69_0, w69_1, w69_76, w69_77, w69_80, w69_81, w69_84, w69_85, w69_88, w69_89, w69_90, w69_91, w69_94, w69_95, w69_98, w69_99, w69_102, w69_103, w69_104, w69_105, w69_106, w69_109, w69_110, w69_113, w69_114, w69_115, w69_116, w69_117, w69_120, w69_121, w69_124, w69_125, w69_126, w69_127, w69_128, w69_131, w69_132, w69_135, w69_136, w69_137, w69_138, w69_139, w69_140, w69_141, w69_142, w69_143, w69_144, w69_145, w69_146, w69_147, w69_148, w69_149, w69_150, w69_153, w69_154, w69_157, w69_158, w69_159, w69_160, aTsR, aPush_s, aPush_n, vrf_s, vrf_n, true_and, and_true, false_and, and_false, true_imp_iff, false_imp_iff, not_true_eq_false, not_false_eq_true, eq_self, true_or, or_true, and_self, if_true, if_false, hx, sTwo]
  · rw [show -(tr (-5)) = 62 by decide]
    by_cases hx : y < x <;> simp (decide := true) only [e69, w69_0, w69_1, w69_76, w69_77, w69_80, w69_81, w69_84, w69_85, w69_88, w69_89, w69_90, w69_91, w69_94, w69_95, w69_98, w69_99, w69_102, w69_103, w69_104, w69_105, w69_106, w69_109, w69_110, w69_113, w69_114, w69_115, w69_116, w69_117, w69_120, w69_121, w69_124, w69_125, w69_126, w69_127, w69_128, w69_131, w69_132, w69_135, w69_136, w69_137, w69_138, w69_139, w69_140, w69_141, w69_142, w69_143, w69_144, w69_145, w69_146, w69_147, w69_148, w69_149, w69_150, w69_153, w69_154, w69_157, w69_158, w69_159, w69_160, aTsR, aPush_s, aPush_n, vrf_s, vrf_n, true_and, and_true, false_and, and_false, true_imp_iff, false_imp_iff, not_true_eq_false, not_false_eq_true, eq_self, true_or, or_true, and_self, if_true, if_false, hx, sTwo, ← Int32.not_lt]
  · rw [show -(tr (-6)) = 43 by decide]
    simp (decide := true) only [e69, w69_0, w69_1, w69_76, w69_77, w69_80, w69_81, w69_84, w69_85, w69_88, w69_89, w69_90, w69_91, w69_94, w69_95, w69_98, w69_99, w69_102, w69_103, w69_104, w69_105, w69_106, w69_109, w69_110, w69_113, w69_114, w69_115, w69_116, w69_117, w69_120, w69_121, w69_124, w69_125, w69_126, w69_127, w69_128, w69_131, w69_132, w69_135, w69_136, w69_137, w69_138, w69_139, w69_140, w69_141, w69_142, w69_143, w69_144, w69_145, w69_146, w69_147, w69_148, w69_149, w69_150, w69_153, w69_154, w69_157, w69_158, w69_159, w69_160, aTsR, aPush_s, aPush_n, vrf_s, vrf_n, true_and, and_true, false_and, and_false, true_imp_iff, false_imp_iff, not_true_eq_false, not_false_eq_true, eq_self, true_or, or_true, and_self, if_true, if_false, sTwo]
  · rw [show -(tr (-7)) = 45 by decide]
    simp (decide := true) only [e69, w69_0, w69_1, w69_76, w69_77, w69_80, w69_81, w69_84, w69_85, w69_88, w69_89, w69_90, w69_91, w69_94, w69_95, w69_98, w69_99, w69_102, w69_103, w69_104, w69_105, w69_106, w69_109, w69_110, w69_113, w69_114, w69_115, w69_116, w69_117, w69_120, w69_121, w69_124, w69_125, w69_126, w69_127, w69_128, w69_131, w69_132, w69_135, w69_136, w69_137, w69_138, w69_139, w69_140, w69_141, w69_142, w69_143, w69_144, w69_145, w69_146, w69_147, w69_148, w69_149, w69_150, w69_153, w69_154, w69_157, w69_158, w69_159, w69_160, aTsR, aPush_s, aPush_n, vrf_s, vrf_n, true_and, and_true, false_and, and_false, true_imp_iff, false_imp_iff, not_true_eq_false, not_false_eq_true, eq_self, true_or, or_true, and_self, if_true, if_false, sTwo]
  · rw [show -(tr (-8)) = 42 by decide]
    simp (decide := true) only [e69, w69_0, w69_1, w69_76, w69_77, w69_80, w69_81, w69_84, w69_85, w69_88, w69_89, w69_90, w69_91, w69_94, w69_95, w69_98, w69_99, w69_102, w69_103, w69_104, w69_105, w69_106, w69_109, w69_110, w69_113, w69_114, w69_115, w69_116, w69_117, w69_120, w69_121, w69_124, w69_125, w69_126, w69_127, w69_128, w69_131, w69_132, w69_135, w69_136, w69_137, w69_138, w69_139, w69_140, w69_141, w69_142, w69_143, w69_144, w69_145, w69_146, w69_147, w69_148, w69_149, w69_150, w69_153, w69_154, w69_157, w69_158, w69_159, w69_160, aTsR, aPush_s, aPush_n, vrf_s, vrf_n, true_and, and_true, false_and, and_false, true_imp_iff, false_imp_iff, not_true_eq_false, not_false_eq_true, eq_self, true_or, or_true, and_self, if_true, if_false, sTwo]
  · rw [show -(tr (-9)) = 47 by decide]
    by_cases hy : y = 0 <;> simp (decide := true) only [e69, w69_0, w69_1, w69_76, w69_77, w69_80, w69_81, w69_84, w69_85, w69_88, w69_89, w69_90, w69_91, w69_94, w69_95, w69_98, w69_99, w69_102, w69_103, w69_104, w69_105, w69_106, w69_109, w69_110, w69_113, w69_114, w69_115, w69_116, w69_117, w69_120, w69_121, w69_124, w69_125, w69_126, w69_127, w69_128, w69_131, w69_132, w69_135, w69_136, w69_137, w69_138, w69_139, w69_140, w69_141, w69_142, w69_143, w69_144, w69_145, w69_146, w69_147, w69_148, w69_149, w69_150, w69_153, w69_154, w69_157, w69_158, w69_159, w69_160, aTsR, aPush_s, aPush_n, vrf_s, vrf_n, true_and, and_true, false_and, and_false, true_imp_iff, false_imp_iff, not_true_eq_false, not_false_eq_true, eq_self, true_or, or_true, and_self, if_true, if_false, hy, sTwo]
end
