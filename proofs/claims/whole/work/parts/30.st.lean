/-! a State at r holds the row g -/
def tr (x : Int32) : Int32 := if 0 ≤ x then (if x < 10000 then x else 9999 - x) else if x = -1 then -124 else if x = -2 then -38 else if x = -3 then -60 else if x = -4 then -61 else if x = -5 then -62 else if x = -6 then -43 else if x = -7 then -45 else if x = -8 then -42 else if x = -9 then -47 else -33
def Tx (S : Nat → Nat × Nat) (I : Nat → Nat → Int32) (R : Nat → Nat → Option Nat) (g : Nat → Nat) (t c : Nat) : Prop := 103 ≤ c ∧ S c = (4, 3) ∧ S (c + 1) = (9, sLen g t) ∧ R c 2 = some (c + 1) ∧ I c 0 = nI (sKey g t) ∧ I c 1 = nI (g (48 + 2 * t + 1)) ∧ (∀ k, k < sLen g t → I (c + 1) k = tr (sCode g t k))
/-- the numbers -/
def Cn (I : Nat → Nat → Int32) (r : Nat) (g : Nat → Nat) : Prop := I r 3 = nI (g 1) ∧ I r 6 = nI (g 2) ∧ I r 7 = nI (g 3) ∧ I r 8 = nI (g 4) ∧ I r 9 = nI (g 5) ∧ I r 10 = nI (g 6) ∧ I r 11 = nI (g 0) ∧ I r 13 = nI (g 7)
def Ca (I : Nat → Nat → Int32) (r : Nat) (g : Nat → Nat) : Prop := (∀ w, w < g 1 → I (r + 1) w = nI (g (8 + 2 * w))) ∧ (∀ w, w < g 1 → I (r + 2) w = nI (sW g w)) ∧ (∀ w, w < g 1 → ∀ l, l < 6 → I (r + 3) (6 * w + l) = nI (sPl g w l)) ∧ (∀ a, a < g 2 → I (r + 4) a = nI (g (32 + 2 * a))) ∧ (∀ a, a < g 2 → I (r + 5) a = nI (g (32 + 2 * a + 1))) ∧ (∀ k, k < 3 → I (r + 7) k = match sCt g k (g 7) with | some t => nI t | none => -nI 1)
def Ct (S : Nat → Nat × Nat) (I : Nat → Nat → Int32) (R : Nat → Nat → Option Nat) (r : Nat) (g : Nat → Nat) : Prop := ∀ t, t < g 7 → ∃ c, R (r + 6) t = some c ∧ Tx S I R g t c
def Cs (S : Nat → Nat × Nat) (I : Nat → Nat → Int32) (R : Nat → Nat → Option Nat) (r : Nat) (g : Nat → Nat) : Prop := (16 ≤ r ∧ r ≤ 39) ∧ Sd S R r ∧ Ok g ∧ Cn I r g ∧ Ca I r g ∧ Ct S I R r g
section
variable {d r : Nat} {g : Nat → Nat} {S : Nat → Nat × Nat} {I : Nat → Nat → Int32} {R : Nat → Nat → Option Nat} {z : Nat × Nat} {Q : Option Value → HS → Prop}
theorem c129 {s w : Nat} (hs : s < 2147483648) (hw : w < 31) : RM (d + 1) 129 [.int (nI s), .int (nI w)] (S, I, R, z) Q = Q (some (.int (nI (b2n (s.testBit w))))) (S, I, R, z) := by
  by_cases b : s.testBit w = true
  · simp (disch := omega) only [e129, w129_0, w129_1, w129_2, w129_3, w129_4, w129_5, w129_6, w129_9, w129_10, w129_13, w129_14, aPush_s, aPush_n, vrf_s, vrf_n, true_and, and_true, false_and, and_false, true_imp_iff, false_imp_iff, not_true_eq_false, not_false_eq_true, eq_self, true_or, or_true, and_self, if_true, if_false, n_lit, n_of, n_an, Nat.add_sub_cancel, nI_add, pk_mul, n_sub, n_ixT, n_cl, n_leT, n_leF, n_ltT, n_ltF, n_eqT, n_eqF, Nat.reduceAdd, Nat.reduceMul, Nat.reduceSub, Nat.reduceEqDiff, Nat.reduceLT, Nat.reduceLeDiff, Nat.mul_one, Nat.one_mul, Nat.add_zero, Nat.zero_add, n_bit, b, b2n_t, nz1]
  · have b' : s.testBit w = false := by simpa using b
    simp (disch := omega) only [e129, w129_0, w129_1, w129_2, w129_3, w129_4, w129_5, w129_6, w129_9, w129_10, w129_13, w129_14, aPush_s, aPush_n, vrf_s, vrf_n, true_and, and_true, false_and, and_false, true_imp_iff, false_imp_iff, not_true_eq_false, not_false_eq_true, eq_self, true_or, or_true, and_self, if_true, if_false, n_lit, n_of, n_an, Nat.add_sub_cancel, nI_add, pk_mul, n_sub, n_ixT, n_cl, n_leT, n_leF, n_ltT, n_ltF, n_eqT, n_eqF, Nat.reduceAdd, Nat.reduceMul, Nat.reduceSub, Nat.reduceEqDiff, Nat.reduceLT, Nat.reduceLeDiff, Nat.mul_one, Nat.one_mul, Nat.add_zero, Nat.zero_add, n_bit, b', b2n_f, nz0]
theorem c130 {v a b : Int32} (h : a ≤ b) : RM (d + 2) 130 [.int v, .int a, .int b] (S, I, R, z) Q = Q (some (.int (if v < a then a else if b < v then b else v))) (S, I, R, z) := by
  simp only [e130, w130_0, w130_1, w130_2, w130_3, w130_6, w130_9, RM_min, RM_max, aPush_s, aPush_n, vrf_s, vrf_n, true_and, and_true, false_and, and_false, true_imp_iff, false_imp_iff, not_true_eq_false, not_false_eq_true, eq_self, true_or, or_true, and_self, if_true, if_false]
  congr 3
  by_cases h1 : v < a
  · have h4 : v < b := Int32.lt_of_lt_of_le h1 h
    have h3 : ¬ a < v := Int32.not_lt.2 (Int32.le_of_lt h1)
    simp only [h1, h4, h3, if_true, if_false]
  · by_cases h2 : b < v
    · have h5 : ¬ v < b := Int32.not_lt.2 (Int32.le_of_lt h2)
      simp only [h1, h2, h5, if_true, if_false]
      by_cases h3 : a < b
      · rw [if_pos h3]
      · rw [if_neg h3]
        exact Int32.le_antisymm h (Int32.not_lt.1 h3)
    · simp only [h1, h2, if_false]
      by_cases h5 : v < b
      · rw [if_pos h5]
        by_cases h3 : a < v
        · rw [if_pos h3]
        · rw [if_neg h3]
          exact Int32.le_antisymm (Int32.not_lt.1 h1) (Int32.not_lt.1 h3)
      · rw [if_neg h5, Int32.le_antisymm (Int32.not_lt.1 h2) (Int32.not_lt.1 h5)]
        by_cases h3 : a < b
        · rw [if_pos h3]
        · rw [if_neg h3]
          exact Int32.le_antisymm h (Int32.not_lt.1 h3)
theorem c14 {w l : Nat} (hs : Cs S I R r g) (hw : w < g 1) (hl : l < 6) : RM (d + 1) 14 [.ref r, .int (nI w), .int (nI l)] (S, I, R, z) Q = Q (some (.int (nI (sPl g w l)))) (S, I, R, z) := by
  obtain ⟨hr, ⟨Sd_sr, Sd_s_r___1_, Sd_s_r___2_, Sd_s_r___3_, Sd_s_r___4_, Sd_s_r___5_, Sd_s_r___6_, Sd_s_r___7_, Sd_s_r___8_, Sd_s_r___9_, Sd_s_r___10_, Sd_rr_0, Sd_rr_1, Sd_rr_2, Sd_rr_4, Sd_rr_5, Sd_rr_12, Sd_rr_14, Sd_rr_15, Sd_rr_16, Sd_rr_17⟩, ok, ⟨n3, n6, n7, n8, n9, n10, n11, n13⟩, ⟨a1, a2, a3, a4, a5, a7⟩, ct⟩ := hs
  have h1 := ok.1
  simp (disch := omega) only [e14, w14_0, w14_1, w14_3, w14_4, w14_5, w14_6, w14_7, w14_8, w14_11, w14_12, w14_13, w14_16, w14_17, w14_20, w14_21, w14_24, w14_25, w14_26, w14_29, w14_30, Sd_sr, Sd_s_r___1_, Sd_s_r___2_, Sd_s_r___3_, Sd_s_r___4_, Sd_s_r___5_, Sd_s_r___6_, Sd_s_r___7_, Sd_s_r___8_, Sd_s_r___9_, Sd_s_r___10_, Sd_rr_0, Sd_rr_1, Sd_rr_2, Sd_rr_4, Sd_rr_5, Sd_rr_12, Sd_rr_14, Sd_rr_15, Sd_rr_16, Sd_rr_17, aPush_s, aPush_n, vrf_s, vrf_n, true_and, and_true, false_and, and_false, true_imp_iff, false_imp_iff, not_true_eq_false, not_false_eq_true, eq_self, true_or, or_true, and_self, if_true, if_false, n_lit, n_of, n_an, Nat.add_sub_cancel, nI_add, pk_mul, n_sub, n_ixT, n_cl, n_leT, n_leF, n_ltT, n_ltF, n_eqT, n_eqF, Nat.reduceAdd, Nat.reduceMul, Nat.reduceSub, Nat.reduceEqDiff, Nat.reduceLT, Nat.reduceLeDiff, Nat.mul_one, Nat.one_mul, Nat.add_zero, Nat.zero_add, n_of, n_lt0, Nat.mul_comm w 6, a3 w hw l hl]
theorem l15 {w : Nat} (hs : Cs S I R r g) (hw : w < g 1) : ∀ (j k : Nat), k + j = 6 → RB (d + 1) 15 4 [.ref r, .int (nI w), .int (nI (bs k (fun l => sPl g w l != 0))), .int (nI k)] [] (S, I, R, z) Q = Q (some (.int (nI (sLs g w)))) (S, I, R, z)
  | 0, k, h => by
    obtain rfl : k = 6 := by omega
    rw [w15_4]
    simp (disch := omega) only [w15_0, w15_1, w15_2, w15_3, w15_5, w15_7, w15_10, w15_11, w15_12, w15_13, w15_14, w15_17, w15_20, w15_21, w15_22, w15_23, w15_26, w15_27, w15_28, w15_29, w15_32, w15_35, w15_36, aPush_s, aPush_n, vrf_s, vrf_n, true_and, and_true, false_and, and_false, true_imp_iff, false_imp_iff, not_true_eq_false, not_false_eq_true, eq_self, true_or, or_true, and_self, if_true, if_false, n_lit, n_of, n_an, Nat.add_sub_cancel, nI_add, pk_mul, n_sub, n_ixT, n_cl, n_leT, n_leF, n_ltT, n_ltF, n_eqT, n_eqF, Nat.reduceAdd, Nat.reduceMul, Nat.reduceSub, Nat.reduceEqDiff, Nat.reduceLT, Nat.reduceLeDiff, Nat.mul_one, Nat.one_mul, Nat.add_zero, Nat.zero_add, sLs]
  | j + 1, k, h => by
    have hk : k < 6 := by omega
    have hp := sPl_lt g w k
    have ih := l15 hs hw j (k + 1) (by omega)
    obtain ⟨hr, ⟨Sd_sr, Sd_s_r___1_, Sd_s_r___2_, Sd_s_r___3_, Sd_s_r___4_, Sd_s_r___5_, Sd_s_r___6_, Sd_s_r___7_, Sd_s_r___8_, Sd_s_r___9_, Sd_s_r___10_, Sd_rr_0, Sd_rr_1, Sd_rr_2, Sd_rr_4, Sd_rr_5, Sd_rr_12, Sd_rr_14, Sd_rr_15, Sd_rr_16, Sd_rr_17⟩, ok, ⟨n3, n6, n7, n8, n9, n10, n11, n13⟩, ⟨a1, a2, a3, a4, a5, a7⟩, ct⟩ := id hs
    rw [w15_4]
    by_cases e : sPl g w k = 0
    · rw [bs_F (by simp only [e]; rfl)] at ih
      simp (disch := omega) only [w15_0, w15_1, w15_2, w15_3, w15_5, w15_7, w15_10, w15_11, w15_12, w15_13, w15_14, w15_17, w15_20, w15_21, w15_22, w15_23, w15_26, w15_27, w15_28, w15_29, w15_32, w15_35, w15_36, Sd_sr, Sd_s_r___1_, Sd_s_r___2_, Sd_s_r___3_, Sd_s_r___4_, Sd_s_r___5_, Sd_s_r___6_, Sd_s_r___7_, Sd_s_r___8_, Sd_s_r___9_, Sd_s_r___10_, Sd_rr_0, Sd_rr_1, Sd_rr_2, Sd_rr_4, Sd_rr_5, Sd_rr_12, Sd_rr_14, Sd_rr_15, Sd_rr_16, Sd_rr_17, aPush_s, aPush_n, vrf_s, vrf_n, true_and, and_true, false_and, and_false, true_imp_iff, false_imp_iff, not_true_eq_false, not_false_eq_true, eq_self, true_or, or_true, and_self, if_true, if_false, n_lit, n_of, n_an, Nat.add_sub_cancel, nI_add, pk_mul, n_sub, n_ixT, n_cl, n_leT, n_leF, n_ltT, n_ltF, n_eqT, n_eqF, Nat.reduceAdd, Nat.reduceMul, Nat.reduceSub, Nat.reduceEqDiff, Nat.reduceLT, Nat.reduceLeDiff, Nat.mul_one, Nat.one_mul, Nat.add_zero, Nat.zero_add, c14 hs hw hk, e, Nat.or_zero, n_or]
      exact ih
    · rw [bs_T (by simp only [bne_iff_ne, ne_eq, e, not_false_eq_true])] at ih
      simp (disch := omega) only [w15_0, w15_1, w15_2, w15_3, w15_5, w15_7, w15_10, w15_11, w15_12, w15_13, w15_14, w15_17, w15_20, w15_21, w15_22, w15_23, w15_26, w15_27, w15_28, w15_29, w15_32, w15_35, w15_36, Sd_sr, Sd_s_r___1_, Sd_s_r___2_, Sd_s_r___3_, Sd_s_r___4_, Sd_s_r___5_, Sd_s_r___6_, Sd_s_r___7_, Sd_s_r___8_, Sd_s_r___9_, Sd_s_r___10_, Sd_rr_0, Sd_rr_1, Sd_rr_2, Sd_rr_4, Sd_rr_5, Sd_rr_12, Sd_rr_14, Sd_rr_15, Sd_rr_16, Sd_rr_17, aPush_s, aPush_n, vrf_s, vrf_n, true_and, and_true, false_and, and_false, true_imp_iff, false_imp_iff, not_true_eq_false, not_false_eq_true, eq_self, true_or, or_true, and_self, if_true, if_false, n_lit, n_of, n_an, Nat.add_sub_cancel, nI_add, pk_mul, n_sub, n_ixT, n_cl, n_leT, n_leF, n_ltT, n_ltF, n_eqT, n_eqF, Nat.reduceAdd, Nat.reduceMul, Nat.reduceSub, Nat.reduceEqDiff, Nat.reduceLT, Nat.reduceLeDiff, Nat.mul_one, Nat.one_mul, Nat.add_zero, Nat.zero_add, c14 hs hw hk, n_shl, n_or]
      exact ih
theorem c15 {w : Nat} (hs : Cs S I R r g) (hw : w < g 1) : RM (d + 2) 15 [.ref r, .int (nI w)] (S, I, R, z) Q = Q (some (.int (nI (sLs g w)))) (S, I, R, z) := by
  simp only [e15, w15_0, w15_1, w15_2, w15_3, w15_5, w15_7, w15_10, w15_11, w15_12, w15_13, w15_14, w15_17, w15_20, w15_21, w15_22, w15_23, w15_26, w15_27, w15_28, w15_29, w15_32, w15_35, w15_36, n_lit, n_of, n_an, Nat.add_sub_cancel, nI_add, pk_mul, n_sub, n_ixT, n_cl, n_leT, n_leF, n_ltT, n_ltF, n_eqT, n_eqF, Nat.reduceAdd, Nat.reduceMul, Nat.reduceSub, Nat.reduceEqDiff, Nat.reduceLT, Nat.reduceLeDiff, Nat.mul_one, Nat.one_mul, Nat.add_zero, Nat.zero_add]
  exact l15 hs hw 6 0 rfl
theorem c16 (hs : Cs S I R r g) : RM (d + 1) 16 [.ref r] (S, I, R, z) Q = Q (some (.int (nI (2 ^ g 1 - 1)))) (S, I, R, z) := by
  obtain ⟨hr, ⟨Sd_sr, Sd_s_r___1_, Sd_s_r___2_, Sd_s_r___3_, Sd_s_r___4_, Sd_s_r___5_, Sd_s_r___6_, Sd_s_r___7_, Sd_s_r___8_, Sd_s_r___9_, Sd_s_r___10_, Sd_rr_0, Sd_rr_1, Sd_rr_2, Sd_rr_4, Sd_rr_5, Sd_rr_12, Sd_rr_14, Sd_rr_15, Sd_rr_16, Sd_rr_17⟩, ok, ⟨n3, n6, n7, n8, n9, n10, n11, n13⟩, ⟨a1, a2, a3, a4, a5, a7⟩, ct⟩ := hs
  have h1 := ok.1
  have hp1 : 1 ≤ 2 ^ g 1 := Nat.one_le_two_pow
  simp (disch := omega) only [e16, w16_0, w16_1, w16_2, w16_5, w16_6, w16_7, w16_8, Sd_sr, Sd_s_r___1_, Sd_s_r___2_, Sd_s_r___3_, Sd_s_r___4_, Sd_s_r___5_, Sd_s_r___6_, Sd_s_r___7_, Sd_s_r___8_, Sd_s_r___9_, Sd_s_r___10_, Sd_rr_0, Sd_rr_1, Sd_rr_2, Sd_rr_4, Sd_rr_5, Sd_rr_12, Sd_rr_14, Sd_rr_15, Sd_rr_16, Sd_rr_17, aPush_s, aPush_n, vrf_s, vrf_n, true_and, and_true, false_and, and_false, true_imp_iff, false_imp_iff, not_true_eq_false, not_false_eq_true, eq_self, true_or, or_true, and_self, if_true, if_false, n_lit, n_of, n_an, Nat.add_sub_cancel, nI_add, pk_mul, n_sub, n_ixT, n_cl, n_leT, n_leF, n_ltT, n_ltF, n_eqT, n_eqF, Nat.reduceAdd, Nat.reduceMul, Nat.reduceSub, Nat.reduceEqDiff, Nat.reduceLT, Nat.reduceLeDiff, Nat.mul_one, Nat.one_mul, Nat.add_zero, Nat.zero_add, n3, n6, n7, n8, n9, n10, n11, n13, n_shl]
theorem l17 {s : Nat} (hs : Cs S I R r g) (hb : s < 2147483648) : ∀ (j k : Nat), k + j = g 1 → RB (d + 1) 17 4 [.ref r, .int (nI s), .int (nI (sm k (fun w => if s.testBit w then sW g w else 0))), .int (nI k)] [] (S, I, R, z) Q = Q (some (.int (nI (sWt g s)))) (S, I, R, z)
  | 0, k, h => by
    obtain rfl : k = g 1 := by omega
    obtain ⟨hr, ⟨Sd_sr, Sd_s_r___1_, Sd_s_r___2_, Sd_s_r___3_, Sd_s_r___4_, Sd_s_r___5_, Sd_s_r___6_, Sd_s_r___7_, Sd_s_r___8_, Sd_s_r___9_, Sd_s_r___10_, Sd_rr_0, Sd_rr_1, Sd_rr_2, Sd_rr_4, Sd_rr_5, Sd_rr_12, Sd_rr_14, Sd_rr_15, Sd_rr_16, Sd_rr_17⟩, ok, ⟨n3, n6, n7, n8, n9, n10, n11, n13⟩, ⟨a1, a2, a3, a4, a5, a7⟩, ct⟩ := id hs
    have h1 := ok.1
    rw [w17_4]
    simp (disch := omega) only [w17_0, w17_1, w17_2, w17_3, w17_5, w17_6, w17_9, w17_12, w17_13, w17_14, w17_15, w17_18, w17_21, w17_22, w17_25, w17_26, w17_27, w17_30, w17_31, w17_32, w17_33, w17_36, w17_39, w17_40, Sd_sr, Sd_s_r___1_, Sd_s_r___2_, Sd_s_r___3_, Sd_s_r___4_, Sd_s_r___5_, Sd_s_r___6_, Sd_s_r___7_, Sd_s_r___8_, Sd_s_r___9_, Sd_s_r___10_, Sd_rr_0, Sd_rr_1, Sd_rr_2, Sd_rr_4, Sd_rr_5, Sd_rr_12, Sd_rr_14, Sd_rr_15, Sd_rr_16, Sd_rr_17, aPush_s, aPush_n, vrf_s, vrf_n, true_and, and_true, false_and, and_false, true_imp_iff, false_imp_iff, not_true_eq_false, not_false_eq_true, eq_self, true_or, or_true, and_self, if_true, if_false, n_lit, n_of, n_an, Nat.add_sub_cancel, nI_add, pk_mul, n_sub, n_ixT, n_cl, n_leT, n_leF, n_ltT, n_ltF, n_eqT, n_eqF, Nat.reduceAdd, Nat.reduceMul, Nat.reduceSub, Nat.reduceEqDiff, Nat.reduceLT, Nat.reduceLeDiff, Nat.mul_one, Nat.one_mul, Nat.add_zero, Nat.zero_add, n3, n6, n7, n8, n9, n10, n11, n13, sWt]
  | j + 1, k, h => by
    have hk : k < g 1 := by omega
    have ih := l17 hs hb j (k + 1) (by omega)
    obtain ⟨hr, ⟨Sd_sr, Sd_s_r___1_, Sd_s_r___2_, Sd_s_r___3_, Sd_s_r___4_, Sd_s_r___5_, Sd_s_r___6_, Sd_s_r___7_, Sd_s_r___8_, Sd_s_r___9_, Sd_s_r___10_, Sd_rr_0, Sd_rr_1, Sd_rr_2, Sd_rr_4, Sd_rr_5, Sd_rr_12, Sd_rr_14, Sd_rr_15, Sd_rr_16, Sd_rr_17⟩, ok, ⟨n3, n6, n7, n8, n9, n10, n11, n13⟩, ⟨a1, a2, a3, a4, a5, a7⟩, ct⟩ := id hs
    have h1 := ok.1
    rw [w17_4]
    by_cases b : s.testBit k = true
    · simp (disch := omega) only [w17_0, w17_1, w17_2, w17_3, w17_5, w17_6, w17_9, w17_12, w17_13, w17_14, w17_15, w17_18, w17_21, w17_22, w17_25, w17_26, w17_27, w17_30, w17_31, w17_32, w17_33, w17_36, w17_39, w17_40, Sd_sr, Sd_s_r___1_, Sd_s_r___2_, Sd_s_r___3_, Sd_s_r___4_, Sd_s_r___5_, Sd_s_r___6_, Sd_s_r___7_, Sd_s_r___8_, Sd_s_r___9_, Sd_s_r___10_, Sd_rr_0, Sd_rr_1, Sd_rr_2, Sd_rr_4, Sd_rr_5, Sd_rr_12, Sd_rr_14, Sd_rr_15, Sd_rr_16, Sd_rr_17, aPush_s, aPush_n, vrf_s, vrf_n, true_and, and_true, false_and, and_false, true_imp_iff, false_imp_iff, not_true_eq_false, not_false_eq_true, eq_self, true_or, or_true, and_self, if_true, if_false, n_lit, n_of, n_an, Nat.add_sub_cancel, nI_add, pk_mul, n_sub, n_ixT, n_cl, n_leT, n_leF, n_ltT, n_ltF, n_eqT, n_eqF, Nat.reduceAdd, Nat.reduceMul, Nat.reduceSub, Nat.reduceEqDiff, Nat.reduceLT, Nat.reduceLeDiff, Nat.mul_one, Nat.one_mul, Nat.add_zero, Nat.zero_add, n3, n6, n7, n8, n9, n10, n11, n13, c129, b, b2n_t, a2 k hk]
      simp only [sm, b, if_true] at ih
      exact ih
    · have b' : s.testBit k = false := by simpa using b
      simp (disch := omega) only [w17_0, w17_1, w17_2, w17_3, w17_5, w17_6, w17_9, w17_12, w17_13, w17_14, w17_15, w17_18, w17_21, w17_22, w17_25, w17_26, w17_27, w17_30, w17_31, w17_32, w17_33, w17_36, w17_39, w17_40, Sd_sr, Sd_s_r___1_, Sd_s_r___2_, Sd_s_r___3_, Sd_s_r___4_, Sd_s_r___5_, Sd_s_r___6_, Sd_s_r___7_, Sd_s_r___8_, Sd_s_r___9_, Sd_s_r___10_, Sd_rr_0, Sd_rr_1, Sd_rr_2, Sd_rr_4, Sd_rr_5, Sd_rr_12, Sd_rr_14, Sd_rr_15, Sd_rr_16, Sd_rr_17, aPush_s, aPush_n, vrf_s, vrf_n, true_and, and_true, false_and, and_false, true_imp_iff, false_imp_iff, not_true_eq_false, not_false_eq_true, eq_self, true_or, or_true, and_self, if_true, if_false, n_lit, n_of, n_an, Nat.add_sub_cancel, nI_add, pk_mul, n_sub, n_ixT, n_cl, n_leT, n_leF, n_ltT, n_ltF, n_eqT, n_eqF, Nat.reduceAdd, Nat.reduceMul, Nat.reduceSub, Nat.reduceEqDiff, Nat.reduceLT, Nat.reduceLeDiff, Nat.mul_one, Nat.one_mul, Nat.add_zero, Nat.zero_add, n3, n6, n7, n8, n9, n10, n11, n13, c129, b', b2n_f]
      simp only [sm, b', Bool.false_eq_true, if_false, Nat.add_zero] at ih
      exact ih
theorem c17 {s : Nat} (hs : Cs S I R r g) (hb : s < 2147483648) : RM (d + 2) 17 [.ref r, .int (nI s)] (S, I, R, z) Q = Q (some (.int (nI (sWt g s)))) (S, I, R, z) := by
  simp only [e17, w17_0, w17_1, w17_2, w17_3, w17_5, w17_6, w17_9, w17_12, w17_13, w17_14, w17_15, w17_18, w17_21, w17_22, w17_25, w17_26, w17_27, w17_30, w17_31, w17_32, w17_33, w17_36, w17_39, w17_40, n_lit, n_of, n_an, Nat.add_sub_cancel, nI_add, pk_mul, n_sub, n_ixT, n_cl, n_leT, n_leF, n_ltT, n_ltF, n_eqT, n_eqF, Nat.reduceAdd, Nat.reduceMul, Nat.reduceSub, Nat.reduceEqDiff, Nat.reduceLT, Nat.reduceLeDiff, Nat.mul_one, Nat.one_mul, Nat.add_zero, Nat.zero_add]
  exact l17 hs hb (g 1) 0 (Nat.zero_add _)
theorem l18 {s l : Nat} (hs : Cs S I R r g) (hb : s < 2147483648) (hl : l < 6) : ∀ (j k : Nat), k + j = g 1 → RB (d + 1) 18 5 [.ref r, .int (nI l), .int (nI s), .int (nI (bs k (fun w => s.testBit w && sPl g w l != 0))), .int (nI k)] [] (S, I, R, z) Q = Q (some (.int (nI (sHav g s l)))) (S, I, R, z)
  | 0, k, h => by
    obtain rfl : k = g 1 := by omega
    obtain ⟨hr, ⟨Sd_sr, Sd_s_r___1_, Sd_s_r___2_, Sd_s_r___3_, Sd_s_r___4_, Sd_s_r___5_, Sd_s_r___6_, Sd_s_r___7_, Sd_s_r___8_, Sd_s_r___9_, Sd_s_r___10_, Sd_rr_0, Sd_rr_1, Sd_rr_2, Sd_rr_4, Sd_rr_5, Sd_rr_12, Sd_rr_14, Sd_rr_15, Sd_rr_16, Sd_rr_17⟩, ok, ⟨n3, n6, n7, n8, n9, n10, n11, n13⟩, ⟨a1, a2, a3, a4, a5, a7⟩, ct⟩ := id hs
    have h1 := ok.1
    rw [w18_5]
    simp (disch := omega) only [w18_0, w18_1, w18_2, w18_3, w18_7, w18_8, w18_11, w18_14, w18_15, w18_16, w18_18, w18_21, w18_24, w18_25, w18_27, w18_28, w18_31, w18_34, w18_35, w18_37, w18_38, w18_41, w18_42, w18_43, w18_44, w18_47, w18_50, w18_51, Sd_sr, Sd_s_r___1_, Sd_s_r___2_, Sd_s_r___3_, Sd_s_r___4_, Sd_s_r___5_, Sd_s_r___6_, Sd_s_r___7_, Sd_s_r___8_, Sd_s_r___9_, Sd_s_r___10_, Sd_rr_0, Sd_rr_1, Sd_rr_2, Sd_rr_4, Sd_rr_5, Sd_rr_12, Sd_rr_14, Sd_rr_15, Sd_rr_16, Sd_rr_17, aPush_s, aPush_n, vrf_s, vrf_n, true_and, and_true, false_and, and_false, true_imp_iff, false_imp_iff, not_true_eq_false, not_false_eq_true, eq_self, true_or, or_true, and_self, if_true, if_false, n_lit, n_of, n_an, Nat.add_sub_cancel, nI_add, pk_mul, n_sub, n_ixT, n_cl, n_leT, n_leF, n_ltT, n_ltF, n_eqT, n_eqF, Nat.reduceAdd, Nat.reduceMul, Nat.reduceSub, Nat.reduceEqDiff, Nat.reduceLT, Nat.reduceLeDiff, Nat.mul_one, Nat.one_mul, Nat.add_zero, Nat.zero_add, n3, n6, n7, n8, n9, n10, n11, n13, sHav]
  | j + 1, k, h => by
    have hk : k < g 1 := by omega
    have ih := l18 hs hb hl j (k + 1) (by omega)
    have hp := sPl_lt g k l
    obtain ⟨hr, ⟨Sd_sr, Sd_s_r___1_, Sd_s_r___2_, Sd_s_r___3_, Sd_s_r___4_, Sd_s_r___5_, Sd_s_r___6_, Sd_s_r___7_, Sd_s_r___8_, Sd_s_r___9_, Sd_s_r___10_, Sd_rr_0, Sd_rr_1, Sd_rr_2, Sd_rr_4, Sd_rr_5, Sd_rr_12, Sd_rr_14, Sd_rr_15, Sd_rr_16, Sd_rr_17⟩, ok, ⟨n3, n6, n7, n8, n9, n10, n11, n13⟩, ⟨a1, a2, a3, a4, a5, a7⟩, ct⟩ := id hs
    have h1 := ok.1
    rw [w18_5]
    by_cases b : s.testBit k = true
    · by_cases e : sPl g k l = 0
      · rw [bs_F (by simp only [b, e]; rfl)] at ih
        simp (disch := omega) only [w18_0, w18_1, w18_2, w18_3, w18_7, w18_8, w18_11, w18_14, w18_15, w18_16, w18_18, w18_21, w18_24, w18_25, w18_27, w18_28, w18_31, w18_34, w18_35, w18_37, w18_38, w18_41, w18_42, w18_43, w18_44, w18_47, w18_50, w18_51, Sd_sr, Sd_s_r___1_, Sd_s_r___2_, Sd_s_r___3_, Sd_s_r___4_, Sd_s_r___5_, Sd_s_r___6_, Sd_s_r___7_, Sd_s_r___8_, Sd_s_r___9_, Sd_s_r___10_, Sd_rr_0, Sd_rr_1, Sd_rr_2, Sd_rr_4, Sd_rr_5, Sd_rr_12, Sd_rr_14, Sd_rr_15, Sd_rr_16, Sd_rr_17, aPush_s, aPush_n, vrf_s, vrf_n, true_and, and_true, false_and, and_false, true_imp_iff, false_imp_iff, not_true_eq_false, not_false_eq_true, eq_self, true_or, or_true, and_self, if_true, if_false, n_lit, n_of, n_an, Nat.add_sub_cancel, nI_add, pk_mul, n_sub, n_ixT, n_cl, n_leT, n_leF, n_ltT, n_ltF, n_eqT, n_eqF, Nat.reduceAdd, Nat.reduceMul, Nat.reduceSub, Nat.reduceEqDiff, Nat.reduceLT, Nat.reduceLeDiff, Nat.mul_one, Nat.one_mul, Nat.add_zero, Nat.zero_add, n3, n6, n7, n8, n9, n10, n11, n13, c129, b, b2n_t, c14 hs hk hl, e, Nat.or_zero, n_or]
        exact ih
      · rw [bs_T (by simp only [b, Bool.true_and, bne_iff_ne, ne_eq, e, not_false_eq_true])] at ih
        simp (disch := omega) only [w18_0, w18_1, w18_2, w18_3, w18_7, w18_8, w18_11, w18_14, w18_15, w18_16, w18_18, w18_21, w18_24, w18_25, w18_27, w18_28, w18_31, w18_34, w18_35, w18_37, w18_38, w18_41, w18_42, w18_43, w18_44, w18_47, w18_50, w18_51, Sd_sr, Sd_s_r___1_, Sd_s_r___2_, Sd_s_r___3_, Sd_s_r___4_, Sd_s_r___5_, Sd_s_r___6_, Sd_s_r___7_, Sd_s_r___8_, Sd_s_r___9_, Sd_s_r___10_, Sd_rr_0, Sd_rr_1, Sd_rr_2, Sd_rr_4, Sd_rr_5, Sd_rr_12, Sd_rr_14, Sd_rr_15, Sd_rr_16, Sd_rr_17, aPush_s, aPush_n, vrf_s, vrf_n, true_and, and_true, false_and, and_false, true_imp_iff, false_imp_iff, not_true_eq_false, not_false_eq_true, eq_self, true_or, or_true, and_self, if_true, if_false, n_lit, n_of, n_an, Nat.add_sub_cancel, nI_add, pk_mul, n_sub, n_ixT, n_cl, n_leT, n_leF, n_ltT, n_ltF, n_eqT, n_eqF, Nat.reduceAdd, Nat.reduceMul, Nat.reduceSub, Nat.reduceEqDiff, Nat.reduceLT, Nat.reduceLeDiff, Nat.mul_one, Nat.one_mul, Nat.add_zero, Nat.zero_add, n3, n6, n7, n8, n9, n10, n11, n13, c129, b, b2n_t, c14 hs hk hl, n_shl, n_or]
        exact ih
    · have b' : s.testBit k = false := by simpa using b
      rw [bs_F (by simp only [b', Bool.false_and])] at ih
      simp (disch := omega) only [w18_0, w18_1, w18_2, w18_3, w18_7, w18_8, w18_11, w18_14, w18_15, w18_16, w18_18, w18_21, w18_24, w18_25, w18_27, w18_28, w18_31, w18_34, w18_35, w18_37, w18_38, w18_41, w18_42, w18_43, w18_44, w18_47, w18_50, w18_51, Sd_sr, Sd_s_r___1_, Sd_s_r___2_, Sd_s_r___3_, Sd_s_r___4_, Sd_s_r___5_, Sd_s_r___6_, Sd_s_r___7_, Sd_s_r___8_, Sd_s_r___9_, Sd_s_r___10_, Sd_rr_0, Sd_rr_1, Sd_rr_2, Sd_rr_4, Sd_rr_5, Sd_rr_12, Sd_rr_14, Sd_rr_15, Sd_rr_16, Sd_rr_17, aPush_s, aPush_n, vrf_s, vrf_n, true_and, and_true, false_and, and_false, true_imp_iff, false_imp_iff, not_true_eq_false, not_false_eq_true, eq_self, true_or, or_true, and_self, if_true, if_false, n_lit, n_of, n_an, Nat.add_sub_cancel, nI_add, pk_mul, n_sub, n_ixT, n_cl, n_leT, n_leF, n_ltT, n_ltF, n_eqT, n_eqF, Nat.reduceAdd, Nat.reduceMul, Nat.reduceSub, Nat.reduceEqDiff, Nat.reduceLT, Nat.reduceLeDiff, Nat.mul_one, Nat.one_mul, Nat.add_zero, Nat.zero_add, n3, n6, n7, n8, n9, n10, n11, n13, c129, b', b2n_f, Nat.or_zero, n_or]
      exact ih
theorem c18 {s l : Nat} (hs : Cs S I R r g) (hb : s < 2147483648) (hl : l < 6) : RM (d + 2) 18 [.ref r, .int (nI l), .int (nI s)] (S, I, R, z) Q = Q (some (.int (nI (sHav g s l)))) (S, I, R, z) := by
  simp only [e18, w18_0, w18_1, w18_2, w18_3, w18_7, w18_8, w18_11, w18_14, w18_15, w18_16, w18_18, w18_21, w18_24, w18_25, w18_27, w18_28, w18_31, w18_34, w18_35, w18_37, w18_38, w18_41, w18_42, w18_43, w18_44, w18_47, w18_50, w18_51, n_lit, n_of, n_an, Nat.add_sub_cancel, nI_add, pk_mul, n_sub, n_ixT, n_cl, n_leT, n_leF, n_ltT, n_ltF, n_eqT, n_eqF, Nat.reduceAdd, Nat.reduceMul, Nat.reduceSub, Nat.reduceEqDiff, Nat.reduceLT, Nat.reduceLeDiff, Nat.mul_one, Nat.one_mul, Nat.add_zero, Nat.zero_add]
  exact l18 hs hb hl (g 1) 0 (Nat.zero_add _)
end
