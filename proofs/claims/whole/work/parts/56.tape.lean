/-! the tape, numbers that wait: both sides -/
section
variable {d n : Nat} {sc : (Nat × Nat) × (Nat → Int32)} {S : Nat → Nat × Nat} {I J : Nat → Nat → Int32} {R : Nat → Nat → Option Nat} {z : Nat × Nat} {x y w : Int32} {Q : Option Value → HS → Prop}
theorem Inv.ow (h : Inv sc n S I R z) (e : ∀ q, q < 16 ∨ (16 < q ∧ q < 50) ∨ q = 82 ∨ q = 83 ∨ q = 87 ∨ q = 88 ∨ 103 ≤ q → J q = I q) (e16 : J 16 8 = I 16 8) (e81 : J 81 3 = I 81 3) (hw : Wa J) (ht : Ta J) (hs : Shs J) (hl : Sls J) : Inv sc n S J R z := by
  refine h.ch (fun q hq => e q (by omega)) (h.mr.cong (e 1 (by omega)) (e 82 (by omega))) ?_ (h.im.cong e16 e81 (e 83 (by omega)) (fun q hq => e q (by omega))) hw ht hs hl
  have eG : G J = G I := by
    unfold G
    rw [e 82 (by omega)]
  rw [eG]
  exact h.cs.cong (fun q hq => e q (by omega))
theorem p117 (h : Inv sc n S I R z) : RM (d + 300) 117 [.ref 16, .int x] (S, I, R, z) (Px d 233 [.int x] sc n) := by
  obtain ⟨⟨Hd_s16, Hd_s52, Hd_s53, Hd_s54, Hd_s55, Hd_s56, Hd_s57, Hd_s50, Hd_s51, Hd_s0, Hd_r16_0, Hd_r16_1, Hd_r16_2, Hd_r16_3, Hd_r16_4, Hd_r16_5, Hd_r16_6, Hd_r16_7, Hd_r54_0, Hd_r54_6, Hd_r50_0⟩, hs⟩ := id h.hr; obtain ⟨r, er⟩ : ∃ r, r = 17 := ⟨_, rfl⟩; rw [← er] at hs Hd_r16_0; obtain ⟨hr, ⟨Sd_sr, Sd_s_r___1_, Sd_s_r___2_, Sd_s_r___3_, Sd_s_r___4_, Sd_s_r___5_, Sd_s_r___6_, Sd_s_r___7_, Sd_s_r___8_, Sd_s_r___9_, Sd_s_r___10_, Sd_rr_0, Sd_rr_1, Sd_rr_2, Sd_rr_4, Sd_rr_5, Sd_rr_12, Sd_rr_14, Sd_rr_15, Sd_rr_16, Sd_rr_17⟩, ok, ⟨n3, n6, n7, n8, n9, n10, n11, n13⟩, ⟨a1, a2, a3, a4, a5, a7⟩, ct⟩ := id hs; have hm := h.mr; obtain ⟨⟨Md_s1, Md_s81, Md_s82, Md_s83, Md_s84, Md_s85, Md_s86, Md_s87, Md_s88, Md_s89, Md_s90, Md_s91, Md_s92, Md_s93, Md_s94, Md_s95, Md_s96, Md_s97, Md_s98, Md_s99, Md_s100, Md_s101, Md_s102, Md_r81_0, Md_r81_1, Md_r81_2, Md_r81_4, Md_r81_5, Md_r81_13, Md_r81_14, Md_r81_15, Md_r81_18, Md_r81_20, Md_r81_21, Md_r81_22, Md_r81_23, Md_r81_24, Md_r81_25, Md_r81_26, Md_r81_27, Md_r81_28, Md_r81_29, Md_r81_30, Md_r81_31⟩, hc, okm⟩ := id hm
  obtain ⟨k, k60, wa1, wa2, wa3⟩ := h.wa
  by_cases e : k = 60
  · subst e
    simp (disch := omega) only [e117, w117_0, w117_1, w117_4, w117_6, w117_9, w117_11, w117_12, w117_13, w117_16, w117_17, w117_20, w117_21, w117_22, w117_23, w117_24, w117_27, w117_28, w117_29, w117_32, w117_33, w117_36, Hd_s16, Hd_s52, Hd_s53, Hd_s54, Hd_s55, Hd_s56, Hd_s57, Hd_s50, Hd_s51, Hd_s0, Hd_r16_0, Hd_r16_1, Hd_r16_2, Hd_r16_3, Hd_r16_4, Hd_r16_5, Hd_r16_6, Hd_r16_7, Hd_r54_0, Hd_r54_6, Hd_r50_0, aPush_s, aPush_n, vrf_s, vrf_n, true_and, and_true, false_and, and_false, true_imp_iff, false_imp_iff, not_true_eq_false, not_false_eq_true, eq_self, true_or, or_true, and_self, if_true, if_false, n_lit, n_of, n_an, Nat.add_sub_cancel, nI_add, pk_mul, n_sub, n_ixT, n_cl, n_leT, n_leF, n_ltT, n_ltF, n_eqT, n_eqF, Nat.reduceAdd, Nat.reduceMul, Nat.reduceSub, Nat.reduceEqDiff, Nat.reduceLT, Nat.reduceLeDiff, Nat.mul_one, Nat.one_mul, Nat.add_zero, Nat.zero_add, le_T, b2n_t, b2n_f, nz0, nz1, wa1]
    refine Px.mk h.1 ?_
    simp (disch := omega) only [e233, w233_0, w233_1, w233_4, w233_6, w233_9, w233_11, w233_12, w233_13, w233_16, w233_17, w233_20, w233_21, w233_22, w233_23, w233_24, w233_27, w233_28, w233_29, w233_32, w233_33, w233_36, Md_s1, Md_s81, Md_s82, Md_s83, Md_s84, Md_s85, Md_s86, Md_s87, Md_s88, Md_s89, Md_s90, Md_s91, Md_s92, Md_s93, Md_s94, Md_s95, Md_s96, Md_s97, Md_s98, Md_s99, Md_s100, Md_s101, Md_s102, Md_r81_0, Md_r81_1, Md_r81_2, Md_r81_4, Md_r81_5, Md_r81_13, Md_r81_14, Md_r81_15, Md_r81_18, Md_r81_20, Md_r81_21, Md_r81_22, Md_r81_23, Md_r81_24, Md_r81_25, Md_r81_26, Md_r81_27, Md_r81_28, Md_r81_29, Md_r81_30, Md_r81_31, aPush_s, aPush_n, vrf_s, vrf_n, true_and, and_true, false_and, and_false, true_imp_iff, false_imp_iff, not_true_eq_false, not_false_eq_true, eq_self, true_or, or_true, and_self, if_true, if_false, n_lit, n_of, n_an, Nat.add_sub_cancel, nI_add, pk_mul, n_sub, n_ixT, n_cl, n_leT, n_leF, n_ltT, n_ltF, n_eqT, n_eqF, Nat.reduceAdd, Nat.reduceMul, Nat.reduceSub, Nat.reduceEqDiff, Nat.reduceLT, Nat.reduceLeDiff, Nat.mul_one, Nat.one_mul, Nat.add_zero, Nat.zero_add, le_T, c135b, bw_0, b2n_t, b2n_f, nz0, nz1, wa2]
    exact Pe.mk h
  · simp (disch := omega) only [e117, w117_0, w117_1, w117_4, w117_6, w117_9, w117_11, w117_12, w117_13, w117_16, w117_17, w117_20, w117_21, w117_22, w117_23, w117_24, w117_27, w117_28, w117_29, w117_32, w117_33, w117_36, Hd_s16, Hd_s52, Hd_s53, Hd_s54, Hd_s55, Hd_s56, Hd_s57, Hd_s50, Hd_s51, Hd_s0, Hd_r16_0, Hd_r16_1, Hd_r16_2, Hd_r16_3, Hd_r16_4, Hd_r16_5, Hd_r16_6, Hd_r16_7, Hd_r54_0, Hd_r54_6, Hd_r50_0, aPush_s, aPush_n, vrf_s, vrf_n, true_and, and_true, false_and, and_false, true_imp_iff, false_imp_iff, not_true_eq_false, not_false_eq_true, eq_self, true_or, or_true, and_self, if_true, if_false, n_lit, n_of, n_an, Nat.add_sub_cancel, nI_add, pk_mul, n_sub, n_ixT, n_cl, n_leT, n_leF, n_ltT, n_ltF, n_eqT, n_eqF, Nat.reduceAdd, Nat.reduceMul, Nat.reduceSub, Nat.reduceEqDiff, Nat.reduceLT, Nat.reduceLeDiff, Nat.mul_one, Nat.one_mul, Nat.add_zero, Nat.zero_add, le_T, b2n_t, b2n_f, nz0, nz1, wa1, aW_o, aW_e]
    refine Px.mk ⟨h.1.1, ?_⟩ ?_
    · simp (disch := omega) only [aW_o]
      exact h.1.2
    · simp (disch := omega) only [e233, w233_0, w233_1, w233_4, w233_6, w233_9, w233_11, w233_12, w233_13, w233_16, w233_17, w233_20, w233_21, w233_22, w233_23, w233_24, w233_27, w233_28, w233_29, w233_32, w233_33, w233_36, Md_s1, Md_s81, Md_s82, Md_s83, Md_s84, Md_s85, Md_s86, Md_s87, Md_s88, Md_s89, Md_s90, Md_s91, Md_s92, Md_s93, Md_s94, Md_s95, Md_s96, Md_s97, Md_s98, Md_s99, Md_s100, Md_s101, Md_s102, Md_r81_0, Md_r81_1, Md_r81_2, Md_r81_4, Md_r81_5, Md_r81_13, Md_r81_14, Md_r81_15, Md_r81_18, Md_r81_20, Md_r81_21, Md_r81_22, Md_r81_23, Md_r81_24, Md_r81_25, Md_r81_26, Md_r81_27, Md_r81_28, Md_r81_29, Md_r81_30, Md_r81_31, aPush_s, aPush_n, vrf_s, vrf_n, true_and, and_true, false_and, and_false, true_imp_iff, false_imp_iff, not_true_eq_false, not_false_eq_true, eq_self, true_or, or_true, and_self, if_true, if_false, n_lit, n_of, n_an, Nat.add_sub_cancel, nI_add, pk_mul, n_sub, n_ixT, n_cl, n_leT, n_leF, n_ltT, n_ltF, n_eqT, n_eqF, Nat.reduceAdd, Nat.reduceMul, Nat.reduceSub, Nat.reduceEqDiff, Nat.reduceLT, Nat.reduceLeDiff, Nat.mul_one, Nat.one_mul, Nat.add_zero, Nat.zero_add, le_T, c135b, bw_0, b2n_t, b2n_f, nz0, nz1, wa2, aW_o, aW_e]
      refine Pe.mk (h.ow (fun q hq => ?_) ?_ ?_ ⟨k + 1, by omega, ?_, ?_, fun j hj => ?_⟩ (h.ta.cong ?_ ?_ ?_ ?_) (h.sh.cong (fun q hq => ?_)) (h.sl.cong (fun q hq => ?_)))
      · simp (disch := omega) only [aW_o]
      · simp (disch := omega) only [aW_o, aW_i]
      · simp (disch := omega) only [aW_o, aW_i]
      · simp (disch := omega) only [aW_o, aW_e]
      · simp (disch := omega) only [aW_e]
      · by_cases f : j = k
        · subst f
          simp (disch := omega) only [aW_o, aW_e]
        · simp (disch := omega) only [aW_o, aW_i]
          exact wa3 j (by omega)
      · simp (disch := omega) only [aW_o]
      · simp (disch := omega) only [aW_o, aW_i]
      · simp (disch := omega) only [aW_o]
      · simp (disch := omega) only [aW_o]
      · simp (disch := omega) only [aW_o]
      · simp (disch := omega) only [aW_o]
theorem p104 (h : Inv sc n S I R z) : RM (d + 300) 104 [.ref 16, .int x] (S, I, R, z) (Px d 204 [.int x] sc n) := by
  obtain ⟨⟨Hd_s16, Hd_s52, Hd_s53, Hd_s54, Hd_s55, Hd_s56, Hd_s57, Hd_s50, Hd_s51, Hd_s0, Hd_r16_0, Hd_r16_1, Hd_r16_2, Hd_r16_3, Hd_r16_4, Hd_r16_5, Hd_r16_6, Hd_r16_7, Hd_r54_0, Hd_r54_6, Hd_r50_0⟩, hs⟩ := id h.hr; obtain ⟨r, er⟩ : ∃ r, r = 17 := ⟨_, rfl⟩; rw [← er] at hs Hd_r16_0; obtain ⟨hr, ⟨Sd_sr, Sd_s_r___1_, Sd_s_r___2_, Sd_s_r___3_, Sd_s_r___4_, Sd_s_r___5_, Sd_s_r___6_, Sd_s_r___7_, Sd_s_r___8_, Sd_s_r___9_, Sd_s_r___10_, Sd_rr_0, Sd_rr_1, Sd_rr_2, Sd_rr_4, Sd_rr_5, Sd_rr_12, Sd_rr_14, Sd_rr_15, Sd_rr_16, Sd_rr_17⟩, ok, ⟨n3, n6, n7, n8, n9, n10, n11, n13⟩, ⟨a1, a2, a3, a4, a5, a7⟩, ct⟩ := id hs; have hm := h.mr; obtain ⟨⟨Md_s1, Md_s81, Md_s82, Md_s83, Md_s84, Md_s85, Md_s86, Md_s87, Md_s88, Md_s89, Md_s90, Md_s91, Md_s92, Md_s93, Md_s94, Md_s95, Md_s96, Md_s97, Md_s98, Md_s99, Md_s100, Md_s101, Md_s102, Md_r81_0, Md_r81_1, Md_r81_2, Md_r81_4, Md_r81_5, Md_r81_13, Md_r81_14, Md_r81_15, Md_r81_18, Md_r81_20, Md_r81_21, Md_r81_22, Md_r81_23, Md_r81_24, Md_r81_25, Md_r81_26, Md_r81_27, Md_r81_28, Md_r81_29, Md_r81_30, Md_r81_31⟩, hc, okm⟩ := id hm
  obtain ⟨⟨tz1, tz2⟩, k, k96, ta1, ta2, ta3⟩ := h.ta
  rcases q1 : inN x (k + 1) with _ | _
  · have a : ∀ Q, RM (d + 300) 104 [.ref 16, .int x] (S, I, R, z) Q = Q (some (.int (-nI 1000000001))) (S, I, R, z) := by
      intro Q
      by_cases x0 : x < nI 0
      · simp (disch := omega) only [e104, w104_0, w104_1, w104_4, w104_5, w104_6, w104_9, w104_12, w104_15, w104_17, w104_18, w104_19, w104_22, w104_23, w104_26, w104_27, Hd_s16, Hd_s52, Hd_s53, Hd_s54, Hd_s55, Hd_s56, Hd_s57, Hd_s50, Hd_s51, Hd_s0, Hd_r16_0, Hd_r16_1, Hd_r16_2, Hd_r16_3, Hd_r16_4, Hd_r16_5, Hd_r16_6, Hd_r16_7, Hd_r54_0, Hd_r54_6, Hd_r50_0, aPush_s, aPush_n, vrf_s, vrf_n, true_and, and_true, false_and, and_false, true_imp_iff, false_imp_iff, not_true_eq_false, not_false_eq_true, eq_self, true_or, or_true, and_self, if_true, if_false, n_lit, n_of, n_an, Nat.add_sub_cancel, nI_add, pk_mul, n_sub, n_ixT, n_cl, n_leT, n_leF, n_ltT, n_ltF, n_eqT, n_eqF, Nat.reduceAdd, Nat.reduceMul, Nat.reduceSub, Nat.reduceEqDiff, Nat.reduceLT, Nat.reduceLeDiff, Nat.mul_one, Nat.one_mul, Nat.add_zero, Nat.zero_add, le_T, b2n_t, b2n_f, nz0, nz1, ta1, ← Int32.not_lt, x0]
      · have x1 := inN_F q1 x0
        obtain ⟨j, hj, rfl⟩ := nI_of x0
        rw [n_lt hj (by omega)] at x1
        simp (disch := omega) only [e104, w104_0, w104_1, w104_4, w104_5, w104_6, w104_9, w104_12, w104_15, w104_17, w104_18, w104_19, w104_22, w104_23, w104_26, w104_27, Hd_s16, Hd_s52, Hd_s53, Hd_s54, Hd_s55, Hd_s56, Hd_s57, Hd_s50, Hd_s51, Hd_s0, Hd_r16_0, Hd_r16_1, Hd_r16_2, Hd_r16_3, Hd_r16_4, Hd_r16_5, Hd_r16_6, Hd_r16_7, Hd_r54_0, Hd_r54_6, Hd_r50_0, aPush_s, aPush_n, vrf_s, vrf_n, true_and, and_true, false_and, and_false, true_imp_iff, false_imp_iff, not_true_eq_false, not_false_eq_true, eq_self, true_or, or_true, and_self, if_true, if_false, n_lit, n_of, n_an, Nat.add_sub_cancel, nI_add, pk_mul, n_sub, n_ixT, n_cl, n_leT, n_leF, n_ltT, n_ltF, n_eqT, n_eqF, Nat.reduceAdd, Nat.reduceMul, Nat.reduceSub, Nat.reduceEqDiff, Nat.reduceLT, Nat.reduceLeDiff, Nat.mul_one, Nat.one_mul, Nat.add_zero, Nat.zero_add, le_T, b2n_t, b2n_f, nz0, nz1, ta1]
    rw [a]
    refine Px.mk h.1 ?_
    simp (disch := omega) only [e204, w204_0, w204_1, w204_2, w204_3, w204_6, w204_9, w204_12, w204_14, w204_15, w204_16, w204_17, w204_20, w204_21, Md_s1, Md_s81, Md_s82, Md_s83, Md_s84, Md_s85, Md_s86, Md_s87, Md_s88, Md_s89, Md_s90, Md_s91, Md_s92, Md_s93, Md_s94, Md_s95, Md_s96, Md_s97, Md_s98, Md_s99, Md_s100, Md_s101, Md_s102, Md_r81_0, Md_r81_1, Md_r81_2, Md_r81_4, Md_r81_5, Md_r81_13, Md_r81_14, Md_r81_15, Md_r81_18, Md_r81_20, Md_r81_21, Md_r81_22, Md_r81_23, Md_r81_24, Md_r81_25, Md_r81_26, Md_r81_27, Md_r81_28, Md_r81_29, Md_r81_30, Md_r81_31, aPush_s, aPush_n, vrf_s, vrf_n, true_and, and_true, false_and, and_false, true_imp_iff, false_imp_iff, not_true_eq_false, not_false_eq_true, eq_self, true_or, or_true, and_self, if_true, if_false, n_lit, n_of, n_an, Nat.add_sub_cancel, nI_add, pk_mul, n_sub, n_ixT, n_cl, n_leT, n_leF, n_ltT, n_ltF, n_eqT, n_eqF, Nat.reduceAdd, Nat.reduceMul, Nat.reduceSub, Nat.reduceEqDiff, Nat.reduceLT, Nat.reduceLeDiff, Nat.mul_one, Nat.one_mul, Nat.add_zero, Nat.zero_add, le_T, c135b, bw_0, b2n_t, b2n_f, nz0, nz1, ta2, q1]
    exact Pe.mk h
  · obtain ⟨j, hj, rfl⟩ := inN_T (by omega) q1
    simp (disch := omega) only [e104, w104_0, w104_1, w104_4, w104_5, w104_6, w104_9, w104_12, w104_15, w104_17, w104_18, w104_19, w104_22, w104_23, w104_26, w104_27, Hd_s16, Hd_s52, Hd_s53, Hd_s54, Hd_s55, Hd_s56, Hd_s57, Hd_s50, Hd_s51, Hd_s0, Hd_r16_0, Hd_r16_1, Hd_r16_2, Hd_r16_3, Hd_r16_4, Hd_r16_5, Hd_r16_6, Hd_r16_7, Hd_r54_0, Hd_r54_6, Hd_r50_0, aPush_s, aPush_n, vrf_s, vrf_n, true_and, and_true, false_and, and_false, true_imp_iff, false_imp_iff, not_true_eq_false, not_false_eq_true, eq_self, true_or, or_true, and_self, if_true, if_false, n_lit, n_of, n_an, Nat.add_sub_cancel, nI_add, pk_mul, n_sub, n_ixT, n_cl, n_leT, n_leF, n_ltT, n_ltF, n_eqT, n_eqF, Nat.reduceAdd, Nat.reduceMul, Nat.reduceSub, Nat.reduceEqDiff, Nat.reduceLT, Nat.reduceLeDiff, Nat.mul_one, Nat.one_mul, Nat.add_zero, Nat.zero_add, le_T, b2n_t, b2n_f, nz0, nz1, ta1, aW_o, aW_e]
    refine Px.mk ⟨h.1.1, ?_⟩ ?_
    · simp (disch := omega) only [aW_o]
      exact h.1.2
    · simp (disch := omega) only [e204, w204_0, w204_1, w204_2, w204_3, w204_6, w204_9, w204_12, w204_14, w204_15, w204_16, w204_17, w204_20, w204_21, Md_s1, Md_s81, Md_s82, Md_s83, Md_s84, Md_s85, Md_s86, Md_s87, Md_s88, Md_s89, Md_s90, Md_s91, Md_s92, Md_s93, Md_s94, Md_s95, Md_s96, Md_s97, Md_s98, Md_s99, Md_s100, Md_s101, Md_s102, Md_r81_0, Md_r81_1, Md_r81_2, Md_r81_4, Md_r81_5, Md_r81_13, Md_r81_14, Md_r81_15, Md_r81_18, Md_r81_20, Md_r81_21, Md_r81_22, Md_r81_23, Md_r81_24, Md_r81_25, Md_r81_26, Md_r81_27, Md_r81_28, Md_r81_29, Md_r81_30, Md_r81_31, aPush_s, aPush_n, vrf_s, vrf_n, true_and, and_true, false_and, and_false, true_imp_iff, false_imp_iff, not_true_eq_false, not_false_eq_true, eq_self, true_or, or_true, and_self, if_true, if_false, n_lit, n_of, n_an, Nat.add_sub_cancel, nI_add, pk_mul, n_sub, n_ixT, n_cl, n_leT, n_leF, n_ltT, n_ltF, n_eqT, n_eqF, Nat.reduceAdd, Nat.reduceMul, Nat.reduceSub, Nat.reduceEqDiff, Nat.reduceLT, Nat.reduceLeDiff, Nat.mul_one, Nat.one_mul, Nat.add_zero, Nat.zero_add, le_T, c135b, bw_0, b2n_t, b2n_f, nz0, nz1, ta2, q1, aW_o, aW_e]
      refine Pe.mk (h.ow (fun q hq => ?_) ?_ ?_ (h.wa.cong ?_ ?_ ?_ ?_) ⟨⟨by simp (disch := omega) only [aW_o, aW_i]; exact tz1, by simp (disch := omega) only [aW_o, aW_i]; exact tz2⟩, j, by omega, ?_, ?_, fun i hi => ?_⟩ (h.sh.cong (fun q hq => ?_)) (h.sl.cong (fun q hq => ?_)))
      · simp (disch := omega) only [aW_o]
      · simp (disch := omega) only [aW_o]
      · simp (disch := omega) only [aW_o, aW_i]
      · simp (disch := omega) only [aW_o]
      · simp (disch := omega) only [aW_o, aW_i]
      · simp (disch := omega) only [aW_o]
      · simp (disch := omega) only [aW_o]
      · simp (disch := omega) only [aW_o, aW_e]
      · simp (disch := omega) only [aW_e]
      · simp (disch := omega) only [aW_o]
        exact ta3 i (by omega)
      · simp (disch := omega) only [aW_o]
      · simp (disch := omega) only [aW_o]
/-! feed -/
def bY (x : Int32) (s : Nat) : Nat := uN x / 2 ^ s % 256
theorem bY_lt (x : Int32) (s : Nat) : bY x s < 256 := Nat.mod_lt _ (by decide)
theorem n_byU {x : Int32} {s : Nat} (hs : s = 24 ∨ s = 16 ∨ s = 8 ∨ s = 0) : ((x.toUInt32 >>> ((nI s).toUInt32 &&& Int32.toUInt32 (nI 31))).toInt32) &&& nI 255 = nI (bY x s) := by
  rcases hs with rfl | rfl | rfl | rfl
  · rw [show nI 31 = (31 : Int32) from rfl, pk_and _ 8 (by decide), pk_ushr x (nI 24) 24 (by decide)]
    rfl
  · rw [show nI 31 = (31 : Int32) from rfl, pk_and _ 8 (by decide), pk_ushr x (nI 16) 16 (by decide)]
    rfl
  · rw [show nI 31 = (31 : Int32) from rfl, pk_and _ 8 (by decide), pk_ushr x (nI 8) 8 (by decide)]
    rfl
  · rw [show nI 31 = (31 : Int32) from rfl, pk_and _ 8 (by decide), pk_ushr x (nI 0) 0 (by decide)]
    rfl
theorem n_sh8 (b : BitVec 32) (s : Nat) (hs : s ≤ 24) : (b.sshiftRight s).toNat % 2 ^ 8 = b.toNat / 2 ^ s % 2 ^ 8 := by
  apply Nat.eq_of_testBit_eq
  intro i
  rw [Nat.testBit_mod_two_pow, Nat.testBit_mod_two_pow, ← BitVec.getLsbD, BitVec.getLsbD_sshiftRight, Nat.testBit_div_two_pow]
  by_cases h : i < 8
  · simp [h, show s + i < 32 by omega, show ¬ 32 ≤ i by omega, BitVec.getLsbD, Nat.add_comm]
  · simp [h]
theorem n_byS {x : Int32} {s : Nat} (hs : s = 24 ∨ s = 16 ∨ s = 8 ∨ s = 0) : (x >>> (nI s &&& nI 31)) &&& nI 255 = nI (bY x s) := by
  have key : ∀ s, s ≤ 24 → (nI s &&& nI 31) = nI s → ((nI s).toBitVec.smod 32).toNat = s → (x >>> (nI s &&& nI 31)) &&& nI 255 = nI (bY x s) := by
    intro s h1 h2 h3
    rw [h2, pk_and _ 8 (by decide)]
    congr 1
    unfold bY uN
    have e : (x >>> nI s).toBitVec = x.toBitVec.sshiftRight s := by
      rw [Int32.toBitVec_shiftRight]
      show x.toBitVec.sshiftRight ((nI s).toBitVec.smod 32).toNat = _
      rw [h3]
    rw [e]
    exact n_sh8 _ s h1
  rcases hs with rfl | rfl | rfl | rfl
  · exact key 24 (by decide) (by decide) (by decide)
  · exact key 16 (by decide) (by decide) (by decide)
  · exact key 8 (by decide) (by decide) (by decide)
  · exact key 0 (by decide) (by decide) (by decide)
def fd (I : Nat → Nat → Int32) (x : Int32) (t s : Nat) : Nat → Nat → Int32 := aW (aW I 55 t (nI (bY x s))) 54 1 (nI (t + 1))
theorem s46 {t s : Nat} (hd : Hd S R) (hs : s = 24 ∨ s = 16 ∨ s = 8 ∨ s = 0) (ht : t < 96) (h1 : I 54 1 = nI t) : RB d 46 3 [.ref 54, .int x, .int (nI s)] [] (S, I, R, z) Q = RB d 46 3 [.ref 54, .int x, .int (nI s - nI 8)] [] (S, fd I x t s, R, z) Q := by
  obtain ⟨Hd_s16, Hd_s52, Hd_s53, Hd_s54, Hd_s55, Hd_s56, Hd_s57, Hd_s50, Hd_s51, Hd_s0, Hd_r16_0, Hd_r16_1, Hd_r16_2, Hd_r16_3, Hd_r16_4, Hd_r16_5, Hd_r16_6, Hd_r16_7, Hd_r54_0, Hd_r54_6, Hd_r50_0⟩ := hd
  rw [w46_3]
  simp (disch := omega) only [w46_0, w46_2, w46_4, w46_7, w46_8, w46_11, w46_13, w46_16, w46_17, w46_20, w46_21, w46_24, w46_25, w46_26, w46_27, w46_30, w46_31, w46_32, w46_33, w46_34, w46_37, w46_38, w46_39, w46_42, w46_45, w46_48, Hd_s16, Hd_s52, Hd_s53, Hd_s54, Hd_s55, Hd_s56, Hd_s57, Hd_s50, Hd_s51, Hd_s0, Hd_r16_0, Hd_r16_1, Hd_r16_2, Hd_r16_3, Hd_r16_4, Hd_r16_5, Hd_r16_6, Hd_r16_7, Hd_r54_0, Hd_r54_6, Hd_r50_0, aPush_s, aPush_n, vrf_s, vrf_n, true_and, and_true, false_and, and_false, true_imp_iff, false_imp_iff, not_true_eq_false, not_false_eq_true, eq_self, true_or, or_true, and_self, if_true, if_false, n_lit, n_of, n_an, nI_add, n_ixT, n_cl, n_ltF, n_leF, n_byU, h1, aW_o, Nat.reduceLeDiff, Nat.reduceEqDiff, Nat.reduceLT]
  rfl
theorem t46 : RB d 46 3 [.ref 54, .int x, .int (-nI 8)] [] (S, I, R, z) Q = Q none (S, I, R, z) := by
  rw [w46_3]
  simp (disch := omega) only [w46_0, w46_2, w46_4, w46_7, w46_8, w46_11, w46_13, w46_16, w46_17, w46_20, w46_21, w46_24, w46_25, w46_26, w46_27, w46_30, w46_31, w46_32, w46_33, w46_34, w46_37, w46_38, w46_39, w46_42, w46_45, w46_48, aPush_s, aPush_n, vrf_s, vrf_n, true_and, and_true, false_and, and_false, true_imp_iff, false_imp_iff, not_true_eq_false, not_false_eq_true, eq_self, true_or, or_true, and_self, if_true, if_false, n_lit, show (-nI 8 < nI 0) = True by decide]
theorem fd_54 {t s : Nat} : fd I x t s 54 1 = nI (t + 1) := aW_e
def w4 (I : Nat → Nat → Int32) (x : Int32) (t : Nat) : Nat → Nat → Int32 := fd (fd (fd (fd I x t 24) x (t + 1) 16) x (t + 2) 8) x (t + 3) 0
theorem c46 {t : Nat} (hd : Hd S R) (ht : t + 4 ≤ 96) (h1 : I 54 1 = nI t) : RM (d + 1) 46 [.ref 54, .int x] (S, I, R, z) Q = Q none (S, w4 I x t, R, z) := by
  simp only [e46, w46_0, w46_2, w46_4, w46_7, w46_8, w46_11, w46_13, w46_16, w46_17, w46_20, w46_21, w46_24, w46_25, w46_26, w46_27, w46_30, w46_31, w46_32, w46_33, w46_34, w46_37, w46_38, w46_39, w46_42, w46_45, w46_48, n_lit]
  rw [s46 hd (by omega) (by omega) h1, show nI 24 - nI 8 = nI 16 by decide, s46 hd (by omega) (by omega) fd_54, show nI 16 - nI 8 = nI 8 by decide, s46 hd (by omega) (by omega) fd_54, show nI 8 - nI 8 = nI 0 by decide, s46 hd (by omega) (by omega) fd_54, show nI 0 - nI 8 = -nI 8 by decide, t46]
  rfl
theorem fd_o {t s q : Nat} (h : q ≠ 54) (h2 : q ≠ 55) : fd I x t s q = I q := (aW_o h).trans (aW_o h2)
theorem fd_i {t s q : Nat} (h : q ≠ t) : fd I x t s 55 q = I 55 q := by
  unfold fd
  rw [aW_o (by decide), aW_i h]
theorem fd_e {t s : Nat} : fd I x t s 55 t = nI (bY x s) := by
  unfold fd
  rw [aW_o (by decide), aW_e]
theorem w4_54 {t : Nat} : w4 I x t 54 1 = nI (t + 4) := by
  show fd _ x (t + 3) 0 54 1 = nI (t + 3 + 1)
  exact fd_54
theorem w4_54o {t j : Nat} (h : j ≠ 1) : w4 I x t 54 j = I 54 j := by
  unfold w4 fd
  simp (disch := omega) only [aW_i, aW_o]
theorem w4_o {t q : Nat} (h : q ≠ 54) (h2 : q ≠ 55) : w4 I x t q = I q := by
  unfold w4
  rw [fd_o h h2, fd_o h h2, fd_o h h2, fd_o h h2]
theorem w4_i {t q : Nat} (h : q < t) : w4 I x t 55 q = I 55 q := by
  unfold w4
  rw [fd_i (by omega), fd_i (by omega), fd_i (by omega), fd_i (by omega)]
theorem w4_e {t i : Nat} (h : i < 4) : w4 I x t 55 (t + i) = nI (bY x (24 - 8 * i)) := by
  unfold w4
  have : i = 0 ∨ i = 1 ∨ i = 2 ∨ i = 3 := by omega
  rcases this with rfl | rfl | rfl | rfl
  · rw [fd_i (by omega), fd_i (by omega), fd_i (by omega)]
    exact fd_e
  · rw [fd_i (by omega), fd_i (by omega)]
    exact fd_e
  · rw [fd_i (by omega)]
    exact fd_e
  · exact fd_e
/-- the byte that comes to place i -/
def bW (a b c : Int32) (i : Nat) : Nat := bY (if i < 4 then a else if i < 8 then b else c) (24 - 8 * (i % 4))
theorem l203 {t : Nat} {v5 : Value} (hm : Mr S I R) (ht : t + 12 ≤ 96) (h1 : I 81 6 = nI t) (hQ : ∀ J v5, (∀ q, q ≠ 86 → J q = I q) → (∀ i, i < t → J 86 i = I 86 i) → (∀ i, i < 12 → J 86 (t + i) = nI (bW x y w i)) → RB d 203 84 [.ref 81, .int x, .int y, .int w, .int (nI 12), v5] [] (S, J, R, z) Q) : ∀ (j k : Nat) (J : Nat → Nat → Int32) (v5 : Value), k + j = 12 → (∀ q, q ≠ 86 → J q = I q) → (∀ i, i < t → J 86 i = I 86 i) → (∀ i, i < k → J 86 (t + i) = nI (bW x y w i)) → RB d 203 18 [.ref 81, .int x, .int y, .int w, .int (nI k), v5] [] (S, J, R, z) Q
  | 0, k, J, v5, h, h2, h3, h4 => by
    obtain rfl : k = 12 := by omega
    rw [w203_18]
    simp (disch := omega) only [w203_20, w203_22, w203_25, w203_27, w203_28, w203_31, w203_32, w203_35, w203_37, w203_39, w203_42, w203_43, w203_46, w203_47, w203_49, w203_50, w203_53, w203_54, w203_57, w203_59, w203_60, w203_62, w203_64, w203_66, w203_68, w203_69, w203_70, w203_71, w203_72, w203_73, w203_76, w203_77, w203_78, w203_81, aPush_s, aPush_n, vrf_s, vrf_n, true_and, and_true, false_and, and_false, true_imp_iff, false_imp_iff, not_true_eq_false, not_false_eq_true, eq_self, true_or, or_true, and_self, if_true, if_false, n_lit, n_of, n_an, Nat.add_sub_cancel, nI_add, pk_mul, n_sub, n_ixT, n_cl, n_leT, n_leF, n_ltT, n_ltF, n_eqT, n_eqF, Nat.reduceAdd, Nat.reduceMul, Nat.reduceSub, Nat.reduceEqDiff, Nat.reduceLT, Nat.reduceLeDiff, Nat.mul_one, Nat.one_mul, Nat.add_zero, Nat.zero_add]
    exact hQ J v5 h2 h3 h4
  | j + 1, k, J, v5, h, h2, h3, h4 => by
    have ih := fun J v5' => l203 (v5 := v5) hm ht h1 hQ j (k + 1) J v5' (by omega)
    have hk : k < 12 := by omega
    have hk4 : k % 4 < 4 := Nat.mod_lt _ (by decide)
    have h1J : J 81 6 = nI t := by rw [h2 81 (by decide)]; exact h1
    obtain ⟨⟨Md_s1, Md_s81, Md_s82, Md_s83, Md_s84, Md_s85, Md_s86, Md_s87, Md_s88, Md_s89, Md_s90, Md_s91, Md_s92, Md_s93, Md_s94, Md_s95, Md_s96, Md_s97, Md_s98, Md_s99, Md_s100, Md_s101, Md_s102, Md_r81_0, Md_r81_1, Md_r81_2, Md_r81_4, Md_r81_5, Md_r81_13, Md_r81_14, Md_r81_15, Md_r81_18, Md_r81_20, Md_r81_21, Md_r81_22, Md_r81_23, Md_r81_24, Md_r81_25, Md_r81_26, Md_r81_27, Md_r81_28, Md_r81_29, Md_r81_30, Md_r81_31⟩, hc, ok⟩ := id hm
    have fin : ∀ (v : Int32) (v5 : Value), v = nI (bW x y w k) → RB d 203 18 [.ref 81, .int x, .int y, .int w, .int (nI (k + 1)), v5] [] (S, aW J 86 (t + k) v, R, z) Q := by
      intro v v5 hv
      refine ih _ v5 (fun q hq => (aW_o hq).trans (h2 q hq)) (fun i hi => ?_) (fun i hi => ?_)
      · rw [aW_i (show i ≠ t + k by omega)]
        exact h3 i hi
      · by_cases e : i = k
        · subst e
          rw [aW_e, hv]
        · rw [aW_i (show t + i ≠ t + k by omega)]
          exact h4 i (by omega)
    rw [w203_18]
    by_cases e1 : k < 4
    · simp (disch := omega) only [w203_20, w203_22, w203_25, w203_27, w203_28, w203_31, w203_32, w203_35, w203_37, w203_39, w203_42, w203_43, w203_46, w203_47, w203_49, w203_50, w203_53, w203_54, w203_57, w203_59, w203_60, w203_62, w203_64, w203_66, w203_68, w203_69, w203_70, w203_71, w203_72, w203_73, w203_76, w203_77, w203_78, w203_81, Md_s1, Md_s81, Md_s82, Md_s83, Md_s84, Md_s85, Md_s86, Md_s87, Md_s88, Md_s89, Md_s90, Md_s91, Md_s92, Md_s93, Md_s94, Md_s95, Md_s96, Md_s97, Md_s98, Md_s99, Md_s100, Md_s101, Md_s102, Md_r81_0, Md_r81_1, Md_r81_2, Md_r81_4, Md_r81_5, Md_r81_13, Md_r81_14, Md_r81_15, Md_r81_18, Md_r81_20, Md_r81_21, Md_r81_22, Md_r81_23, Md_r81_24, Md_r81_25, Md_r81_26, Md_r81_27, Md_r81_28, Md_r81_29, Md_r81_30, Md_r81_31, aPush_s, aPush_n, vrf_s, vrf_n, true_and, and_true, false_and, and_false, true_imp_iff, false_imp_iff, not_true_eq_false, not_false_eq_true, eq_self, true_or, or_true, and_self, if_true, if_false, n_lit, n_of, n_an, Nat.add_sub_cancel, nI_add, pk_mul, n_sub, n_ixT, n_cl, n_leT, n_leF, n_ltT, n_ltF, n_eqT, n_eqF, Nat.reduceAdd, Nat.reduceMul, Nat.reduceSub, Nat.reduceEqDiff, Nat.reduceLT, Nat.reduceLeDiff, Nat.mul_one, Nat.one_mul, Nat.add_zero, Nat.zero_add, le_T, h1J, n_mod]
      exact fin _ _ (by rw [n_byS (by omega)]; unfold bW; rw [if_pos e1])
    · by_cases e2 : k < 8
      · simp (disch := omega) only [w203_20, w203_22, w203_25, w203_27, w203_28, w203_31, w203_32, w203_35, w203_37, w203_39, w203_42, w203_43, w203_46, w203_47, w203_49, w203_50, w203_53, w203_54, w203_57, w203_59, w203_60, w203_62, w203_64, w203_66, w203_68, w203_69, w203_70, w203_71, w203_72, w203_73, w203_76, w203_77, w203_78, w203_81, Md_s1, Md_s81, Md_s82, Md_s83, Md_s84, Md_s85, Md_s86, Md_s87, Md_s88, Md_s89, Md_s90, Md_s91, Md_s92, Md_s93, Md_s94, Md_s95, Md_s96, Md_s97, Md_s98, Md_s99, Md_s100, Md_s101, Md_s102, Md_r81_0, Md_r81_1, Md_r81_2, Md_r81_4, Md_r81_5, Md_r81_13, Md_r81_14, Md_r81_15, Md_r81_18, Md_r81_20, Md_r81_21, Md_r81_22, Md_r81_23, Md_r81_24, Md_r81_25, Md_r81_26, Md_r81_27, Md_r81_28, Md_r81_29, Md_r81_30, Md_r81_31, aPush_s, aPush_n, vrf_s, vrf_n, true_and, and_true, false_and, and_false, true_imp_iff, false_imp_iff, not_true_eq_false, not_false_eq_true, eq_self, true_or, or_true, and_self, if_true, if_false, n_lit, n_of, n_an, Nat.add_sub_cancel, nI_add, pk_mul, n_sub, n_ixT, n_cl, n_leT, n_leF, n_ltT, n_ltF, n_eqT, n_eqF, Nat.reduceAdd, Nat.reduceMul, Nat.reduceSub, Nat.reduceEqDiff, Nat.reduceLT, Nat.reduceLeDiff, Nat.mul_one, Nat.one_mul, Nat.add_zero, Nat.zero_add, le_T, h1J, n_mod]
        exact fin _ _ (by rw [n_byS (by omega)]; unfold bW; rw [if_neg e1, if_pos e2])
      · simp (disch := omega) only [w203_20, w203_22, w203_25, w203_27, w203_28, w203_31, w203_32, w203_35, w203_37, w203_39, w203_42, w203_43, w203_46, w203_47, w203_49, w203_50, w203_53, w203_54, w203_57, w203_59, w203_60, w203_62, w203_64, w203_66, w203_68, w203_69, w203_70, w203_71, w203_72, w203_73, w203_76, w203_77, w203_78, w203_81, Md_s1, Md_s81, Md_s82, Md_s83, Md_s84, Md_s85, Md_s86, Md_s87, Md_s88, Md_s89, Md_s90, Md_s91, Md_s92, Md_s93, Md_s94, Md_s95, Md_s96, Md_s97, Md_s98, Md_s99, Md_s100, Md_s101, Md_s102, Md_r81_0, Md_r81_1, Md_r81_2, Md_r81_4, Md_r81_5, Md_r81_13, Md_r81_14, Md_r81_15, Md_r81_18, Md_r81_20, Md_r81_21, Md_r81_22, Md_r81_23, Md_r81_24, Md_r81_25, Md_r81_26, Md_r81_27, Md_r81_28, Md_r81_29, Md_r81_30, Md_r81_31, aPush_s, aPush_n, vrf_s, vrf_n, true_and, and_true, false_and, and_false, true_imp_iff, false_imp_iff, not_true_eq_false, not_false_eq_true, eq_self, true_or, or_true, and_self, if_true, if_false, n_lit, n_of, n_an, Nat.add_sub_cancel, nI_add, pk_mul, n_sub, n_ixT, n_cl, n_leT, n_leF, n_ltT, n_ltF, n_eqT, n_eqF, Nat.reduceAdd, Nat.reduceMul, Nat.reduceSub, Nat.reduceEqDiff, Nat.reduceLT, Nat.reduceLeDiff, Nat.mul_one, Nat.one_mul, Nat.add_zero, Nat.zero_add, le_T, h1J, n_mod]
        exact fin _ _ (by rw [n_byS (by omega)]; unfold bW; rw [if_neg e1, if_neg e2])
theorem p103 (h : Inv sc n S I R z) : RM (d + 300) 103 [.ref 16, .int x, .int y, .int w] (S, I, R, z) (Px d 203 [.int x, .int y, .int w] sc n) := by
  have hd := h.hr.1
  obtain ⟨⟨Hd_s16, Hd_s52, Hd_s53, Hd_s54, Hd_s55, Hd_s56, Hd_s57, Hd_s50, Hd_s51, Hd_s0, Hd_r16_0, Hd_r16_1, Hd_r16_2, Hd_r16_3, Hd_r16_4, Hd_r16_5, Hd_r16_6, Hd_r16_7, Hd_r54_0, Hd_r54_6, Hd_r50_0⟩, hs⟩ := id h.hr; obtain ⟨r, er⟩ : ∃ r, r = 17 := ⟨_, rfl⟩; rw [← er] at hs Hd_r16_0; obtain ⟨hr, ⟨Sd_sr, Sd_s_r___1_, Sd_s_r___2_, Sd_s_r___3_, Sd_s_r___4_, Sd_s_r___5_, Sd_s_r___6_, Sd_s_r___7_, Sd_s_r___8_, Sd_s_r___9_, Sd_s_r___10_, Sd_rr_0, Sd_rr_1, Sd_rr_2, Sd_rr_4, Sd_rr_5, Sd_rr_12, Sd_rr_14, Sd_rr_15, Sd_rr_16, Sd_rr_17⟩, ok, ⟨n3, n6, n7, n8, n9, n10, n11, n13⟩, ⟨a1, a2, a3, a4, a5, a7⟩, ct⟩ := id hs; have hm := h.mr; obtain ⟨⟨Md_s1, Md_s81, Md_s82, Md_s83, Md_s84, Md_s85, Md_s86, Md_s87, Md_s88, Md_s89, Md_s90, Md_s91, Md_s92, Md_s93, Md_s94, Md_s95, Md_s96, Md_s97, Md_s98, Md_s99, Md_s100, Md_s101, Md_s102, Md_r81_0, Md_r81_1, Md_r81_2, Md_r81_4, Md_r81_5, Md_r81_13, Md_r81_14, Md_r81_15, Md_r81_18, Md_r81_20, Md_r81_21, Md_r81_22, Md_r81_23, Md_r81_24, Md_r81_25, Md_r81_26, Md_r81_27, Md_r81_28, Md_r81_29, Md_r81_30, Md_r81_31⟩, hc, okm⟩ := id hm
  obtain ⟨⟨tz1, tz2⟩, k, k96, ta1, ta2, ta3⟩ := h.ta
  by_cases e : k + 12 ≤ 96
  · simp (disch := omega) only [e103, w103_0, w103_1, w103_4, w103_7, w103_9, w103_10, w103_12, w103_15, w103_17, w103_18, w103_19, w103_22, w103_23, w103_26, w103_27, w103_30, w103_31, w103_34, w103_35, w103_38, w103_39, w103_42, w103_43, w103_46, w103_49, Hd_s16, Hd_s52, Hd_s53, Hd_s54, Hd_s55, Hd_s56, Hd_s57, Hd_s50, Hd_s51, Hd_s0, Hd_r16_0, Hd_r16_1, Hd_r16_2, Hd_r16_3, Hd_r16_4, Hd_r16_5, Hd_r16_6, Hd_r16_7, Hd_r54_0, Hd_r54_6, Hd_r50_0, aPush_s, aPush_n, vrf_s, vrf_n, true_and, and_true, false_and, and_false, true_imp_iff, false_imp_iff, not_true_eq_false, not_false_eq_true, eq_self, true_or, or_true, and_self, if_true, if_false, n_lit, n_of, n_an, Nat.add_sub_cancel, nI_add, pk_mul, n_sub, n_ixT, n_cl, n_leT, n_leF, n_ltT, n_ltF, n_eqT, n_eqF, Nat.reduceAdd, Nat.reduceMul, Nat.reduceSub, Nat.reduceEqDiff, Nat.reduceLT, Nat.reduceLeDiff, Nat.mul_one, Nat.one_mul, Nat.add_zero, Nat.zero_add, le_T, b2n_t, b2n_f, nz0, nz1, ta1, c46 hd (show k + 4 ≤ 96 by omega) ta1, c46 hd (show k + 4 + 4 ≤ 96 by omega) (w4_54 (I := I) (x := x) (t := k)), c46 hd (show k + 4 + 4 + 4 ≤ 96 by omega) (w4_54 (I := w4 I x k) (x := y) (t := k + 4)), w4_54]
    refine Px.mk ⟨h.1.1, ?_⟩ ?_
    · simp (disch := omega) only [w4_o]
      exact h.1.2
    have h81 : w4 (w4 (w4 I x k) y (k + 4)) w (k + 4 + 4) 81 6 = nI k := by
      simp (disch := omega) only [w4_o]
      exact ta2
    have hmJ : Mr S (w4 (w4 (w4 I x k) y (k + 4)) w (k + 4 + 4)) R := hm.cong (by simp (disch := omega) only [w4_o]) (by simp (disch := omega) only [w4_o])
    simp (disch := omega) only [e203, w203_0, w203_1, w203_4, w203_6, w203_7, w203_9, w203_12, w203_14, w203_15, w203_16, w203_20, w203_22, w203_25, w203_27, w203_28, w203_31, w203_32, w203_35, w203_37, w203_39, w203_42, w203_43, w203_46, w203_47, w203_49, w203_50, w203_53, w203_54, w203_57, w203_59, w203_60, w203_62, w203_64, w203_66, w203_68, w203_69, w203_70, w203_71, w203_72, w203_73, w203_76, w203_77, w203_78, w203_81, w203_84, w203_85, w203_86, w203_89, w203_91, w203_92, w203_95, w203_96, w203_99, Md_s1, Md_s81, Md_s82, Md_s83, Md_s84, Md_s85, Md_s86, Md_s87, Md_s88, Md_s89, Md_s90, Md_s91, Md_s92, Md_s93, Md_s94, Md_s95, Md_s96, Md_s97, Md_s98, Md_s99, Md_s100, Md_s101, Md_s102, Md_r81_0, Md_r81_1, Md_r81_2, Md_r81_4, Md_r81_5, Md_r81_13, Md_r81_14, Md_r81_15, Md_r81_18, Md_r81_20, Md_r81_21, Md_r81_22, Md_r81_23, Md_r81_24, Md_r81_25, Md_r81_26, Md_r81_27, Md_r81_28, Md_r81_29, Md_r81_30, Md_r81_31, aPush_s, aPush_n, vrf_s, vrf_n, true_and, and_true, false_and, and_false, true_imp_iff, false_imp_iff, not_true_eq_false, not_false_eq_true, eq_self, true_or, or_true, and_self, if_true, if_false, n_lit, n_of, n_an, Nat.add_sub_cancel, nI_add, pk_mul, n_sub, n_ixT, n_cl, n_leT, n_leF, n_ltT, n_ltF, n_eqT, n_eqF, Nat.reduceAdd, Nat.reduceMul, Nat.reduceSub, Nat.reduceEqDiff, Nat.reduceLT, Nat.reduceLeDiff, Nat.mul_one, Nat.one_mul, Nat.add_zero, Nat.zero_add, le_T, c135b, bw_0, b2n_t, b2n_f, nz0, nz1, h81]
    refine l203 (v5 := .long 0) (t := k) hmJ e h81 ?_ 12 0 _ _ rfl (fun _ _ => rfl) (fun _ _ => rfl) (fun i hi => absurd hi (Nat.not_lt_zero _))
    intro J v5 h2 h3 h4
    have h81J : J 81 6 = nI k := by rw [h2 81 (by decide)]; exact h81
    simp (disch := omega) only [w203_0, w203_1, w203_4, w203_6, w203_7, w203_9, w203_12, w203_14, w203_15, w203_16, w203_20, w203_22, w203_25, w203_27, w203_28, w203_31, w203_32, w203_35, w203_37, w203_39, w203_42, w203_43, w203_46, w203_47, w203_49, w203_50, w203_53, w203_54, w203_57, w203_59, w203_60, w203_62, w203_64, w203_66, w203_68, w203_69, w203_70, w203_71, w203_72, w203_73, w203_76, w203_77, w203_78, w203_81, w203_84, w203_85, w203_86, w203_89, w203_91, w203_92, w203_95, w203_96, w203_99, Md_s1, Md_s81, Md_s82, Md_s83, Md_s84, Md_s85, Md_s86, Md_s87, Md_s88, Md_s89, Md_s90, Md_s91, Md_s92, Md_s93, Md_s94, Md_s95, Md_s96, Md_s97, Md_s98, Md_s99, Md_s100, Md_s101, Md_s102, Md_r81_0, Md_r81_1, Md_r81_2, Md_r81_4, Md_r81_5, Md_r81_13, Md_r81_14, Md_r81_15, Md_r81_18, Md_r81_20, Md_r81_21, Md_r81_22, Md_r81_23, Md_r81_24, Md_r81_25, Md_r81_26, Md_r81_27, Md_r81_28, Md_r81_29, Md_r81_30, Md_r81_31, aPush_s, aPush_n, vrf_s, vrf_n, true_and, and_true, false_and, and_false, true_imp_iff, false_imp_iff, not_true_eq_false, not_false_eq_true, eq_self, true_or, or_true, and_self, if_true, if_false, n_lit, n_of, n_an, Nat.add_sub_cancel, nI_add, pk_mul, n_sub, n_ixT, n_cl, n_leT, n_leF, n_ltT, n_ltF, n_eqT, n_eqF, Nat.reduceAdd, Nat.reduceMul, Nat.reduceSub, Nat.reduceEqDiff, Nat.reduceLT, Nat.reduceLeDiff, Nat.mul_one, Nat.one_mul, Nat.add_zero, Nat.zero_add, le_T, c135b, bw_0, b2n_t, b2n_f, nz0, nz1, h81J, aW_e]
    have f : ∀ q, q ≠ 86 → q ≠ 81 → q ≠ 54 → q ≠ 55 → aW J 81 6 (nI (k + 12)) q = I q := fun q q1 q2 q3 q4 => (aW_o q2).trans ((h2 q q1).trans (by simp (disch := omega) only [w4_o]))
    have f81 : ∀ i, i ≠ 6 → aW J 81 6 (nI (k + 12)) 81 i = I 81 i := fun i hi => by
      rw [aW_i hi, h2 81 (by decide)]
      simp (disch := omega) only [w4_o]
    refine Pe.mk (h.ow (fun q hq => f q (by omega) (by omega) (by omega) (by omega)) (by rw [f 16 (by decide) (by decide) (by decide) (by decide)]) (f81 3 (by decide)) (h.wa.cong (by rw [f 16 (by decide) (by decide) (by decide) (by decide)]) (f81 32 (by decide)) (f 57 (by decide) (by decide) (by decide) (by decide)) (f 102 (by decide) (by decide) (by decide) (by decide))) ⟨⟨by rw [aW_o (by decide), h2 54 (by decide), w4_54o (by decide), w4_54o (by decide), w4_54o (by decide)]; exact tz1, by rw [aW_o (by decide), h2 54 (by decide), w4_54o (by decide), w4_54o (by decide), w4_54o (by decide)]; exact tz2⟩, k + 12, e, ?_, aW_e, fun i hi => ?_⟩ (h.sh.cong (fun q hq => f q (by omega) (by omega) (by omega) (by omega))) (h.sl.cong (fun q hq => f q (by omega) (by omega) (by omega) (by omega))))
    · rw [aW_o (by decide), h2 54 (by decide), w4_54]
    · rw [aW_o (show 55 ≠ 81 by decide), aW_o (show 86 ≠ 81 by decide), h2 55 (by decide)]
      by_cases f1 : i < k
      · rw [h3 i f1, w4_i (by omega), w4_i (by omega), w4_i (by omega)]
        simp (disch := omega) only [w4_o]
        exact ta3 i f1
      · obtain ⟨j, rfl⟩ : ∃ j, i = k + j := ⟨i - k, by omega⟩
        rw [h4 j (by omega)]
        refine ⟨?_, _, bY_lt _ _, rfl⟩
        unfold bW
        by_cases e1 : j < 4
        · rw [if_pos e1, w4_i (by omega), w4_i (by omega), w4_e e1]
          congr 2
          omega
        · by_cases e2 : j < 8
          · rw [if_neg e1, if_pos e2, w4_i (by omega)]
            obtain ⟨i, rfl⟩ : ∃ i, j = 4 + i := ⟨j - 4, by omega⟩
            rw [show k + (4 + i) = k + 4 + i by omega, w4_e (by omega)]
            congr 2
            omega
          · rw [if_neg e1, if_neg e2]
            obtain ⟨i, rfl⟩ : ∃ i, j = 8 + i := ⟨j - 8, by omega⟩
            rw [show k + (8 + i) = k + 4 + 4 + i by omega, w4_e (by omega)]
            congr 2
            omega
  · simp (disch := omega) only [e103, w103_0, w103_1, w103_4, w103_7, w103_9, w103_10, w103_12, w103_15, w103_17, w103_18, w103_19, w103_22, w103_23, w103_26, w103_27, w103_30, w103_31, w103_34, w103_35, w103_38, w103_39, w103_42, w103_43, w103_46, w103_49, Hd_s16, Hd_s52, Hd_s53, Hd_s54, Hd_s55, Hd_s56, Hd_s57, Hd_s50, Hd_s51, Hd_s0, Hd_r16_0, Hd_r16_1, Hd_r16_2, Hd_r16_3, Hd_r16_4, Hd_r16_5, Hd_r16_6, Hd_r16_7, Hd_r54_0, Hd_r54_6, Hd_r50_0, aPush_s, aPush_n, vrf_s, vrf_n, true_and, and_true, false_and, and_false, true_imp_iff, false_imp_iff, not_true_eq_false, not_false_eq_true, eq_self, true_or, or_true, and_self, if_true, if_false, n_lit, n_of, n_an, Nat.add_sub_cancel, nI_add, pk_mul, n_sub, n_ixT, n_cl, n_leT, n_leF, n_ltT, n_ltF, n_eqT, n_eqF, Nat.reduceAdd, Nat.reduceMul, Nat.reduceSub, Nat.reduceEqDiff, Nat.reduceLT, Nat.reduceLeDiff, Nat.mul_one, Nat.one_mul, Nat.add_zero, Nat.zero_add, le_T, b2n_t, b2n_f, nz0, nz1, ta1]
    refine Px.mk h.1 ?_
    simp (disch := omega) only [e203, w203_0, w203_1, w203_4, w203_6, w203_7, w203_9, w203_12, w203_14, w203_15, w203_16, w203_20, w203_22, w203_25, w203_27, w203_28, w203_31, w203_32, w203_35, w203_37, w203_39, w203_42, w203_43, w203_46, w203_47, w203_49, w203_50, w203_53, w203_54, w203_57, w203_59, w203_60, w203_62, w203_64, w203_66, w203_68, w203_69, w203_70, w203_71, w203_72, w203_73, w203_76, w203_77, w203_78, w203_81, w203_84, w203_85, w203_86, w203_89, w203_91, w203_92, w203_95, w203_96, w203_99, Md_s1, Md_s81, Md_s82, Md_s83, Md_s84, Md_s85, Md_s86, Md_s87, Md_s88, Md_s89, Md_s90, Md_s91, Md_s92, Md_s93, Md_s94, Md_s95, Md_s96, Md_s97, Md_s98, Md_s99, Md_s100, Md_s101, Md_s102, Md_r81_0, Md_r81_1, Md_r81_2, Md_r81_4, Md_r81_5, Md_r81_13, Md_r81_14, Md_r81_15, Md_r81_18, Md_r81_20, Md_r81_21, Md_r81_22, Md_r81_23, Md_r81_24, Md_r81_25, Md_r81_26, Md_r81_27, Md_r81_28, Md_r81_29, Md_r81_30, Md_r81_31, aPush_s, aPush_n, vrf_s, vrf_n, true_and, and_true, false_and, and_false, true_imp_iff, false_imp_iff, not_true_eq_false, not_false_eq_true, eq_self, true_or, or_true, and_self, if_true, if_false, n_lit, n_of, n_an, Nat.add_sub_cancel, nI_add, pk_mul, n_sub, n_ixT, n_cl, n_leT, n_leF, n_ltT, n_ltF, n_eqT, n_eqF, Nat.reduceAdd, Nat.reduceMul, Nat.reduceSub, Nat.reduceEqDiff, Nat.reduceLT, Nat.reduceLeDiff, Nat.mul_one, Nat.one_mul, Nat.add_zero, Nat.zero_add, le_T, c135b, bw_0, b2n_t, b2n_f, nz0, nz1, ta2]
    exact Pe.mk h
end
