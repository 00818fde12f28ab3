/-! keep, back, behind, check: both sides -/
section
variable {d n : Nat} {sc : (Nat × Nat) × (Nat → Int32)} {S : Nat → Nat × Nat} {I J K : Nat → Nat → Int32} {R R' : Nat → Nat → Option Nat} {z : Nat × Nat} {x y w : Int32} {Q : Option Value → HS → Prop}
theorem Fs.cong (h : Fs S R) (e : ∀ q, q ≠ 23 → q ≠ 34 → q ≠ 45 → q < 103 → R' q = R q) : Fs S R' := by
  obtain ⟨h1, h2, h3, h4, h5, h6, h7⟩ := h
  refine ⟨?_, ?_, ?_, ?_, ?_, fun i hi => ?_, fun i hi => ?_⟩
  · unfold Hd at h1 ⊢
    rw [e 16 (by decide) (by decide) (by decide) (by decide), e 54 (by decide) (by decide) (by decide) (by decide), e 50 (by decide) (by decide) (by decide) (by decide)]
    exact h1
  · unfold Md at h2 ⊢
    rw [e 81 (by decide) (by decide) (by decide) (by decide)]
    exact h2
  · unfold Sd at h3 ⊢
    rw [e 17 (by decide) (by decide) (by decide) (by decide)]
    exact h3
  · unfold Sd at h4 ⊢
    rw [e 28 (by decide) (by decide) (by decide) (by decide)]
    exact h4
  · unfold Sd at h5 ⊢
    rw [e 39 (by decide) (by decide) (by decide) (by decide)]
    exact h5
  · rw [e 52 (by omega) (by omega) (by omega) (by omega), e (58 + 2 * i) (by omega) (by omega) (by omega) (by omega)]
    exact h6 i hi
  · rw [e 53 (by omega) (by omega) (by omega) (by omega), e (66 + 3 * i) (by omega) (by omega) (by omega) (by omega), e (67 + 3 * i) (by omega) (by omega) (by omega) (by omega)]
    exact h7 i hi
/-- references to texts change too -/
theorem Inv.chR (h : Inv sc n S I R z) (eR : ∀ q, q ≠ 23 → q ≠ 34 → q ≠ 45 → R' q = R q) (e15 : ∀ q, q < 16 ∨ q = 87 ∨ q = 88 → J q = I q) (ok : Ok (G J)) (hc : Cs S J R' 17 (G J)) (t17 : Tr S R' 17) (t28 : Tr S R' 28) (him : Im S J R') (hw : Wa J) (ht : Ta J) (hs : Shs J) (hl : Sls J) : Inv sc n S J R' z := by
  obtain ⟨h1, h2, ⟨kb, ks, kk⟩, h4, ⟨hm1, hm2, hm3⟩, h6, h7, h8⟩ := h
  have fs := h4.cong (fun q a b c _ => eR q a b c)
  refine ⟨⟨h1.1, (e15 15 (by decide)).trans h1.2⟩, h2, ⟨?_, fun i hi => ?_, ?_⟩, fs, ⟨fs.2.1, fun p hp => ?_, ok⟩, hc, ⟨t17, t28⟩, him, hw, ht, hs, hl⟩
  · unfold Kb at kb ⊢
    rw [e15 0 (by decide)]
    exact kb
  · rw [e15 (2 + i) (by omega), e15 (8 + i) (by omega), eR (2 + i) (by omega) (by omega) (by omega)]
    exact ks i hi
  · unfold Kk
    rw [e15 87 (by omega), e15 88 (by omega)]
    exact kk
  · rw [e15 1 (by decide)]
    exact hm2 p hp
theorem Inv.t17 (h : Inv sc n S I R z) : Tr S R 17 := h.2.2.2.2.2.2.1.1
theorem Inv.t28 (h : Inv sc n S I R z) : Tr S R 28 := h.2.2.2.2.2.2.1.2
theorem p119 (h : Inv sc n S I R z) : RM (d + 300) 119 [.ref 16] (S, I, R, z) (Px d 235 [] sc n) := by
  obtain ⟨f1, f2, f3, f4, f5, f6, f7⟩ := h.fs
  obtain ⟨Hd_s16, Hd_s52, Hd_s53, Hd_s54, Hd_s55, Hd_s56, Hd_s57, Hd_s50, Hd_s51, Hd_s0, Hd_r16_0, Hd_r16_1, Hd_r16_2, Hd_r16_3, Hd_r16_4, Hd_r16_5, Hd_r16_6, Hd_r16_7, Hd_r54_0, Hd_r54_6, Hd_r50_0⟩ := id f1
  have hs := h.cs
  have s17 : S 17 = (2, 18) := f3.1
  have s28 : S 28 = (2, 18) := f4.1
  have n3 : I 17 3 = nI (G I 1) := hs.2.2.2.1.1
  simp (disch := omega) only [e119, w119_0, w119_1, w119_4, w119_5, w119_8, w119_11, w119_12, w119_13, w119_16, w119_17, w119_20, w119_23, Hd_s16, Hd_s52, Hd_s53, Hd_s54, Hd_s55, Hd_s56, Hd_s57, Hd_s50, Hd_s51, Hd_s0, Hd_r16_0, Hd_r16_1, Hd_r16_2, Hd_r16_3, Hd_r16_4, Hd_r16_5, Hd_r16_6, Hd_r16_7, Hd_r54_0, Hd_r54_6, Hd_r50_0, s28, aPush_s, aPush_n, vrf_s, vrf_n, true_and, and_true, false_and, and_false, true_imp_iff, false_imp_iff, not_true_eq_false, not_false_eq_true, eq_self, true_or, or_true, and_self, if_true, if_false, n_lit, n_of, n_an, Nat.add_sub_cancel, nI_add, pk_mul, n_sub, n_ixT, n_cl, n_leT, n_leF, n_ltT, n_ltF, n_eqT, n_eqF, Nat.reduceAdd, Nat.reduceMul, Nat.reduceSub, Nat.reduceEqDiff, Nat.reduceLT, Nat.reduceLeDiff, Nat.mul_one, Nat.one_mul, Nat.add_zero, Nat.zero_add, le_T]
  refine c9 (r := 28) (r2 := 17) hs h.t17 f4 ⟨by decide, by decide⟩ (by decide) ?_
  intro J R' hJ hR hsJ htJ
  have e16 : R' 16 = R 16 := hR 16 (by decide)
  have j3 : J 17 3 = nI (G I 1) := by rw [hJ 17 (by decide)]; exact n3
  simp (disch := omega) only [w119_0, w119_1, w119_4, w119_5, w119_8, w119_11, w119_12, w119_13, w119_16, w119_17, w119_20, w119_23, Hd_s16, Hd_s52, Hd_s53, Hd_s54, Hd_s55, Hd_s56, Hd_s57, Hd_s50, Hd_s51, Hd_s0, Hd_r16_0, Hd_r16_1, Hd_r16_2, Hd_r16_3, Hd_r16_4, Hd_r16_5, Hd_r16_6, Hd_r16_7, Hd_r54_0, Hd_r54_6, Hd_r50_0, e16, s17, aPush_s, aPush_n, vrf_s, vrf_n, true_and, and_true, false_and, and_false, true_imp_iff, false_imp_iff, not_true_eq_false, not_false_eq_true, eq_self, true_or, or_true, and_self, if_true, if_false, n_lit, n_of, n_an, Nat.add_sub_cancel, nI_add, pk_mul, n_sub, n_ixT, n_cl, n_leT, n_leF, n_ltT, n_ltF, n_eqT, n_eqF, Nat.reduceAdd, Nat.reduceMul, Nat.reduceSub, Nat.reduceEqDiff, Nat.reduceLT, Nat.reduceLeDiff, Nat.mul_one, Nat.one_mul, Nat.add_zero, Nat.zero_add, le_T, aW_o, j3]
  refine Px.mk ⟨h.1.1, ?_⟩ ?_
  · rw [aW_o (by decide), hJ 15 (by decide)]
    exact h.1.2
  have fs' := h.fs.cong (R' := R') (fun q a b c _ => hR q b)
  obtain ⟨Md_s1, Md_s81, Md_s82, Md_s83, Md_s84, Md_s85, Md_s86, Md_s87, Md_s88, Md_s89, Md_s90, Md_s91, Md_s92, Md_s93, Md_s94, Md_s95, Md_s96, Md_s97, Md_s98, Md_s99, Md_s100, Md_s101, Md_s102, Md_r81_0, Md_r81_1, Md_r81_2, Md_r81_4, Md_r81_5, Md_r81_13, Md_r81_14, Md_r81_15, Md_r81_18, Md_r81_20, Md_r81_21, Md_r81_22, Md_r81_23, Md_r81_24, Md_r81_25, Md_r81_26, Md_r81_27, Md_r81_28, Md_r81_29, Md_r81_30, Md_r81_31⟩ := id fs'.2.1
  simp (disch := omega) only [e235, w235_0, w235_1, w235_4, w235_5, w235_8, w235_11, w235_12, w235_13, w235_16, w235_17, w235_20, w235_21, w235_22, Md_s1, Md_s81, Md_s82, Md_s83, Md_s84, Md_s85, Md_s86, Md_s87, Md_s88, Md_s89, Md_s90, Md_s91, Md_s92, Md_s93, Md_s94, Md_s95, Md_s96, Md_s97, Md_s98, Md_s99, Md_s100, Md_s101, Md_s102, Md_r81_0, Md_r81_1, Md_r81_2, Md_r81_4, Md_r81_5, Md_r81_13, Md_r81_14, Md_r81_15, Md_r81_18, Md_r81_20, Md_r81_21, Md_r81_22, Md_r81_23, Md_r81_24, Md_r81_25, Md_r81_26, Md_r81_27, Md_r81_28, Md_r81_29, Md_r81_30, Md_r81_31, aPush_s, aPush_n, vrf_s, vrf_n, true_and, and_true, false_and, and_false, true_imp_iff, false_imp_iff, not_true_eq_false, not_false_eq_true, eq_self, true_or, or_true, and_self, if_true, if_false, n_lit, n_of, n_an, Nat.add_sub_cancel, nI_add, pk_mul, n_sub, n_ixT, n_cl, n_leT, n_leF, n_ltT, n_ltF, n_eqT, n_eqF, Nat.reduceAdd, Nat.reduceMul, Nat.reduceSub, Nat.reduceEqDiff, Nat.reduceLT, Nat.reduceLeDiff, Nat.mul_one, Nat.one_mul, Nat.add_zero, Nat.zero_add, le_T, c135b, bw_0, b2n_t, b2n_f, nz0, nz1]
  refine c137 Md_s82 Md_s83 (by decide) (by decide) ?_
  intro K hK k83
  have kf : ∀ q, q ≠ 83 → q ≠ 16 → (q < 28 ∨ 38 < q) → K q = I q := fun q q1 q2 q3 => by
    rw [hK q q1, aW_o q2, hJ q (by omega)]
  have k82 : K 82 1 = nI (G I 1) := by
    rw [kf 82 (by decide) (by decide) (by decide)]
    exact G_eq I 1
  have gK : G (aW K 81 3 (nI 1)) = G I := by
    unfold G
    rw [aW_o (by decide), kf 82 (by decide) (by decide) (by decide)]
  have e14 : E14 (Gi (aW K 81 3 (nI 1))) (G I) := fun i hi => by
    unfold Gi G
    rw [aW_o (by decide), k83 i hi, aW_o (by decide), hJ 82 (by decide)]
  simp (disch := omega) only [w235_0, w235_1, w235_4, w235_5, w235_8, w235_11, w235_12, w235_13, w235_16, w235_17, w235_20, w235_21, w235_22, Md_s1, Md_s81, Md_s82, Md_s83, Md_s84, Md_s85, Md_s86, Md_s87, Md_s88, Md_s89, Md_s90, Md_s91, Md_s92, Md_s93, Md_s94, Md_s95, Md_s96, Md_s97, Md_s98, Md_s99, Md_s100, Md_s101, Md_s102, Md_r81_0, Md_r81_1, Md_r81_2, Md_r81_4, Md_r81_5, Md_r81_13, Md_r81_14, Md_r81_15, Md_r81_18, Md_r81_20, Md_r81_21, Md_r81_22, Md_r81_23, Md_r81_24, Md_r81_25, Md_r81_26, Md_r81_27, Md_r81_28, Md_r81_29, Md_r81_30, Md_r81_31, aPush_s, aPush_n, vrf_s, vrf_n, true_and, and_true, false_and, and_false, true_imp_iff, false_imp_iff, not_true_eq_false, not_false_eq_true, eq_self, true_or, or_true, and_self, if_true, if_false, n_lit, n_of, n_an, Nat.add_sub_cancel, nI_add, pk_mul, n_sub, n_ixT, n_cl, n_leT, n_leF, n_ltT, n_ltF, n_eqT, n_eqF, Nat.reduceAdd, Nat.reduceMul, Nat.reduceSub, Nat.reduceEqDiff, Nat.reduceLT, Nat.reduceLeDiff, Nat.mul_one, Nat.one_mul, Nat.add_zero, Nat.zero_add, le_T, c135b, bw_0, b2n_t, b2n_f, nz0, nz1, aW_o, k82]
  refine Pe.mk (h.chR (fun q a b c => hR q b) (fun q hq => ?_) (by rw [gK]; exact h.mr.2.2) ?_ (h.t17.cong (hR 23 (by decide))) htJ ⟨?_, Or.inr ⟨aW_e, ?_⟩⟩ (h.wa.cong ?_ ?_ ?_ ?_) (h.ta.cong ?_ ?_ ?_ ?_) (h.sh.cong fun q hq => ?_) (h.sl.cong fun q hq => ?_))
  · rw [aW_o (by omega)]
    exact kf q (by omega) (by omega) (by omega)
  · rw [gK]
    exact h.cs.congR (fun q hq => by rw [aW_o (by omega)]; exact kf q (by omega) (by omega) (by omega)) (fun q hq => hR q (by omega))
  · rw [aW_o (by decide), hK 16 (by decide), aW_e, aW_e]
  · refine Cs.gcong ?_ e14
    exact hsJ.congR (fun q hq => by rw [aW_o (by omega), hK q (by omega), aW_o (by omega)]) (fun q hq => rfl)
  · rw [aW_o (by decide), hK 16 (by decide), aW_i (by decide), hJ 16 (by decide)]
  · rw [aW_i (by decide), kf 81 (by decide) (by decide) (by decide)]
  · rw [aW_o (by decide), kf 57 (by decide) (by decide) (by decide)]
  · rw [aW_o (by decide), kf 102 (by decide) (by decide) (by decide)]
  · rw [aW_o (by decide), kf 54 (by decide) (by decide) (by decide)]
  · rw [aW_i (by decide), kf 81 (by decide) (by decide) (by decide)]
  · rw [aW_o (by decide), kf 55 (by decide) (by decide) (by decide)]
  · rw [aW_o (by decide), kf 86 (by decide) (by decide) (by decide)]
  · rw [aW_o (by omega)]
    exact kf q (by omega) (by omega) (by omega)
  · rw [aW_o (by omega)]
    exact kf q (by omega) (by omega) (by omega)
theorem p120 (h : Inv sc n S I R z) : RM (d + 300) 120 [.ref 16] (S, I, R, z) (Px d 236 [] sc n) := by
  obtain ⟨f1, f2, f3, f4, f5, f6, f7⟩ := h.fs
  obtain ⟨Hd_s16, Hd_s52, Hd_s53, Hd_s54, Hd_s55, Hd_s56, Hd_s57, Hd_s50, Hd_s51, Hd_s0, Hd_r16_0, Hd_r16_1, Hd_r16_2, Hd_r16_3, Hd_r16_4, Hd_r16_5, Hd_r16_6, Hd_r16_7, Hd_r54_0, Hd_r54_6, Hd_r50_0⟩ := id f1
  have s17 : S 17 = (2, 18) := f3.1
  have s28 : S 28 = (2, 18) := f4.1
  obtain ⟨i1, i2⟩ := h.im
  rcases i2 with i2 | ⟨i2, hs⟩
  · have i3 : I 16 8 = nI 0 := i1.trans i2
    obtain ⟨Md_s1, Md_s81, Md_s82, Md_s83, Md_s84, Md_s85, Md_s86, Md_s87, Md_s88, Md_s89, Md_s90, Md_s91, Md_s92, Md_s93, Md_s94, Md_s95, Md_s96, Md_s97, Md_s98, Md_s99, Md_s100, Md_s101, Md_s102, Md_r81_0, Md_r81_1, Md_r81_2, Md_r81_4, Md_r81_5, Md_r81_13, Md_r81_14, Md_r81_15, Md_r81_18, Md_r81_20, Md_r81_21, Md_r81_22, Md_r81_23, Md_r81_24, Md_r81_25, Md_r81_26, Md_r81_27, Md_r81_28, Md_r81_29, Md_r81_30, Md_r81_31⟩ := id f2
    simp (disch := omega) only [e120, w120_0, w120_1, w120_4, w120_7, w120_9, w120_10, w120_11, w120_14, w120_15, w120_18, w120_21, w120_22, w120_25, w120_28, Hd_s16, Hd_s52, Hd_s53, Hd_s54, Hd_s55, Hd_s56, Hd_s57, Hd_s50, Hd_s51, Hd_s0, Hd_r16_0, Hd_r16_1, Hd_r16_2, Hd_r16_3, Hd_r16_4, Hd_r16_5, Hd_r16_6, Hd_r16_7, Hd_r54_0, Hd_r54_6, Hd_r50_0, aPush_s, aPush_n, vrf_s, vrf_n, true_and, and_true, false_and, and_false, true_imp_iff, false_imp_iff, not_true_eq_false, not_false_eq_true, eq_self, true_or, or_true, and_self, if_true, if_false, n_lit, n_of, n_an, Nat.add_sub_cancel, nI_add, pk_mul, n_sub, n_ixT, n_cl, n_leT, n_leF, n_ltT, n_ltF, n_eqT, n_eqF, Nat.reduceAdd, Nat.reduceMul, Nat.reduceSub, Nat.reduceEqDiff, Nat.reduceLT, Nat.reduceLeDiff, Nat.mul_one, Nat.one_mul, Nat.add_zero, Nat.zero_add, i3]
    refine Px.mk h.1 ?_
    simp (disch := omega) only [e236, w236_0, w236_1, w236_4, w236_7, w236_9, w236_10, w236_11, w236_14, w236_15, w236_18, w236_21, w236_22, w236_25, w236_26, w236_27, Md_s1, Md_s81, Md_s82, Md_s83, Md_s84, Md_s85, Md_s86, Md_s87, Md_s88, Md_s89, Md_s90, Md_s91, Md_s92, Md_s93, Md_s94, Md_s95, Md_s96, Md_s97, Md_s98, Md_s99, Md_s100, Md_s101, Md_s102, Md_r81_0, Md_r81_1, Md_r81_2, Md_r81_4, Md_r81_5, Md_r81_13, Md_r81_14, Md_r81_15, Md_r81_18, Md_r81_20, Md_r81_21, Md_r81_22, Md_r81_23, Md_r81_24, Md_r81_25, Md_r81_26, Md_r81_27, Md_r81_28, Md_r81_29, Md_r81_30, Md_r81_31, aPush_s, aPush_n, vrf_s, vrf_n, true_and, and_true, false_and, and_false, true_imp_iff, false_imp_iff, not_true_eq_false, not_false_eq_true, eq_self, true_or, or_true, and_self, if_true, if_false, n_lit, n_of, n_an, Nat.add_sub_cancel, nI_add, pk_mul, n_sub, n_ixT, n_cl, n_leT, n_leF, n_ltT, n_ltF, n_eqT, n_eqF, Nat.reduceAdd, Nat.reduceMul, Nat.reduceSub, Nat.reduceEqDiff, Nat.reduceLT, Nat.reduceLeDiff, Nat.mul_one, Nat.one_mul, Nat.add_zero, Nat.zero_add, le_T, c135b, bw_0, b2n_t, b2n_f, nz0, nz1, i2]
    exact Pe.mk h
  · have i3 : I 16 8 = nI 1 := i1.trans i2
    simp (disch := omega) only [e120, w120_0, w120_1, w120_4, w120_7, w120_9, w120_10, w120_11, w120_14, w120_15, w120_18, w120_21, w120_22, w120_25, w120_28, Hd_s16, Hd_s52, Hd_s53, Hd_s54, Hd_s55, Hd_s56, Hd_s57, Hd_s50, Hd_s51, Hd_s0, Hd_r16_0, Hd_r16_1, Hd_r16_2, Hd_r16_3, Hd_r16_4, Hd_r16_5, Hd_r16_6, Hd_r16_7, Hd_r54_0, Hd_r54_6, Hd_r50_0, s17, aPush_s, aPush_n, vrf_s, vrf_n, true_and, and_true, false_and, and_false, true_imp_iff, false_imp_iff, not_true_eq_false, not_false_eq_true, eq_self, true_or, or_true, and_self, if_true, if_false, n_lit, n_of, n_an, Nat.add_sub_cancel, nI_add, pk_mul, n_sub, n_ixT, n_cl, n_leT, n_leF, n_ltT, n_ltF, n_eqT, n_eqF, Nat.reduceAdd, Nat.reduceMul, Nat.reduceSub, Nat.reduceEqDiff, Nat.reduceLT, Nat.reduceLeDiff, Nat.mul_one, Nat.one_mul, Nat.add_zero, Nat.zero_add, i3]
    refine c9 (r := 17) (r2 := 28) hs h.t28 f3 ⟨by decide, by decide⟩ (by decide) ?_
    intro J R' hJ hR hsJ htJ
    have e16 : R' 16 = R 16 := hR 16 (by decide)
    have j3 : J 17 3 = nI (Gi I 1) := hsJ.2.2.2.1.1
    simp (disch := omega) only [w120_0, w120_1, w120_4, w120_7, w120_9, w120_10, w120_11, w120_14, w120_15, w120_18, w120_21, w120_22, w120_25, w120_28, Hd_s16, Hd_s52, Hd_s53, Hd_s54, Hd_s55, Hd_s56, Hd_s57, Hd_s50, Hd_s51, Hd_s0, Hd_r16_0, Hd_r16_1, Hd_r16_2, Hd_r16_3, Hd_r16_4, Hd_r16_5, Hd_r16_6, Hd_r16_7, Hd_r54_0, Hd_r54_6, Hd_r50_0, e16, s17, aPush_s, aPush_n, vrf_s, vrf_n, true_and, and_true, false_and, and_false, true_imp_iff, false_imp_iff, not_true_eq_false, not_false_eq_true, eq_self, true_or, or_true, and_self, if_true, if_false, j3]
    refine Px.mk (h.k15 hJ) ?_
    have fs' := h.fs.cong (R' := R') (fun q a b c _ => hR q a)
    have j81 : J 81 3 = nI 1 := by rw [hJ 81 (by decide)]; exact i2
    obtain ⟨Md_s1, Md_s81, Md_s82, Md_s83, Md_s84, Md_s85, Md_s86, Md_s87, Md_s88, Md_s89, Md_s90, Md_s91, Md_s92, Md_s93, Md_s94, Md_s95, Md_s96, Md_s97, Md_s98, Md_s99, Md_s100, Md_s101, Md_s102, Md_r81_0, Md_r81_1, Md_r81_2, Md_r81_4, Md_r81_5, Md_r81_13, Md_r81_14, Md_r81_15, Md_r81_18, Md_r81_20, Md_r81_21, Md_r81_22, Md_r81_23, Md_r81_24, Md_r81_25, Md_r81_26, Md_r81_27, Md_r81_28, Md_r81_29, Md_r81_30, Md_r81_31⟩ := id fs'.2.1
    simp (disch := omega) only [e236, w236_0, w236_1, w236_4, w236_7, w236_9, w236_10, w236_11, w236_14, w236_15, w236_18, w236_21, w236_22, w236_25, w236_26, w236_27, Md_s1, Md_s81, Md_s82, Md_s83, Md_s84, Md_s85, Md_s86, Md_s87, Md_s88, Md_s89, Md_s90, Md_s91, Md_s92, Md_s93, Md_s94, Md_s95, Md_s96, Md_s97, Md_s98, Md_s99, Md_s100, Md_s101, Md_s102, Md_r81_0, Md_r81_1, Md_r81_2, Md_r81_4, Md_r81_5, Md_r81_13, Md_r81_14, Md_r81_15, Md_r81_18, Md_r81_20, Md_r81_21, Md_r81_22, Md_r81_23, Md_r81_24, Md_r81_25, Md_r81_26, Md_r81_27, Md_r81_28, Md_r81_29, Md_r81_30, Md_r81_31, aPush_s, aPush_n, vrf_s, vrf_n, true_and, and_true, false_and, and_false, true_imp_iff, false_imp_iff, not_true_eq_false, not_false_eq_true, eq_self, true_or, or_true, and_self, if_true, if_false, n_lit, n_of, n_an, Nat.add_sub_cancel, nI_add, pk_mul, n_sub, n_ixT, n_cl, n_leT, n_leF, n_ltT, n_ltF, n_eqT, n_eqF, Nat.reduceAdd, Nat.reduceMul, Nat.reduceSub, Nat.reduceEqDiff, Nat.reduceLT, Nat.reduceLeDiff, Nat.mul_one, Nat.one_mul, Nat.add_zero, Nat.zero_add, le_T, c135b, bw_0, b2n_t, b2n_f, nz0, nz1, j81]
    refine c137 Md_s83 Md_s82 (by decide) (by decide) ?_
    intro K hK k82
    have kf : ∀ q, q ≠ 82 → (q < 17 ∨ 27 < q) → K q = I q := fun q q1 q2 => by
      rw [hK q q1, hJ q (by omega)]
    have e14 : E14 (G K) (Gi I) := fun i hi => by
      unfold Gi G
      rw [k82 i hi, hJ 83 (by decide)]
    have k1 : K 82 1 = nI (Gi I 1) := by
      rw [← e14 1 (by decide)]
      exact G_eq K 1
    have gi : Gi K = Gi I := by
      unfold Gi
      rw [kf 83 (by decide) (by decide)]
    simp (disch := omega) only [w236_0, w236_1, w236_4, w236_7, w236_9, w236_10, w236_11, w236_14, w236_15, w236_18, w236_21, w236_22, w236_25, w236_26, w236_27, Md_s1, Md_s81, Md_s82, Md_s83, Md_s84, Md_s85, Md_s86, Md_s87, Md_s88, Md_s89, Md_s90, Md_s91, Md_s92, Md_s93, Md_s94, Md_s95, Md_s96, Md_s97, Md_s98, Md_s99, Md_s100, Md_s101, Md_s102, Md_r81_0, Md_r81_1, Md_r81_2, Md_r81_4, Md_r81_5, Md_r81_13, Md_r81_14, Md_r81_15, Md_r81_18, Md_r81_20, Md_r81_21, Md_r81_22, Md_r81_23, Md_r81_24, Md_r81_25, Md_r81_26, Md_r81_27, Md_r81_28, Md_r81_29, Md_r81_30, Md_r81_31, aPush_s, aPush_n, vrf_s, vrf_n, true_and, and_true, false_and, and_false, true_imp_iff, false_imp_iff, not_true_eq_false, not_false_eq_true, eq_self, true_or, or_true, and_self, if_true, if_false, n_lit, n_of, n_an, Nat.add_sub_cancel, nI_add, pk_mul, n_sub, n_ixT, n_cl, n_leT, n_leF, n_ltT, n_ltF, n_eqT, n_eqF, Nat.reduceAdd, Nat.reduceMul, Nat.reduceSub, Nat.reduceEqDiff, Nat.reduceLT, Nat.reduceLeDiff, Nat.mul_one, Nat.one_mul, Nat.add_zero, Nat.zero_add, le_T, c135b, bw_0, b2n_t, b2n_f, nz0, nz1, k1]
    refine Pe.mk (h.chR (fun q a b c => hR q a) (fun q hq => kf q (by omega) (by omega)) (hs.2.2.1.gcong e14) ?_ htJ (h.t28.cong (hR 34 (by decide))) ⟨?_, Or.inr ⟨?_, ?_⟩⟩ (h.wa.cong ?_ ?_ ?_ ?_) (h.ta.cong ?_ ?_ ?_ ?_) (h.sh.cong fun q hq => kf q (by omega) (by omega)) (h.sl.cong fun q hq => kf q (by omega) (by omega)))
    · refine Cs.gcong ?_ e14
      exact hsJ.congR (fun q hq => hK q (by omega)) (fun q hq => rfl)
    · rw [kf 16 (by decide) (by decide), kf 81 (by decide) (by decide)]; exact i1
    · rw [kf 81 (by decide) (by decide)]; exact i2
    · rw [gi]
      exact hs.congR (fun q hq => kf q (by omega) (by omega)) (fun q hq => hR q (by omega))
    · rw [kf 16 (by decide) (by decide)]
    · rw [kf 81 (by decide) (by decide)]
    · rw [kf 57 (by decide) (by decide)]
    · rw [kf 102 (by decide) (by decide)]
    · rw [kf 54 (by decide) (by decide)]
    · rw [kf 81 (by decide) (by decide)]
    · rw [kf 55 (by decide) (by decide)]
    · rw [kf 86 (by decide) (by decide)]
/-! games told -/
def sGm (a : Nat) : Nat → (Nat → Nat) → (Nat → Nat)
  | 0, g => g
  | k + 1, g => sPlay a 6 (sChoose (sGm a k g))
theorem sAsk_e7 (g : Nat → Nat) (l : Nat) : E7 (sAsk g l) g := fun i hi => (gu_n (by omega)).trans (gu_n (by omega))
theorem sPlay_e7 (a : Nat) : ∀ f g, E7 (sPlay a f g) g
  | 0, g => E7.refl g
  | f + 1, g => by
    unfold sPlay
    split
    · exact E7.refl g
    · split
      · exact E7.refl g
      · exact (sPlay_e7 a f _).trans (sAsk_e7 _ _)
theorem sChoose_e7 (g : Nat → Nat) : E7 (sChoose g) g := by
  unfold sChoose
  split
  · exact sHide_e7 _ _
  · exact (sHide_e7 _ _).trans (sDraw_e7 _)
theorem sGm_e7 (a : Nat) (g : Nat → Nat) : ∀ k, E7 (sGm a k g) g
  | 0 => E7.refl g
  | k + 1 => (sPlay_e7 a 6 _).trans ((sChoose_e7 _).trans (sGm_e7 a g k))
theorem Ok.play {g : Nat → Nat} {a : Nat} : ∀ f, ∀ {g}, Ok g → Ok (sPlay a f g)
  | 0, g, ok => ok
  | f + 1, g, ok => by
    unfold sPlay
    split
    · exact ok
    · rename_i hx
      rcases q : sNxt g a (g 4) (sNow g) 6 with _ | e
      · exact ok
      · have h3 : g 3 < g 1 := by
          rcases ok.2.2.1 with q | q
          · exact absurd (Or.inl q.1) hx
          · exact q
        exact Ok.play (g := g) f (ok.ask h3 (sNxt_some q).1)
theorem Ok.gm {g : Nat → Nat} {a : Nat} (ok : Ok g) : ∀ k, Ok (sGm a k g)
  | 0 => ok
  | k + 1 => Ok.play (g := g) 6 (Ok.gm ok k).choose
def sHu (a : Nat) (g : Nat → Nat) : Nat → Nat
  | 0 => 0
  | k + 1 => sHu a g k + b2n (sHung (sGm a (k + 1) g))
def sLi (a : Nat) (g : Nat → Nat) : Nat → Nat
  | 0 => 0
  | k + 1 => sLi a g k + sGm a (k + 1) g 5
theorem l100 {r a m : Nat} {l3 : Value} {g : Nat → Nat} (h16 : S 16 = (6, 10)) (hR : R 16 2 = some r) (hm30 : m ≤ 30) (ha : a < g 2) (hQ : ∀ J, Fr r I J → RB (d + 7) 100 110 [.ref 16, .int (nI a), .int (nI m), l3, .int (nI (sHu a g m)), .int (nI (sLi a g m)), .int (nI m)] [] (S, J, R, z) Q) : ∀ (j k : Nat) (J : Nat → Nat → Int32), k + j = m → Fr r I J → Cs S J R r (sGm a k g) → RB (d + 7) 100 51 [.ref 16, .int (nI a), .int (nI m), l3, .int (nI (sHu a g k)), .int (nI (sLi a g k)), .int (nI k)] [] (S, J, R, z) Q
  | 0, k, J, h, hJ, hs => by
    obtain rfl : k = m := by omega
    rw [w100_51]
    simp (disch := omega) only [w100_53, w100_54, w100_57, w100_58, w100_61, w100_64, w100_65, w100_68, w100_69, w100_72, w100_74, w100_75, w100_78, w100_81, w100_84, w100_85, w100_88, w100_89, w100_90, w100_92, w100_94, w100_95, w100_98, w100_101, w100_102, w100_104, w100_107, aPush_s, aPush_n, vrf_s, vrf_n, true_and, and_true, false_and, and_false, true_imp_iff, false_imp_iff, not_true_eq_false, not_false_eq_true, eq_self, true_or, or_true, and_self, if_true, if_false, n_lit, n_of, n_an, Nat.add_sub_cancel, nI_add, pk_mul, n_sub, n_ixT, n_cl, n_leT, n_leF, n_ltT, n_ltF, n_eqT, n_eqF, Nat.reduceAdd, Nat.reduceMul, Nat.reduceSub, Nat.reduceEqDiff, Nat.reduceLT, Nat.reduceLeDiff, Nat.mul_one, Nat.one_mul, Nat.add_zero, Nat.zero_add]
    exact hQ J hJ
  | j + 1, k, J, h, hJ, hs => by
    have sr0 : S r = (2, 18) := hs.2.1.1
    have ih := fun J => l100 (l3 := l3) h16 hR hm30 ha hQ j (k + 1) J (by omega)
    rw [w100_51]
    simp (disch := omega) only [w100_53, w100_54, w100_57, w100_58, w100_61, w100_64, w100_65, w100_68, w100_69, w100_72, w100_74, w100_75, w100_78, w100_81, w100_84, w100_85, w100_88, w100_89, w100_90, w100_92, w100_94, w100_95, w100_98, w100_101, w100_102, w100_104, w100_107, h16, hR, sr0, aPush_s, aPush_n, vrf_s, vrf_n, true_and, and_true, false_and, and_false, true_imp_iff, false_imp_iff, not_true_eq_false, not_false_eq_true, eq_self, true_or, or_true, and_self, if_true, if_false, n_lit, n_of, n_an, Nat.add_sub_cancel, nI_add, pk_mul, n_sub, n_ixT, n_cl, n_leT, n_leF, n_ltT, n_ltF, n_eqT, n_eqF, Nat.reduceAdd, Nat.reduceMul, Nat.reduceSub, Nat.reduceEqDiff, Nat.reduceLT, Nat.reduceLeDiff, Nat.mul_one, Nat.one_mul, Nat.add_zero, Nat.zero_add]
    refine c35 hs ?_
    intro K hK hsK
    have g2 : sChoose (sGm a k g) 2 = g 2 := ((sChoose_e7 _).trans (sGm_e7 a g k)) 2 (by decide)
    simp (disch := omega) only [w100_53, w100_54, w100_57, w100_58, w100_61, w100_64, w100_65, w100_68, w100_69, w100_72, w100_74, w100_75, w100_78, w100_81, w100_84, w100_85, w100_88, w100_89, w100_90, w100_92, w100_94, w100_95, w100_98, w100_101, w100_102, w100_104, w100_107, h16, hR, sr0, aPush_s, aPush_n, vrf_s, vrf_n, true_and, and_true, false_and, and_false, true_imp_iff, false_imp_iff, not_true_eq_false, not_false_eq_true, eq_self, true_or, or_true, and_self, if_true, if_false, n_lit, n_of, n_an, Nat.add_sub_cancel, nI_add, pk_mul, n_sub, n_ixT, n_cl, n_leT, n_leF, n_ltT, n_ltF, n_eqT, n_eqF, Nat.reduceAdd, Nat.reduceMul, Nat.reduceSub, Nat.reduceEqDiff, Nat.reduceLT, Nat.reduceLeDiff, Nat.mul_one, Nat.one_mul, Nat.add_zero, Nat.zero_add]
    refine c34 hsK (by rw [g2]; exact ha) ?_
    intro L hL hsL
    have hs3 : Cs S L R r (sGm a (k + 1) g) := hsL
    have n9 : L r 9 = nI (sGm a (k + 1) g 5) := hs3.2.2.2.1.2.2.2.2.1
    have sr : S r = (2, 18) := hs3.2.1.1
    have ih := ih L ((hJ.trans hK).trans hL) hs3
    rcases b : sHung (sGm a (k + 1) g) with _ | _
    · simp only [sHu, sLi, b, b2n_f] at ih
      simp (disch := omega) only [w100_53, w100_54, w100_57, w100_58, w100_61, w100_64, w100_65, w100_68, w100_69, w100_72, w100_74, w100_75, w100_78, w100_81, w100_84, w100_85, w100_88, w100_89, w100_90, w100_92, w100_94, w100_95, w100_98, w100_101, w100_102, w100_104, w100_107, h16, hR, sr, c31 hs3, b, b2n_f, n9, aPush_s, aPush_n, vrf_s, vrf_n, true_and, and_true, false_and, and_false, true_imp_iff, false_imp_iff, not_true_eq_false, not_false_eq_true, eq_self, true_or, or_true, and_self, if_true, if_false, n_lit, n_of, n_an, Nat.add_sub_cancel, nI_add, pk_mul, n_sub, n_ixT, n_cl, n_leT, n_leF, n_ltT, n_ltF, n_eqT, n_eqF, Nat.reduceAdd, Nat.reduceMul, Nat.reduceSub, Nat.reduceEqDiff, Nat.reduceLT, Nat.reduceLeDiff, Nat.mul_one, Nat.one_mul, Nat.add_zero, Nat.zero_add]
      exact ih
    · simp only [sHu, sLi, b, b2n_t] at ih
      simp (disch := omega) only [w100_53, w100_54, w100_57, w100_58, w100_61, w100_64, w100_65, w100_68, w100_69, w100_72, w100_74, w100_75, w100_78, w100_81, w100_84, w100_85, w100_88, w100_89, w100_90, w100_92, w100_94, w100_95, w100_98, w100_101, w100_102, w100_104, w100_107, h16, hR, sr, c31 hs3, b, b2n_t, n9, aPush_s, aPush_n, vrf_s, vrf_n, true_and, and_true, false_and, and_false, true_imp_iff, false_imp_iff, not_true_eq_false, not_false_eq_true, eq_self, true_or, or_true, and_self, if_true, if_false, n_lit, n_of, n_an, Nat.add_sub_cancel, nI_add, pk_mul, n_sub, n_ixT, n_cl, n_leT, n_leF, n_ltT, n_ltF, n_eqT, n_eqF, Nat.reduceAdd, Nat.reduceMul, Nat.reduceSub, Nat.reduceEqDiff, Nat.reduceLT, Nat.reduceLeDiff, Nat.mul_one, Nat.one_mul, Nat.add_zero, Nat.zero_add]
      exact ih
theorem l199 {a m : Nat} {l3 : Value} {g : Nat → Nat} (hm30 : m ≤ 30) (ha : a < g 2) (ok : Ok g) (hm : Mr S I R) (hQ : ∀ J, Sg I (sGm a m g) J → RB (d + 7) 199 92 [.ref 81, .int (nI a), .int (nI m), l3, .int (nI (sHu a g m)), .int (nI (sLi a g m)), .int (nI m)] [] (S, J, R, z) Q) : ∀ (j k : Nat) (J : Nat → Nat → Int32), k + j = m → Sg I (sGm a k g) J → RB (d + 7) 199 43 [.ref 81, .int (nI a), .int (nI m), l3, .int (nI (sHu a g k)), .int (nI (sLi a g k)), .int (nI k)] [] (S, J, R, z) Q
  | 0, k, J, h, hJ => by
    obtain rfl : k = m := by omega
    rw [w199_43]
    simp (disch := omega) only [w199_45, w199_46, w199_49, w199_50, w199_53, w199_54, w199_55, w199_58, w199_60, w199_61, w199_64, w199_67, w199_68, w199_71, w199_72, w199_73, w199_75, w199_77, w199_78, w199_81, w199_82, w199_83, w199_84, w199_86, w199_89, aPush_s, aPush_n, vrf_s, vrf_n, true_and, and_true, false_and, and_false, true_imp_iff, false_imp_iff, not_true_eq_false, not_false_eq_true, eq_self, true_or, or_true, and_self, if_true, if_false, n_lit, n_of, n_an, Nat.add_sub_cancel, nI_add, pk_mul, n_sub, n_ixT, n_cl, n_leT, n_leF, n_ltT, n_ltF, n_eqT, n_eqF, Nat.reduceAdd, Nat.reduceMul, Nat.reduceSub, Nat.reduceEqDiff, Nat.reduceLT, Nat.reduceLeDiff, Nat.mul_one, Nat.one_mul, Nat.add_zero, Nat.zero_add]
    exact hQ J hJ
  | j + 1, k, J, h, hJ => by
    have ih := fun J => l199 (l3 := l3) hm30 ha ok hm hQ j (k + 1) J (by omega)
    have okk := ok.gm (a := a) k
    have mJ := hm.sg hJ okk
    obtain ⟨⟨Md_s1, Md_s81, Md_s82, Md_s83, Md_s84, Md_s85, Md_s86, Md_s87, Md_s88, Md_s89, Md_s90, Md_s91, Md_s92, Md_s93, Md_s94, Md_s95, Md_s96, Md_s97, Md_s98, Md_s99, Md_s100, Md_s101, Md_s102, Md_r81_0, Md_r81_1, Md_r81_2, Md_r81_4, Md_r81_5, Md_r81_13, Md_r81_14, Md_r81_15, Md_r81_18, Md_r81_20, Md_r81_21, Md_r81_22, Md_r81_23, Md_r81_24, Md_r81_25, Md_r81_26, Md_r81_27, Md_r81_28, Md_r81_29, Md_r81_30, Md_r81_31⟩, hc, -⟩ := id hm
    rw [w199_43]
    simp (disch := omega) only [w199_45, w199_46, w199_49, w199_50, w199_53, w199_54, w199_55, w199_58, w199_60, w199_61, w199_64, w199_67, w199_68, w199_71, w199_72, w199_73, w199_75, w199_77, w199_78, w199_81, w199_82, w199_83, w199_84, w199_86, w199_89, Md_s1, Md_s81, Md_s82, Md_s83, Md_s84, Md_s85, Md_s86, Md_s87, Md_s88, Md_s89, Md_s90, Md_s91, Md_s92, Md_s93, Md_s94, Md_s95, Md_s96, Md_s97, Md_s98, Md_s99, Md_s100, Md_s101, Md_s102, Md_r81_0, Md_r81_1, Md_r81_2, Md_r81_4, Md_r81_5, Md_r81_13, Md_r81_14, Md_r81_15, Md_r81_18, Md_r81_20, Md_r81_21, Md_r81_22, Md_r81_23, Md_r81_24, Md_r81_25, Md_r81_26, Md_r81_27, Md_r81_28, Md_r81_29, Md_r81_30, Md_r81_31, aPush_s, aPush_n, vrf_s, vrf_n, true_and, and_true, false_and, and_false, true_imp_iff, false_imp_iff, not_true_eq_false, not_false_eq_true, eq_self, true_or, or_true, and_self, if_true, if_false, n_lit, n_of, n_an, Nat.add_sub_cancel, nI_add, pk_mul, n_sub, n_ixT, n_cl, n_leT, n_leF, n_ltT, n_ltF, n_eqT, n_eqF, Nat.reduceAdd, Nat.reduceMul, Nat.reduceSub, Nat.reduceEqDiff, Nat.reduceLT, Nat.reduceLeDiff, Nat.mul_one, Nat.one_mul, Nat.add_zero, Nat.zero_add, le_T, c135b, bw_0, b2n_t, b2n_f, nz0, nz1]
    refine c183 mJ ?_
    intro K hK
    rw [hJ.1] at hK
    have hK2 := hJ.trans hK
    have mK := hm.sg hK2 okk.choose
    have g2 : sChoose (sGm a k g) 2 = g 2 := ((sChoose_e7 _).trans (sGm_e7 a g k)) 2 (by decide)
    simp (disch := omega) only [w199_45, w199_46, w199_49, w199_50, w199_53, w199_54, w199_55, w199_58, w199_60, w199_61, w199_64, w199_67, w199_68, w199_71, w199_72, w199_73, w199_75, w199_77, w199_78, w199_81, w199_82, w199_83, w199_84, w199_86, w199_89, Md_s1, Md_s81, Md_s82, Md_s83, Md_s84, Md_s85, Md_s86, Md_s87, Md_s88, Md_s89, Md_s90, Md_s91, Md_s92, Md_s93, Md_s94, Md_s95, Md_s96, Md_s97, Md_s98, Md_s99, Md_s100, Md_s101, Md_s102, Md_r81_0, Md_r81_1, Md_r81_2, Md_r81_4, Md_r81_5, Md_r81_13, Md_r81_14, Md_r81_15, Md_r81_18, Md_r81_20, Md_r81_21, Md_r81_22, Md_r81_23, Md_r81_24, Md_r81_25, Md_r81_26, Md_r81_27, Md_r81_28, Md_r81_29, Md_r81_30, Md_r81_31, aPush_s, aPush_n, vrf_s, vrf_n, true_and, and_true, false_and, and_false, true_imp_iff, false_imp_iff, not_true_eq_false, not_false_eq_true, eq_self, true_or, or_true, and_self, if_true, if_false, n_lit, n_of, n_an, Nat.add_sub_cancel, nI_add, pk_mul, n_sub, n_ixT, n_cl, n_leT, n_leF, n_ltT, n_ltF, n_eqT, n_eqF, Nat.reduceAdd, Nat.reduceMul, Nat.reduceSub, Nat.reduceEqDiff, Nat.reduceLT, Nat.reduceLeDiff, Nat.mul_one, Nat.one_mul, Nat.add_zero, Nat.zero_add, le_T, c135b, bw_0, b2n_t, b2n_f, nz0, nz1]
    refine c180 mK (by rw [hK.1, g2]; exact ha) ?_
    intro L hL
    rw [hK.1] at hL
    have hL2 : Sg I (sGm a (k + 1) g) L := hK2.trans hL
    have mL := hm.sg hL2 (ok.gm (k + 1))
    have gL := hL2.1
    have ih := ih L hL2
    rcases b : sHung (sGm a (k + 1) g) with _ | _
    · simp only [sHu, sLi, b, b2n_f] at ih
      simp (disch := omega) only [w199_45, w199_46, w199_49, w199_50, w199_53, w199_54, w199_55, w199_58, w199_60, w199_61, w199_64, w199_67, w199_68, w199_71, w199_72, w199_73, w199_75, w199_77, w199_78, w199_81, w199_82, w199_83, w199_84, w199_86, w199_89, Md_s1, Md_s81, Md_s82, Md_s83, Md_s84, Md_s85, Md_s86, Md_s87, Md_s88, Md_s89, Md_s90, Md_s91, Md_s92, Md_s93, Md_s94, Md_s95, Md_s96, Md_s97, Md_s98, Md_s99, Md_s100, Md_s101, Md_s102, Md_r81_0, Md_r81_1, Md_r81_2, Md_r81_4, Md_r81_5, Md_r81_13, Md_r81_14, Md_r81_15, Md_r81_18, Md_r81_20, Md_r81_21, Md_r81_22, Md_r81_23, Md_r81_24, Md_r81_25, Md_r81_26, Md_r81_27, Md_r81_28, Md_r81_29, Md_r81_30, Md_r81_31, aPush_s, aPush_n, vrf_s, vrf_n, true_and, and_true, false_and, and_false, true_imp_iff, false_imp_iff, not_true_eq_false, not_false_eq_true, eq_self, true_or, or_true, and_self, if_true, if_false, n_lit, n_of, n_an, Nat.add_sub_cancel, nI_add, pk_mul, n_sub, n_ixT, n_cl, n_leT, n_leF, n_ltT, n_ltF, n_eqT, n_eqF, Nat.reduceAdd, Nat.reduceMul, Nat.reduceSub, Nat.reduceEqDiff, Nat.reduceLT, Nat.reduceLeDiff, Nat.mul_one, Nat.one_mul, Nat.add_zero, Nat.zero_add, le_T, c135b, bw_0, b2n_t, b2n_f, nz0, nz1, c177 mL, gL, b, G_eq L]
      exact ih
    · simp only [sHu, sLi, b, b2n_t] at ih
      simp (disch := omega) only [w199_45, w199_46, w199_49, w199_50, w199_53, w199_54, w199_55, w199_58, w199_60, w199_61, w199_64, w199_67, w199_68, w199_71, w199_72, w199_73, w199_75, w199_77, w199_78, w199_81, w199_82, w199_83, w199_84, w199_86, w199_89, Md_s1, Md_s81, Md_s82, Md_s83, Md_s84, Md_s85, Md_s86, Md_s87, Md_s88, Md_s89, Md_s90, Md_s91, Md_s92, Md_s93, Md_s94, Md_s95, Md_s96, Md_s97, Md_s98, Md_s99, Md_s100, Md_s101, Md_s102, Md_r81_0, Md_r81_1, Md_r81_2, Md_r81_4, Md_r81_5, Md_r81_13, Md_r81_14, Md_r81_15, Md_r81_18, Md_r81_20, Md_r81_21, Md_r81_22, Md_r81_23, Md_r81_24, Md_r81_25, Md_r81_26, Md_r81_27, Md_r81_28, Md_r81_29, Md_r81_30, Md_r81_31, aPush_s, aPush_n, vrf_s, vrf_n, true_and, and_true, false_and, and_false, true_imp_iff, false_imp_iff, not_true_eq_false, not_false_eq_true, eq_self, true_or, or_true, and_self, if_true, if_false, n_lit, n_of, n_an, Nat.add_sub_cancel, nI_add, pk_mul, n_sub, n_ixT, n_cl, n_leT, n_leF, n_ltT, n_ltF, n_eqT, n_eqF, Nat.reduceAdd, Nat.reduceMul, Nat.reduceSub, Nat.reduceEqDiff, Nat.reduceLT, Nat.reduceLeDiff, Nat.mul_one, Nat.one_mul, Nat.add_zero, Nat.zero_add, le_T, c135b, bw_0, b2n_t, b2n_f, nz0, nz1, c177 mL, gL, b, G_eq L]
      exact ih
theorem p100 (h : Inv sc n S I R z) : RM (d + 300) 100 [.ref 16, .int x, .int y, .int w] (S, I, R, z) (Px d 199 [.int x, .int y, .int w] sc n) := by
  have hh := h.hr
  have hm := h.mr
  have ok := hm.2.2
  have h2 := ok.2.1
  obtain ⟨f1, f2, f3, f4, f5, f6, f7⟩ := h.fs
  obtain ⟨Hd_s16, Hd_s52, Hd_s53, Hd_s54, Hd_s55, Hd_s56, Hd_s57, Hd_s50, Hd_s51, Hd_s0, Hd_r16_0, Hd_r16_1, Hd_r16_2, Hd_r16_3, Hd_r16_4, Hd_r16_5, Hd_r16_6, Hd_r16_7, Hd_r54_0, Hd_r54_6, Hd_r50_0⟩ := id f1
  obtain ⟨Md_s1, Md_s81, Md_s82, Md_s83, Md_s84, Md_s85, Md_s86, Md_s87, Md_s88, Md_s89, Md_s90, Md_s91, Md_s92, Md_s93, Md_s94, Md_s95, Md_s96, Md_s97, Md_s98, Md_s99, Md_s100, Md_s101, Md_s102, Md_r81_0, Md_r81_1, Md_r81_2, Md_r81_4, Md_r81_5, Md_r81_13, Md_r81_14, Md_r81_15, Md_r81_18, Md_r81_20, Md_r81_21, Md_r81_22, Md_r81_23, Md_r81_24, Md_r81_25, Md_r81_26, Md_r81_27, Md_r81_28, Md_r81_29, Md_r81_30, Md_r81_31⟩ := id f2
  have s39 : S 39 = (2, 18) := f5.1
  rcases q1 : inN x (G I 2) with _ | _
  · simp (disch := omega) only [e100, w100_0, w100_1, w100_2, w100_5, w100_8, w100_9, w100_10, w100_13, w100_14, w100_16, w100_19, w100_20, w100_23, w100_24, w100_25, w100_28, w100_30, w100_31, w100_32, w100_35, w100_36, w100_39, w100_42, w100_43, w100_45, w100_46, w100_48, w100_49, w100_53, w100_54, w100_57, w100_58, w100_61, w100_64, w100_65, w100_68, w100_69, w100_72, w100_74, w100_75, w100_78, w100_81, w100_84, w100_85, w100_88, w100_89, w100_90, w100_92, w100_94, w100_95, w100_98, w100_101, w100_102, w100_104, w100_107, w100_110, w100_111, w100_114, w100_116, w100_119, w100_121, Hd_s16, Hd_s52, Hd_s53, Hd_s54, Hd_s55, Hd_s56, Hd_s57, Hd_s50, Hd_s51, Hd_s0, Hd_r16_0, Hd_r16_1, Hd_r16_2, Hd_r16_3, Hd_r16_4, Hd_r16_5, Hd_r16_6, Hd_r16_7, Hd_r54_0, Hd_r54_6, Hd_r50_0, aPush_s, aPush_n, vrf_s, vrf_n, true_and, and_true, false_and, and_false, true_imp_iff, false_imp_iff, not_true_eq_false, not_false_eq_true, eq_self, true_or, or_true, and_self, if_true, if_false, n_lit, n_of, n_an, Nat.add_sub_cancel, nI_add, pk_mul, n_sub, n_ixT, n_cl, n_leT, n_leF, n_ltT, n_ltF, n_eqT, n_eqF, Nat.reduceAdd, Nat.reduceMul, Nat.reduceSub, Nat.reduceEqDiff, Nat.reduceLT, Nat.reduceLeDiff, Nat.mul_one, Nat.one_mul, Nat.add_zero, Nat.zero_add, b2n_f, c123 hh, q1]
    refine Px.mk h.1 ?_
    simp (disch := omega) only [e199, w199_0, w199_1, w199_2, w199_5, w199_8, w199_9, w199_10, w199_12, w199_15, w199_18, w199_19, w199_20, w199_21, w199_24, w199_27, w199_29, w199_30, w199_31, w199_34, w199_35, w199_37, w199_38, w199_40, w199_41, w199_45, w199_46, w199_49, w199_50, w199_53, w199_54, w199_55, w199_58, w199_60, w199_61, w199_64, w199_67, w199_68, w199_71, w199_72, w199_73, w199_75, w199_77, w199_78, w199_81, w199_82, w199_83, w199_84, w199_86, w199_89, w199_92, w199_93, w199_96, w199_97, w199_100, w199_102, w199_105, w199_107, Md_s1, Md_s81, Md_s82, Md_s83, Md_s84, Md_s85, Md_s86, Md_s87, Md_s88, Md_s89, Md_s90, Md_s91, Md_s92, Md_s93, Md_s94, Md_s95, Md_s96, Md_s97, Md_s98, Md_s99, Md_s100, Md_s101, Md_s102, Md_r81_0, Md_r81_1, Md_r81_2, Md_r81_4, Md_r81_5, Md_r81_13, Md_r81_14, Md_r81_15, Md_r81_18, Md_r81_20, Md_r81_21, Md_r81_22, Md_r81_23, Md_r81_24, Md_r81_25, Md_r81_26, Md_r81_27, Md_r81_28, Md_r81_29, Md_r81_30, Md_r81_31, aPush_s, aPush_n, vrf_s, vrf_n, true_and, and_true, false_and, and_false, true_imp_iff, false_imp_iff, not_true_eq_false, not_false_eq_true, eq_self, true_or, or_true, and_self, if_true, if_false, n_lit, n_of, n_an, Nat.add_sub_cancel, nI_add, pk_mul, n_sub, n_ixT, n_cl, n_leT, n_leF, n_ltT, n_ltF, n_eqT, n_eqF, Nat.reduceAdd, Nat.reduceMul, Nat.reduceSub, Nat.reduceEqDiff, Nat.reduceLT, Nat.reduceLeDiff, Nat.mul_one, Nat.one_mul, Nat.add_zero, Nat.zero_add, le_T, c135b, bw_0, b2n_t, b2n_f, nz0, nz1, c140 hm, q1]
    exact Pe.mk h
  · obtain ⟨a, ha, rfl⟩ := inN_T (by omega) q1
    rcases q2 : bw y (nI 1) (nI 30) with _ | _
    · have e : ∀ Q, RM (d + 300) 100 [.ref 16, .int (nI a), .int y, .int w] (S, I, R, z) Q = Q (some (.int (-nI 1000000001))) (S, I, R, z) := by
        intro Q
        by_cases x0 : y < nI 1
        · simp (disch := omega) only [e100, w100_0, w100_1, w100_2, w100_5, w100_8, w100_9, w100_10, w100_13, w100_14, w100_16, w100_19, w100_20, w100_23, w100_24, w100_25, w100_28, w100_30, w100_31, w100_32, w100_35, w100_36, w100_39, w100_42, w100_43, w100_45, w100_46, w100_48, w100_49, w100_53, w100_54, w100_57, w100_58, w100_61, w100_64, w100_65, w100_68, w100_69, w100_72, w100_74, w100_75, w100_78, w100_81, w100_84, w100_85, w100_88, w100_89, w100_90, w100_92, w100_94, w100_95, w100_98, w100_101, w100_102, w100_104, w100_107, w100_110, w100_111, w100_114, w100_116, w100_119, w100_121, Hd_s16, Hd_s52, Hd_s53, Hd_s54, Hd_s55, Hd_s56, Hd_s57, Hd_s50, Hd_s51, Hd_s0, Hd_r16_0, Hd_r16_1, Hd_r16_2, Hd_r16_3, Hd_r16_4, Hd_r16_5, Hd_r16_6, Hd_r16_7, Hd_r54_0, Hd_r54_6, Hd_r50_0, aPush_s, aPush_n, vrf_s, vrf_n, true_and, and_true, false_and, and_false, true_imp_iff, false_imp_iff, not_true_eq_false, not_false_eq_true, eq_self, true_or, or_true, and_self, if_true, if_false, n_lit, n_of, n_an, Nat.add_sub_cancel, nI_add, pk_mul, n_sub, n_ixT, n_cl, n_leT, n_leF, n_ltT, n_ltF, n_eqT, n_eqF, Nat.reduceAdd, Nat.reduceMul, Nat.reduceSub, Nat.reduceEqDiff, Nat.reduceLT, Nat.reduceLeDiff, Nat.mul_one, Nat.one_mul, Nat.add_zero, Nat.zero_add, b2n_t, c123 hh, q1, ← Int32.not_lt, x0]
        · have x1 := bw_F q2 x0
          simp (disch := omega) only [e100, w100_0, w100_1, w100_2, w100_5, w100_8, w100_9, w100_10, w100_13, w100_14, w100_16, w100_19, w100_20, w100_23, w100_24, w100_25, w100_28, w100_30, w100_31, w100_32, w100_35, w100_36, w100_39, w100_42, w100_43, w100_45, w100_46, w100_48, w100_49, w100_53, w100_54, w100_57, w100_58, w100_61, w100_64, w100_65, w100_68, w100_69, w100_72, w100_74, w100_75, w100_78, w100_81, w100_84, w100_85, w100_88, w100_89, w100_90, w100_92, w100_94, w100_95, w100_98, w100_101, w100_102, w100_104, w100_107, w100_110, w100_111, w100_114, w100_116, w100_119, w100_121, Hd_s16, Hd_s52, Hd_s53, Hd_s54, Hd_s55, Hd_s56, Hd_s57, Hd_s50, Hd_s51, Hd_s0, Hd_r16_0, Hd_r16_1, Hd_r16_2, Hd_r16_3, Hd_r16_4, Hd_r16_5, Hd_r16_6, Hd_r16_7, Hd_r54_0, Hd_r54_6, Hd_r50_0, aPush_s, aPush_n, vrf_s, vrf_n, true_and, and_true, false_and, and_false, true_imp_iff, false_imp_iff, not_true_eq_false, not_false_eq_true, eq_self, true_or, or_true, and_self, if_true, if_false, n_lit, n_of, n_an, Nat.add_sub_cancel, nI_add, pk_mul, n_sub, n_ixT, n_cl, n_leT, n_leF, n_ltT, n_ltF, n_eqT, n_eqF, Nat.reduceAdd, Nat.reduceMul, Nat.reduceSub, Nat.reduceEqDiff, Nat.reduceLT, Nat.reduceLeDiff, Nat.mul_one, Nat.one_mul, Nat.add_zero, Nat.zero_add, b2n_t, c123 hh, q1, ← Int32.not_lt, x0, x1]
      rw [e]
      refine Px.mk h.1 ?_
      simp (disch := omega) only [e199, w199_0, w199_1, w199_2, w199_5, w199_8, w199_9, w199_10, w199_12, w199_15, w199_18, w199_19, w199_20, w199_21, w199_24, w199_27, w199_29, w199_30, w199_31, w199_34, w199_35, w199_37, w199_38, w199_40, w199_41, w199_45, w199_46, w199_49, w199_50, w199_53, w199_54, w199_55, w199_58, w199_60, w199_61, w199_64, w199_67, w199_68, w199_71, w199_72, w199_73, w199_75, w199_77, w199_78, w199_81, w199_82, w199_83, w199_84, w199_86, w199_89, w199_92, w199_93, w199_96, w199_97, w199_100, w199_102, w199_105, w199_107, Md_s1, Md_s81, Md_s82, Md_s83, Md_s84, Md_s85, Md_s86, Md_s87, Md_s88, Md_s89, Md_s90, Md_s91, Md_s92, Md_s93, Md_s94, Md_s95, Md_s96, Md_s97, Md_s98, Md_s99, Md_s100, Md_s101, Md_s102, Md_r81_0, Md_r81_1, Md_r81_2, Md_r81_4, Md_r81_5, Md_r81_13, Md_r81_14, Md_r81_15, Md_r81_18, Md_r81_20, Md_r81_21, Md_r81_22, Md_r81_23, Md_r81_24, Md_r81_25, Md_r81_26, Md_r81_27, Md_r81_28, Md_r81_29, Md_r81_30, Md_r81_31, aPush_s, aPush_n, vrf_s, vrf_n, true_and, and_true, false_and, and_false, true_imp_iff, false_imp_iff, not_true_eq_false, not_false_eq_true, eq_self, true_or, or_true, and_self, if_true, if_false, n_lit, n_of, n_an, Nat.add_sub_cancel, nI_add, pk_mul, n_sub, n_ixT, n_cl, n_leT, n_leF, n_ltT, n_ltF, n_eqT, n_eqF, Nat.reduceAdd, Nat.reduceMul, Nat.reduceSub, Nat.reduceEqDiff, Nat.reduceLT, Nat.reduceLeDiff, Nat.mul_one, Nat.one_mul, Nat.add_zero, Nat.zero_add, le_T, c135b, bw_0, b2n_t, b2n_f, nz0, nz1, c140 hm, q1, q2]
      exact Pe.mk h
    · obtain ⟨m, m1, m30, rfl⟩ := bw_T (by decide) (by decide) q2
      rcases q3 : inN w 2 with _ | _
      · have e : ∀ Q, RM (d + 300) 100 [.ref 16, .int (nI a), .int (nI m), .int w] (S, I, R, z) Q = Q (some (.int (-nI 1000000001))) (S, I, R, z) := by
          intro Q
          by_cases x0 : w < nI 0
          · simp (disch := omega) only [e100, w100_0, w100_1, w100_2, w100_5, w100_8, w100_9, w100_10, w100_13, w100_14, w100_16, w100_19, w100_20, w100_23, w100_24, w100_25, w100_28, w100_30, w100_31, w100_32, w100_35, w100_36, w100_39, w100_42, w100_43, w100_45, w100_46, w100_48, w100_49, w100_53, w100_54, w100_57, w100_58, w100_61, w100_64, w100_65, w100_68, w100_69, w100_72, w100_74, w100_75, w100_78, w100_81, w100_84, w100_85, w100_88, w100_89, w100_90, w100_92, w100_94, w100_95, w100_98, w100_101, w100_102, w100_104, w100_107, w100_110, w100_111, w100_114, w100_116, w100_119, w100_121, Hd_s16, Hd_s52, Hd_s53, Hd_s54, Hd_s55, Hd_s56, Hd_s57, Hd_s50, Hd_s51, Hd_s0, Hd_r16_0, Hd_r16_1, Hd_r16_2, Hd_r16_3, Hd_r16_4, Hd_r16_5, Hd_r16_6, Hd_r16_7, Hd_r54_0, Hd_r54_6, Hd_r50_0, aPush_s, aPush_n, vrf_s, vrf_n, true_and, and_true, false_and, and_false, true_imp_iff, false_imp_iff, not_true_eq_false, not_false_eq_true, eq_self, true_or, or_true, and_self, if_true, if_false, n_lit, n_of, n_an, Nat.add_sub_cancel, nI_add, pk_mul, n_sub, n_ixT, n_cl, n_leT, n_leF, n_ltT, n_ltF, n_eqT, n_eqF, Nat.reduceAdd, Nat.reduceMul, Nat.reduceSub, Nat.reduceEqDiff, Nat.reduceLT, Nat.reduceLeDiff, Nat.mul_one, Nat.one_mul, Nat.add_zero, Nat.zero_add, b2n_t, c123 hh, q1, ← Int32.not_lt, x0]
          · have x1 := inN_F q3 x0
            have x2 : nI 1 < w := by
              rcases nI_of x0 with ⟨j, hj, rfl⟩
              rw [n_lt hj (by omega)] at x1
              exact nI_lt (by omega) hj
            simp (disch := omega) only [e100, w100_0, w100_1, w100_2, w100_5, w100_8, w100_9, w100_10, w100_13, w100_14, w100_16, w100_19, w100_20, w100_23, w100_24, w100_25, w100_28, w100_30, w100_31, w100_32, w100_35, w100_36, w100_39, w100_42, w100_43, w100_45, w100_46, w100_48, w100_49, w100_53, w100_54, w100_57, w100_58, w100_61, w100_64, w100_65, w100_68, w100_69, w100_72, w100_74, w100_75, w100_78, w100_81, w100_84, w100_85, w100_88, w100_89, w100_90, w100_92, w100_94, w100_95, w100_98, w100_101, w100_102, w100_104, w100_107, w100_110, w100_111, w100_114, w100_116, w100_119, w100_121, Hd_s16, Hd_s52, Hd_s53, Hd_s54, Hd_s55, Hd_s56, Hd_s57, Hd_s50, Hd_s51, Hd_s0, Hd_r16_0, Hd_r16_1, Hd_r16_2, Hd_r16_3, Hd_r16_4, Hd_r16_5, Hd_r16_6, Hd_r16_7, Hd_r54_0, Hd_r54_6, Hd_r50_0, aPush_s, aPush_n, vrf_s, vrf_n, true_and, and_true, false_and, and_false, true_imp_iff, false_imp_iff, not_true_eq_false, not_false_eq_true, eq_self, true_or, or_true, and_self, if_true, if_false, n_lit, n_of, n_an, Nat.add_sub_cancel, nI_add, pk_mul, n_sub, n_ixT, n_cl, n_leT, n_leF, n_ltT, n_ltF, n_eqT, n_eqF, Nat.reduceAdd, Nat.reduceMul, Nat.reduceSub, Nat.reduceEqDiff, Nat.reduceLT, Nat.reduceLeDiff, Nat.mul_one, Nat.one_mul, Nat.add_zero, Nat.zero_add, b2n_t, c123 hh, q1, ← Int32.not_lt, x0, x2]
        rw [e]
        refine Px.mk h.1 ?_
        simp (disch := omega) only [e199, w199_0, w199_1, w199_2, w199_5, w199_8, w199_9, w199_10, w199_12, w199_15, w199_18, w199_19, w199_20, w199_21, w199_24, w199_27, w199_29, w199_30, w199_31, w199_34, w199_35, w199_37, w199_38, w199_40, w199_41, w199_45, w199_46, w199_49, w199_50, w199_53, w199_54, w199_55, w199_58, w199_60, w199_61, w199_64, w199_67, w199_68, w199_71, w199_72, w199_73, w199_75, w199_77, w199_78, w199_81, w199_82, w199_83, w199_84, w199_86, w199_89, w199_92, w199_93, w199_96, w199_97, w199_100, w199_102, w199_105, w199_107, Md_s1, Md_s81, Md_s82, Md_s83, Md_s84, Md_s85, Md_s86, Md_s87, Md_s88, Md_s89, Md_s90, Md_s91, Md_s92, Md_s93, Md_s94, Md_s95, Md_s96, Md_s97, Md_s98, Md_s99, Md_s100, Md_s101, Md_s102, Md_r81_0, Md_r81_1, Md_r81_2, Md_r81_4, Md_r81_5, Md_r81_13, Md_r81_14, Md_r81_15, Md_r81_18, Md_r81_20, Md_r81_21, Md_r81_22, Md_r81_23, Md_r81_24, Md_r81_25, Md_r81_26, Md_r81_27, Md_r81_28, Md_r81_29, Md_r81_30, Md_r81_31, aPush_s, aPush_n, vrf_s, vrf_n, true_and, and_true, false_and, and_false, true_imp_iff, false_imp_iff, not_true_eq_false, not_false_eq_true, eq_self, true_or, or_true, and_self, if_true, if_false, n_lit, n_of, n_an, Nat.add_sub_cancel, nI_add, pk_mul, n_sub, n_ixT, n_cl, n_leT, n_leF, n_ltT, n_ltF, n_eqT, n_eqF, Nat.reduceAdd, Nat.reduceMul, Nat.reduceSub, Nat.reduceEqDiff, Nat.reduceLT, Nat.reduceLeDiff, Nat.mul_one, Nat.one_mul, Nat.add_zero, Nat.zero_add, le_T, c135b, bw_0, b2n_t, b2n_f, nz0, nz1, c140 hm, q1, q2, q3]
        exact Pe.mk h
      · obtain ⟨t, ht, rfl⟩ := inN_T (by decide) q3
        simp (disch := omega) only [e100, w100_0, w100_1, w100_2, w100_5, w100_8, w100_9, w100_10, w100_13, w100_14, w100_16, w100_19, w100_20, w100_23, w100_24, w100_25, w100_28, w100_30, w100_31, w100_32, w100_35, w100_36, w100_39, w100_42, w100_43, w100_45, w100_46, w100_48, w100_49, w100_53, w100_54, w100_57, w100_58, w100_61, w100_64, w100_65, w100_68, w100_69, w100_72, w100_74, w100_75, w100_78, w100_81, w100_84, w100_85, w100_88, w100_89, w100_90, w100_92, w100_94, w100_95, w100_98, w100_101, w100_102, w100_104, w100_107, w100_110, w100_111, w100_114, w100_116, w100_119, w100_121, Hd_s16, Hd_s52, Hd_s53, Hd_s54, Hd_s55, Hd_s56, Hd_s57, Hd_s50, Hd_s51, Hd_s0, Hd_r16_0, Hd_r16_1, Hd_r16_2, Hd_r16_3, Hd_r16_4, Hd_r16_5, Hd_r16_6, Hd_r16_7, Hd_r54_0, Hd_r54_6, Hd_r50_0, s39, aPush_s, aPush_n, vrf_s, vrf_n, true_and, and_true, false_and, and_false, true_imp_iff, false_imp_iff, not_true_eq_false, not_false_eq_true, eq_self, true_or, or_true, and_self, if_true, if_false, n_lit, n_of, n_an, Nat.add_sub_cancel, nI_add, pk_mul, n_sub, n_ixT, n_cl, n_leT, n_leF, n_ltT, n_ltF, n_eqT, n_eqF, Nat.reduceAdd, Nat.reduceMul, Nat.reduceSub, Nat.reduceEqDiff, Nat.reduceLT, Nat.reduceLeDiff, Nat.mul_one, Nat.one_mul, Nat.add_zero, Nat.zero_add, b2n_t, c123 hh, q1]
        refine c9 (r := 39) (r2 := 17) h.cs h.t17 f5 ⟨by decide, by decide⟩ (by decide) ?_
        intro J R' hJ hR hsJ htJ
        have e16 : R' 16 2 = some 39 := by rw [hR 16 (by decide)]; exact Hd_r16_2
        simp (disch := omega) only [w100_0, w100_1, w100_2, w100_5, w100_8, w100_9, w100_10, w100_13, w100_14, w100_16, w100_19, w100_20, w100_23, w100_24, w100_25, w100_28, w100_30, w100_31, w100_32, w100_35, w100_36, w100_39, w100_42, w100_43, w100_45, w100_46, w100_48, w100_49, w100_53, w100_54, w100_57, w100_58, w100_61, w100_64, w100_65, w100_68, w100_69, w100_72, w100_74, w100_75, w100_78, w100_81, w100_84, w100_85, w100_88, w100_89, w100_90, w100_92, w100_94, w100_95, w100_98, w100_101, w100_102, w100_104, w100_107, w100_110, w100_111, w100_114, w100_116, w100_119, w100_121, aPush_s, aPush_n, vrf_s, vrf_n, true_and, and_true, false_and, and_false, true_imp_iff, false_imp_iff, not_true_eq_false, not_false_eq_true, eq_self, true_or, or_true, and_self, if_true, if_false, n_lit, n_of, n_an, Nat.add_sub_cancel, nI_add, pk_mul, n_sub, n_ixT, n_cl, n_leT, n_leF, n_ltT, n_ltF, n_eqT, n_eqF, Nat.reduceAdd, Nat.reduceMul, Nat.reduceSub, Nat.reduceEqDiff, Nat.reduceLT, Nat.reduceLeDiff, Nat.mul_one, Nat.one_mul, Nat.add_zero, Nat.zero_add]
        refine l100 (g := G I) Hd_s16 e16 m30 ha ?_ m 0 J (Nat.zero_add _) (Fr.refl 39 J) hsJ
        intro K hK
        have hK2 : Fr 39 I K := hJ.trans hK
        have k15 : P15 S sc ∧ K 15 = sc.2 := ⟨h.1.1, (hK2 15 (by decide)).trans h.1.2⟩
        have fs' := h.fs.cong (R' := R') (fun q a b c _ => hR q c)
        have mK : Mr S K R' := ⟨fs'.2.1, fun p hp => by rw [hK2 1 (by decide)]; exact hm.2.1 p hp, by
          rw [show G K = G I by unfold G; rw [hK2 82 (by decide)]]
          exact ok⟩
        have gK : G K = G I := by unfold G; rw [hK2 82 (by decide)]
        have ref : ∀ {ans : Int32}, (∀ L, Inv sc n S L R' z → RB (d + 299) 199 96 [.ref 81, .int (nI a), .int (nI m), .int (nI t), .int (nI (sHu a (G I) m)), .int (nI (sLi a (G I) m)), .int (nI m)] [] (S, L, R', z) (Pe sc n ans)) → Px d 199 [.int (nI a), .int (nI m), .int (nI t)] sc n (some (.int ans)) (S, K, R', z) := by
          intro ans hq
          refine Px.mk k15 ?_
          obtain ⟨Md_s1, Md_s81, Md_s82, Md_s83, Md_s84, Md_s85, Md_s86, Md_s87, Md_s88, Md_s89, Md_s90, Md_s91, Md_s92, Md_s93, Md_s94, Md_s95, Md_s96, Md_s97, Md_s98, Md_s99, Md_s100, Md_s101, Md_s102, Md_r81_0, Md_r81_1, Md_r81_2, Md_r81_4, Md_r81_5, Md_r81_13, Md_r81_14, Md_r81_15, Md_r81_18, Md_r81_20, Md_r81_21, Md_r81_22, Md_r81_23, Md_r81_24, Md_r81_25, Md_r81_26, Md_r81_27, Md_r81_28, Md_r81_29, Md_r81_30, Md_r81_31⟩ := id fs'.2.1
          simp (disch := omega) only [e199, w199_0, w199_1, w199_2, w199_5, w199_8, w199_9, w199_10, w199_12, w199_15, w199_18, w199_19, w199_20, w199_21, w199_24, w199_27, w199_29, w199_30, w199_31, w199_34, w199_35, w199_37, w199_38, w199_40, w199_41, w199_45, w199_46, w199_49, w199_50, w199_53, w199_54, w199_55, w199_58, w199_60, w199_61, w199_64, w199_67, w199_68, w199_71, w199_72, w199_73, w199_75, w199_77, w199_78, w199_81, w199_82, w199_83, w199_84, w199_86, w199_89, w199_92, w199_93, w199_96, w199_97, w199_100, w199_102, w199_105, w199_107, Md_s1, Md_s81, Md_s82, Md_s83, Md_s84, Md_s85, Md_s86, Md_s87, Md_s88, Md_s89, Md_s90, Md_s91, Md_s92, Md_s93, Md_s94, Md_s95, Md_s96, Md_s97, Md_s98, Md_s99, Md_s100, Md_s101, Md_s102, Md_r81_0, Md_r81_1, Md_r81_2, Md_r81_4, Md_r81_5, Md_r81_13, Md_r81_14, Md_r81_15, Md_r81_18, Md_r81_20, Md_r81_21, Md_r81_22, Md_r81_23, Md_r81_24, Md_r81_25, Md_r81_26, Md_r81_27, Md_r81_28, Md_r81_29, Md_r81_30, Md_r81_31, aPush_s, aPush_n, vrf_s, vrf_n, true_and, and_true, false_and, and_false, true_imp_iff, false_imp_iff, not_true_eq_false, not_false_eq_true, eq_self, true_or, or_true, and_self, if_true, if_false, n_lit, n_of, n_an, Nat.add_sub_cancel, nI_add, pk_mul, n_sub, n_ixT, n_cl, n_leT, n_leF, n_ltT, n_ltF, n_eqT, n_eqF, Nat.reduceAdd, Nat.reduceMul, Nat.reduceSub, Nat.reduceEqDiff, Nat.reduceLT, Nat.reduceLeDiff, Nat.mul_one, Nat.one_mul, Nat.add_zero, Nat.zero_add, le_T, c135b, bw_0, b2n_t, b2n_f, nz0, nz1, c140 mK, gK, q1, q2, q3]
          refine c197 fs'.2.1 ?_
          intro L hL l85
          have gL : G L = G I := by
            rw [← gK]
            unfold G
            rw [hL 82 (by decide)]
          have mL : Mr S L R' := mK.cong (hL 1 (by decide)) (hL 82 (by decide))
          simp (disch := omega) only [w199_0, w199_1, w199_2, w199_5, w199_8, w199_9, w199_10, w199_12, w199_15, w199_18, w199_19, w199_20, w199_21, w199_24, w199_27, w199_29, w199_30, w199_31, w199_34, w199_35, w199_37, w199_38, w199_40, w199_41, w199_45, w199_46, w199_49, w199_50, w199_53, w199_54, w199_55, w199_58, w199_60, w199_61, w199_64, w199_67, w199_68, w199_71, w199_72, w199_73, w199_75, w199_77, w199_78, w199_81, w199_82, w199_83, w199_84, w199_86, w199_89, w199_92, w199_93, w199_96, w199_97, w199_100, w199_102, w199_105, w199_107, Md_s1, Md_s81, Md_s82, Md_s83, Md_s84, Md_s85, Md_s86, Md_s87, Md_s88, Md_s89, Md_s90, Md_s91, Md_s92, Md_s93, Md_s94, Md_s95, Md_s96, Md_s97, Md_s98, Md_s99, Md_s100, Md_s101, Md_s102, Md_r81_0, Md_r81_1, Md_r81_2, Md_r81_4, Md_r81_5, Md_r81_13, Md_r81_14, Md_r81_15, Md_r81_18, Md_r81_20, Md_r81_21, Md_r81_22, Md_r81_23, Md_r81_24, Md_r81_25, Md_r81_26, Md_r81_27, Md_r81_28, Md_r81_29, Md_r81_30, Md_r81_31, aPush_s, aPush_n, vrf_s, vrf_n, true_and, and_true, false_and, and_false, true_imp_iff, false_imp_iff, not_true_eq_false, not_false_eq_true, eq_self, true_or, or_true, and_self, if_true, if_false, n_lit, n_of, n_an, Nat.add_sub_cancel, nI_add, pk_mul, n_sub, n_ixT, n_cl, n_leT, n_leF, n_ltT, n_ltF, n_eqT, n_eqF, Nat.reduceAdd, Nat.reduceMul, Nat.reduceSub, Nat.reduceEqDiff, Nat.reduceLT, Nat.reduceLeDiff, Nat.mul_one, Nat.one_mul, Nat.add_zero, Nat.zero_add, le_T, c135b, bw_0, b2n_t, b2n_f, nz0, nz1]
          refine l199 (g := G I) m30 ha ok mL ?_ m 0 L (Nat.zero_add _) ⟨gL, fun _ _ _ _ => rfl⟩
          intro M hM
          simp (disch := omega) only [w199_92, w199_93, Md_s1, Md_s81, Md_s82, Md_s83, Md_s84, Md_s85, Md_s86, Md_s87, Md_s88, Md_s89, Md_s90, Md_s91, Md_s92, Md_s93, Md_s94, Md_s95, Md_s96, Md_s97, Md_s98, Md_s99, Md_s100, Md_s101, Md_s102, Md_r81_0, Md_r81_1, Md_r81_2, Md_r81_4, Md_r81_5, Md_r81_13, Md_r81_14, Md_r81_15, Md_r81_18, Md_r81_20, Md_r81_21, Md_r81_22, Md_r81_23, Md_r81_24, Md_r81_25, Md_r81_26, Md_r81_27, Md_r81_28, Md_r81_29, Md_r81_30, Md_r81_31, aPush_s, aPush_n, vrf_s, vrf_n, true_and, and_true, false_and, and_false, true_imp_iff, false_imp_iff, not_true_eq_false, not_false_eq_true, eq_self, true_or, or_true, and_self, if_true, if_false, n_lit, n_of, n_an, Nat.add_sub_cancel, nI_add, pk_mul, n_sub, n_ixT, n_cl, n_leT, n_leF, n_ltT, n_ltF, n_eqT, n_eqF, Nat.reduceAdd, Nat.reduceMul, Nat.reduceSub, Nat.reduceEqDiff, Nat.reduceLT, Nat.reduceLeDiff, Nat.mul_one, Nat.one_mul, Nat.add_zero, Nat.zero_add, le_T, c135b, bw_0, b2n_t, b2n_f, nz0, nz1]
          refine c198 fs'.2.1 ?_
          intro N hN n1 n2
          simp (disch := omega) only [aPush_s, aPush_n, vrf_s, vrf_n, true_and, and_true, false_and, and_false, true_imp_iff, false_imp_iff, not_true_eq_false, not_false_eq_true, eq_self, true_or, or_true, and_self, if_true, if_false]
          have nf : ∀ q, q ≠ 82 → q ≠ 92 → q ≠ 93 → q ≠ 85 → (q < 39 ∨ 49 < q) → N q = I q := fun q q1 q2 q3 q4 q5 => by
            rw [hN q q1, hM.2 q q1 q2 q3, hL q q4, hK2 q (by omega)]
          have gN : G N = G I := by
            funext k
            by_cases c : k < 48
            · unfold G
              rw [n1 k c, hM.2 85 (by decide) (by decide) (by decide), l85 k c, hK2 82 (by decide)]
            · show uN (N 82 k) = _
              rw [n2 k (by omega)]
              show G M k = _
              rw [hM.1]
              exact sGm_e7 a (G I) m k (by omega)
          refine hq N (h.chR (fun q a b c => hR q c) (fun q hq => nf q (by omega) (by omega) (by omega) (by omega) (by omega)) (by rw [gN]; exact ok) (by rw [gN]; exact h.cs.congR (fun q hq => nf q (by omega) (by omega) (by omega) (by omega) (by omega)) (fun q hq => hR q (by omega))) (h.t17.cong (hR 23 (by decide))) (h.t28.cong (hR 34 (by decide))) ⟨?_, ?_⟩ (h.wa.cong ?_ ?_ ?_ ?_) (h.ta.cong ?_ ?_ ?_ ?_) (h.sh.cong fun q hq => nf q (by omega) (by omega) (by omega) (by omega) (by omega)) (h.sl.cong fun q hq => nf q (by omega) (by omega) (by omega) (by omega) (by omega)))
          · rw [nf 16 (by decide) (by decide) (by decide) (by decide) (by decide), nf 81 (by decide) (by decide) (by decide) (by decide) (by decide)]
            exact h.im.1
          · rw [nf 81 (by decide) (by decide) (by decide) (by decide) (by decide)]
            rcases h.im.2 with q | q
            · exact Or.inl q
            · refine Or.inr ⟨q.1, ?_⟩
              rw [show Gi N = Gi I by unfold Gi; rw [nf 83 (by decide) (by decide) (by decide) (by decide) (by decide)]]
              exact q.2.congR (fun q hq => nf q (by omega) (by omega) (by omega) (by omega) (by omega)) (fun q hq => hR q (by omega))
          · rw [nf 16 (by decide) (by decide) (by decide) (by decide) (by decide)]
          · rw [nf 81 (by decide) (by decide) (by decide) (by decide) (by decide)]
          · rw [nf 57 (by decide) (by decide) (by decide) (by decide) (by decide)]
          · rw [nf 102 (by decide) (by decide) (by decide) (by decide) (by decide)]
          · rw [nf 54 (by decide) (by decide) (by decide) (by decide) (by decide)]
          · rw [nf 81 (by decide) (by decide) (by decide) (by decide) (by decide)]
          · rw [nf 55 (by decide) (by decide) (by decide) (by decide) (by decide)]
          · rw [nf 86 (by decide) (by decide) (by decide) (by decide) (by decide)]
        have t2 : t = 0 ∨ t = 1 := by omega
        rcases t2 with rfl | rfl
        · simp (disch := omega) only [w100_110, w100_111, w100_114, w100_116, w100_119, w100_121, aPush_s, aPush_n, vrf_s, vrf_n, true_and, and_true, false_and, and_false, true_imp_iff, false_imp_iff, not_true_eq_false, not_false_eq_true, eq_self, true_or, or_true, and_self, if_true, if_false, n_lit, n_of, n_an, Nat.add_sub_cancel, nI_add, pk_mul, n_sub, n_ixT, n_cl, n_leT, n_leF, n_ltT, n_ltF, n_eqT, n_eqF, Nat.reduceAdd, Nat.reduceMul, Nat.reduceSub, Nat.reduceEqDiff, Nat.reduceLT, Nat.reduceLeDiff, Nat.mul_one, Nat.one_mul, Nat.add_zero, Nat.zero_add]
          refine ref ?_
          intro L hL
          simp (disch := omega) only [w199_96, w199_97, w199_100, w199_102, w199_105, w199_107, aPush_s, aPush_n, vrf_s, vrf_n, true_and, and_true, false_and, and_false, true_imp_iff, false_imp_iff, not_true_eq_false, not_false_eq_true, eq_self, true_or, or_true, and_self, if_true, if_false, n_lit, n_of, n_an, Nat.add_sub_cancel, nI_add, pk_mul, n_sub, n_ixT, n_cl, n_leT, n_leF, n_ltT, n_ltF, n_eqT, n_eqF, Nat.reduceAdd, Nat.reduceMul, Nat.reduceSub, Nat.reduceEqDiff, Nat.reduceLT, Nat.reduceLeDiff, Nat.mul_one, Nat.one_mul, Nat.add_zero, Nat.zero_add]
          exact Pe.mk hL
        · simp (disch := omega) only [w100_110, w100_111, w100_114, w100_116, w100_119, w100_121, aPush_s, aPush_n, vrf_s, vrf_n, true_and, and_true, false_and, and_false, true_imp_iff, false_imp_iff, not_true_eq_false, not_false_eq_true, eq_self, true_or, or_true, and_self, if_true, if_false, n_lit, n_of, n_an, Nat.add_sub_cancel, nI_add, pk_mul, n_sub, n_ixT, n_cl, n_leT, n_leF, n_ltT, n_ltF, n_eqT, n_eqF, Nat.reduceAdd, Nat.reduceMul, Nat.reduceSub, Nat.reduceEqDiff, Nat.reduceLT, Nat.reduceLeDiff, Nat.mul_one, Nat.one_mul, Nat.add_zero, Nat.zero_add]
          refine ref ?_
          intro L hL
          simp (disch := omega) only [w199_96, w199_97, w199_100, w199_102, w199_105, w199_107, aPush_s, aPush_n, vrf_s, vrf_n, true_and, and_true, false_and, and_false, true_imp_iff, false_imp_iff, not_true_eq_false, not_false_eq_true, eq_self, true_or, or_true, and_self, if_true, if_false, n_lit, n_of, n_an, Nat.add_sub_cancel, nI_add, pk_mul, n_sub, n_ixT, n_cl, n_leT, n_leF, n_ltT, n_ltF, n_eqT, n_eqF, Nat.reduceAdd, Nat.reduceMul, Nat.reduceSub, Nat.reduceEqDiff, Nat.reduceLT, Nat.reduceLeDiff, Nat.mul_one, Nat.one_mul, Nat.add_zero, Nat.zero_add]
          exact Pe.mk hL
end
