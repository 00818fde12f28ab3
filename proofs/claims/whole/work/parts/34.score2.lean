/-! a State: the greatest class, all scores -/
def cw (g : Nat → Nat) (s l q k : Nat) : Nat := sm k (fun w => if (s.testBit w && sPl g w l == q) then sW g w else 0)
theorem cw_eq (g : Nat → Nat) (s l q : Nat) : cw g s l q (g 1) = sWt g (sCls g s l q) := by
  unfold cw sWt
  apply sm_cong
  intro k hk
  unfold sCls
  rw [bs_bit]
  simp only [hk, decide_true, Bool.true_and]
section
variable {d r : Nat} {g : Nat → Nat} {S : Nat → Nat × Nat} {I : Nat → Nat → Int32} {R : Nat → Nat → Option Nat} {z : Nat × Nat} {Q : Option Value → HS → Prop}
theorem Sc.w9 {j : Nat} {v : Int32} : Sc r I (aW I (r + 9) j v) := fun _ _ h _ => aW_o h
theorem Sc.w8 {j : Nat} {v : Int32} : Sc r I (aW I (r + 8) j v) := fun _ h _ _ => aW_o h
theorem l27a {l s : Nat} (hs : Cs S I R r g) : ∀ (j k : Nat) (J : Nat → Nat → Int32) (v : Value), k + j = 16 → Sc r I J → (∀ q, q < k → J (r + 9) q = nI 0) → (∀ J v, Sc r I J → (∀ q, q < 16 → J (r + 9) q = nI 0) → RB (d + 1) 27 26 [.ref r, .int (nI l), .int (nI s), .int (nI 0), v] [] (S, J, R, z) Q) → RB (d + 1) 27 2 [.ref r, .int (nI l), .int (nI s), .int (nI k), v] [] (S, J, R, z) Q
  | 0, k, J, v, h, hJ, h0, hQ => by
    obtain rfl : k = 16 := by omega
    obtain ⟨hr, ⟨Sd_sr, Sd_s_r___1_, Sd_s_r___2_, Sd_s_r___3_, Sd_s_r___4_, Sd_s_r___5_, Sd_s_r___6_, Sd_s_r___7_, Sd_s_r___8_, Sd_s_r___9_, Sd_s_r___10_, Sd_rr_0, Sd_rr_1, Sd_rr_2, Sd_rr_4, Sd_rr_5, Sd_rr_12, Sd_rr_14, Sd_rr_15, Sd_rr_16, Sd_rr_17⟩, ok, ⟨n3, n6, n7, n8, n9, n10, n11, n13⟩, ⟨a1, a2, a3, a4, a5, a7⟩, ct⟩ := id hs
    rw [w27_2]
    simp (disch := omega) only [w27_0, w27_1, w27_3, w27_4, w27_7, w27_8, w27_11, w27_12, w27_15, w27_16, w27_17, w27_18, w27_21, w27_24, w27_25, w27_27, w27_28, w27_31, w27_34, w27_35, w27_38, w27_39, w27_40, w27_41, w27_44, w27_45, w27_46, w27_47, w27_48, w27_51, w27_54, w27_55, w27_58, w27_59, w27_60, w27_63, w27_64, w27_65, w27_66, w27_69, w27_72, w27_73, w27_74, w27_75, w27_79, w27_80, w27_83, w27_84, w27_87, w27_88, w27_91, w27_93, w27_94, w27_95, w27_98, w27_99, w27_100, w27_103, w27_105, w27_108, w27_109, w27_110, w27_113, w27_116, w27_117, Sd_sr, Sd_s_r___1_, Sd_s_r___2_, Sd_s_r___3_, Sd_s_r___4_, Sd_s_r___5_, Sd_s_r___6_, Sd_s_r___7_, Sd_s_r___8_, Sd_s_r___9_, Sd_s_r___10_, Sd_rr_0, Sd_rr_1, Sd_rr_2, Sd_rr_4, Sd_rr_5, Sd_rr_12, Sd_rr_14, Sd_rr_15, Sd_rr_16, Sd_rr_17, aPush_s, aPush_n, vrf_s, vrf_n, true_and, and_true, false_and, and_false, true_imp_iff, false_imp_iff, not_true_eq_false, not_false_eq_true, eq_self, true_or, or_true, and_self, if_true, if_false, n_lit, n_of, n_an, Nat.add_sub_cancel, nI_add, pk_mul, n_sub, n_ixT, n_cl, n_leT, n_leF, n_ltT, n_ltF, n_eqT, n_eqF, Nat.reduceAdd, Nat.reduceMul, Nat.reduceSub, Nat.reduceEqDiff, Nat.reduceLT, Nat.reduceLeDiff, Nat.mul_one, Nat.one_mul, Nat.add_zero, Nat.zero_add]
    exact hQ J v hJ h0
  | j + 1, k, J, v, h, hJ, h0, hQ => by
    have ih := fun J' v => l27a (l := l) (s := s) hs j (k + 1) J' v (by omega)
    obtain ⟨hr, ⟨Sd_sr, Sd_s_r___1_, Sd_s_r___2_, Sd_s_r___3_, Sd_s_r___4_, Sd_s_r___5_, Sd_s_r___6_, Sd_s_r___7_, Sd_s_r___8_, Sd_s_r___9_, Sd_s_r___10_, Sd_rr_0, Sd_rr_1, Sd_rr_2, Sd_rr_4, Sd_rr_5, Sd_rr_12, Sd_rr_14, Sd_rr_15, Sd_rr_16, Sd_rr_17⟩, ok, ⟨n3, n6, n7, n8, n9, n10, n11, n13⟩, ⟨a1, a2, a3, a4, a5, a7⟩, ct⟩ := id hs
    have hr7 : 7 ≤ r := by omega
    rw [w27_2]
    simp (disch := omega) only [w27_0, w27_1, w27_3, w27_4, w27_7, w27_8, w27_11, w27_12, w27_15, w27_16, w27_17, w27_18, w27_21, w27_24, w27_25, w27_27, w27_28, w27_31, w27_34, w27_35, w27_38, w27_39, w27_40, w27_41, w27_44, w27_45, w27_46, w27_47, w27_48, w27_51, w27_54, w27_55, w27_58, w27_59, w27_60, w27_63, w27_64, w27_65, w27_66, w27_69, w27_72, w27_73, w27_74, w27_75, w27_79, w27_80, w27_83, w27_84, w27_87, w27_88, w27_91, w27_93, w27_94, w27_95, w27_98, w27_99, w27_100, w27_103, w27_105, w27_108, w27_109, w27_110, w27_113, w27_116, w27_117, Sd_sr, Sd_s_r___1_, Sd_s_r___2_, Sd_s_r___3_, Sd_s_r___4_, Sd_s_r___5_, Sd_s_r___6_, Sd_s_r___7_, Sd_s_r___8_, Sd_s_r___9_, Sd_s_r___10_, Sd_rr_0, Sd_rr_1, Sd_rr_2, Sd_rr_4, Sd_rr_5, Sd_rr_12, Sd_rr_14, Sd_rr_15, Sd_rr_16, Sd_rr_17, aPush_s, aPush_n, vrf_s, vrf_n, true_and, and_true, false_and, and_false, true_imp_iff, false_imp_iff, not_true_eq_false, not_false_eq_true, eq_self, true_or, or_true, and_self, if_true, if_false, n_lit, n_of, n_an, Nat.add_sub_cancel, nI_add, pk_mul, n_sub, n_ixT, n_cl, n_leT, n_leF, n_ltT, n_ltF, n_eqT, n_eqF, Nat.reduceAdd, Nat.reduceMul, Nat.reduceSub, Nat.reduceEqDiff, Nat.reduceLT, Nat.reduceLeDiff, Nat.mul_one, Nat.one_mul, Nat.add_zero, Nat.zero_add, hr7]
    refine ih _ _ (hJ.trans Sc.w9) ?_ hQ
    intro q hq
    by_cases e : q = k
    · rw [e]; exact aW_e
    · exact (aW_i e).trans (h0 q (by omega))
theorem l27b {l s : Nat} (hs : Cs S I R r g) (hl : l < 6) (hb : s < 2147483648) : ∀ (j k : Nat) (J : Nat → Nat → Int32) (v : Value), k + j = g 1 → Sc r I J → (∀ q, q < 16 → J (r + 9) q = nI (cw g s l q k)) → (∀ J, Sc r I J → (∀ q, q < 16 → J (r + 9) q = nI (sWt g (sCls g s l q))) → RB (d + 1) 27 77 [.ref r, .int (nI l), .int (nI s), .int (nI 0), .int (nI 1)] [] (S, J, R, z) Q) → RB (d + 1) 27 26 [.ref r, .int (nI l), .int (nI s), .int (nI k), v] [] (S, J, R, z) Q
  | 0, k, J, v, h, hJ, h0, hQ => by
    obtain rfl : k = g 1 := by omega
    have hsJ := hs.sc hJ
    obtain ⟨hr, ⟨Sd_sr, Sd_s_r___1_, Sd_s_r___2_, Sd_s_r___3_, Sd_s_r___4_, Sd_s_r___5_, Sd_s_r___6_, Sd_s_r___7_, Sd_s_r___8_, Sd_s_r___9_, Sd_s_r___10_, Sd_rr_0, Sd_rr_1, Sd_rr_2, Sd_rr_4, Sd_rr_5, Sd_rr_12, Sd_rr_14, Sd_rr_15, Sd_rr_16, Sd_rr_17⟩, ok, ⟨n3, n6, n7, n8, n9, n10, n11, n13⟩, ⟨a1, a2, a3, a4, a5, a7⟩, ct⟩ := id hsJ
    have h1 := ok.1
    rw [w27_26]
    simp (disch := omega) only [w27_0, w27_1, w27_3, w27_4, w27_7, w27_8, w27_11, w27_12, w27_15, w27_16, w27_17, w27_18, w27_21, w27_24, w27_25, w27_27, w27_28, w27_31, w27_34, w27_35, w27_38, w27_39, w27_40, w27_41, w27_44, w27_45, w27_46, w27_47, w27_48, w27_51, w27_54, w27_55, w27_58, w27_59, w27_60, w27_63, w27_64, w27_65, w27_66, w27_69, w27_72, w27_73, w27_74, w27_75, w27_79, w27_80, w27_83, w27_84, w27_87, w27_88, w27_91, w27_93, w27_94, w27_95, w27_98, w27_99, w27_100, w27_103, w27_105, w27_108, w27_109, w27_110, w27_113, w27_116, w27_117, Sd_sr, Sd_s_r___1_, Sd_s_r___2_, Sd_s_r___3_, Sd_s_r___4_, Sd_s_r___5_, Sd_s_r___6_, Sd_s_r___7_, Sd_s_r___8_, Sd_s_r___9_, Sd_s_r___10_, Sd_rr_0, Sd_rr_1, Sd_rr_2, Sd_rr_4, Sd_rr_5, Sd_rr_12, Sd_rr_14, Sd_rr_15, Sd_rr_16, Sd_rr_17, aPush_s, aPush_n, vrf_s, vrf_n, true_and, and_true, false_and, and_false, true_imp_iff, false_imp_iff, not_true_eq_false, not_false_eq_true, eq_self, true_or, or_true, and_self, if_true, if_false, n_lit, n_of, n_an, Nat.add_sub_cancel, nI_add, pk_mul, n_sub, n_ixT, n_cl, n_leT, n_leF, n_ltT, n_ltF, n_eqT, n_eqF, Nat.reduceAdd, Nat.reduceMul, Nat.reduceSub, Nat.reduceEqDiff, Nat.reduceLT, Nat.reduceLeDiff, Nat.mul_one, Nat.one_mul, Nat.add_zero, Nat.zero_add, n3, n6, n7, n8, n9, n10, n11, n13]
    exact hQ J hJ (fun q hq => (h0 q hq).trans (by rw [cw_eq]))
  | j + 1, k, J, v, h, hJ, h0, hQ => by
    have ih := fun J' v => l27b hs hl hb j (k + 1) J' v (by omega)
    have hk : k < g 1 := by omega
    have hsJ := hs.sc hJ
    obtain ⟨hr, ⟨Sd_sr, Sd_s_r___1_, Sd_s_r___2_, Sd_s_r___3_, Sd_s_r___4_, Sd_s_r___5_, Sd_s_r___6_, Sd_s_r___7_, Sd_s_r___8_, Sd_s_r___9_, Sd_s_r___10_, Sd_rr_0, Sd_rr_1, Sd_rr_2, Sd_rr_4, Sd_rr_5, Sd_rr_12, Sd_rr_14, Sd_rr_15, Sd_rr_16, Sd_rr_17⟩, ok, ⟨n3, n6, n7, n8, n9, n10, n11, n13⟩, ⟨a1, a2, a3, a4, a5, a7⟩, ct⟩ := id hsJ
    have h1 := ok.1
    have hp := sPl_lt g k l
    have hp0 := h0 _ hp
    have hr7 : 7 ≤ r := by omega
    rw [w27_26]
    by_cases b : s.testBit k = true
    · simp (disch := omega) only [w27_0, w27_1, w27_3, w27_4, w27_7, w27_8, w27_11, w27_12, w27_15, w27_16, w27_17, w27_18, w27_21, w27_24, w27_25, w27_27, w27_28, w27_31, w27_34, w27_35, w27_38, w27_39, w27_40, w27_41, w27_44, w27_45, w27_46, w27_47, w27_48, w27_51, w27_54, w27_55, w27_58, w27_59, w27_60, w27_63, w27_64, w27_65, w27_66, w27_69, w27_72, w27_73, w27_74, w27_75, w27_79, w27_80, w27_83, w27_84, w27_87, w27_88, w27_91, w27_93, w27_94, w27_95, w27_98, w27_99, w27_100, w27_103, w27_105, w27_108, w27_109, w27_110, w27_113, w27_116, w27_117, Sd_sr, Sd_s_r___1_, Sd_s_r___2_, Sd_s_r___3_, Sd_s_r___4_, Sd_s_r___5_, Sd_s_r___6_, Sd_s_r___7_, Sd_s_r___8_, Sd_s_r___9_, Sd_s_r___10_, Sd_rr_0, Sd_rr_1, Sd_rr_2, Sd_rr_4, Sd_rr_5, Sd_rr_12, Sd_rr_14, Sd_rr_15, Sd_rr_16, Sd_rr_17, aPush_s, aPush_n, vrf_s, vrf_n, true_and, and_true, false_and, and_false, true_imp_iff, false_imp_iff, not_true_eq_false, not_false_eq_true, eq_self, true_or, or_true, and_self, if_true, if_false, n_lit, n_of, n_an, Nat.add_sub_cancel, nI_add, pk_mul, n_sub, n_ixT, n_cl, n_leT, n_leF, n_ltT, n_ltF, n_eqT, n_eqF, Nat.reduceAdd, Nat.reduceMul, Nat.reduceSub, Nat.reduceEqDiff, Nat.reduceLT, Nat.reduceLeDiff, Nat.mul_one, Nat.one_mul, Nat.add_zero, Nat.zero_add, n3, n6, n7, n8, n9, n10, n11, n13, c14 hsJ hk hl, c129, b, b2n_t, a2 k hk, hp0, hr7]
      refine ih _ _ (hJ.trans Sc.w9) ?_ hQ
      intro q hq
      by_cases e : q = sPl g k l
      · rw [e]
        refine aW_e.trans ?_
        congr 1
        show _ = cw g s l _ k + if _ then _ else _
        rw [b, beq_self_eq_true]
        rfl
      · refine (aW_i e).trans ((h0 q hq).trans ?_)
        congr 1
        show _ = cw g s l q k + if _ then _ else _
        rw [b, Bool.true_and, beq_eq_false_iff_ne.2 (fun x => e x.symm)]
        rfl
    · have b' : s.testBit k = false := by simpa using b
      simp (disch := omega) only [w27_0, w27_1, w27_3, w27_4, w27_7, w27_8, w27_11, w27_12, w27_15, w27_16, w27_17, w27_18, w27_21, w27_24, w27_25, w27_27, w27_28, w27_31, w27_34, w27_35, w27_38, w27_39, w27_40, w27_41, w27_44, w27_45, w27_46, w27_47, w27_48, w27_51, w27_54, w27_55, w27_58, w27_59, w27_60, w27_63, w27_64, w27_65, w27_66, w27_69, w27_72, w27_73, w27_74, w27_75, w27_79, w27_80, w27_83, w27_84, w27_87, w27_88, w27_91, w27_93, w27_94, w27_95, w27_98, w27_99, w27_100, w27_103, w27_105, w27_108, w27_109, w27_110, w27_113, w27_116, w27_117, Sd_sr, Sd_s_r___1_, Sd_s_r___2_, Sd_s_r___3_, Sd_s_r___4_, Sd_s_r___5_, Sd_s_r___6_, Sd_s_r___7_, Sd_s_r___8_, Sd_s_r___9_, Sd_s_r___10_, Sd_rr_0, Sd_rr_1, Sd_rr_2, Sd_rr_4, Sd_rr_5, Sd_rr_12, Sd_rr_14, Sd_rr_15, Sd_rr_16, Sd_rr_17, aPush_s, aPush_n, vrf_s, vrf_n, true_and, and_true, false_and, and_false, true_imp_iff, false_imp_iff, not_true_eq_false, not_false_eq_true, eq_self, true_or, or_true, and_self, if_true, if_false, n_lit, n_of, n_an, Nat.add_sub_cancel, nI_add, pk_mul, n_sub, n_ixT, n_cl, n_leT, n_leF, n_ltT, n_ltF, n_eqT, n_eqF, Nat.reduceAdd, Nat.reduceMul, Nat.reduceSub, Nat.reduceEqDiff, Nat.reduceLT, Nat.reduceLeDiff, Nat.mul_one, Nat.one_mul, Nat.add_zero, Nat.zero_add, n3, n6, n7, n8, n9, n10, n11, n13, c14 hsJ hk hl, c129, b', b2n_f, hp0, hr7]
      refine ih _ _ (hJ.trans Sc.w9) ?_ hQ
      intro q hq
      have e3 : cw g s l q (k + 1) = cw g s l q k := by
        show cw g s l q k + (if _ then _ else _) = _
        rw [b', Bool.false_and]
        rfl
      rw [e3]
      by_cases e : q = sPl g k l
      · rw [e]; exact aW_e
      · exact (aW_i e).trans (h0 q hq)
theorem l27c {l s : Nat} (hs : Cs S I R r g) : ∀ (j k : Nat), k + j = 15 → (∀ q, q < 16 → I (r + 9) q = nI (sWt g (sCls g s l q))) → RB (d + 1) 27 77 [.ref r, .int (nI l), .int (nI s), .int (nI (sGr g s l k)), .int (nI (k + 1))] [] (S, I, R, z) Q = Q (some (.int (nI (sGr g s l 15)))) (S, I, R, z)
  | 0, k, h, h0 => by
    obtain rfl : k = 15 := by omega
    obtain ⟨hr, ⟨Sd_sr, Sd_s_r___1_, Sd_s_r___2_, Sd_s_r___3_, Sd_s_r___4_, Sd_s_r___5_, Sd_s_r___6_, Sd_s_r___7_, Sd_s_r___8_, Sd_s_r___9_, Sd_s_r___10_, Sd_rr_0, Sd_rr_1, Sd_rr_2, Sd_rr_4, Sd_rr_5, Sd_rr_12, Sd_rr_14, Sd_rr_15, Sd_rr_16, Sd_rr_17⟩, ok, ⟨n3, n6, n7, n8, n9, n10, n11, n13⟩, ⟨a1, a2, a3, a4, a5, a7⟩, ct⟩ := id hs
    rw [w27_77]
    simp (disch := omega) only [w27_0, w27_1, w27_3, w27_4, w27_7, w27_8, w27_11, w27_12, w27_15, w27_16, w27_17, w27_18, w27_21, w27_24, w27_25, w27_27, w27_28, w27_31, w27_34, w27_35, w27_38, w27_39, w27_40, w27_41, w27_44, w27_45, w27_46, w27_47, w27_48, w27_51, w27_54, w27_55, w27_58, w27_59, w27_60, w27_63, w27_64, w27_65, w27_66, w27_69, w27_72, w27_73, w27_74, w27_75, w27_79, w27_80, w27_83, w27_84, w27_87, w27_88, w27_91, w27_93, w27_94, w27_95, w27_98, w27_99, w27_100, w27_103, w27_105, w27_108, w27_109, w27_110, w27_113, w27_116, w27_117, Sd_sr, Sd_s_r___1_, Sd_s_r___2_, Sd_s_r___3_, Sd_s_r___4_, Sd_s_r___5_, Sd_s_r___6_, Sd_s_r___7_, Sd_s_r___8_, Sd_s_r___9_, Sd_s_r___10_, Sd_rr_0, Sd_rr_1, Sd_rr_2, Sd_rr_4, Sd_rr_5, Sd_rr_12, Sd_rr_14, Sd_rr_15, Sd_rr_16, Sd_rr_17, aPush_s, aPush_n, vrf_s, vrf_n, true_and, and_true, false_and, and_false, true_imp_iff, false_imp_iff, not_true_eq_false, not_false_eq_true, eq_self, true_or, or_true, and_self, if_true, if_false, n_lit, n_of, n_an, Nat.add_sub_cancel, nI_add, pk_mul, n_sub, n_ixT, n_cl, n_leT, n_leF, n_ltT, n_ltF, n_eqT, n_eqF, Nat.reduceAdd, Nat.reduceMul, Nat.reduceSub, Nat.reduceEqDiff, Nat.reduceLT, Nat.reduceLeDiff, Nat.mul_one, Nat.one_mul, Nat.add_zero, Nat.zero_add]
  | j + 1, k, h, h0 => by
    have ih := l27c hs j (k + 1) (by omega) h0
    obtain ⟨hr, ⟨Sd_sr, Sd_s_r___1_, Sd_s_r___2_, Sd_s_r___3_, Sd_s_r___4_, Sd_s_r___5_, Sd_s_r___6_, Sd_s_r___7_, Sd_s_r___8_, Sd_s_r___9_, Sd_s_r___10_, Sd_rr_0, Sd_rr_1, Sd_rr_2, Sd_rr_4, Sd_rr_5, Sd_rr_12, Sd_rr_14, Sd_rr_15, Sd_rr_16, Sd_rr_17⟩, ok, ⟨n3, n6, n7, n8, n9, n10, n11, n13⟩, ⟨a1, a2, a3, a4, a5, a7⟩, ct⟩ := id hs
    have hg := sGr_le g s l k
    have hk : k + 1 < 16 := by omega
    have hk2 : sGr g s l k < 16 := by omega
    have c1 := sWt_le ok (sCls g s l (k + 1))
    have c2 := sWt_le ok (sCls g s l (sGr g s l k))
    have q1 := h0 _ hk
    have q2 := h0 _ hk2
    rw [w27_77]
    by_cases e : sWt g (sCls g s l (sGr g s l k)) < sWt g (sCls g s l (k + 1))
    · simp only [sGr, if_pos e] at ih
      simp (disch := omega) only [w27_0, w27_1, w27_3, w27_4, w27_7, w27_8, w27_11, w27_12, w27_15, w27_16, w27_17, w27_18, w27_21, w27_24, w27_25, w27_27, w27_28, w27_31, w27_34, w27_35, w27_38, w27_39, w27_40, w27_41, w27_44, w27_45, w27_46, w27_47, w27_48, w27_51, w27_54, w27_55, w27_58, w27_59, w27_60, w27_63, w27_64, w27_65, w27_66, w27_69, w27_72, w27_73, w27_74, w27_75, w27_79, w27_80, w27_83, w27_84, w27_87, w27_88, w27_91, w27_93, w27_94, w27_95, w27_98, w27_99, w27_100, w27_103, w27_105, w27_108, w27_109, w27_110, w27_113, w27_116, w27_117, Sd_sr, Sd_s_r___1_, Sd_s_r___2_, Sd_s_r___3_, Sd_s_r___4_, Sd_s_r___5_, Sd_s_r___6_, Sd_s_r___7_, Sd_s_r___8_, Sd_s_r___9_, Sd_s_r___10_, Sd_rr_0, Sd_rr_1, Sd_rr_2, Sd_rr_4, Sd_rr_5, Sd_rr_12, Sd_rr_14, Sd_rr_15, Sd_rr_16, Sd_rr_17, aPush_s, aPush_n, vrf_s, vrf_n, true_and, and_true, false_and, and_false, true_imp_iff, false_imp_iff, not_true_eq_false, not_false_eq_true, eq_self, true_or, or_true, and_self, if_true, if_false, n_lit, n_of, n_an, Nat.add_sub_cancel, nI_add, pk_mul, n_sub, n_ixT, n_cl, n_leT, n_leF, n_ltT, n_ltF, n_eqT, n_eqF, Nat.reduceAdd, Nat.reduceMul, Nat.reduceSub, Nat.reduceEqDiff, Nat.reduceLT, Nat.reduceLeDiff, Nat.mul_one, Nat.one_mul, Nat.add_zero, Nat.zero_add, q1, q2]
      exact ih
    · simp only [sGr, if_neg e] at ih
      simp (disch := omega) only [w27_0, w27_1, w27_3, w27_4, w27_7, w27_8, w27_11, w27_12, w27_15, w27_16, w27_17, w27_18, w27_21, w27_24, w27_25, w27_27, w27_28, w27_31, w27_34, w27_35, w27_38, w27_39, w27_40, w27_41, w27_44, w27_45, w27_46, w27_47, w27_48, w27_51, w27_54, w27_55, w27_58, w27_59, w27_60, w27_63, w27_64, w27_65, w27_66, w27_69, w27_72, w27_73, w27_74, w27_75, w27_79, w27_80, w27_83, w27_84, w27_87, w27_88, w27_91, w27_93, w27_94, w27_95, w27_98, w27_99, w27_100, w27_103, w27_105, w27_108, w27_109, w27_110, w27_113, w27_116, w27_117, Sd_sr, Sd_s_r___1_, Sd_s_r___2_, Sd_s_r___3_, Sd_s_r___4_, Sd_s_r___5_, Sd_s_r___6_, Sd_s_r___7_, Sd_s_r___8_, Sd_s_r___9_, Sd_s_r___10_, Sd_rr_0, Sd_rr_1, Sd_rr_2, Sd_rr_4, Sd_rr_5, Sd_rr_12, Sd_rr_14, Sd_rr_15, Sd_rr_16, Sd_rr_17, aPush_s, aPush_n, vrf_s, vrf_n, true_and, and_true, false_and, and_false, true_imp_iff, false_imp_iff, not_true_eq_false, not_false_eq_true, eq_self, true_or, or_true, and_self, if_true, if_false, n_lit, n_of, n_an, Nat.add_sub_cancel, nI_add, pk_mul, n_sub, n_ixT, n_cl, n_leT, n_leF, n_ltT, n_ltF, n_eqT, n_eqF, Nat.reduceAdd, Nat.reduceMul, Nat.reduceSub, Nat.reduceEqDiff, Nat.reduceLT, Nat.reduceLeDiff, Nat.mul_one, Nat.one_mul, Nat.add_zero, Nat.zero_add, q1, q2]
      exact ih
theorem c27 {l s : Nat} (hs : Cs S I R r g) (hl : l < 6) (hb : s < 2147483648) (hQ : ∀ J, Sc r I J → (∀ q, q < 16 → J (r + 9) q = nI (sWt g (sCls g s l q))) → Q (some (.int (nI (sGr g s l 15)))) (S, J, R, z)) : RM (d + 2) 27 [.ref r, .int (nI l), .int (nI s)] (S, I, R, z) Q := by
  simp only [e27, w27_0, w27_1, w27_3, w27_4, w27_7, w27_8, w27_11, w27_12, w27_15, w27_16, w27_17, w27_18, w27_21, w27_24, w27_25, w27_27, w27_28, w27_31, w27_34, w27_35, w27_38, w27_39, w27_40, w27_41, w27_44, w27_45, w27_46, w27_47, w27_48, w27_51, w27_54, w27_55, w27_58, w27_59, w27_60, w27_63, w27_64, w27_65, w27_66, w27_69, w27_72, w27_73, w27_74, w27_75, w27_79, w27_80, w27_83, w27_84, w27_87, w27_88, w27_91, w27_93, w27_94, w27_95, w27_98, w27_99, w27_100, w27_103, w27_105, w27_108, w27_109, w27_110, w27_113, w27_116, w27_117, n_lit, n_of, n_an, Nat.add_sub_cancel, nI_add, pk_mul, n_sub, n_ixT, n_cl, n_leT, n_leF, n_ltT, n_ltF, n_eqT, n_eqF, Nat.reduceAdd, Nat.reduceMul, Nat.reduceSub, Nat.reduceEqDiff, Nat.reduceLT, Nat.reduceLeDiff, Nat.mul_one, Nat.one_mul, Nat.add_zero, Nat.zero_add]
  refine l27a hs 16 0 I _ rfl (Sc.refl r I) (fun q hq => absurd hq (Nat.not_lt_zero _)) ?_
  intro J v hJ h0
  refine l27b hs hl hb (g 1) 0 J v (Nat.zero_add _) hJ h0 ?_
  intro J hJ h0
  rw [show nI 0 = nI (sGr g s l 0) from rfl, show nI 1 = nI (0 + 1) from rfl, l27c (hs.sc hJ) 15 0 rfl h0]
  exact hQ J hJ h0
theorem c24 {a l s : Nat} (hs : Cs S I R r g) (ha : a < g 2) (hl : l < 6) (hb : s < 2147483648) (hQ : ∀ J, Sc r I J → Q (some (.int (sScore g a l s))) (S, J, R, z)) : RM (d + 4) 24 [.ref r, .int (nI a), .int (nI l), .int (nI s)] (S, I, R, z) Q := by
  obtain ⟨hr, ⟨Sd_sr, Sd_s_r___1_, Sd_s_r___2_, Sd_s_r___3_, Sd_s_r___4_, Sd_s_r___5_, Sd_s_r___6_, Sd_s_r___7_, Sd_s_r___8_, Sd_s_r___9_, Sd_s_r___10_, Sd_rr_0, Sd_rr_1, Sd_rr_2, Sd_rr_4, Sd_rr_5, Sd_rr_12, Sd_rr_14, Sd_rr_15, Sd_rr_16, Sd_rr_17⟩, ok, ⟨n3, n6, n7, n8, n9, n10, n11, n13⟩, ⟨a1, a2, a3, a4, a5, a7⟩, ct⟩ := id hs
  have h2 := ok.2.1
  have hh := sHav_lt ok s l
  have hh2 : sHav g s l < 2147483648 := by omega
  have hg := sGr_le g s l 15
  have hg2 : sGr g s l 15 < 16 := by omega
  have hw := sWt_le ok (sCls g s l (sGr g s l 15))
  have hkd := (ok.2.2.2.2.2.2.2.1 a ha).1
  have hq := hQ I (Sc.refl r I)
  unfold sScore at hQ hq
  have hk : g (32 + 2 * a) = 0 ∨ g (32 + 2 * a) = 1 ∨ g (32 + 2 * a) = 2 ∨ g (32 + 2 * a) = 3 ∨ g (32 + 2 * a) = 4 ∨ g (32 + 2 * a) = 5 := by omega
  rcases hk with e | e | e | e | e | e <;> rw [e] at hQ hq <;> simp (decide := true) only [if_true, if_false] at hQ hq <;> simp (disch := omega) only [e24, w24_0, w24_1, w24_4, w24_5, w24_6, w24_40, w24_41, w24_42, w24_43, w24_46, w24_47, w24_48, w24_49, w24_50, w24_53, w24_56, w24_57, w24_58, w24_59, w24_62, w24_65, w24_66, w24_67, w24_68, w24_69, w24_70, w24_71, w24_72, w24_75, w24_78, w24_79, w24_82, w24_83, w24_86, w24_87, w24_88, w24_89, w24_92, w24_93, w24_94, w24_95, w24_98, w24_99, w24_100, w24_101, w24_102, w24_105, w24_106, w24_107, w24_108, w24_109, w24_110, w24_111, w24_114, aTsR, Sd_sr, Sd_s_r___1_, Sd_s_r___2_, Sd_s_r___3_, Sd_s_r___4_, Sd_s_r___5_, Sd_s_r___6_, Sd_s_r___7_, Sd_s_r___8_, Sd_s_r___9_, Sd_s_r___10_, Sd_rr_0, Sd_rr_1, Sd_rr_2, Sd_rr_4, Sd_rr_5, Sd_rr_12, Sd_rr_14, Sd_rr_15, Sd_rr_16, Sd_rr_17, aPush_s, aPush_n, vrf_s, vrf_n, true_and, and_true, false_and, and_false, true_imp_iff, false_imp_iff, not_true_eq_false, not_false_eq_true, eq_self, true_or, or_true, and_self, if_true, if_false, n_lit, n_of, n_an, Nat.add_sub_cancel, nI_add, pk_mul, n_sub, n_ixT, n_cl, n_leT, n_leF, n_ltT, n_ltF, n_eqT, n_eqF, Nat.reduceAdd, Nat.reduceMul, Nat.reduceSub, Nat.reduceEqDiff, Nat.reduceLT, Nat.reduceLeDiff, Nat.mul_one, Nat.one_mul, Nat.add_zero, Nat.zero_add, n3, n6, n7, n8, n9, n10, n11, n13, a4 a ha, e, c26 hs ha hl, c18 hs hb hl, c17 hs hh2, c250 hh]
  · exact c25 hs ha hl hb (fun J hJ => by simp (disch := omega) only [w24_0, w24_1, w24_4, w24_5, w24_6, w24_40, w24_41, w24_42, w24_43, w24_46, w24_47, w24_48, w24_49, w24_50, w24_53, w24_56, w24_57, w24_58, w24_59, w24_62, w24_65, w24_66, w24_67, w24_68, w24_69, w24_70, w24_71, w24_72, w24_75, w24_78, w24_79, w24_82, w24_83, w24_86, w24_87, w24_88, w24_89, w24_92, w24_93, w24_94, w24_95, w24_98, w24_99, w24_100, w24_101, w24_102, w24_105, w24_106, w24_107, w24_108, w24_109, w24_110, w24_111, w24_114, aPush_s, aPush_n, vrf_s, vrf_n, true_and, and_true, false_and, and_false, true_imp_iff, false_imp_iff, not_true_eq_false, not_false_eq_true, eq_self, true_or, or_true, and_self, if_true, if_false]; exact hQ J hJ)
  · exact hq
  · exact hq
  · exact hq
  · refine c27 hs hl hb (fun J hJ h0 => ?_)
    have q0 := h0 _ hg2
    simp (disch := omega) only [w24_0, w24_1, w24_4, w24_5, w24_6, w24_40, w24_41, w24_42, w24_43, w24_46, w24_47, w24_48, w24_49, w24_50, w24_53, w24_56, w24_57, w24_58, w24_59, w24_62, w24_65, w24_66, w24_67, w24_68, w24_69, w24_70, w24_71, w24_72, w24_75, w24_78, w24_79, w24_82, w24_83, w24_86, w24_87, w24_88, w24_89, w24_92, w24_93, w24_94, w24_95, w24_98, w24_99, w24_100, w24_101, w24_102, w24_105, w24_106, w24_107, w24_108, w24_109, w24_110, w24_111, w24_114, Sd_sr, Sd_s_r___1_, Sd_s_r___2_, Sd_s_r___3_, Sd_s_r___4_, Sd_s_r___5_, Sd_s_r___6_, Sd_s_r___7_, Sd_s_r___8_, Sd_s_r___9_, Sd_s_r___10_, Sd_rr_0, Sd_rr_1, Sd_rr_2, Sd_rr_4, Sd_rr_5, Sd_rr_12, Sd_rr_14, Sd_rr_15, Sd_rr_16, Sd_rr_17, aPush_s, aPush_n, vrf_s, vrf_n, true_and, and_true, false_and, and_false, true_imp_iff, false_imp_iff, not_true_eq_false, not_false_eq_true, eq_self, true_or, or_true, and_self, if_true, if_false, n_lit, n_of, n_an, Nat.add_sub_cancel, nI_add, pk_mul, n_sub, n_ixT, n_cl, n_leT, n_leF, n_ltT, n_ltF, n_eqT, n_eqF, Nat.reduceAdd, Nat.reduceMul, Nat.reduceSub, Nat.reduceEqDiff, Nat.reduceLT, Nat.reduceLeDiff, Nat.mul_one, Nat.one_mul, Nat.add_zero, Nat.zero_add, q0]
    exact hQ J hJ
  · exact c25 hs ha hl hb (fun J hJ => by simp (disch := omega) only [w24_0, w24_1, w24_4, w24_5, w24_6, w24_40, w24_41, w24_42, w24_43, w24_46, w24_47, w24_48, w24_49, w24_50, w24_53, w24_56, w24_57, w24_58, w24_59, w24_62, w24_65, w24_66, w24_67, w24_68, w24_69, w24_70, w24_71, w24_72, w24_75, w24_78, w24_79, w24_82, w24_83, w24_86, w24_87, w24_88, w24_89, w24_92, w24_93, w24_94, w24_95, w24_98, w24_99, w24_100, w24_101, w24_102, w24_105, w24_106, w24_107, w24_108, w24_109, w24_110, w24_111, w24_114, aPush_s, aPush_n, vrf_s, vrf_n, true_and, and_true, false_and, and_false, true_imp_iff, false_imp_iff, not_true_eq_false, not_false_eq_true, eq_self, true_or, or_true, and_self, if_true, if_false]; exact hQ J hJ)
end
