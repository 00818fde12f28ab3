/-! texts worked out by the reference; scores -/
/-- all but the two rows that are only written on -/
def Si (I I' : Nat → Nat → Int32) : Prop := ∀ q, q ≠ 92 → q ≠ 93 → I' q = I q
theorem Si.refl (I : Nat → Nat → Int32) : Si I I := fun _ _ _ => rfl
theorem Si.trans {A B C : Nat → Nat → Int32} (h : Si A B) (h2 : Si B C) : Si A C := fun q h3 h4 => (h2 q h3 h4).trans (h q h3 h4)
theorem Si.G {I I' : Nat → Nat → Int32} (h : Si I I') : G I' = G I := by
  funext k
  show uN (I' 82 k) = uN (I 82 k)
  rw [h 82 (by decide) (by decide)]
theorem Si.w92 {I : Nat → Nat → Int32} {j : Nat} {v : Int32} : Si I (aW I 92 j v) := fun _ h _ => aW_o h
theorem Si.w93 {I : Nat → Nat → Int32} {j : Nat} {v : Int32} : Si I (aW I 93 j v) := fun _ _ h => aW_o h
theorem Mr.si {S : Nat → Nat × Nat} {I I' : Nat → Nat → Int32} {R : Nat → Nat → Option Nat} (h : Mr S I R) (hs : Si I I') : Mr S I' R := by
  refine ⟨h.1, fun p hp => ?_, ?_⟩
  · rw [hs 1 (by decide) (by decide)]
    exact h.2.1 p hp
  · rw [hs.G]
    exact h.2.2
section
variable {d : Nat} {S : Nat → Nat × Nat} {I : Nat → Nat → Int32} {R : Nat → Nat → Option Nat} {z : Nat × Nat} {Q : Option Value → HS → Prop}
theorem l221 {t n : Nat} (hm : Mr S I R) (ht : t < G I 7) (hn : n = sLen (G I) t) : ∀ (j k : Nat) (J : Nat → Nat → Int32) (v : Value), k + j = n → (∀ q, q ≠ 92 → J q = I q) → Stk (J 92) (sRun (sCode (G I) t) (I 93) k) → (∀ J', (∀ q, q ≠ 92 → J' q = I q) → Q (some (.int (sVal (G I) t (I 93)))) (S, J', R, z)) → RB (d + 1) 221 21 [.ref 81, .int (nI t), .int (nI (sD (sCode (G I) t) k)), .int (nI n), .int (nI k), v] [] (S, J, R, z) Q
  | 0, k, J, v, h, hJ, hst, hQ => by
    obtain rfl : k = n := by omega
    obtain ⟨⟨Md_s1, Md_s81, Md_s82, Md_s83, Md_s84, Md_s85, Md_s86, Md_s87, Md_s88, Md_s89, Md_s90, Md_s91, Md_s92, Md_s93, Md_s94, Md_s95, Md_s96, Md_s97, Md_s98, Md_s99, Md_s100, Md_s101, Md_s102, Md_r81_0, Md_r81_1, Md_r81_2, Md_r81_4, Md_r81_5, Md_r81_13, Md_r81_14, Md_r81_15, Md_r81_18, Md_r81_20, Md_r81_21, Md_r81_22, Md_r81_23, Md_r81_24, Md_r81_25, Md_r81_26, Md_r81_27, Md_r81_28, Md_r81_29, Md_r81_30, Md_r81_31⟩, hc, ok⟩ := id hm
    have ho := (ok.2.2.2.2.2.2.2.2 t ht).2
    rw [← hn] at ho
    have hl := sRun_len (f := I 93) ho k (Nat.le_refl _)
    have hq := hQ J hJ
    have hn96 := ho.1
    rw [w221_21]
    simp (disch := omega) only [w221_0, w221_1, w221_2, w221_3, w221_6, w221_8, w221_9, w221_10, w221_11, w221_12, w221_13, w221_16, w221_17, w221_18, w221_19, w221_23, w221_24, w221_27, w221_28, w221_31, w221_33, w221_35, w221_36, w221_37, w221_38, w221_40, w221_41, w221_42, w221_44, w221_46, w221_49, w221_50, w221_53, w221_54, w221_56, w221_59, w221_62, w221_64, w221_67, w221_68, w221_71, w221_73, w221_76, w221_77, w221_78, w221_79, w221_82, w221_85, w221_87, w221_89, w221_92, w221_93, w221_96, w221_97, w221_98, w221_99, w221_100, w221_103, w221_104, w221_105, w221_106, w221_107, w221_110, w221_111, w221_114, w221_115, w221_116, w221_119, w221_122, w221_123, w221_126, w221_127, w221_128, w221_129, w221_131, w221_132, w221_135, w221_136, w221_137, w221_138, w221_139, w221_140, w221_143, w221_144, w221_145, w221_148, w221_149, w221_152, w221_155, w221_156, w221_159, w221_160, w221_161, Md_s1, Md_s81, Md_s82, Md_s83, Md_s84, Md_s85, Md_s86, Md_s87, Md_s88, Md_s89, Md_s90, Md_s91, Md_s92, Md_s93, Md_s94, Md_s95, Md_s96, Md_s97, Md_s98, Md_s99, Md_s100, Md_s101, Md_s102, Md_r81_0, Md_r81_1, Md_r81_2, Md_r81_4, Md_r81_5, Md_r81_13, Md_r81_14, Md_r81_15, Md_r81_18, Md_r81_20, Md_r81_21, Md_r81_22, Md_r81_23, Md_r81_24, Md_r81_25, Md_r81_26, Md_r81_27, Md_r81_28, Md_r81_29, Md_r81_30, Md_r81_31, aPush_s, aPush_n, vrf_s, vrf_n, true_and, and_true, false_and, and_false, true_imp_iff, false_imp_iff, not_true_eq_false, not_false_eq_true, eq_self, true_or, or_true, and_self, if_true, if_false, n_lit, n_of, n_an, Nat.add_sub_cancel, nI_add, pk_mul, n_sub, n_ixT, n_cl, n_leT, n_leF, n_ltT, n_ltF, n_eqT, n_eqF, Nat.reduceAdd, Nat.reduceMul, Nat.reduceSub, Nat.reduceEqDiff, Nat.reduceLT, Nat.reduceLeDiff, Nat.mul_one, Nat.one_mul, Nat.add_zero, Nat.zero_add]
    rcases e : sRun (sCode (G I) t) (I 93) k with _ | ⟨x, _ | ⟨y, r⟩⟩
    · rw [e, ho.2.1] at hl
      cases hl
    · rw [e] at hst
      rw [show J 92 0 = x from hst.1]
      rw [sVal, ← hn, e] at hq
      exact hq
    · rw [e, ho.2.1] at hl
      simp only [List.length_cons] at hl
      omega
  | j + 1, k, J, v, h, hJ, hst, hQ => by
    have ih := fun J' v' => l221 hm ht hn j (k + 1) J' v' (by omega)
    obtain ⟨⟨Md_s1, Md_s81, Md_s82, Md_s83, Md_s84, Md_s85, Md_s86, Md_s87, Md_s88, Md_s89, Md_s90, Md_s91, Md_s92, Md_s93, Md_s94, Md_s95, Md_s96, Md_s97, Md_s98, Md_s99, Md_s100, Md_s101, Md_s102, Md_r81_0, Md_r81_1, Md_r81_2, Md_r81_4, Md_r81_5, Md_r81_13, Md_r81_14, Md_r81_15, Md_r81_18, Md_r81_20, Md_r81_21, Md_r81_22, Md_r81_23, Md_r81_24, Md_r81_25, Md_r81_26, Md_r81_27, Md_r81_28, Md_r81_29, Md_r81_30, Md_r81_31⟩, hc, ok⟩ := id hm
    have h7 := ok.2.2.2.2.2.1
    have ho := (ok.2.2.2.2.2.2.2.2 t ht).2
    rw [← hn] at ho
    have hn96 := ho.1
    have hk : k < n := by omega
    have hl := sRun_len (f := I 93) ho k (by omega)
    have hok := ho.2.2 k hk
    have hJ82 := hJ 82 (by decide)
    have hJ93 := hJ 93 (by decide)
    have hec : I 82 (76 + 96 * t + k) = sCode (G I) t k := (nI_uN _).symm
    have hd : sD (sCode (G I) t) k ≤ k := by
      clear ih
      generalize sCode (G I) t = c
      clear hQ hst hok hec ho hl h hk
      induction k with
      | zero => exact Nat.le_refl _
      | succ k ih2 =>
        unfold sD
        split
        · omega
        · split <;> omega
    have hlt : sD (sCode (G I) t) k < 96 := by omega
    rw [w221_21]
    by_cases e1 : 0 ≤ sCode (G I) t k
    · have e1' : ¬ sCode (G I) t k < nI 0 := Int32.not_lt.2 e1
      have es : sD (sCode (G I) t) (k + 1) = sD (sCode (G I) t) k + 1 := if_pos e1
      rw [es] at ih
      rw [if_pos e1] at hok
      by_cases e2 : sCode (G I) t k < 10000
      · have e2' : ¬ nI 10000 ≤ sCode (G I) t k := Int32.not_le.2 e2
        have er : sRun (sCode (G I) t) (I 93) (k + 1) = sCode (G I) t k :: sRun (sCode (G I) t) (I 93) k := by
          show sStep _ _ _ = _
          unfold sStep
          rw [if_pos e1, if_pos e2]
        simp (disch := omega) only [w221_0, w221_1, w221_2, w221_3, w221_6, w221_8, w221_9, w221_10, w221_11, w221_12, w221_13, w221_16, w221_17, w221_18, w221_19, w221_23, w221_24, w221_27, w221_28, w221_31, w221_33, w221_35, w221_36, w221_37, w221_38, w221_40, w221_41, w221_42, w221_44, w221_46, w221_49, w221_50, w221_53, w221_54, w221_56, w221_59, w221_62, w221_64, w221_67, w221_68, w221_71, w221_73, w221_76, w221_77, w221_78, w221_79, w221_82, w221_85, w221_87, w221_89, w221_92, w221_93, w221_96, w221_97, w221_98, w221_99, w221_100, w221_103, w221_104, w221_105, w221_106, w221_107, w221_110, w221_111, w221_114, w221_115, w221_116, w221_119, w221_122, w221_123, w221_126, w221_127, w221_128, w221_129, w221_131, w221_132, w221_135, w221_136, w221_137, w221_138, w221_139, w221_140, w221_143, w221_144, w221_145, w221_148, w221_149, w221_152, w221_155, w221_156, w221_159, w221_160, w221_161, Md_s1, Md_s81, Md_s82, Md_s83, Md_s84, Md_s85, Md_s86, Md_s87, Md_s88, Md_s89, Md_s90, Md_s91, Md_s92, Md_s93, Md_s94, Md_s95, Md_s96, Md_s97, Md_s98, Md_s99, Md_s100, Md_s101, Md_s102, Md_r81_0, Md_r81_1, Md_r81_2, Md_r81_4, Md_r81_5, Md_r81_13, Md_r81_14, Md_r81_15, Md_r81_18, Md_r81_20, Md_r81_21, Md_r81_22, Md_r81_23, Md_r81_24, Md_r81_25, Md_r81_26, Md_r81_27, Md_r81_28, Md_r81_29, Md_r81_30, Md_r81_31, aPush_s, aPush_n, vrf_s, vrf_n, true_and, and_true, false_and, and_false, true_imp_iff, false_imp_iff, not_true_eq_false, not_false_eq_true, eq_self, true_or, or_true, and_self, if_true, if_false, n_lit, n_of, n_an, Nat.add_sub_cancel, nI_add, pk_mul, n_sub, n_ixT, n_cl, n_leT, n_leF, n_ltT, n_ltF, n_eqT, n_eqF, Nat.reduceAdd, Nat.reduceMul, Nat.reduceSub, Nat.reduceEqDiff, Nat.reduceLT, Nat.reduceLeDiff, Nat.mul_one, Nat.one_mul, Nat.add_zero, Nat.zero_add, hJ82, hec, e1', e2']
        refine ih _ _ (fun q hq => (aW_o hq).trans (hJ q hq)) ?_ hQ
        rw [er]
        exact Stk_w hl hst
      · have e2' : nI 10000 ≤ sCode (G I) t k := Int32.not_lt.1 e2
        obtain ⟨m, hm1, hm2⟩ := nI_of (Int32.not_lt.2 e1)
        rw [hm2, n_lt hm1 (by unfold sNm; split <;> omega)] at hok
        have hm3 : m < 10003 := by
          revert hok
          unfold sNm
          split <;> omega
        have hm4 : 10000 ≤ m := by
          rw [hm2, n_le (by omega) (by omega)] at e2'
          exact e2'
        have er : sRun (sCode (G I) t) (I 93) (k + 1) = I 93 (m - 10000) :: sRun (sCode (G I) t) (I 93) k := by
          show sStep _ _ _ = _
          unfold sStep
          rw [if_pos e1, if_neg e2, hm2, n_lit, n_sub hm4, n_cl (by omega)]
        rw [hm2] at e1' e2'
        simp (disch := omega) only [w221_0, w221_1, w221_2, w221_3, w221_6, w221_8, w221_9, w221_10, w221_11, w221_12, w221_13, w221_16, w221_17, w221_18, w221_19, w221_23, w221_24, w221_27, w221_28, w221_31, w221_33, w221_35, w221_36, w221_37, w221_38, w221_40, w221_41, w221_42, w221_44, w221_46, w221_49, w221_50, w221_53, w221_54, w221_56, w221_59, w221_62, w221_64, w221_67, w221_68, w221_71, w221_73, w221_76, w221_77, w221_78, w221_79, w221_82, w221_85, w221_87, w221_89, w221_92, w221_93, w221_96, w221_97, w221_98, w221_99, w221_100, w221_103, w221_104, w221_105, w221_106, w221_107, w221_110, w221_111, w221_114, w221_115, w221_116, w221_119, w221_122, w221_123, w221_126, w221_127, w221_128, w221_129, w221_131, w221_132, w221_135, w221_136, w221_137, w221_138, w221_139, w221_140, w221_143, w221_144, w221_145, w221_148, w221_149, w221_152, w221_155, w221_156, w221_159, w221_160, w221_161, Md_s1, Md_s81, Md_s82, Md_s83, Md_s84, Md_s85, Md_s86, Md_s87, Md_s88, Md_s89, Md_s90, Md_s91, Md_s92, Md_s93, Md_s94, Md_s95, Md_s96, Md_s97, Md_s98, Md_s99, Md_s100, Md_s101, Md_s102, Md_r81_0, Md_r81_1, Md_r81_2, Md_r81_4, Md_r81_5, Md_r81_13, Md_r81_14, Md_r81_15, Md_r81_18, Md_r81_20, Md_r81_21, Md_r81_22, Md_r81_23, Md_r81_24, Md_r81_25, Md_r81_26, Md_r81_27, Md_r81_28, Md_r81_29, Md_r81_30, Md_r81_31, aPush_s, aPush_n, vrf_s, vrf_n, true_and, and_true, false_and, and_false, true_imp_iff, false_imp_iff, not_true_eq_false, not_false_eq_true, eq_self, true_or, or_true, and_self, if_true, if_false, n_lit, n_of, n_an, Nat.add_sub_cancel, nI_add, pk_mul, n_sub, n_ixT, n_cl, n_leT, n_leF, n_ltT, n_ltF, n_eqT, n_eqF, Nat.reduceAdd, Nat.reduceMul, Nat.reduceSub, Nat.reduceEqDiff, Nat.reduceLT, Nat.reduceLeDiff, Nat.mul_one, Nat.one_mul, Nat.add_zero, Nat.zero_add, hJ82, hec, hm2, e1', e2', hJ93]
        refine ih _ _ (fun q hq => (aW_o hq).trans (hJ q hq)) ?_ hQ
        rw [er]
        exact Stk_w hl hst
    · have e1' : sCode (G I) t k < nI 0 := Int32.not_le.1 e1
      rw [if_neg e1] at hok
      by_cases e2 : sCode (G I) t k = -10
      · rw [if_pos e2] at hok
        have es : sD (sCode (G I) t) (k + 1) = sD (sCode (G I) t) k := by
          show (if _ then _ else _) = _
          rw [if_neg e1, if_pos e2]
        rw [es] at ih
        have e3 : sCode (G I) t k = -nI 10 := e2
        rw [e3] at e1'
        rcases e : sRun (sCode (G I) t) (I 93) k with _ | ⟨y, r⟩
        · rw [e] at hl
          simp only [List.length_nil] at hl
          omega
        · have er : sRun (sCode (G I) t) (I 93) (k + 1) = (if y = 0 then 1 else 0) :: r := by
            show sStep _ _ _ = _
            unfold sStep
            rw [if_neg e1, if_pos e2, e]
          rw [e] at hst hl
          have hl2 : r.length = sD (sCode (G I) t) k - 1 := by
            rw [← hl, List.length_cons]
            omega
          have hy : J 92 (sD (sCode (G I) t) k - 1) = y := by
            rw [← hl2]
            exact hst.1
          by_cases y0 : y = nI 0
          · simp (disch := omega) only [w221_0, w221_1, w221_2, w221_3, w221_6, w221_8, w221_9, w221_10, w221_11, w221_12, w221_13, w221_16, w221_17, w221_18, w221_19, w221_23, w221_24, w221_27, w221_28, w221_31, w221_33, w221_35, w221_36, w221_37, w221_38, w221_40, w221_41, w221_42, w221_44, w221_46, w221_49, w221_50, w221_53, w221_54, w221_56, w221_59, w221_62, w221_64, w221_67, w221_68, w221_71, w221_73, w221_76, w221_77, w221_78, w221_79, w221_82, w221_85, w221_87, w221_89, w221_92, w221_93, w221_96, w221_97, w221_98, w221_99, w221_100, w221_103, w221_104, w221_105, w221_106, w221_107, w221_110, w221_111, w221_114, w221_115, w221_116, w221_119, w221_122, w221_123, w221_126, w221_127, w221_128, w221_129, w221_131, w221_132, w221_135, w221_136, w221_137, w221_138, w221_139, w221_140, w221_143, w221_144, w221_145, w221_148, w221_149, w221_152, w221_155, w221_156, w221_159, w221_160, w221_161, Md_s1, Md_s81, Md_s82, Md_s83, Md_s84, Md_s85, Md_s86, Md_s87, Md_s88, Md_s89, Md_s90, Md_s91, Md_s92, Md_s93, Md_s94, Md_s95, Md_s96, Md_s97, Md_s98, Md_s99, Md_s100, Md_s101, Md_s102, Md_r81_0, Md_r81_1, Md_r81_2, Md_r81_4, Md_r81_5, Md_r81_13, Md_r81_14, Md_r81_15, Md_r81_18, Md_r81_20, Md_r81_21, Md_r81_22, Md_r81_23, Md_r81_24, Md_r81_25, Md_r81_26, Md_r81_27, Md_r81_28, Md_r81_29, Md_r81_30, Md_r81_31, aPush_s, aPush_n, vrf_s, vrf_n, true_and, and_true, false_and, and_false, true_imp_iff, false_imp_iff, not_true_eq_false, not_false_eq_true, eq_self, true_or, or_true, and_self, if_true, if_false, n_lit, n_of, n_an, Nat.add_sub_cancel, nI_add, pk_mul, n_sub, n_ixT, n_cl, n_leT, n_leF, n_ltT, n_ltF, n_eqT, n_eqF, Nat.reduceAdd, Nat.reduceMul, Nat.reduceSub, Nat.reduceEqDiff, Nat.reduceLT, Nat.reduceLeDiff, Nat.mul_one, Nat.one_mul, Nat.add_zero, Nat.zero_add, hJ82, hec, e3, e1', hy, y0]
            refine ih _ _ (fun q hq => (aW_o hq).trans (hJ q hq)) ?_ hQ
            rw [er, y0]
            exact Stk_w hl2 hst.2
          · simp (disch := omega) only [w221_0, w221_1, w221_2, w221_3, w221_6, w221_8, w221_9, w221_10, w221_11, w221_12, w221_13, w221_16, w221_17, w221_18, w221_19, w221_23, w221_24, w221_27, w221_28, w221_31, w221_33, w221_35, w221_36, w221_37, w221_38, w221_40, w221_41, w221_42, w221_44, w221_46, w221_49, w221_50, w221_53, w221_54, w221_56, w221_59, w221_62, w221_64, w221_67, w221_68, w221_71, w221_73, w221_76, w221_77, w221_78, w221_79, w221_82, w221_85, w221_87, w221_89, w221_92, w221_93, w221_96, w221_97, w221_98, w221_99, w221_100, w221_103, w221_104, w221_105, w221_106, w221_107, w221_110, w221_111, w221_114, w221_115, w221_116, w221_119, w221_122, w221_123, w221_126, w221_127, w221_128, w221_129, w221_131, w221_132, w221_135, w221_136, w221_137, w221_138, w221_139, w221_140, w221_143, w221_144, w221_145, w221_148, w221_149, w221_152, w221_155, w221_156, w221_159, w221_160, w221_161, Md_s1, Md_s81, Md_s82, Md_s83, Md_s84, Md_s85, Md_s86, Md_s87, Md_s88, Md_s89, Md_s90, Md_s91, Md_s92, Md_s93, Md_s94, Md_s95, Md_s96, Md_s97, Md_s98, Md_s99, Md_s100, Md_s101, Md_s102, Md_r81_0, Md_r81_1, Md_r81_2, Md_r81_4, Md_r81_5, Md_r81_13, Md_r81_14, Md_r81_15, Md_r81_18, Md_r81_20, Md_r81_21, Md_r81_22, Md_r81_23, Md_r81_24, Md_r81_25, Md_r81_26, Md_r81_27, Md_r81_28, Md_r81_29, Md_r81_30, Md_r81_31, aPush_s, aPush_n, vrf_s, vrf_n, true_and, and_true, false_and, and_false, true_imp_iff, false_imp_iff, not_true_eq_false, not_false_eq_true, eq_self, true_or, or_true, and_self, if_true, if_false, n_lit, n_of, n_an, Nat.add_sub_cancel, nI_add, pk_mul, n_sub, n_ixT, n_cl, n_leT, n_leF, n_ltT, n_ltF, n_eqT, n_eqF, Nat.reduceAdd, Nat.reduceMul, Nat.reduceSub, Nat.reduceEqDiff, Nat.reduceLT, Nat.reduceLeDiff, Nat.mul_one, Nat.one_mul, Nat.add_zero, Nat.zero_add, hJ82, hec, e3, e1', hy, y0]
            refine ih _ _ (fun q hq => (aW_o hq).trans (hJ q hq)) ?_ hQ
            rw [er, if_neg (show ¬ y = 0 from y0)]
            exact Stk_w hl2 hst.2
      · rw [if_neg e2] at hok
        have hok := hok.1
        have es : sD (sCode (G I) t) (k + 1) = sD (sCode (G I) t) k - 1 := by
          show (if _ then _ else _) = _
          rw [if_neg e1, if_neg e2]
        rw [es] at ih
        have e3 : ¬ sCode (G I) t k = -nI 10 := e2
        rcases e : sRun (sCode (G I) t) (I 93) k with _ | ⟨y, _ | ⟨x, r⟩⟩
        · rw [e] at hl
          simp only [List.length_nil] at hl
          omega
        · rw [e] at hl
          simp only [List.length_cons, List.length_nil] at hl
          omega
        · have er : sRun (sCode (G I) t) (I 93) (k + 1) = sTwo (sCode (G I) t k) x y :: r := by
            show sStep _ _ _ = _
            unfold sStep
            rw [if_neg e1, if_neg e2, e]
          rw [e] at hst hl
          have hl2 : r.length = sD (sCode (G I) t) k - 1 - 1 := by
            rw [← hl, List.length_cons, List.length_cons]
            omega
          have hy : J 92 (sD (sCode (G I) t) k - 1) = y := by
            rw [show sD (sCode (G I) t) k - 1 = r.length + 1 by omega]
            exact hst.1
          have hx : J 92 (sD (sCode (G I) t) k - 1 - 1) = x := by
            rw [← hl2]
            exact hst.2.1
          simp (disch := omega) only [w221_0, w221_1, w221_2, w221_3, w221_6, w221_8, w221_9, w221_10, w221_11, w221_12, w221_13, w221_16, w221_17, w221_18, w221_19, w221_23, w221_24, w221_27, w221_28, w221_31, w221_33, w221_35, w221_36, w221_37, w221_38, w221_40, w221_41, w221_42, w221_44, w221_46, w221_49, w221_50, w221_53, w221_54, w221_56, w221_59, w221_62, w221_64, w221_67, w221_68, w221_71, w221_73, w221_76, w221_77, w221_78, w221_79, w221_82, w221_85, w221_87, w221_89, w221_92, w221_93, w221_96, w221_97, w221_98, w221_99, w221_100, w221_103, w221_104, w221_105, w221_106, w221_107, w221_110, w221_111, w221_114, w221_115, w221_116, w221_119, w221_122, w221_123, w221_126, w221_127, w221_128, w221_129, w221_131, w221_132, w221_135, w221_136, w221_137, w221_138, w221_139, w221_140, w221_143, w221_144, w221_145, w221_148, w221_149, w221_152, w221_155, w221_156, w221_159, w221_160, w221_161, Md_s1, Md_s81, Md_s82, Md_s83, Md_s84, Md_s85, Md_s86, Md_s87, Md_s88, Md_s89, Md_s90, Md_s91, Md_s92, Md_s93, Md_s94, Md_s95, Md_s96, Md_s97, Md_s98, Md_s99, Md_s100, Md_s101, Md_s102, Md_r81_0, Md_r81_1, Md_r81_2, Md_r81_4, Md_r81_5, Md_r81_13, Md_r81_14, Md_r81_15, Md_r81_18, Md_r81_20, Md_r81_21, Md_r81_22, Md_r81_23, Md_r81_24, Md_r81_25, Md_r81_26, Md_r81_27, Md_r81_28, Md_r81_29, Md_r81_30, Md_r81_31, aPush_s, aPush_n, vrf_s, vrf_n, true_and, and_true, false_and, and_false, true_imp_iff, false_imp_iff, not_true_eq_false, not_false_eq_true, eq_self, true_or, or_true, and_self, if_true, if_false, n_lit, n_of, n_an, Nat.add_sub_cancel, nI_add, pk_mul, n_sub, n_ixT, n_cl, n_leT, n_leF, n_ltT, n_ltF, n_eqT, n_eqF, Nat.reduceAdd, Nat.reduceMul, Nat.reduceSub, Nat.reduceEqDiff, Nat.reduceLT, Nat.reduceLeDiff, Nat.mul_one, Nat.one_mul, Nat.add_zero, Nat.zero_add, hJ82, hec, e3, e1', hy, hx, c220]
          refine ih _ _ (fun q hq => (aW_o hq).trans (hJ q hq)) ?_ hQ
          rw [er]
          exact Stk_w hl2 hst.2.2
theorem c221 {t : Nat} (hm : Mr S I R) (ht : t < G I 7) (hQ : ∀ J, (∀ q, q ≠ 92 → J q = I q) → Q (some (.int (sVal (G I) t (I 93)))) (S, J, R, z)) : RM (d + 2) 221 [.ref 81, .int (nI t)] (S, I, R, z) Q := by
  obtain ⟨⟨Md_s1, Md_s81, Md_s82, Md_s83, Md_s84, Md_s85, Md_s86, Md_s87, Md_s88, Md_s89, Md_s90, Md_s91, Md_s92, Md_s93, Md_s94, Md_s95, Md_s96, Md_s97, Md_s98, Md_s99, Md_s100, Md_s101, Md_s102, Md_r81_0, Md_r81_1, Md_r81_2, Md_r81_4, Md_r81_5, Md_r81_13, Md_r81_14, Md_r81_15, Md_r81_18, Md_r81_20, Md_r81_21, Md_r81_22, Md_r81_23, Md_r81_24, Md_r81_25, Md_r81_26, Md_r81_27, Md_r81_28, Md_r81_29, Md_r81_30, Md_r81_31⟩, hc, ok⟩ := id hm
  have h7 := ok.2.2.2.2.2.1
  have h8 := (ok.2.2.2.2.2.2.2.2 t ht).1
  simp (disch := omega) only [e221, w221_0, w221_1, w221_2, w221_3, w221_6, w221_8, w221_9, w221_10, w221_11, w221_12, w221_13, w221_16, w221_17, w221_18, w221_19, w221_23, w221_24, w221_27, w221_28, w221_31, w221_33, w221_35, w221_36, w221_37, w221_38, w221_40, w221_41, w221_42, w221_44, w221_46, w221_49, w221_50, w221_53, w221_54, w221_56, w221_59, w221_62, w221_64, w221_67, w221_68, w221_71, w221_73, w221_76, w221_77, w221_78, w221_79, w221_82, w221_85, w221_87, w221_89, w221_92, w221_93, w221_96, w221_97, w221_98, w221_99, w221_100, w221_103, w221_104, w221_105, w221_106, w221_107, w221_110, w221_111, w221_114, w221_115, w221_116, w221_119, w221_122, w221_123, w221_126, w221_127, w221_128, w221_129, w221_131, w221_132, w221_135, w221_136, w221_137, w221_138, w221_139, w221_140, w221_143, w221_144, w221_145, w221_148, w221_149, w221_152, w221_155, w221_156, w221_159, w221_160, w221_161, Md_s1, Md_s81, Md_s82, Md_s83, Md_s84, Md_s85, Md_s86, Md_s87, Md_s88, Md_s89, Md_s90, Md_s91, Md_s92, Md_s93, Md_s94, Md_s95, Md_s96, Md_s97, Md_s98, Md_s99, Md_s100, Md_s101, Md_s102, Md_r81_0, Md_r81_1, Md_r81_2, Md_r81_4, Md_r81_5, Md_r81_13, Md_r81_14, Md_r81_15, Md_r81_18, Md_r81_20, Md_r81_21, Md_r81_22, Md_r81_23, Md_r81_24, Md_r81_25, Md_r81_26, Md_r81_27, Md_r81_28, Md_r81_29, Md_r81_30, Md_r81_31, aPush_s, aPush_n, vrf_s, vrf_n, true_and, and_true, false_and, and_false, true_imp_iff, false_imp_iff, not_true_eq_false, not_false_eq_true, eq_self, true_or, or_true, and_self, if_true, if_false, n_lit, n_of, n_an, Nat.add_sub_cancel, nI_add, pk_mul, n_sub, n_ixT, n_cl, n_leT, n_leF, n_ltT, n_ltF, n_eqT, n_eqF, Nat.reduceAdd, Nat.reduceMul, Nat.reduceSub, Nat.reduceEqDiff, Nat.reduceLT, Nat.reduceLeDiff, Nat.mul_one, Nat.one_mul, Nat.add_zero, Nat.zero_add, G_eq, n_mod]
  exact l221 hm ht rfl (sLen (G I) t) 0 I _ (Nat.zero_add _) (fun _ _ => rfl) True.intro hQ
end
