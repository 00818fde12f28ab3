/-! TEXT: a piece of the reference -/
section
variable {d n k p q a b o f l r : Nat} {T : Nat → Nat} {t : Tok} {H : List Nat} {C : List Int32} {te : List Bool} {S : Nat → Nat × Nat} {I J K : Nat → Nat → Int32} {R : Nat → Nat → Option Nat} {z : Nat × Nat} {x y : Int32} {Q : Option Value → HS → Prop} {l1 l2 : Value}
theorem En.cong (h : En I t) (e : ∀ j, 7 ≤ j → j ≤ 11 → J 81 j = I 81 j) : En J t := by
  unfold En
  rw [e 7 (by decide) (by decide), e 11 (by decide) (by decide)]
  exact h
theorem TkR.cong (h : TkR T I t) (e : ∀ j, 7 ≤ j → j ≤ 11 → J 81 j = I 81 j) : TkR T J t := by
  obtain ⟨h1, h2, h3, h4, h5⟩ := h
  exact ⟨(e 8 (by decide) (by decide)).trans h1, (e 9 (by decide) (by decide)).trans h2, fun q => (e 10 (by decide) (by decide)).trans (h3 q), fun q r => (e 10 (by decide) (by decide)).trans (h4 q r), fun q => (h5 q).cong e⟩
theorem Rw.f81 (h : Rw I H C) (f : F81 I J) : Rw J H C := ⟨(f.2 19 (by decide)).trans h.1, (f.2 16 (by decide)).trans h.2.1, h.2.2.1.cong (fun j _ => by rw [f.1 90 (by decide)]), h.2.2.2.cong (fun j _ => by rw [f.1 89 (by decide)])⟩
theorem stl_el : ∀ (H : List Nat) (C : List Int32), cEl H → cEl (stl r H C).1
  | [], C, h => h
  | x :: H, C, h => by
    show cEl (if x = 11 ∨ tRk x < r then (x :: H, C) else stl r H (-nI x :: C)).1
    split
    · exact h
    · exact stl_el H _ (fun y hy => h y (List.mem_cons_of_mem _ hy))
theorem c211 (hm : Md S R) (hr : r ≤ 6) (he : cEl H) (hl : H.length + C.length ≤ 96) (hw : Rw I H C) (hQ : ∀ J, Rw J (stl r H C).1 (stl r H C).2 → F89 I J → Q none (S, J, R, z)) : RM (d + 2) 211 [.ref 81, .int (nI r)] (S, I, R, z) Q := by
  simp only [e211]
  exact l211 hm hr H C I he hl hw hQ
theorem c213 (hm : Md S R) (tq : Tq I T n) (hk : k < 3) (ok : mOk n (t, H, C, true, te, a)) (he : cEl H) (rs : RS T k I (t, H, C, true, te, a)) (hN : tPc T k t = none → Q (some (.int (nI 0))) (S, I, R, z)) (hQ : ∀ c J, tPc T k t = some c → RS T k J (tNx T n t, (stl 6 H (nI c :: C)).1, (stl 6 H (nI c :: C)).2, false, te, a + 1) → F4 I J → Q (some (.int (nI 1))) (S, J, R, z)) : RM (d + 4) 213 [.ref 81] (S, I, R, z) Q := by
  obtain ⟨Md_s1, Md_s81, Md_s82, Md_s83, Md_s84, Md_s85, Md_s86, Md_s87, Md_s88, Md_s89, Md_s90, Md_s91, Md_s92, Md_s93, Md_s94, Md_s95, Md_s96, Md_s97, Md_s98, Md_s99, Md_s100, Md_s101, Md_s102, Md_r81_0, Md_r81_1, Md_r81_2, Md_r81_4, Md_r81_5, Md_r81_13, Md_r81_14, Md_r81_15, Md_r81_18, Md_r81_20, Md_r81_21, Md_r81_22, Md_r81_23, Md_r81_24, Md_r81_25, Md_r81_26, Md_r81_27, Md_r81_28, Md_r81_29, Md_r81_30, Md_r81_31⟩ := id hm
  obtain ⟨n96, i6, ib, hb⟩ := id tq
  obtain ⟨hw, tkr, i7, i17, i91, i12⟩ := id rs
  have hw : Rw I H C := hw
  have tkr : TkR T I t := tkr
  have i7 : I 81 7 = nI t.2.1 := i7
  have i17 : I 81 17 = nI a := i17
  have i91 : tStk I 91 (te.map (fun b => nI (b2n b))) := i91
  obtain ⟨w19, w16, w90, w89⟩ := id hw
  obtain ⟨i8, i9, i10, i10', en⟩ := id tkr
  have tk : tOk n t := ok.1
  have o2 : H.length + C.length ≤ t.1 := ok.2.1
  have o6 : a ≤ C.length := ok.2.2.2.2.2
  obtain ⟨k1, k2, k3, k4⟩ := id tk
  have h211 := fun {d : Nat} {I : Nat → Nat → Int32} {C : List Int32} {Q : Option Value → HS → Prop} => c211 (d := d) (r := 6) (I := I) (C := C) (z := z) (Q := Q) hm (by decide) he
  have fin : ∀ c l1, tPc T k t = some c → (t.2.2.1 = 1 ∨ t.2.2.1 = 2) → RB (d + 3) 213 87 [.ref 81, l1] [.int (nI c), .int (nI C.length), .ref 89] (S, I, R, z) Q := by
    intro c l1 ec es
    have hlt := k4 (by omega)
    have en := en (by omega)
    simp (disch := omega) only [w213_87, w213_88, w213_89, w213_90, w213_93, w213_94, w213_95, w213_98, w213_99, w213_100, w213_103, w213_104, w213_105, w213_108, w213_109, w213_111, Md_s1, Md_s81, Md_s82, Md_s83, Md_s84, Md_s85, Md_s86, Md_s87, Md_s88, Md_s89, Md_s90, Md_s91, Md_s92, Md_s93, Md_s94, Md_s95, Md_s96, Md_s97, Md_s98, Md_s99, Md_s100, Md_s101, Md_s102, Md_r81_0, Md_r81_1, Md_r81_2, Md_r81_4, Md_r81_5, Md_r81_13, Md_r81_14, Md_r81_15, Md_r81_18, Md_r81_20, Md_r81_21, Md_r81_22, Md_r81_23, Md_r81_24, Md_r81_25, Md_r81_26, Md_r81_27, Md_r81_28, Md_r81_29, Md_r81_30, Md_r81_31, aPush_s, aPush_n, vrf_s, vrf_n, true_and, and_true, false_and, and_false, true_imp_iff, false_imp_iff, not_true_eq_false, not_false_eq_true, eq_self, true_or, or_true, and_self, if_true, if_false, n_lit, n_of, n_an, Nat.add_sub_cancel, nI_add, pk_mul, n_sub, n_ixT, n_cl, n_leT, n_leF, n_ltT, n_ltF, n_eqT, n_eqF, Nat.reduceAdd, Nat.reduceMul, Nat.reduceSub, Nat.reduceEqDiff, Nat.reduceLT, Nat.reduceLeDiff, Nat.mul_one, Nat.one_mul, Nat.add_zero, Nat.zero_add, le_T, nz0, nz1, w16, i17, aW_o, aW_i, aW_e]
    obtain ⟨K, eK⟩ : ∃ K, K = aW (aW (aW I 89 C.length (nI c)) 81 16 (nI (C.length + 1))) 81 17 (nI (a + 1)) := ⟨_, rfl⟩
    rw [← eK]
    have fK : ∀ q, q ≠ 81 → q ≠ 89 → K q = I q := fun q h1 h2 => by rw [eK, aW_o h1, aW_o h1, aW_o h2]
    have gK : ∀ j, j ≠ 16 → j ≠ 17 → K 81 j = I 81 j := fun j h1 h2 => by rw [eK, aW_i h2, aW_i h1, aW_o (by decide)]
    have rK : Rw K H (nI c :: C) := by
      refine ⟨(gK 19 (by decide) (by decide)).trans w19, ?_, w90.cong (fun j _ => by rw [fK 90 (by decide) (by decide)]), (w89.pu (x := nI c)).cong (fun j _ => ?_)⟩
      · rw [eK, aW_i (by decide), aW_e]
        rfl
      · rw [eK, aW_o (by decide), aW_o (by decide)]
    refine h211 (by rw [List.length_cons]; omega) rK (fun J hJ fJ => ?_)
    simp (disch := omega) only [w213_114, w213_115, Md_s1, Md_s81, Md_s82, Md_s83, Md_s84, Md_s85, Md_s86, Md_s87, Md_s88, Md_s89, Md_s90, Md_s91, Md_s92, Md_s93, Md_s94, Md_s95, Md_s96, Md_s97, Md_s98, Md_s99, Md_s100, Md_s101, Md_s102, Md_r81_0, Md_r81_1, Md_r81_2, Md_r81_4, Md_r81_5, Md_r81_13, Md_r81_14, Md_r81_15, Md_r81_18, Md_r81_20, Md_r81_21, Md_r81_22, Md_r81_23, Md_r81_24, Md_r81_25, Md_r81_26, Md_r81_27, Md_r81_28, Md_r81_29, Md_r81_30, Md_r81_31, aPush_s, aPush_n, vrf_s, vrf_n, true_and, and_true, false_and, and_false, true_imp_iff, false_imp_iff, not_true_eq_false, not_false_eq_true, eq_self, true_or, or_true, and_self, if_true, if_false, n_lit, n_of, n_an, Nat.add_sub_cancel, nI_add, pk_mul, n_sub, n_ixT, n_cl, n_leT, n_leF, n_ltT, n_ltF, n_eqT, n_eqF, Nat.reduceAdd, Nat.reduceMul, Nat.reduceSub, Nat.reduceEqDiff, Nat.reduceLT, Nat.reduceLeDiff, Nat.mul_one, Nat.one_mul, Nat.add_zero, Nat.zero_add, le_T, nz0, nz1]
    have gJ : ∀ j, 7 ≤ j → j ≤ 11 → J 81 j = I 81 j := fun j h1 h2 => (fJ.2 j (by omega) (by omega)).trans (gK j (by omega) (by omega))
    have f4J : F4 I J := ⟨fun q h1 h2 h3 h4 => (fJ.1 q h1 h2).trans (fK q h1 h2), fun j hj => (fJ.2 j (by omega) (by omega)).trans (gK j (by omega) (by omega))⟩
    refine c207 hm (tq.f4 f4J) k2 (en.cong gJ) (fun L tL l7 fL => ?_)
    simp (disch := omega) only [w213_118, w213_119, Md_s1, Md_s81, Md_s82, Md_s83, Md_s84, Md_s85, Md_s86, Md_s87, Md_s88, Md_s89, Md_s90, Md_s91, Md_s92, Md_s93, Md_s94, Md_s95, Md_s96, Md_s97, Md_s98, Md_s99, Md_s100, Md_s101, Md_s102, Md_r81_0, Md_r81_1, Md_r81_2, Md_r81_4, Md_r81_5, Md_r81_13, Md_r81_14, Md_r81_15, Md_r81_18, Md_r81_20, Md_r81_21, Md_r81_22, Md_r81_23, Md_r81_24, Md_r81_25, Md_r81_26, Md_r81_27, Md_r81_28, Md_r81_29, Md_r81_30, Md_r81_31, aPush_s, aPush_n, vrf_s, vrf_n, true_and, and_true, false_and, and_false, true_imp_iff, false_imp_iff, not_true_eq_false, not_false_eq_true, eq_self, true_or, or_true, and_self, if_true, if_false, n_lit, n_of, n_an, Nat.add_sub_cancel, nI_add, pk_mul, n_sub, n_ixT, n_cl, n_leT, n_leF, n_ltT, n_ltF, n_eqT, n_eqF, Nat.reduceAdd, Nat.reduceMul, Nat.reduceSub, Nat.reduceEqDiff, Nat.reduceLT, Nat.reduceLeDiff, Nat.mul_one, Nat.one_mul, Nat.add_zero, Nat.zero_add, le_T, nz0, nz1]
    refine hQ c L ec ⟨hJ.f81 fL, tL, l7, ?_, i91.cong (fun j _ => ?_), ?_⟩ (f4J.tr fL.f4)
    · show L 81 17 = nI (a + 1)
      rw [fL.2 17 (by decide), fJ.2 17 (by decide) (by decide), eK, aW_e]
    · rw [fL.1 91 (by decide), fJ.1 91 (by decide) (by decide), fK 91 (by decide) (by decide)]
    · rw [fL.2 12 (by decide), fJ.2 12 (by decide) (by decide), gK 12 (by decide) (by decide)]
      exact i12
  have t4 := tCd_4 k3
  by_cases e1 : t.2.2.1 = 1
  · have p1 := tPc_1 (T := T) (k := k) e1
    have i10 := i10 (Or.inl e1)
    have hlt := k4 (by omega)
    cases ef : t.2.2.2
    · rw [ef, if_neg (by decide)] at p1
      have c1 : tCd t = 1 := by
        unfold tCd
        rw [if_pos e1, ef, if_neg (by decide)]
      rw [c1] at i9
      by_cases el : t.2.1 - t.1 = 1
      · rw [if_pos el] at p1
        have h209 := fun (d : Nat) (Q : Option Value → HS → Prop) => c209 (d := d) (S := S) (I := I) (R := R) (z := z) (Q := Q) (c := T t.1) hm hk (hb _) i12
        cases en' : tNm k (T t.1) with
        | none =>
          rw [en'] at p1
          simp only [en', oI] at h209
          have hneg : (-nI 1 < nI 0) = True := eq_true (by decide)
          simp (disch := omega) only [e213, w213_0, w213_1, w213_4, w213_5, w213_8, w213_9, w213_12, w213_13, w213_16, w213_17, w213_18, w213_21, w213_22, w213_23, w213_26, w213_29, w213_32, w213_33, w213_36, w213_37, w213_38, w213_39, w213_42, w213_43, w213_46, w213_47, w213_50, w213_51, Md_s1, Md_s81, Md_s82, Md_s83, Md_s84, Md_s85, Md_s86, Md_s87, Md_s88, Md_s89, Md_s90, Md_s91, Md_s92, Md_s93, Md_s94, Md_s95, Md_s96, Md_s97, Md_s98, Md_s99, Md_s100, Md_s101, Md_s102, Md_r81_0, Md_r81_1, Md_r81_2, Md_r81_4, Md_r81_5, Md_r81_13, Md_r81_14, Md_r81_15, Md_r81_18, Md_r81_20, Md_r81_21, Md_r81_22, Md_r81_23, Md_r81_24, Md_r81_25, Md_r81_26, Md_r81_27, Md_r81_28, Md_r81_29, Md_r81_30, Md_r81_31, aPush_s, aPush_n, vrf_s, vrf_n, true_and, and_true, false_and, and_false, true_imp_iff, false_imp_iff, not_true_eq_false, not_false_eq_true, eq_self, true_or, or_true, and_self, if_true, if_false, n_lit, n_of, n_an, Nat.add_sub_cancel, nI_add, pk_mul, n_sub, n_ixT, n_cl, n_leT, n_leF, n_ltT, n_ltF, n_eqT, n_eqF, Nat.reduceAdd, Nat.reduceMul, Nat.reduceSub, Nat.reduceEqDiff, Nat.reduceLT, Nat.reduceLeDiff, Nat.mul_one, Nat.one_mul, Nat.add_zero, Nat.zero_add, le_T, nz0, nz1, i7, i8, i9, i10, h209, hneg]
          exact hN p1
        | some i =>
          rw [en'] at p1
          simp only [en', oI] at h209
          have hi := tNm_lt en'
          have hi3 : i < 3 := by
            unfold sNm at hi
            split at hi <;> omega
          simp (disch := omega) only [e213, w213_0, w213_1, w213_4, w213_5, w213_8, w213_9, w213_12, w213_13, w213_16, w213_17, w213_18, w213_21, w213_22, w213_23, w213_26, w213_29, w213_32, w213_33, w213_36, w213_37, w213_38, w213_39, w213_42, w213_43, w213_46, w213_47, w213_50, w213_51, w213_52, w213_53, w213_56, w213_57, w213_60, w213_61, w213_64, w213_65, w213_68, w213_69, w213_72, w213_75, w213_78, w213_79, w213_80, w213_83, w213_86, Md_s1, Md_s81, Md_s82, Md_s83, Md_s84, Md_s85, Md_s86, Md_s87, Md_s88, Md_s89, Md_s90, Md_s91, Md_s92, Md_s93, Md_s94, Md_s95, Md_s96, Md_s97, Md_s98, Md_s99, Md_s100, Md_s101, Md_s102, Md_r81_0, Md_r81_1, Md_r81_2, Md_r81_4, Md_r81_5, Md_r81_13, Md_r81_14, Md_r81_15, Md_r81_18, Md_r81_20, Md_r81_21, Md_r81_22, Md_r81_23, Md_r81_24, Md_r81_25, Md_r81_26, Md_r81_27, Md_r81_28, Md_r81_29, Md_r81_30, Md_r81_31, aPush_s, aPush_n, vrf_s, vrf_n, true_and, and_true, false_and, and_false, true_imp_iff, false_imp_iff, not_true_eq_false, not_false_eq_true, eq_self, true_or, or_true, and_self, if_true, if_false, n_lit, n_of, n_an, Nat.add_sub_cancel, nI_add, pk_mul, n_sub, n_ixT, n_cl, n_leT, n_leF, n_ltT, n_ltF, n_eqT, n_eqF, Nat.reduceAdd, Nat.reduceMul, Nat.reduceSub, Nat.reduceEqDiff, Nat.reduceLT, Nat.reduceLeDiff, Nat.mul_one, Nat.one_mul, Nat.add_zero, Nat.zero_add, le_T, nz0, nz1, i7, i8, i9, i10, h209, w16]
          exact fin _ _ p1 (Or.inl e1)
      · rw [if_neg el] at p1
        simp (disch := omega) only [e213, w213_0, w213_1, w213_4, w213_5, w213_8, w213_9, w213_12, w213_13, w213_16, w213_17, w213_18, w213_21, w213_22, w213_23, w213_26, w213_29, w213_32, w213_33, w213_36, w213_37, w213_38, w213_39, w213_42, w213_43, w213_46, w213_47, w213_50, w213_51, Md_s1, Md_s81, Md_s82, Md_s83, Md_s84, Md_s85, Md_s86, Md_s87, Md_s88, Md_s89, Md_s90, Md_s91, Md_s92, Md_s93, Md_s94, Md_s95, Md_s96, Md_s97, Md_s98, Md_s99, Md_s100, Md_s101, Md_s102, Md_r81_0, Md_r81_1, Md_r81_2, Md_r81_4, Md_r81_5, Md_r81_13, Md_r81_14, Md_r81_15, Md_r81_18, Md_r81_20, Md_r81_21, Md_r81_22, Md_r81_23, Md_r81_24, Md_r81_25, Md_r81_26, Md_r81_27, Md_r81_28, Md_r81_29, Md_r81_30, Md_r81_31, aPush_s, aPush_n, vrf_s, vrf_n, true_and, and_true, false_and, and_false, true_imp_iff, false_imp_iff, not_true_eq_false, not_false_eq_true, eq_self, true_or, or_true, and_self, if_true, if_false, n_lit, n_of, n_an, Nat.add_sub_cancel, nI_add, pk_mul, n_sub, n_ixT, n_cl, n_leT, n_leF, n_ltT, n_ltF, n_eqT, n_eqF, Nat.reduceAdd, Nat.reduceMul, Nat.reduceSub, Nat.reduceEqDiff, Nat.reduceLT, Nat.reduceLeDiff, Nat.mul_one, Nat.one_mul, Nat.add_zero, Nat.zero_add, le_T, nz0, nz1, i7, i8, i9]
        exact hN p1
    · rw [ef, if_pos rfl] at p1
      have c1 : tCd t = 4 := by
        unfold tCd
        rw [if_pos e1, if_pos ef]
      rw [c1] at i9
      simp (disch := omega) only [e213, w213_0, w213_1, w213_4, w213_5, w213_8, w213_9, w213_12, w213_13, w213_16, w213_17, w213_18, w213_21, w213_22, w213_23, w213_26, w213_29, w213_32, w213_33, w213_36, w213_37, w213_38, w213_39, w213_42, w213_43, w213_46, w213_47, w213_50, w213_51, Md_s1, Md_s81, Md_s82, Md_s83, Md_s84, Md_s85, Md_s86, Md_s87, Md_s88, Md_s89, Md_s90, Md_s91, Md_s92, Md_s93, Md_s94, Md_s95, Md_s96, Md_s97, Md_s98, Md_s99, Md_s100, Md_s101, Md_s102, Md_r81_0, Md_r81_1, Md_r81_2, Md_r81_4, Md_r81_5, Md_r81_13, Md_r81_14, Md_r81_15, Md_r81_18, Md_r81_20, Md_r81_21, Md_r81_22, Md_r81_23, Md_r81_24, Md_r81_25, Md_r81_26, Md_r81_27, Md_r81_28, Md_r81_29, Md_r81_30, Md_r81_31, aPush_s, aPush_n, vrf_s, vrf_n, true_and, and_true, false_and, and_false, true_imp_iff, false_imp_iff, not_true_eq_false, not_false_eq_true, eq_self, true_or, or_true, and_self, if_true, if_false, n_lit, n_of, n_an, Nat.add_sub_cancel, nI_add, pk_mul, n_sub, n_ixT, n_cl, n_leT, n_leF, n_ltT, n_ltF, n_eqT, n_eqF, Nat.reduceAdd, Nat.reduceMul, Nat.reduceSub, Nat.reduceEqDiff, Nat.reduceLT, Nat.reduceLeDiff, Nat.mul_one, Nat.one_mul, Nat.add_zero, Nat.zero_add, le_T, nz0, nz1, i9]
      exact hN p1
  · by_cases e2 : t.2.2.1 = 2
    · have p1 := tPc_2 (T := T) (k := k) e2
      have hlt := k4 (by omega)
      by_cases eb : t.2.2.2 = true ∨ 4 < t.2.1 - t.1
      · have c1 : tCd t = 4 := by
          unfold tCd
          rw [if_neg e1, if_pos e2, if_pos eb]
        rw [c1] at i9
        have p2 : tPc T k t = none := by
          rw [p1]
          rcases eb with eb | eb
          · rw [if_pos eb]
          · rw [if_neg (show ¬ t.2.1 - t.1 ≤ 4 by omega), ite_self]
        simp (disch := omega) only [e213, w213_0, w213_1, w213_4, w213_5, w213_8, w213_9, w213_12, w213_13, w213_16, w213_17, w213_18, w213_21, w213_22, w213_23, w213_26, w213_29, w213_32, w213_33, w213_36, w213_37, w213_38, w213_39, w213_42, w213_43, w213_46, w213_47, w213_50, w213_51, Md_s1, Md_s81, Md_s82, Md_s83, Md_s84, Md_s85, Md_s86, Md_s87, Md_s88, Md_s89, Md_s90, Md_s91, Md_s92, Md_s93, Md_s94, Md_s95, Md_s96, Md_s97, Md_s98, Md_s99, Md_s100, Md_s101, Md_s102, Md_r81_0, Md_r81_1, Md_r81_2, Md_r81_4, Md_r81_5, Md_r81_13, Md_r81_14, Md_r81_15, Md_r81_18, Md_r81_20, Md_r81_21, Md_r81_22, Md_r81_23, Md_r81_24, Md_r81_25, Md_r81_26, Md_r81_27, Md_r81_28, Md_r81_29, Md_r81_30, Md_r81_31, aPush_s, aPush_n, vrf_s, vrf_n, true_and, and_true, false_and, and_false, true_imp_iff, false_imp_iff, not_true_eq_false, not_false_eq_true, eq_self, true_or, or_true, and_self, if_true, if_false, n_lit, n_of, n_an, Nat.add_sub_cancel, nI_add, pk_mul, n_sub, n_ixT, n_cl, n_leT, n_leF, n_ltT, n_ltF, n_eqT, n_eqF, Nat.reduceAdd, Nat.reduceMul, Nat.reduceSub, Nat.reduceEqDiff, Nat.reduceLT, Nat.reduceLeDiff, Nat.mul_one, Nat.one_mul, Nat.add_zero, Nat.zero_add, le_T, nz0, nz1, i9]
        exact hN p2
      · have c1 : tCd t = 2 := by
          unfold tCd
          rw [if_neg e1, if_pos e2, if_neg eb]
        rw [c1] at i9
        have e4 : t.2.1 - t.1 ≤ 4 := by
          rcases Nat.lt_or_ge 4 (t.2.1 - t.1) with q | q
          · exact absurd (Or.inr q) eb
          · exact q
        rw [if_neg (fun q => eb (Or.inl q)), if_pos e4] at p1
        have i10 := i10' e2 e4
        simp (disch := omega) only [e213, w213_0, w213_1, w213_4, w213_5, w213_8, w213_9, w213_12, w213_13, w213_16, w213_17, w213_18, w213_21, w213_22, w213_23, w213_26, w213_29, w213_32, w213_33, w213_36, w213_37, w213_38, w213_39, w213_42, w213_43, w213_46, w213_47, w213_50, w213_51, w213_52, w213_53, w213_56, w213_57, w213_60, w213_61, w213_64, w213_65, w213_68, w213_69, w213_72, w213_75, w213_78, w213_79, w213_80, w213_83, w213_86, Md_s1, Md_s81, Md_s82, Md_s83, Md_s84, Md_s85, Md_s86, Md_s87, Md_s88, Md_s89, Md_s90, Md_s91, Md_s92, Md_s93, Md_s94, Md_s95, Md_s96, Md_s97, Md_s98, Md_s99, Md_s100, Md_s101, Md_s102, Md_r81_0, Md_r81_1, Md_r81_2, Md_r81_4, Md_r81_5, Md_r81_13, Md_r81_14, Md_r81_15, Md_r81_18, Md_r81_20, Md_r81_21, Md_r81_22, Md_r81_23, Md_r81_24, Md_r81_25, Md_r81_26, Md_r81_27, Md_r81_28, Md_r81_29, Md_r81_30, Md_r81_31, aPush_s, aPush_n, vrf_s, vrf_n, true_and, and_true, false_and, and_false, true_imp_iff, false_imp_iff, not_true_eq_false, not_false_eq_true, eq_self, true_or, or_true, and_self, if_true, if_false, n_lit, n_of, n_an, Nat.add_sub_cancel, nI_add, pk_mul, n_sub, n_ixT, n_cl, n_leT, n_leF, n_ltT, n_ltF, n_eqT, n_eqF, Nat.reduceAdd, Nat.reduceMul, Nat.reduceSub, Nat.reduceEqDiff, Nat.reduceLT, Nat.reduceLeDiff, Nat.mul_one, Nat.one_mul, Nat.add_zero, Nat.zero_add, le_T, nz0, nz1, i9, i10, w16]
        exact fin _ _ p1 (Or.inr e2)
    · have c1 : tCd t ≠ 1 ∧ tCd t ≠ 2 := by
        unfold tCd
        rw [if_neg e1, if_neg e2]
        exact ⟨e1, e2⟩
      obtain ⟨c1, c2⟩ := c1
      simp (disch := omega) only [e213, w213_0, w213_1, w213_4, w213_5, w213_8, w213_9, w213_12, w213_13, w213_16, w213_17, w213_18, w213_21, w213_22, w213_23, w213_26, w213_29, w213_32, w213_33, w213_36, w213_37, w213_38, w213_39, w213_42, w213_43, w213_46, w213_47, w213_50, w213_51, Md_s1, Md_s81, Md_s82, Md_s83, Md_s84, Md_s85, Md_s86, Md_s87, Md_s88, Md_s89, Md_s90, Md_s91, Md_s92, Md_s93, Md_s94, Md_s95, Md_s96, Md_s97, Md_s98, Md_s99, Md_s100, Md_s101, Md_s102, Md_r81_0, Md_r81_1, Md_r81_2, Md_r81_4, Md_r81_5, Md_r81_13, Md_r81_14, Md_r81_15, Md_r81_18, Md_r81_20, Md_r81_21, Md_r81_22, Md_r81_23, Md_r81_24, Md_r81_25, Md_r81_26, Md_r81_27, Md_r81_28, Md_r81_29, Md_r81_30, Md_r81_31, aPush_s, aPush_n, vrf_s, vrf_n, true_and, and_true, false_and, and_false, true_imp_iff, false_imp_iff, not_true_eq_false, not_false_eq_true, eq_self, true_or, or_true, and_self, if_true, if_false, n_lit, n_of, n_an, Nat.add_sub_cancel, nI_add, pk_mul, n_sub, n_ixT, n_cl, n_leT, n_leF, n_ltT, n_ltF, n_eqT, n_eqF, Nat.reduceAdd, Nat.reduceMul, Nat.reduceSub, Nat.reduceEqDiff, Nat.reduceLT, Nat.reduceLeDiff, Nat.mul_one, Nat.one_mul, Nat.add_zero, Nat.zero_add, le_T, nz0, nz1, i9]
      exact hN (tPc_3 e1 e2)
end
