/-! TEXT: the readers of operators, by program (gen_loops.py) -/
section
variable {d n k p q a b o f l : Nat} {T : Nat → Nat} {t : Tok} {H : List Nat} {C : List Int32} {te : List Bool} {S : Nat → Nat × Nat} {I J K : Nat → Nat → Int32} {R : Nat → Nat → Option Nat} {z : Nat × Nat} {x y : Int32} {Q : Option Value → HS → Prop} {l1 l2 : Value} {M M' : MS}
theorem tOp_sg {c : Nat} (h : tSg T c t) : tOp T t = tOc c := by
  unfold tOp
  rw [if_pos h.1, h.2]
theorem tOp_not {t : Tok} (hb : ∀ j, T j < 256) (h : tOp T t ≠ 0) : tSg T (T t.1) t ∧ T t.1 < 256 := ⟨⟨tOp_3 h, rfl⟩, hb _⟩
/-- Term: its loop -/
theorem l60 (hT : Th S R) (sub : rCon S R T n k 61 6 f) (ok : mOk n (t, H, C, true, te, a)) (dg : tDg T n t) (hb : blk 5 H) (hf : 97 ≤ t.1 + f) (hD : rNd 5 H ≤ d + 11) (tp : Tp I T n) (kx : Kx S I R) (hG : ∀ J, F56 I J → rGd T n k 5 5 (t, H, C, true, te, a) J → Q (some (.int (nI 1))) (S, J, R, z)) (hB : ∀ J, F56 I J → rBd T n k (t, H, C, true, te, a) J → Q (some (.int (nI 0))) (S, J, R, z)) : ∀ (w i : Nat) (J : Nat → Nat → Int32) (l3 : Value) (t' : Tok) (H' : List Nat) (C' C1 : List Int32) (te' : List Bool) (a' : Nat), F56 I J → mTo T n k (t, H, C, true, te, a) (t', H', C', false, te', a') → stl 5 H' C' = stl 5 H C1 → te'.tail = te.tail → te' = te → mPs T 6 te' t' → Ck J k t' C1 a' (cOp H) (cNo H) → i ≤ t'.1 → 96 < t'.1 + w → RB (d + 10) 60 7 [.ref 54, .int (nI 1), .int (nI i), l3] [] (S, J, R, z) Q := by
  obtain ⟨s54, s55, s56, r540, r546⟩ := id hT
  have hb256 := tp.2.2.2
  have n96 := tp.1
  have o4 : te.length = cOp H + 1 := ok.2.2.2.2.1
  intro w
  induction w with
  | zero =>
    intro i J l3 t' H' C' C1 te' a' fJ m1 m2 he h4 hp ck hi hw
    have ok' := (m1.ok ok).1
    have g1 : t'.1 ≤ t'.2.1 := ok'.1.1
    have g2 : t'.2.1 ≤ n := ok'.1.2.1
    omega
  | succ w ih =>
    intro i J l3 t' H' C' C1 te' a' fJ m1 m2 he h4 hp ck hi hw
    have ok' := (m1.ok ok).1
    have hm : t.1 ≤ t'.1 := (m1.ok ok).2
    have tk' : tOk n t' := ok'.1
    have g1 := tk'.1
    have g2 := tk'.2.1
    have g3 := tk'.2.2.2
    have tpJ := tp.f56 fJ
    have j2 := ck.1.1
    have cc := fun (c : Nat) (hc : c < 256) (d : Nat) (Q : Option Value → HS → Prop) => c53 (d := d) (c := c) (z := z) (Q := Q) hT tpJ tk' ck.1 hc
    have c42 := cc 42 (by decide)
    have c47 := cc 47 (by decide)
    have step : ∀ sg, (sg = 42 ∨ sg = 47) → tSg T sg t' → RB (d + 10) 60 45 [.ref 54, .int (nI 1), .int (nI i), .int (nI sg)] [] (S, J, R, z) Q := by
      intro sg hsg g
      have e9 : tOp T t' = tOc sg := tOp_sg g
      have r9 : tOc sg ≠ 0 ∧ tRk (tOc sg) = 5 ∧ sg < 256 ∧ tOc sg ≤ 9 := by
        rcases hsg with rfl | rfl <;> decide
      have hq := g3 (by rw [g.1]; decide)
      have hst : mSt T n k (t', H', C', false, te', a') = some (tNx T n t', tOc sg :: H, C1, true, te, a') := by
        rw [rOp hb m2 (by rw [e9]; exact r9.1) (by rw [e9]; exact r9.2.1) (fun q => absurd q (by decide)), e9]
        congr 6
        all_goals (rw [if_neg (by decide), if_neg (by decide), h4, hd_tl o4])
      have ok2 := mSt_ok hst ok'
      have hp2 := (tNx_ok (T := T) (n := n) (t := t') tk'.2.1).2
      obtain ⟨hno, hop⟩ := cNo_op (H := H) r9.2.2.2
      simp (disch := omega) only [w60_45, w60_46, s54, s55, s56, r540, r546, aPush_s, aPush_n, vrf_s, vrf_n, true_and, and_true, false_and, and_false, true_imp_iff, false_imp_iff, not_true_eq_false, not_false_eq_true, eq_self, true_or, or_true, and_self, if_true, if_false, n_lit, n_of, n_an, Nat.add_sub_cancel, nI_add, pk_mul, n_sub, n_ixT, n_cl, n_leT, n_leF, n_ltT, n_ltF, n_eqT, n_eqF, Nat.reduceAdd, Nat.reduceMul, Nat.reduceSub, Nat.reduceEqDiff, Nat.reduceLT, Nat.reduceLeDiff, Nat.mul_one, Nat.one_mul, Nat.add_zero, Nat.zero_add, le_T, nz0, nz1]
      refine c51k hT tpJ tk' ck (fun J2 hJ2 fJ2 => ?_)
      simp (disch := omega) only [w60_49, w60_50, s54, s55, s56, r540, r546, aPush_s, aPush_n, vrf_s, vrf_n, true_and, and_true, false_and, and_false, true_imp_iff, false_imp_iff, not_true_eq_false, not_false_eq_true, eq_self, true_or, or_true, and_self, if_true, if_false, n_lit, n_of, n_an, Nat.add_sub_cancel, nI_add, pk_mul, n_sub, n_ixT, n_cl, n_leT, n_leF, n_ltT, n_ltF, n_eqT, n_eqF, Nat.reduceAdd, Nat.reduceMul, Nat.reduceSub, Nat.reduceEqDiff, Nat.reduceLT, Nat.reduceLeDiff, Nat.mul_one, Nat.one_mul, Nat.add_zero, Nat.zero_add, le_T, nz0, nz1]
      refine sub.use (H := tOc sg :: H) (te := te) ok2 (tNx_dg t') (fun _ x r e => by cases e; exact Or.inr (by omega)) (fun q => absurd q (by decide)) (by omega) ?_ (tpJ.f56 fJ2) ((kx.f56 fJ).f56 fJ2) (by rw [hno, hop]; exact hJ2) (fun K fK g => ?_) (fun K fK g => ?_)
      · unfold rNd at hD ⊢
        rw [hno, hop]
        omega
      · obtain ⟨t3, H3, C3, C4, te3, a3, m1', m2', m3, m4, m5, m6⟩ := g
        have ok3 := (m1'.ok ok2).1
        have hm3 : (tNx T n t').1 ≤ t3.1 := (m1'.ok ok2).2
        have hl := stl_C m2'
        rw [List.length_cons] at hl
        have hl2 : H3.length + C3.length ≤ t3.1 := ok3.2.1
        have hl3 : t3.1 ≤ t3.2.1 := ok3.1.1
        have hl4 : t3.2.1 ≤ n := ok3.1.2.1
        dsimp only at m6 m2' m3 m4
        rw [hno, hop] at m6
        simp (disch := omega) only [w60_53, w60_54, w60_55, w60_56, w60_57, s54, s55, s56, r540, r546, aPush_s, aPush_n, vrf_s, vrf_n, true_and, and_true, false_and, and_false, true_imp_iff, false_imp_iff, not_true_eq_false, not_false_eq_true, eq_self, true_or, or_true, and_self, if_true, if_false, n_lit, n_of, n_an, Nat.add_sub_cancel, nI_add, pk_mul, n_sub, n_ixT, n_cl, n_leT, n_leF, n_ltT, n_ltF, n_eqT, n_eqF, Nat.reduceAdd, Nat.reduceMul, Nat.reduceSub, Nat.reduceEqDiff, Nat.reduceLT, Nat.reduceLeDiff, Nat.mul_one, Nat.one_mul, Nat.add_zero, Nat.zero_add, le_T, nz0, nz1]
        refine c55k (c := -nI (tOc sg)) hT m6 (by omega) (tOc_tr sg r9.2.2.1 r9.1) (fun L hL fL => ?_)
        simp (disch := omega) only [w60_60, w60_63, s54, s55, s56, r540, r546, aPush_s, aPush_n, vrf_s, vrf_n, true_and, and_true, false_and, and_false, true_imp_iff, false_imp_iff, not_true_eq_false, not_false_eq_true, eq_self, true_or, or_true, and_self, if_true, if_false, n_lit, n_of, n_an, Nat.add_sub_cancel, nI_add, pk_mul, n_sub, n_ixT, n_cl, n_leT, n_leF, n_ltT, n_ltF, n_eqT, n_eqF, Nat.reduceAdd, Nat.reduceMul, Nat.reduceSub, Nat.reduceEqDiff, Nat.reduceLT, Nat.reduceLeDiff, Nat.mul_one, Nat.one_mul, Nat.add_zero, Nat.zero_add, le_T, nz0, nz1]
        exact ih (i + 1) L _ t3 H3 C3 (-nI (tOc sg) :: C4) te3 a3 (((fJ.tr fJ2).tr fK).tr fL) ((m1.tr (mTo.st hst)).tr m1') ((rUp m2').trans (stl_op1 r9.2.2.2 r9.2.1)) (by rw [m4 (by decide)]) (m4 (by decide)) m5 hL (by omega) (by omega)
      · have k7 : ∃ m, m ≤ 96 ∧ K 54 7 = nI m := g.choose_spec.2.2.2.1
        have k11 : K 54 11 = nI (cNo (tOc sg :: H)) := g.choose_spec.2.2.2.2.2
        have k10 : K 54 10 = nI (cOp (tOc sg :: H)) := g.choose_spec.2.2.2.2.1
        simp (disch := omega) only [w60_53, w60_54, w60_55, w60_56, w60_57, s54, s55, s56, r540, r546, aPush_s, aPush_n, vrf_s, vrf_n, true_and, and_true, false_and, and_false, true_imp_iff, false_imp_iff, not_true_eq_false, not_false_eq_true, eq_self, true_or, or_true, and_self, if_true, if_false, n_lit, n_of, n_an, Nat.add_sub_cancel, nI_add, pk_mul, n_sub, n_ixT, n_cl, n_leT, n_leF, n_ltT, n_ltF, n_eqT, n_eqF, Nat.reduceAdd, Nat.reduceMul, Nat.reduceSub, Nat.reduceEqDiff, Nat.reduceLT, Nat.reduceLeDiff, Nat.mul_one, Nat.one_mul, Nat.add_zero, Nat.zero_add, le_T, nz0, nz1]
        refine c55b hT k7 (fun L fL e2 e10 e11 e7 => ?_)
        simp (disch := omega) only [w60_60, w60_63, s54, s55, s56, r540, r546, aPush_s, aPush_n, vrf_s, vrf_n, true_and, and_true, false_and, and_false, true_imp_iff, false_imp_iff, not_true_eq_false, not_false_eq_true, eq_self, true_or, or_true, and_self, if_true, if_false, n_lit, n_of, n_an, Nat.add_sub_cancel, nI_add, pk_mul, n_sub, n_ixT, n_cl, n_leT, n_leF, n_ltT, n_ltF, n_eqT, n_eqF, Nat.reduceAdd, Nat.reduceMul, Nat.reduceSub, Nat.reduceEqDiff, Nat.reduceLT, Nat.reduceLeDiff, Nat.mul_one, Nat.one_mul, Nat.add_zero, Nat.zero_add, le_T, nz0, nz1]
        rw [w60_7]
        have fin := hB L (((fJ.tr fJ2).tr fK).tr fL) (g.mv (m1.tr (mTo.st hst)) e2 e7 (by rw [e10, k10, hop]) (by rw [e11, k11, hno]))
        by_cases hi2 : i + 1 < 96
        · simp (disch := omega) only [w60_8, w60_10, w60_13, w60_14, w60_17, w60_18, w60_20, w60_23, w60_26, w60_27, w60_29, w60_32, w60_35, w60_36, w60_39, w60_40, w60_43, w60_44, w60_45, w60_46, w60_49, w60_50, w60_53, w60_54, w60_55, w60_56, w60_57, w60_60, w60_63, w60_66, w60_67, s54, s55, s56, r540, r546, aPush_s, aPush_n, vrf_s, vrf_n, true_and, and_true, false_and, and_false, true_imp_iff, false_imp_iff, not_true_eq_false, not_false_eq_true, eq_self, true_or, or_true, and_self, if_true, if_false, n_lit, n_of, n_an, Nat.add_sub_cancel, nI_add, pk_mul, n_sub, n_ixT, n_cl, n_leT, n_leF, n_ltT, n_ltF, n_eqT, n_eqF, Nat.reduceAdd, Nat.reduceMul, Nat.reduceSub, Nat.reduceEqDiff, Nat.reduceLT, Nat.reduceLeDiff, Nat.mul_one, Nat.one_mul, Nat.add_zero, Nat.zero_add, le_T, nz0, nz1]
          exact fin
        · simp (disch := omega) only [w60_8, w60_10, w60_13, w60_14, w60_17, w60_18, w60_20, w60_23, w60_26, w60_27, w60_29, w60_32, w60_35, w60_36, w60_39, w60_40, w60_43, w60_44, w60_45, w60_46, w60_49, w60_50, w60_53, w60_54, w60_55, w60_56, w60_57, w60_60, w60_63, w60_66, w60_67, s54, s55, s56, r540, r546, aPush_s, aPush_n, vrf_s, vrf_n, true_and, and_true, false_and, and_false, true_imp_iff, false_imp_iff, not_true_eq_false, not_false_eq_true, eq_self, true_or, or_true, and_self, if_true, if_false, n_lit, n_of, n_an, Nat.add_sub_cancel, nI_add, pk_mul, n_sub, n_ixT, n_cl, n_leT, n_leF, n_ltT, n_ltF, n_eqT, n_eqF, Nat.reduceAdd, Nat.reduceMul, Nat.reduceSub, Nat.reduceEqDiff, Nat.reduceLT, Nat.reduceLeDiff, Nat.mul_one, Nat.one_mul, Nat.add_zero, Nat.zero_add, le_T, nz0, nz1]
          exact fin
    rw [w60_7]
    by_cases q1 : tSg T 42 t'
    · have hq := g3 (by rw [q1.1]; decide)
      have jb := tpJ.2.2.1 t'.1 (by omega)
      rw [q1.2] at jb
      simp (disch := omega) only [w60_8, w60_10, w60_13, w60_14, w60_17, w60_18, w60_20, w60_23, w60_26, w60_27, w60_29, w60_32, w60_35, w60_36, w60_39, w60_40, w60_43, w60_44, s54, s55, s56, r540, r546, aPush_s, aPush_n, vrf_s, vrf_n, true_and, and_true, false_and, and_false, true_imp_iff, false_imp_iff, not_true_eq_false, not_false_eq_true, eq_self, true_or, or_true, and_self, if_true, if_false, n_lit, n_of, n_an, Nat.add_sub_cancel, nI_add, pk_mul, n_sub, n_ixT, n_cl, n_leT, n_leF, n_ltT, n_ltF, n_eqT, n_eqF, Nat.reduceAdd, Nat.reduceMul, Nat.reduceSub, Nat.reduceEqDiff, Nat.reduceLT, Nat.reduceLeDiff, Nat.mul_one, Nat.one_mul, Nat.add_zero, Nat.zero_add, le_T, nz0, nz1, c42, c47, decide_eq_true q1, b2n_t, j2, jb]
      exact step 42 (by decide) q1
    · by_cases q2 : tSg T 47 t'
      · have hq := g3 (by rw [q2.1]; decide)
        have jb := tpJ.2.2.1 t'.1 (by omega)
        rw [q2.2] at jb
        simp (disch := omega) only [w60_8, w60_10, w60_13, w60_14, w60_17, w60_18, w60_20, w60_23, w60_26, w60_27, w60_29, w60_32, w60_35, w60_36, w60_39, w60_40, w60_43, w60_44, s54, s55, s56, r540, r546, aPush_s, aPush_n, vrf_s, vrf_n, true_and, and_true, false_and, and_false, true_imp_iff, false_imp_iff, not_true_eq_false, not_false_eq_true, eq_self, true_or, or_true, and_self, if_true, if_false, n_lit, n_of, n_an, Nat.add_sub_cancel, nI_add, pk_mul, n_sub, n_ixT, n_cl, n_leT, n_leF, n_ltT, n_ltF, n_eqT, n_eqF, Nat.reduceAdd, Nat.reduceMul, Nat.reduceSub, Nat.reduceEqDiff, Nat.reduceLT, Nat.reduceLeDiff, Nat.mul_one, Nat.one_mul, Nat.add_zero, Nat.zero_add, le_T, nz0, nz1, c42, c47, decide_eq_false q1, decide_eq_true q2, b2n_t, b2n_f, j2, jb]
        exact step 47 (by decide) q2
      · have fin : Q (some (.int (nI 1))) (S, J, R, z) := by
          refine hG J fJ ⟨t', H', C', C1, te', a', m1, m2, he, fun _ => h4, ?_, ck⟩
          rcases hp with g | g | g
          · exact Or.inl g
          · have key : ∀ x, x < 256 → tRk (tOc x) < 6 → tOc x = 0 ∨ tRk (tOc x) < 5 ∨ x = 42 ∨ x = 47 := by decide +kernel
            by_cases e0 : tOp T t' = 0
            · exact Or.inl e0
            · obtain ⟨s1, s2⟩ := tOp_not hb256 e0
              have e9 := tOp_sg s1
              rcases key _ s2 (by rw [← e9]; exact g) with g | g | g | g
              · exact Or.inl (e9.trans g)
              · exact Or.inr (Or.inl (by rw [e9]; exact g))
              · rw [g] at s1
                exact absurd s1 q1
              · rw [g] at s1
                exact absurd s1 q2
          · exact Or.inr (Or.inr g)
        by_cases hi2 : i < 96
        · simp (disch := omega) only [w60_8, w60_10, w60_13, w60_14, w60_17, w60_18, w60_20, w60_23, w60_26, w60_27, w60_29, w60_32, w60_35, w60_36, w60_39, w60_40, w60_43, w60_44, w60_66, w60_67, s54, s55, s56, r540, r546, aPush_s, aPush_n, vrf_s, vrf_n, true_and, and_true, false_and, and_false, true_imp_iff, false_imp_iff, not_true_eq_false, not_false_eq_true, eq_self, true_or, or_true, and_self, if_true, if_false, n_lit, n_of, n_an, Nat.add_sub_cancel, nI_add, pk_mul, n_sub, n_ixT, n_cl, n_leT, n_leF, n_ltT, n_ltF, n_eqT, n_eqF, Nat.reduceAdd, Nat.reduceMul, Nat.reduceSub, Nat.reduceEqDiff, Nat.reduceLT, Nat.reduceLeDiff, Nat.mul_one, Nat.one_mul, Nat.add_zero, Nat.zero_add, le_T, nz0, nz1, c42, c47, decide_eq_false q1, decide_eq_false q2, b2n_f]
          exact fin
        · simp (disch := omega) only [w60_8, w60_10, w60_13, w60_14, w60_17, w60_18, w60_20, w60_23, w60_26, w60_27, w60_29, w60_32, w60_35, w60_36, w60_39, w60_40, w60_43, w60_44, w60_66, w60_67, s54, s55, s56, r540, r546, aPush_s, aPush_n, vrf_s, vrf_n, true_and, and_true, false_and, and_false, true_imp_iff, false_imp_iff, not_true_eq_false, not_false_eq_true, eq_self, true_or, or_true, and_self, if_true, if_false, n_lit, n_of, n_an, Nat.add_sub_cancel, nI_add, pk_mul, n_sub, n_ixT, n_cl, n_leT, n_leF, n_ltT, n_ltF, n_eqT, n_eqF, Nat.reduceAdd, Nat.reduceMul, Nat.reduceSub, Nat.reduceEqDiff, Nat.reduceLT, Nat.reduceLeDiff, Nat.mul_one, Nat.one_mul, Nat.add_zero, Nat.zero_add, le_T, nz0, nz1]
          exact fin
theorem rTerm (hT : Th S R) (sub : rCon S R T n k 61 6 f) : rCon S R T n k 60 5 f := by
  intro D t H C te a I z ok dg hb ht hf hD tp kx ck
  obtain ⟨d, rfl⟩ : ∃ d, D = d + 11 := ⟨D - 11, by unfold rNd at hD; omega⟩
  obtain ⟨s54, s55, s56, r540, r546⟩ := id hT
  simp (disch := omega) only [e60, w60_0, w60_1, s54, s55, s56, r540, r546, aPush_s, aPush_n, vrf_s, vrf_n, true_and, and_true, false_and, and_false, true_imp_iff, false_imp_iff, not_true_eq_false, not_false_eq_true, eq_self, true_or, or_true, and_self, if_true, if_false, n_lit, n_of, n_an, Nat.add_sub_cancel, nI_add, pk_mul, n_sub, n_ixT, n_cl, n_leT, n_leF, n_ltT, n_ltF, n_eqT, n_eqF, Nat.reduceAdd, Nat.reduceMul, Nat.reduceSub, Nat.reduceEqDiff, Nat.reduceLT, Nat.reduceLeDiff, Nat.mul_one, Nat.one_mul, Nat.add_zero, Nat.zero_add, le_T, nz0, nz1]
  refine sub.use ok dg (fun _ => (hb (by decide)).le (by decide)) (fun q => absurd q (by decide)) hf (by unfold rNd at hD ⊢; omega) tp kx ck (fun J fJ g => ?_) (fun J fJ g => ?_)
  · obtain ⟨t', H', C', C1, te', a', m1, m2, m3, m4, m5, m6⟩ := g
    simp (disch := omega) only [w60_4, w60_5, w60_6, s54, s55, s56, r540, r546, aPush_s, aPush_n, vrf_s, vrf_n, true_and, and_true, false_and, and_false, true_imp_iff, false_imp_iff, not_true_eq_false, not_false_eq_true, eq_self, true_or, or_true, and_self, if_true, if_false, n_lit, n_of, n_an, Nat.add_sub_cancel, nI_add, pk_mul, n_sub, n_ixT, n_cl, n_leT, n_leF, n_ltT, n_ltF, n_eqT, n_eqF, Nat.reduceAdd, Nat.reduceMul, Nat.reduceSub, Nat.reduceEqDiff, Nat.reduceLT, Nat.reduceLeDiff, Nat.mul_one, Nat.one_mul, Nat.add_zero, Nat.zero_add, le_T, nz0, nz1]
    exact l60 hT sub ok dg (hb (by decide)) hf hD tp kx (fun J fJ g => ⟨J, rfl, fJ, Or.inl ⟨rfl, g⟩⟩) (fun J fJ g => ⟨J, rfl, fJ, Or.inr ⟨rfl, g⟩⟩) 97 0 J _ t' H' C' C1 te' a' fJ m1 (rUp m2) m3 (m4 (by decide)) m5 m6 (Nat.zero_le _) (by omega)
  · simp (disch := omega) only [w60_4, w60_5, w60_6, s54, s55, s56, r540, r546, aPush_s, aPush_n, vrf_s, vrf_n, true_and, and_true, false_and, and_false, true_imp_iff, false_imp_iff, not_true_eq_false, not_false_eq_true, eq_self, true_or, or_true, and_self, if_true, if_false, n_lit, n_of, n_an, Nat.add_sub_cancel, nI_add, pk_mul, n_sub, n_ixT, n_cl, n_leT, n_leF, n_ltT, n_ltF, n_eqT, n_eqF, Nat.reduceAdd, Nat.reduceMul, Nat.reduceSub, Nat.reduceEqDiff, Nat.reduceLT, Nat.reduceLeDiff, Nat.mul_one, Nat.one_mul, Nat.add_zero, Nat.zero_add, le_T, nz0, nz1]
    rw [w60_7]
    simp (disch := omega) only [w60_8, w60_10, w60_13, w60_14, w60_17, w60_18, w60_20, w60_23, w60_26, w60_27, w60_29, w60_32, w60_35, w60_36, w60_39, w60_40, w60_43, w60_44, w60_45, w60_46, w60_49, w60_50, w60_53, w60_54, w60_55, w60_56, w60_57, w60_60, w60_63, w60_66, w60_67, s54, s55, s56, r540, r546, aPush_s, aPush_n, vrf_s, vrf_n, true_and, and_true, false_and, and_false, true_imp_iff, false_imp_iff, not_true_eq_false, not_false_eq_true, eq_self, true_or, or_true, and_self, if_true, if_false, n_lit, n_of, n_an, Nat.add_sub_cancel, nI_add, pk_mul, n_sub, n_ixT, n_cl, n_leT, n_leF, n_ltT, n_ltF, n_eqT, n_eqF, Nat.reduceAdd, Nat.reduceMul, Nat.reduceSub, Nat.reduceEqDiff, Nat.reduceLT, Nat.reduceLeDiff, Nat.mul_one, Nat.one_mul, Nat.add_zero, Nat.zero_add, le_T, nz0, nz1]
    exact ⟨J, rfl, fJ, Or.inr ⟨rfl, g⟩⟩
/-- Sum: its loop -/
theorem l59 (hT : Th S R) (sub : rCon S R T n k 60 5 f) (ok : mOk n (t, H, C, true, te, a)) (dg : tDg T n t) (hb : blk 4 H) (hf : 97 ≤ t.1 + f) (hD : rNd 4 H ≤ d + 11) (tp : Tp I T n) (kx : Kx S I R) (hG : ∀ J, F56 I J → rGd T n k 4 4 (t, H, C, true, te, a) J → Q (some (.int (nI 1))) (S, J, R, z)) (hB : ∀ J, F56 I J → rBd T n k (t, H, C, true, te, a) J → Q (some (.int (nI 0))) (S, J, R, z)) : ∀ (w i : Nat) (J : Nat → Nat → Int32) (l3 : Value) (t' : Tok) (H' : List Nat) (C' C1 : List Int32) (te' : List Bool) (a' : Nat), F56 I J → mTo T n k (t, H, C, true, te, a) (t', H', C', false, te', a') → stl 4 H' C' = stl 4 H C1 → te'.tail = te.tail → te' = te → mPs T 5 te' t' → Ck J k t' C1 a' (cOp H) (cNo H) → i ≤ t'.1 → 96 < t'.1 + w → RB (d + 10) 59 7 [.ref 54, .int (nI 1), .int (nI i), l3] [] (S, J, R, z) Q := by
  obtain ⟨s54, s55, s56, r540, r546⟩ := id hT
  have hb256 := tp.2.2.2
  have n96 := tp.1
  have o4 : te.length = cOp H + 1 := ok.2.2.2.2.1
  intro w
  induction w with
  | zero =>
    intro i J l3 t' H' C' C1 te' a' fJ m1 m2 he h4 hp ck hi hw
    have ok' := (m1.ok ok).1
    have g1 : t'.1 ≤ t'.2.1 := ok'.1.1
    have g2 : t'.2.1 ≤ n := ok'.1.2.1
    omega
  | succ w ih =>
    intro i J l3 t' H' C' C1 te' a' fJ m1 m2 he h4 hp ck hi hw
    have ok' := (m1.ok ok).1
    have hm : t.1 ≤ t'.1 := (m1.ok ok).2
    have tk' : tOk n t' := ok'.1
    have g1 := tk'.1
    have g2 := tk'.2.1
    have g3 := tk'.2.2.2
    have tpJ := tp.f56 fJ
    have j2 := ck.1.1
    have cc := fun (c : Nat) (hc : c < 256) (d : Nat) (Q : Option Value → HS → Prop) => c53 (d := d) (c := c) (z := z) (Q := Q) hT tpJ tk' ck.1 hc
    have c43 := cc 43 (by decide)
    have c45 := cc 45 (by decide)
    have step : ∀ sg, (sg = 43 ∨ sg = 45) → tSg T sg t' → RB (d + 10) 59 45 [.ref 54, .int (nI 1), .int (nI i), .int (nI sg)] [] (S, J, R, z) Q := by
      intro sg hsg g
      have e9 : tOp T t' = tOc sg := tOp_sg g
      have r9 : tOc sg ≠ 0 ∧ tRk (tOc sg) = 4 ∧ sg < 256 ∧ tOc sg ≤ 9 := by
        rcases hsg with rfl | rfl <;> decide
      have hq := g3 (by rw [g.1]; decide)
      have hst : mSt T n k (t', H', C', false, te', a') = some (tNx T n t', tOc sg :: H, C1, true, te, a') := by
        rw [rOp hb m2 (by rw [e9]; exact r9.1) (by rw [e9]; exact r9.2.1) (fun q => absurd q (by decide)), e9]
        congr 6
        all_goals (rw [if_neg (by decide), if_neg (by decide), h4, hd_tl o4])
      have ok2 := mSt_ok hst ok'
      have hp2 := (tNx_ok (T := T) (n := n) (t := t') tk'.2.1).2
      obtain ⟨hno, hop⟩ := cNo_op (H := H) r9.2.2.2
      simp (disch := omega) only [w59_45, w59_46, s54, s55, s56, r540, r546, aPush_s, aPush_n, vrf_s, vrf_n, true_and, and_true, false_and, and_false, true_imp_iff, false_imp_iff, not_true_eq_false, not_false_eq_true, eq_self, true_or, or_true, and_self, if_true, if_false, n_lit, n_of, n_an, Nat.add_sub_cancel, nI_add, pk_mul, n_sub, n_ixT, n_cl, n_leT, n_leF, n_ltT, n_ltF, n_eqT, n_eqF, Nat.reduceAdd, Nat.reduceMul, Nat.reduceSub, Nat.reduceEqDiff, Nat.reduceLT, Nat.reduceLeDiff, Nat.mul_one, Nat.one_mul, Nat.add_zero, Nat.zero_add, le_T, nz0, nz1]
      refine c51k hT tpJ tk' ck (fun J2 hJ2 fJ2 => ?_)
      simp (disch := omega) only [w59_49, w59_50, s54, s55, s56, r540, r546, aPush_s, aPush_n, vrf_s, vrf_n, true_and, and_true, false_and, and_false, true_imp_iff, false_imp_iff, not_true_eq_false, not_false_eq_true, eq_self, true_or, or_true, and_self, if_true, if_false, n_lit, n_of, n_an, Nat.add_sub_cancel, nI_add, pk_mul, n_sub, n_ixT, n_cl, n_leT, n_leF, n_ltT, n_ltF, n_eqT, n_eqF, Nat.reduceAdd, Nat.reduceMul, Nat.reduceSub, Nat.reduceEqDiff, Nat.reduceLT, Nat.reduceLeDiff, Nat.mul_one, Nat.one_mul, Nat.add_zero, Nat.zero_add, le_T, nz0, nz1]
      refine sub.use (H := tOc sg :: H) (te := te) ok2 (tNx_dg t') (fun _ x r e => by cases e; exact Or.inr (by omega)) (fun q => absurd q (by decide)) (by omega) ?_ (tpJ.f56 fJ2) ((kx.f56 fJ).f56 fJ2) (by rw [hno, hop]; exact hJ2) (fun K fK g => ?_) (fun K fK g => ?_)
      · unfold rNd at hD ⊢
        rw [hno, hop]
        omega
      · obtain ⟨t3, H3, C3, C4, te3, a3, m1', m2', m3, m4, m5, m6⟩ := g
        have ok3 := (m1'.ok ok2).1
        have hm3 : (tNx T n t').1 ≤ t3.1 := (m1'.ok ok2).2
        have hl := stl_C m2'
        rw [List.length_cons] at hl
        have hl2 : H3.length + C3.length ≤ t3.1 := ok3.2.1
        have hl3 : t3.1 ≤ t3.2.1 := ok3.1.1
        have hl4 : t3.2.1 ≤ n := ok3.1.2.1
        dsimp only at m6 m2' m3 m4
        rw [hno, hop] at m6
        simp (disch := omega) only [w59_53, w59_54, w59_55, w59_56, w59_57, s54, s55, s56, r540, r546, aPush_s, aPush_n, vrf_s, vrf_n, true_and, and_true, false_and, and_false, true_imp_iff, false_imp_iff, not_true_eq_false, not_false_eq_true, eq_self, true_or, or_true, and_self, if_true, if_false, n_lit, n_of, n_an, Nat.add_sub_cancel, nI_add, pk_mul, n_sub, n_ixT, n_cl, n_leT, n_leF, n_ltT, n_ltF, n_eqT, n_eqF, Nat.reduceAdd, Nat.reduceMul, Nat.reduceSub, Nat.reduceEqDiff, Nat.reduceLT, Nat.reduceLeDiff, Nat.mul_one, Nat.one_mul, Nat.add_zero, Nat.zero_add, le_T, nz0, nz1]
        refine c55k (c := -nI (tOc sg)) hT m6 (by omega) (tOc_tr sg r9.2.2.1 r9.1) (fun L hL fL => ?_)
        simp (disch := omega) only [w59_60, w59_63, s54, s55, s56, r540, r546, aPush_s, aPush_n, vrf_s, vrf_n, true_and, and_true, false_and, and_false, true_imp_iff, false_imp_iff, not_true_eq_false, not_false_eq_true, eq_self, true_or, or_true, and_self, if_true, if_false, n_lit, n_of, n_an, Nat.add_sub_cancel, nI_add, pk_mul, n_sub, n_ixT, n_cl, n_leT, n_leF, n_ltT, n_ltF, n_eqT, n_eqF, Nat.reduceAdd, Nat.reduceMul, Nat.reduceSub, Nat.reduceEqDiff, Nat.reduceLT, Nat.reduceLeDiff, Nat.mul_one, Nat.one_mul, Nat.add_zero, Nat.zero_add, le_T, nz0, nz1]
        exact ih (i + 1) L _ t3 H3 C3 (-nI (tOc sg) :: C4) te3 a3 (((fJ.tr fJ2).tr fK).tr fL) ((m1.tr (mTo.st hst)).tr m1') ((rUp m2').trans (stl_op1 r9.2.2.2 r9.2.1)) (by rw [m4 (by decide)]) (m4 (by decide)) m5 hL (by omega) (by omega)
      · have k7 : ∃ m, m ≤ 96 ∧ K 54 7 = nI m := g.choose_spec.2.2.2.1
        have k11 : K 54 11 = nI (cNo (tOc sg :: H)) := g.choose_spec.2.2.2.2.2
        have k10 : K 54 10 = nI (cOp (tOc sg :: H)) := g.choose_spec.2.2.2.2.1
        simp (disch := omega) only [w59_53, w59_54, w59_55, w59_56, w59_57, s54, s55, s56, r540, r546, aPush_s, aPush_n, vrf_s, vrf_n, true_and, and_true, false_and, and_false, true_imp_iff, false_imp_iff, not_true_eq_false, not_false_eq_true, eq_self, true_or, or_true, and_self, if_true, if_false, n_lit, n_of, n_an, Nat.add_sub_cancel, nI_add, pk_mul, n_sub, n_ixT, n_cl, n_leT, n_leF, n_ltT, n_ltF, n_eqT, n_eqF, Nat.reduceAdd, Nat.reduceMul, Nat.reduceSub, Nat.reduceEqDiff, Nat.reduceLT, Nat.reduceLeDiff, Nat.mul_one, Nat.one_mul, Nat.add_zero, Nat.zero_add, le_T, nz0, nz1]
        refine c55b hT k7 (fun L fL e2 e10 e11 e7 => ?_)
        simp (disch := omega) only [w59_60, w59_63, s54, s55, s56, r540, r546, aPush_s, aPush_n, vrf_s, vrf_n, true_and, and_true, false_and, and_false, true_imp_iff, false_imp_iff, not_true_eq_false, not_false_eq_true, eq_self, true_or, or_true, and_self, if_true, if_false, n_lit, n_of, n_an, Nat.add_sub_cancel, nI_add, pk_mul, n_sub, n_ixT, n_cl, n_leT, n_leF, n_ltT, n_ltF, n_eqT, n_eqF, Nat.reduceAdd, Nat.reduceMul, Nat.reduceSub, Nat.reduceEqDiff, Nat.reduceLT, Nat.reduceLeDiff, Nat.mul_one, Nat.one_mul, Nat.add_zero, Nat.zero_add, le_T, nz0, nz1]
        rw [w59_7]
        have fin := hB L (((fJ.tr fJ2).tr fK).tr fL) (g.mv (m1.tr (mTo.st hst)) e2 e7 (by rw [e10, k10, hop]) (by rw [e11, k11, hno]))
        by_cases hi2 : i + 1 < 96
        · simp (disch := omega) only [w59_8, w59_10, w59_13, w59_14, w59_17, w59_18, w59_20, w59_23, w59_26, w59_27, w59_29, w59_32, w59_35, w59_36, w59_39, w59_40, w59_43, w59_44, w59_45, w59_46, w59_49, w59_50, w59_53, w59_54, w59_55, w59_56, w59_57, w59_60, w59_63, w59_66, w59_67, s54, s55, s56, r540, r546, aPush_s, aPush_n, vrf_s, vrf_n, true_and, and_true, false_and, and_false, true_imp_iff, false_imp_iff, not_true_eq_false, not_false_eq_true, eq_self, true_or, or_true, and_self, if_true, if_false, n_lit, n_of, n_an, Nat.add_sub_cancel, nI_add, pk_mul, n_sub, n_ixT, n_cl, n_leT, n_leF, n_ltT, n_ltF, n_eqT, n_eqF, Nat.reduceAdd, Nat.reduceMul, Nat.reduceSub, Nat.reduceEqDiff, Nat.reduceLT, Nat.reduceLeDiff, Nat.mul_one, Nat.one_mul, Nat.add_zero, Nat.zero_add, le_T, nz0, nz1]
          exact fin
        · simp (disch := omega) only [w59_8, w59_10, w59_13, w59_14, w59_17, w59_18, w59_20, w59_23, w59_26, w59_27, w59_29, w59_32, w59_35, w59_36, w59_39, w59_40, w59_43, w59_44, w59_45, w59_46, w59_49, w59_50, w59_53, w59_54, w59_55, w59_56, w59_57, w59_60, w59_63, w59_66, w59_67, s54, s55, s56, r540, r546, aPush_s, aPush_n, vrf_s, vrf_n, true_and, and_true, false_and, and_false, true_imp_iff, false_imp_iff, not_true_eq_false, not_false_eq_true, eq_self, true_or, or_true, and_self, if_true, if_false, n_lit, n_of, n_an, Nat.add_sub_cancel, nI_add, pk_mul, n_sub, n_ixT, n_cl, n_leT, n_leF, n_ltT, n_ltF, n_eqT, n_eqF, Nat.reduceAdd, Nat.reduceMul, Nat.reduceSub, Nat.reduceEqDiff, Nat.reduceLT, Nat.reduceLeDiff, Nat.mul_one, Nat.one_mul, Nat.add_zero, Nat.zero_add, le_T, nz0, nz1]
          exact fin
    rw [w59_7]
    by_cases q1 : tSg T 43 t'
    · have hq := g3 (by rw [q1.1]; decide)
      have jb := tpJ.2.2.1 t'.1 (by omega)
      rw [q1.2] at jb
      simp (disch := omega) only [w59_8, w59_10, w59_13, w59_14, w59_17, w59_18, w59_20, w59_23, w59_26, w59_27, w59_29, w59_32, w59_35, w59_36, w59_39, w59_40, w59_43, w59_44, s54, s55, s56, r540, r546, aPush_s, aPush_n, vrf_s, vrf_n, true_and, and_true, false_and, and_false, true_imp_iff, false_imp_iff, not_true_eq_false, not_false_eq_true, eq_self, true_or, or_true, and_self, if_true, if_false, n_lit, n_of, n_an, Nat.add_sub_cancel, nI_add, pk_mul, n_sub, n_ixT, n_cl, n_leT, n_leF, n_ltT, n_ltF, n_eqT, n_eqF, Nat.reduceAdd, Nat.reduceMul, Nat.reduceSub, Nat.reduceEqDiff, Nat.reduceLT, Nat.reduceLeDiff, Nat.mul_one, Nat.one_mul, Nat.add_zero, Nat.zero_add, le_T, nz0, nz1, c43, c45, decide_eq_true q1, b2n_t, j2, jb]
      exact step 43 (by decide) q1
    · by_cases q2 : tSg T 45 t'
      · have hq := g3 (by rw [q2.1]; decide)
        have jb := tpJ.2.2.1 t'.1 (by omega)
        rw [q2.2] at jb
        simp (disch := omega) only [w59_8, w59_10, w59_13, w59_14, w59_17, w59_18, w59_20, w59_23, w59_26, w59_27, w59_29, w59_32, w59_35, w59_36, w59_39, w59_40, w59_43, w59_44, s54, s55, s56, r540, r546, aPush_s, aPush_n, vrf_s, vrf_n, true_and, and_true, false_and, and_false, true_imp_iff, false_imp_iff, not_true_eq_false, not_false_eq_true, eq_self, true_or, or_true, and_self, if_true, if_false, n_lit, n_of, n_an, Nat.add_sub_cancel, nI_add, pk_mul, n_sub, n_ixT, n_cl, n_leT, n_leF, n_ltT, n_ltF, n_eqT, n_eqF, Nat.reduceAdd, Nat.reduceMul, Nat.reduceSub, Nat.reduceEqDiff, Nat.reduceLT, Nat.reduceLeDiff, Nat.mul_one, Nat.one_mul, Nat.add_zero, Nat.zero_add, le_T, nz0, nz1, c43, c45, decide_eq_false q1, decide_eq_true q2, b2n_t, b2n_f, j2, jb]
        exact step 45 (by decide) q2
      · have fin : Q (some (.int (nI 1))) (S, J, R, z) := by
          refine hG J fJ ⟨t', H', C', C1, te', a', m1, m2, he, fun _ => h4, ?_, ck⟩
          rcases hp with g | g | g
          · exact Or.inl g
          · have key : ∀ x, x < 256 → tRk (tOc x) < 5 → tOc x = 0 ∨ tRk (tOc x) < 4 ∨ x = 43 ∨ x = 45 := by decide +kernel
            by_cases e0 : tOp T t' = 0
            · exact Or.inl e0
            · obtain ⟨s1, s2⟩ := tOp_not hb256 e0
              have e9 := tOp_sg s1
              rcases key _ s2 (by rw [← e9]; exact g) with g | g | g | g
              · exact Or.inl (e9.trans g)
              · exact Or.inr (Or.inl (by rw [e9]; exact g))
              · rw [g] at s1
                exact absurd s1 q1
              · rw [g] at s1
                exact absurd s1 q2
          · exact Or.inr (Or.inr g)
        by_cases hi2 : i < 96
        · simp (disch := omega) only [w59_8, w59_10, w59_13, w59_14, w59_17, w59_18, w59_20, w59_23, w59_26, w59_27, w59_29, w59_32, w59_35, w59_36, w59_39, w59_40, w59_43, w59_44, w59_66, w59_67, s54, s55, s56, r540, r546, aPush_s, aPush_n, vrf_s, vrf_n, true_and, and_true, false_and, and_false, true_imp_iff, false_imp_iff, not_true_eq_false, not_false_eq_true, eq_self, true_or, or_true, and_self, if_true, if_false, n_lit, n_of, n_an, Nat.add_sub_cancel, nI_add, pk_mul, n_sub, n_ixT, n_cl, n_leT, n_leF, n_ltT, n_ltF, n_eqT, n_eqF, Nat.reduceAdd, Nat.reduceMul, Nat.reduceSub, Nat.reduceEqDiff, Nat.reduceLT, Nat.reduceLeDiff, Nat.mul_one, Nat.one_mul, Nat.add_zero, Nat.zero_add, le_T, nz0, nz1, c43, c45, decide_eq_false q1, decide_eq_false q2, b2n_f]
          exact fin
        · simp (disch := omega) only [w59_8, w59_10, w59_13, w59_14, w59_17, w59_18, w59_20, w59_23, w59_26, w59_27, w59_29, w59_32, w59_35, w59_36, w59_39, w59_40, w59_43, w59_44, w59_66, w59_67, s54, s55, s56, r540, r546, aPush_s, aPush_n, vrf_s, vrf_n, true_and, and_true, false_and, and_false, true_imp_iff, false_imp_iff, not_true_eq_false, not_false_eq_true, eq_self, true_or, or_true, and_self, if_true, if_false, n_lit, n_of, n_an, Nat.add_sub_cancel, nI_add, pk_mul, n_sub, n_ixT, n_cl, n_leT, n_leF, n_ltT, n_ltF, n_eqT, n_eqF, Nat.reduceAdd, Nat.reduceMul, Nat.reduceSub, Nat.reduceEqDiff, Nat.reduceLT, Nat.reduceLeDiff, Nat.mul_one, Nat.one_mul, Nat.add_zero, Nat.zero_add, le_T, nz0, nz1]
          exact fin
theorem rSum (hT : Th S R) (sub : rCon S R T n k 60 5 f) : rCon S R T n k 59 4 f := by
  intro D t H C te a I z ok dg hb ht hf hD tp kx ck
  obtain ⟨d, rfl⟩ : ∃ d, D = d + 11 := ⟨D - 11, by unfold rNd at hD; omega⟩
  obtain ⟨s54, s55, s56, r540, r546⟩ := id hT
  simp (disch := omega) only [e59, w59_0, w59_1, s54, s55, s56, r540, r546, aPush_s, aPush_n, vrf_s, vrf_n, true_and, and_true, false_and, and_false, true_imp_iff, false_imp_iff, not_true_eq_false, not_false_eq_true, eq_self, true_or, or_true, and_self, if_true, if_false, n_lit, n_of, n_an, Nat.add_sub_cancel, nI_add, pk_mul, n_sub, n_ixT, n_cl, n_leT, n_leF, n_ltT, n_ltF, n_eqT, n_eqF, Nat.reduceAdd, Nat.reduceMul, Nat.reduceSub, Nat.reduceEqDiff, Nat.reduceLT, Nat.reduceLeDiff, Nat.mul_one, Nat.one_mul, Nat.add_zero, Nat.zero_add, le_T, nz0, nz1]
  refine sub.use ok dg (fun _ => (hb (by decide)).le (by decide)) (fun q => absurd q (by decide)) hf (by unfold rNd at hD ⊢; omega) tp kx ck (fun J fJ g => ?_) (fun J fJ g => ?_)
  · obtain ⟨t', H', C', C1, te', a', m1, m2, m3, m4, m5, m6⟩ := g
    simp (disch := omega) only [w59_4, w59_5, w59_6, s54, s55, s56, r540, r546, aPush_s, aPush_n, vrf_s, vrf_n, true_and, and_true, false_and, and_false, true_imp_iff, false_imp_iff, not_true_eq_false, not_false_eq_true, eq_self, true_or, or_true, and_self, if_true, if_false, n_lit, n_of, n_an, Nat.add_sub_cancel, nI_add, pk_mul, n_sub, n_ixT, n_cl, n_leT, n_leF, n_ltT, n_ltF, n_eqT, n_eqF, Nat.reduceAdd, Nat.reduceMul, Nat.reduceSub, Nat.reduceEqDiff, Nat.reduceLT, Nat.reduceLeDiff, Nat.mul_one, Nat.one_mul, Nat.add_zero, Nat.zero_add, le_T, nz0, nz1]
    exact l59 hT sub ok dg (hb (by decide)) hf hD tp kx (fun J fJ g => ⟨J, rfl, fJ, Or.inl ⟨rfl, g⟩⟩) (fun J fJ g => ⟨J, rfl, fJ, Or.inr ⟨rfl, g⟩⟩) 97 0 J _ t' H' C' C1 te' a' fJ m1 (rUp m2) m3 (m4 (by decide)) m5 m6 (Nat.zero_le _) (by omega)
  · simp (disch := omega) only [w59_4, w59_5, w59_6, s54, s55, s56, r540, r546, aPush_s, aPush_n, vrf_s, vrf_n, true_and, and_true, false_and, and_false, true_imp_iff, false_imp_iff, not_true_eq_false, not_false_eq_true, eq_self, true_or, or_true, and_self, if_true, if_false, n_lit, n_of, n_an, Nat.add_sub_cancel, nI_add, pk_mul, n_sub, n_ixT, n_cl, n_leT, n_leF, n_ltT, n_ltF, n_eqT, n_eqF, Nat.reduceAdd, Nat.reduceMul, Nat.reduceSub, Nat.reduceEqDiff, Nat.reduceLT, Nat.reduceLeDiff, Nat.mul_one, Nat.one_mul, Nat.add_zero, Nat.zero_add, le_T, nz0, nz1]
    rw [w59_7]
    simp (disch := omega) only [w59_8, w59_10, w59_13, w59_14, w59_17, w59_18, w59_20, w59_23, w59_26, w59_27, w59_29, w59_32, w59_35, w59_36, w59_39, w59_40, w59_43, w59_44, w59_45, w59_46, w59_49, w59_50, w59_53, w59_54, w59_55, w59_56, w59_57, w59_60, w59_63, w59_66, w59_67, s54, s55, s56, r540, r546, aPush_s, aPush_n, vrf_s, vrf_n, true_and, and_true, false_and, and_false, true_imp_iff, false_imp_iff, not_true_eq_false, not_false_eq_true, eq_self, true_or, or_true, and_self, if_true, if_false, n_lit, n_of, n_an, Nat.add_sub_cancel, nI_add, pk_mul, n_sub, n_ixT, n_cl, n_leT, n_leF, n_ltT, n_ltF, n_eqT, n_eqF, Nat.reduceAdd, Nat.reduceMul, Nat.reduceSub, Nat.reduceEqDiff, Nat.reduceLT, Nat.reduceLeDiff, Nat.mul_one, Nat.one_mul, Nat.add_zero, Nat.zero_add, le_T, nz0, nz1]
    exact ⟨J, rfl, fJ, Or.inr ⟨rfl, g⟩⟩
/-- Both: its loop -/
theorem l57 (hT : Th S R) (sub : rCon S R T n k 58 3 f) (ok : mOk n (t, H, C, true, te, a)) (dg : tDg T n t) (hb : blk 2 H) (hf : 97 ≤ t.1 + f) (hD : rNd 2 H ≤ d + 11) (tp : Tp I T n) (kx : Kx S I R) (hG : ∀ J, F56 I J → rGd T n k 2 2 (t, H, C, true, te, a) J → Q (some (.int (nI 1))) (S, J, R, z)) (hB : ∀ J, F56 I J → rBd T n k (t, H, C, true, te, a) J → Q (some (.int (nI 0))) (S, J, R, z)) : ∀ (w i : Nat) (J : Nat → Nat → Int32) (t' : Tok) (H' : List Nat) (C' C1 : List Int32) (te' : List Bool) (a' : Nat), F56 I J → mTo T n k (t, H, C, true, te, a) (t', H', C', false, te', a') → stl 2 H' C' = stl 2 H C1 → te'.tail = te.tail → True → mPs T 3 te' t' → Ck J k t' C1 a' (cOp H) (cNo H) → i ≤ t'.1 → 96 < t'.1 + w → RB (d + 10) 57 7 [.ref 54, .int (nI 1), .int (nI i)] [] (S, J, R, z) Q := by
  obtain ⟨s54, s55, s56, r540, r546⟩ := id hT
  have hb256 := tp.2.2.2
  have n96 := tp.1
  have o4 : te.length = cOp H + 1 := ok.2.2.2.2.1
  intro w
  induction w with
  | zero =>
    intro i J t' H' C' C1 te' a' fJ m1 m2 he h4 hp ck hi hw
    have ok' := (m1.ok ok).1
    have g1 : t'.1 ≤ t'.2.1 := ok'.1.1
    have g2 : t'.2.1 ≤ n := ok'.1.2.1
    omega
  | succ w ih =>
    intro i J t' H' C' C1 te' a' fJ m1 m2 he h4 hp ck hi hw
    have ok' := (m1.ok ok).1
    have hm : t.1 ≤ t'.1 := (m1.ok ok).2
    have tk' : tOk n t' := ok'.1
    have g1 := tk'.1
    have g2 := tk'.2.1
    have g3 := tk'.2.2.2
    have tpJ := tp.f56 fJ
    have j2 := ck.1.1
    have cc := fun (c : Nat) (hc : c < 256) (d : Nat) (Q : Option Value → HS → Prop) => c53 (d := d) (c := c) (z := z) (Q := Q) hT tpJ tk' ck.1 hc
    have c38 := cc 38 (by decide)
    have step : ∀ sg, (sg = 38) → tSg T sg t' → RB (d + 10) 57 26 [.ref 54, .int (nI 1), .int (nI i)] [] (S, J, R, z) Q := by
      intro sg hsg g
      have e9 : tOp T t' = tOc sg := tOp_sg g
      have r9 : tOc sg ≠ 0 ∧ tRk (tOc sg) = 2 ∧ sg < 256 ∧ tOc sg ≤ 9 := by
        rw [hsg]; decide
      have hq := g3 (by rw [g.1]; decide)
      have hst : mSt T n k (t', H', C', false, te', a') = some (tNx T n t', tOc sg :: H, C1, true, (false :: te'.tail), a') := by
        rw [rOp hb m2 (by rw [e9]; exact r9.1) (by rw [e9]; exact r9.2.1) (fun q => absurd q (by decide)), e9]
        congr 6
        all_goals (rw [if_neg (by decide), if_pos (by decide)])
      have ok2 := mSt_ok hst ok'
      have hp2 := (tNx_ok (T := T) (n := n) (t := t') tk'.2.1).2
      obtain ⟨hno, hop⟩ := cNo_op (H := H) r9.2.2.2
      simp (disch := omega) only [w57_26, w57_27, s54, s55, s56, r540, r546, aPush_s, aPush_n, vrf_s, vrf_n, true_and, and_true, false_and, and_false, true_imp_iff, false_imp_iff, not_true_eq_false, not_false_eq_true, eq_self, true_or, or_true, and_self, if_true, if_false, n_lit, n_of, n_an, Nat.add_sub_cancel, nI_add, pk_mul, n_sub, n_ixT, n_cl, n_leT, n_leF, n_ltT, n_ltF, n_eqT, n_eqF, Nat.reduceAdd, Nat.reduceMul, Nat.reduceSub, Nat.reduceEqDiff, Nat.reduceLT, Nat.reduceLeDiff, Nat.mul_one, Nat.one_mul, Nat.add_zero, Nat.zero_add, le_T, nz0, nz1]
      refine c51k hT tpJ tk' ck (fun J2 hJ2 fJ2 => ?_)
      simp (disch := omega) only [w57_30, w57_31, s54, s55, s56, r540, r546, aPush_s, aPush_n, vrf_s, vrf_n, true_and, and_true, false_and, and_false, true_imp_iff, false_imp_iff, not_true_eq_false, not_false_eq_true, eq_self, true_or, or_true, and_self, if_true, if_false, n_lit, n_of, n_an, Nat.add_sub_cancel, nI_add, pk_mul, n_sub, n_ixT, n_cl, n_leT, n_leF, n_ltT, n_ltF, n_eqT, n_eqF, Nat.reduceAdd, Nat.reduceMul, Nat.reduceSub, Nat.reduceEqDiff, Nat.reduceLT, Nat.reduceLeDiff, Nat.mul_one, Nat.one_mul, Nat.add_zero, Nat.zero_add, le_T, nz0, nz1]
      refine sub.use (H := tOc sg :: H) (te := (false :: te'.tail)) ok2 (tNx_dg t') (fun _ x r e => by cases e; exact Or.inr (by omega)) (fun _ => rfl) (by omega) ?_ (tpJ.f56 fJ2) ((kx.f56 fJ).f56 fJ2) (by rw [hno, hop]; exact hJ2) (fun K fK g => ?_) (fun K fK g => ?_)
      · unfold rNd at hD ⊢
        rw [hno, hop]
        omega
      · obtain ⟨t3, H3, C3, C4, te3, a3, m1', m2', m3, m4, m5, m6⟩ := g
        have ok3 := (m1'.ok ok2).1
        have hm3 : (tNx T n t').1 ≤ t3.1 := (m1'.ok ok2).2
        have hl := stl_C m2'
        rw [List.length_cons] at hl
        have hl2 : H3.length + C3.length ≤ t3.1 := ok3.2.1
        have hl3 : t3.1 ≤ t3.2.1 := ok3.1.1
        have hl4 : t3.2.1 ≤ n := ok3.1.2.1
        dsimp only at m6 m2' m3 m4
        rw [hno, hop] at m6
        simp (disch := omega) only [w57_34, w57_35, w57_36, w57_38, s54, s55, s56, r540, r546, aPush_s, aPush_n, vrf_s, vrf_n, true_and, and_true, false_and, and_false, true_imp_iff, false_imp_iff, not_true_eq_false, not_false_eq_true, eq_self, true_or, or_true, and_self, if_true, if_false, n_lit, n_of, n_an, Nat.add_sub_cancel, nI_add, pk_mul, n_sub, n_ixT, n_cl, n_leT, n_leF, n_ltT, n_ltF, n_eqT, n_eqF, Nat.reduceAdd, Nat.reduceMul, Nat.reduceSub, Nat.reduceEqDiff, Nat.reduceLT, Nat.reduceLeDiff, Nat.mul_one, Nat.one_mul, Nat.add_zero, Nat.zero_add, le_T, nz0, nz1]
        refine c55k (c := -nI (tOc sg)) hT m6 (by omega) ((tOc_tr sg r9.2.2.1 r9.1).trans (by rw [hsg])) (fun L hL fL => ?_)
        simp (disch := omega) only [w57_41, w57_44, s54, s55, s56, r540, r546, aPush_s, aPush_n, vrf_s, vrf_n, true_and, and_true, false_and, and_false, true_imp_iff, false_imp_iff, not_true_eq_false, not_false_eq_true, eq_self, true_or, or_true, and_self, if_true, if_false, n_lit, n_of, n_an, Nat.add_sub_cancel, nI_add, pk_mul, n_sub, n_ixT, n_cl, n_leT, n_leF, n_ltT, n_ltF, n_eqT, n_eqF, Nat.reduceAdd, Nat.reduceMul, Nat.reduceSub, Nat.reduceEqDiff, Nat.reduceLT, Nat.reduceLeDiff, Nat.mul_one, Nat.one_mul, Nat.add_zero, Nat.zero_add, le_T, nz0, nz1]
        exact ih (i + 1) L t3 H3 C3 (-nI (tOc sg) :: C4) te3 a3 (((fJ.tr fJ2).tr fK).tr fL) ((m1.tr (mTo.st hst)).tr m1') ((rUp m2').trans (stl_op1 r9.2.2.2 r9.2.1)) (m3.trans he) (True.intro) m5 hL (by omega) (by omega)
      · have k7 : ∃ m, m ≤ 96 ∧ K 54 7 = nI m := g.choose_spec.2.2.2.1
        have k11 : K 54 11 = nI (cNo (tOc sg :: H)) := g.choose_spec.2.2.2.2.2
        have k10 : K 54 10 = nI (cOp (tOc sg :: H)) := g.choose_spec.2.2.2.2.1
        simp (disch := omega) only [w57_34, w57_35, w57_36, w57_38, s54, s55, s56, r540, r546, aPush_s, aPush_n, vrf_s, vrf_n, true_and, and_true, false_and, and_false, true_imp_iff, false_imp_iff, not_true_eq_false, not_false_eq_true, eq_self, true_or, or_true, and_self, if_true, if_false, n_lit, n_of, n_an, Nat.add_sub_cancel, nI_add, pk_mul, n_sub, n_ixT, n_cl, n_leT, n_leF, n_ltT, n_ltF, n_eqT, n_eqF, Nat.reduceAdd, Nat.reduceMul, Nat.reduceSub, Nat.reduceEqDiff, Nat.reduceLT, Nat.reduceLeDiff, Nat.mul_one, Nat.one_mul, Nat.add_zero, Nat.zero_add, le_T, nz0, nz1]
        refine c55b hT k7 (fun L fL e2 e10 e11 e7 => ?_)
        simp (disch := omega) only [w57_41, w57_44, s54, s55, s56, r540, r546, aPush_s, aPush_n, vrf_s, vrf_n, true_and, and_true, false_and, and_false, true_imp_iff, false_imp_iff, not_true_eq_false, not_false_eq_true, eq_self, true_or, or_true, and_self, if_true, if_false, n_lit, n_of, n_an, Nat.add_sub_cancel, nI_add, pk_mul, n_sub, n_ixT, n_cl, n_leT, n_leF, n_ltT, n_ltF, n_eqT, n_eqF, Nat.reduceAdd, Nat.reduceMul, Nat.reduceSub, Nat.reduceEqDiff, Nat.reduceLT, Nat.reduceLeDiff, Nat.mul_one, Nat.one_mul, Nat.add_zero, Nat.zero_add, le_T, nz0, nz1]
        rw [w57_7]
        have fin := hB L (((fJ.tr fJ2).tr fK).tr fL) (g.mv (m1.tr (mTo.st hst)) e2 e7 (by rw [e10, k10, hop]) (by rw [e11, k11, hno]))
        by_cases hi2 : i + 1 < 96
        · simp (disch := omega) only [w57_8, w57_10, w57_13, w57_14, w57_17, w57_18, w57_20, w57_23, w57_26, w57_27, w57_30, w57_31, w57_34, w57_35, w57_36, w57_38, w57_41, w57_44, w57_47, w57_48, s54, s55, s56, r540, r546, aPush_s, aPush_n, vrf_s, vrf_n, true_and, and_true, false_and, and_false, true_imp_iff, false_imp_iff, not_true_eq_false, not_false_eq_true, eq_self, true_or, or_true, and_self, if_true, if_false, n_lit, n_of, n_an, Nat.add_sub_cancel, nI_add, pk_mul, n_sub, n_ixT, n_cl, n_leT, n_leF, n_ltT, n_ltF, n_eqT, n_eqF, Nat.reduceAdd, Nat.reduceMul, Nat.reduceSub, Nat.reduceEqDiff, Nat.reduceLT, Nat.reduceLeDiff, Nat.mul_one, Nat.one_mul, Nat.add_zero, Nat.zero_add, le_T, nz0, nz1]
          exact fin
        · simp (disch := omega) only [w57_8, w57_10, w57_13, w57_14, w57_17, w57_18, w57_20, w57_23, w57_26, w57_27, w57_30, w57_31, w57_34, w57_35, w57_36, w57_38, w57_41, w57_44, w57_47, w57_48, s54, s55, s56, r540, r546, aPush_s, aPush_n, vrf_s, vrf_n, true_and, and_true, false_and, and_false, true_imp_iff, false_imp_iff, not_true_eq_false, not_false_eq_true, eq_self, true_or, or_true, and_self, if_true, if_false, n_lit, n_of, n_an, Nat.add_sub_cancel, nI_add, pk_mul, n_sub, n_ixT, n_cl, n_leT, n_leF, n_ltT, n_ltF, n_eqT, n_eqF, Nat.reduceAdd, Nat.reduceMul, Nat.reduceSub, Nat.reduceEqDiff, Nat.reduceLT, Nat.reduceLeDiff, Nat.mul_one, Nat.one_mul, Nat.add_zero, Nat.zero_add, le_T, nz0, nz1]
          exact fin
    rw [w57_7]
    by_cases q1 : tSg T 38 t'
    · have hq := g3 (by rw [q1.1]; decide)
      simp (disch := omega) only [w57_8, w57_10, w57_13, w57_14, w57_17, w57_18, w57_20, w57_23, s54, s55, s56, r540, r546, aPush_s, aPush_n, vrf_s, vrf_n, true_and, and_true, false_and, and_false, true_imp_iff, false_imp_iff, not_true_eq_false, not_false_eq_true, eq_self, true_or, or_true, and_self, if_true, if_false, n_lit, n_of, n_an, Nat.add_sub_cancel, nI_add, pk_mul, n_sub, n_ixT, n_cl, n_leT, n_leF, n_ltT, n_ltF, n_eqT, n_eqF, Nat.reduceAdd, Nat.reduceMul, Nat.reduceSub, Nat.reduceEqDiff, Nat.reduceLT, Nat.reduceLeDiff, Nat.mul_one, Nat.one_mul, Nat.add_zero, Nat.zero_add, le_T, nz0, nz1, c38, decide_eq_true q1, b2n_t]
      exact step 38 rfl q1
    · have fin : Q (some (.int (nI 1))) (S, J, R, z) := by
        refine hG J fJ ⟨t', H', C', C1, te', a', m1, m2, he, fun _ => absurd ‹4 ≤ 2› (by decide), ?_, ck⟩
        rcases hp with g | g | g
        · exact Or.inl g
        · have key : ∀ x, x < 256 → tRk (tOc x) < 3 → tOc x = 0 ∨ tRk (tOc x) < 2 ∨ x = 38 := by decide +kernel
          by_cases e0 : tOp T t' = 0
          · exact Or.inl e0
          · obtain ⟨s1, s2⟩ := tOp_not hb256 e0
            have e9 := tOp_sg s1
            rcases key _ s2 (by rw [← e9]; exact g) with g | g | g
            · exact Or.inl (e9.trans g)
            · exact Or.inr (Or.inl (by rw [e9]; exact g))
            · rw [g] at s1
              exact absurd s1 q1
        · exact Or.inr (Or.inr g)
      by_cases hi2 : i < 96
      · simp (disch := omega) only [w57_8, w57_10, w57_13, w57_14, w57_17, w57_18, w57_20, w57_23, w57_47, w57_48, s54, s55, s56, r540, r546, aPush_s, aPush_n, vrf_s, vrf_n, true_and, and_true, false_and, and_false, true_imp_iff, false_imp_iff, not_true_eq_false, not_false_eq_true, eq_self, true_or, or_true, and_self, if_true, if_false, n_lit, n_of, n_an, Nat.add_sub_cancel, nI_add, pk_mul, n_sub, n_ixT, n_cl, n_leT, n_leF, n_ltT, n_ltF, n_eqT, n_eqF, Nat.reduceAdd, Nat.reduceMul, Nat.reduceSub, Nat.reduceEqDiff, Nat.reduceLT, Nat.reduceLeDiff, Nat.mul_one, Nat.one_mul, Nat.add_zero, Nat.zero_add, le_T, nz0, nz1, c38, decide_eq_false q1, b2n_f]
        exact fin
      · simp (disch := omega) only [w57_8, w57_10, w57_13, w57_14, w57_17, w57_18, w57_20, w57_23, w57_47, w57_48, s54, s55, s56, r540, r546, aPush_s, aPush_n, vrf_s, vrf_n, true_and, and_true, false_and, and_false, true_imp_iff, false_imp_iff, not_true_eq_false, not_false_eq_true, eq_self, true_or, or_true, and_self, if_true, if_false, n_lit, n_of, n_an, Nat.add_sub_cancel, nI_add, pk_mul, n_sub, n_ixT, n_cl, n_leT, n_leF, n_ltT, n_ltF, n_eqT, n_eqF, Nat.reduceAdd, Nat.reduceMul, Nat.reduceSub, Nat.reduceEqDiff, Nat.reduceLT, Nat.reduceLeDiff, Nat.mul_one, Nat.one_mul, Nat.add_zero, Nat.zero_add, le_T, nz0, nz1]
        exact fin
theorem rBoth (hT : Th S R) (sub : rCon S R T n k 58 3 f) : rCon S R T n k 57 2 f := by
  intro D t H C te a I z ok dg hb ht hf hD tp kx ck
  obtain ⟨d, rfl⟩ : ∃ d, D = d + 11 := ⟨D - 11, by unfold rNd at hD; omega⟩
  obtain ⟨s54, s55, s56, r540, r546⟩ := id hT
  simp (disch := omega) only [e57, w57_0, w57_1, s54, s55, s56, r540, r546, aPush_s, aPush_n, vrf_s, vrf_n, true_and, and_true, false_and, and_false, true_imp_iff, false_imp_iff, not_true_eq_false, not_false_eq_true, eq_self, true_or, or_true, and_self, if_true, if_false, n_lit, n_of, n_an, Nat.add_sub_cancel, nI_add, pk_mul, n_sub, n_ixT, n_cl, n_leT, n_leF, n_ltT, n_ltF, n_eqT, n_eqF, Nat.reduceAdd, Nat.reduceMul, Nat.reduceSub, Nat.reduceEqDiff, Nat.reduceLT, Nat.reduceLeDiff, Nat.mul_one, Nat.one_mul, Nat.add_zero, Nat.zero_add, le_T, nz0, nz1]
  refine sub.use ok dg (fun _ => (hb (by decide)).le (by decide)) (fun _ => ht (by decide)) hf (by unfold rNd at hD ⊢; omega) tp kx ck (fun J fJ g => ?_) (fun J fJ g => ?_)
  · obtain ⟨t', H', C', C1, te', a', m1, m2, m3, m4, m5, m6⟩ := g
    simp (disch := omega) only [w57_4, w57_5, w57_6, s54, s55, s56, r540, r546, aPush_s, aPush_n, vrf_s, vrf_n, true_and, and_true, false_and, and_false, true_imp_iff, false_imp_iff, not_true_eq_false, not_false_eq_true, eq_self, true_or, or_true, and_self, if_true, if_false, n_lit, n_of, n_an, Nat.add_sub_cancel, nI_add, pk_mul, n_sub, n_ixT, n_cl, n_leT, n_leF, n_ltT, n_ltF, n_eqT, n_eqF, Nat.reduceAdd, Nat.reduceMul, Nat.reduceSub, Nat.reduceEqDiff, Nat.reduceLT, Nat.reduceLeDiff, Nat.mul_one, Nat.one_mul, Nat.add_zero, Nat.zero_add, le_T, nz0, nz1]
    exact l57 hT sub ok dg (hb (by decide)) hf hD tp kx (fun J fJ g => ⟨J, rfl, fJ, Or.inl ⟨rfl, g⟩⟩) (fun J fJ g => ⟨J, rfl, fJ, Or.inr ⟨rfl, g⟩⟩) 97 0 J t' H' C' C1 te' a' fJ m1 (rUp m2) m3 (True.intro) m5 m6 (Nat.zero_le _) (by omega)
  · simp (disch := omega) only [w57_4, w57_5, w57_6, s54, s55, s56, r540, r546, aPush_s, aPush_n, vrf_s, vrf_n, true_and, and_true, false_and, and_false, true_imp_iff, false_imp_iff, not_true_eq_false, not_false_eq_true, eq_self, true_or, or_true, and_self, if_true, if_false, n_lit, n_of, n_an, Nat.add_sub_cancel, nI_add, pk_mul, n_sub, n_ixT, n_cl, n_leT, n_leF, n_ltT, n_ltF, n_eqT, n_eqF, Nat.reduceAdd, Nat.reduceMul, Nat.reduceSub, Nat.reduceEqDiff, Nat.reduceLT, Nat.reduceLeDiff, Nat.mul_one, Nat.one_mul, Nat.add_zero, Nat.zero_add, le_T, nz0, nz1]
    rw [w57_7]
    simp (disch := omega) only [w57_8, w57_10, w57_13, w57_14, w57_17, w57_18, w57_20, w57_23, w57_26, w57_27, w57_30, w57_31, w57_34, w57_35, w57_36, w57_38, w57_41, w57_44, w57_47, w57_48, s54, s55, s56, r540, r546, aPush_s, aPush_n, vrf_s, vrf_n, true_and, and_true, false_and, and_false, true_imp_iff, false_imp_iff, not_true_eq_false, not_false_eq_true, eq_self, true_or, or_true, and_self, if_true, if_false, n_lit, n_of, n_an, Nat.add_sub_cancel, nI_add, pk_mul, n_sub, n_ixT, n_cl, n_leT, n_leF, n_ltT, n_ltF, n_eqT, n_eqF, Nat.reduceAdd, Nat.reduceMul, Nat.reduceSub, Nat.reduceEqDiff, Nat.reduceLT, Nat.reduceLeDiff, Nat.mul_one, Nat.one_mul, Nat.add_zero, Nat.zero_add, le_T, nz0, nz1]
    exact ⟨J, rfl, fJ, Or.inr ⟨rfl, g⟩⟩
/-- Either: its loop -/
theorem l56 (hT : Th S R) (sub : rCon S R T n k 57 2 f) (ok : mOk n (t, H, C, true, te, a)) (dg : tDg T n t) (hb : blk 1 H) (hf : 97 ≤ t.1 + f) (hD : rNd 1 H ≤ d + 11) (tp : Tp I T n) (kx : Kx S I R) (hG : ∀ J, F56 I J → rGd T n k 1 1 (t, H, C, true, te, a) J → Q (some (.int (nI 1))) (S, J, R, z)) (hB : ∀ J, F56 I J → rBd T n k (t, H, C, true, te, a) J → Q (some (.int (nI 0))) (S, J, R, z)) : ∀ (w i : Nat) (J : Nat → Nat → Int32) (t' : Tok) (H' : List Nat) (C' C1 : List Int32) (te' : List Bool) (a' : Nat), F56 I J → mTo T n k (t, H, C, true, te, a) (t', H', C', false, te', a') → stl 1 H' C' = stl 1 H C1 → te'.tail = te.tail → True → mPs T 2 te' t' → Ck J k t' C1 a' (cOp H) (cNo H) → i ≤ t'.1 → 96 < t'.1 + w → RB (d + 10) 56 7 [.ref 54, .int (nI 1), .int (nI i)] [] (S, J, R, z) Q := by
  obtain ⟨s54, s55, s56, r540, r546⟩ := id hT
  have hb256 := tp.2.2.2
  have n96 := tp.1
  have o4 : te.length = cOp H + 1 := ok.2.2.2.2.1
  intro w
  induction w with
  | zero =>
    intro i J t' H' C' C1 te' a' fJ m1 m2 he h4 hp ck hi hw
    have ok' := (m1.ok ok).1
    have g1 : t'.1 ≤ t'.2.1 := ok'.1.1
    have g2 : t'.2.1 ≤ n := ok'.1.2.1
    omega
  | succ w ih =>
    intro i J t' H' C' C1 te' a' fJ m1 m2 he h4 hp ck hi hw
    have ok' := (m1.ok ok).1
    have hm : t.1 ≤ t'.1 := (m1.ok ok).2
    have tk' : tOk n t' := ok'.1
    have g1 := tk'.1
    have g2 := tk'.2.1
    have g3 := tk'.2.2.2
    have tpJ := tp.f56 fJ
    have j2 := ck.1.1
    have cc := fun (c : Nat) (hc : c < 256) (d : Nat) (Q : Option Value → HS → Prop) => c53 (d := d) (c := c) (z := z) (Q := Q) hT tpJ tk' ck.1 hc
    have c124 := cc 124 (by decide)
    have step : ∀ sg, (sg = 124) → tSg T sg t' → RB (d + 10) 56 26 [.ref 54, .int (nI 1), .int (nI i)] [] (S, J, R, z) Q := by
      intro sg hsg g
      have e9 : tOp T t' = tOc sg := tOp_sg g
      have r9 : tOc sg ≠ 0 ∧ tRk (tOc sg) = 1 ∧ sg < 256 ∧ tOc sg ≤ 9 := by
        rw [hsg]; decide
      have hq := g3 (by rw [g.1]; decide)
      have hst : mSt T n k (t', H', C', false, te', a') = some (tNx T n t', tOc sg :: H, C1, true, (false :: te'.tail), a') := by
        rw [rOp hb m2 (by rw [e9]; exact r9.1) (by rw [e9]; exact r9.2.1) (fun q => absurd q (by decide)), e9]
        congr 6
        all_goals (rw [if_neg (by decide), if_pos (by decide)])
      have ok2 := mSt_ok hst ok'
      have hp2 := (tNx_ok (T := T) (n := n) (t := t') tk'.2.1).2
      obtain ⟨hno, hop⟩ := cNo_op (H := H) r9.2.2.2
      simp (disch := omega) only [w56_26, w56_27, s54, s55, s56, r540, r546, aPush_s, aPush_n, vrf_s, vrf_n, true_and, and_true, false_and, and_false, true_imp_iff, false_imp_iff, not_true_eq_false, not_false_eq_true, eq_self, true_or, or_true, and_self, if_true, if_false, n_lit, n_of, n_an, Nat.add_sub_cancel, nI_add, pk_mul, n_sub, n_ixT, n_cl, n_leT, n_leF, n_ltT, n_ltF, n_eqT, n_eqF, Nat.reduceAdd, Nat.reduceMul, Nat.reduceSub, Nat.reduceEqDiff, Nat.reduceLT, Nat.reduceLeDiff, Nat.mul_one, Nat.one_mul, Nat.add_zero, Nat.zero_add, le_T, nz0, nz1]
      refine c51k hT tpJ tk' ck (fun J2 hJ2 fJ2 => ?_)
      simp (disch := omega) only [w56_30, w56_31, s54, s55, s56, r540, r546, aPush_s, aPush_n, vrf_s, vrf_n, true_and, and_true, false_and, and_false, true_imp_iff, false_imp_iff, not_true_eq_false, not_false_eq_true, eq_self, true_or, or_true, and_self, if_true, if_false, n_lit, n_of, n_an, Nat.add_sub_cancel, nI_add, pk_mul, n_sub, n_ixT, n_cl, n_leT, n_leF, n_ltT, n_ltF, n_eqT, n_eqF, Nat.reduceAdd, Nat.reduceMul, Nat.reduceSub, Nat.reduceEqDiff, Nat.reduceLT, Nat.reduceLeDiff, Nat.mul_one, Nat.one_mul, Nat.add_zero, Nat.zero_add, le_T, nz0, nz1]
      refine sub.use (H := tOc sg :: H) (te := (false :: te'.tail)) ok2 (tNx_dg t') (fun _ x r e => by cases e; exact Or.inr (by omega)) (fun _ => rfl) (by omega) ?_ (tpJ.f56 fJ2) ((kx.f56 fJ).f56 fJ2) (by rw [hno, hop]; exact hJ2) (fun K fK g => ?_) (fun K fK g => ?_)
      · unfold rNd at hD ⊢
        rw [hno, hop]
        omega
      · obtain ⟨t3, H3, C3, C4, te3, a3, m1', m2', m3, m4, m5, m6⟩ := g
        have ok3 := (m1'.ok ok2).1
        have hm3 : (tNx T n t').1 ≤ t3.1 := (m1'.ok ok2).2
        have hl := stl_C m2'
        rw [List.length_cons] at hl
        have hl2 : H3.length + C3.length ≤ t3.1 := ok3.2.1
        have hl3 : t3.1 ≤ t3.2.1 := ok3.1.1
        have hl4 : t3.2.1 ≤ n := ok3.1.2.1
        dsimp only at m6 m2' m3 m4
        rw [hno, hop] at m6
        simp (disch := omega) only [w56_34, w56_35, w56_36, w56_38, s54, s55, s56, r540, r546, aPush_s, aPush_n, vrf_s, vrf_n, true_and, and_true, false_and, and_false, true_imp_iff, false_imp_iff, not_true_eq_false, not_false_eq_true, eq_self, true_or, or_true, and_self, if_true, if_false, n_lit, n_of, n_an, Nat.add_sub_cancel, nI_add, pk_mul, n_sub, n_ixT, n_cl, n_leT, n_leF, n_ltT, n_ltF, n_eqT, n_eqF, Nat.reduceAdd, Nat.reduceMul, Nat.reduceSub, Nat.reduceEqDiff, Nat.reduceLT, Nat.reduceLeDiff, Nat.mul_one, Nat.one_mul, Nat.add_zero, Nat.zero_add, le_T, nz0, nz1]
        refine c55k (c := -nI (tOc sg)) hT m6 (by omega) ((tOc_tr sg r9.2.2.1 r9.1).trans (by rw [hsg])) (fun L hL fL => ?_)
        simp (disch := omega) only [w56_41, w56_44, s54, s55, s56, r540, r546, aPush_s, aPush_n, vrf_s, vrf_n, true_and, and_true, false_and, and_false, true_imp_iff, false_imp_iff, not_true_eq_false, not_false_eq_true, eq_self, true_or, or_true, and_self, if_true, if_false, n_lit, n_of, n_an, Nat.add_sub_cancel, nI_add, pk_mul, n_sub, n_ixT, n_cl, n_leT, n_leF, n_ltT, n_ltF, n_eqT, n_eqF, Nat.reduceAdd, Nat.reduceMul, Nat.reduceSub, Nat.reduceEqDiff, Nat.reduceLT, Nat.reduceLeDiff, Nat.mul_one, Nat.one_mul, Nat.add_zero, Nat.zero_add, le_T, nz0, nz1]
        exact ih (i + 1) L t3 H3 C3 (-nI (tOc sg) :: C4) te3 a3 (((fJ.tr fJ2).tr fK).tr fL) ((m1.tr (mTo.st hst)).tr m1') ((rUp m2').trans (stl_op1 r9.2.2.2 r9.2.1)) (m3.trans he) (True.intro) m5 hL (by omega) (by omega)
      · have k7 : ∃ m, m ≤ 96 ∧ K 54 7 = nI m := g.choose_spec.2.2.2.1
        have k11 : K 54 11 = nI (cNo (tOc sg :: H)) := g.choose_spec.2.2.2.2.2
        have k10 : K 54 10 = nI (cOp (tOc sg :: H)) := g.choose_spec.2.2.2.2.1
        simp (disch := omega) only [w56_34, w56_35, w56_36, w56_38, s54, s55, s56, r540, r546, aPush_s, aPush_n, vrf_s, vrf_n, true_and, and_true, false_and, and_false, true_imp_iff, false_imp_iff, not_true_eq_false, not_false_eq_true, eq_self, true_or, or_true, and_self, if_true, if_false, n_lit, n_of, n_an, Nat.add_sub_cancel, nI_add, pk_mul, n_sub, n_ixT, n_cl, n_leT, n_leF, n_ltT, n_ltF, n_eqT, n_eqF, Nat.reduceAdd, Nat.reduceMul, Nat.reduceSub, Nat.reduceEqDiff, Nat.reduceLT, Nat.reduceLeDiff, Nat.mul_one, Nat.one_mul, Nat.add_zero, Nat.zero_add, le_T, nz0, nz1]
        refine c55b hT k7 (fun L fL e2 e10 e11 e7 => ?_)
        simp (disch := omega) only [w56_41, w56_44, s54, s55, s56, r540, r546, aPush_s, aPush_n, vrf_s, vrf_n, true_and, and_true, false_and, and_false, true_imp_iff, false_imp_iff, not_true_eq_false, not_false_eq_true, eq_self, true_or, or_true, and_self, if_true, if_false, n_lit, n_of, n_an, Nat.add_sub_cancel, nI_add, pk_mul, n_sub, n_ixT, n_cl, n_leT, n_leF, n_ltT, n_ltF, n_eqT, n_eqF, Nat.reduceAdd, Nat.reduceMul, Nat.reduceSub, Nat.reduceEqDiff, Nat.reduceLT, Nat.reduceLeDiff, Nat.mul_one, Nat.one_mul, Nat.add_zero, Nat.zero_add, le_T, nz0, nz1]
        rw [w56_7]
        have fin := hB L (((fJ.tr fJ2).tr fK).tr fL) (g.mv (m1.tr (mTo.st hst)) e2 e7 (by rw [e10, k10, hop]) (by rw [e11, k11, hno]))
        by_cases hi2 : i + 1 < 96
        · simp (disch := omega) only [w56_8, w56_10, w56_13, w56_14, w56_17, w56_18, w56_20, w56_23, w56_26, w56_27, w56_30, w56_31, w56_34, w56_35, w56_36, w56_38, w56_41, w56_44, w56_47, w56_48, s54, s55, s56, r540, r546, aPush_s, aPush_n, vrf_s, vrf_n, true_and, and_true, false_and, and_false, true_imp_iff, false_imp_iff, not_true_eq_false, not_false_eq_true, eq_self, true_or, or_true, and_self, if_true, if_false, n_lit, n_of, n_an, Nat.add_sub_cancel, nI_add, pk_mul, n_sub, n_ixT, n_cl, n_leT, n_leF, n_ltT, n_ltF, n_eqT, n_eqF, Nat.reduceAdd, Nat.reduceMul, Nat.reduceSub, Nat.reduceEqDiff, Nat.reduceLT, Nat.reduceLeDiff, Nat.mul_one, Nat.one_mul, Nat.add_zero, Nat.zero_add, le_T, nz0, nz1]
          exact fin
        · simp (disch := omega) only [w56_8, w56_10, w56_13, w56_14, w56_17, w56_18, w56_20, w56_23, w56_26, w56_27, w56_30, w56_31, w56_34, w56_35, w56_36, w56_38, w56_41, w56_44, w56_47, w56_48, s54, s55, s56, r540, r546, aPush_s, aPush_n, vrf_s, vrf_n, true_and, and_true, false_and, and_false, true_imp_iff, false_imp_iff, not_true_eq_false, not_false_eq_true, eq_self, true_or, or_true, and_self, if_true, if_false, n_lit, n_of, n_an, Nat.add_sub_cancel, nI_add, pk_mul, n_sub, n_ixT, n_cl, n_leT, n_leF, n_ltT, n_ltF, n_eqT, n_eqF, Nat.reduceAdd, Nat.reduceMul, Nat.reduceSub, Nat.reduceEqDiff, Nat.reduceLT, Nat.reduceLeDiff, Nat.mul_one, Nat.one_mul, Nat.add_zero, Nat.zero_add, le_T, nz0, nz1]
          exact fin
    rw [w56_7]
    by_cases q1 : tSg T 124 t'
    · have hq := g3 (by rw [q1.1]; decide)
      simp (disch := omega) only [w56_8, w56_10, w56_13, w56_14, w56_17, w56_18, w56_20, w56_23, s54, s55, s56, r540, r546, aPush_s, aPush_n, vrf_s, vrf_n, true_and, and_true, false_and, and_false, true_imp_iff, false_imp_iff, not_true_eq_false, not_false_eq_true, eq_self, true_or, or_true, and_self, if_true, if_false, n_lit, n_of, n_an, Nat.add_sub_cancel, nI_add, pk_mul, n_sub, n_ixT, n_cl, n_leT, n_leF, n_ltT, n_ltF, n_eqT, n_eqF, Nat.reduceAdd, Nat.reduceMul, Nat.reduceSub, Nat.reduceEqDiff, Nat.reduceLT, Nat.reduceLeDiff, Nat.mul_one, Nat.one_mul, Nat.add_zero, Nat.zero_add, le_T, nz0, nz1, c124, decide_eq_true q1, b2n_t]
      exact step 124 rfl q1
    · have fin : Q (some (.int (nI 1))) (S, J, R, z) := by
        refine hG J fJ ⟨t', H', C', C1, te', a', m1, m2, he, fun _ => absurd ‹4 ≤ 1› (by decide), ?_, ck⟩
        rcases hp with g | g | g
        · exact Or.inl g
        · have key : ∀ x, x < 256 → tRk (tOc x) < 2 → tOc x = 0 ∨ tRk (tOc x) < 1 ∨ x = 124 := by decide +kernel
          by_cases e0 : tOp T t' = 0
          · exact Or.inl e0
          · obtain ⟨s1, s2⟩ := tOp_not hb256 e0
            have e9 := tOp_sg s1
            rcases key _ s2 (by rw [← e9]; exact g) with g | g | g
            · exact Or.inl (e9.trans g)
            · exact Or.inr (Or.inl (by rw [e9]; exact g))
            · rw [g] at s1
              exact absurd s1 q1
        · exact Or.inr (Or.inr g)
      by_cases hi2 : i < 96
      · simp (disch := omega) only [w56_8, w56_10, w56_13, w56_14, w56_17, w56_18, w56_20, w56_23, w56_47, w56_48, s54, s55, s56, r540, r546, aPush_s, aPush_n, vrf_s, vrf_n, true_and, and_true, false_and, and_false, true_imp_iff, false_imp_iff, not_true_eq_false, not_false_eq_true, eq_self, true_or, or_true, and_self, if_true, if_false, n_lit, n_of, n_an, Nat.add_sub_cancel, nI_add, pk_mul, n_sub, n_ixT, n_cl, n_leT, n_leF, n_ltT, n_ltF, n_eqT, n_eqF, Nat.reduceAdd, Nat.reduceMul, Nat.reduceSub, Nat.reduceEqDiff, Nat.reduceLT, Nat.reduceLeDiff, Nat.mul_one, Nat.one_mul, Nat.add_zero, Nat.zero_add, le_T, nz0, nz1, c124, decide_eq_false q1, b2n_f]
        exact fin
      · simp (disch := omega) only [w56_8, w56_10, w56_13, w56_14, w56_17, w56_18, w56_20, w56_23, w56_47, w56_48, s54, s55, s56, r540, r546, aPush_s, aPush_n, vrf_s, vrf_n, true_and, and_true, false_and, and_false, true_imp_iff, false_imp_iff, not_true_eq_false, not_false_eq_true, eq_self, true_or, or_true, and_self, if_true, if_false, n_lit, n_of, n_an, Nat.add_sub_cancel, nI_add, pk_mul, n_sub, n_ixT, n_cl, n_leT, n_leF, n_ltT, n_ltF, n_eqT, n_eqF, Nat.reduceAdd, Nat.reduceMul, Nat.reduceSub, Nat.reduceEqDiff, Nat.reduceLT, Nat.reduceLeDiff, Nat.mul_one, Nat.one_mul, Nat.add_zero, Nat.zero_add, le_T, nz0, nz1]
        exact fin
theorem rEither (hT : Th S R) (sub : rCon S R T n k 57 2 f) : rCon S R T n k 56 1 f := by
  intro D t H C te a I z ok dg hb ht hf hD tp kx ck
  obtain ⟨d, rfl⟩ : ∃ d, D = d + 11 := ⟨D - 11, by unfold rNd at hD; omega⟩
  obtain ⟨s54, s55, s56, r540, r546⟩ := id hT
  simp (disch := omega) only [e56, w56_0, w56_1, s54, s55, s56, r540, r546, aPush_s, aPush_n, vrf_s, vrf_n, true_and, and_true, false_and, and_false, true_imp_iff, false_imp_iff, not_true_eq_false, not_false_eq_true, eq_self, true_or, or_true, and_self, if_true, if_false, n_lit, n_of, n_an, Nat.add_sub_cancel, nI_add, pk_mul, n_sub, n_ixT, n_cl, n_leT, n_leF, n_ltT, n_ltF, n_eqT, n_eqF, Nat.reduceAdd, Nat.reduceMul, Nat.reduceSub, Nat.reduceEqDiff, Nat.reduceLT, Nat.reduceLeDiff, Nat.mul_one, Nat.one_mul, Nat.add_zero, Nat.zero_add, le_T, nz0, nz1]
  refine sub.use ok dg (fun _ => (hb (by decide)).le (by decide)) (fun _ => ht (by decide)) hf (by unfold rNd at hD ⊢; omega) tp kx ck (fun J fJ g => ?_) (fun J fJ g => ?_)
  · obtain ⟨t', H', C', C1, te', a', m1, m2, m3, m4, m5, m6⟩ := g
    simp (disch := omega) only [w56_4, w56_5, w56_6, s54, s55, s56, r540, r546, aPush_s, aPush_n, vrf_s, vrf_n, true_and, and_true, false_and, and_false, true_imp_iff, false_imp_iff, not_true_eq_false, not_false_eq_true, eq_self, true_or, or_true, and_self, if_true, if_false, n_lit, n_of, n_an, Nat.add_sub_cancel, nI_add, pk_mul, n_sub, n_ixT, n_cl, n_leT, n_leF, n_ltT, n_ltF, n_eqT, n_eqF, Nat.reduceAdd, Nat.reduceMul, Nat.reduceSub, Nat.reduceEqDiff, Nat.reduceLT, Nat.reduceLeDiff, Nat.mul_one, Nat.one_mul, Nat.add_zero, Nat.zero_add, le_T, nz0, nz1]
    exact l56 hT sub ok dg (hb (by decide)) hf hD tp kx (fun J fJ g => ⟨J, rfl, fJ, Or.inl ⟨rfl, g⟩⟩) (fun J fJ g => ⟨J, rfl, fJ, Or.inr ⟨rfl, g⟩⟩) 97 0 J t' H' C' C1 te' a' fJ m1 (rUp m2) m3 (True.intro) m5 m6 (Nat.zero_le _) (by omega)
  · simp (disch := omega) only [w56_4, w56_5, w56_6, s54, s55, s56, r540, r546, aPush_s, aPush_n, vrf_s, vrf_n, true_and, and_true, false_and, and_false, true_imp_iff, false_imp_iff, not_true_eq_false, not_false_eq_true, eq_self, true_or, or_true, and_self, if_true, if_false, n_lit, n_of, n_an, Nat.add_sub_cancel, nI_add, pk_mul, n_sub, n_ixT, n_cl, n_leT, n_leF, n_ltT, n_ltF, n_eqT, n_eqF, Nat.reduceAdd, Nat.reduceMul, Nat.reduceSub, Nat.reduceEqDiff, Nat.reduceLT, Nat.reduceLeDiff, Nat.mul_one, Nat.one_mul, Nat.add_zero, Nat.zero_add, le_T, nz0, nz1]
    rw [w56_7]
    simp (disch := omega) only [w56_8, w56_10, w56_13, w56_14, w56_17, w56_18, w56_20, w56_23, w56_26, w56_27, w56_30, w56_31, w56_34, w56_35, w56_36, w56_38, w56_41, w56_44, w56_47, w56_48, s54, s55, s56, r540, r546, aPush_s, aPush_n, vrf_s, vrf_n, true_and, and_true, false_and, and_false, true_imp_iff, false_imp_iff, not_true_eq_false, not_false_eq_true, eq_self, true_or, or_true, and_self, if_true, if_false, n_lit, n_of, n_an, Nat.add_sub_cancel, nI_add, pk_mul, n_sub, n_ixT, n_cl, n_leT, n_leF, n_ltT, n_ltF, n_eqT, n_eqF, Nat.reduceAdd, Nat.reduceMul, Nat.reduceSub, Nat.reduceEqDiff, Nat.reduceLT, Nat.reduceLeDiff, Nat.mul_one, Nat.one_mul, Nat.add_zero, Nat.zero_add, le_T, nz0, nz1]
    exact ⟨J, rfl, fJ, Or.inr ⟨rfl, g⟩⟩
end
