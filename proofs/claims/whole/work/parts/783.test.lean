/-! TEXT: a TEST; all the readers -/
section
variable {d n k p q a b o f l : Nat} {T : Nat → Nat} {t : Tok} {H : List Nat} {C : List Int32} {te : List Bool} {S : Nat → Nat × Nat} {I J K : Nat → Nat → Int32} {R : Nat → Nat → Option Nat} {z : Nat × Nat} {x y : Int32} {Q : Option Value → HS → Prop} {l1 l2 : Value} {M M' : MS}
theorem rTest (hT : Th S R) (sub : rCon S R T n k 59 4 f) : rCon S R T n k 58 3 f := by
  intro D t H C te a I z ok dg hb ht hf hD tp kx ck
  obtain ⟨d, rfl⟩ : ∃ d, D = d + 11 := ⟨D - 11, by unfold rNd at hD; omega⟩
  obtain ⟨s54, s55, s56, r540, r546⟩ := id hT
  have hb256 := tp.2.2.2
  have n96 := tp.1
  have hb3 : blk 3 H := hb (by decide)
  have ht3 : te.headD false = false := ht (by decide)
  have o4 : te.length = cOp H + 1 := ok.2.2.2.2.1
  simp (disch := omega) only [e58, w58_0, w58_1, s54, s55, s56, r540, r546, aPush_s, aPush_n, vrf_s, vrf_n, true_and, and_true, false_and, and_false, true_imp_iff, false_imp_iff, not_true_eq_false, not_false_eq_true, eq_self, true_or, or_true, and_self, if_true, if_false, n_lit, n_of, n_an, Nat.add_sub_cancel, nI_add, pk_mul, n_sub, n_ixT, n_cl, n_leT, n_leF, n_ltT, n_ltF, n_eqT, n_eqF, Nat.reduceAdd, Nat.reduceMul, Nat.reduceSub, Nat.reduceEqDiff, Nat.reduceLT, Nat.reduceLeDiff, Nat.mul_one, Nat.one_mul, Nat.add_zero, Nat.zero_add, le_T, nz0, nz1]
  refine sub.use ok dg (fun _ => hb3.le (by decide)) (fun q => absurd q (by decide)) hf (by unfold rNd at hD ⊢; omega) tp kx ck (fun J fJ g => ?_) (fun J fJ g => ?_)
  · obtain ⟨t', H', C', C1, te', a', m1, m2, m3, m4, m5, m6⟩ := g
    have m4 : te' = te := m4 (by decide)
    have m2 : stl 4 H' C' = stl 4 H C1 := m2
    have ok' := (m1.ok ok).1
    have hm : t.1 ≤ t'.1 := (m1.ok ok).2
    have tk' : tOk n t' := ok'.1
    have g1 := tk'.1
    have g2 := tk'.2.1
    have g3 := tk'.2.2.2
    have tpJ := tp.f56 fJ
    have j2 := m6.1.1
    have cc := fun (c : Nat) (hc : c < 256) (d : Nat) (Q : Option Value → HS → Prop) => c53 (d := d) (c := c) (z := z) (Q := Q) hT tpJ tk' m6.1 hc
    have c60 := cc 60 (by decide)
    have c61 := cc 61 (by decide)
    have c62 := cc 62 (by decide)
    have step : ∀ sg, (sg = 60 ∨ sg = 61 ∨ sg = 62) → tSg T sg t' → RB (d + 10) 58 38 [.ref 54, .long 0, .long 0] [] (S, J, R, z) (rPo T n k 3 (t, H, C, true, te, a) S I R z) := by
      intro sg hsg g
      have e9 : tOp T t' = tOc sg := tOp_sg g
      have r9 : tOc sg ≠ 0 ∧ tRk (tOc sg) = 3 ∧ sg < 256 ∧ tOc sg ≤ 9 := by
        rcases hsg with rfl | rfl | rfl <;> decide
      have hq := g3 (by rw [g.1]; decide)
      have jb := tpJ.2.2.1 t'.1 (by omega)
      rw [g.2] at jb
      have hst : mSt T n k (t', H', C', false, te', a') = some (tNx T n t', tOc sg :: H, C1, true, true :: te.tail, a') := by
        rw [rOp hb3 (rUp m2) (by rw [e9]; exact r9.1) (by rw [e9]; exact r9.2.1) (fun _ => by rw [m4]; exact ht3), e9, if_pos rfl, m4]
      have ok2 := mSt_ok hst ok'
      have hp2 := (tNx_ok (T := T) (n := n) (t := t') tk'.2.1).2
      obtain ⟨hno, hop⟩ := cNo_op (H := H) r9.2.2.2
      simp (disch := omega) only [w58_38, w58_39, w58_42, w58_43, w58_46, w58_47, w58_48, w58_49, s54, s55, s56, r540, r546, aPush_s, aPush_n, vrf_s, vrf_n, true_and, and_true, false_and, and_false, true_imp_iff, false_imp_iff, not_true_eq_false, not_false_eq_true, eq_self, true_or, or_true, and_self, if_true, if_false, n_lit, n_of, n_an, Nat.add_sub_cancel, nI_add, pk_mul, n_sub, n_ixT, n_cl, n_leT, n_leF, n_ltT, n_ltF, n_eqT, n_eqF, Nat.reduceAdd, Nat.reduceMul, Nat.reduceSub, Nat.reduceEqDiff, Nat.reduceLT, Nat.reduceLeDiff, Nat.mul_one, Nat.one_mul, Nat.add_zero, Nat.zero_add, le_T, nz0, nz1, j2, jb]
      refine c51k hT tpJ tk' m6 (fun J2 hJ2 fJ2 => ?_)
      simp (disch := omega) only [w58_52, w58_53, s54, s55, s56, r540, r546, aPush_s, aPush_n, vrf_s, vrf_n, true_and, and_true, false_and, and_false, true_imp_iff, false_imp_iff, not_true_eq_false, not_false_eq_true, eq_self, true_or, or_true, and_self, if_true, if_false, n_lit, n_of, n_an, Nat.add_sub_cancel, nI_add, pk_mul, n_sub, n_ixT, n_cl, n_leT, n_leF, n_ltT, n_ltF, n_eqT, n_eqF, Nat.reduceAdd, Nat.reduceMul, Nat.reduceSub, Nat.reduceEqDiff, Nat.reduceLT, Nat.reduceLeDiff, Nat.mul_one, Nat.one_mul, Nat.add_zero, Nat.zero_add, le_T, nz0, nz1]
      refine sub.use (H := tOc sg :: H) (te := true :: te.tail) ok2 (tNx_dg t') (fun _ x r e => by cases e; exact Or.inr (by omega)) (fun q => absurd q (by decide)) (by omega) ?_ (tpJ.f56 fJ2) ((kx.f56 fJ).f56 fJ2) (by rw [hno, hop]; exact hJ2) (fun K fK g => ?_) (fun K fK g => ?_)
      · unfold rNd at hD ⊢
        rw [hno, hop]
        omega
      · obtain ⟨t3, H3, C3, C4, te3, a3, m1', m2', m3', m4', m5', m6'⟩ := g
        have ok3 := (m1'.ok ok2).1
        have hl := stl_C m2'
        rw [List.length_cons] at hl
        have hl2 : H3.length + C3.length ≤ t3.1 := ok3.2.1
        have hl3 : t3.1 ≤ t3.2.1 := ok3.1.1
        have hl4 : t3.2.1 ≤ n := ok3.1.2.1
        have m4' : te3 = true :: te.tail := m4' (by decide)
        dsimp only at m6' m2'
        rw [hno, hop] at m6'
        simp (disch := omega) only [w58_56, w58_57, w58_58, w58_59, w58_60, s54, s55, s56, r540, r546, aPush_s, aPush_n, vrf_s, vrf_n, true_and, and_true, false_and, and_false, true_imp_iff, false_imp_iff, not_true_eq_false, not_false_eq_true, eq_self, true_or, or_true, and_self, if_true, if_false, n_lit, n_of, n_an, Nat.add_sub_cancel, nI_add, pk_mul, n_sub, n_ixT, n_cl, n_leT, n_leF, n_ltT, n_ltF, n_eqT, n_eqF, Nat.reduceAdd, Nat.reduceMul, Nat.reduceSub, Nat.reduceEqDiff, Nat.reduceLT, Nat.reduceLeDiff, Nat.mul_one, Nat.one_mul, Nat.add_zero, Nat.zero_add, le_T, nz0, nz1]
        refine c55k (c := -nI (tOc sg)) hT m6' (by omega) (tOc_tr sg r9.2.2.1 r9.1) (fun L hL fL => ?_)
        simp (disch := omega) only [w58_63, w58_64, s54, s55, s56, r540, r546, aPush_s, aPush_n, vrf_s, vrf_n, true_and, and_true, false_and, and_false, true_imp_iff, false_imp_iff, not_true_eq_false, not_false_eq_true, eq_self, true_or, or_true, and_self, if_true, if_false, n_lit, n_of, n_an, Nat.add_sub_cancel, nI_add, pk_mul, n_sub, n_ixT, n_cl, n_leT, n_leF, n_ltT, n_ltF, n_eqT, n_eqF, Nat.reduceAdd, Nat.reduceMul, Nat.reduceSub, Nat.reduceEqDiff, Nat.reduceLT, Nat.reduceLeDiff, Nat.mul_one, Nat.one_mul, Nat.add_zero, Nat.zero_add, le_T, nz0, nz1]
        refine ⟨L, rfl, ((fJ.tr fJ2).tr fK).tr fL, Or.inl ⟨rfl, t3, H3, C3, -nI (tOc sg) :: C4, te3, a3, (m1.tr (mTo.st hst)).tr m1', (rUp m2').trans (stl_op1 r9.2.2.2 r9.2.1), by rw [m4']; rfl, fun q => absurd q (by decide), ?_, hL⟩⟩
        rcases m5' with g | g | g
        · exact Or.inl g
        · by_cases e3 : tRk (tOp T t3) = 3
          · exact Or.inr (Or.inr ⟨e3, by rw [m4']; rfl⟩)
          · exact Or.inr (Or.inl (by omega))
        · exact Or.inr (Or.inr g)
      · have k7 : ∃ m, m ≤ 96 ∧ K 54 7 = nI m := g.choose_spec.2.2.2.1
        have k11 : K 54 11 = nI (cNo (tOc sg :: H)) := g.choose_spec.2.2.2.2.2
        have k10 : K 54 10 = nI (cOp (tOc sg :: H)) := g.choose_spec.2.2.2.2.1
        simp (disch := omega) only [w58_56, w58_57, w58_58, w58_59, w58_60, s54, s55, s56, r540, r546, aPush_s, aPush_n, vrf_s, vrf_n, true_and, and_true, false_and, and_false, true_imp_iff, false_imp_iff, not_true_eq_false, not_false_eq_true, eq_self, true_or, or_true, and_self, if_true, if_false, n_lit, n_of, n_an, Nat.add_sub_cancel, nI_add, pk_mul, n_sub, n_ixT, n_cl, n_leT, n_leF, n_ltT, n_ltF, n_eqT, n_eqF, Nat.reduceAdd, Nat.reduceMul, Nat.reduceSub, Nat.reduceEqDiff, Nat.reduceLT, Nat.reduceLeDiff, Nat.mul_one, Nat.one_mul, Nat.add_zero, Nat.zero_add, le_T, nz0, nz1]
        refine c55b hT k7 (fun L fL e2 e10 e11 e7 => ?_)
        simp (disch := omega) only [w58_63, w58_64, s54, s55, s56, r540, r546, aPush_s, aPush_n, vrf_s, vrf_n, true_and, and_true, false_and, and_false, true_imp_iff, false_imp_iff, not_true_eq_false, not_false_eq_true, eq_self, true_or, or_true, and_self, if_true, if_false, n_lit, n_of, n_an, Nat.add_sub_cancel, nI_add, pk_mul, n_sub, n_ixT, n_cl, n_leT, n_leF, n_ltT, n_ltF, n_eqT, n_eqF, Nat.reduceAdd, Nat.reduceMul, Nat.reduceSub, Nat.reduceEqDiff, Nat.reduceLT, Nat.reduceLeDiff, Nat.mul_one, Nat.one_mul, Nat.add_zero, Nat.zero_add, le_T, nz0, nz1]
        exact ⟨L, rfl, ((fJ.tr fJ2).tr fK).tr fL, Or.inr ⟨rfl, g.mv (m1.tr (mTo.st hst)) e2 e7 (by rw [e10, k10, hop]) (by rw [e11, k11, hno])⟩⟩
    by_cases q1 : tSg T 60 t'
    · simp (disch := omega) only [w58_4, w58_7, w58_8, w58_9, w58_10, w58_12, w58_15, w58_18, w58_19, w58_21, w58_24, w58_27, w58_28, w58_30, w58_33, w58_36, w58_37, s54, s55, s56, r540, r546, aPush_s, aPush_n, vrf_s, vrf_n, true_and, and_true, false_and, and_false, true_imp_iff, false_imp_iff, not_true_eq_false, not_false_eq_true, eq_self, true_or, or_true, and_self, if_true, if_false, n_lit, n_of, n_an, Nat.add_sub_cancel, nI_add, pk_mul, n_sub, n_ixT, n_cl, n_leT, n_leF, n_ltT, n_ltF, n_eqT, n_eqF, Nat.reduceAdd, Nat.reduceMul, Nat.reduceSub, Nat.reduceEqDiff, Nat.reduceLT, Nat.reduceLeDiff, Nat.mul_one, Nat.one_mul, Nat.add_zero, Nat.zero_add, le_T, nz0, nz1, c60, decide_eq_true q1, b2n_t]
      exact step 60 (by decide) q1
    · by_cases q2 : tSg T 61 t'
      · simp (disch := omega) only [w58_4, w58_7, w58_8, w58_9, w58_10, w58_12, w58_15, w58_18, w58_19, w58_21, w58_24, w58_27, w58_28, w58_30, w58_33, w58_36, w58_37, s54, s55, s56, r540, r546, aPush_s, aPush_n, vrf_s, vrf_n, true_and, and_true, false_and, and_false, true_imp_iff, false_imp_iff, not_true_eq_false, not_false_eq_true, eq_self, true_or, or_true, and_self, if_true, if_false, n_lit, n_of, n_an, Nat.add_sub_cancel, nI_add, pk_mul, n_sub, n_ixT, n_cl, n_leT, n_leF, n_ltT, n_ltF, n_eqT, n_eqF, Nat.reduceAdd, Nat.reduceMul, Nat.reduceSub, Nat.reduceEqDiff, Nat.reduceLT, Nat.reduceLeDiff, Nat.mul_one, Nat.one_mul, Nat.add_zero, Nat.zero_add, le_T, nz0, nz1, c60, c61, decide_eq_false q1, decide_eq_true q2, b2n_t, b2n_f]
        exact step 61 (by decide) q2
      · by_cases q3 : tSg T 62 t'
        · simp (disch := omega) only [w58_4, w58_7, w58_8, w58_9, w58_10, w58_12, w58_15, w58_18, w58_19, w58_21, w58_24, w58_27, w58_28, w58_30, w58_33, w58_36, w58_37, s54, s55, s56, r540, r546, aPush_s, aPush_n, vrf_s, vrf_n, true_and, and_true, false_and, and_false, true_imp_iff, false_imp_iff, not_true_eq_false, not_false_eq_true, eq_self, true_or, or_true, and_self, if_true, if_false, n_lit, n_of, n_an, Nat.add_sub_cancel, nI_add, pk_mul, n_sub, n_ixT, n_cl, n_leT, n_leF, n_ltT, n_ltF, n_eqT, n_eqF, Nat.reduceAdd, Nat.reduceMul, Nat.reduceSub, Nat.reduceEqDiff, Nat.reduceLT, Nat.reduceLeDiff, Nat.mul_one, Nat.one_mul, Nat.add_zero, Nat.zero_add, le_T, nz0, nz1, c60, c61, c62, decide_eq_false q1, decide_eq_false q2, decide_eq_true q3, b2n_t, b2n_f]
          exact step 62 (by decide) q3
        · simp (disch := omega) only [w58_4, w58_7, w58_8, w58_9, w58_10, w58_12, w58_15, w58_18, w58_19, w58_21, w58_24, w58_27, w58_28, w58_30, w58_33, w58_36, w58_37, s54, s55, s56, r540, r546, aPush_s, aPush_n, vrf_s, vrf_n, true_and, and_true, false_and, and_false, true_imp_iff, false_imp_iff, not_true_eq_false, not_false_eq_true, eq_self, true_or, or_true, and_self, if_true, if_false, n_lit, n_of, n_an, Nat.add_sub_cancel, nI_add, pk_mul, n_sub, n_ixT, n_cl, n_leT, n_leF, n_ltT, n_ltF, n_eqT, n_eqF, Nat.reduceAdd, Nat.reduceMul, Nat.reduceSub, Nat.reduceEqDiff, Nat.reduceLT, Nat.reduceLeDiff, Nat.mul_one, Nat.one_mul, Nat.add_zero, Nat.zero_add, le_T, nz0, nz1, c60, c61, c62, decide_eq_false q1, decide_eq_false q2, decide_eq_false q3, b2n_f]
          refine ⟨J, rfl, fJ, Or.inl ⟨rfl, t', H', C', C1, te', a', m1, rUp m2, m3, fun q => absurd q (by decide), ?_, m6⟩⟩
          rcases m5 with g | g | g
          · exact Or.inl g
          · have key : ∀ x, x < 256 → tRk (tOc x) < 4 → tOc x = 0 ∨ tRk (tOc x) < 3 ∨ x = 60 ∨ x = 61 ∨ x = 62 := by decide +kernel
            by_cases e0 : tOp T t' = 0
            · exact Or.inl e0
            · obtain ⟨s1, s2⟩ := tOp_not hb256 e0
              have e9 := tOp_sg s1
              rcases key _ s2 (by rw [← e9]; exact g) with g | g | g | g | g
              · exact Or.inl (e9.trans g)
              · exact Or.inr (Or.inl (by rw [e9]; exact g))
              · rw [g] at s1
                exact absurd s1 q1
              · rw [g] at s1
                exact absurd s1 q2
              · rw [g] at s1
                exact absurd s1 q3
          · exact Or.inr (Or.inr g)
  · simp (disch := omega) only [w58_4, w58_7, w58_8, s54, s55, s56, r540, r546, aPush_s, aPush_n, vrf_s, vrf_n, true_and, and_true, false_and, and_false, true_imp_iff, false_imp_iff, not_true_eq_false, not_false_eq_true, eq_self, true_or, or_true, and_self, if_true, if_false, n_lit, n_of, n_an, Nat.add_sub_cancel, nI_add, pk_mul, n_sub, n_ixT, n_cl, n_leT, n_leF, n_ltT, n_ltF, n_eqT, n_eqF, Nat.reduceAdd, Nat.reduceMul, Nat.reduceSub, Nat.reduceEqDiff, Nat.reduceLT, Nat.reduceLeDiff, Nat.mul_one, Nat.one_mul, Nat.add_zero, Nat.zero_add, le_T, nz0, nz1]
    exact ⟨J, rfl, fJ, Or.inr ⟨rfl, g⟩⟩
/-- every reader goes the machine's way -/
theorem rAll (hT : Th S R) (hk : k < 3) : ∀ f, rCon S R T n k 61 6 f ∧ rCon S R T n k 56 1 f := by
  have up : ∀ f, rCon S R T n k 61 6 f → rCon S R T n k 56 1 f := fun f h => rEither hT (rBoth hT (rTest hT (rSum hT (rTerm hT h))))
  intro f
  induction f with
  | zero =>
    have h0 : rCon S R T n k 61 6 0 := by
      intro D t H C te a I z ok dg hb ht hf hD tp kx ck
      have g1 : t.1 ≤ t.2.1 := ok.1.1
      have g2 : t.2.1 ≤ n := ok.1.2.1
      have := tp.1
      omega
    exact ⟨h0, up 0 h0⟩
  | succ f ih =>
    have h1 := rPiece hT hk ih.1 ih.2
    exact ⟨h1, up (f + 1) h1⟩
end
