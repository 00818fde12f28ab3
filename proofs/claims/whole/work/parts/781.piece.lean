/-! TEXT: a piece; operators -/
section
variable {d n k p q a b o f l : Nat} {T : Nat → Nat} {t : Tok} {H : List Nat} {C : List Int32} {te : List Bool} {S : Nat → Nat × Nat} {I J K : Nat → Nat → Int32} {R : Nat → Nat → Option Nat} {z : Nat × Nat} {x y : Int32} {Q : Option Value → HS → Prop} {l1 l2 : Value} {M M' : MS}
theorem rPiece (hT : Th S R) (hk : k < 3) (ih6 : rCon S R T n k 61 6 f) (ih1 : rCon S R T n k 56 1 f) : rCon S R T n k 61 6 (f + 1) := by
  intro D t H C te a I z ok dg hb ht hf hD tp kx ck
  obtain ⟨d, rfl⟩ : ∃ d, D = d + 12 := ⟨D - 12, by unfold rNd at hD; omega⟩
  obtain ⟨s54, s55, s56, r540, r546⟩ := id hT
  obtain ⟨tk, o1, o2, o3, o4, o5⟩ := id ok
  dsimp only at tk o1 o2 o3 o4 o5
  have n96 := tp.1
  have i4 : I 54 4 = nI t.2.2.1 := ck.1.2.2.1
  have k3 : t.2.2.1 ≤ 3 := tk.2.2.1
  have klt := tk.2.2.2
  have kn := tk.2.1
  have kle := tk.1
  have hC96 : C.length ≤ 96 := by omega
  by_cases e2 : t.2.2.1 = 2
  · have hC : C.length < 96 := by have := klt (by omega); omega
    have h3 : ∀ c, ¬ tSg T c t := fun c q => by have := q.1; omega
    simp (disch := omega) only [e61, w61_0, w61_1, w61_4, w61_5, w61_8, w61_9, s54, s55, s56, r540, r546, aPush_s, aPush_n, vrf_s, vrf_n, true_and, and_true, false_and, and_false, true_imp_iff, false_imp_iff, not_true_eq_false, not_false_eq_true, eq_self, true_or, or_true, and_self, if_true, if_false, n_lit, n_of, n_an, Nat.add_sub_cancel, nI_add, pk_mul, n_sub, n_ixT, n_cl, n_leT, n_leF, n_ltT, n_ltF, n_eqT, n_eqF, Nat.reduceAdd, Nat.reduceMul, Nat.reduceSub, Nat.reduceEqDiff, Nat.reduceLT, Nat.reduceLeDiff, Nat.mul_one, Nat.one_mul, Nat.add_zero, Nat.zero_add, le_T, nz0, nz1, i4, e2]
    by_cases eg : t.2.2.2 = true ∨ 4 < t.2.1 - t.1
    · rw [c62f hT tp tk ck eg]
      simp only [w61_12, s54, s55, s56, r540, r546, aPush_s, aPush_n, vrf_s, vrf_n, true_and, and_true, false_and, and_false, true_imp_iff, false_imp_iff, not_true_eq_false, not_false_eq_true, eq_self, true_or, or_true, and_self, if_true, if_false, n_lit, n_of, n_an, Nat.add_sub_cancel, nI_add, pk_mul, n_sub, n_ixT, n_cl, n_leT, n_leF, n_ltT, n_ltF, n_eqT, n_eqF, Nat.reduceAdd, Nat.reduceMul, Nat.reduceSub, Nat.reduceEqDiff, Nat.reduceLT, Nat.reduceLeDiff, Nat.mul_one, Nat.one_mul, Nat.add_zero, Nat.zero_add, le_T, nz0, nz1]
      refine ⟨I, rfl, F56.rf, Or.inr ⟨rfl, rBd_here ck hC96 (mNo_pc (fun q => h3 _ q.1) (fun q => h3 _ q.1) ?_)⟩⟩
      rw [tPc_2 e2]
      rcases eg with g | g
      · rw [if_pos g]
      · split
        · rfl
        · rw [if_neg (by omega)]
    · have ef : t.2.2.2 = false := by
        cases e : t.2.2.2
        · rfl
        · exact absurd (Or.inl e) eg
      have e4 : t.2.1 - t.1 ≤ 4 := Nat.le_of_not_lt (fun q => eg (Or.inr q))
      refine c62 hT tp tk dg ck hC e2 ef e4 (fun J hJ fJ => ?_)
      simp only [w61_12, s54, s55, s56, r540, r546, aPush_s, aPush_n, vrf_s, vrf_n, true_and, and_true, false_and, and_false, true_imp_iff, false_imp_iff, not_true_eq_false, not_false_eq_true, eq_self, true_or, or_true, and_self, if_true, if_false, n_lit, n_of, n_an, Nat.add_sub_cancel, nI_add, pk_mul, n_sub, n_ixT, n_cl, n_leT, n_leF, n_ltT, n_ltF, n_eqT, n_eqF, Nat.reduceAdd, Nat.reduceMul, Nat.reduceSub, Nat.reduceEqDiff, Nat.reduceLT, Nat.reduceLeDiff, Nat.mul_one, Nat.one_mul, Nat.add_zero, Nat.zero_add, le_T, nz0, nz1]
      refine ⟨J, rfl, fJ, Or.inl ⟨rfl, rGd_pc (by omega) ?_ hJ⟩⟩
      rw [tPc_2 e2, if_neg (by rw [ef]; decide), if_pos e4]
  · by_cases e1 : t.2.2.1 = 1
    · have hC : C.length < 96 := by have := klt (by omega); omega
      have h3 : ∀ c, ¬ tSg T c t := fun c q => by have := q.1; omega
      simp (disch := omega) only [e61, w61_0, w61_1, w61_4, w61_5, w61_8, w61_9, w61_12, w61_13, w61_14, w61_17, w61_18, w61_21, w61_22, s54, s55, s56, r540, r546, aPush_s, aPush_n, vrf_s, vrf_n, true_and, and_true, false_and, and_false, true_imp_iff, false_imp_iff, not_true_eq_false, not_false_eq_true, eq_self, true_or, or_true, and_self, if_true, if_false, n_lit, n_of, n_an, Nat.add_sub_cancel, nI_add, pk_mul, n_sub, n_ixT, n_cl, n_leT, n_leF, n_ltT, n_ltF, n_eqT, n_eqF, Nat.reduceAdd, Nat.reduceMul, Nat.reduceSub, Nat.reduceEqDiff, Nat.reduceLT, Nat.reduceLeDiff, Nat.mul_one, Nat.one_mul, Nat.add_zero, Nat.zero_add, le_T, nz0, nz1, i4, e1]
      refine c63 hT tp tk dg kx hk ck hC e1 (fun hN => ?_) (fun c J hc hJ fJ => ?_)
      · simp only [w61_25, s54, s55, s56, r540, r546, aPush_s, aPush_n, vrf_s, vrf_n, true_and, and_true, false_and, and_false, true_imp_iff, false_imp_iff, not_true_eq_false, not_false_eq_true, eq_self, true_or, or_true, and_self, if_true, if_false, n_lit, n_of, n_an, Nat.add_sub_cancel, nI_add, pk_mul, n_sub, n_ixT, n_cl, n_leT, n_leF, n_ltT, n_ltF, n_eqT, n_eqF, Nat.reduceAdd, Nat.reduceMul, Nat.reduceSub, Nat.reduceEqDiff, Nat.reduceLT, Nat.reduceLeDiff, Nat.mul_one, Nat.one_mul, Nat.add_zero, Nat.zero_add, le_T, nz0, nz1]
        exact ⟨I, rfl, F56.rf, Or.inr ⟨rfl, rBd_here ck hC96 (mNo_pc (fun q => h3 _ q.1) (fun q => h3 _ q.1) hN)⟩⟩
      · simp only [w61_25, s54, s55, s56, r540, r546, aPush_s, aPush_n, vrf_s, vrf_n, true_and, and_true, false_and, and_false, true_imp_iff, false_imp_iff, not_true_eq_false, not_false_eq_true, eq_self, true_or, or_true, and_self, if_true, if_false, n_lit, n_of, n_an, Nat.add_sub_cancel, nI_add, pk_mul, n_sub, n_ixT, n_cl, n_leT, n_leF, n_ltT, n_ltF, n_eqT, n_eqF, Nat.reduceAdd, Nat.reduceMul, Nat.reduceSub, Nat.reduceEqDiff, Nat.reduceLT, Nat.reduceLeDiff, Nat.mul_one, Nat.one_mul, Nat.add_zero, Nat.zero_add, le_T, nz0, nz1]
        exact ⟨J, rfl, fJ, Or.inl ⟨rfl, rGd_pc (by omega) hc hJ⟩⟩
    · have c := fun (c : Nat) (hc : c < 256) (d : Nat) (Q : Option Value → HS → Prop) => c53 (d := d) (c := c) (z := z) (Q := Q) hT tp tk ck.1 hc
      have c33 := c 33 (by decide)
      have c40 := c 40 (by decide)
      by_cases g33 : tSg T 33 t
      · simp (disch := omega) only [e61, w61_0, w61_1, w61_4, w61_5, w61_8, w61_9, w61_12, w61_13, w61_14, w61_17, w61_18, w61_21, w61_22, w61_25, w61_26, w61_27, w61_29, w61_32, w61_35, w61_36, s54, s55, s56, r540, r546, aPush_s, aPush_n, vrf_s, vrf_n, true_and, and_true, false_and, and_false, true_imp_iff, false_imp_iff, not_true_eq_false, not_false_eq_true, eq_self, true_or, or_true, and_self, if_true, if_false, n_lit, n_of, n_an, Nat.add_sub_cancel, nI_add, pk_mul, n_sub, n_ixT, n_cl, n_leT, n_leF, n_ltT, n_ltF, n_eqT, n_eqF, Nat.reduceAdd, Nat.reduceMul, Nat.reduceSub, Nat.reduceEqDiff, Nat.reduceLT, Nat.reduceLeDiff, Nat.mul_one, Nat.one_mul, Nat.add_zero, Nat.zero_add, le_T, nz0, nz1, i4, e1, e2, c33, decide_eq_true g33, b2n_t]
        refine c64 hT ih6 ok g33 hf hD tp kx ck (fun J fJ g => ?_) (fun J fJ g => ?_)
        · simp only [w61_39, w61_63, s54, s55, s56, r540, r546, aPush_s, aPush_n, vrf_s, vrf_n, true_and, and_true, false_and, and_false, true_imp_iff, false_imp_iff, not_true_eq_false, not_false_eq_true, eq_self, true_or, or_true, and_self, if_true, if_false, n_lit, n_of, n_an, Nat.add_sub_cancel, nI_add, pk_mul, n_sub, n_ixT, n_cl, n_leT, n_leF, n_ltT, n_ltF, n_eqT, n_eqF, Nat.reduceAdd, Nat.reduceMul, Nat.reduceSub, Nat.reduceEqDiff, Nat.reduceLT, Nat.reduceLeDiff, Nat.mul_one, Nat.one_mul, Nat.add_zero, Nat.zero_add, le_T, nz0, nz1]
          exact ⟨J, rfl, fJ, Or.inl ⟨rfl, g⟩⟩
        · simp only [w61_39, w61_63, s54, s55, s56, r540, r546, aPush_s, aPush_n, vrf_s, vrf_n, true_and, and_true, false_and, and_false, true_imp_iff, false_imp_iff, not_true_eq_false, not_false_eq_true, eq_self, true_or, or_true, and_self, if_true, if_false, n_lit, n_of, n_an, Nat.add_sub_cancel, nI_add, pk_mul, n_sub, n_ixT, n_cl, n_leT, n_leF, n_ltT, n_ltF, n_eqT, n_eqF, Nat.reduceAdd, Nat.reduceMul, Nat.reduceSub, Nat.reduceEqDiff, Nat.reduceLT, Nat.reduceLeDiff, Nat.mul_one, Nat.one_mul, Nat.add_zero, Nat.zero_add, le_T, nz0, nz1]
          exact ⟨J, rfl, fJ, Or.inr ⟨rfl, g⟩⟩
      · by_cases g40 : tSg T 40 t
        · simp (disch := omega) only [e61, w61_0, w61_1, w61_4, w61_5, w61_8, w61_9, w61_12, w61_13, w61_14, w61_17, w61_18, w61_21, w61_22, w61_25, w61_26, w61_27, w61_29, w61_32, w61_35, w61_36, w61_39, w61_42, w61_43, w61_45, w61_48, w61_51, w61_52, s54, s55, s56, r540, r546, aPush_s, aPush_n, vrf_s, vrf_n, true_and, and_true, false_and, and_false, true_imp_iff, false_imp_iff, not_true_eq_false, not_false_eq_true, eq_self, true_or, or_true, and_self, if_true, if_false, n_lit, n_of, n_an, Nat.add_sub_cancel, nI_add, pk_mul, n_sub, n_ixT, n_cl, n_leT, n_leF, n_ltT, n_ltF, n_eqT, n_eqF, Nat.reduceAdd, Nat.reduceMul, Nat.reduceSub, Nat.reduceEqDiff, Nat.reduceLT, Nat.reduceLeDiff, Nat.mul_one, Nat.one_mul, Nat.add_zero, Nat.zero_add, le_T, nz0, nz1, i4, e1, e2, c33, c40, decide_eq_false g33, decide_eq_true g40, b2n_t, b2n_f]
          refine c65 hT ih1 ok g40 hf hD tp kx ck (fun J fJ g => ?_) (fun J fJ g => ?_)
          · simp (disch := omega) only [w61_55, w61_58, w61_59, w61_62, w61_63, s54, s55, s56, r540, r546, aPush_s, aPush_n, vrf_s, vrf_n, true_and, and_true, false_and, and_false, true_imp_iff, false_imp_iff, not_true_eq_false, not_false_eq_true, eq_self, true_or, or_true, and_self, if_true, if_false, n_lit, n_of, n_an, Nat.add_sub_cancel, nI_add, pk_mul, n_sub, n_ixT, n_cl, n_leT, n_leF, n_ltT, n_ltF, n_eqT, n_eqF, Nat.reduceAdd, Nat.reduceMul, Nat.reduceSub, Nat.reduceEqDiff, Nat.reduceLT, Nat.reduceLeDiff, Nat.mul_one, Nat.one_mul, Nat.add_zero, Nat.zero_add, le_T, nz0, nz1]
            exact ⟨J, rfl, fJ, Or.inl ⟨rfl, g⟩⟩
          · simp (disch := omega) only [w61_55, w61_58, w61_59, w61_62, w61_63, s54, s55, s56, r540, r546, aPush_s, aPush_n, vrf_s, vrf_n, true_and, and_true, false_and, and_false, true_imp_iff, false_imp_iff, not_true_eq_false, not_false_eq_true, eq_self, true_or, or_true, and_self, if_true, if_false, n_lit, n_of, n_an, Nat.add_sub_cancel, nI_add, pk_mul, n_sub, n_ixT, n_cl, n_leT, n_leF, n_ltT, n_ltF, n_eqT, n_eqF, Nat.reduceAdd, Nat.reduceMul, Nat.reduceSub, Nat.reduceEqDiff, Nat.reduceLT, Nat.reduceLeDiff, Nat.mul_one, Nat.one_mul, Nat.add_zero, Nat.zero_add, le_T, nz0, nz1]
            exact ⟨J, rfl, fJ, Or.inr ⟨rfl, g⟩⟩
        · simp (disch := omega) only [e61, w61_0, w61_1, w61_4, w61_5, w61_8, w61_9, w61_12, w61_13, w61_14, w61_17, w61_18, w61_21, w61_22, w61_25, w61_26, w61_27, w61_29, w61_32, w61_35, w61_36, w61_39, w61_42, w61_43, w61_45, w61_48, w61_51, w61_52, w61_55, w61_58, w61_59, w61_62, w61_63, s54, s55, s56, r540, r546, aPush_s, aPush_n, vrf_s, vrf_n, true_and, and_true, false_and, and_false, true_imp_iff, false_imp_iff, not_true_eq_false, not_false_eq_true, eq_self, true_or, or_true, and_self, if_true, if_false, n_lit, n_of, n_an, Nat.add_sub_cancel, nI_add, pk_mul, n_sub, n_ixT, n_cl, n_leT, n_leF, n_ltT, n_ltF, n_eqT, n_eqF, Nat.reduceAdd, Nat.reduceMul, Nat.reduceSub, Nat.reduceEqDiff, Nat.reduceLT, Nat.reduceLeDiff, Nat.mul_one, Nat.one_mul, Nat.add_zero, Nat.zero_add, le_T, nz0, nz1, i4, e1, e2, c33, c40, decide_eq_false g33, decide_eq_false g40, b2n_t, b2n_f]
          exact ⟨I, rfl, F56.rf, Or.inr ⟨rfl, rBd_here ck hC96 (mNo_pc (fun q => g33 q.1) (fun q => g40 q.1) (tPc_3 e1 e2))⟩⟩
theorem rUp {H' : List Nat} {C' C1 : List Int32} (h : stl (l + 1) H' C' = stl (l + 1) H C1) : stl l H' C' = stl l H C1 := by
  rw [← stl_stl (Nat.le_succ l) H' C', h, stl_stl (Nat.le_succ l)]
theorem tOc_tr : ∀ x, x < 256 → tOc x ≠ 0 → tr (-nI (tOc x)) = -nI x := by decide +kernel
theorem rOp {t' : Tok} {H' : List Nat} {C' C1 : List Int32} {te' : List Bool} {a' : Nat} (hb : blk l H) (m2 : stl l H' C' = stl l H C1) (hc : tOp T t' ≠ 0) (hl : tRk (tOp T t') = l) (h3 : l = 3 → te'.headD false = false) : mSt T n k (t', H', C', false, te', a') = some (tNx T n t', tOp T t' :: H, C1, true, (if l = 3 then true else if l < 3 then false else te'.headD false) :: te'.tail, a') := by
  have h41 : ¬ tSg T 41 t' := fun q => hc (by
    unfold tOp
    rw [if_pos q.1, q.2]
    rfl)
  unfold mSt
  dsimp only
  rw [if_neg (fun q => h41 q.1), if_neg (fun q => q.elim hc (fun q => by rw [h3 (hl.symm.trans q.1)] at q; cases q.2)), hl, m2, stl_blk hb]
theorem stl_op1 {c : Nat} {C1 : List Int32} (hc : c ≤ 9) (hl : tRk c = l) : stl l (c :: H) C1 = stl l H (-nI c :: C1) := if_neg (fun q => q.elim (fun q => by omega) (fun q => by omega))
theorem cNo_op {c : Nat} (hc : c ≤ 9) : cNo (c :: H) = cNo H ∧ cOp (c :: H) = cOp H := by
  show (if c = 10 then 1 else 0) + cNo H = _ ∧ (if c = 11 then 1 else 0) + cOp H = _
  rw [if_neg (by omega), if_neg (by omega)]
  exact ⟨Nat.zero_add _, Nat.zero_add _⟩
theorem hd_tl {m : Nat} {te' : List Bool} (h : te'.length = m + 1) : te'.headD false :: te'.tail = te' := by
  cases te' with
  | nil => cases h
  | cons x r => rfl
end
