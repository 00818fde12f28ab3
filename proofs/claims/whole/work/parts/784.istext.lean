/-! TEXT: isText -/
def F47 (I J : Nat → Nat → Int32) : Prop := (∀ q, q ≠ 54 → q ≠ 56 → J q = I q) ∧ J 54 1 = I 54 1
def tK1 (T : Nat → Nat) (n : Nat) : Tok := tNx T n (0, 0, 0, false)
def mM0 (T : Nat → Nat) (n : Nat) : MS := (tNx T n (tK1 T n), [], [], true, [false], 0)
section
variable {d n k p q a b o f l : Nat} {T : Nat → Nat} {t : Tok} {H : List Nat} {C : List Int32} {te : List Bool} {S : Nat → Nat × Nat} {I J K : Nat → Nat → Int32} {R : Nat → Nat → Option Nat} {z : Nat × Nat} {x y : Int32} {Q : Option Value → HS → Prop} {l1 l2 : Value} {M M' : MS}
theorem F56.f47 (h : F56 I J) : F47 I J := ⟨h.1, h.2.1⟩
theorem F47.tr (h : F47 I J) (h2 : F47 J K) : F47 I K := ⟨fun q h1 h3 => (h2.1 q h1 h3).trans (h.1 q h1 h3), h2.2.trans h.2⟩
theorem F47.aw {j : Nat} {v : Int32} (h1 : j ≠ 1) : F47 I (aW I 54 j v) := ⟨fun q h _ => aW_o h, aW_i (Ne.symm h1)⟩
theorem Tp.f47 (h : Tp I T n) (f : F47 I J) : Tp J T n := ⟨h.1, f.2.trans h.2.1, by rw [f.1 55 (by decide) (by decide)]; exact h.2.2.1, h.2.2.2⟩
theorem Kx.f47 (h : Kx S I R) (f : F47 I J) : Kx S J R := h.cong (fun q hq => f.1 q (by omega) (by omega))
theorem tKy_3 (h : tKy T t = some k) : k < 3 := by
  unfold tKy at h
  repeat' split at h
  all_goals first | (cases h; decide) | cases h
theorem mM0_ok : mOk n (mM0 T n) := by
  have h1 := (tNx_ok (T := T) (n := n) (t := (0, 0, 0, false)) (Nat.zero_le _)).1
  have h2 := (tNx_ok (T := T) (n := n) (t := tK1 T n) h1.2.1).1
  exact ⟨h2, Nat.zero_le _, Nat.zero_le _, Nat.zero_le _, rfl, Nat.le_refl _⟩
theorem c47 (hT : Th S R) (tp : Tp I T n) (kx : Kx S I R) (i10 : I 54 10 = nI 0) (i11 : I 54 11 = nI 0)
    (hN : ∀ J, tKy T (tK1 T n) = none → F47 I J → J 54 2 = nI (tK1 T n).1 → J 54 10 = nI 0 → J 54 11 = nI 0 → Q (some (.int (nI 0))) (S, J, R, z))
    (hB : ∀ k J Mf, tKy T (tK1 T n) = some k → F47 I J → mTo T n k (mM0 T n) Mf → mNo T n k Mf → J 54 2 = nI Mf.1.1 → J 54 10 = nI 0 → J 54 11 = nI 0 → Q (some (.int (nI 0))) (S, J, R, z))
    (hG : ∀ k J (t' : Tok) H' C' C1 te' a', tKy T (tK1 T n) = some k → F47 I J → mTo T n k (mM0 T n) (t', H', C', false, te', a') → t'.2.2.1 = 0 → stl 0 H' C' = ([], C1) → Ck J k t' C1 a' 0 0 → Q (some (.int (nI 1))) (S, J, R, z)) : RM (d + 250) 47 [.ref 54] (S, I, R, z) Q := by
  obtain ⟨s54, s55, s56, r540, r546⟩ := id hT
  have n96 := tp.1
  have h1 := (tNx_ok (T := T) (n := n) (t := (0, 0, 0, false)) (Nat.zero_le _)).1
  have h1 : tOk n (tK1 T n) := h1
  simp (disch := omega) only [e47, w47_0, w47_1, w47_2, w47_5, w47_6, w47_7, w47_10, w47_11, w47_12, w47_15, w47_16, w47_17, w47_20, w47_21, s54, s55, s56, r540, r546, aPush_s, aPush_n, vrf_s, vrf_n, true_and, and_true, false_and, and_false, true_imp_iff, false_imp_iff, not_true_eq_false, not_false_eq_true, eq_self, true_or, or_true, and_self, if_true, if_false, n_lit, n_of, n_an, Nat.add_sub_cancel, nI_add, pk_mul, n_sub, n_ixT, n_cl, n_leT, n_leF, n_ltT, n_ltF, n_eqT, n_eqF, Nat.reduceAdd, Nat.reduceMul, Nat.reduceSub, Nat.reduceEqDiff, Nat.reduceLT, Nat.reduceLeDiff, Nat.mul_one, Nat.one_mul, Nat.add_zero, Nat.zero_add, le_T, nz0, nz1]
  have f0 : F47 I (aW (aW (aW (aW I 54 3 (nI 0)) 54 4 (nI 0)) 54 7 (nI 0)) 54 9 (nI 0)) := (((F47.aw (by decide)).tr (F47.aw (by decide))).tr (F47.aw (by decide))).tr (F47.aw (by decide))
  obtain ⟨I0, e0⟩ : ∃ I0, I0 = aW (aW (aW (aW I 54 3 (nI 0)) 54 4 (nI 0)) 54 7 (nI 0)) 54 9 (nI 0) := ⟨_, rfl⟩
  rw [← e0] at f0 ⊢
  have a3 : I0 54 3 = nI 0 := by rw [e0, aW_i (by decide), aW_i (by decide), aW_i (by decide), aW_e]
  have a4 : I0 54 4 = nI 0 := by rw [e0, aW_i (by decide), aW_i (by decide), aW_e]
  have a7 : I0 54 7 = nI 0 := by rw [e0, aW_i (by decide), aW_e]
  have a9 : I0 54 9 = nI 0 := by rw [e0, aW_e]
  have a10 : I0 54 10 = nI 0 := by rw [e0, aW_i (by decide), aW_i (by decide), aW_i (by decide), aW_i (by decide), i10]
  have a11 : I0 54 11 = nI 0 := by rw [e0, aW_i (by decide), aW_i (by decide), aW_i (by decide), aW_i (by decide), i11]
  refine c51 (t := (0, 0, 0, false)) hT (tp.f47 f0) (Nat.zero_le _) (by decide) a3 a4 (fun J tj fj => ?_)
  have f1 : F47 I J := f0.tr fj.f56.f47
  have c := fun (d : Nat) (Q : Option Value → HS → Prop) => c49 (d := d) (z := z) (Q := Q) hT (tp.f47 f1) h1 tj (kx.f47 f1)
  have j7 : J 54 7 = nI 0 := (fj.2 7 (by omega)).trans a7
  have j9 : J 54 9 = nI 0 := (fj.2 9 (by omega)).trans a9
  have j10 : J 54 10 = nI 0 := (fj.2 10 (by omega)).trans a10
  have j11 : J 54 11 = nI 0 := (fj.2 11 (by omega)).trans a11
  cases ek : tKy T (tK1 T n) with
  | none =>
    have co : oI (tKy T (tK1 T n)) = -nI 1 := congrArg oI ek
    have hneg : ¬ nI 0 ≤ -nI 1 := by decide
    simp (disch := omega) only [w47_24, w47_25, w47_26, w47_29, w47_32, w47_33, w47_36, w47_39, w47_40, w47_41, s54, s55, s56, r540, r546, aPush_s, aPush_n, vrf_s, vrf_n, true_and, and_true, false_and, and_false, true_imp_iff, false_imp_iff, not_true_eq_false, not_false_eq_true, eq_self, true_or, or_true, and_self, if_true, if_false, n_lit, n_of, n_an, Nat.add_sub_cancel, nI_add, pk_mul, n_sub, n_ixT, n_cl, n_leT, n_leF, n_ltT, n_ltF, n_eqT, n_eqF, Nat.reduceAdd, Nat.reduceMul, Nat.reduceSub, Nat.reduceEqDiff, Nat.reduceLT, Nat.reduceLeDiff, Nat.mul_one, Nat.one_mul, Nat.add_zero, Nat.zero_add, le_T, nz0, nz1, c, co, aW_e, hneg]
    refine hN _ ek (f1.tr (F47.aw (I := J) (j := 8) (v := -nI 1) (by decide))) ?_ ?_ ?_ <;> rw [aW_i (by decide)]
    · exact tj.1
    · exact j10
    · exact j11
  | some k =>
    have co : oI (tKy T (tK1 T n)) = nI k := congrArg oI ek
    have hk := tKy_3 ek
    simp (disch := omega) only [w47_24, w47_25, w47_26, w47_29, w47_32, w47_33, w47_36, w47_39, w47_40, w47_41, w47_42, s54, s55, s56, r540, r546, aPush_s, aPush_n, vrf_s, vrf_n, true_and, and_true, false_and, and_false, true_imp_iff, false_imp_iff, not_true_eq_false, not_false_eq_true, eq_self, true_or, or_true, and_self, if_true, if_false, n_lit, n_of, n_an, Nat.add_sub_cancel, nI_add, pk_mul, n_sub, n_ixT, n_cl, n_leT, n_leF, n_ltT, n_ltF, n_eqT, n_eqF, Nat.reduceAdd, Nat.reduceMul, Nat.reduceSub, Nat.reduceEqDiff, Nat.reduceLT, Nat.reduceLeDiff, Nat.mul_one, Nat.one_mul, Nat.add_zero, Nat.zero_add, le_T, nz0, nz1, c, co, aW_e]
    have ck : Ck (aW J 54 8 (nI k)) k (tK1 T n) [] 0 0 0 := by
      refine ⟨⟨?_, ?_, ?_, ?_⟩, ?_, aW_e, ?_, ?_, ?_, True.intro⟩ <;> rw [aW_i (by decide)]
      · exact tj.1
      · exact tj.2.1
      · exact tj.2.2.1
      · exact tj.2.2.2
      · exact j7
      · exact j9
      · exact j10
      · exact j11
    have f2 := f1.tr (F47.aw (I := J) (j := 8) (v := nI k) (by decide))
    refine c51k hT (tp.f47 f2) h1 ck (fun K hK fK => ?_)
    have f3 := f2.tr fK.f47
    simp (disch := omega) only [w47_45, w47_46, s54, s55, s56, r540, r546, aPush_s, aPush_n, vrf_s, vrf_n, true_and, and_true, false_and, and_false, true_imp_iff, false_imp_iff, not_true_eq_false, not_false_eq_true, eq_self, true_or, or_true, and_self, if_true, if_false, n_lit, n_of, n_an, Nat.add_sub_cancel, nI_add, pk_mul, n_sub, n_ixT, n_cl, n_leT, n_leF, n_ltT, n_ltF, n_eqT, n_eqF, Nat.reduceAdd, Nat.reduceMul, Nat.reduceSub, Nat.reduceEqDiff, Nat.reduceLT, Nat.reduceLeDiff, Nat.mul_one, Nat.one_mul, Nat.add_zero, Nat.zero_add, le_T, nz0, nz1]
    refine ((rAll hT hk 97).2).use (H := []) (te := [false]) (C := []) (a := 0) mM0_ok (tNx_dg _) (fun _ x r e => by cases e) (fun _ => rfl) (Nat.le_add_left _ _) (by show 20 + 12 * (8 - 0) + 12 * (8 - 0) + (7 - 1) ≤ _; omega) (tp.f47 f3) (kx.f47 f3) hK (fun L fL g => ?_) (fun L fL g => ?_)
    · obtain ⟨t', H', C', C1, te', a', m1, m2, m3, m4, m5, m6⟩ := g
      have f4 := f3.tr fL.f47
      have m2 : stl 1 H' C' = ([], C1) := m2
      have s0 : stl 0 H' C' = ([], C1) := by
        rw [← stl_stl (show 0 ≤ 1 by decide) H' C', m2]
        rfl
      have l4 : L 54 4 = nI t'.2.2.1 := m6.1.2.2.1
      have l3 : t'.2.2.1 ≤ 3 := ((m1.ok mM0_ok).1).1.2.2.1
      by_cases e : t'.2.2.1 = 0
      · simp (disch := omega) only [w47_49, w47_52, w47_53, w47_56, w47_59, w47_60, w47_63, w47_64, s54, s55, s56, r540, r546, aPush_s, aPush_n, vrf_s, vrf_n, true_and, and_true, false_and, and_false, true_imp_iff, false_imp_iff, not_true_eq_false, not_false_eq_true, eq_self, true_or, or_true, and_self, if_true, if_false, n_lit, n_of, n_an, Nat.add_sub_cancel, nI_add, pk_mul, n_sub, n_ixT, n_cl, n_leT, n_leF, n_ltT, n_ltF, n_eqT, n_eqF, Nat.reduceAdd, Nat.reduceMul, Nat.reduceSub, Nat.reduceEqDiff, Nat.reduceLT, Nat.reduceLeDiff, Nat.mul_one, Nat.one_mul, Nat.add_zero, Nat.zero_add, le_T, nz0, nz1, l4, e]
        exact hG k L t' H' C' C1 te' a' ek f4 m1 e s0 m6
      · simp (disch := omega) only [w47_49, w47_52, w47_53, w47_56, w47_59, w47_60, w47_63, w47_64, s54, s55, s56, r540, r546, aPush_s, aPush_n, vrf_s, vrf_n, true_and, and_true, false_and, and_false, true_imp_iff, false_imp_iff, not_true_eq_false, not_false_eq_true, eq_self, true_or, or_true, and_self, if_true, if_false, n_lit, n_of, n_an, Nat.add_sub_cancel, nI_add, pk_mul, n_sub, n_ixT, n_cl, n_leT, n_leF, n_ltT, n_ltF, n_eqT, n_eqF, Nat.reduceAdd, Nat.reduceMul, Nat.reduceSub, Nat.reduceEqDiff, Nat.reduceLT, Nat.reduceLeDiff, Nat.mul_one, Nat.one_mul, Nat.add_zero, Nat.zero_add, le_T, nz0, nz1, l4, e]
        have op' : cOp H' = 0 := by
          have := (stl_op (a := 0) H' C').1
          rw [s0] at this
          exact this.symm
        refine hB k L (t', H', C', false, te', a') ek f4 m1 (Or.inr ⟨fun q => e q.2, ?_⟩) m6.1.1 m6.2.2.2.2.1 m6.2.2.2.2.2.1
        unfold mSt
        dsimp only
        rw [if_neg (fun q => by have := q.2; omega)]
        rcases m5 with q | q | q
        · rw [if_pos (Or.inl q)]
        · exfalso
          unfold tRk at q
          repeat' split at q
          all_goals omega
        · rw [if_pos (Or.inr q)]
    · obtain ⟨Mf, b1, b2, b3, b4, b5, b6⟩ := g
      simp (disch := omega) only [w47_49, w47_52, w47_53, w47_56, w47_59, w47_60, w47_63, w47_64, s54, s55, s56, r540, r546, aPush_s, aPush_n, vrf_s, vrf_n, true_and, and_true, false_and, and_false, true_imp_iff, false_imp_iff, not_true_eq_false, not_false_eq_true, eq_self, true_or, or_true, and_self, if_true, if_false, n_lit, n_of, n_an, Nat.add_sub_cancel, nI_add, pk_mul, n_sub, n_ixT, n_cl, n_leT, n_leF, n_ltT, n_ltF, n_eqT, n_eqF, Nat.reduceAdd, Nat.reduceMul, Nat.reduceSub, Nat.reduceEqDiff, Nat.reduceLT, Nat.reduceLeDiff, Nat.mul_one, Nat.one_mul, Nat.add_zero, Nat.zero_add, le_T, nz0, nz1]
      exact hB k L Mf ek (f3.tr fL.f47) b1 b2 b3 b5 b6
end
