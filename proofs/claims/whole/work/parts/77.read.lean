/-! TEXT: numbers and names of the class -/
def tStk (I : Nat → Nat → Int32) (r : Nat) : List Int32 → Prop
  | [] => True
  | x :: l => I r l.length = x ∧ tStk I r l
/-- the class behind the words so far: the word at hand, the code, how many pieces, brackets, NOTs -/
def Ck (I : Nat → Nat → Int32) (k : Nat) (t : Tok) (C : List Int32) (a b o : Nat) : Prop := TkC I t ∧ I 54 7 = nI C.length ∧ I 54 8 = nI k ∧ I 54 9 = nI a ∧ I 54 10 = nI b ∧ I 54 11 = nI o ∧ tStk I 56 (C.map tr)
def F56 (I J : Nat → Nat → Int32) : Prop := (∀ q, q ≠ 54 → q ≠ 56 → J q = I q) ∧ J 54 1 = I 54 1 ∧ J 54 8 = I 54 8
section
variable {d n k p q a b o : Nat} {T : Nat → Nat} {t : Tok} {C : List Int32} {S : Nat → Nat × Nat} {I J K : Nat → Nat → Int32} {R : Nat → Nat → Option Nat} {z : Nat × Nat} {x y : Int32} {Q : Option Value → HS → Prop} {l1 l2 : Value}
theorem F56.rf : F56 I I := ⟨fun _ _ _ => rfl, rfl, rfl⟩
theorem F56.tr (h : F56 I J) (h2 : F56 J K) : F56 I K := ⟨fun q h1 h3 => (h2.1 q h1 h3).trans (h.1 q h1 h3), h2.2.1.trans h.2.1, h2.2.2.trans h.2.2⟩
theorem F54.f56 (h : F54 I J) : F56 I J := ⟨fun q h1 _ => h.1 q h1, h.2 1 (by omega), h.2 8 (by omega)⟩
theorem F56.a56 {j : Nat} {v : Int32} : F56 I (aW I 56 j v) := ⟨fun q _ h => aW_o h, by rw [aW_o (by decide)], by rw [aW_o (by decide)]⟩
theorem F56.a54 {j : Nat} {v : Int32} (h1 : j ≠ 1) (h8 : j ≠ 8) : F56 I (aW I 54 j v) := ⟨fun q h _ => aW_o h, aW_i (Ne.symm h1), aW_i (Ne.symm h8)⟩
theorem Tp.f56 (h : Tp I T n) (f : F56 I J) : Tp J T n := ⟨h.1, f.2.1.trans h.2.1, by rw [f.1 55 (by decide) (by decide)]; exact h.2.2.1, h.2.2.2⟩
theorem Kx.f56 (h : Kx S I R) (f : F56 I J) : Kx S J R := h.cong (fun q hq => f.1 q (by omega) (by omega))
theorem tStk.cong {r : Nat} : ∀ {l : List Int32}, tStk I r l → (∀ j, j < l.length → J r j = I r j) → tStk J r l
  | [], _, _ => True.intro
  | x :: l, h, e => ⟨(e l.length (Nat.lt_succ_self _)).trans h.1, tStk.cong h.2 (fun j hj => e j (Nat.lt_succ_of_lt hj))⟩
theorem tStk.pu {r : Nat} {l : List Int32} (h : tStk I r l) : tStk (aW I r l.length x) r (x :: l) := ⟨aW_e, h.cong (fun j hj => aW_i (Nat.ne_of_lt hj))⟩
/-- a step more -/
theorem c55k {c : Int32} (hT : Th S R) (h : Ck I k t C a b o) (hm : C.length < 96) (hx : tr c = x) (hQ : ∀ J, Ck J k t (c :: C) a b o → F56 I J → Q none (S, J, R, z)) : RM (d + 1) 55 [.ref 54, .int x] (S, I, R, z) Q := by
  obtain ⟨⟨h1, h2, h3, h4⟩, h5, h6, h7, h8, h9, h10⟩ := h
  rw [c55 hT h5 hm]
  refine hQ _ ⟨⟨?_, ?_, ?_, ?_⟩, ?_, ?_, ?_, ?_, ?_, ?_⟩ (F56.a56.tr (F56.a54 (by decide) (by decide)))
  · rw [aW_i (by decide), aW_o (by decide)]; exact h1
  · rw [aW_i (by decide), aW_o (by decide)]; exact h2
  · rw [aW_i (by decide), aW_o (by decide)]; exact h3
  · rw [aW_i (by decide), aW_o (by decide)]; exact h4
  · rw [aW_e]; rfl
  · rw [aW_i (by decide), aW_o (by decide)]; exact h6
  · rw [aW_i (by decide), aW_o (by decide)]; exact h7
  · rw [aW_i (by decide), aW_o (by decide)]; exact h8
  · rw [aW_i (by decide), aW_o (by decide)]; exact h9
  · have := h10.pu (x := tr c)
    rw [List.length_map] at this
    rw [← hx]
    exact this.cong (fun j hj => by rw [aW_o (by decide)])
/-- goOn -/
theorem c51k (hT : Th S R) (tp : Tp I T n) (tk : tOk n t) (h : Ck I k t C a b o) (hQ : ∀ J, Ck J k (tNx T n t) C a b o → F56 I J → Q none (S, J, R, z)) : RM (d + 3) 51 [.ref 54] (S, I, R, z) Q := by
  obtain ⟨⟨h1, h2, h3, h4⟩, h5, h6, h7, h8, h9, h10⟩ := h
  refine c51 hT tp tk.2.1 tk.2.2.1 h2 h3 (fun J tj f => hQ J ⟨tj, ?_, ?_, ?_, ?_, ?_, ?_⟩ f.f56)
  · rw [f.2 7 (by omega)]; exact h5
  · rw [f.2 8 (by omega)]; exact h6
  · rw [f.2 9 (by omega)]; exact h7
  · rw [f.2 10 (by omega)]; exact h8
  · rw [f.2 11 (by omega)]; exact h9
  · exact h10.cong (fun j hj => by rw [f.1 56 (by decide)])
theorem Ck.pc (h : Ck I k t C a b o) : Ck (aW I 54 9 (nI (a + 1))) k t C (a + 1) b o := by
  obtain ⟨⟨h1, h2, h3, h4⟩, h5, h6, h7, h8, h9, h10⟩ := h
  refine ⟨⟨?_, ?_, ?_, ?_⟩, ?_, ?_, aW_e, ?_, ?_, h10.cong (fun j hj => by rw [aW_o (by decide)])⟩ <;> (rw [aW_i (by decide)]; assumption)
theorem c62f (hT : Th S R) (tp : Tp I T n) (tk : tOk n t) (h : Ck I k t C a b o) (he : t.2.2.2 = true ∨ 4 < t.2.1 - t.1) : RM (d + 1) 62 [.ref 54] (S, I, R, z) Q = Q (some (.int (nI 0))) (S, I, R, z) := by
  obtain ⟨s54, s55, s56, r540, r546⟩ := id hT
  obtain ⟨n96, i1, ib, hb⟩ := id tp
  obtain ⟨⟨i2, i3, i4, i5⟩, -⟩ := h
  obtain ⟨k1, k2, k3, k4⟩ := tk
  cases ef : t.2.2.2
  · rw [ef, b2n_f] at i5
    have he : 4 < t.2.1 - t.1 := he.elim (fun q => by rw [ef] at q; cases q) id
    simp (disch := omega) only [e62, w62_0, w62_1, w62_4, w62_7, w62_8, w62_11, w62_12, w62_15, w62_16, w62_17, w62_20, w62_21, w62_22, w62_23, w62_24, w62_25, w62_28, w62_30, w62_31, w62_34, w62_37, w62_38, w62_40, w62_41, w62_42, w62_45, w62_46, w62_47, w62_48, w62_50, w62_51, w62_52, w62_55, w62_58, w62_59, w62_60, w62_63, w62_64, w62_65, w62_68, w62_69, w62_70, w62_73, w62_74, w62_77, w62_78, s54, s55, s56, r540, r546, aPush_s, aPush_n, vrf_s, vrf_n, true_and, and_true, false_and, and_false, true_imp_iff, false_imp_iff, not_true_eq_false, not_false_eq_true, eq_self, true_or, or_true, and_self, if_true, if_false, n_lit, n_of, n_an, Nat.add_sub_cancel, nI_add, pk_mul, n_sub, n_ixT, n_cl, n_leT, n_leF, n_ltT, n_ltF, n_eqT, n_eqF, Nat.reduceAdd, Nat.reduceMul, Nat.reduceSub, Nat.reduceEqDiff, Nat.reduceLT, Nat.reduceLeDiff, Nat.mul_one, Nat.one_mul, Nat.add_zero, Nat.zero_add, le_T, nz0, nz1, i2, i3, i5]
  · rw [ef, b2n_t] at i5
    simp (disch := omega) only [e62, w62_0, w62_1, w62_4, w62_7, w62_8, w62_11, w62_12, w62_15, w62_16, w62_17, w62_20, w62_21, w62_22, w62_23, w62_24, w62_25, w62_28, w62_30, w62_31, w62_34, w62_37, w62_38, w62_40, w62_41, w62_42, w62_45, w62_46, w62_47, w62_48, w62_50, w62_51, w62_52, w62_55, w62_58, w62_59, w62_60, w62_63, w62_64, w62_65, w62_68, w62_69, w62_70, w62_73, w62_74, w62_77, w62_78, s54, s55, s56, r540, r546, aPush_s, aPush_n, vrf_s, vrf_n, true_and, and_true, false_and, and_false, true_imp_iff, false_imp_iff, not_true_eq_false, not_false_eq_true, eq_self, true_or, or_true, and_self, if_true, if_false, n_lit, n_of, n_an, Nat.add_sub_cancel, nI_add, pk_mul, n_sub, n_ixT, n_cl, n_leT, n_leF, n_ltT, n_ltF, n_eqT, n_eqF, Nat.reduceAdd, Nat.reduceMul, Nat.reduceSub, Nat.reduceEqDiff, Nat.reduceLT, Nat.reduceLeDiff, Nat.mul_one, Nat.one_mul, Nat.add_zero, Nat.zero_add, le_T, nz0, nz1, i5]
theorem l62 (hT : Th S R) (tp : Tp I T n) (i3 : I 54 3 = nI q) (hq : q ≤ n) (h4 : q - p ≤ 4) (hd : ∀ j, p ≤ j → j < q → 48 ≤ T j ∧ T j ≤ 57) : ∀ (m j : Nat), p + j + m = q → RB d 62 58 [.ref 54, .int (nI (tNum T p (q - p))), .int (nI q)] [] (S, I, R, z) Q → RB d 62 29 [.ref 54, .int (nI (tNum T p j)), .int (nI (p + j))] [] (S, I, R, z) Q := by
  obtain ⟨s54, s55, s56, r540, r546⟩ := id hT
  obtain ⟨n96, i1, ib, hb⟩ := id tp
  intro m
  induction m with
  | zero =>
    intro j hj hQ
    have e : p + j = q := by omega
    have e2 : j = q - p := by omega
    rw [← e2, ← e] at hQ
    rw [w62_29]
    simp (disch := omega) only [w62_30, w62_31, w62_34, w62_37, w62_38, w62_40, w62_41, w62_42, w62_45, w62_46, w62_47, w62_48, w62_50, w62_51, w62_52, w62_55, s54, s55, s56, r540, r546, aPush_s, aPush_n, vrf_s, vrf_n, true_and, and_true, false_and, and_false, true_imp_iff, false_imp_iff, not_true_eq_false, not_false_eq_true, eq_self, true_or, or_true, and_self, if_true, if_false, n_lit, n_of, n_an, Nat.add_sub_cancel, nI_add, pk_mul, n_sub, n_ixT, n_cl, n_leT, n_leF, n_ltT, n_ltF, n_eqT, n_eqF, Nat.reduceAdd, Nat.reduceMul, Nat.reduceSub, Nat.reduceEqDiff, Nat.reduceLT, Nat.reduceLeDiff, Nat.mul_one, Nat.one_mul, Nat.add_zero, Nat.zero_add, le_T, nz0, nz1, i3]
    exact hQ
  | succ m ih =>
    intro j hj hQ
    have ij := ib (p + j) (by omega)
    have hj2 := hd (p + j) (by omega) (by omega)
    have hlt := tNum_lt (T := T) (p := p) (fun j => hb _) j (by omega) (fun i hi => hd (p + i) (by omega) (by omega))
    have hl4 : 10 ^ j ≤ 10 ^ 4 := Nat.pow_le_pow_right (by decide) (by omega)
    rw [w62_29]
    simp (disch := omega) only [w62_30, w62_31, w62_34, w62_37, w62_38, w62_40, w62_41, w62_42, w62_45, w62_46, w62_47, w62_48, w62_50, w62_51, w62_52, w62_55, s54, s55, s56, r540, r546, aPush_s, aPush_n, vrf_s, vrf_n, true_and, and_true, false_and, and_false, true_imp_iff, false_imp_iff, not_true_eq_false, not_false_eq_true, eq_self, true_or, or_true, and_self, if_true, if_false, n_lit, n_of, n_an, Nat.add_sub_cancel, nI_add, pk_mul, n_sub, n_ixT, n_cl, n_leT, n_leF, n_ltT, n_ltF, n_eqT, n_eqF, Nat.reduceAdd, Nat.reduceMul, Nat.reduceSub, Nat.reduceEqDiff, Nat.reduceLT, Nat.reduceLeDiff, Nat.mul_one, Nat.one_mul, Nat.add_zero, Nat.zero_add, le_T, nz0, nz1, i3, ij]
    exact ih (j + 1) (by omega) hQ
theorem c62 (hT : Th S R) (tp : Tp I T n) (tk : tOk n t) (hd : tDg T n t) (h : Ck I k t C a b o) (hC : C.length < 96) (e2 : t.2.2.1 = 2) (ef : t.2.2.2 = false) (e4 : t.2.1 - t.1 ≤ 4) (hQ : ∀ J, Ck J k (tNx T n t) (nI (tNum T t.1 (t.2.1 - t.1)) :: C) (a + 1) b o → F56 I J → Q (some (.int (nI 1))) (S, J, R, z)) : RM (d + 4) 62 [.ref 54] (S, I, R, z) Q := by
  obtain ⟨s54, s55, s56, r540, r546⟩ := id hT
  obtain ⟨n96, i1, ib, hb⟩ := id tp
  obtain ⟨⟨i2, i3, i4, i5⟩, -⟩ := id h
  obtain ⟨k1, k2, k3, k4⟩ := id tk
  rw [ef, b2n_f] at i5
  simp (disch := omega) only [e62, w62_0, w62_1, w62_4, w62_7, w62_8, w62_11, w62_12, w62_15, w62_16, w62_17, w62_20, w62_21, w62_22, w62_23, w62_24, w62_25, w62_28, w62_30, w62_31, w62_34, w62_37, w62_38, w62_40, w62_41, w62_42, w62_45, w62_46, w62_47, w62_48, w62_50, w62_51, w62_52, w62_55, w62_58, w62_59, w62_60, w62_63, w62_64, w62_65, w62_68, w62_69, w62_70, w62_73, w62_74, w62_77, w62_78, s54, s55, s56, r540, r546, aPush_s, aPush_n, vrf_s, vrf_n, true_and, and_true, false_and, and_false, true_imp_iff, false_imp_iff, not_true_eq_false, not_false_eq_true, eq_self, true_or, or_true, and_self, if_true, if_false, n_lit, n_of, n_an, Nat.add_sub_cancel, nI_add, pk_mul, n_sub, n_ixT, n_cl, n_leT, n_leF, n_ltT, n_ltF, n_eqT, n_eqF, Nat.reduceAdd, Nat.reduceMul, Nat.reduceSub, Nat.reduceEqDiff, Nat.reduceLT, Nat.reduceLeDiff, Nat.mul_one, Nat.one_mul, Nat.add_zero, Nat.zero_add, le_T, nz0, nz1, i2, i3, i5]
  have hdg : ∀ j, t.1 ≤ j → j < t.2.1 → 48 ≤ T j ∧ T j ≤ 57 := fun j h1 h2 => tSo_2 (n := n) ((hd j h1 h2).trans e2)
  refine l62 (p := t.1) hT tp i3 k2 e4 hdg (t.2.1 - t.1) 0 (by omega) ?_
  have hlt := tNum_lt (T := T) (p := t.1) (fun j => hb _) (t.2.1 - t.1) e4 (fun i hi => hdg (t.1 + i) (by omega) (by omega))
  have hl4 : 10 ^ (t.2.1 - t.1) ≤ 10 ^ 4 := Nat.pow_le_pow_right (by decide) e4
  obtain ⟨v, ev⟩ : ∃ v, v = tNum T t.1 (t.2.1 - t.1) := ⟨_, rfl⟩
  rw [← ev] at hlt hQ ⊢
  have hx : tr (nI v) = nI v := by
    unfold tr
    rw [if_pos (by rw [← nI_0]; exact nI_le (Nat.zero_le _) (by omega)), if_pos (show nI v < (10000 : Int32) from (nI_lt (by omega) (by omega) : nI v < nI 10000))]
  simp (disch := omega) only [w62_58, w62_59, w62_60, s54, s55, s56, r540, r546, aPush_s, aPush_n, vrf_s, vrf_n, true_and, and_true, false_and, and_false, true_imp_iff, false_imp_iff, not_true_eq_false, not_false_eq_true, eq_self, true_or, or_true, and_self, if_true, if_false, n_lit, n_of, n_an, Nat.add_sub_cancel, nI_add, pk_mul, n_sub, n_ixT, n_cl, n_leT, n_leF, n_ltT, n_ltF, n_eqT, n_eqF, Nat.reduceAdd, Nat.reduceMul, Nat.reduceSub, Nat.reduceEqDiff, Nat.reduceLT, Nat.reduceLeDiff, Nat.mul_one, Nat.one_mul, Nat.add_zero, Nat.zero_add, le_T, nz0, nz1]
  refine c55k hT h hC hx (fun J hJ fJ => ?_)
  have j9 : J 54 9 = nI a := hJ.2.2.2.1
  simp (disch := omega) only [w62_63, w62_64, w62_65, w62_68, w62_69, w62_70, w62_73, w62_74, s54, s55, s56, r540, r546, aPush_s, aPush_n, vrf_s, vrf_n, true_and, and_true, false_and, and_false, true_imp_iff, false_imp_iff, not_true_eq_false, not_false_eq_true, eq_self, true_or, or_true, and_self, if_true, if_false, n_lit, n_of, n_an, Nat.add_sub_cancel, nI_add, pk_mul, n_sub, n_ixT, n_cl, n_leT, n_leF, n_ltT, n_ltF, n_eqT, n_eqF, Nat.reduceAdd, Nat.reduceMul, Nat.reduceSub, Nat.reduceEqDiff, Nat.reduceLT, Nat.reduceLeDiff, Nat.mul_one, Nat.one_mul, Nat.add_zero, Nat.zero_add, le_T, nz0, nz1, j9]
  refine c51k hT ((tp.f56 fJ).f56 (F56.a54 (by decide) (by decide))) tk hJ.pc (fun K hK fK => ?_)
  simp (disch := omega) only [w62_77, w62_78, s54, s55, s56, r540, r546, aPush_s, aPush_n, vrf_s, vrf_n, true_and, and_true, false_and, and_false, true_imp_iff, false_imp_iff, not_true_eq_false, not_false_eq_true, eq_self, true_or, or_true, and_self, if_true, if_false, n_lit, n_of, n_an, Nat.add_sub_cancel, nI_add, pk_mul, n_sub, n_ixT, n_cl, n_leT, n_leF, n_ltT, n_ltF, n_eqT, n_eqF, Nat.reduceAdd, Nat.reduceMul, Nat.reduceSub, Nat.reduceEqDiff, Nat.reduceLT, Nat.reduceLeDiff, Nat.mul_one, Nat.one_mul, Nat.add_zero, Nat.zero_add, le_T, nz0, nz1]
  exact hQ K hK ((fJ.tr (F56.a54 (by decide) (by decide))).tr fK)
theorem tNm_ix : ∀ k, k < 3 → ∀ c, c < 256 → fIx (strB (3 + k)) c (strL (3 + k)) 0 = tNm k c := by decide +kernel
theorem tr_nm : ∀ i, i < 3 → -nI 1 - nI i = tr (nI (10000 + i)) := by decide +kernel
theorem c50 (hT : Th S R) (i8 : I 54 8 = nI k) (hk : k < 3) : RM (d + 1) 50 [.ref 54] (S, I, R, z) Q = Q (some (.ref (2 + (3 + k)))) (S, I, R, z) := by
  obtain ⟨s54, s55, s56, r540, r546⟩ := id hT
  rcases (show k = 0 ∨ k = 1 ∨ k = 2 by omega) with rfl | rfl | rfl
  · simp (disch := omega) only [e50, w50_0, w50_1, w50_4, w50_7, w50_9, w50_12, w50_13, w50_16, w50_17, w50_20, w50_22, w50_25, w50_27, w50_27N, s54, s55, s56, r540, r546, aPush_s, aPush_n, vrf_s, vrf_n, true_and, and_true, false_and, and_false, true_imp_iff, false_imp_iff, not_true_eq_false, not_false_eq_true, eq_self, true_or, or_true, and_self, if_true, if_false, n_lit, n_of, n_an, Nat.add_sub_cancel, nI_add, pk_mul, n_sub, n_ixT, n_cl, n_leT, n_leF, n_ltT, n_ltF, n_eqT, n_eqF, Nat.reduceAdd, Nat.reduceMul, Nat.reduceSub, Nat.reduceEqDiff, Nat.reduceLT, Nat.reduceLeDiff, Nat.mul_one, Nat.one_mul, Nat.add_zero, Nat.zero_add, le_T, nz0, nz1, i8]
  · simp (disch := omega) only [e50, w50_0, w50_1, w50_4, w50_7, w50_9, w50_12, w50_13, w50_16, w50_17, w50_20, w50_22, w50_25, w50_27, w50_27N, s54, s55, s56, r540, r546, aPush_s, aPush_n, vrf_s, vrf_n, true_and, and_true, false_and, and_false, true_imp_iff, false_imp_iff, not_true_eq_false, not_false_eq_true, eq_self, true_or, or_true, and_self, if_true, if_false, n_lit, n_of, n_an, Nat.add_sub_cancel, nI_add, pk_mul, n_sub, n_ixT, n_cl, n_leT, n_leF, n_ltT, n_ltF, n_eqT, n_eqF, Nat.reduceAdd, Nat.reduceMul, Nat.reduceSub, Nat.reduceEqDiff, Nat.reduceLT, Nat.reduceLeDiff, Nat.mul_one, Nat.one_mul, Nat.add_zero, Nat.zero_add, le_T, nz0, nz1, i8]
  · simp (disch := omega) only [e50, w50_0, w50_1, w50_4, w50_7, w50_9, w50_12, w50_13, w50_16, w50_17, w50_20, w50_22, w50_25, w50_27, w50_27N, s54, s55, s56, r540, r546, aPush_s, aPush_n, vrf_s, vrf_n, true_and, and_true, false_and, and_false, true_imp_iff, false_imp_iff, not_true_eq_false, not_false_eq_true, eq_self, true_or, or_true, and_self, if_true, if_false, n_lit, n_of, n_an, Nat.add_sub_cancel, nI_add, pk_mul, n_sub, n_ixT, n_cl, n_leT, n_leF, n_ltT, n_ltF, n_eqT, n_eqF, Nat.reduceAdd, Nat.reduceMul, Nat.reduceSub, Nat.reduceEqDiff, Nat.reduceLT, Nat.reduceLeDiff, Nat.mul_one, Nat.one_mul, Nat.add_zero, Nat.zero_add, le_T, nz0, nz1, i8]
theorem tSo_1 {p : Nat} (h : tSo T n p = 1) : 97 ≤ T p ∧ T p ≤ 122 := by
  unfold tSo at h
  repeat' split at h
  all_goals first | omega | assumption
theorem tPc_1 (h : t.2.2.1 = 1) : tPc T k t = if t.2.2.2 = true then none else if t.2.1 - t.1 = 1 then (tNm k (T t.1)).map (fun i => 10000 + i) else none := by
  unfold tPc
  by_cases e : t.2.2.2 = true
  · rw [if_pos e, if_pos e]
  · rw [if_neg e, if_neg e, if_neg (fun q => by omega)]
    by_cases e1 : t.2.1 - t.1 = 1
    · rw [if_pos ⟨h, e1⟩, if_pos e1]
    · rw [if_neg (fun q => e1 q.2), if_neg e1]
theorem tPc_2 (h : t.2.2.1 = 2) : tPc T k t = if t.2.2.2 = true then none else if t.2.1 - t.1 ≤ 4 then some (tNum T t.1 (t.2.1 - t.1)) else none := by
  unfold tPc
  by_cases e : t.2.2.2 = true
  · rw [if_pos e, if_pos e]
  · rw [if_neg e, if_neg e]
    by_cases e1 : t.2.1 - t.1 ≤ 4
    · rw [if_pos ⟨h, e1⟩, if_pos e1]
    · rw [if_neg (fun q => e1 q.2), if_neg e1, if_neg (fun q => by omega)]
/-- a name, or none -/
theorem c63 (hT : Th S R) (tp : Tp I T n) (tk : tOk n t) (hd : tDg T n t) (kx : Kx S I R) (hk : k < 3) (h : Ck I k t C a b o) (hC : C.length < 96) (e1 : t.2.2.1 = 1) (hN : tPc T k t = none → Q (some (.int (nI 0))) (S, I, R, z)) (hQ : ∀ c J, tPc T k t = some c → Ck J k (tNx T n t) (nI c :: C) (a + 1) b o → F56 I J → Q (some (.int (nI 1))) (S, J, R, z)) : RM (d + 7) 63 [.ref 54] (S, I, R, z) Q := by
  obtain ⟨s54, s55, s56, r540, r546⟩ := id hT
  obtain ⟨n96, i1, ib, hb⟩ := id tp
  obtain ⟨⟨i2, i3, i4, i5⟩, -, i8, -⟩ := id h
  obtain ⟨k1, k2, k3, k4⟩ := id tk
  have hlt := k4 (by omega)
  have ip := ib t.1 (by omega)
  have hc := tSo_1 (n := n) ((hd t.1 (Nat.le_refl _) hlt).trans e1)
  obtain ⟨-, u1, -⟩ := fx128 (T t.1) (by omega)
  have hst := kst (i := 3 + k) kx (by omega)
  have h0 : 0 < strL (3 + k) := by
    have key : ∀ k, k < 3 → 0 < strL (3 + k) := by decide
    exact key k hk
  have hix := tNm_ix k hk (T t.1) (by omega)
  rw [tPc_1 e1] at hN hQ
  have h240 : ∀ Q', RM (d + 6) 240 [.ref (2 + (3 + k)), .int (nI (T t.1))] (S, I, R, z) Q' = Q' (some (.int (oI (tNm k (T t.1))))) (S, I, R, z) := fun Q' => by rw [c240 hst h0 (by omega), hix]
  have h14 : (S (2 + (3 + k))).1 = 14 := by rw [hst.1]
  simp (disch := omega) only [e63, w63_0, w63_1, w63_4, w63_5, w63_8, w63_9, w63_12, w63_13, w63_14, w63_17, w63_18, s54, s55, s56, r540, r546, aPush_s, aPush_n, vrf_s, vrf_n, true_and, and_true, false_and, and_false, true_imp_iff, false_imp_iff, not_true_eq_false, not_false_eq_true, eq_self, true_or, or_true, and_self, if_true, if_false, n_lit, n_of, n_an, Nat.add_sub_cancel, nI_add, pk_mul, n_sub, n_ixT, n_cl, n_leT, n_leF, n_ltT, n_ltF, n_eqT, n_eqF, Nat.reduceAdd, Nat.reduceMul, Nat.reduceSub, Nat.reduceEqDiff, Nat.reduceLT, Nat.reduceLeDiff, Nat.mul_one, Nat.one_mul, Nat.add_zero, Nat.zero_add, le_T, nz0, nz1, c50 hT i8 hk, i2, ip, u1, h14, h240]
  cases ef : t.2.2.2
  · rw [ef, b2n_f] at i5
    rw [ef, if_neg (by decide)] at hN hQ
    by_cases el : t.2.1 - t.1 = 1
    · rw [if_pos el] at hN hQ
      cases en : tNm k (T t.1) with
      | none =>
        rw [en] at hN
        have hneg : ¬ nI 0 ≤ -nI 1 := by decide
        simp (disch := omega) only [w63_19, w63_22, w63_25, w63_26, w63_29, w63_30, w63_33, w63_34, w63_35, w63_38, w63_39, w63_42, w63_43, w63_44, w63_45, w63_46, w63_47, s54, s55, s56, r540, r546, aPush_s, aPush_n, vrf_s, vrf_n, true_and, and_true, false_and, and_false, true_imp_iff, false_imp_iff, not_true_eq_false, not_false_eq_true, eq_self, true_or, or_true, and_self, if_true, if_false, n_lit, n_of, n_an, Nat.add_sub_cancel, nI_add, pk_mul, n_sub, n_ixT, n_cl, n_leT, n_leF, n_ltT, n_ltF, n_eqT, n_eqF, Nat.reduceAdd, Nat.reduceMul, Nat.reduceSub, Nat.reduceEqDiff, Nat.reduceLT, Nat.reduceLeDiff, Nat.mul_one, Nat.one_mul, Nat.add_zero, Nat.zero_add, le_T, nz0, nz1, i2, i3, i5, oI]
        exact ⟨fun q => absurd q hneg, fun _ => hN rfl⟩
      | some i =>
        rw [en] at hQ
        have hi := tNm_lt en
        have hi3 : i < 3 := by
          unfold sNm at hi
          split at hi <;> omega
        simp (disch := omega) only [w63_19, w63_22, w63_25, w63_26, w63_29, w63_30, w63_33, w63_34, w63_35, w63_38, w63_39, w63_42, w63_43, w63_44, w63_45, w63_46, w63_47, s54, s55, s56, r540, r546, aPush_s, aPush_n, vrf_s, vrf_n, true_and, and_true, false_and, and_false, true_imp_iff, false_imp_iff, not_true_eq_false, not_false_eq_true, eq_self, true_or, or_true, and_self, if_true, if_false, n_lit, n_of, n_an, Nat.add_sub_cancel, nI_add, pk_mul, n_sub, n_ixT, n_cl, n_leT, n_leF, n_ltT, n_ltF, n_eqT, n_eqF, Nat.reduceAdd, Nat.reduceMul, Nat.reduceSub, Nat.reduceEqDiff, Nat.reduceLT, Nat.reduceLeDiff, Nat.mul_one, Nat.one_mul, Nat.add_zero, Nat.zero_add, le_T, nz0, nz1, i2, i3, i5, oI, w63_48]
        refine c55k hT h hC (tr_nm i hi3).symm (fun J hJ fJ => ?_)
        have j9 : J 54 9 = nI a := hJ.2.2.2.1
        simp (disch := omega) only [w63_51, w63_52, w63_53, w63_56, w63_57, w63_58, w63_61, w63_62, s54, s55, s56, r540, r546, aPush_s, aPush_n, vrf_s, vrf_n, true_and, and_true, false_and, and_false, true_imp_iff, false_imp_iff, not_true_eq_false, not_false_eq_true, eq_self, true_or, or_true, and_self, if_true, if_false, n_lit, n_of, n_an, Nat.add_sub_cancel, nI_add, pk_mul, n_sub, n_ixT, n_cl, n_leT, n_leF, n_ltT, n_ltF, n_eqT, n_eqF, Nat.reduceAdd, Nat.reduceMul, Nat.reduceSub, Nat.reduceEqDiff, Nat.reduceLT, Nat.reduceLeDiff, Nat.mul_one, Nat.one_mul, Nat.add_zero, Nat.zero_add, le_T, nz0, nz1, j9]
        refine c51k hT ((tp.f56 fJ).f56 (F56.a54 (by decide) (by decide))) tk hJ.pc (fun K hK fK => ?_)
        simp (disch := omega) only [w63_65, w63_66, s54, s55, s56, r540, r546, aPush_s, aPush_n, vrf_s, vrf_n, true_and, and_true, false_and, and_false, true_imp_iff, false_imp_iff, not_true_eq_false, not_false_eq_true, eq_self, true_or, or_true, and_self, if_true, if_false, n_lit, n_of, n_an, Nat.add_sub_cancel, nI_add, pk_mul, n_sub, n_ixT, n_cl, n_leT, n_leF, n_ltT, n_ltF, n_eqT, n_eqF, Nat.reduceAdd, Nat.reduceMul, Nat.reduceSub, Nat.reduceEqDiff, Nat.reduceLT, Nat.reduceLeDiff, Nat.mul_one, Nat.one_mul, Nat.add_zero, Nat.zero_add, le_T, nz0, nz1]
        exact hQ _ K rfl hK ((fJ.tr (F56.a54 (by decide) (by decide))).tr fK)
    · rw [if_neg el] at hN
      simp (disch := omega) only [w63_19, w63_22, w63_25, w63_26, w63_29, w63_30, w63_33, w63_34, w63_35, w63_38, w63_39, w63_42, w63_43, w63_44, w63_45, w63_46, w63_47, s54, s55, s56, r540, r546, aPush_s, aPush_n, vrf_s, vrf_n, true_and, and_true, false_and, and_false, true_imp_iff, false_imp_iff, not_true_eq_false, not_false_eq_true, eq_self, true_or, or_true, and_self, if_true, if_false, n_lit, n_of, n_an, Nat.add_sub_cancel, nI_add, pk_mul, n_sub, n_ixT, n_cl, n_leT, n_leF, n_ltT, n_ltF, n_eqT, n_eqF, Nat.reduceAdd, Nat.reduceMul, Nat.reduceSub, Nat.reduceEqDiff, Nat.reduceLT, Nat.reduceLeDiff, Nat.mul_one, Nat.one_mul, Nat.add_zero, Nat.zero_add, le_T, nz0, nz1, i2, i3, i5]
      exact hN rfl
  · rw [ef, b2n_t] at i5
    rw [ef, if_pos rfl] at hN
    simp (disch := omega) only [w63_19, w63_22, w63_25, w63_26, w63_29, w63_30, w63_33, w63_34, w63_35, w63_38, w63_39, w63_42, w63_43, w63_44, w63_45, w63_46, w63_47, s54, s55, s56, r540, r546, aPush_s, aPush_n, vrf_s, vrf_n, true_and, and_true, false_and, and_false, true_imp_iff, false_imp_iff, not_true_eq_false, not_false_eq_true, eq_self, true_or, or_true, and_self, if_true, if_false, n_lit, n_of, n_an, Nat.add_sub_cancel, nI_add, pk_mul, n_sub, n_ixT, n_cl, n_leT, n_leF, n_ltT, n_ltF, n_eqT, n_eqF, Nat.reduceAdd, Nat.reduceMul, Nat.reduceSub, Nat.reduceEqDiff, Nat.reduceLT, Nat.reduceLeDiff, Nat.mul_one, Nat.one_mul, Nat.add_zero, Nat.zero_add, le_T, nz0, nz1, i5]
    exact hN rfl
end
