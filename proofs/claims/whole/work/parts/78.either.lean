/-! TEXT: the class reads E; each reader goes the machine's way -/
/-- no operator that a reader of rank l would still take -/
def mPs (T : Nat → Nat) (l : Nat) (te : List Bool) (t : Tok) : Prop := tOp T t = 0 ∨ tRk (tOp T t) < l ∨ (tRk (tOp T t) = 3 ∧ te.headD false = true)
/-- a reader of rank l has read its piece: M the machine where it began -/
def rGd (T : Nat → Nat) (n k l s : Nat) (M : MS) (J : Nat → Nat → Int32) : Prop := ∃ (t' : Tok) (H' : List Nat) (C' C1 : List Int32) (te' : List Bool) (a' : Nat), mTo T n k M (t', H', C', false, te', a') ∧ stl l H' C' = stl l M.2.1 C1 ∧ te'.tail = M.2.2.2.2.1.tail ∧ (4 ≤ l → te' = M.2.2.2.2.1) ∧ mPs T s te' t' ∧ Ck J k t' C1 a' (cOp M.2.1) (cNo M.2.1)
/-- it has found no piece -/
def rBd (T : Nat → Nat) (n k : Nat) (M : MS) (J : Nat → Nat → Int32) : Prop := ∃ Mf, mTo T n k M Mf ∧ mNo T n k Mf ∧ J 54 2 = nI Mf.1.1 ∧ (∃ m, m ≤ 96 ∧ J 54 7 = nI m) ∧ J 54 10 = nI (cOp M.2.1) ∧ J 54 11 = nI (cNo M.2.1)
def rPo (T : Nat → Nat) (n k l : Nat) (M : MS) (S : Nat → Nat × Nat) (I : Nat → Nat → Int32) (R : Nat → Nat → Option Nat) (z : Nat × Nat) : Option Value → HS → Prop := fun v τ => ∃ J, τ = (S, J, R, z) ∧ F56 I J ∧ ((v = some (.int (nI 1)) ∧ rGd T n k l l M J) ∨ (v = some (.int (nI 0)) ∧ rBd T n k M J))
def rNd (l : Nat) (H : List Nat) : Nat := 20 + 12 * (8 - cOp H) + 12 * (8 - cNo H) + (7 - l)
def rCon (S : Nat → Nat × Nat) (R : Nat → Nat → Option Nat) (T : Nat → Nat) (n k mth l f : Nat) : Prop := ∀ (D : Nat) (t : Tok) (H : List Nat) (C : List Int32) (te : List Bool) (a : Nat) (I : Nat → Nat → Int32) (z : Nat × Nat), mOk n (t, H, C, true, te, a) → tDg T n t → (l < 6 → blk l H) → (l ≤ 3 → te.headD false = false) → 97 ≤ t.1 + f → rNd l H ≤ D → Tp I T n → Kx S I R → Ck I k t C a (cOp H) (cNo H) → RM D mth [.ref 54] (S, I, R, z) (rPo T n k l (t, H, C, true, te, a) S I R z)
section
variable {d n k p q a b o f l : Nat} {T : Nat → Nat} {t : Tok} {H : List Nat} {C : List Int32} {te : List Bool} {S : Nat → Nat × Nat} {I J K : Nat → Nat → Int32} {R : Nat → Nat → Option Nat} {z : Nat × Nat} {x y : Int32} {Q : Option Value → HS → Prop} {l1 l2 : Value} {M M' : MS}
theorem mTo.ok (h : mTo T n k M M') (ok : mOk n M) : mOk n M' ∧ M.1.1 ≤ M'.1.1 := by
  obtain ⟨j, hj⟩ := h
  induction j generalizing M with
  | zero =>
    cases hj
    exact ⟨ok, Nat.le_refl _⟩
  | succ j ih =>
    have hj : (mSt T n k M).bind (mIt T n k j) = some M' := hj
    cases e : mSt T n k M with
    | none => rw [e] at hj; cases hj
    | some M1 =>
      rw [e] at hj
      obtain ⟨g1, g2⟩ := ih (mSt_ok e ok) hj
      obtain ⟨h0, h1⟩ := mSt_tok e
      have k2 := (tNx_ok (T := T) (n := n) (t := M.1) ok.1.2.1).2
      have := ok.1.1
      rw [← h1] at k2
      exact ⟨g1, by omega⟩
theorem mTo.dg (h : mTo T n k M M') (dg : tDg T n M.1) : tDg T n M'.1 := by
  obtain ⟨j, hj⟩ := h
  induction j generalizing M with
  | zero =>
    cases hj
    exact dg
  | succ j ih =>
    have hj : (mSt T n k M).bind (mIt T n k j) = some M' := hj
    cases e : mSt T n k M with
    | none => rw [e] at hj; cases hj
    | some M1 =>
      rw [e] at hj
      refine ih ?_ hj
      rw [(mSt_tok e).2]
      exact tNx_dg _
theorem rCon.use {mth D : Nat} (h : rCon S R T n k mth l f) (ok : mOk n (t, H, C, true, te, a)) (dg : tDg T n t) (hb : l < 6 → blk l H) (ht : l ≤ 3 → te.headD false = false) (hf : 97 ≤ t.1 + f) (hD : rNd l H ≤ D) (tp : Tp I T n) (kx : Kx S I R) (ck : Ck I k t C a (cOp H) (cNo H)) (hG : ∀ J, F56 I J → rGd T n k l l (t, H, C, true, te, a) J → Q (some (.int (nI 1))) (S, J, R, z)) (hB : ∀ J, F56 I J → rBd T n k (t, H, C, true, te, a) J → Q (some (.int (nI 0))) (S, J, R, z)) : RM D mth [.ref 54] (S, I, R, z) Q := by
  refine RM_mono (h D t H C te a I z ok dg hb ht hf hD tp kx ck) ?_
  rintro v τ ⟨J, rfl, fJ, ⟨rfl, g⟩ | ⟨rfl, g⟩⟩
  · exact hG J fJ g
  · exact hB J fJ g
theorem tRk_5 {t : Tok} : tRk (tOp T t) < 6 ∨ tOp T t = 0 := by
  have := tOp_9 (T := T) t
  unfold tRk
  repeat' split
  all_goals omega
theorem mPs_6 {te : List Bool} : mPs T 6 te t := by
  rcases tRk_5 (T := T) (t := t) with h | h
  · exact Or.inr (Or.inl h)
  · exact Or.inl h
theorem mSt_pc {c : Nat} (hs : t.2.2.1 ≠ 3) (h : tPc T k t = some c) : mSt T n k (t, H, C, true, te, a) = some (tNx T n t, (stl 6 H (nI c :: C)).1, (stl 6 H (nI c :: C)).2, false, te, a + 1) := by
  unfold mSt
  dsimp only
  rw [if_neg (fun q => hs q.1.1), if_neg (fun q => hs q.1.1), h]
theorem mNo_pc (h1 : ¬ (tSg T 33 t ∧ cNo H < 8)) (h2 : ¬ (tSg T 40 t ∧ cOp H < 8)) (h : tPc T k t = none) : mNo T n k (t, H, C, true, te, a) := by
  refine Or.inr ⟨fun q => Bool.noConfusion q.1, ?_⟩
  unfold mSt
  dsimp only
  rw [if_neg h1, if_neg h2, h]
theorem tPc_3 (h : t.2.2.1 ≠ 1) (h2 : t.2.2.1 ≠ 2) : tPc T k t = none := by
  unfold tPc
  split
  · rfl
  · rw [if_neg (fun q => h2 q.1), if_neg (fun q => h q.1)]
/-- the machine fails here, and so does the reader -/
theorem rBd_here (ck : Ck I k t C a (cOp H) (cNo H)) (hC : C.length ≤ 96) (h : mNo T n k (t, H, C, true, te, a)) : rBd T n k (t, H, C, true, te, a) I := ⟨_, mTo.rf, h, ck.1.1, ⟨_, hC, ck.2.1⟩, ck.2.2.2.2.1, ck.2.2.2.2.2.1⟩
theorem rGd_pc {c : Nat} (hs : t.2.2.1 ≠ 3) (h : tPc T k t = some c) (ck : Ck J k (tNx T n t) (nI c :: C) (a + 1) (cOp H) (cNo H)) : rGd T n k 6 6 (t, H, C, true, te, a) J := ⟨_, _, _, _, _, _, mTo.st (mSt_pc hs h), stl_stl (Nat.le_refl 6) H (nI c :: C), rfl, fun _ => rfl, mPs_6, ck⟩
theorem Ck.nt {o' : Nat} (h : Ck I k t C a b o) : Ck (aW I 54 11 (nI o')) k t C a b o' := by
  obtain ⟨⟨h1, h2, h3, h4⟩, h5, h6, h7, h8, h9, h10⟩ := h
  refine ⟨⟨?_, ?_, ?_, ?_⟩, ?_, ?_, ?_, ?_, aW_e, h10.cong (fun j hj => by rw [aW_o (by decide)])⟩ <;> (rw [aW_i (by decide)]; assumption)
theorem Ck.br {b' : Nat} (h : Ck I k t C a b o) : Ck (aW I 54 10 (nI b')) k t C a b' o := by
  obtain ⟨⟨h1, h2, h3, h4⟩, h5, h6, h7, h8, h9, h10⟩ := h
  refine ⟨⟨?_, ?_, ?_, ?_⟩, ?_, ?_, ?_, aW_e, ?_, h10.cong (fun j hj => by rw [aW_o (by decide)])⟩ <;> (rw [aW_i (by decide)]; assumption)
/-- a step more, where none is asked for -/
theorem c55b (hT : Th S R) (h : ∃ m, m ≤ 96 ∧ I 54 7 = nI m) (hQ : ∀ L, F56 I L → L 54 2 = I 54 2 → L 54 10 = I 54 10 → L 54 11 = I 54 11 → (∃ m, m ≤ 96 ∧ L 54 7 = nI m) → Q none (S, L, R, z)) : RM (d + 1) 55 [.ref 54, .int x] (S, I, R, z) Q := by
  obtain ⟨m, hm, h7⟩ := h
  by_cases e : m < 96
  · rw [c55 hT h7 e]
    refine hQ _ (F56.a56.tr (F56.a54 (by decide) (by decide))) ?_ ?_ ?_ ⟨m + 1, e, aW_e⟩ <;> rw [aW_i (by decide), aW_o (by decide)]
  · rw [c55f hT h7 (by omega)]
    exact hQ I F56.rf rfl rfl rfl ⟨m, hm, h7⟩
theorem rBd.mv {M0 : MS} (h : rBd T n k M K) (hm : mTo T n k M0 M) (h2 : J 54 2 = K 54 2) (h7 : ∃ m, m ≤ 96 ∧ J 54 7 = nI m) (h10 : J 54 10 = nI (cOp M0.2.1)) (h11 : J 54 11 = nI (cNo M0.2.1)) : rBd T n k M0 J := by
  obtain ⟨Mf, b1, b2, b3, b4, b5, b6⟩ := h
  exact ⟨Mf, hm.tr b1, b2, h2.trans b3, h7, h10, h11⟩
theorem stl_C {H' : List Nat} {C' C1 : List Int32} (h : stl l H' C' = stl l H C1) : H'.length + C'.length = H.length + C1.length := by
  have e1 := stl_len (a := l) H' C'
  rw [h, stl_len] at e1
  exact e1.symm
/-- readNot -/
theorem c64 (hT : Th S R) (ih : rCon S R T n k 61 6 f) (ok : mOk n (t, H, C, true, te, a)) (h33 : tSg T 33 t) (hf : 97 ≤ t.1 + (f + 1)) (hD : rNd 6 H ≤ d + 12) (tp : Tp I T n) (kx : Kx S I R) (ck : Ck I k t C a (cOp H) (cNo H)) (hG : ∀ J, F56 I J → rGd T n k 6 6 (t, H, C, true, te, a) J → Q (some (.int (nI 1))) (S, J, R, z)) (hB : ∀ J, F56 I J → rBd T n k (t, H, C, true, te, a) J → Q (some (.int (nI 0))) (S, J, R, z)) : RM (d + 11) 64 [.ref 54] (S, I, R, z) Q := by
  obtain ⟨s54, s55, s56, r540, r546⟩ := id hT
  obtain ⟨tk, o1, o2, o3, o4, o5⟩ := id ok
  dsimp only at tk o1 o2 o3 o4 o5
  have n96 := tp.1
  have hq := tk.2.2.2 (by rw [h33.1]; decide)
  have hqn := tk.2.1
  have i11 := ck.2.2.2.2.2.1
  by_cases e8 : cNo H < 8
  · have hst : mSt T n k (t, H, C, true, te, a) = some (tNx T n t, 10 :: H, C, true, te, a) := by
      unfold mSt
      dsimp only
      rw [if_pos ⟨h33, e8⟩]
    have ok2 := mSt_ok hst ok
    have hp2 := (tNx_ok (T := T) (n := n) (t := t) tk.2.1).2
    have hno : cNo (10 :: H) = cNo H + 1 := Nat.add_comm 1 (cNo H)
    have hop : cOp (10 :: H) = cOp H := Nat.zero_add (cOp H)
    simp (disch := omega) only [e64, w64_0, w64_1, w64_4, w64_6, w64_9, w64_10, w64_11, w64_12, w64_13, w64_16, w64_17, w64_18, w64_21, w64_22, s54, s55, s56, r540, r546, aPush_s, aPush_n, vrf_s, vrf_n, true_and, and_true, false_and, and_false, true_imp_iff, false_imp_iff, not_true_eq_false, not_false_eq_true, eq_self, true_or, or_true, and_self, if_true, if_false, n_lit, n_of, n_an, Nat.add_sub_cancel, nI_add, pk_mul, n_sub, n_ixT, n_cl, n_leT, n_leF, n_ltT, n_ltF, n_eqT, n_eqF, Nat.reduceAdd, Nat.reduceMul, Nat.reduceSub, Nat.reduceEqDiff, Nat.reduceLT, Nat.reduceLeDiff, Nat.mul_one, Nat.one_mul, Nat.add_zero, Nat.zero_add, le_T, nz0, nz1, i11]
    refine c51k hT (tp.f56 (F56.a54 (by decide) (by decide))) tk ck.nt (fun J hJ fJ => ?_)
    have fIJ := (F56.a54 (I := I) (j := 11) (v := nI (cNo H + 1)) (by decide) (by decide)).tr fJ
    simp (disch := omega) only [w64_25, w64_26, s54, s55, s56, r540, r546, aPush_s, aPush_n, vrf_s, vrf_n, true_and, and_true, false_and, and_false, true_imp_iff, false_imp_iff, not_true_eq_false, not_false_eq_true, eq_self, true_or, or_true, and_self, if_true, if_false, n_lit, n_of, n_an, Nat.add_sub_cancel, nI_add, pk_mul, n_sub, n_ixT, n_cl, n_leT, n_leF, n_ltT, n_ltF, n_eqT, n_eqF, Nat.reduceAdd, Nat.reduceMul, Nat.reduceSub, Nat.reduceEqDiff, Nat.reduceLT, Nat.reduceLeDiff, Nat.mul_one, Nat.one_mul, Nat.add_zero, Nat.zero_add, le_T, nz0, nz1]
    refine ih.use (H := 10 :: H) (te := te) ok2 (tNx_dg t) (fun q => absurd q (by decide)) (fun q => absurd q (by decide)) (by omega) ?_ (tp.f56 fIJ) (kx.f56 fIJ) (by rw [hno, hop]; exact hJ) (fun K fK g => ?_) (fun K fK g => ?_)
    · unfold rNd at hD ⊢
      rw [hno, hop]
      omega
    · obtain ⟨t', H', C', C1, te', a', m1, m2, m3, m4, m5, m6⟩ := g
      have ok' := (m1.ok ok2).1
      have hl := stl_C m2
      rw [List.length_cons] at hl
      have hl2 : H'.length + C'.length ≤ t'.1 := ok'.2.1
      have hl3 : t'.1 ≤ t'.2.1 := ok'.1.1
      have hl4 : t'.2.1 ≤ n := ok'.1.2.1
      dsimp only at m6
      rw [hno, hop] at m6
      have k11 : K 54 11 = nI (cNo H + 1) := m6.2.2.2.2.2.1
      simp (disch := omega) only [w64_29, w64_30, w64_31, w64_32, w64_35, w64_36, w64_37, w64_40, w64_41, w64_43, s54, s55, s56, r540, r546, aPush_s, aPush_n, vrf_s, vrf_n, true_and, and_true, false_and, and_false, true_imp_iff, false_imp_iff, not_true_eq_false, not_false_eq_true, eq_self, true_or, or_true, and_self, if_true, if_false, n_lit, n_of, n_an, Nat.add_sub_cancel, nI_add, pk_mul, n_sub, n_ixT, n_cl, n_leT, n_leF, n_ltT, n_ltF, n_eqT, n_eqF, Nat.reduceAdd, Nat.reduceMul, Nat.reduceSub, Nat.reduceEqDiff, Nat.reduceLT, Nat.reduceLeDiff, Nat.mul_one, Nat.one_mul, Nat.add_zero, Nat.zero_add, le_T, nz0, nz1, k11]
      refine c55k (c := -nI 10) hT m6.nt (by omega) (by decide) (fun L hL fL => ?_)
      simp (disch := omega) only [w64_46, w64_47, s54, s55, s56, r540, r546, aPush_s, aPush_n, vrf_s, vrf_n, true_and, and_true, false_and, and_false, true_imp_iff, false_imp_iff, not_true_eq_false, not_false_eq_true, eq_self, true_or, or_true, and_self, if_true, if_false, n_lit, n_of, n_an, Nat.add_sub_cancel, nI_add, pk_mul, n_sub, n_ixT, n_cl, n_leT, n_leF, n_ltT, n_ltF, n_eqT, n_eqF, Nat.reduceAdd, Nat.reduceMul, Nat.reduceSub, Nat.reduceEqDiff, Nat.reduceLT, Nat.reduceLeDiff, Nat.mul_one, Nat.one_mul, Nat.add_zero, Nat.zero_add, le_T, nz0, nz1]
      exact hG L ((fIJ.tr fK).tr ((F56.a54 (by decide) (by decide)).tr fL)) ⟨t', H', C', -nI 10 :: C1, te', a', (mTo.st hst).tr m1, m2.trans (if_neg (by decide)), m3, m4, m5, hL⟩
    · have k11 : K 54 11 = nI (cNo (10 :: H)) := g.choose_spec.2.2.2.2.2
      have k10 : K 54 10 = nI (cOp (10 :: H)) := g.choose_spec.2.2.2.2.1
      have k7 : ∃ m, m ≤ 96 ∧ K 54 7 = nI m := g.choose_spec.2.2.2.1
      rw [hno] at k11
      rw [hop] at k10
      simp (disch := omega) only [w64_29, w64_30, w64_31, w64_32, w64_35, w64_36, w64_37, w64_40, w64_41, w64_43, s54, s55, s56, r540, r546, aPush_s, aPush_n, vrf_s, vrf_n, true_and, and_true, false_and, and_false, true_imp_iff, false_imp_iff, not_true_eq_false, not_false_eq_true, eq_self, true_or, or_true, and_self, if_true, if_false, n_lit, n_of, n_an, Nat.add_sub_cancel, nI_add, pk_mul, n_sub, n_ixT, n_cl, n_leT, n_leF, n_ltT, n_ltF, n_eqT, n_eqF, Nat.reduceAdd, Nat.reduceMul, Nat.reduceSub, Nat.reduceEqDiff, Nat.reduceLT, Nat.reduceLeDiff, Nat.mul_one, Nat.one_mul, Nat.add_zero, Nat.zero_add, le_T, nz0, nz1, k11]
      refine c55b hT (by rw [aW_i (by decide)]; exact k7) (fun L fL e2 e10 e11 e7 => ?_)
      simp (disch := omega) only [w64_46, w64_47, s54, s55, s56, r540, r546, aPush_s, aPush_n, vrf_s, vrf_n, true_and, and_true, false_and, and_false, true_imp_iff, false_imp_iff, not_true_eq_false, not_false_eq_true, eq_self, true_or, or_true, and_self, if_true, if_false, n_lit, n_of, n_an, Nat.add_sub_cancel, nI_add, pk_mul, n_sub, n_ixT, n_cl, n_leT, n_leF, n_ltT, n_ltF, n_eqT, n_eqF, Nat.reduceAdd, Nat.reduceMul, Nat.reduceSub, Nat.reduceEqDiff, Nat.reduceLT, Nat.reduceLeDiff, Nat.mul_one, Nat.one_mul, Nat.add_zero, Nat.zero_add, le_T, nz0, nz1]
      rw [aW_i (by decide)] at e2 e10
      rw [aW_e] at e11
      exact hB L ((fIJ.tr fK).tr ((F56.a54 (by decide) (by decide)).tr fL)) (g.mv (mTo.st hst) e2 e7 (e10.trans k10) e11)
  · simp (disch := omega) only [e64, w64_0, w64_1, w64_4, w64_6, w64_9, w64_10, w64_11, w64_12, w64_13, w64_16, w64_17, w64_18, w64_21, w64_22, s54, s55, s56, r540, r546, aPush_s, aPush_n, vrf_s, vrf_n, true_and, and_true, false_and, and_false, true_imp_iff, false_imp_iff, not_true_eq_false, not_false_eq_true, eq_self, true_or, or_true, and_self, if_true, if_false, n_lit, n_of, n_an, Nat.add_sub_cancel, nI_add, pk_mul, n_sub, n_ixT, n_cl, n_leT, n_leF, n_ltT, n_ltF, n_eqT, n_eqF, Nat.reduceAdd, Nat.reduceMul, Nat.reduceSub, Nat.reduceEqDiff, Nat.reduceLT, Nat.reduceLeDiff, Nat.mul_one, Nat.one_mul, Nat.add_zero, Nat.zero_add, le_T, nz0, nz1, i11]
    refine hB I F56.rf (rBd_here ck (by omega) (mNo_pc (fun q => e8 q.2) (fun q => ?_) (tPc_3 (by rw [h33.1]; decide) (by rw [h33.1]; decide))))
    have := q.1.2.symm.trans h33.2
    omega
/-- readBracket -/
theorem c65 (hT : Th S R) (ih : rCon S R T n k 56 1 f) (ok : mOk n (t, H, C, true, te, a)) (h40 : tSg T 40 t) (hf : 97 ≤ t.1 + (f + 1)) (hD : rNd 6 H ≤ d + 12) (tp : Tp I T n) (kx : Kx S I R) (ck : Ck I k t C a (cOp H) (cNo H)) (hG : ∀ J, F56 I J → rGd T n k 6 6 (t, H, C, true, te, a) J → Q (some (.int (nI 1))) (S, J, R, z)) (hB : ∀ J, F56 I J → rBd T n k (t, H, C, true, te, a) J → Q (some (.int (nI 0))) (S, J, R, z)) : RM (d + 11) 65 [.ref 54] (S, I, R, z) Q := by
  obtain ⟨s54, s55, s56, r540, r546⟩ := id hT
  obtain ⟨tk, o1, o2, o3, o4, o5⟩ := id ok
  dsimp only at tk o1 o2 o3 o4 o5
  have n96 := tp.1
  have hq := tk.2.2.2 (by rw [h40.1]; decide)
  have hqn := tk.2.1
  have i10 := ck.2.2.2.2.1
  have h33 : ¬ tSg T 33 t := fun q => by
    have := q.2.symm.trans h40.2
    omega
  by_cases e8 : cOp H < 8
  · have hst : mSt T n k (t, H, C, true, te, a) = some (tNx T n t, 11 :: H, C, true, false :: te, a) := by
      unfold mSt
      dsimp only
      rw [if_neg (fun q => h33 q.1), if_pos ⟨h40, e8⟩]
    have ok2 := mSt_ok hst ok
    have hp2 := (tNx_ok (T := T) (n := n) (t := t) tk.2.1).2
    have hno : cNo (11 :: H) = cNo H := Nat.zero_add (cNo H)
    have hop : cOp (11 :: H) = cOp H + 1 := Nat.add_comm 1 (cOp H)
    simp (disch := omega) only [e65, w65_0, w65_1, w65_4, w65_6, w65_9, w65_10, w65_11, w65_12, w65_13, w65_16, w65_17, w65_18, w65_21, w65_22, s54, s55, s56, r540, r546, aPush_s, aPush_n, vrf_s, vrf_n, true_and, and_true, false_and, and_false, true_imp_iff, false_imp_iff, not_true_eq_false, not_false_eq_true, eq_self, true_or, or_true, and_self, if_true, if_false, n_lit, n_of, n_an, Nat.add_sub_cancel, nI_add, pk_mul, n_sub, n_ixT, n_cl, n_leT, n_leF, n_ltT, n_ltF, n_eqT, n_eqF, Nat.reduceAdd, Nat.reduceMul, Nat.reduceSub, Nat.reduceEqDiff, Nat.reduceLT, Nat.reduceLeDiff, Nat.mul_one, Nat.one_mul, Nat.add_zero, Nat.zero_add, le_T, nz0, nz1, i10]
    refine c51k hT (tp.f56 (F56.a54 (by decide) (by decide))) tk ck.br (fun J hJ fJ => ?_)
    have fIJ := (F56.a54 (I := I) (j := 10) (v := nI (cOp H + 1)) (by decide) (by decide)).tr fJ
    simp (disch := omega) only [w65_25, w65_26, s54, s55, s56, r540, r546, aPush_s, aPush_n, vrf_s, vrf_n, true_and, and_true, false_and, and_false, true_imp_iff, false_imp_iff, not_true_eq_false, not_false_eq_true, eq_self, true_or, or_true, and_self, if_true, if_false, n_lit, n_of, n_an, Nat.add_sub_cancel, nI_add, pk_mul, n_sub, n_ixT, n_cl, n_leT, n_leF, n_ltT, n_ltF, n_eqT, n_eqF, Nat.reduceAdd, Nat.reduceMul, Nat.reduceSub, Nat.reduceEqDiff, Nat.reduceLT, Nat.reduceLeDiff, Nat.mul_one, Nat.one_mul, Nat.add_zero, Nat.zero_add, le_T, nz0, nz1]
    refine ih.use (H := 11 :: H) (te := false :: te) ok2 (tNx_dg t) (fun _ x r e => by cases e; exact Or.inl rfl) (fun _ => rfl) (by omega) ?_ (tp.f56 fIJ) (kx.f56 fIJ) (by rw [hno, hop]; exact hJ) (fun K fK g => ?_) (fun K fK g => ?_)
    · unfold rNd at hD ⊢
      rw [hno, hop]
      omega
    · obtain ⟨t', H', C', C1, te', a', m1, m2, m3, m4, m5, m6⟩ := g
      have ok' := (m1.ok ok2).1
      have hl := stl_C m2
      rw [List.length_cons] at hl
      have hl2 : H'.length + C'.length ≤ t'.1 := ok'.2.1
      have hl3 : t'.1 ≤ t'.2.1 := ok'.1.1
      have hl4 : t'.2.1 ≤ n := ok'.1.2.1
      dsimp only at m6 m2 m3
      rw [hno, hop] at m6
      have k10 : K 54 10 = nI (cOp H + 1) := m6.2.2.2.2.1
      have fIK := fIJ.tr fK
      have m2 : stl 1 H' C' = (11 :: H, C1) := m2.trans (if_pos (Or.inl rfl))
      have s0 : stl 0 H' C' = (11 :: H, C1) := by
        rw [← stl_stl (show 0 ≤ 1 by decide) H' C', m2]
        exact if_pos (Or.inl rfl)
      have op' : 0 < cOp H' := by
        have := (stl_op (a := 0) H' C').1
        rw [s0] at this
        rw [← this, hop]
        omega
      have c := fun (d : Nat) (Q : Option Value → HS → Prop) => c53 (d := d) (c := 41) (z := z) (Q := Q) hT (tp.f56 fIK) ok'.1 m6.1 (by decide)
      by_cases e41 : tSg T 41 t'
      · have hst2 : mSt T n k (t', H', C', false, te', a') = some (tNx T n t', (stl 6 H C1).1, (stl 6 H C1).2, false, te'.tail, a') := by
          unfold mSt
          dsimp only
          rw [if_pos ⟨e41, op'⟩, s0]
          rfl
        simp (disch := omega) only [w65_29, w65_32, w65_33, w65_35, w65_38, w65_41, w65_42, w65_45, w65_46, w65_47, w65_48, w65_49, w65_52, w65_53, w65_54, w65_57, w65_58, w65_61, w65_62, s54, s55, s56, r540, r546, aPush_s, aPush_n, vrf_s, vrf_n, true_and, and_true, false_and, and_false, true_imp_iff, false_imp_iff, not_true_eq_false, not_false_eq_true, eq_self, true_or, or_true, and_self, if_true, if_false, n_lit, n_of, n_an, Nat.add_sub_cancel, nI_add, pk_mul, n_sub, n_ixT, n_cl, n_leT, n_leF, n_ltT, n_ltF, n_eqT, n_eqF, Nat.reduceAdd, Nat.reduceMul, Nat.reduceSub, Nat.reduceEqDiff, Nat.reduceLT, Nat.reduceLeDiff, Nat.mul_one, Nat.one_mul, Nat.add_zero, Nat.zero_add, le_T, nz0, nz1, k10, c, decide_eq_true e41, b2n_t]
        refine c51k hT ((tp.f56 fIK).f56 (F56.a54 (by decide) (by decide))) ok'.1 m6.br (fun L hL fL => ?_)
        simp (disch := omega) only [w65_65, w65_66, s54, s55, s56, r540, r546, aPush_s, aPush_n, vrf_s, vrf_n, true_and, and_true, false_and, and_false, true_imp_iff, false_imp_iff, not_true_eq_false, not_false_eq_true, eq_self, true_or, or_true, and_self, if_true, if_false, n_lit, n_of, n_an, Nat.add_sub_cancel, nI_add, pk_mul, n_sub, n_ixT, n_cl, n_leT, n_leF, n_ltT, n_ltF, n_eqT, n_eqF, Nat.reduceAdd, Nat.reduceMul, Nat.reduceSub, Nat.reduceEqDiff, Nat.reduceLT, Nat.reduceLeDiff, Nat.mul_one, Nat.one_mul, Nat.add_zero, Nat.zero_add, le_T, nz0, nz1]
        exact hG L (fIK.tr ((F56.a54 (by decide) (by decide)).tr fL)) ⟨_, _, _, C1, _, _, ((mTo.st hst).tr m1).tr (mTo.st hst2), stl_stl (Nat.le_refl 6) H C1, by rw [m3]; rfl, fun _ => m3, mPs_6, hL⟩
      · simp (disch := omega) only [w65_29, w65_32, w65_33, w65_35, w65_38, w65_41, w65_42, w65_45, w65_46, w65_47, w65_48, w65_49, w65_52, w65_53, w65_54, w65_57, w65_58, w65_61, w65_62, w65_65, w65_66, s54, s55, s56, r540, r546, aPush_s, aPush_n, vrf_s, vrf_n, true_and, and_true, false_and, and_false, true_imp_iff, false_imp_iff, not_true_eq_false, not_false_eq_true, eq_self, true_or, or_true, and_self, if_true, if_false, n_lit, n_of, n_an, Nat.add_sub_cancel, nI_add, pk_mul, n_sub, n_ixT, n_cl, n_leT, n_leF, n_ltT, n_ltF, n_eqT, n_eqF, Nat.reduceAdd, Nat.reduceMul, Nat.reduceSub, Nat.reduceEqDiff, Nat.reduceLT, Nat.reduceLeDiff, Nat.mul_one, Nat.one_mul, Nat.add_zero, Nat.zero_add, le_T, nz0, nz1, k10, c, decide_eq_false e41, b2n_f]
        refine hB _ (fIK.tr (F56.a54 (by decide) (by decide))) ⟨(t', H', C', false, te', a'), (mTo.st hst).tr m1, ?_, ?_, ⟨C1.length, by omega, ?_⟩, aW_e, ?_⟩
        · by_cases e0 : t'.2.2.1 = 0
          · exact Or.inl ⟨rfl, e0, op'⟩
          · refine Or.inr ⟨fun q => e0 q.2, ?_⟩
            unfold mSt
            dsimp only
            rw [if_neg (fun q => e41 q.1)]
            rcases m5 with q | q | q
            · rw [if_pos (Or.inl q)]
            · exfalso
              unfold tRk at q
              repeat' split at q
              all_goals omega
            · rw [if_pos (Or.inr q)]
        · rw [aW_i (by decide)]
          exact m6.1.1
        · rw [aW_i (by decide)]
          exact m6.2.1
        · rw [aW_i (by decide)]
          exact m6.2.2.2.2.2.1
    · have k11 : K 54 11 = nI (cNo (11 :: H)) := g.choose_spec.2.2.2.2.2
      have k10 : K 54 10 = nI (cOp (11 :: H)) := g.choose_spec.2.2.2.2.1
      have k7 : ∃ m, m ≤ 96 ∧ K 54 7 = nI m := g.choose_spec.2.2.2.1
      rw [hno] at k11
      rw [hop] at k10
      simp (disch := omega) only [w65_29, w65_32, w65_33, w65_35, w65_38, w65_41, w65_42, w65_45, w65_46, w65_47, w65_48, w65_49, w65_52, w65_53, w65_54, w65_57, w65_58, w65_61, w65_62, w65_65, w65_66, s54, s55, s56, r540, r546, aPush_s, aPush_n, vrf_s, vrf_n, true_and, and_true, false_and, and_false, true_imp_iff, false_imp_iff, not_true_eq_false, not_false_eq_true, eq_self, true_or, or_true, and_self, if_true, if_false, n_lit, n_of, n_an, Nat.add_sub_cancel, nI_add, pk_mul, n_sub, n_ixT, n_cl, n_leT, n_leF, n_ltT, n_ltF, n_eqT, n_eqF, Nat.reduceAdd, Nat.reduceMul, Nat.reduceSub, Nat.reduceEqDiff, Nat.reduceLT, Nat.reduceLeDiff, Nat.mul_one, Nat.one_mul, Nat.add_zero, Nat.zero_add, le_T, nz0, nz1, k10]
      exact hB _ ((fIJ.tr fK).tr (F56.a54 (by decide) (by decide))) (g.mv (mTo.st hst) (aW_i (by decide)) (by rw [aW_i (by decide)]; exact k7) aW_e (by rw [aW_i (by decide)]; exact k11))
  · simp (disch := omega) only [e65, w65_0, w65_1, w65_4, w65_6, w65_9, w65_10, w65_11, w65_12, w65_13, w65_16, w65_17, w65_18, w65_21, w65_22, s54, s55, s56, r540, r546, aPush_s, aPush_n, vrf_s, vrf_n, true_and, and_true, false_and, and_false, true_imp_iff, false_imp_iff, not_true_eq_false, not_false_eq_true, eq_self, true_or, or_true, and_self, if_true, if_false, n_lit, n_of, n_an, Nat.add_sub_cancel, nI_add, pk_mul, n_sub, n_ixT, n_cl, n_leT, n_leF, n_ltT, n_ltF, n_eqT, n_eqF, Nat.reduceAdd, Nat.reduceMul, Nat.reduceSub, Nat.reduceEqDiff, Nat.reduceLT, Nat.reduceLeDiff, Nat.mul_one, Nat.one_mul, Nat.add_zero, Nat.zero_add, le_T, nz0, nz1, i10]
    exact hB I F56.rf (rBd_here ck (by omega) (mNo_pc (fun q => h33 q.1) (fun q => e8 q.2) (tPc_3 (by rw [h40.1]; decide) (by rw [h40.1]; decide))))
end
