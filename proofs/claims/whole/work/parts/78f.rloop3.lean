/-! TEXT: E of the reference goes the machine's way -/
section
variable {d n k p q a b o f l r : Nat} {T : Nat → Nat} {t : Tok} {H : List Nat} {C : List Int32} {te : List Bool} {S : Nat → Nat × Nat} {I J K : Nat → Nat → Int32} {R : Nat → Nat → Option Nat} {z : Nat × Nat} {x y : Int32} {Q : Option Value → HS → Prop} {l1 l2 l4 : Value} {M M' : MS}
/-- one step, where it does not end -/
theorem s214 (hm : Md S R) (tq : Tq I T n) (hk : k < 3) (ok : mOk n M) (he : cEl M.2.1) (nt : mNt M) (rs : RS T k I M) (h0 : ¬ (M.2.2.2.1 = false ∧ M.1.2.2.1 = 0))
    (hN : mSt T n k M = none → Q (some (.int (nI 0))) (S, I, R, z))
    (hS : ∀ M1 J o u, mSt T n k M = some M1 → o = cOp M1.2.1 → u = cNo M1.2.1 → RS T k J M1 → F4 I J → ∀ l4, RB (d + 4) 214 28 [.ref 81, .int (nI o), .int (nI u), .int (nI (b2n M1.2.2.2.1)), l4] [] (S, J, R, z) Q) :
    RB (d + 4) 214 28 [.ref 81, .int (nI (cOp M.2.1)), .int (nI (cNo M.2.1)), .int (nI (b2n M.2.2.2.1)), l4] [] (S, I, R, z) Q := by
  obtain ⟨t, H, C, w, te, a⟩ := M
  cases w
  · exact s214f hm tq ok he nt rs (fun q => h0 ⟨rfl, q⟩) hN hS
  · exact s214t hm tq hk ok he rs hN hS
theorem mSt_end (h : M.2.2.2.1 = false ∧ M.1.2.2.1 = 0) : mSt T n k M = none := by
  obtain ⟨t, H, C, w, te, a⟩ := M
  obtain ⟨h1, h2⟩ := h
  have h1 : w = false := h1
  have h2 : t.2.2.1 = 0 := h2
  subst h1
  unfold mSt
  dsimp only
  rw [if_neg (fun q => by have := q.1.1; omega), if_pos (Or.inl ?_)]
  unfold tOp
  rw [if_neg (by omega)]
theorem l214 (hm : Md S R) (hk : k < 3) : ∀ (j : Nat) (M M' : MS) (I : Nat → Nat → Int32) (l4 : Value), mIt T n k j M = some M' → mOk n M → tDg T n M.1 → mCd (sNm k) M → mNt M → Tq I T n → RS T k I M → (∀ J, mOk n M' → mCd (sNm k) M' → mNt M' → RS T k J M' → F4 I J → ∀ l4, RB (d + 4) 214 28 [.ref 81, .int (nI (cOp M'.2.1)), .int (nI (cNo M'.2.1)), .int (nI (b2n M'.2.2.2.1)), l4] [] (S, J, R, z) Q) → RB (d + 4) 214 28 [.ref 81, .int (nI (cOp M.2.1)), .int (nI (cNo M.2.1)), .int (nI (b2n M.2.2.2.1)), l4] [] (S, I, R, z) Q
  | 0, M, M', I, l4, h, ok, dg, cd, nt, tq, rs, hQ => by
    cases h
    exact hQ I ok cd nt rs F4.rf l4
  | j + 1, M, M', I, l4, h, ok, dg, cd, nt, tq, rs, hQ => by
    have h : (mSt T n k M).bind (mIt T n k j) = some M' := h
    cases e : mSt T n k M with
    | none => rw [e] at h; cases h
    | some M1 =>
      rw [e] at h
      refine s214 hm tq hk ok cd.2.2 nt rs (fun q => ?_) (fun q => ?_) (fun M2 J o u e2 eo eu rJ fJ l4 => ?_)
      · rw [mSt_end q] at e
        cases e
      · rw [q] at e
        cases e
      · rw [e] at e2
        cases e2
        subst eo
        subst eu
        have et := (mSt_tok e).2
        refine l214 hm hk j M1 M' J l4 h (mSt_ok e ok) (by rw [et]; exact tNx_dg _) (mSt_cd e tq.2.2.2 dg cd) (mSt_nt e nt) (tq.f4 fJ) rJ (fun K k1 k2 k3 k4 fK => hQ K k1 k2 k3 k4 (fJ.tr fK))
theorem mM0_cd {m : Nat} : mCd m (mM0 T n) := ⟨True.intro, rfl, fun _ h => absurd h List.not_mem_nil⟩
theorem mM0_nt : mNt (mM0 T n) := ⟨True.intro, fun e => by cases e⟩
/-- takesE up to where the machine comes to -/
theorem c214 (hm : Md S R) (hk : k < 3) (tq : Tq I T n) (tk : TkR T I (mM0 T n).1) (i7 : I 81 7 = nI (mM0 T n).1.2.1) (i12 : I 81 12 = nI k) (hM : mTo T n k (mM0 T n) M) (hQ : ∀ J, mOk n M → mCd (sNm k) M → mNt M → RS T k J M → F4 I J → ∀ l4, RB (d + 4) 214 28 [.ref 81, .int (nI (cOp M.2.1)), .int (nI (cNo M.2.1)), .int (nI (b2n M.2.2.2.1)), l4] [] (S, J, R, z) Q) : RM (d + 5) 214 [.ref 81] (S, I, R, z) Q := by
  obtain ⟨Md_s1, Md_s81, Md_s82, Md_s83, Md_s84, Md_s85, Md_s86, Md_s87, Md_s88, Md_s89, Md_s90, Md_s91, Md_s92, Md_s93, Md_s94, Md_s95, Md_s96, Md_s97, Md_s98, Md_s99, Md_s100, Md_s101, Md_s102, Md_r81_0, Md_r81_1, Md_r81_2, Md_r81_4, Md_r81_5, Md_r81_13, Md_r81_14, Md_r81_15, Md_r81_18, Md_r81_20, Md_r81_21, Md_r81_22, Md_r81_23, Md_r81_24, Md_r81_25, Md_r81_26, Md_r81_27, Md_r81_28, Md_r81_29, Md_r81_30, Md_r81_31⟩ := id hm
  have vz : vp_nar .boolean (nI 0) = nI 0 := rfl
  simp (disch := omega) only [e214, w214_0, w214_1, w214_2, w214_3, w214_4, w214_5, w214_6, w214_7, w214_8, w214_11, w214_12, w214_13, w214_16, w214_17, w214_18, w214_21, w214_22, w214_25, w214_26, w214_27, Md_s1, Md_s81, Md_s82, Md_s83, Md_s84, Md_s85, Md_s86, Md_s87, Md_s88, Md_s89, Md_s90, Md_s91, Md_s92, Md_s93, Md_s94, Md_s95, Md_s96, Md_s97, Md_s98, Md_s99, Md_s100, Md_s101, Md_s102, Md_r81_0, Md_r81_1, Md_r81_2, Md_r81_4, Md_r81_5, Md_r81_13, Md_r81_14, Md_r81_15, Md_r81_18, Md_r81_20, Md_r81_21, Md_r81_22, Md_r81_23, Md_r81_24, Md_r81_25, Md_r81_26, Md_r81_27, Md_r81_28, Md_r81_29, Md_r81_30, Md_r81_31, aPush_s, aPush_n, vrf_s, vrf_n, true_and, and_true, false_and, and_false, true_imp_iff, false_imp_iff, not_true_eq_false, not_false_eq_true, eq_self, true_or, or_true, and_self, if_true, if_false, n_lit, n_of, n_an, Nat.add_sub_cancel, nI_add, pk_mul, n_sub, n_ixT, n_cl, n_leT, n_leF, n_ltT, n_ltF, n_eqT, n_eqF, Nat.reduceAdd, Nat.reduceMul, Nat.reduceSub, Nat.reduceEqDiff, Nat.reduceLT, Nat.reduceLeDiff, Nat.mul_one, Nat.one_mul, Nat.add_zero, Nat.zero_add, le_T, nz0, nz1, vz]
  obtain ⟨K, eK⟩ : ∃ K, K = aW (aW (aW (aW I 81 16 (nI 0)) 81 17 (nI 0)) 81 19 (nI 0)) 91 0 (nI 0) := ⟨_, rfl⟩
  rw [← eK]
  have fK : F4 I K := by rw [eK]; exact (((F4.a81 (by decide)).tr (F4.a81 (by decide))).tr (F4.a81 (by decide))).tr F4.a91
  have gK : ∀ j, j ≠ 16 → j ≠ 17 → j ≠ 19 → K 81 j = I 81 j := fun j h1 h2 h3 => by rw [eK, aW_o (by decide), aW_i h3, aW_i h2, aW_i h1]
  obtain ⟨j, hj⟩ := hM
  refine l214 hm hk j (mM0 T n) M K _ hj mM0_ok (tNx_dg _) mM0_cd mM0_nt (tq.f4 fK) ⟨⟨?_, ?_, True.intro, True.intro⟩, tk.cong (fun j h1 h2 => gK j (by omega) (by omega) (by omega)), ?_, ?_, ⟨?_, True.intro⟩, ?_⟩ (fun J k1 k2 k3 k4 fJ => hQ J k1 k2 k3 k4 (fK.tr fJ))
  · rw [eK, aW_o (by decide), aW_e]
    rfl
  · rw [eK, aW_o (by decide), aW_i (by decide), aW_i (by decide), aW_e]
    rfl
  · rw [gK 7 (by decide) (by decide) (by decide)]
    exact i7
  · show K 81 17 = nI 0
    rw [eK, aW_o (by decide), aW_i (by decide), aW_e]
  · show K 91 0 = nI 0
    rw [eK, aW_e]
  · rw [gK 12 (by decide) (by decide) (by decide)]
    exact i12
/-- no E -/
theorem c214b (hm : Md S R) (hk : k < 3) (tq : Tq I T n) (tk : TkR T I (mM0 T n).1) (i7 : I 81 7 = nI (mM0 T n).1.2.1) (i12 : I 81 12 = nI k) (hM : mTo T n k (mM0 T n) M) (hB : mNo T n k M) (hQ : ∀ J, J 81 8 = nI M.1.1 → F4 I J → Q (some (.int (nI 0))) (S, J, R, z)) : RM (d + 5) 214 [.ref 81] (S, I, R, z) Q := by
  obtain ⟨Md_s1, Md_s81, Md_s82, Md_s83, Md_s84, Md_s85, Md_s86, Md_s87, Md_s88, Md_s89, Md_s90, Md_s91, Md_s92, Md_s93, Md_s94, Md_s95, Md_s96, Md_s97, Md_s98, Md_s99, Md_s100, Md_s101, Md_s102, Md_r81_0, Md_r81_1, Md_r81_2, Md_r81_4, Md_r81_5, Md_r81_13, Md_r81_14, Md_r81_15, Md_r81_18, Md_r81_20, Md_r81_21, Md_r81_22, Md_r81_23, Md_r81_24, Md_r81_25, Md_r81_26, Md_r81_27, Md_r81_28, Md_r81_29, Md_r81_30, Md_r81_31⟩ := id hm
  refine c214 hm hk tq tk i7 i12 hM (fun J k1 k2 k3 k4 fJ l4 => ?_)
  rcases hB with ⟨b1, b2, b3⟩ | ⟨b1, b2⟩
  · obtain ⟨t, H, C, w, te, a⟩ := M
    have b1 : w = false := b1
    have b2 : t.2.2.1 = 0 := b2
    have b3 : 0 < cOp H := b3
    subst b1
    have o2 : H.length + C.length ≤ t.1 := k1.2.1
    have o4 : cOp H ≤ 8 := k1.2.2.2.1
    have o1 : tOk n t := k1.1
    obtain ⟨o11, o12, -⟩ := id o1
    have n96 := tq.1
    obtain ⟨hw, tkr, -⟩ := id k4
    have hw : Rw J H C := hw
    have tkr : TkR T J t := tkr
    have i9 : J 81 9 = nI 0 := by
      rw [tkr.2.1]
      congr 1
      rw [tCd_0]
      exact b2
    dsimp only
    rw [b2n_f, w214_28]
    simp (disch := omega) only [w214_29, w214_32, w214_33, w214_36, w214_345, w214_346, w214_347, Md_s1, Md_s81, Md_s82, Md_s83, Md_s84, Md_s85, Md_s86, Md_s87, Md_s88, Md_s89, Md_s90, Md_s91, Md_s92, Md_s93, Md_s94, Md_s95, Md_s96, Md_s97, Md_s98, Md_s99, Md_s100, Md_s101, Md_s102, Md_r81_0, Md_r81_1, Md_r81_2, Md_r81_4, Md_r81_5, Md_r81_13, Md_r81_14, Md_r81_15, Md_r81_18, Md_r81_20, Md_r81_21, Md_r81_22, Md_r81_23, Md_r81_24, Md_r81_25, Md_r81_26, Md_r81_27, Md_r81_28, Md_r81_29, Md_r81_30, Md_r81_31, aPush_s, aPush_n, vrf_s, vrf_n, true_and, and_true, false_and, and_false, true_imp_iff, false_imp_iff, not_true_eq_false, not_false_eq_true, eq_self, true_or, or_true, and_self, if_true, if_false, n_lit, n_of, n_an, Nat.add_sub_cancel, nI_add, pk_mul, n_sub, n_ixT, n_cl, n_leT, n_leF, n_ltT, n_ltF, n_eqT, n_eqF, Nat.reduceAdd, Nat.reduceMul, Nat.reduceSub, Nat.reduceEqDiff, Nat.reduceLT, Nat.reduceLeDiff, Nat.mul_one, Nat.one_mul, Nat.add_zero, Nat.zero_add, le_T, nz0, nz1, i9]
    refine c211 hm (by decide) k2.2.2 (by show H.length + C.length ≤ 96; omega) hw (fun L hL fL => ?_)
    simp (disch := omega) only [w214_350, w214_351, w214_354, w214_355, w214_358, w214_359, Md_s1, Md_s81, Md_s82, Md_s83, Md_s84, Md_s85, Md_s86, Md_s87, Md_s88, Md_s89, Md_s90, Md_s91, Md_s92, Md_s93, Md_s94, Md_s95, Md_s96, Md_s97, Md_s98, Md_s99, Md_s100, Md_s101, Md_s102, Md_r81_0, Md_r81_1, Md_r81_2, Md_r81_4, Md_r81_5, Md_r81_13, Md_r81_14, Md_r81_15, Md_r81_18, Md_r81_20, Md_r81_21, Md_r81_22, Md_r81_23, Md_r81_24, Md_r81_25, Md_r81_26, Md_r81_27, Md_r81_28, Md_r81_29, Md_r81_30, Md_r81_31, aPush_s, aPush_n, vrf_s, vrf_n, true_and, and_true, false_and, and_false, true_imp_iff, false_imp_iff, not_true_eq_false, not_false_eq_true, eq_self, true_or, or_true, and_self, if_true, if_false, n_lit, n_of, n_an, Nat.add_sub_cancel, nI_add, pk_mul, n_sub, n_ixT, n_cl, n_leT, n_leF, n_ltT, n_ltF, n_eqT, n_eqF, Nat.reduceAdd, Nat.reduceMul, Nat.reduceSub, Nat.reduceEqDiff, Nat.reduceLT, Nat.reduceLeDiff, Nat.mul_one, Nat.one_mul, Nat.add_zero, Nat.zero_add, le_T, nz0, nz1]
    exact hQ L ((fL.2 8 (by decide) (by decide)).trans tkr.1) (fJ.tr fL.f4)
  · refine s214 hm (tq.f4 fJ) hk k1 k2.2.2 k3 k4 b1 (fun _ => hQ J k4.2.1.1 fJ) (fun M1 L o u e => ?_)
    rw [b2] at e
    cases e
/-- an E -/
theorem c214g {t' : Tok} {H' : List Nat} {C' C1 : List Int32} {te' : List Bool} {a' : Nat} (hm : Md S R) (hk : k < 3) (tq : Tq I T n) (tk : TkR T I (mM0 T n).1) (i7 : I 81 7 = nI (mM0 T n).1.2.1) (i12 : I 81 12 = nI k) (hM : mTo T n k (mM0 T n) (t', H', C', false, te', a')) (h0 : t'.2.2.1 = 0) (hs : stl 0 H' C' = ([], C1)) (hQ : ∀ J, Rw J [] C1 → J 81 17 = nI a' → J 81 12 = nI k → C1.length ≤ 96 → a' ≤ 96 → cOk (sNm k) C1 → cDp C1 = 1 → F4 I J → Q (some (.int (nI 1))) (S, J, R, z)) : RM (d + 5) 214 [.ref 81] (S, I, R, z) Q := by
  obtain ⟨Md_s1, Md_s81, Md_s82, Md_s83, Md_s84, Md_s85, Md_s86, Md_s87, Md_s88, Md_s89, Md_s90, Md_s91, Md_s92, Md_s93, Md_s94, Md_s95, Md_s96, Md_s97, Md_s98, Md_s99, Md_s100, Md_s101, Md_s102, Md_r81_0, Md_r81_1, Md_r81_2, Md_r81_4, Md_r81_5, Md_r81_13, Md_r81_14, Md_r81_15, Md_r81_18, Md_r81_20, Md_r81_21, Md_r81_22, Md_r81_23, Md_r81_24, Md_r81_25, Md_r81_26, Md_r81_27, Md_r81_28, Md_r81_29, Md_r81_30, Md_r81_31⟩ := id hm
  refine c214 hm hk tq tk i7 i12 hM (fun J k1 k2 k3 k4 fJ l4 => ?_)
  have o2 : H'.length + C'.length ≤ t'.1 := k1.2.1
  have o6 : a' ≤ C'.length := k1.2.2.2.2.2
  have o1 : tOk n t' := k1.1
  obtain ⟨o11, o12, -⟩ := id o1
  have n96 := tq.1
  obtain ⟨hw, tkr, -, i17, -, j12⟩ := id k4
  have hw : Rw J H' C' := hw
  have tkr : TkR T J t' := tkr
  have i17 : J 81 17 = nI a' := i17
  have i9 : J 81 9 = nI 0 := by
    rw [tkr.2.1]
    congr 1
    rw [tCd_0]
    exact h0
  have op' : cOp H' = 0 := by
    have := (stl_op (a := 0) H' C').1
    rw [hs] at this
    exact this.symm
  have cd : cOk (sNm k) C' ∧ cDp C' = 1 + cBn H' ∧ cEl H' := k2
  have cd2 := stl_cd (a := 0) H' C' cd.1 cd.2.1 cd.2.2
  have hl := stl_len (a := 0) H' C'
  rw [hs] at cd2 hl
  have hl : 0 + C1.length = H'.length + C'.length := hl
  dsimp only
  rw [b2n_f, op', w214_28]
  simp (disch := omega) only [w214_29, w214_32, w214_33, w214_36, w214_345, w214_346, w214_347, Md_s1, Md_s81, Md_s82, Md_s83, Md_s84, Md_s85, Md_s86, Md_s87, Md_s88, Md_s89, Md_s90, Md_s91, Md_s92, Md_s93, Md_s94, Md_s95, Md_s96, Md_s97, Md_s98, Md_s99, Md_s100, Md_s101, Md_s102, Md_r81_0, Md_r81_1, Md_r81_2, Md_r81_4, Md_r81_5, Md_r81_13, Md_r81_14, Md_r81_15, Md_r81_18, Md_r81_20, Md_r81_21, Md_r81_22, Md_r81_23, Md_r81_24, Md_r81_25, Md_r81_26, Md_r81_27, Md_r81_28, Md_r81_29, Md_r81_30, Md_r81_31, aPush_s, aPush_n, vrf_s, vrf_n, true_and, and_true, false_and, and_false, true_imp_iff, false_imp_iff, not_true_eq_false, not_false_eq_true, eq_self, true_or, or_true, and_self, if_true, if_false, n_lit, n_of, n_an, Nat.add_sub_cancel, nI_add, pk_mul, n_sub, n_ixT, n_cl, n_leT, n_leF, n_ltT, n_ltF, n_eqT, n_eqF, Nat.reduceAdd, Nat.reduceMul, Nat.reduceSub, Nat.reduceEqDiff, Nat.reduceLT, Nat.reduceLeDiff, Nat.mul_one, Nat.one_mul, Nat.add_zero, Nat.zero_add, le_T, nz0, nz1, i9]
  refine c211 hm (by decide) k2.2.2 (by show H'.length + C'.length ≤ 96; omega) hw (fun L hL fL => ?_)
  dsimp only at hL
  rw [hs] at hL
  simp (disch := omega) only [w214_350, w214_351, w214_354, w214_355, w214_358, w214_359, Md_s1, Md_s81, Md_s82, Md_s83, Md_s84, Md_s85, Md_s86, Md_s87, Md_s88, Md_s89, Md_s90, Md_s91, Md_s92, Md_s93, Md_s94, Md_s95, Md_s96, Md_s97, Md_s98, Md_s99, Md_s100, Md_s101, Md_s102, Md_r81_0, Md_r81_1, Md_r81_2, Md_r81_4, Md_r81_5, Md_r81_13, Md_r81_14, Md_r81_15, Md_r81_18, Md_r81_20, Md_r81_21, Md_r81_22, Md_r81_23, Md_r81_24, Md_r81_25, Md_r81_26, Md_r81_27, Md_r81_28, Md_r81_29, Md_r81_30, Md_r81_31, aPush_s, aPush_n, vrf_s, vrf_n, true_and, and_true, false_and, and_false, true_imp_iff, false_imp_iff, not_true_eq_false, not_false_eq_true, eq_self, true_or, or_true, and_self, if_true, if_false, n_lit, n_of, n_an, Nat.add_sub_cancel, nI_add, pk_mul, n_sub, n_ixT, n_cl, n_leT, n_leF, n_ltT, n_ltF, n_eqT, n_eqF, Nat.reduceAdd, Nat.reduceMul, Nat.reduceSub, Nat.reduceEqDiff, Nat.reduceLT, Nat.reduceLeDiff, Nat.mul_one, Nat.one_mul, Nat.add_zero, Nat.zero_add, le_T, nz0, nz1]
  exact hQ L hL ((fL.2 17 (by decide) (by decide)).trans i17) ((fL.2 12 (by decide) (by decide)).trans j12) (by omega) (by omega) cd2.1 cd2.2.1 (fJ.tr fL.f4)
end
