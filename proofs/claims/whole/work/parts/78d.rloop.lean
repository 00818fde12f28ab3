/-! TEXT: E of the reference -/
/-- no NOT waits right under an operator; none waits on top behind a piece -/
def cNt : List Nat → Prop
  | [] => True
  | h :: H => (h ≤ 9 → blk 6 H) ∧ cNt H
def mNt (M : MS) : Prop := cNt M.2.1 ∧ (M.2.2.2.1 = false → blk 6 M.2.1)
section
variable {d n k p q a b o f l r : Nat} {T : Nat → Nat} {t : Tok} {H : List Nat} {C : List Int32} {te : List Bool} {S : Nat → Nat × Nat} {I J K : Nat → Nat → Int32} {R : Nat → Nat → Option Nat} {z : Nat × Nat} {x y : Int32} {Q : Option Value → HS → Prop} {l1 l2 l4 : Value} {M M' : MS}
theorem tRk_9 {h : Nat} (e : tRk h < 6) : h ≤ 9 := by
  unfold tRk at e
  repeat' split at e
  all_goals omega
theorem stl_nt : ∀ (H : List Nat) (C : List Int32), cNt H → cNt (stl r H C).1
  | [], C, h => h
  | x :: H, C, h => by
    show cNt (if x = 11 ∨ tRk x < r then (x :: H, C) else stl r H (-nI x :: C)).1
    split
    · exact h
    · exact stl_nt H _ h.2
theorem stl_b6 : ∀ (H : List Nat) (C : List Int32), blk 6 (stl 6 H C).1
  | [], C => fun _ _ e => by cases e
  | x :: H, C => by
    show blk 6 (if x = 11 ∨ tRk x < 6 then (x :: H, C) else stl 6 H (-nI x :: C)).1
    split
    · rename_i h
      exact fun _ _ e => by cases e; exact h
    · exact stl_b6 H _
theorem stl_no : ∀ (H : List Nat) (C : List Int32), cNt H → blk 6 H → blk 6 (stl r H C).1 ∧ cNo (stl r H C).1 = cNo H
  | [], C, _, h => ⟨h, rfl⟩
  | x :: H, C, h, hb => by
    show blk 6 (if x = 11 ∨ tRk x < r then (x :: H, C) else stl r H (-nI x :: C)).1 ∧ cNo (if x = 11 ∨ tRk x < r then (x :: H, C) else stl r H (-nI x :: C)).1 = cNo (x :: H)
    split
    · exact ⟨hb, rfl⟩
    · rename_i e
      have h9 : x ≤ 9 := tRk_9 ((hb x H rfl).resolve_left (fun q => e (Or.inl q)))
      have g : blk 6 (stl r H (-nI x :: C)).1 ∧ cNo (stl r H (-nI x :: C)).1 = cNo H := stl_no H (-nI x :: C) h.2 (h.1 h9)
      exact ⟨g.1, g.2.trans (cNo_op h9).1.symm⟩
theorem mSt_nt (h : mSt T n k M = some M') (nt : mNt M) : mNt M' := by
  obtain ⟨t, H, C, w, te, a⟩ := M
  obtain ⟨n1, n2⟩ := nt
  have n1 : cNt H := n1
  have n2 : w = false → blk 6 H := n2
  cases w
  · have n2 := n2 rfl
    unfold mSt at h
    dsimp only at h
    split at h
    · cases h
      have g := stl_nt (r := 0) H C n1
      have g2 : cNt (stl 0 H C).1.tail := by
        cases e : (stl 0 H C).1 with
        | nil => exact True.intro
        | cons x l =>
          rw [e] at g
          exact g.2
      exact ⟨stl_nt _ _ g2, fun _ => stl_b6 _ _⟩
    · split at h
      · cases h
      · cases h
        have g := stl_no (r := tRk (tOp T t)) H C n1 n2
        exact ⟨⟨fun _ => g.1, stl_nt H C n1⟩, fun e => by cases e⟩
  · unfold mSt at h
    dsimp only at h
    split at h
    · cases h
      exact ⟨⟨fun e => absurd e (by decide), n1⟩, fun e => by cases e⟩
    · split at h
      · cases h
        exact ⟨⟨fun e => absurd e (by decide), n1⟩, fun e => by cases e⟩
      · cases e : tPc T k t with
        | none => rw [e] at h; cases h
        | some c =>
          rw [e] at h
          cases h
          exact ⟨stl_nt _ _ n1, fun _ => stl_b6 _ _⟩
theorem vnb (b : Bool) : vp_nar .boolean (nI (b2n b)) = nI (b2n b) := by cases b <;> rfl
theorem Rw.po {v : Nat} (h : Rw I H C) (e90 : J 90 = aW I 90 H.length (-nI v) 90) (e89 : J 89 = I 89) (e16 : J 81 16 = I 81 16) (e19 : J 81 19 = nI (H.length + 1)) : Rw J (v :: H) C := by
  refine ⟨e19, e16.trans h.2.1, ?_, h.2.2.2.cong (fun j _ => by rw [e89])⟩
  have g := h.2.2.1.pu (x := -nI v)
  rw [List.length_map] at g
  exact g.cong (fun j _ => by rw [e90])
/-- where a piece is wanted -/
theorem s214t (hm : Md S R) (tq : Tq I T n) (hk : k < 3) (ok : mOk n (t, H, C, true, te, a)) (he : cEl H) (rs : RS T k I (t, H, C, true, te, a))
    (hN : mSt T n k (t, H, C, true, te, a) = none → Q (some (.int (nI 0))) (S, I, R, z))
    (hS : ∀ M1 J o u, mSt T n k (t, H, C, true, te, a) = some M1 → o = cOp M1.2.1 → u = cNo M1.2.1 → RS T k J M1 → F4 I J → ∀ l4, RB (d + 4) 214 28 [.ref 81, .int (nI o), .int (nI u), .int (nI (b2n M1.2.2.2.1)), l4] [] (S, J, R, z) Q) :
    RB (d + 4) 214 28 [.ref 81, .int (nI (cOp H)), .int (nI (cNo H)), .int (nI 1), l4] [] (S, I, R, z) Q := by
  obtain ⟨Md_s1, Md_s81, Md_s82, Md_s83, Md_s84, Md_s85, Md_s86, Md_s87, Md_s88, Md_s89, Md_s90, Md_s91, Md_s92, Md_s93, Md_s94, Md_s95, Md_s96, Md_s97, Md_s98, Md_s99, Md_s100, Md_s101, Md_s102, Md_r81_0, Md_r81_1, Md_r81_2, Md_r81_4, Md_r81_5, Md_r81_13, Md_r81_14, Md_r81_15, Md_r81_18, Md_r81_20, Md_r81_21, Md_r81_22, Md_r81_23, Md_r81_24, Md_r81_25, Md_r81_26, Md_r81_27, Md_r81_28, Md_r81_29, Md_r81_30, Md_r81_31⟩ := id hm
  obtain ⟨n96, i6, ib, hb⟩ := id tq
  obtain ⟨hw, tkr, i7, i17, i91, i12⟩ := id rs
  have hw : Rw I H C := hw
  have tkr : TkR T I t := tkr
  have i7 : I 81 7 = nI t.2.1 := i7
  have i17 : I 81 17 = nI a := i17
  have i91 : tStk I 91 (te.map (fun b => nI (b2n b))) := i91
  obtain ⟨w19, w16, w90, w89⟩ := id hw
  obtain ⟨i8, i9, i10, i10', en⟩ := id tkr
  have tk : tOk n t := ok.1
  have o2 : H.length + C.length ≤ t.1 := ok.2.1
  have o3 : cNo H ≤ 8 := ok.2.2.1
  have o4 : cOp H ≤ 8 := ok.2.2.2.1
  have o5 : te.length = cOp H + 1 := ok.2.2.2.2.1
  obtain ⟨k1, k2, k3, k4⟩ := id tk
  have t4 := tCd_4 k3
  have fall : ¬ (tSg T 33 t ∧ cNo H < 8) → ¬ (tSg T 40 t ∧ cOp H < 8) → RB (d + 4) 214 158 [.ref 81, .int (nI (cOp H)), .int (nI (cNo H)), .int (nI 1), l4] [] (S, I, R, z) Q := by
    intro h33 h40
    simp (disch := omega) only [w214_158, w214_159, Md_s1, Md_s81, Md_s82, Md_s83, Md_s84, Md_s85, Md_s86, Md_s87, Md_s88, Md_s89, Md_s90, Md_s91, Md_s92, Md_s93, Md_s94, Md_s95, Md_s96, Md_s97, Md_s98, Md_s99, Md_s100, Md_s101, Md_s102, Md_r81_0, Md_r81_1, Md_r81_2, Md_r81_4, Md_r81_5, Md_r81_13, Md_r81_14, Md_r81_15, Md_r81_18, Md_r81_20, Md_r81_21, Md_r81_22, Md_r81_23, Md_r81_24, Md_r81_25, Md_r81_26, Md_r81_27, Md_r81_28, Md_r81_29, Md_r81_30, Md_r81_31, aPush_s, aPush_n, vrf_s, vrf_n, true_and, and_true, false_and, and_false, true_imp_iff, false_imp_iff, not_true_eq_false, not_false_eq_true, eq_self, true_or, or_true, and_self, if_true, if_false, n_lit, n_of, n_an, Nat.add_sub_cancel, nI_add, pk_mul, n_sub, n_ixT, n_cl, n_leT, n_leF, n_ltT, n_ltF, n_eqT, n_eqF, Nat.reduceAdd, Nat.reduceMul, Nat.reduceSub, Nat.reduceEqDiff, Nat.reduceLT, Nat.reduceLeDiff, Nat.mul_one, Nat.one_mul, Nat.add_zero, Nat.zero_add, le_T, nz0, nz1]
    refine c213 hm tq hk ok he rs (fun e => ?_) (fun c J e rJ fJ => ?_)
    · simp (disch := omega) only [w214_162, w214_165, w214_166, w214_167, w214_170, w214_171, Md_s1, Md_s81, Md_s82, Md_s83, Md_s84, Md_s85, Md_s86, Md_s87, Md_s88, Md_s89, Md_s90, Md_s91, Md_s92, Md_s93, Md_s94, Md_s95, Md_s96, Md_s97, Md_s98, Md_s99, Md_s100, Md_s101, Md_s102, Md_r81_0, Md_r81_1, Md_r81_2, Md_r81_4, Md_r81_5, Md_r81_13, Md_r81_14, Md_r81_15, Md_r81_18, Md_r81_20, Md_r81_21, Md_r81_22, Md_r81_23, Md_r81_24, Md_r81_25, Md_r81_26, Md_r81_27, Md_r81_28, Md_r81_29, Md_r81_30, Md_r81_31, aPush_s, aPush_n, vrf_s, vrf_n, true_and, and_true, false_and, and_false, true_imp_iff, false_imp_iff, not_true_eq_false, not_false_eq_true, eq_self, true_or, or_true, and_self, if_true, if_false, n_lit, n_of, n_an, Nat.add_sub_cancel, nI_add, pk_mul, n_sub, n_ixT, n_cl, n_leT, n_leF, n_ltT, n_ltF, n_eqT, n_eqF, Nat.reduceAdd, Nat.reduceMul, Nat.reduceSub, Nat.reduceEqDiff, Nat.reduceLT, Nat.reduceLeDiff, Nat.mul_one, Nat.one_mul, Nat.add_zero, Nat.zero_add, le_T, nz0, nz1]
      refine hN ?_
      unfold mSt
      dsimp only
      rw [if_neg h33, if_neg h40, e]
    · have hst : mSt T n k (t, H, C, true, te, a) = some (tNx T n t, (stl 6 H (nI c :: C)).1, (stl 6 H (nI c :: C)).2, false, te, a + 1) := by
        unfold mSt
        dsimp only
        rw [if_neg h33, if_neg h40, e]
      have hk0 : t.2.2.1 ≠ 0 := fun q => by
        have g := tPc_3 (T := T) (k := k) (t := t) (by omega) (by omega)
        rw [g] at e
        cases e
      have hlt := k4 hk0
      have hl := stl_len (a := 6) H (nI c :: C)
      rw [List.length_cons] at hl
      have h215 := fun (d : Nat) (Q : Option Value → HS → Prop) => c215 (d := d) (z := z) (Q := Q) hm rJ.1 (stl_el (r := 6) H (nI c :: C) he) (by show (stl 6 H (nI c :: C)).1.length ≤ 96; omega)
      dsimp only at h215
      simp (disch := omega) only [w214_162, w214_165, w214_166, w214_167, w214_170, w214_171, w214_172, w214_173, w214_176, w214_177, Md_s1, Md_s81, Md_s82, Md_s83, Md_s84, Md_s85, Md_s86, Md_s87, Md_s88, Md_s89, Md_s90, Md_s91, Md_s92, Md_s93, Md_s94, Md_s95, Md_s96, Md_s97, Md_s98, Md_s99, Md_s100, Md_s101, Md_s102, Md_r81_0, Md_r81_1, Md_r81_2, Md_r81_4, Md_r81_5, Md_r81_13, Md_r81_14, Md_r81_15, Md_r81_18, Md_r81_20, Md_r81_21, Md_r81_22, Md_r81_23, Md_r81_24, Md_r81_25, Md_r81_26, Md_r81_27, Md_r81_28, Md_r81_29, Md_r81_30, Md_r81_31, aPush_s, aPush_n, vrf_s, vrf_n, true_and, and_true, false_and, and_false, true_imp_iff, false_imp_iff, not_true_eq_false, not_false_eq_true, eq_self, true_or, or_true, and_self, if_true, if_false, n_lit, n_of, n_an, Nat.add_sub_cancel, nI_add, pk_mul, n_sub, n_ixT, n_cl, n_leT, n_leF, n_ltT, n_ltF, n_eqT, n_eqF, Nat.reduceAdd, Nat.reduceMul, Nat.reduceSub, Nat.reduceEqDiff, Nat.reduceLT, Nat.reduceLeDiff, Nat.mul_one, Nat.one_mul, Nat.add_zero, Nat.zero_add, le_T, nz0, nz1, h215]
      exact hS _ J _ _ hst (stl_op (a := 6) H (nI c :: C)).1.symm rfl rJ fJ _
  by_cases e3 : t.2.2.1 = 3
  · have c3 : tCd t = 3 := by rw [tCd_3]; exact e3
    have i10 := i10 (Or.inr e3)
    have hlt := k4 (by omega)
    have en := en (by omega)
    rw [c3] at i9
    have hbt := hb t.1
    by_cases g33 : tSg T 33 t ∧ cNo H < 8
    · have hst : mSt T n k (t, H, C, true, te, a) = some (tNx T n t, 10 :: H, C, true, te, a) := by
        unfold mSt
        dsimp only
        rw [if_pos g33]
      obtain ⟨⟨-, g1⟩, g2⟩ := g33
      rw [g1] at i10
      rw [w214_28]
      simp (disch := omega) only [w214_29, w214_32, w214_33, w214_36, w214_39, w214_40, w214_43, w214_44, w214_47, w214_48, w214_51, w214_52, w214_55, w214_57, w214_60, w214_61, w214_63, w214_66, w214_67, w214_70, w214_71, w214_74, w214_76, w214_77, w214_78, w214_79, w214_82, w214_83, w214_84, w214_87, w214_90, w214_91, Md_s1, Md_s81, Md_s82, Md_s83, Md_s84, Md_s85, Md_s86, Md_s87, Md_s88, Md_s89, Md_s90, Md_s91, Md_s92, Md_s93, Md_s94, Md_s95, Md_s96, Md_s97, Md_s98, Md_s99, Md_s100, Md_s101, Md_s102, Md_r81_0, Md_r81_1, Md_r81_2, Md_r81_4, Md_r81_5, Md_r81_13, Md_r81_14, Md_r81_15, Md_r81_18, Md_r81_20, Md_r81_21, Md_r81_22, Md_r81_23, Md_r81_24, Md_r81_25, Md_r81_26, Md_r81_27, Md_r81_28, Md_r81_29, Md_r81_30, Md_r81_31, aPush_s, aPush_n, vrf_s, vrf_n, true_and, and_true, false_and, and_false, true_imp_iff, false_imp_iff, not_true_eq_false, not_false_eq_true, eq_self, true_or, or_true, and_self, if_true, if_false, n_lit, n_of, n_an, Nat.add_sub_cancel, nI_add, pk_mul, n_sub, n_ixT, n_cl, n_leT, n_leF, n_ltT, n_ltF, n_eqT, n_eqF, Nat.reduceAdd, Nat.reduceMul, Nat.reduceSub, Nat.reduceEqDiff, Nat.reduceLT, Nat.reduceLeDiff, Nat.mul_one, Nat.one_mul, Nat.add_zero, Nat.zero_add, le_T, nz0, nz1, i9, i10, w19, aW_o, aW_i, aW_e]
      obtain ⟨K, eK⟩ : ∃ K, K = aW (aW I 90 H.length (-nI 10)) 81 19 (nI (H.length + 1)) := ⟨_, rfl⟩
      rw [← eK]
      have fK : F4 I K := by rw [eK]; exact F4.a90.tr (F4.a81 (by decide))
      have gK : ∀ j, j ≠ 19 → K 81 j = I 81 j := fun j h1 => by rw [eK, aW_i h1, aW_o (by decide)]
      have rK : Rw K (10 :: H) C := hw.po (by rw [eK, aW_o (by decide)]) (by rw [eK, aW_o (by decide), aW_o (by decide)]) (gK 16 (by decide)) (by rw [eK, aW_e])
      have he' : cEl (10 :: H) := fun y hy => (List.mem_cons.mp hy).elim (fun q => by omega) (he y)
      refine c207 hm (tq.f4 fK) k2 (en.cong (fun j h1 h2 => gK j (by omega))) (fun L tL l7 fL => ?_)
      have h215 := fun (d : Nat) (Q : Option Value → HS → Prop) => c215 (d := d) (z := z) (Q := Q) hm (rK.f81 fL) he' (by rw [List.length_cons]; omega)
      simp (disch := omega) only [w214_94, w214_172, w214_173, w214_176, w214_177, Md_s1, Md_s81, Md_s82, Md_s83, Md_s84, Md_s85, Md_s86, Md_s87, Md_s88, Md_s89, Md_s90, Md_s91, Md_s92, Md_s93, Md_s94, Md_s95, Md_s96, Md_s97, Md_s98, Md_s99, Md_s100, Md_s101, Md_s102, Md_r81_0, Md_r81_1, Md_r81_2, Md_r81_4, Md_r81_5, Md_r81_13, Md_r81_14, Md_r81_15, Md_r81_18, Md_r81_20, Md_r81_21, Md_r81_22, Md_r81_23, Md_r81_24, Md_r81_25, Md_r81_26, Md_r81_27, Md_r81_28, Md_r81_29, Md_r81_30, Md_r81_31, aPush_s, aPush_n, vrf_s, vrf_n, true_and, and_true, false_and, and_false, true_imp_iff, false_imp_iff, not_true_eq_false, not_false_eq_true, eq_self, true_or, or_true, and_self, if_true, if_false, n_lit, n_of, n_an, Nat.add_sub_cancel, nI_add, pk_mul, n_sub, n_ixT, n_cl, n_leT, n_leF, n_ltT, n_ltF, n_eqT, n_eqF, Nat.reduceAdd, Nat.reduceMul, Nat.reduceSub, Nat.reduceEqDiff, Nat.reduceLT, Nat.reduceLeDiff, Nat.mul_one, Nat.one_mul, Nat.add_zero, Nat.zero_add, le_T, nz0, nz1, h215]
      refine hS _ L _ _ hst ?_ rfl ⟨rK.f81 fL, tL, l7, ?_, i91.cong (fun j _ => ?_), ?_⟩ (fK.tr fL.f4) _
      · show cOp H = (if 10 = 11 then 1 else 0) + cOp H
        rw [if_neg (by decide), Nat.zero_add]
      · show L 81 17 = nI a
        rw [fL.2 17 (by decide), gK 17 (by decide), i17]
      · rw [fL.1 91 (by decide), eK, aW_o (by decide), aW_o (by decide)]
      · rw [fL.2 12 (by decide), gK 12 (by decide)]
        exact i12
    · by_cases g40 : tSg T 40 t ∧ cOp H < 8
      · have hst : mSt T n k (t, H, C, true, te, a) = some (tNx T n t, 11 :: H, C, true, false :: te, a) := by
          unfold mSt
          dsimp only
          rw [if_neg g33, if_pos g40]
        obtain ⟨⟨-, g1⟩, g2⟩ := g40
        rw [g1] at i10
        have vz : vp_nar .boolean (nI 0) = nI 0 := rfl
        rw [w214_28]
        simp (disch := omega) only [w214_29, w214_32, w214_33, w214_36, w214_39, w214_40, w214_43, w214_44, w214_47, w214_48, w214_51, w214_52, w214_55, w214_57, w214_60, w214_61, w214_63, w214_66, w214_67, w214_70, w214_71, w214_74, w214_76, w214_77, w214_78, w214_79, w214_82, w214_83, w214_84, w214_87, w214_90, w214_91, w214_94, w214_97, w214_98, w214_101, w214_102, w214_105, w214_106, w214_109, w214_111, w214_114, w214_115, w214_117, w214_120, w214_121, w214_124, w214_125, w214_128, w214_130, w214_131, w214_132, w214_133, w214_136, w214_137, w214_138, w214_141, w214_144, w214_145, w214_148, w214_149, w214_150, w214_151, w214_152, Md_s1, Md_s81, Md_s82, Md_s83, Md_s84, Md_s85, Md_s86, Md_s87, Md_s88, Md_s89, Md_s90, Md_s91, Md_s92, Md_s93, Md_s94, Md_s95, Md_s96, Md_s97, Md_s98, Md_s99, Md_s100, Md_s101, Md_s102, Md_r81_0, Md_r81_1, Md_r81_2, Md_r81_4, Md_r81_5, Md_r81_13, Md_r81_14, Md_r81_15, Md_r81_18, Md_r81_20, Md_r81_21, Md_r81_22, Md_r81_23, Md_r81_24, Md_r81_25, Md_r81_26, Md_r81_27, Md_r81_28, Md_r81_29, Md_r81_30, Md_r81_31, aPush_s, aPush_n, vrf_s, vrf_n, true_and, and_true, false_and, and_false, true_imp_iff, false_imp_iff, not_true_eq_false, not_false_eq_true, eq_self, true_or, or_true, and_self, if_true, if_false, n_lit, n_of, n_an, Nat.add_sub_cancel, nI_add, pk_mul, n_sub, n_ixT, n_cl, n_leT, n_leF, n_ltT, n_ltF, n_eqT, n_eqF, Nat.reduceAdd, Nat.reduceMul, Nat.reduceSub, Nat.reduceEqDiff, Nat.reduceLT, Nat.reduceLeDiff, Nat.mul_one, Nat.one_mul, Nat.add_zero, Nat.zero_add, le_T, nz0, nz1, i9, i10, w19, aW_o, aW_i, aW_e, vz]
        obtain ⟨K, eK⟩ : ∃ K, K = aW (aW (aW I 90 H.length (-nI 11)) 81 19 (nI (H.length + 1))) 91 (cOp H + 1) (nI 0) := ⟨_, rfl⟩
        rw [← eK]
        have fK : F4 I K := by rw [eK]; exact (F4.a90.tr (F4.a81 (by decide))).tr F4.a91
        have gK : ∀ j, j ≠ 19 → K 81 j = I 81 j := fun j h1 => by rw [eK, aW_o (by decide), aW_i h1, aW_o (by decide)]
        have rK : Rw K (11 :: H) C := hw.po (by rw [eK, aW_o (by decide), aW_o (by decide)]) (by rw [eK, aW_o (by decide), aW_o (by decide), aW_o (by decide)]) (gK 16 (by decide)) (by rw [eK, aW_o (by decide), aW_e])
        have he' : cEl (11 :: H) := fun y hy => (List.mem_cons.mp hy).elim (fun q => by omega) (he y)
        refine c207 hm (tq.f4 fK) k2 (en.cong (fun j h1 h2 => gK j (by omega))) (fun L tL l7 fL => ?_)
        have h215 := fun (d : Nat) (Q : Option Value → HS → Prop) => c215 (d := d) (z := z) (Q := Q) hm (rK.f81 fL) he' (by rw [List.length_cons]; omega)
        simp (disch := omega) only [w214_155, w214_172, w214_173, w214_176, w214_177, Md_s1, Md_s81, Md_s82, Md_s83, Md_s84, Md_s85, Md_s86, Md_s87, Md_s88, Md_s89, Md_s90, Md_s91, Md_s92, Md_s93, Md_s94, Md_s95, Md_s96, Md_s97, Md_s98, Md_s99, Md_s100, Md_s101, Md_s102, Md_r81_0, Md_r81_1, Md_r81_2, Md_r81_4, Md_r81_5, Md_r81_13, Md_r81_14, Md_r81_15, Md_r81_18, Md_r81_20, Md_r81_21, Md_r81_22, Md_r81_23, Md_r81_24, Md_r81_25, Md_r81_26, Md_r81_27, Md_r81_28, Md_r81_29, Md_r81_30, Md_r81_31, aPush_s, aPush_n, vrf_s, vrf_n, true_and, and_true, false_and, and_false, true_imp_iff, false_imp_iff, not_true_eq_false, not_false_eq_true, eq_self, true_or, or_true, and_self, if_true, if_false, n_lit, n_of, n_an, Nat.add_sub_cancel, nI_add, pk_mul, n_sub, n_ixT, n_cl, n_leT, n_leF, n_ltT, n_ltF, n_eqT, n_eqF, Nat.reduceAdd, Nat.reduceMul, Nat.reduceSub, Nat.reduceEqDiff, Nat.reduceLT, Nat.reduceLeDiff, Nat.mul_one, Nat.one_mul, Nat.add_zero, Nat.zero_add, le_T, nz0, nz1, h215]
        have i91' := i91.pu (x := nI 0)
        rw [List.length_map, o5] at i91'
        refine hS _ L _ _ hst ?_ rfl ⟨rK.f81 fL, tL, l7, ?_, i91'.cong (fun j _ => ?_), ?_⟩ (fK.tr fL.f4) _
        · show cOp H + 1 = (if 11 = 11 then 1 else 0) + cOp H
          rw [if_pos rfl, Nat.add_comm]
        · show L 81 17 = nI a
          rw [fL.2 17 (by decide), gK 17 (by decide), i17]
        · rw [fL.1 91 (by decide), eK]
          by_cases ej : j = cOp H + 1
          · rw [ej, aW_e, aW_e]
          · rw [aW_i ej, aW_i ej, aW_o (by decide), aW_o (by decide)]
        · rw [fL.2 12 (by decide), gK 12 (by decide)]
          exact i12
      · have fall := fall g33 g40
        rw [w214_28]
        by_cases c33 : T t.1 = 33
        · have o8 : ¬ cNo H < 8 := fun q => g33 ⟨⟨e3, c33⟩, q⟩
          rw [c33] at i10
          simp (disch := omega) only [w214_29, w214_32, w214_33, w214_36, w214_39, w214_40, w214_43, w214_44, w214_47, w214_48, w214_51, w214_52, w214_55, w214_57, w214_60, w214_61, w214_63, w214_66, w214_67, w214_70, w214_71, w214_74, w214_76, w214_77, w214_78, w214_79, w214_82, w214_83, w214_84, w214_87, w214_90, w214_91, w214_94, w214_97, w214_98, w214_101, w214_102, w214_105, w214_106, w214_109, w214_111, w214_114, w214_115, w214_117, w214_120, w214_121, w214_124, w214_125, w214_128, w214_130, w214_131, w214_132, w214_133, w214_136, w214_137, w214_138, w214_141, w214_144, w214_145, w214_148, w214_149, w214_150, w214_151, w214_152, w214_155, Md_s1, Md_s81, Md_s82, Md_s83, Md_s84, Md_s85, Md_s86, Md_s87, Md_s88, Md_s89, Md_s90, Md_s91, Md_s92, Md_s93, Md_s94, Md_s95, Md_s96, Md_s97, Md_s98, Md_s99, Md_s100, Md_s101, Md_s102, Md_r81_0, Md_r81_1, Md_r81_2, Md_r81_4, Md_r81_5, Md_r81_13, Md_r81_14, Md_r81_15, Md_r81_18, Md_r81_20, Md_r81_21, Md_r81_22, Md_r81_23, Md_r81_24, Md_r81_25, Md_r81_26, Md_r81_27, Md_r81_28, Md_r81_29, Md_r81_30, Md_r81_31, aPush_s, aPush_n, vrf_s, vrf_n, true_and, and_true, false_and, and_false, true_imp_iff, false_imp_iff, not_true_eq_false, not_false_eq_true, eq_self, true_or, or_true, and_self, if_true, if_false, n_lit, n_of, n_an, Nat.add_sub_cancel, nI_add, pk_mul, n_sub, n_ixT, n_cl, n_leT, n_leF, n_ltT, n_ltF, n_eqT, n_eqF, Nat.reduceAdd, Nat.reduceMul, Nat.reduceSub, Nat.reduceEqDiff, Nat.reduceLT, Nat.reduceLeDiff, Nat.mul_one, Nat.one_mul, Nat.add_zero, Nat.zero_add, le_T, nz0, nz1, i9, i10]
          exact fall
        · by_cases c40 : T t.1 = 40
          · have o8 : ¬ cOp H < 8 := fun q => g40 ⟨⟨e3, c40⟩, q⟩
            rw [c40] at i10
            simp (disch := omega) only [w214_29, w214_32, w214_33, w214_36, w214_39, w214_40, w214_43, w214_44, w214_47, w214_48, w214_51, w214_52, w214_55, w214_57, w214_60, w214_61, w214_63, w214_66, w214_67, w214_70, w214_71, w214_74, w214_76, w214_77, w214_78, w214_79, w214_82, w214_83, w214_84, w214_87, w214_90, w214_91, w214_94, w214_97, w214_98, w214_101, w214_102, w214_105, w214_106, w214_109, w214_111, w214_114, w214_115, w214_117, w214_120, w214_121, w214_124, w214_125, w214_128, w214_130, w214_131, w214_132, w214_133, w214_136, w214_137, w214_138, w214_141, w214_144, w214_145, w214_148, w214_149, w214_150, w214_151, w214_152, w214_155, Md_s1, Md_s81, Md_s82, Md_s83, Md_s84, Md_s85, Md_s86, Md_s87, Md_s88, Md_s89, Md_s90, Md_s91, Md_s92, Md_s93, Md_s94, Md_s95, Md_s96, Md_s97, Md_s98, Md_s99, Md_s100, Md_s101, Md_s102, Md_r81_0, Md_r81_1, Md_r81_2, Md_r81_4, Md_r81_5, Md_r81_13, Md_r81_14, Md_r81_15, Md_r81_18, Md_r81_20, Md_r81_21, Md_r81_22, Md_r81_23, Md_r81_24, Md_r81_25, Md_r81_26, Md_r81_27, Md_r81_28, Md_r81_29, Md_r81_30, Md_r81_31, aPush_s, aPush_n, vrf_s, vrf_n, true_and, and_true, false_and, and_false, true_imp_iff, false_imp_iff, not_true_eq_false, not_false_eq_true, eq_self, true_or, or_true, and_self, if_true, if_false, n_lit, n_of, n_an, Nat.add_sub_cancel, nI_add, pk_mul, n_sub, n_ixT, n_cl, n_leT, n_leF, n_ltT, n_ltF, n_eqT, n_eqF, Nat.reduceAdd, Nat.reduceMul, Nat.reduceSub, Nat.reduceEqDiff, Nat.reduceLT, Nat.reduceLeDiff, Nat.mul_one, Nat.one_mul, Nat.add_zero, Nat.zero_add, le_T, nz0, nz1, i9, i10]
            exact fall
          · simp (disch := omega) only [w214_29, w214_32, w214_33, w214_36, w214_39, w214_40, w214_43, w214_44, w214_47, w214_48, w214_51, w214_52, w214_55, w214_57, w214_60, w214_61, w214_63, w214_66, w214_67, w214_70, w214_71, w214_74, w214_76, w214_77, w214_78, w214_79, w214_82, w214_83, w214_84, w214_87, w214_90, w214_91, w214_94, w214_97, w214_98, w214_101, w214_102, w214_105, w214_106, w214_109, w214_111, w214_114, w214_115, w214_117, w214_120, w214_121, w214_124, w214_125, w214_128, w214_130, w214_131, w214_132, w214_133, w214_136, w214_137, w214_138, w214_141, w214_144, w214_145, w214_148, w214_149, w214_150, w214_151, w214_152, w214_155, Md_s1, Md_s81, Md_s82, Md_s83, Md_s84, Md_s85, Md_s86, Md_s87, Md_s88, Md_s89, Md_s90, Md_s91, Md_s92, Md_s93, Md_s94, Md_s95, Md_s96, Md_s97, Md_s98, Md_s99, Md_s100, Md_s101, Md_s102, Md_r81_0, Md_r81_1, Md_r81_2, Md_r81_4, Md_r81_5, Md_r81_13, Md_r81_14, Md_r81_15, Md_r81_18, Md_r81_20, Md_r81_21, Md_r81_22, Md_r81_23, Md_r81_24, Md_r81_25, Md_r81_26, Md_r81_27, Md_r81_28, Md_r81_29, Md_r81_30, Md_r81_31, aPush_s, aPush_n, vrf_s, vrf_n, true_and, and_true, false_and, and_false, true_imp_iff, false_imp_iff, not_true_eq_false, not_false_eq_true, eq_self, true_or, or_true, and_self, if_true, if_false, n_lit, n_of, n_an, Nat.add_sub_cancel, nI_add, pk_mul, n_sub, n_ixT, n_cl, n_leT, n_leF, n_ltT, n_ltF, n_eqT, n_eqF, Nat.reduceAdd, Nat.reduceMul, Nat.reduceSub, Nat.reduceEqDiff, Nat.reduceLT, Nat.reduceLeDiff, Nat.mul_one, Nat.one_mul, Nat.add_zero, Nat.zero_add, le_T, nz0, nz1, i9, i10]
            exact fall
  · have c3 : tCd t ≠ 3 := fun q => e3 (by rw [tCd_3] at q; exact q)
    have fall := fall (fun q => e3 q.1.1) (fun q => e3 q.1.1)
    rw [w214_28]
    simp (disch := omega) only [w214_29, w214_32, w214_33, w214_36, w214_39, w214_40, w214_43, w214_44, w214_47, w214_48, w214_51, w214_52, w214_55, w214_57, w214_60, w214_61, w214_63, w214_66, w214_67, w214_70, w214_71, w214_74, w214_76, w214_77, w214_78, w214_79, w214_82, w214_83, w214_84, w214_87, w214_90, w214_91, w214_94, w214_97, w214_98, w214_101, w214_102, w214_105, w214_106, w214_109, w214_111, w214_114, w214_115, w214_117, w214_120, w214_121, w214_124, w214_125, w214_128, w214_130, w214_131, w214_132, w214_133, w214_136, w214_137, w214_138, w214_141, w214_144, w214_145, w214_148, w214_149, w214_150, w214_151, w214_152, w214_155, Md_s1, Md_s81, Md_s82, Md_s83, Md_s84, Md_s85, Md_s86, Md_s87, Md_s88, Md_s89, Md_s90, Md_s91, Md_s92, Md_s93, Md_s94, Md_s95, Md_s96, Md_s97, Md_s98, Md_s99, Md_s100, Md_s101, Md_s102, Md_r81_0, Md_r81_1, Md_r81_2, Md_r81_4, Md_r81_5, Md_r81_13, Md_r81_14, Md_r81_15, Md_r81_18, Md_r81_20, Md_r81_21, Md_r81_22, Md_r81_23, Md_r81_24, Md_r81_25, Md_r81_26, Md_r81_27, Md_r81_28, Md_r81_29, Md_r81_30, Md_r81_31, aPush_s, aPush_n, vrf_s, vrf_n, true_and, and_true, false_and, and_false, true_imp_iff, false_imp_iff, not_true_eq_false, not_false_eq_true, eq_self, true_or, or_true, and_self, if_true, if_false, n_lit, n_of, n_an, Nat.add_sub_cancel, nI_add, pk_mul, n_sub, n_ixT, n_cl, n_leT, n_leF, n_ltT, n_ltF, n_eqT, n_eqF, Nat.reduceAdd, Nat.reduceMul, Nat.reduceSub, Nat.reduceEqDiff, Nat.reduceLT, Nat.reduceLeDiff, Nat.mul_one, Nat.one_mul, Nat.add_zero, Nat.zero_add, le_T, nz0, nz1, i9]
    exact fall
end
