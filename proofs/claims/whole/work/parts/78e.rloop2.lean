/-! TEXT: E of the reference, behind a piece -/
section
variable {d n k p q a b o f l r : Nat} {T : Nat → Nat} {t : Tok} {H : List Nat} {C : List Int32} {te : List Bool} {S : Nat → Nat × Nat} {I J K : Nat → Nat → Int32} {R : Nat → Nat → Option Nat} {z : Nat × Nat} {x y : Int32} {Q : Option Value → HS → Prop} {l1 l2 l4 : Value} {M M' : MS}
theorem tCd_0 : (tCd t = 0) = (t.2.2.1 = 0) := by
  unfold tCd
  refine propext ⟨fun h => ?_, fun h => ?_⟩
  · repeat' split at h
    all_goals omega
  · rw [if_neg (by omega), if_neg (by omega)]
    exact h
theorem neg_n0 : ∀ h, h < 12 → 1 ≤ h → (-nI h = nI 0) = False := fun h h1 h2 => eq_false (by
  have key : ∀ h, h < 12 → 1 ≤ h → ¬ -nI h = nI 0 := by decide
  exact key h h1 h2)
theorem te_hd {m : Nat} (h : te.length = m + 1) (i91 : tStk I 91 (te.map (fun b => nI (b2n b)))) : I 91 m = nI (b2n (te.headD false)) ∧ te.tail.length = m ∧ tStk I 91 (te.tail.map (fun b => nI (b2n b))) := by
  cases te with
  | nil => cases h
  | cons b te =>
    have hl : te.length = m := Nat.succ.inj h
    have g := i91.1
    rw [List.length_map, hl] at g
    exact ⟨g, hl, i91.2⟩
/-- behind a piece -/
theorem s214f (hm : Md S R) (tq : Tq I T n) (ok : mOk n (t, H, C, false, te, a)) (he : cEl H) (nt : mNt (t, H, C, false, te, a)) (rs : RS T k I (t, H, C, false, te, a)) (h0 : t.2.2.1 ≠ 0)
    (hN : mSt T n k (t, H, C, false, te, a) = none → Q (some (.int (nI 0))) (S, I, R, z))
    (hS : ∀ M1 J o u, mSt T n k (t, H, C, false, te, a) = some M1 → o = cOp M1.2.1 → u = cNo M1.2.1 → RS T k J M1 → F4 I J → ∀ l4, RB (d + 4) 214 28 [.ref 81, .int (nI o), .int (nI u), .int (nI (b2n M1.2.2.2.1)), l4] [] (S, J, R, z) Q) :
    RB (d + 4) 214 28 [.ref 81, .int (nI (cOp H)), .int (nI (cNo H)), .int (nI 0), l4] [] (S, I, R, z) Q := by
  obtain ⟨Md_s1, Md_s81, Md_s82, Md_s83, Md_s84, Md_s85, Md_s86, Md_s87, Md_s88, Md_s89, Md_s90, Md_s91, Md_s92, Md_s93, Md_s94, Md_s95, Md_s96, Md_s97, Md_s98, Md_s99, Md_s100, Md_s101, Md_s102, Md_r81_0, Md_r81_1, Md_r81_2, Md_r81_4, Md_r81_5, Md_r81_13, Md_r81_14, Md_r81_15, Md_r81_18, Md_r81_20, Md_r81_21, Md_r81_22, Md_r81_23, Md_r81_24, Md_r81_25, Md_r81_26, Md_r81_27, Md_r81_28, Md_r81_29, Md_r81_30, Md_r81_31⟩ := id hm
  obtain ⟨n96, i6, ib, hb⟩ := id tq
  obtain ⟨hw, tkr, i7, i17, i91, i12⟩ := id rs
  have hw : Rw I H C := hw
  have tkr : TkR T I t := tkr
  have i7 : I 81 7 = nI t.2.1 := i7
  have i17 : I 81 17 = nI a := i17
  have i91 : tStk I 91 (te.map (fun b => nI (b2n b))) := i91
  obtain ⟨w19, w16, w90, w89⟩ := id hw
  obtain ⟨i8, i9, i10, i10', en⟩ := id tkr
  have tk : tOk n t := ok.1
  have o2 : H.length + C.length ≤ t.1 := ok.2.1
  have o3 : cNo H ≤ 8 := ok.2.2.1
  have o4 : cOp H ≤ 8 := ok.2.2.2.1
  have o5 : te.length = cOp H + 1 := ok.2.2.2.2.1
  obtain ⟨k1, k2, k3, k4⟩ := id tk
  have t4 := tCd_4 k3
  have t0 : tCd t ≠ 0 := fun q => h0 (by rw [tCd_0] at q; exact q)
  have hlt := k4 h0
  have en := en h0
  obtain ⟨v91, v91l, v91t⟩ := te_hd o5 i91
  have fall : ¬ (tSg T 41 t ∧ 0 < cOp H) → RB (d + 4) 214 237 [.ref 81, .int (nI (cOp H)), .int (nI (cNo H)), .int (nI 0), l4] [] (S, I, R, z) Q := by
    intro h41
    have h212 := fun (d : Nat) (Q : Option Value → HS → Prop) => c212 (d := d) (z := z) (Q := Q) hm hb k3 tkr
    by_cases g0 : tOp T t = 0
    · simp only [g0, if_pos] at h212
      simp (disch := omega) only [w214_237, w214_238, w214_241, w214_243, w214_245, w214_248, w214_250, w214_253, w214_254, w214_257, w214_258, w214_261, w214_262, w214_263, w214_266, w214_267, Md_s1, Md_s81, Md_s82, Md_s83, Md_s84, Md_s85, Md_s86, Md_s87, Md_s88, Md_s89, Md_s90, Md_s91, Md_s92, Md_s93, Md_s94, Md_s95, Md_s96, Md_s97, Md_s98, Md_s99, Md_s100, Md_s101, Md_s102, Md_r81_0, Md_r81_1, Md_r81_2, Md_r81_4, Md_r81_5, Md_r81_13, Md_r81_14, Md_r81_15, Md_r81_18, Md_r81_20, Md_r81_21, Md_r81_22, Md_r81_23, Md_r81_24, Md_r81_25, Md_r81_26, Md_r81_27, Md_r81_28, Md_r81_29, Md_r81_30, Md_r81_31, aPush_s, aPush_n, vrf_s, vrf_n, true_and, and_true, false_and, and_false, true_imp_iff, false_imp_iff, not_true_eq_false, not_false_eq_true, eq_self, true_or, or_true, and_self, if_true, if_false, n_lit, n_of, n_an, Nat.add_sub_cancel, nI_add, pk_mul, n_sub, n_ixT, n_cl, n_leT, n_leF, n_ltT, n_ltF, n_eqT, n_eqF, Nat.reduceAdd, Nat.reduceMul, Nat.reduceSub, Nat.reduceEqDiff, Nat.reduceLT, Nat.reduceLeDiff, Nat.mul_one, Nat.one_mul, Nat.add_zero, Nat.zero_add, le_T, nz0, nz1, h212]
      refine hN ?_
      unfold mSt
      dsimp only
      rw [if_neg h41, if_pos (Or.inl g0)]
    · have o9 := tOp_9 (T := T) t
      simp only [if_neg g0] at h212
      obtain ⟨op, eop⟩ : ∃ op, op = tOp T t := ⟨_, rfl⟩
      rw [← eop] at g0 o9
      simp only [← eop] at h212
      have hne := neg_n0 op (by omega) (by omega)
      have h210 := fun {d : Nat} {I : Nat → Nat → Int32} {Q : Option Value → HS → Prop} => c210 (d := d) (S := S) (I := I) (R := R) (z := z) (Q := Q) (h := op) (by omega) (by omega)
      have r5 : tRk op ≤ 5 := by
        unfold tRk
        repeat' split
        all_goals omega
      obtain ⟨rk, erk⟩ : ∃ rk, rk = tRk op := ⟨_, rfl⟩
      rw [← erk] at r5
      simp only [← erk] at h210
      obtain ⟨tb, etb⟩ : ∃ tb, tb = te.headD false := ⟨_, rfl⟩
      rw [← etb] at v91
      have tail305 : ∀ nb : Bool, ¬ (rk = 3 ∧ tb = true) → nb = (if rk = 3 then true else if rk < 3 then false else tb) → RB (d + 4) 214 305 [.ref 81, .int (nI (cOp H)), .int (nI (cNo H)), .int (nI 0), .int (-nI op)] [.int (nI (b2n nb)), .int (nI (cOp H)), .ref 91] (S, I, R, z) Q := by
        intro nb hg enb
        have vb := vnb nb
        have hst : mSt T n k (t, H, C, false, te, a) = some (tNx T n t, op :: (stl rk H C).1, (stl rk H C).2, true, nb :: te.tail, a) := by
          unfold mSt
          dsimp only
          rw [if_neg h41, ← eop, ← erk, ← etb, if_neg (fun q => q.elim g0 hg), enb]
        simp (disch := omega) only [w214_305, w214_306, w214_307, w214_309, w214_312, Md_s1, Md_s81, Md_s82, Md_s83, Md_s84, Md_s85, Md_s86, Md_s87, Md_s88, Md_s89, Md_s90, Md_s91, Md_s92, Md_s93, Md_s94, Md_s95, Md_s96, Md_s97, Md_s98, Md_s99, Md_s100, Md_s101, Md_s102, Md_r81_0, Md_r81_1, Md_r81_2, Md_r81_4, Md_r81_5, Md_r81_13, Md_r81_14, Md_r81_15, Md_r81_18, Md_r81_20, Md_r81_21, Md_r81_22, Md_r81_23, Md_r81_24, Md_r81_25, Md_r81_26, Md_r81_27, Md_r81_28, Md_r81_29, Md_r81_30, Md_r81_31, aPush_s, aPush_n, vrf_s, vrf_n, true_and, and_true, false_and, and_false, true_imp_iff, false_imp_iff, not_true_eq_false, not_false_eq_true, eq_self, true_or, or_true, and_self, if_true, if_false, n_lit, n_of, n_an, Nat.add_sub_cancel, nI_add, pk_mul, n_sub, n_ixT, n_cl, n_leT, n_leF, n_ltT, n_ltF, n_eqT, n_eqF, Nat.reduceAdd, Nat.reduceMul, Nat.reduceSub, Nat.reduceEqDiff, Nat.reduceLT, Nat.reduceLeDiff, Nat.mul_one, Nat.one_mul, Nat.add_zero, Nat.zero_add, le_T, nz0, nz1, h210, vb]
        obtain ⟨I1, e1⟩ : ∃ I1, I1 = aW I 91 (cOp H) (nI (b2n nb)) := ⟨_, rfl⟩
        rw [← e1]
        have f1 : F4 I I1 := by rw [e1]; exact F4.a91
        have r1 : Rw I1 H C := ⟨by rw [e1, aW_o (by decide)]; exact w19, by rw [e1, aW_o (by decide)]; exact w16, w90.cong (fun j _ => by rw [e1, aW_o (by decide)]), w89.cong (fun j _ => by rw [e1, aW_o (by decide)])⟩
        refine c211 hm (by omega) he (by omega) r1 (fun J hJ fJ => ?_)
        have j19 := hJ.1
        have hl := stl_len (a := rk) H C
        have ho := (stl_op (a := rk) H C).1
        have hno := (stl_no (r := rk) H C nt.1 (nt.2 rfl)).2
        have he2 := stl_el (r := rk) H C he
        obtain ⟨H2, eH2⟩ : ∃ H2, H2 = (stl rk H C).1 := ⟨_, rfl⟩
        obtain ⟨C2, eC2⟩ : ∃ C2, C2 = (stl rk H C).2 := ⟨_, rfl⟩
        rw [← eH2, ← eC2] at hJ hst hl
        rw [← eH2] at j19 ho hno he2
        simp (disch := omega) only [w214_315, w214_316, w214_319, w214_320, w214_323, w214_325, w214_326, w214_327, w214_328, w214_331, w214_332, w214_333, w214_336, w214_337, w214_338, w214_339, Md_s1, Md_s81, Md_s82, Md_s83, Md_s84, Md_s85, Md_s86, Md_s87, Md_s88, Md_s89, Md_s90, Md_s91, Md_s92, Md_s93, Md_s94, Md_s95, Md_s96, Md_s97, Md_s98, Md_s99, Md_s100, Md_s101, Md_s102, Md_r81_0, Md_r81_1, Md_r81_2, Md_r81_4, Md_r81_5, Md_r81_13, Md_r81_14, Md_r81_15, Md_r81_18, Md_r81_20, Md_r81_21, Md_r81_22, Md_r81_23, Md_r81_24, Md_r81_25, Md_r81_26, Md_r81_27, Md_r81_28, Md_r81_29, Md_r81_30, Md_r81_31, aPush_s, aPush_n, vrf_s, vrf_n, true_and, and_true, false_and, and_false, true_imp_iff, false_imp_iff, not_true_eq_false, not_false_eq_true, eq_self, true_or, or_true, and_self, if_true, if_false, n_lit, n_of, n_an, Nat.add_sub_cancel, nI_add, pk_mul, n_sub, n_ixT, n_cl, n_leT, n_leF, n_ltT, n_ltF, n_eqT, n_eqF, Nat.reduceAdd, Nat.reduceMul, Nat.reduceSub, Nat.reduceEqDiff, Nat.reduceLT, Nat.reduceLeDiff, Nat.mul_one, Nat.one_mul, Nat.add_zero, Nat.zero_add, le_T, nz0, nz1, j19, aW_o, aW_i, aW_e]
        obtain ⟨K, eK⟩ : ∃ K, K = aW (aW J 90 H2.length (-nI op)) 81 19 (nI (H2.length + 1)) := ⟨_, rfl⟩
        rw [← eK]
        have fK : F4 I K := by rw [eK]; exact ((f1.tr fJ.f4).tr F4.a90).tr (F4.a81 (by decide))
        have gK : ∀ j, j ≠ 16 → j ≠ 19 → K 81 j = I 81 j := fun j h2 h1 => by rw [eK, aW_i h1, aW_o (by decide), fJ.2 j h2 h1, e1, aW_o (by decide)]
        have rK : Rw K (op :: H2) C2 := hJ.po (by rw [eK, aW_o (by decide)]) (by rw [eK, aW_o (by decide), aW_o (by decide)]) (by rw [eK, aW_i (by decide), aW_o (by decide)]) (by rw [eK, aW_e])
        refine c207 hm (tq.f4 fK) k2 (en.cong (fun j h1 h2 => gK j (by omega) (by omega))) (fun L tL l7 fL => ?_)
        simp (disch := omega) only [w214_342, Md_s1, Md_s81, Md_s82, Md_s83, Md_s84, Md_s85, Md_s86, Md_s87, Md_s88, Md_s89, Md_s90, Md_s91, Md_s92, Md_s93, Md_s94, Md_s95, Md_s96, Md_s97, Md_s98, Md_s99, Md_s100, Md_s101, Md_s102, Md_r81_0, Md_r81_1, Md_r81_2, Md_r81_4, Md_r81_5, Md_r81_13, Md_r81_14, Md_r81_15, Md_r81_18, Md_r81_20, Md_r81_21, Md_r81_22, Md_r81_23, Md_r81_24, Md_r81_25, Md_r81_26, Md_r81_27, Md_r81_28, Md_r81_29, Md_r81_30, Md_r81_31, aPush_s, aPush_n, vrf_s, vrf_n, true_and, and_true, false_and, and_false, true_imp_iff, false_imp_iff, not_true_eq_false, not_false_eq_true, eq_self, true_or, or_true, and_self, if_true, if_false, n_lit, n_of, n_an, Nat.add_sub_cancel, nI_add, pk_mul, n_sub, n_ixT, n_cl, n_leT, n_leF, n_ltT, n_ltF, n_eqT, n_eqF, Nat.reduceAdd, Nat.reduceMul, Nat.reduceSub, Nat.reduceEqDiff, Nat.reduceLT, Nat.reduceLeDiff, Nat.mul_one, Nat.one_mul, Nat.add_zero, Nat.zero_add, le_T, nz0, nz1]
        have v2 := v91t.pu (x := nI (b2n nb))
        rw [List.length_map, v91l] at v2
        refine hS _ L _ _ hst ?_ ?_ ⟨rK.f81 fL, tL, l7, ?_, v2.cong (fun j _ => ?_), ?_⟩ (fK.tr fL.f4) _
        · show cOp H = cOp (op :: H2)
          rw [(cNo_op o9).2, ho]
        · show cNo H = cNo (op :: H2)
          rw [(cNo_op o9).1, hno]
        · show L 81 17 = nI a
          rw [fL.2 17 (by decide), gK 17 (by decide) (by decide), i17]
        · rw [fL.1 91 (by decide), eK, aW_o (by decide), aW_o (by decide), fJ.1 91 (by decide) (by decide), e1]
        · rw [fL.2 12 (by decide), gK 12 (by decide) (by decide)]
          exact i12
      have no : (rk = 3 ∧ tb = true) → Q (some (.int (nI 0))) (S, I, R, z) := by
        intro g
        refine hN ?_
        unfold mSt
        dsimp only
        rw [if_neg h41, ← eop, ← erk, ← etb, if_pos (Or.inr g)]
      have r0 : 1 ≤ rk := by
        rw [erk]
        unfold tRk
        repeat' split
        all_goals omega
      rcases (show rk = 3 ∨ rk < 3 ∨ 3 < rk by omega) with g | g | g
      · cases tb
        · simp only [b2n_f] at v91
          have tl := tail305 true (fun q => by cases q.2) (by rw [if_pos g])
          simp only [b2n_t] at tl
          simp (disch := omega) only [w214_237, w214_238, w214_241, w214_243, w214_245, w214_248, w214_250, w214_253, w214_254, w214_257, w214_258, w214_261, w214_262, w214_263, w214_266, w214_267, w214_268, w214_269, w214_272, w214_273, w214_275, w214_278, w214_279, w214_282, w214_284, w214_287, w214_288, w214_291, w214_292, w214_295, w214_296, w214_297, w214_300, w214_301, w214_304, Md_s1, Md_s81, Md_s82, Md_s83, Md_s84, Md_s85, Md_s86, Md_s87, Md_s88, Md_s89, Md_s90, Md_s91, Md_s92, Md_s93, Md_s94, Md_s95, Md_s96, Md_s97, Md_s98, Md_s99, Md_s100, Md_s101, Md_s102, Md_r81_0, Md_r81_1, Md_r81_2, Md_r81_4, Md_r81_5, Md_r81_13, Md_r81_14, Md_r81_15, Md_r81_18, Md_r81_20, Md_r81_21, Md_r81_22, Md_r81_23, Md_r81_24, Md_r81_25, Md_r81_26, Md_r81_27, Md_r81_28, Md_r81_29, Md_r81_30, Md_r81_31, aPush_s, aPush_n, vrf_s, vrf_n, true_and, and_true, false_and, and_false, true_imp_iff, false_imp_iff, not_true_eq_false, not_false_eq_true, eq_self, true_or, or_true, and_self, if_true, if_false, n_lit, n_of, n_an, Nat.add_sub_cancel, nI_add, pk_mul, n_sub, n_ixT, n_cl, n_leT, n_leF, n_ltT, n_ltF, n_eqT, n_eqF, Nat.reduceAdd, Nat.reduceMul, Nat.reduceSub, Nat.reduceEqDiff, Nat.reduceLT, Nat.reduceLeDiff, Nat.mul_one, Nat.one_mul, Nat.add_zero, Nat.zero_add, le_T, nz0, nz1, h212, h210, hne, v91, g]
          exact tl
        · simp only [b2n_t] at v91
          simp (disch := omega) only [w214_237, w214_238, w214_241, w214_243, w214_245, w214_248, w214_250, w214_253, w214_254, w214_257, w214_258, w214_261, w214_262, w214_263, w214_266, w214_267, w214_268, w214_269, w214_272, w214_273, w214_275, w214_278, w214_279, w214_282, w214_284, w214_287, w214_288, w214_291, w214_292, w214_295, w214_296, w214_297, w214_300, w214_301, w214_304, Md_s1, Md_s81, Md_s82, Md_s83, Md_s84, Md_s85, Md_s86, Md_s87, Md_s88, Md_s89, Md_s90, Md_s91, Md_s92, Md_s93, Md_s94, Md_s95, Md_s96, Md_s97, Md_s98, Md_s99, Md_s100, Md_s101, Md_s102, Md_r81_0, Md_r81_1, Md_r81_2, Md_r81_4, Md_r81_5, Md_r81_13, Md_r81_14, Md_r81_15, Md_r81_18, Md_r81_20, Md_r81_21, Md_r81_22, Md_r81_23, Md_r81_24, Md_r81_25, Md_r81_26, Md_r81_27, Md_r81_28, Md_r81_29, Md_r81_30, Md_r81_31, aPush_s, aPush_n, vrf_s, vrf_n, true_and, and_true, false_and, and_false, true_imp_iff, false_imp_iff, not_true_eq_false, not_false_eq_true, eq_self, true_or, or_true, and_self, if_true, if_false, n_lit, n_of, n_an, Nat.add_sub_cancel, nI_add, pk_mul, n_sub, n_ixT, n_cl, n_leT, n_leF, n_ltT, n_ltF, n_eqT, n_eqF, Nat.reduceAdd, Nat.reduceMul, Nat.reduceSub, Nat.reduceEqDiff, Nat.reduceLT, Nat.reduceLeDiff, Nat.mul_one, Nat.one_mul, Nat.add_zero, Nat.zero_add, le_T, nz0, nz1, h212, h210, hne, v91, g]
          exact no ⟨g, rfl⟩
      · have tl := tail305 false (fun q => by omega) (by rw [if_neg (by omega), if_pos g])
        simp only [b2n_f] at tl
        simp (disch := omega) only [w214_237, w214_238, w214_241, w214_243, w214_245, w214_248, w214_250, w214_253, w214_254, w214_257, w214_258, w214_261, w214_262, w214_263, w214_266, w214_267, w214_268, w214_269, w214_272, w214_273, w214_275, w214_278, w214_279, w214_282, w214_284, w214_287, w214_288, w214_291, w214_292, w214_295, w214_296, w214_297, w214_300, w214_301, w214_304, Md_s1, Md_s81, Md_s82, Md_s83, Md_s84, Md_s85, Md_s86, Md_s87, Md_s88, Md_s89, Md_s90, Md_s91, Md_s92, Md_s93, Md_s94, Md_s95, Md_s96, Md_s97, Md_s98, Md_s99, Md_s100, Md_s101, Md_s102, Md_r81_0, Md_r81_1, Md_r81_2, Md_r81_4, Md_r81_5, Md_r81_13, Md_r81_14, Md_r81_15, Md_r81_18, Md_r81_20, Md_r81_21, Md_r81_22, Md_r81_23, Md_r81_24, Md_r81_25, Md_r81_26, Md_r81_27, Md_r81_28, Md_r81_29, Md_r81_30, Md_r81_31, aPush_s, aPush_n, vrf_s, vrf_n, true_and, and_true, false_and, and_false, true_imp_iff, false_imp_iff, not_true_eq_false, not_false_eq_true, eq_self, true_or, or_true, and_self, if_true, if_false, n_lit, n_of, n_an, Nat.add_sub_cancel, nI_add, pk_mul, n_sub, n_ixT, n_cl, n_leT, n_leF, n_ltT, n_ltF, n_eqT, n_eqF, Nat.reduceAdd, Nat.reduceMul, Nat.reduceSub, Nat.reduceEqDiff, Nat.reduceLT, Nat.reduceLeDiff, Nat.mul_one, Nat.one_mul, Nat.add_zero, Nat.zero_add, le_T, nz0, nz1, h212, h210, hne]
        exact tl
      · have tl := tail305 tb (fun q => by omega) (by rw [if_neg (by omega), if_neg (by omega)])
        cases tb
        · simp only [b2n_f] at v91 tl
          simp (disch := omega) only [w214_237, w214_238, w214_241, w214_243, w214_245, w214_248, w214_250, w214_253, w214_254, w214_257, w214_258, w214_261, w214_262, w214_263, w214_266, w214_267, w214_268, w214_269, w214_272, w214_273, w214_275, w214_278, w214_279, w214_282, w214_284, w214_287, w214_288, w214_291, w214_292, w214_295, w214_296, w214_297, w214_300, w214_301, w214_304, Md_s1, Md_s81, Md_s82, Md_s83, Md_s84, Md_s85, Md_s86, Md_s87, Md_s88, Md_s89, Md_s90, Md_s91, Md_s92, Md_s93, Md_s94, Md_s95, Md_s96, Md_s97, Md_s98, Md_s99, Md_s100, Md_s101, Md_s102, Md_r81_0, Md_r81_1, Md_r81_2, Md_r81_4, Md_r81_5, Md_r81_13, Md_r81_14, Md_r81_15, Md_r81_18, Md_r81_20, Md_r81_21, Md_r81_22, Md_r81_23, Md_r81_24, Md_r81_25, Md_r81_26, Md_r81_27, Md_r81_28, Md_r81_29, Md_r81_30, Md_r81_31, aPush_s, aPush_n, vrf_s, vrf_n, true_and, and_true, false_and, and_false, true_imp_iff, false_imp_iff, not_true_eq_false, not_false_eq_true, eq_self, true_or, or_true, and_self, if_true, if_false, n_lit, n_of, n_an, Nat.add_sub_cancel, nI_add, pk_mul, n_sub, n_ixT, n_cl, n_leT, n_leF, n_ltT, n_ltF, n_eqT, n_eqF, Nat.reduceAdd, Nat.reduceMul, Nat.reduceSub, Nat.reduceEqDiff, Nat.reduceLT, Nat.reduceLeDiff, Nat.mul_one, Nat.one_mul, Nat.add_zero, Nat.zero_add, le_T, nz0, nz1, h212, h210, hne, v91]
          exact tl
        · simp only [b2n_t] at v91 tl
          simp (disch := omega) only [w214_237, w214_238, w214_241, w214_243, w214_245, w214_248, w214_250, w214_253, w214_254, w214_257, w214_258, w214_261, w214_262, w214_263, w214_266, w214_267, w214_268, w214_269, w214_272, w214_273, w214_275, w214_278, w214_279, w214_282, w214_284, w214_287, w214_288, w214_291, w214_292, w214_295, w214_296, w214_297, w214_300, w214_301, w214_304, Md_s1, Md_s81, Md_s82, Md_s83, Md_s84, Md_s85, Md_s86, Md_s87, Md_s88, Md_s89, Md_s90, Md_s91, Md_s92, Md_s93, Md_s94, Md_s95, Md_s96, Md_s97, Md_s98, Md_s99, Md_s100, Md_s101, Md_s102, Md_r81_0, Md_r81_1, Md_r81_2, Md_r81_4, Md_r81_5, Md_r81_13, Md_r81_14, Md_r81_15, Md_r81_18, Md_r81_20, Md_r81_21, Md_r81_22, Md_r81_23, Md_r81_24, Md_r81_25, Md_r81_26, Md_r81_27, Md_r81_28, Md_r81_29, Md_r81_30, Md_r81_31, aPush_s, aPush_n, vrf_s, vrf_n, true_and, and_true, false_and, and_false, true_imp_iff, false_imp_iff, not_true_eq_false, not_false_eq_true, eq_self, true_or, or_true, and_self, if_true, if_false, n_lit, n_of, n_an, Nat.add_sub_cancel, nI_add, pk_mul, n_sub, n_ixT, n_cl, n_leT, n_leF, n_ltT, n_ltF, n_eqT, n_eqF, Nat.reduceAdd, Nat.reduceMul, Nat.reduceSub, Nat.reduceEqDiff, Nat.reduceLT, Nat.reduceLeDiff, Nat.mul_one, Nat.one_mul, Nat.add_zero, Nat.zero_add, le_T, nz0, nz1, h212, h210, hne, v91]
          exact tl
  by_cases e3 : t.2.2.1 = 3
  · have c3 : tCd t = 3 := by rw [tCd_3]; exact e3
    have i10 := i10 (Or.inr e3)
    rw [c3] at i9
    have hbt := hb t.1
    by_cases g41 : tSg T 41 t ∧ 0 < cOp H
    · obtain ⟨H1, C1, s1, s2, s3⟩ := stl_0 H C g41.2
      have hst : mSt T n k (t, H, C, false, te, a) = some (tNx T n t, (stl 6 H1 C1).1, (stl 6 H1 C1).2, false, te.tail, a) := by
        unfold mSt
        dsimp only
        rw [if_pos g41, s1]
        rfl
      obtain ⟨⟨-, g1⟩, g2⟩ := g41
      rw [g1] at i10
      have hl0 := stl_len (a := 0) H C
      have he0 := stl_el (r := 0) H C he
      rw [s1] at hl0 he0
      dsimp only at hl0 he0
      rw [List.length_cons] at hl0
      have he1 : cEl H1 := fun y hy => he0 y (List.mem_cons_of_mem _ hy)
      rw [w214_28]
      simp (disch := omega) only [w214_29, w214_32, w214_33, w214_36, w214_39, w214_40, w214_43, w214_44, w214_47, w214_48, w214_51, w214_52, w214_55, w214_57, w214_60, w214_61, w214_63, w214_66, w214_67, w214_70, w214_71, w214_74, w214_76, w214_77, w214_78, w214_79, w214_82, w214_83, w214_84, w214_87, w214_90, w214_91, w214_94, w214_97, w214_98, w214_101, w214_102, w214_105, w214_106, w214_109, w214_111, w214_114, w214_115, w214_117, w214_120, w214_121, w214_124, w214_125, w214_128, w214_130, w214_131, w214_132, w214_133, w214_136, w214_137, w214_138, w214_141, w214_144, w214_145, w214_148, w214_149, w214_150, w214_151, w214_152, w214_155, w214_158, w214_159, w214_162, w214_165, w214_166, w214_167, w214_170, w214_171, w214_172, w214_173, w214_176, w214_177, w214_180, w214_181, w214_184, w214_185, w214_188, w214_189, w214_192, w214_194, w214_197, w214_198, w214_201, w214_202, w214_203, Md_s1, Md_s81, Md_s82, Md_s83, Md_s84, Md_s85, Md_s86, Md_s87, Md_s88, Md_s89, Md_s90, Md_s91, Md_s92, Md_s93, Md_s94, Md_s95, Md_s96, Md_s97, Md_s98, Md_s99, Md_s100, Md_s101, Md_s102, Md_r81_0, Md_r81_1, Md_r81_2, Md_r81_4, Md_r81_5, Md_r81_13, Md_r81_14, Md_r81_15, Md_r81_18, Md_r81_20, Md_r81_21, Md_r81_22, Md_r81_23, Md_r81_24, Md_r81_25, Md_r81_26, Md_r81_27, Md_r81_28, Md_r81_29, Md_r81_30, Md_r81_31, aPush_s, aPush_n, vrf_s, vrf_n, true_and, and_true, false_and, and_false, true_imp_iff, false_imp_iff, not_true_eq_false, not_false_eq_true, eq_self, true_or, or_true, and_self, if_true, if_false, n_lit, n_of, n_an, Nat.add_sub_cancel, nI_add, pk_mul, n_sub, n_ixT, n_cl, n_leT, n_leF, n_ltT, n_ltF, n_eqT, n_eqF, Nat.reduceAdd, Nat.reduceMul, Nat.reduceSub, Nat.reduceEqDiff, Nat.reduceLT, Nat.reduceLeDiff, Nat.mul_one, Nat.one_mul, Nat.add_zero, Nat.zero_add, le_T, nz0, nz1, i9, i10]
      refine c211 hm (by decide) he (by omega) hw (fun J hJ fJ => ?_)
      rw [s1] at hJ
      have j19 : J 81 19 = nI (H1.length + 1) := hJ.1
      simp (disch := omega) only [w214_206, w214_207, w214_208, w214_211, w214_212, w214_213, w214_216, w214_219, w214_220, w214_222, Md_s1, Md_s81, Md_s82, Md_s83, Md_s84, Md_s85, Md_s86, Md_s87, Md_s88, Md_s89, Md_s90, Md_s91, Md_s92, Md_s93, Md_s94, Md_s95, Md_s96, Md_s97, Md_s98, Md_s99, Md_s100, Md_s101, Md_s102, Md_r81_0, Md_r81_1, Md_r81_2, Md_r81_4, Md_r81_5, Md_r81_13, Md_r81_14, Md_r81_15, Md_r81_18, Md_r81_20, Md_r81_21, Md_r81_22, Md_r81_23, Md_r81_24, Md_r81_25, Md_r81_26, Md_r81_27, Md_r81_28, Md_r81_29, Md_r81_30, Md_r81_31, aPush_s, aPush_n, vrf_s, vrf_n, true_and, and_true, false_and, and_false, true_imp_iff, false_imp_iff, not_true_eq_false, not_false_eq_true, eq_self, true_or, or_true, and_self, if_true, if_false, n_lit, n_of, n_an, Nat.add_sub_cancel, nI_add, pk_mul, n_sub, n_ixT, n_cl, n_leT, n_leF, n_ltT, n_ltF, n_eqT, n_eqF, Nat.reduceAdd, Nat.reduceMul, Nat.reduceSub, Nat.reduceEqDiff, Nat.reduceLT, Nat.reduceLeDiff, Nat.mul_one, Nat.one_mul, Nat.add_zero, Nat.zero_add, le_T, nz0, nz1, j19, aW_o, aW_i, aW_e]
      obtain ⟨K, eK⟩ : ∃ K, K = aW J 81 19 (nI H1.length) := ⟨_, rfl⟩
      rw [← eK]
      have fK : F4 I K := by rw [eK]; exact fJ.f4.tr (F4.a81 (by decide))
      have gK : ∀ j, j ≠ 16 → j ≠ 19 → K 81 j = I 81 j := fun j h2 h1 => by rw [eK, aW_i h1, fJ.2 j h2 h1]
      have rK : Rw K H1 C1 := ⟨by rw [eK, aW_e], by rw [eK, aW_i (by decide)]; exact hJ.2.1, hJ.2.2.1.2.cong (fun j _ => by rw [eK, aW_o (by decide)]), hJ.2.2.2.cong (fun j _ => by rw [eK, aW_o (by decide)])⟩
      refine c211 hm (by decide) he1 (by omega) rK (fun J2 hJ2 fJ2 => ?_)
      have hl1 := stl_len (a := 6) H1 C1
      have h215 := fun (d : Nat) (Q : Option Value → HS → Prop) => c215 (d := d) (z := z) (Q := Q) hm hJ2 (stl_el (r := 6) H1 C1 he1) (by omega)
      simp (disch := omega) only [w214_225, w214_226, w214_229, w214_230, w214_231, Md_s1, Md_s81, Md_s82, Md_s83, Md_s84, Md_s85, Md_s86, Md_s87, Md_s88, Md_s89, Md_s90, Md_s91, Md_s92, Md_s93, Md_s94, Md_s95, Md_s96, Md_s97, Md_s98, Md_s99, Md_s100, Md_s101, Md_s102, Md_r81_0, Md_r81_1, Md_r81_2, Md_r81_4, Md_r81_5, Md_r81_13, Md_r81_14, Md_r81_15, Md_r81_18, Md_r81_20, Md_r81_21, Md_r81_22, Md_r81_23, Md_r81_24, Md_r81_25, Md_r81_26, Md_r81_27, Md_r81_28, Md_r81_29, Md_r81_30, Md_r81_31, aPush_s, aPush_n, vrf_s, vrf_n, true_and, and_true, false_and, and_false, true_imp_iff, false_imp_iff, not_true_eq_false, not_false_eq_true, eq_self, true_or, or_true, and_self, if_true, if_false, n_lit, n_of, n_an, Nat.add_sub_cancel, nI_add, pk_mul, n_sub, n_ixT, n_cl, n_leT, n_leF, n_ltT, n_ltF, n_eqT, n_eqF, Nat.reduceAdd, Nat.reduceMul, Nat.reduceSub, Nat.reduceEqDiff, Nat.reduceLT, Nat.reduceLeDiff, Nat.mul_one, Nat.one_mul, Nat.add_zero, Nat.zero_add, le_T, nz0, nz1, h215]
      have f2 := fK.tr fJ2.f4
      have g2' : ∀ j, j ≠ 16 → j ≠ 19 → J2 81 j = I 81 j := fun j h2 h1 => (fJ2.2 j h2 h1).trans (gK j h2 h1)
      refine c207 hm (tq.f4 f2) k2 (en.cong (fun j h1 h2 => g2' j (by omega) (by omega))) (fun L tL l7 fL => ?_)
      simp (disch := omega) only [w214_234, Md_s1, Md_s81, Md_s82, Md_s83, Md_s84, Md_s85, Md_s86, Md_s87, Md_s88, Md_s89, Md_s90, Md_s91, Md_s92, Md_s93, Md_s94, Md_s95, Md_s96, Md_s97, Md_s98, Md_s99, Md_s100, Md_s101, Md_s102, Md_r81_0, Md_r81_1, Md_r81_2, Md_r81_4, Md_r81_5, Md_r81_13, Md_r81_14, Md_r81_15, Md_r81_18, Md_r81_20, Md_r81_21, Md_r81_22, Md_r81_23, Md_r81_24, Md_r81_25, Md_r81_26, Md_r81_27, Md_r81_28, Md_r81_29, Md_r81_30, Md_r81_31, aPush_s, aPush_n, vrf_s, vrf_n, true_and, and_true, false_and, and_false, true_imp_iff, false_imp_iff, not_true_eq_false, not_false_eq_true, eq_self, true_or, or_true, and_self, if_true, if_false, n_lit, n_of, n_an, Nat.add_sub_cancel, nI_add, pk_mul, n_sub, n_ixT, n_cl, n_leT, n_leF, n_ltT, n_ltF, n_eqT, n_eqF, Nat.reduceAdd, Nat.reduceMul, Nat.reduceSub, Nat.reduceEqDiff, Nat.reduceLT, Nat.reduceLeDiff, Nat.mul_one, Nat.one_mul, Nat.add_zero, Nat.zero_add, le_T, nz0, nz1]
      refine hS _ L _ _ hst ?_ rfl ⟨hJ2.f81 fL, tL, l7, ?_, v91t.cong (fun j _ => ?_), ?_⟩ (f2.tr fL.f4) _
      · show cOp H - 1 = cOp (stl 6 H1 C1).1
        rw [(stl_op (a := 6) H1 C1).1]
        omega
      · show L 81 17 = nI a
        rw [fL.2 17 (by decide), g2' 17 (by decide) (by decide), i17]
      · rw [fL.1 91 (by decide), fJ2.1 91 (by decide) (by decide), eK, aW_o (by decide), fJ.1 91 (by decide) (by decide)]
      · rw [fL.2 12 (by decide), g2' 12 (by decide) (by decide)]
        exact i12
    · have fall := fall g41
      rw [w214_28]
      by_cases c41 : T t.1 = 41
      · have o8 : ¬ 0 < cOp H := fun q => g41 ⟨⟨e3, c41⟩, q⟩
        rw [c41] at i10
        simp (disch := omega) only [w214_29, w214_32, w214_33, w214_36, w214_39, w214_40, w214_43, w214_44, w214_47, w214_48, w214_51, w214_52, w214_55, w214_57, w214_60, w214_61, w214_63, w214_66, w214_67, w214_70, w214_71, w214_74, w214_76, w214_77, w214_78, w214_79, w214_82, w214_83, w214_84, w214_87, w214_90, w214_91, w214_94, w214_97, w214_98, w214_101, w214_102, w214_105, w214_106, w214_109, w214_111, w214_114, w214_115, w214_117, w214_120, w214_121, w214_124, w214_125, w214_128, w214_130, w214_131, w214_132, w214_133, w214_136, w214_137, w214_138, w214_141, w214_144, w214_145, w214_148, w214_149, w214_150, w214_151, w214_152, w214_155, w214_158, w214_159, w214_162, w214_165, w214_166, w214_167, w214_170, w214_171, w214_172, w214_173, w214_176, w214_177, w214_180, w214_181, w214_184, w214_185, w214_188, w214_189, w214_192, w214_194, w214_197, w214_198, w214_201, w214_202, w214_203, w214_206, w214_207, w214_208, w214_211, w214_212, w214_213, w214_216, w214_219, w214_220, w214_222, w214_225, w214_226, w214_229, w214_230, w214_231, w214_234, Md_s1, Md_s81, Md_s82, Md_s83, Md_s84, Md_s85, Md_s86, Md_s87, Md_s88, Md_s89, Md_s90, Md_s91, Md_s92, Md_s93, Md_s94, Md_s95, Md_s96, Md_s97, Md_s98, Md_s99, Md_s100, Md_s101, Md_s102, Md_r81_0, Md_r81_1, Md_r81_2, Md_r81_4, Md_r81_5, Md_r81_13, Md_r81_14, Md_r81_15, Md_r81_18, Md_r81_20, Md_r81_21, Md_r81_22, Md_r81_23, Md_r81_24, Md_r81_25, Md_r81_26, Md_r81_27, Md_r81_28, Md_r81_29, Md_r81_30, Md_r81_31, aPush_s, aPush_n, vrf_s, vrf_n, true_and, and_true, false_and, and_false, true_imp_iff, false_imp_iff, not_true_eq_false, not_false_eq_true, eq_self, true_or, or_true, and_self, if_true, if_false, n_lit, n_of, n_an, Nat.add_sub_cancel, nI_add, pk_mul, n_sub, n_ixT, n_cl, n_leT, n_leF, n_ltT, n_ltF, n_eqT, n_eqF, Nat.reduceAdd, Nat.reduceMul, Nat.reduceSub, Nat.reduceEqDiff, Nat.reduceLT, Nat.reduceLeDiff, Nat.mul_one, Nat.one_mul, Nat.add_zero, Nat.zero_add, le_T, nz0, nz1, i9, i10]
        exact fall
      · simp (disch := omega) only [w214_29, w214_32, w214_33, w214_36, w214_39, w214_40, w214_43, w214_44, w214_47, w214_48, w214_51, w214_52, w214_55, w214_57, w214_60, w214_61, w214_63, w214_66, w214_67, w214_70, w214_71, w214_74, w214_76, w214_77, w214_78, w214_79, w214_82, w214_83, w214_84, w214_87, w214_90, w214_91, w214_94, w214_97, w214_98, w214_101, w214_102, w214_105, w214_106, w214_109, w214_111, w214_114, w214_115, w214_117, w214_120, w214_121, w214_124, w214_125, w214_128, w214_130, w214_131, w214_132, w214_133, w214_136, w214_137, w214_138, w214_141, w214_144, w214_145, w214_148, w214_149, w214_150, w214_151, w214_152, w214_155, w214_158, w214_159, w214_162, w214_165, w214_166, w214_167, w214_170, w214_171, w214_172, w214_173, w214_176, w214_177, w214_180, w214_181, w214_184, w214_185, w214_188, w214_189, w214_192, w214_194, w214_197, w214_198, w214_201, w214_202, w214_203, w214_206, w214_207, w214_208, w214_211, w214_212, w214_213, w214_216, w214_219, w214_220, w214_222, w214_225, w214_226, w214_229, w214_230, w214_231, w214_234, Md_s1, Md_s81, Md_s82, Md_s83, Md_s84, Md_s85, Md_s86, Md_s87, Md_s88, Md_s89, Md_s90, Md_s91, Md_s92, Md_s93, Md_s94, Md_s95, Md_s96, Md_s97, Md_s98, Md_s99, Md_s100, Md_s101, Md_s102, Md_r81_0, Md_r81_1, Md_r81_2, Md_r81_4, Md_r81_5, Md_r81_13, Md_r81_14, Md_r81_15, Md_r81_18, Md_r81_20, Md_r81_21, Md_r81_22, Md_r81_23, Md_r81_24, Md_r81_25, Md_r81_26, Md_r81_27, Md_r81_28, Md_r81_29, Md_r81_30, Md_r81_31, aPush_s, aPush_n, vrf_s, vrf_n, true_and, and_true, false_and, and_false, true_imp_iff, false_imp_iff, not_true_eq_false, not_false_eq_true, eq_self, true_or, or_true, and_self, if_true, if_false, n_lit, n_of, n_an, Nat.add_sub_cancel, nI_add, pk_mul, n_sub, n_ixT, n_cl, n_leT, n_leF, n_ltT, n_ltF, n_eqT, n_eqF, Nat.reduceAdd, Nat.reduceMul, Nat.reduceSub, Nat.reduceEqDiff, Nat.reduceLT, Nat.reduceLeDiff, Nat.mul_one, Nat.one_mul, Nat.add_zero, Nat.zero_add, le_T, nz0, nz1, i9, i10]
        exact fall
  · have c3 : tCd t ≠ 3 := fun q => e3 (by rw [tCd_3] at q; exact q)
    have fall := fall (fun q => e3 q.1.1)
    rw [w214_28]
    simp (disch := omega) only [w214_29, w214_32, w214_33, w214_36, w214_39, w214_40, w214_43, w214_44, w214_47, w214_48, w214_51, w214_52, w214_55, w214_57, w214_60, w214_61, w214_63, w214_66, w214_67, w214_70, w214_71, w214_74, w214_76, w214_77, w214_78, w214_79, w214_82, w214_83, w214_84, w214_87, w214_90, w214_91, w214_94, w214_97, w214_98, w214_101, w214_102, w214_105, w214_106, w214_109, w214_111, w214_114, w214_115, w214_117, w214_120, w214_121, w214_124, w214_125, w214_128, w214_130, w214_131, w214_132, w214_133, w214_136, w214_137, w214_138, w214_141, w214_144, w214_145, w214_148, w214_149, w214_150, w214_151, w214_152, w214_155, w214_158, w214_159, w214_162, w214_165, w214_166, w214_167, w214_170, w214_171, w214_172, w214_173, w214_176, w214_177, w214_180, w214_181, w214_184, w214_185, w214_188, w214_189, w214_192, w214_194, w214_197, w214_198, w214_201, w214_202, w214_203, w214_206, w214_207, w214_208, w214_211, w214_212, w214_213, w214_216, w214_219, w214_220, w214_222, w214_225, w214_226, w214_229, w214_230, w214_231, w214_234, Md_s1, Md_s81, Md_s82, Md_s83, Md_s84, Md_s85, Md_s86, Md_s87, Md_s88, Md_s89, Md_s90, Md_s91, Md_s92, Md_s93, Md_s94, Md_s95, Md_s96, Md_s97, Md_s98, Md_s99, Md_s100, Md_s101, Md_s102, Md_r81_0, Md_r81_1, Md_r81_2, Md_r81_4, Md_r81_5, Md_r81_13, Md_r81_14, Md_r81_15, Md_r81_18, Md_r81_20, Md_r81_21, Md_r81_22, Md_r81_23, Md_r81_24, Md_r81_25, Md_r81_26, Md_r81_27, Md_r81_28, Md_r81_29, Md_r81_30, Md_r81_31, aPush_s, aPush_n, vrf_s, vrf_n, true_and, and_true, false_and, and_false, true_imp_iff, false_imp_iff, not_true_eq_false, not_false_eq_true, eq_self, true_or, or_true, and_self, if_true, if_false, n_lit, n_of, n_an, Nat.add_sub_cancel, nI_add, pk_mul, n_sub, n_ixT, n_cl, n_leT, n_leF, n_ltT, n_ltF, n_eqT, n_eqF, Nat.reduceAdd, Nat.reduceMul, Nat.reduceSub, Nat.reduceEqDiff, Nat.reduceLT, Nat.reduceLeDiff, Nat.mul_one, Nat.one_mul, Nat.add_zero, Nat.zero_add, le_T, nz0, nz1, i9]
    exact fall
end
