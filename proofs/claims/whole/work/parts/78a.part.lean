/-! TEXT: NOTs that wait; a piece of the reference -/
def cN (I : Nat → Nat → Int32) : Nat → Nat
  | 0 => 0
  | j + 1 => cN I j + (if I 90 j = -nI 10 then 1 else 0)
/-- what the reference may change while it reads -/
def F4 (I J : Nat → Nat → Int32) : Prop := (∀ q, q ≠ 81 → q ≠ 89 → q ≠ 90 → q ≠ 91 → J q = I q) ∧ ∀ j, j < 7 ∨ (11 < j ∧ j ≠ 16 ∧ j ≠ 17 ∧ j ≠ 19) → J 81 j = I 81 j
/-- the reference stands where the machine does -/
def RS (T : Nat → Nat) (k : Nat) (I : Nat → Nat → Int32) (M : MS) : Prop := Rw I M.2.1 M.2.2.1 ∧ TkR T I M.1 ∧ I 81 7 = nI M.1.2.1 ∧ I 81 17 = nI M.2.2.2.2.2 ∧ tStk I 91 (M.2.2.2.2.1.map (fun b => nI (b2n b))) ∧ I 81 12 = nI k
section
variable {d n k p q a b o f l r : Nat} {T : Nat → Nat} {t : Tok} {H : List Nat} {C : List Int32} {te : List Bool} {S : Nat → Nat × Nat} {I J K : Nat → Nat → Int32} {R : Nat → Nat → Option Nat} {z : Nat × Nat} {x y : Int32} {Q : Option Value → HS → Prop} {l1 l2 : Value}
theorem F4.rf : F4 I I := ⟨fun _ _ _ _ _ => rfl, fun _ _ => rfl⟩
theorem F4.tr (h : F4 I J) (h2 : F4 J K) : F4 I K := ⟨fun q h1 h3 h4 h5 => (h2.1 q h1 h3 h4 h5).trans (h.1 q h1 h3 h4 h5), fun j hj => (h2.2 j hj).trans (h.2 j hj)⟩
theorem F81.f4 (h : F81 I J) : F4 I J := ⟨fun q h1 _ _ _ => h.1 q h1, fun j hj => h.2 j (by omega)⟩
theorem F89.f4 (h : F89 I J) : F4 I J := ⟨fun q h1 h2 _ _ => h.1 q h1 h2, fun j hj => h.2 j (by omega) (by omega)⟩
theorem F4.a81 {j : Nat} {v : Int32} (h : j = 16 ∨ j = 17 ∨ j = 19) : F4 I (aW I 81 j v) := ⟨fun q h1 _ _ _ => aW_o h1, fun i hi => aW_i (by omega)⟩
theorem F4.a89 {j : Nat} {v : Int32} : F4 I (aW I 89 j v) := ⟨fun q _ h _ _ => aW_o h, fun i hi => by rw [aW_o (by decide)]⟩
theorem F4.a90 {j : Nat} {v : Int32} : F4 I (aW I 90 j v) := ⟨fun q _ _ h _ => aW_o h, fun i hi => by rw [aW_o (by decide)]⟩
theorem F4.a91 {j : Nat} {v : Int32} : F4 I (aW I 91 j v) := ⟨fun q _ _ _ h => aW_o h, fun i hi => by rw [aW_o (by decide)]⟩
theorem Tq.f4 (h : Tq I T n) (f : F4 I J) : Tq J T n := ⟨h.1, (f.2 6 (by omega)).trans h.2.1, by rw [f.1 86 (by decide) (by decide) (by decide) (by decide)]; exact h.2.2.1, h.2.2.2⟩
theorem cN_eq : ∀ (H : List Nat), cEl H → tStk I 90 (H.map (fun h => -nI h)) → cN I H.length = cNo H
  | [], _, _ => rfl
  | h :: H, he, hs => by
    have e1 : I 90 H.length = -nI h := by
      have := hs.1
      rw [List.length_map] at this
      exact this
    have hh := he h List.mem_cons_self
    show cN I H.length + (if I 90 H.length = -nI 10 then 1 else 0) = (if h = 10 then 1 else 0) + cNo H
    rw [cN_eq H (fun y hy => he y (List.mem_cons_of_mem _ hy)) hs.2, e1, Nat.add_comm]
    by_cases e : h = 10
    · rw [if_pos e, if_pos (by rw [e])]
    · rw [if_neg e, if_neg (fun q => e ((neg_eq h (by omega) 10 (by decide)).1 q))]
theorem cN_le : ∀ j, cN I j ≤ j
  | 0 => Nat.le_refl _
  | j + 1 => by
    have := cN_le j
    show cN I j + (if I 90 j = -nI 10 then 1 else 0) ≤ j + 1
    split <;> omega
theorem l215 (hm : Md S R) {L : Nat} (hL : L ≤ 96) (i19 : I 81 19 = nI L) : ∀ (m j : Nat), j + m = L → RB d 215 4 [.ref 81, .int (nI (cN I j)), .int (nI j)] [] (S, I, R, z) Q = Q (some (.int (nI (cN I L)))) (S, I, R, z) := by
  obtain ⟨Md_s1, Md_s81, Md_s82, Md_s83, Md_s84, Md_s85, Md_s86, Md_s87, Md_s88, Md_s89, Md_s90, Md_s91, Md_s92, Md_s93, Md_s94, Md_s95, Md_s96, Md_s97, Md_s98, Md_s99, Md_s100, Md_s101, Md_s102, Md_r81_0, Md_r81_1, Md_r81_2, Md_r81_4, Md_r81_5, Md_r81_13, Md_r81_14, Md_r81_15, Md_r81_18, Md_r81_20, Md_r81_21, Md_r81_22, Md_r81_23, Md_r81_24, Md_r81_25, Md_r81_26, Md_r81_27, Md_r81_28, Md_r81_29, Md_r81_30, Md_r81_31⟩ := id hm
  intro m
  induction m with
  | zero =>
    intro j hj
    have e : j = L := by omega
    subst e
    have := cN_le (I := I) j
    rw [w215_4]
    simp (disch := omega) only [w215_0, w215_1, w215_2, w215_3, w215_5, w215_6, w215_9, w215_12, w215_13, w215_14, w215_17, w215_18, w215_19, w215_21, w215_24, w215_25, w215_28, w215_29, w215_30, w215_31, w215_34, w215_37, w215_38, Md_s1, Md_s81, Md_s82, Md_s83, Md_s84, Md_s85, Md_s86, Md_s87, Md_s88, Md_s89, Md_s90, Md_s91, Md_s92, Md_s93, Md_s94, Md_s95, Md_s96, Md_s97, Md_s98, Md_s99, Md_s100, Md_s101, Md_s102, Md_r81_0, Md_r81_1, Md_r81_2, Md_r81_4, Md_r81_5, Md_r81_13, Md_r81_14, Md_r81_15, Md_r81_18, Md_r81_20, Md_r81_21, Md_r81_22, Md_r81_23, Md_r81_24, Md_r81_25, Md_r81_26, Md_r81_27, Md_r81_28, Md_r81_29, Md_r81_30, Md_r81_31, aPush_s, aPush_n, vrf_s, vrf_n, true_and, and_true, false_and, and_false, true_imp_iff, false_imp_iff, not_true_eq_false, not_false_eq_true, eq_self, true_or, or_true, and_self, if_true, if_false, n_lit, n_of, n_an, Nat.add_sub_cancel, nI_add, pk_mul, n_sub, n_ixT, n_cl, n_leT, n_leF, n_ltT, n_ltF, n_eqT, n_eqF, Nat.reduceAdd, Nat.reduceMul, Nat.reduceSub, Nat.reduceEqDiff, Nat.reduceLT, Nat.reduceLeDiff, Nat.mul_one, Nat.one_mul, Nat.add_zero, Nat.zero_add, le_T, nz0, nz1, i19]
  | succ m ih =>
    intro j hj
    have hc := cN_le (I := I) j
    rw [w215_4]
    by_cases e : I 90 j = -nI 10
    · have e' : (I 90 j = -nI 10) = True := eq_true e
      have es : cN I (j + 1) = cN I j + 1 := by
        show cN I j + (if I 90 j = -nI 10 then 1 else 0) = _
        rw [if_pos e]
      simp (disch := omega) only [w215_0, w215_1, w215_2, w215_3, w215_5, w215_6, w215_9, w215_12, w215_13, w215_14, w215_17, w215_18, w215_19, w215_21, w215_24, w215_25, w215_28, w215_29, w215_30, w215_31, w215_34, w215_37, w215_38, Md_s1, Md_s81, Md_s82, Md_s83, Md_s84, Md_s85, Md_s86, Md_s87, Md_s88, Md_s89, Md_s90, Md_s91, Md_s92, Md_s93, Md_s94, Md_s95, Md_s96, Md_s97, Md_s98, Md_s99, Md_s100, Md_s101, Md_s102, Md_r81_0, Md_r81_1, Md_r81_2, Md_r81_4, Md_r81_5, Md_r81_13, Md_r81_14, Md_r81_15, Md_r81_18, Md_r81_20, Md_r81_21, Md_r81_22, Md_r81_23, Md_r81_24, Md_r81_25, Md_r81_26, Md_r81_27, Md_r81_28, Md_r81_29, Md_r81_30, Md_r81_31, aPush_s, aPush_n, vrf_s, vrf_n, true_and, and_true, false_and, and_false, true_imp_iff, false_imp_iff, not_true_eq_false, not_false_eq_true, eq_self, true_or, or_true, and_self, if_true, if_false, n_lit, n_of, n_an, Nat.add_sub_cancel, nI_add, pk_mul, n_sub, n_ixT, n_cl, n_leT, n_leF, n_ltT, n_ltF, n_eqT, n_eqF, Nat.reduceAdd, Nat.reduceMul, Nat.reduceSub, Nat.reduceEqDiff, Nat.reduceLT, Nat.reduceLeDiff, Nat.mul_one, Nat.one_mul, Nat.add_zero, Nat.zero_add, le_T, nz0, nz1, i19, e']
      rw [← es]
      exact ih (j + 1) (by omega)
    · have e' : (I 90 j = -nI 10) = False := eq_false e
      have es : cN I (j + 1) = cN I j := by
        show cN I j + (if I 90 j = -nI 10 then 1 else 0) = _
        rw [if_neg e, Nat.add_zero]
      simp (disch := omega) only [w215_0, w215_1, w215_2, w215_3, w215_5, w215_6, w215_9, w215_12, w215_13, w215_14, w215_17, w215_18, w215_19, w215_21, w215_24, w215_25, w215_28, w215_29, w215_30, w215_31, w215_34, w215_37, w215_38, Md_s1, Md_s81, Md_s82, Md_s83, Md_s84, Md_s85, Md_s86, Md_s87, Md_s88, Md_s89, Md_s90, Md_s91, Md_s92, Md_s93, Md_s94, Md_s95, Md_s96, Md_s97, Md_s98, Md_s99, Md_s100, Md_s101, Md_s102, Md_r81_0, Md_r81_1, Md_r81_2, Md_r81_4, Md_r81_5, Md_r81_13, Md_r81_14, Md_r81_15, Md_r81_18, Md_r81_20, Md_r81_21, Md_r81_22, Md_r81_23, Md_r81_24, Md_r81_25, Md_r81_26, Md_r81_27, Md_r81_28, Md_r81_29, Md_r81_30, Md_r81_31, aPush_s, aPush_n, vrf_s, vrf_n, true_and, and_true, false_and, and_false, true_imp_iff, false_imp_iff, not_true_eq_false, not_false_eq_true, eq_self, true_or, or_true, and_self, if_true, if_false, n_lit, n_of, n_an, Nat.add_sub_cancel, nI_add, pk_mul, n_sub, n_ixT, n_cl, n_leT, n_leF, n_ltT, n_ltF, n_eqT, n_eqF, Nat.reduceAdd, Nat.reduceMul, Nat.reduceSub, Nat.reduceEqDiff, Nat.reduceLT, Nat.reduceLeDiff, Nat.mul_one, Nat.one_mul, Nat.add_zero, Nat.zero_add, le_T, nz0, nz1, i19, e']
      have := ih (j + 1) (by omega)
      rw [es] at this
      exact this
theorem c215 (hm : Md S R) (hw : Rw I H C) (he : cEl H) (hl : H.length ≤ 96) : RM (d + 1) 215 [.ref 81] (S, I, R, z) Q = Q (some (.int (nI (cNo H)))) (S, I, R, z) := by
  obtain ⟨Md_s1, Md_s81, Md_s82, Md_s83, Md_s84, Md_s85, Md_s86, Md_s87, Md_s88, Md_s89, Md_s90, Md_s91, Md_s92, Md_s93, Md_s94, Md_s95, Md_s96, Md_s97, Md_s98, Md_s99, Md_s100, Md_s101, Md_s102, Md_r81_0, Md_r81_1, Md_r81_2, Md_r81_4, Md_r81_5, Md_r81_13, Md_r81_14, Md_r81_15, Md_r81_18, Md_r81_20, Md_r81_21, Md_r81_22, Md_r81_23, Md_r81_24, Md_r81_25, Md_r81_26, Md_r81_27, Md_r81_28, Md_r81_29, Md_r81_30, Md_r81_31⟩ := id hm
  simp (disch := omega) only [e215, w215_0, w215_1, w215_2, w215_3, w215_5, w215_6, w215_9, w215_12, w215_13, w215_14, w215_17, w215_18, w215_19, w215_21, w215_24, w215_25, w215_28, w215_29, w215_30, w215_31, w215_34, w215_37, w215_38, Md_s1, Md_s81, Md_s82, Md_s83, Md_s84, Md_s85, Md_s86, Md_s87, Md_s88, Md_s89, Md_s90, Md_s91, Md_s92, Md_s93, Md_s94, Md_s95, Md_s96, Md_s97, Md_s98, Md_s99, Md_s100, Md_s101, Md_s102, Md_r81_0, Md_r81_1, Md_r81_2, Md_r81_4, Md_r81_5, Md_r81_13, Md_r81_14, Md_r81_15, Md_r81_18, Md_r81_20, Md_r81_21, Md_r81_22, Md_r81_23, Md_r81_24, Md_r81_25, Md_r81_26, Md_r81_27, Md_r81_28, Md_r81_29, Md_r81_30, Md_r81_31, aPush_s, aPush_n, vrf_s, vrf_n, true_and, and_true, false_and, and_false, true_imp_iff, false_imp_iff, not_true_eq_false, not_false_eq_true, eq_self, true_or, or_true, and_self, if_true, if_false, n_lit, n_of, n_an, Nat.add_sub_cancel, nI_add, pk_mul, n_sub, n_ixT, n_cl, n_leT, n_leF, n_ltT, n_ltF, n_eqT, n_eqF, Nat.reduceAdd, Nat.reduceMul, Nat.reduceSub, Nat.reduceEqDiff, Nat.reduceLT, Nat.reduceLeDiff, Nat.mul_one, Nat.one_mul, Nat.add_zero, Nat.zero_add, le_T, nz0, nz1]
  rw [← cN_eq H he hw.2.2.1]
  exact l215 hm hl hw.1 H.length 0 (by omega)
end
