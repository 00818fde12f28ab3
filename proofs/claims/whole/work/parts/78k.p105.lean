/-! TEXT: text, both sides -/
section
variable {sc : (Nat × Nat) × (Nat → Int32)} {d n m r t u len k c a : Nat} {T : Nat → Nat} {S S' : Nat → Nat × Nat} {I J K : Nat → Nat → Int32} {R R' : Nat → Nat → Option Nat} {z : Nat × Nat}
theorem p105 (h : Inv sc n S I R z) : RM (d + 300) 105 [.ref 16] (S, I, R, z) (Px d 216 [] sc n) := by
  obtain ⟨t, u⟩ := z
  obtain ⟨⟨tz1, tz2⟩, kt, k96, ta1, ta2, ta3⟩ := h.ta
  obtain ⟨T, hT1, hT2⟩ : ∃ T : Nat → Nat, (∀ j, j < kt → I 86 j = nI (T j)) ∧ ∀ j, T j < 256 := by
    refine ⟨fun j => if j < kt then uN (I 86 j) else 0, fun j hj => ?_, fun j => ?_⟩
    · dsimp only
      rw [if_pos hj, nI_uN]
    · dsimp only
      split
      · rename_i hj
        obtain ⟨-, b, hb, eb⟩ := ta3 j hj
        rw [eb, uN_nI (by omega)]
        exact hb
      · decide
  have hfs := h.fs
  have s17 : S 17 = (2, 18) := hfs.2.2.1.1
  have hm := hfs.2.1
  obtain ⟨Hd_s16, Hd_s52, Hd_s53, Hd_s54, Hd_s55, Hd_s56, Hd_s57, Hd_s50, Hd_s51, Hd_s0, Hd_r16_0, Hd_r16_1, Hd_r16_2, Hd_r16_3, Hd_r16_4, Hd_r16_5, Hd_r16_6, Hd_r16_7, Hd_r54_0, Hd_r54_6, Hd_r50_0⟩ := id hfs.1
  have hT : Th S R := ⟨Hd_s54, Hd_s55, Hd_s56, Hd_r54_0, Hd_r54_6⟩
  have tp : Tp I T kt := ⟨k96, ta1, fun j hj => (ta3 j hj).1.trans (hT1 j hj), hT2⟩
  have tqi : ∀ J, F47 I J → Tq J T kt := fun J f => ⟨k96, by rw [f.1 81 (by decide) (by decide)]; exact ta2, by rw [f.1 86 (by decide) (by decide)]; exact hT1, hT2⟩
  simp (disch := omega) only [e105, w105_0, w105_1, w105_4, Hd_s16, Hd_s52, Hd_s53, Hd_s54, Hd_s55, Hd_s56, Hd_s57, Hd_s50, Hd_s51, Hd_s0, Hd_r16_0, Hd_r16_1, Hd_r16_2, Hd_r16_3, Hd_r16_4, Hd_r16_5, Hd_r16_6, Hd_r16_7, Hd_r54_0, Hd_r54_6, Hd_r50_0, aPush_s, aPush_n, vrf_s, vrf_n, true_and, and_true, false_and, and_false, true_imp_iff, false_imp_iff, not_true_eq_false, not_false_eq_true, eq_self, true_or, or_true, and_self, if_true, if_false, n_lit, n_of, n_an, Nat.add_sub_cancel, nI_add, pk_mul, n_sub, n_ixT, n_cl, n_leT, n_leF, n_ltT, n_ltF, n_eqT, n_eqF, Nat.reduceAdd, Nat.reduceMul, Nat.reduceSub, Nat.reduceEqDiff, Nat.reduceLT, Nat.reduceLeDiff, Nat.mul_one, Nat.one_mul, Nat.add_zero, Nat.zero_add, le_T, nz0, nz1]
  refine c47 (d := d + 49) hT tp h.2.2.1 tz1 tz2 (fun J eN f j2 j10 j11 => ?_) (fun k J Mf eK f hM hB j2 j10 j11 => ?_) (fun k J t' H' C' C1 te' a' eK f hM h0 hs ck => ?_)
  · obtain ⟨g1, g2, g3, g4⟩ := (h.i47 f j10 j11).txf (tqi J f)
    simp (disch := omega) only [w105_7, w105_10, w105_11, w105_14, w105_15, w105_18, w105_21, w105_24, w105_27, w105_29, w105_30, w105_33, w105_36, w105_37, w105_38, w105_39, w105_42, w105_43, w105_46, w105_47, Hd_s16, Hd_s52, Hd_s53, Hd_s54, Hd_s55, Hd_s56, Hd_s57, Hd_s50, Hd_s51, Hd_s0, Hd_r16_0, Hd_r16_1, Hd_r16_2, Hd_r16_3, Hd_r16_4, Hd_r16_5, Hd_r16_6, Hd_r16_7, Hd_r54_0, Hd_r54_6, Hd_r50_0, aPush_s, aPush_n, vrf_s, vrf_n, true_and, and_true, false_and, and_false, true_imp_iff, false_imp_iff, not_true_eq_false, not_false_eq_true, eq_self, true_or, or_true, and_self, if_true, if_false, n_lit, n_of, n_an, Nat.add_sub_cancel, nI_add, pk_mul, n_sub, n_ixT, n_cl, n_leT, n_leF, n_ltT, n_ltF, n_eqT, n_eqF, Nat.reduceAdd, Nat.reduceMul, Nat.reduceSub, Nat.reduceEqDiff, Nat.reduceLT, Nat.reduceLeDiff, Nat.mul_one, Nat.one_mul, Nat.add_zero, Nat.zero_add, le_T, nz0, nz1, j2]
    exact Px.mk ⟨h.1.1, g3⟩ (c216n (d := d + 293) hm g1 g2 eN (fun K k6 fK => ⟨(g4 K k6 fK).bump, rfl⟩))
  · obtain ⟨g1, g2, g3, g4⟩ := (h.i47 f j10 j11).txf (tqi J f)
    simp (disch := omega) only [w105_7, w105_10, w105_11, w105_14, w105_15, w105_18, w105_21, w105_24, w105_27, w105_29, w105_30, w105_33, w105_36, w105_37, w105_38, w105_39, w105_42, w105_43, w105_46, w105_47, Hd_s16, Hd_s52, Hd_s53, Hd_s54, Hd_s55, Hd_s56, Hd_s57, Hd_s50, Hd_s51, Hd_s0, Hd_r16_0, Hd_r16_1, Hd_r16_2, Hd_r16_3, Hd_r16_4, Hd_r16_5, Hd_r16_6, Hd_r16_7, Hd_r54_0, Hd_r54_6, Hd_r50_0, aPush_s, aPush_n, vrf_s, vrf_n, true_and, and_true, false_and, and_false, true_imp_iff, false_imp_iff, not_true_eq_false, not_false_eq_true, eq_self, true_or, or_true, and_self, if_true, if_false, n_lit, n_of, n_an, Nat.add_sub_cancel, nI_add, pk_mul, n_sub, n_ixT, n_cl, n_leT, n_leF, n_ltT, n_ltF, n_eqT, n_eqF, Nat.reduceAdd, Nat.reduceMul, Nat.reduceSub, Nat.reduceEqDiff, Nat.reduceLT, Nat.reduceLeDiff, Nat.mul_one, Nat.one_mul, Nat.add_zero, Nat.zero_add, le_T, nz0, nz1, j2]
    exact Px.mk ⟨h.1.1, g3⟩ (c216b (d := d + 293) hm g1 g2 eK hM hB (fun K k6 fK => ⟨(g4 K k6 fK).bump, rfl⟩))
  · obtain ⟨-, j7, j8, j9, j10, j11, jst⟩ := ck
    have hk := tKy_3 eK
    have hJ := h.i47 f j10 j11
    have ok := (hM.ok mM0_ok).1
    have o1 : tOk kt t' := ok.1
    have o2 : H'.length + C'.length ≤ t'.1 := ok.2.1
    have o6 : a' ≤ C'.length := ok.2.2.2.2.2
    obtain ⟨o11, o12, -⟩ := id o1
    have hl := stl_len (a := 0) H' C'
    rw [hs] at hl
    have hl : 0 + C1.length = H'.length + C'.length := hl
    have hl96 : C1.length ≤ 96 := by omega
    obtain ⟨len, el⟩ : ∃ len, len = C1.length := ⟨_, rfl⟩
    rw [← el] at j7 hl96
    have t103 : 103 ≤ t := h.2.1.1
    have fr : ∀ q, t ≤ q → S q = (99, 0) := h.2.1.2.2.2
    simp (disch := omega) only [w105_7, w105_10, w105_11, w105_14, w105_15, w105_18, Hd_s16, Hd_s52, Hd_s53, Hd_s54, Hd_s55, Hd_s56, Hd_s57, Hd_s50, Hd_s51, Hd_s0, Hd_r16_0, Hd_r16_1, Hd_r16_2, Hd_r16_3, Hd_r16_4, Hd_r16_5, Hd_r16_6, Hd_r16_7, Hd_r54_0, Hd_r54_6, Hd_r50_0, aPush_s, aPush_n, vrf_s, vrf_n, true_and, and_true, false_and, and_false, true_imp_iff, false_imp_iff, not_true_eq_false, not_false_eq_true, eq_self, true_or, or_true, and_self, if_true, if_false, n_lit, n_of, n_an, Nat.add_sub_cancel, nI_add, pk_mul, n_sub, n_ixT, n_cl, n_leT, n_leF, n_ltT, n_ltF, n_eqT, n_eqF, Nat.reduceAdd, Nat.reduceMul, Nat.reduceSub, Nat.reduceEqDiff, Nat.reduceLT, Nat.reduceLeDiff, Nat.mul_one, Nat.one_mul, Nat.add_zero, Nat.zero_add, le_T, nz0, nz1]
    refine c48 (d := d + 296) hT t103 j7 j8 j9 hl96 (fun S' I' R' hb s1 s2 r2 i0 i1 ij => ?_)
    have b : Bl t S S' J I' R R' := ⟨fun q hq => (hb q (by omega) (by omega)).1, fun q hq => (hb q (by omega) (by omega)).2.1, fun q hq => (hb q (by omega) (by omega)).2.2⟩
    have h2 := hJ.nu b hl96 (fun q hq => by rw [(hb q (by omega) (by omega)).1]; exact fr q (by omega))
    have s17' : S' 17 = (2, 18) := by rw [b.1 17 (by omega)]; exact s17
    have s16' : S' 16 = (6, 10) := by rw [b.1 16 (by omega)]; exact Hd_s16
    have s54' : S' 54 = (3, 12) := by rw [b.1 54 (by omega)]; exact Hd_s54
    have r16' : R' 16 6 = some 54 := by rw [b.2.2 16 (by omega)]; exact Hd_r16_6
    have tq' : Tq I' T kt := ⟨k96, by rw [b.2.1 81 (by omega)]; exact (tqi J f).2.1, by rw [b.2.1 86 (by omega)]; exact (tqi J f).2.2.1, hT2⟩
    have i13 : I' 17 13 = nI (G I' 7) := h2.cs.2.2.2.1.2.2.2.2.2.2.2
    have hc : G I' 7 ≤ 14 := h2.cs.2.2.1.2.2.2.2.2.1
    have i7 : I' 82 7 = nI (G I' 7) := G_eq I' 7
    obtain ⟨g1, g2, g3, g4⟩ := h2.txf tq'
    obtain ⟨c, ec⟩ : ∃ c, c = G I' 7 := ⟨_, rfl⟩
    rw [← ec] at i13 hc i7
    by_cases e14 : c = 14
    · have hc12 := fun (d : Nat) (Q : Option Value → HS → Prop) => c12f (d := d) (R := R') (z := (t + 2, u + 3 + len)) (Q := Q) (t := t) s17' i13 e14
      simp (disch := omega) only [w105_21, w105_24, w105_27, w105_29, w105_30, w105_33, w105_36, w105_37, w105_38, w105_39, w105_42, w105_43, w105_46, w105_47, s17', s16', s54', r16', hc12, aPush_s, aPush_n, vrf_s, vrf_n, true_and, and_true, false_and, and_false, true_imp_iff, false_imp_iff, not_true_eq_false, not_false_eq_true, eq_self, true_or, or_true, and_self, if_true, if_false, n_lit, n_of, n_an, Nat.add_sub_cancel, nI_add, pk_mul, n_sub, n_ixT, n_cl, n_leT, n_leF, n_ltT, n_ltF, n_eqT, n_eqF, Nat.reduceAdd, Nat.reduceMul, Nat.reduceSub, Nat.reduceEqDiff, Nat.reduceLT, Nat.reduceLeDiff, Nat.mul_one, Nat.one_mul, Nat.add_zero, Nat.zero_add, le_T]
      exact Px.mk ⟨h2.1.1, g3⟩ (c216g (d := d + 293) h2.fs.2.1 g1 g2 eK hM h0 hs (by rw [aW_o (by decide)]; exact i7) hc (fun K _ k6 fK => ⟨g4 K k6 fK, rfl⟩) (fun K hlt => by omega))
    · have sd := h2.fs.2.2.1
      have s23 : S' 23 = (13, 14) := sd.2.2.2.2.2.2.1
      have s24 : S' 24 = (9, 3) := sd.2.2.2.2.2.2.2.1
      have r12 : R' 17 12 = some 23 := sd.2.2.2.2.2.2.2.2.2.2.2.2.2.2.2.2.1
      have r14 : R' 17 14 = some 24 := sd.2.2.2.2.2.2.2.2.2.2.2.2.2.2.2.2.2.1
      have hc12 := fun (d : Nat) (Q : Option Value → HS → Prop) => c12 (d := d) (z := (t + 2, u + 3 + len)) (Q := Q) s17' s23 s24 r12 r14 s1 i0 hk t103 i13 (by omega)
      have r16'' : aR R' 23 c (some t) 16 6 = some 54 := by rw [aR_o (by decide)]; exact r16'
      simp (disch := omega) only [w105_21, w105_24, w105_27, w105_29, w105_30, w105_33, w105_36, w105_37, w105_38, w105_39, w105_42, w105_43, w105_46, w105_47, s17', s16', s54', r16', r16'', hc12, aPush_s, aPush_n, vrf_s, vrf_n, true_and, and_true, false_and, and_false, true_imp_iff, false_imp_iff, not_true_eq_false, not_false_eq_true, eq_self, true_or, or_true, and_self, if_true, if_false, n_lit, n_of, n_an, Nat.add_sub_cancel, nI_add, pk_mul, n_sub, n_ixT, n_cl, n_leT, n_leF, n_ltT, n_ltF, n_eqT, n_eqF, Nat.reduceAdd, Nat.reduceMul, Nat.reduceSub, Nat.reduceEqDiff, Nat.reduceLT, Nat.reduceLeDiff, Nat.mul_one, Nat.one_mul, Nat.add_zero, Nat.zero_add, le_T]
      obtain ⟨J1, e1⟩ : ∃ J1, J1 = aW (aW (aW I' 24 k (nI c)) 17 13 (nI (c + 1))) 54 1 (nI 0) := ⟨_, rfl⟩
      rw [← e1]
      have f1 : ∀ q, q ≠ 17 → q ≠ 24 → q ≠ 54 → J1 q = I' q := fun q q1 q2 q3 => by rw [e1, aW_o q3, aW_o q1, aW_o q2]
      have hm2 := (h2.fs.cong (R' := aR R' 23 c (some t)) (fun q a _ _ _ => aR_o a)).2.1
      have tq1 : Tq J1 T kt := ⟨k96, by rw [f1 81 (by decide) (by decide) (by decide)]; exact tq'.2.1, by rw [f1 86 (by decide) (by decide) (by decide)]; exact tq'.2.2.1, hT2⟩
      have kk1 : Kk J1 := by
        have := h2.kk
        unfold Kk
        rw [f1 87 (by decide) (by decide) (by decide), f1 88 (by decide) (by decide) (by decide)]
        exact this
      refine Px.mk ⟨h2.1.1, by rw [f1 15 (by decide) (by decide) (by decide)]; exact h2.1.2⟩ (c216g (d := d + 293) hm2 tq1 kk1 eK hM h0 hs (by rw [f1 82 (by decide) (by decide) (by decide)]; exact i7) hc (fun K e => absurd e e14) (fun K hlt k6 fK hl' ha' ck' cd' stk' v1 v2 v3 v4 v5 => ⟨?_, rfl⟩))
      rw [← el] at hl' v1 v3 v5
      have eK' : ∀ q, q ≠ 17 → q ≠ 24 → q ≠ 54 → q ≠ 81 → q ≠ 82 → q ≠ 89 → q ≠ 90 → q ≠ 91 → K q = I' q := fun q q1 q2 q3 q4 q5 q6 q7 q8 => (fK.1 q q4 q5 q6 q7 q8).trans (f1 q q1 q2 q3)
      have k17 : K 17 = J1 17 := fK.1 17 (by decide) (by decide) (by decide) (by decide) (by decide)
      have k24 : K 24 = J1 24 := fK.1 24 (by decide) (by decide) (by decide) (by decide) (by decide)
      have k54 : K 54 = J1 54 := fK.1 54 (by decide) (by decide) (by decide) (by decide) (by decide)
      have oc : oC (K 89) len (sNm k) := ⟨hl96, by rw [el, sD_stk stk']; exact cd', fun j hj => oC_stk stk' ck' j (by omega)⟩
      have hg : Gt (G I') (G K) c k a' len (K 89) := by
        refine ⟨by omega, ec.symm, ?_, ?_, ?_, fun j hj => ?_, fun j q1 q2 q3 q4 => ?_⟩
        · show uN (K 82 7) = _
          rw [v4, uN_nI (by omega)]
        · show uN (K 82 (48 + 2 * c)) = _
          rw [v1, uN_nI (by omega)]
        · show uN (K 82 (48 + 2 * c + 1)) = _
          rw [v2, uN_nI (by omega)]
        · show nI (uN (K 82 (76 + 96 * c + j))) = _
          rw [nI_uN, v3 j hj]
        · show uN (K 82 j) = uN (I' 82 j)
          rw [v5 j q1 q2 q3 q4, f1 82 (by decide) (by decide) (by decide)]
      show Inv sc (n + 1) S' K (aR R' 23 c (some t)) (t + 2, u + 3 + len)
      refine h2.add (t := t) hk hl96 oc hg eK' (fun j hj => (fK.2 j hj).trans (by rw [f1 81 (by decide) (by decide) (by decide)])) (fun j hj => ?_) ?_ (fun j hj => ?_) ?_ ?_ ?_ ?_ k6 t103 s1 s2 r2 i0 i1 (fun j hj => ?_)
      · rw [k17, e1, aW_o (by decide), aW_i hj, aW_o (by decide)]
      · rw [k17, e1, aW_o (by decide), aW_e]
      · rw [k24, e1, aW_o (by decide), aW_o (by decide), aW_i hj]
      · rw [k24, e1, aW_o (by decide), aW_o (by decide), aW_e]
      · rw [k54, e1, aW_e]
      · rw [k54, e1, aW_i (by decide), aW_o (by decide), aW_o (by decide), b.2.1 54 (by omega)]
        exact j10
      · rw [k54, e1, aW_i (by decide), aW_o (by decide), aW_o (by decide), b.2.1 54 (by omega)]
        exact j11
      · rw [ij j hj]
        exact tr_stk jst stk' j (by omega)
end
