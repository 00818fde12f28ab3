section
variable {d r : Nat} {g : Nat → Nat} {S : Nat → Nat × Nat} {I : Nat → Nat → Int32} {R : Nat → Nat → Option Nat} {z : Nat × Nat} {Q : Option Value → HS → Prop}
/-- asked is written -/
theorem Cs.w8 {v : Nat} (hs : Cs S I R r g) (h3 : g 3 < g 1) (hv : v < 64) : Cs S (aW I r 8 (nI v)) R r (gu g 4 v) := by
  have ok := hs.2.2.1
  obtain ⟨n3, n6, n7, n8, n9, n10, n11, n13⟩ := hs.2.2.2.1
  have e : ∀ i, i ≠ 4 → gu g 4 v i = g i := fun i h => gu_n h
  refine hs.num (fun p hp => aW_o hp) (ok.num (fun i hi => e i (by omega)) (by rw [e 3 (by decide)]; exact Or.inr h3) (by rw [gu_e]; exact hv) (by rw [e 6 (by decide)]; exact ok.2.2.2.2.1)) ?_ (fun i hi => e i (by omega))
  unfold Cn
  rw [aW_i (by decide), aW_i (by decide), aW_i (by decide), aW_e, aW_i (by decide), aW_i (by decide), aW_i (by decide), aW_i (by decide), gu_e, e 1 (by decide), e 2 (by decide), e 3 (by decide), e 5 (by decide), e 6 (by decide), e 0 (by decide), e 7 (by decide)]
  exact ⟨n3, n6, n7, rfl, n9, n10, n11, n13⟩
/-- lines are written -/
theorem Cs.w9 {v : Int32} (hs : Cs S I R r g) (h3 : g 3 < g 1) : Cs S (aW I r 9 v) R r (gu g 5 (uN v)) := by
  have ok := hs.2.2.1
  obtain ⟨n3, n6, n7, n8, n9, n10, n11, n13⟩ := hs.2.2.2.1
  have e : ∀ i, i ≠ 5 → gu g 5 (uN v) i = g i := fun i h => gu_n h
  refine hs.num (fun p hp => aW_o hp) (ok.num (fun i hi => e i (by omega)) (by rw [e 3 (by decide)]; exact Or.inr h3) (by rw [e 4 (by decide)]; exact ok.2.2.2.1) (by rw [e 6 (by decide)]; exact ok.2.2.2.2.1)) ?_ (fun i hi => e i (by omega))
  unfold Cn
  rw [aW_i (by decide), aW_i (by decide), aW_i (by decide), aW_i (by decide), aW_e, aW_i (by decide), aW_i (by decide), aW_i (by decide), gu_e, e 1 (by decide), e 2 (by decide), e 3 (by decide), e 4 (by decide), e 6 (by decide), e 0 (by decide), e 7 (by decide), nI_uN]
  exact ⟨n3, n6, n7, n8, rfl, n10, n11, n13⟩
theorem c33 {l : Nat} (hs : Cs S I R r g) (h3 : g 3 < g 1) (hl : l < 6) (hQ : ∀ J, Fr r I J → Cs S J R r (sAsk g l) → Q (some (.int (nI (sPl g (g 3) l)))) (S, J, R, z)) : RM (d + 2) 33 [.ref r, .int (nI l)] (S, I, R, z) Q := by
  obtain ⟨hr, ⟨Sd_sr, Sd_s_r___1_, Sd_s_r___2_, Sd_s_r___3_, Sd_s_r___4_, Sd_s_r___5_, Sd_s_r___6_, Sd_s_r___7_, Sd_s_r___8_, Sd_s_r___9_, Sd_s_r___10_, Sd_rr_0, Sd_rr_1, Sd_rr_2, Sd_rr_4, Sd_rr_5, Sd_rr_12, Sd_rr_14, Sd_rr_15, Sd_rr_16, Sd_rr_17⟩, ok, ⟨n3, n6, n7, n8, n9, n10, n11, n13⟩, ⟨a1, a2, a3, a4, a5, a7⟩, ct⟩ := id hs
  have h1 := ok.1
  have h4 := ok.2.2.2.1
  have hp := sPl_lt g (g 3) l
  have ho := n_or64 h4 hl
  have hr16 := hr.1
  have hs2 := hs.w8 h3 ho
  have e3 : gu g 4 (g 4 ||| 2 ^ l) 3 = g 3 := gu_n (by decide)
  have e1 : gu g 4 (g 4 ||| 2 ^ l) 1 = g 1 := gu_n (by decide)
  have hpl : sPl (gu g 4 (g 4 ||| 2 ^ l)) (g 3) l = sPl g (g 3) l := by
    unfold sPl
    apply bs_cong
    intro p _
    unfold sL
    rw [gu_n (by omega)]
  have c := fun Q => c14 (d := d) (z := z) (Q := Q) hs2 (w := g 3) (l := l) (by rw [e1]; exact h3) hl
  rw [hpl] at c
  have hf : ∀ v w, Fr r I (aW (aW I r 8 v) r 9 w) := fun v w p hp => (aW_o (by omega)).trans (aW_o (by omega))
  by_cases e : sPl g (g 3) l = 0
  · simp (disch := omega) only [e33, w33_0, w33_1, w33_2, w33_5, w33_6, w33_7, w33_8, w33_9, w33_12, w33_13, w33_14, w33_17, w33_18, w33_21, w33_22, w33_23, w33_24, w33_27, w33_28, w33_31, w33_32, w33_35, w33_36, w33_37, w33_40, w33_41, Sd_sr, Sd_s_r___1_, Sd_s_r___2_, Sd_s_r___3_, Sd_s_r___4_, Sd_s_r___5_, Sd_s_r___6_, Sd_s_r___7_, Sd_s_r___8_, Sd_s_r___9_, Sd_s_r___10_, Sd_rr_0, Sd_rr_1, Sd_rr_2, Sd_rr_4, Sd_rr_5, Sd_rr_12, Sd_rr_14, Sd_rr_15, Sd_rr_16, Sd_rr_17, aPush_s, aPush_n, vrf_s, vrf_n, true_and, and_true, false_and, and_false, true_imp_iff, false_imp_iff, not_true_eq_false, not_false_eq_true, eq_self, true_or, or_true, and_self, if_true, if_false, n_lit, n_of, n_an, Nat.add_sub_cancel, nI_add, pk_mul, n_sub, n_ixT, n_cl, n_leT, n_leF, n_ltT, n_ltF, n_eqT, n_eqF, Nat.reduceAdd, Nat.reduceMul, Nat.reduceSub, Nat.reduceEqDiff, Nat.reduceLT, Nat.reduceLeDiff, Nat.mul_one, Nat.one_mul, Nat.add_zero, Nat.zero_add, n3, n6, n7, n8, n9, n10, n11, n13, hr16, aW_i, n_shl, n_or, c, e]
    rw [← e]
    refine hQ _ (hf _ _) ?_
    have := hs2.w9 (v := nI (g 5 + 1)) (by rw [e3, e1]; exact h3)
    unfold sAsk
    rw [if_pos e]
    exact this
  · simp (disch := omega) only [e33, w33_0, w33_1, w33_2, w33_5, w33_6, w33_7, w33_8, w33_9, w33_12, w33_13, w33_14, w33_17, w33_18, w33_21, w33_22, w33_23, w33_24, w33_27, w33_28, w33_31, w33_32, w33_35, w33_36, w33_37, w33_40, w33_41, Sd_sr, Sd_s_r___1_, Sd_s_r___2_, Sd_s_r___3_, Sd_s_r___4_, Sd_s_r___5_, Sd_s_r___6_, Sd_s_r___7_, Sd_s_r___8_, Sd_s_r___9_, Sd_s_r___10_, Sd_rr_0, Sd_rr_1, Sd_rr_2, Sd_rr_4, Sd_rr_5, Sd_rr_12, Sd_rr_14, Sd_rr_15, Sd_rr_16, Sd_rr_17, aPush_s, aPush_n, vrf_s, vrf_n, true_and, and_true, false_and, and_false, true_imp_iff, false_imp_iff, not_true_eq_false, not_false_eq_true, eq_self, true_or, or_true, and_self, if_true, if_false, n_lit, n_of, n_an, Nat.add_sub_cancel, nI_add, pk_mul, n_sub, n_ixT, n_cl, n_leT, n_leF, n_ltT, n_ltF, n_eqT, n_eqF, Nat.reduceAdd, Nat.reduceMul, Nat.reduceSub, Nat.reduceEqDiff, Nat.reduceLT, Nat.reduceLeDiff, Nat.mul_one, Nat.one_mul, Nat.add_zero, Nat.zero_add, n3, n6, n7, n8, n9, n10, n11, n13, hr16, aW_i, n_shl, n_or, c, e]
    refine hQ _ (hf _ _) ?_
    have := hs2.w9 (v := nI (g 5)) (by rw [e3, e1]; exact h3)
    unfold sAsk
    rw [if_neg e]
    exact this
end
