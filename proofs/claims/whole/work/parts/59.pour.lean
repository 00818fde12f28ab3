/-! sheets: pour, reads: both sides -/
def cl1 (v : Int32) : Nat := (if v < nI 1 then nI 1 else if nI 99 < v then nI 99 else v).toNatClampNeg
theorem cl1_eq (v : Int32) : (if v < nI 1 then nI 1 else if nI 99 < v then nI 99 else v) = nI (cl1 v) ∧ 1 ≤ cl1 v ∧ cl1 v ≤ 99 := by
  unfold cl1
  by_cases h1 : v < nI 1
  · rw [if_pos h1]
    decide
  · rw [if_neg h1]
    by_cases h2 : nI 99 < v
    · rw [if_pos h2]
      decide
    · rw [if_neg h2]
      have h0 : ¬ v < 0 := fun q => h1 (Int32.lt_of_lt_of_le q (by decide))
      obtain ⟨j, hj, rfl⟩ := nI_of h0
      rw [n_lt (by omega) hj] at h2
      rw [n_lt hj (by omega)] at h1
      rw [n_cl hj]
      exact ⟨rfl, by omega, by omega⟩
def pO (pv : Nat → Int32) (m k : Nat) : Option Nat := if k < m ∧ ¬ pv k = -nI 1000000005 then some (cl1 (pv k)) else none
def sPr (p : Nat → Option Nat) (g : Nat → Nat) : Nat → (Nat → Nat)
  | 0 => g
  | k + 1 => match p k with
    | none => sPr p g k
    | some c => sWgh (sPr p g k) k c
def sPc (p : Nat → Option Nat) (g : Nat → Nat) : Nat → Nat
  | 0 => 0
  | k + 1 => match p k with
    | none => sPc p g k
    | some c => sPc p g k + if c = sW g k then 0 else 1
theorem sPr_o {p : Nat → Option Nat} {g : Nat → Nat} {i : Nat} : ∀ {k}, (i < 8 ∨ 8 + 2 * k ≤ i) → sPr p g k i = g i
  | 0, _ => rfl
  | k + 1, h => by
    unfold sPr
    rcases p k with _ | c
    · exact sPr_o (by omega)
    · dsimp only
      unfold sWgh
      rw [gu_n (by omega)]
      exact sPr_o (by omega)
theorem sPc_le {p : Nat → Option Nat} {g : Nat → Nat} : ∀ k, sPc p g k ≤ k
  | 0 => Nat.le_refl 0
  | k + 1 => by
    have ih := sPc_le (p := p) (g := g) k
    unfold sPc
    rcases p k with _ | c
    · dsimp only
      omega
    · dsimp only
      split <;> omega
theorem sPr_stop {p : Nat → Option Nat} {g : Nat → Nat} {m : Nat} (h : ∀ k, m ≤ k → p k = none) : ∀ j, sPr p g (m + j) = sPr p g m ∧ sPc p g (m + j) = sPc p g m
  | 0 => ⟨rfl, rfl⟩
  | j + 1 => by
    have ih := sPr_stop (g := g) h j
    have e1 : sPr p g (m + j + 1) = sPr p g (m + j) := by
      show (match p (m + j) with | none => _ | some c => _) = _
      rw [h (m + j) (by omega)]
    have e2 : sPc p g (m + j + 1) = sPc p g (m + j) := by
      show (match p (m + j) with | none => _ | some c => _) = _
      rw [h (m + j) (by omega)]
    rw [show m + (j + 1) = m + j + 1 by omega, e1, e2]
    exact ih
theorem gu_self {g : Nat → Nat} {k : Nat} : gu g k (g k) = g := by
  funext i
  by_cases e : i = k
  · rw [e, gu_e]
  · exact gu_n e
section
variable {d n : Nat} {sc : (Nat × Nat) × (Nat → Int32)} {S : Nat → Nat × Nat} {I J K : Nat → Nat → Int32} {R : Nat → Nat → Option Nat} {z : Nat × Nat} {x y : Int32} {Q : Option Value → HS → Prop}
theorem Sp.fr {a b m r : Nat} (h : Sp S I R a b m) (ha : r + 10 < a) (hb : r + 10 < b) (hJ : Fr r I J) : Sp S J R a b m := by
  obtain ⟨h1, h2, h3, h4, h5⟩ := h
  exact ⟨h1, h2, h3, (by rw [hJ a (by omega)]; exact h4), h5⟩
theorem l110 {r a b m : Nat} {pv : Nat → Int32} {l1 : Value} {g : Nat → Nat} (hd : Hd S R) (hR : R 16 0 = some r) (ha : r + 10 < a) (hb : r + 10 < b) (sp : Sp S I R a b m) (hpv : ∀ k, k < 24 → I b k = pv k) (hg : g 1 ≤ 12) (hQ : ∀ J, Fr r I J → Cs S J R r (sPr (pO pv m) g (g 1)) → Q (some (.int (nI (sPc (pO pv m) g (g 1))))) (S, J, R, z)) : ∀ (j k : Nat) (J : Nat → Nat → Int32) (v5 : Value), k + j = g 1 → Fr r I J → Cs S J R r (sPr (pO pv m) g k) → RB (d + 5) 110 32 [.ref 16, l1, .ref a, .int (nI (sPc (pO pv m) g k)), .int (nI k), v5] [] (S, J, R, z) Q
  | 0, k, J, v5, h, hJ, hs => by
    obtain rfl : k = g 1 := by omega
    have e1 : sPr (pO pv m) g (g 1) 1 = g 1 := sPr_o (by omega)
    obtain ⟨Hd_s16, Hd_s52, Hd_s53, Hd_s54, Hd_s55, Hd_s56, Hd_s57, Hd_s50, Hd_s51, Hd_s0, Hd_r16_0, Hd_r16_1, Hd_r16_2, Hd_r16_3, Hd_r16_4, Hd_r16_5, Hd_r16_6, Hd_r16_7, Hd_r54_0, Hd_r54_6, Hd_r50_0⟩ := id hd; clear Hd_r16_0; have Hd_r16_0 := hR
    obtain ⟨hr, ⟨Sd_sr, Sd_s_r___1_, Sd_s_r___2_, Sd_s_r___3_, Sd_s_r___4_, Sd_s_r___5_, Sd_s_r___6_, Sd_s_r___7_, Sd_s_r___8_, Sd_s_r___9_, Sd_s_r___10_, Sd_rr_0, Sd_rr_1, Sd_rr_2, Sd_rr_4, Sd_rr_5, Sd_rr_12, Sd_rr_14, Sd_rr_15, Sd_rr_16, Sd_rr_17⟩, ok, ⟨n3, n6, n7, n8, n9, n10, n11, n13⟩, ⟨a1, a2, a3, a4, a5, a7⟩, ct⟩ := id hs
    rw [e1] at n3
    rw [w110_32]
    simp (disch := omega) only [w110_0, w110_1, w110_4, w110_7, w110_9, w110_10, w110_11, w110_14, w110_15, w110_16, w110_16N, w110_17, w110_17N, w110_18, w110_21, w110_24, w110_26, w110_27, w110_28, w110_29, w110_30, w110_34, w110_35, w110_38, w110_41, w110_44, w110_44N, w110_45, w110_47, w110_50, w110_53, w110_53N, w110_54, w110_57, w110_59, w110_60, w110_61, w110_63, w110_66, w110_68, w110_69, w110_71, w110_72, w110_75, w110_78, w110_80, w110_81, w110_84, w110_85, w110_88, w110_89, w110_90, w110_91, w110_92, w110_95, w110_98, w110_100, w110_102, w110_103, w110_106, w110_109, w110_110, Hd_s16, Hd_s52, Hd_s53, Hd_s54, Hd_s55, Hd_s56, Hd_s57, Hd_s50, Hd_s51, Hd_s0, Hd_r16_0, Hd_r16_1, Hd_r16_2, Hd_r16_3, Hd_r16_4, Hd_r16_5, Hd_r16_6, Hd_r16_7, Hd_r54_0, Hd_r54_6, Hd_r50_0, Sd_sr, Sd_s_r___1_, Sd_s_r___2_, Sd_s_r___3_, Sd_s_r___4_, Sd_s_r___5_, Sd_s_r___6_, Sd_s_r___7_, Sd_s_r___8_, Sd_s_r___9_, Sd_s_r___10_, Sd_rr_0, Sd_rr_1, Sd_rr_2, Sd_rr_4, Sd_rr_5, Sd_rr_12, Sd_rr_14, Sd_rr_15, Sd_rr_16, Sd_rr_17, n3, n6, n7, n8, n9, n10, n11, n13, aPush_s, aPush_n, vrf_s, vrf_n, true_and, and_true, false_and, and_false, true_imp_iff, false_imp_iff, not_true_eq_false, not_false_eq_true, eq_self, true_or, or_true, and_self, if_true, if_false, n_lit, n_of, n_an, Nat.add_sub_cancel, nI_add, pk_mul, n_sub, n_ixT, n_cl, n_leT, n_leF, n_ltT, n_ltF, n_eqT, n_eqF, Nat.reduceAdd, Nat.reduceMul, Nat.reduceSub, Nat.reduceEqDiff, Nat.reduceLT, Nat.reduceLeDiff, Nat.mul_one, Nat.one_mul, Nat.add_zero, Nat.zero_add, le_T, b2n_t, b2n_f, nz0, nz1]
    exact hQ J hJ hs
  | j + 1, k, J, v5, h, hJ, hs => by
    have ih := fun J v5 => l110 (l1 := l1) hd hR ha hb sp hpv hg hQ j (k + 1) J v5 (by omega)
    have hk : k < g 1 := by omega
    have e1 : sPr (pO pv m) g k 1 = g 1 := sPr_o (by omega)
    have eW : sW (sPr (pO pv m) g k) k = sW g k := sPr_o (by omega)
    have spJ := sp.fr ha hb hJ
    obtain ⟨s2, s3, s4, s5, s6, -, -, -⟩ := id spJ
    have hpk : J b k = pv k := by rw [hJ b (by omega)]; exact hpv k (by omega)
    have hcl := cl1_eq (pv k)
    have hle := sPc_le (p := pO pv m) (g := g) k
    obtain ⟨Hd_s16, Hd_s52, Hd_s53, Hd_s54, Hd_s55, Hd_s56, Hd_s57, Hd_s50, Hd_s51, Hd_s0, Hd_r16_0, Hd_r16_1, Hd_r16_2, Hd_r16_3, Hd_r16_4, Hd_r16_5, Hd_r16_6, Hd_r16_7, Hd_r54_0, Hd_r54_6, Hd_r50_0⟩ := id hd; clear Hd_r16_0; have Hd_r16_0 := hR
    obtain ⟨hr, ⟨Sd_sr, Sd_s_r___1_, Sd_s_r___2_, Sd_s_r___3_, Sd_s_r___4_, Sd_s_r___5_, Sd_s_r___6_, Sd_s_r___7_, Sd_s_r___8_, Sd_s_r___9_, Sd_s_r___10_, Sd_rr_0, Sd_rr_1, Sd_rr_2, Sd_rr_4, Sd_rr_5, Sd_rr_12, Sd_rr_14, Sd_rr_15, Sd_rr_16, Sd_rr_17⟩, ok, ⟨n3, n6, n7, n8, n9, n10, n11, n13⟩, ⟨a1, a2, a3, a4, a5, a7⟩, ct⟩ := id hs
    have b2 := a2 k (by rw [e1]; exact hk)
    have hw := sW_le ok (w := k) (by rw [e1]; exact hk)
    rw [eW] at b2 hw
    rw [e1] at n3
    rw [w110_32]
    by_cases e : k < m ∧ ¬ pv k = -nI 1000000005
    · have ep : pO pv m k = some (cl1 (pv k)) := if_pos e
      have er : sPr (pO pv m) g (k + 1) = sWgh (sPr (pO pv m) g k) k (cl1 (pv k)) := by
        show (match pO pv m k with | none => _ | some c => _) = _
        rw [ep]
      have ec : sPc (pO pv m) g (k + 1) = sPc (pO pv m) g k + if cl1 (pv k) = sW g k then 0 else 1 := by
        show (match pO pv m k with | none => _ | some c => _) = _
        rw [ep]
      have hb4 : (decide (k < m) && !decide (pv k = -nI 1000000005)) = true := by
        rw [decide_eq_true e.1, decide_eq_false e.2]
        rfl
      have hJ2 : Fr r I (aW J (r + 2) k (nI (cl1 (pv k)))) := fun p hp => (aW_o (by omega)).trans (hJ p hp)
      have hs2 := hs.wgh (w := k) (v := cl1 (pv k)) (by rw [e1]; exact hk) hcl.2
      have hp2 : J b k = pv k := hpk
      rw [← er] at hs2
      rw [ec] at ih
      have h19 : nI 1 ≤ nI 99 := by decide
      by_cases f : cl1 (pv k) = sW g k
      · rw [if_pos f] at ih
        simp (disch := omega) only [w110_0, w110_1, w110_4, w110_7, w110_9, w110_10, w110_11, w110_14, w110_15, w110_16, w110_16N, w110_17, w110_17N, w110_18, w110_21, w110_24, w110_26, w110_27, w110_28, w110_29, w110_30, w110_34, w110_35, w110_38, w110_41, w110_44, w110_44N, w110_45, w110_47, w110_50, w110_53, w110_53N, w110_54, w110_57, w110_59, w110_60, w110_61, w110_63, w110_66, w110_68, w110_69, w110_71, w110_72, w110_75, w110_78, w110_80, w110_81, w110_84, w110_85, w110_88, w110_89, w110_90, w110_91, w110_92, w110_95, w110_98, w110_100, w110_102, w110_103, w110_106, w110_109, w110_110, Hd_s16, Hd_s52, Hd_s53, Hd_s54, Hd_s55, Hd_s56, Hd_s57, Hd_s50, Hd_s51, Hd_s0, Hd_r16_0, Hd_r16_1, Hd_r16_2, Hd_r16_3, Hd_r16_4, Hd_r16_5, Hd_r16_6, Hd_r16_7, Hd_r54_0, Hd_r54_6, Hd_r50_0, Sd_sr, Sd_s_r___1_, Sd_s_r___2_, Sd_s_r___3_, Sd_s_r___4_, Sd_s_r___5_, Sd_s_r___6_, Sd_s_r___7_, Sd_s_r___8_, Sd_s_r___9_, Sd_s_r___10_, Sd_rr_0, Sd_rr_1, Sd_rr_2, Sd_rr_4, Sd_rr_5, Sd_rr_12, Sd_rr_14, Sd_rr_15, Sd_rr_16, Sd_rr_17, n3, n6, n7, n8, n9, n10, n11, n13, aPush_s, aPush_n, vrf_s, vrf_n, true_and, and_true, false_and, and_false, true_imp_iff, false_imp_iff, not_true_eq_false, not_false_eq_true, eq_self, true_or, or_true, and_self, if_true, if_false, n_lit, n_of, n_an, Nat.add_sub_cancel, nI_add, pk_mul, n_sub, n_ixT, n_cl, n_leT, n_leF, n_ltT, n_ltF, n_eqT, n_eqF, Nat.reduceAdd, Nat.reduceMul, Nat.reduceSub, Nat.reduceEqDiff, Nat.reduceLT, Nat.reduceLeDiff, Nat.mul_one, Nat.one_mul, Nat.add_zero, Nat.zero_add, le_T, b2n_t, b2n_f, nz0, nz1, c4 spJ (show k < 2147483648 by omega), hb4, s2, s3, s4, hp2, c130 h19, hcl.1, b2]
        exact ih _ _ hJ2 hs2
      · rw [if_neg f] at ih
        simp (disch := omega) only [w110_0, w110_1, w110_4, w110_7, w110_9, w110_10, w110_11, w110_14, w110_15, w110_16, w110_16N, w110_17, w110_17N, w110_18, w110_21, w110_24, w110_26, w110_27, w110_28, w110_29, w110_30, w110_34, w110_35, w110_38, w110_41, w110_44, w110_44N, w110_45, w110_47, w110_50, w110_53, w110_53N, w110_54, w110_57, w110_59, w110_60, w110_61, w110_63, w110_66, w110_68, w110_69, w110_71, w110_72, w110_75, w110_78, w110_80, w110_81, w110_84, w110_85, w110_88, w110_89, w110_90, w110_91, w110_92, w110_95, w110_98, w110_100, w110_102, w110_103, w110_106, w110_109, w110_110, Hd_s16, Hd_s52, Hd_s53, Hd_s54, Hd_s55, Hd_s56, Hd_s57, Hd_s50, Hd_s51, Hd_s0, Hd_r16_0, Hd_r16_1, Hd_r16_2, Hd_r16_3, Hd_r16_4, Hd_r16_5, Hd_r16_6, Hd_r16_7, Hd_r54_0, Hd_r54_6, Hd_r50_0, Sd_sr, Sd_s_r___1_, Sd_s_r___2_, Sd_s_r___3_, Sd_s_r___4_, Sd_s_r___5_, Sd_s_r___6_, Sd_s_r___7_, Sd_s_r___8_, Sd_s_r___9_, Sd_s_r___10_, Sd_rr_0, Sd_rr_1, Sd_rr_2, Sd_rr_4, Sd_rr_5, Sd_rr_12, Sd_rr_14, Sd_rr_15, Sd_rr_16, Sd_rr_17, n3, n6, n7, n8, n9, n10, n11, n13, aPush_s, aPush_n, vrf_s, vrf_n, true_and, and_true, false_and, and_false, true_imp_iff, false_imp_iff, not_true_eq_false, not_false_eq_true, eq_self, true_or, or_true, and_self, if_true, if_false, n_lit, n_of, n_an, Nat.add_sub_cancel, nI_add, pk_mul, n_sub, n_ixT, n_cl, n_leT, n_leF, n_ltT, n_ltF, n_eqT, n_eqF, Nat.reduceAdd, Nat.reduceMul, Nat.reduceSub, Nat.reduceEqDiff, Nat.reduceLT, Nat.reduceLeDiff, Nat.mul_one, Nat.one_mul, Nat.add_zero, Nat.zero_add, le_T, b2n_t, b2n_f, nz0, nz1, c4 spJ (show k < 2147483648 by omega), hb4, s2, s3, s4, hp2, c130 h19, hcl.1, b2]
        exact ih _ _ hJ2 hs2
    · have ep : pO pv m k = none := if_neg e
      have er : sPr (pO pv m) g (k + 1) = sPr (pO pv m) g k := by
        show (match pO pv m k with | none => _ | some c => _) = _
        rw [ep]
      have ec : sPc (pO pv m) g (k + 1) = sPc (pO pv m) g k := by
        show (match pO pv m k with | none => _ | some c => _) = _
        rw [ep]
      have hb4 : (decide (k < m) && !decide (pv k = -nI 1000000005)) = false := by
        by_cases e2 : k < m
        · by_cases e3 : pv k = -nI 1000000005
          · rw [decide_eq_true e3, Bool.not_true, Bool.and_false]
          · exact absurd ⟨e2, e3⟩ e
        · rw [decide_eq_false e2, Bool.false_and]
      rw [ec, er] at ih
      simp (disch := omega) only [w110_0, w110_1, w110_4, w110_7, w110_9, w110_10, w110_11, w110_14, w110_15, w110_16, w110_16N, w110_17, w110_17N, w110_18, w110_21, w110_24, w110_26, w110_27, w110_28, w110_29, w110_30, w110_34, w110_35, w110_38, w110_41, w110_44, w110_44N, w110_45, w110_47, w110_50, w110_53, w110_53N, w110_54, w110_57, w110_59, w110_60, w110_61, w110_63, w110_66, w110_68, w110_69, w110_71, w110_72, w110_75, w110_78, w110_80, w110_81, w110_84, w110_85, w110_88, w110_89, w110_90, w110_91, w110_92, w110_95, w110_98, w110_100, w110_102, w110_103, w110_106, w110_109, w110_110, Hd_s16, Hd_s52, Hd_s53, Hd_s54, Hd_s55, Hd_s56, Hd_s57, Hd_s50, Hd_s51, Hd_s0, Hd_r16_0, Hd_r16_1, Hd_r16_2, Hd_r16_3, Hd_r16_4, Hd_r16_5, Hd_r16_6, Hd_r16_7, Hd_r54_0, Hd_r54_6, Hd_r50_0, Sd_sr, Sd_s_r___1_, Sd_s_r___2_, Sd_s_r___3_, Sd_s_r___4_, Sd_s_r___5_, Sd_s_r___6_, Sd_s_r___7_, Sd_s_r___8_, Sd_s_r___9_, Sd_s_r___10_, Sd_rr_0, Sd_rr_1, Sd_rr_2, Sd_rr_4, Sd_rr_5, Sd_rr_12, Sd_rr_14, Sd_rr_15, Sd_rr_16, Sd_rr_17, n3, n6, n7, n8, n9, n10, n11, n13, aPush_s, aPush_n, vrf_s, vrf_n, true_and, and_true, false_and, and_false, true_imp_iff, false_imp_iff, not_true_eq_false, not_false_eq_true, eq_self, true_or, or_true, and_self, if_true, if_false, n_lit, n_of, n_an, Nat.add_sub_cancel, nI_add, pk_mul, n_sub, n_ixT, n_cl, n_leT, n_leF, n_ltT, n_ltF, n_eqT, n_eqF, Nat.reduceAdd, Nat.reduceMul, Nat.reduceSub, Nat.reduceEqDiff, Nat.reduceLT, Nat.reduceLeDiff, Nat.mul_one, Nat.one_mul, Nat.add_zero, Nat.zero_add, le_T, b2n_t, b2n_f, nz0, nz1, c4 spJ (show k < 2147483648 by omega), hb4, s2, hpk]
      exact ih J _ hJ hs
theorem l226 {i m M : Nat} {pv : Nat → Int32} {g : Nat → Nat} (hi : i < 4) (hM : M = min m (g 1)) (hg : g 1 ≤ 12) (hpv : ∀ k, k < 24 → I 96 (24 * i + k) = pv k) (h95 : I 95 i = nI m) (hm24 : m ≤ 24) (hQ : ∀ J, Sg I (sPr (pO pv m) g M) J → Q (some (.int (nI (sPc (pO pv m) g M)))) (S, J, R, z)) : ∀ (j k : Nat) (J : Nat → Nat → Int32) (v4 v5 : Value), k + j = M → Mr S J R → Sg I (sPr (pO pv m) g k) J → RB (d + 5) 226 26 [.ref 81, .int (nI i), .int (nI (sPc (pO pv m) g k)), .int (nI k), v4, v5] [] (S, J, R, z) Q
  | 0, k, J, v4, v5, h, hm, hJ => by
    obtain rfl : k = M := by omega
    have e1 : sPr (pO pv m) g k 1 = g 1 := sPr_o (by omega)
    have j95 : J 95 i = nI m := by rw [hJ.2 95 (by decide) (by decide) (by decide)]; exact h95
    have gJ : G J 1 = g 1 := by rw [hJ.1]; exact e1
    obtain ⟨⟨Md_s1, Md_s81, Md_s82, Md_s83, Md_s84, Md_s85, Md_s86, Md_s87, Md_s88, Md_s89, Md_s90, Md_s91, Md_s92, Md_s93, Md_s94, Md_s95, Md_s96, Md_s97, Md_s98, Md_s99, Md_s100, Md_s101, Md_s102, Md_r81_0, Md_r81_1, Md_r81_2, Md_r81_4, Md_r81_5, Md_r81_13, Md_r81_14, Md_r81_15, Md_r81_18, Md_r81_20, Md_r81_21, Md_r81_22, Md_r81_23, Md_r81_24, Md_r81_25, Md_r81_26, Md_r81_27, Md_r81_28, Md_r81_29, Md_r81_30, Md_r81_31⟩, hc, ok⟩ := id hm
    rw [w226_26]
    by_cases e : k = m
    · subst e
      simp (disch := omega) only [w226_0, w226_1, w226_4, w226_7, w226_9, w226_10, w226_11, w226_14, w226_15, w226_16, w226_19, w226_21, w226_22, w226_23, w226_24, w226_25, w226_27, w226_28, w226_31, w226_32, w226_33, w226_36, w226_37, w226_38, w226_41, w226_42, w226_43, w226_46, w226_47, w226_50, w226_52, w226_53, w226_54, w226_55, w226_56, w226_57, w226_59, w226_61, w226_63, w226_66, w226_67, w226_68, w226_71, w226_74, w226_76, w226_77, w226_79, w226_82, w226_84, w226_85, w226_86, w226_88, w226_89, w226_90, w226_91, w226_92, w226_93, w226_94, w226_96, w226_99, w226_101, w226_104, w226_105, w226_108, w226_109, w226_110, w226_111, w226_114, w226_117, w226_118, Md_s1, Md_s81, Md_s82, Md_s83, Md_s84, Md_s85, Md_s86, Md_s87, Md_s88, Md_s89, Md_s90, Md_s91, Md_s92, Md_s93, Md_s94, Md_s95, Md_s96, Md_s97, Md_s98, Md_s99, Md_s100, Md_s101, Md_s102, Md_r81_0, Md_r81_1, Md_r81_2, Md_r81_4, Md_r81_5, Md_r81_13, Md_r81_14, Md_r81_15, Md_r81_18, Md_r81_20, Md_r81_21, Md_r81_22, Md_r81_23, Md_r81_24, Md_r81_25, Md_r81_26, Md_r81_27, Md_r81_28, Md_r81_29, Md_r81_30, Md_r81_31, aPush_s, aPush_n, vrf_s, vrf_n, true_and, and_true, false_and, and_false, true_imp_iff, false_imp_iff, not_true_eq_false, not_false_eq_true, eq_self, true_or, or_true, and_self, if_true, if_false, n_lit, n_of, n_an, Nat.add_sub_cancel, nI_add, pk_mul, n_sub, n_ixT, n_cl, n_leT, n_leF, n_ltT, n_ltF, n_eqT, n_eqF, Nat.reduceAdd, Nat.reduceMul, Nat.reduceSub, Nat.reduceEqDiff, Nat.reduceLT, Nat.reduceLeDiff, Nat.mul_one, Nat.one_mul, Nat.add_zero, Nat.zero_add, le_T, c135b, bw_0, b2n_t, b2n_f, nz0, nz1, j95]
      exact hQ J hJ
    · simp (disch := omega) only [w226_0, w226_1, w226_4, w226_7, w226_9, w226_10, w226_11, w226_14, w226_15, w226_16, w226_19, w226_21, w226_22, w226_23, w226_24, w226_25, w226_27, w226_28, w226_31, w226_32, w226_33, w226_36, w226_37, w226_38, w226_41, w226_42, w226_43, w226_46, w226_47, w226_50, w226_52, w226_53, w226_54, w226_55, w226_56, w226_57, w226_59, w226_61, w226_63, w226_66, w226_67, w226_68, w226_71, w226_74, w226_76, w226_77, w226_79, w226_82, w226_84, w226_85, w226_86, w226_88, w226_89, w226_90, w226_91, w226_92, w226_93, w226_94, w226_96, w226_99, w226_101, w226_104, w226_105, w226_108, w226_109, w226_110, w226_111, w226_114, w226_117, w226_118, Md_s1, Md_s81, Md_s82, Md_s83, Md_s84, Md_s85, Md_s86, Md_s87, Md_s88, Md_s89, Md_s90, Md_s91, Md_s92, Md_s93, Md_s94, Md_s95, Md_s96, Md_s97, Md_s98, Md_s99, Md_s100, Md_s101, Md_s102, Md_r81_0, Md_r81_1, Md_r81_2, Md_r81_4, Md_r81_5, Md_r81_13, Md_r81_14, Md_r81_15, Md_r81_18, Md_r81_20, Md_r81_21, Md_r81_22, Md_r81_23, Md_r81_24, Md_r81_25, Md_r81_26, Md_r81_27, Md_r81_28, Md_r81_29, Md_r81_30, Md_r81_31, aPush_s, aPush_n, vrf_s, vrf_n, true_and, and_true, false_and, and_false, true_imp_iff, false_imp_iff, not_true_eq_false, not_false_eq_true, eq_self, true_or, or_true, and_self, if_true, if_false, n_lit, n_of, n_an, Nat.add_sub_cancel, nI_add, pk_mul, n_sub, n_ixT, n_cl, n_leT, n_leF, n_ltT, n_ltF, n_eqT, n_eqF, Nat.reduceAdd, Nat.reduceMul, Nat.reduceSub, Nat.reduceEqDiff, Nat.reduceLT, Nat.reduceLeDiff, Nat.mul_one, Nat.one_mul, Nat.add_zero, Nat.zero_add, le_T, c135b, bw_0, b2n_t, b2n_f, nz0, nz1, j95, G_eq J, gJ]
      exact hQ J hJ
  | j + 1, k, J, v4, v5, h, hm, hJ => by
    have ih := fun J v4 v5 => l226 hi hM hg hpv h95 hm24 hQ j (k + 1) J v4 v5 (by omega)
    have hk : k < g 1 := by omega
    have hkm : k < m := by omega
    have e1 : sPr (pO pv m) g k 1 = g 1 := sPr_o (by omega)
    have j95 : J 95 i = nI m := by rw [hJ.2 95 (by decide) (by decide) (by decide)]; exact h95
    have j96 : J 96 (24 * i + k) = pv k := by rw [hJ.2 96 (by decide) (by decide) (by decide)]; exact hpv k (by omega)
    have gJ : G J 1 = g 1 := by rw [hJ.1]; exact e1
    have gW : G J (8 + 2 * k + 1) = sW g k := by rw [hJ.1]; exact sPr_o (by omega)
    have eW : sW (G J) k = sW g k := gW
    have hcl := cl1_eq (pv k)
    have hle := sPc_le (p := pO pv m) (g := g) k
    obtain ⟨⟨Md_s1, Md_s81, Md_s82, Md_s83, Md_s84, Md_s85, Md_s86, Md_s87, Md_s88, Md_s89, Md_s90, Md_s91, Md_s92, Md_s93, Md_s94, Md_s95, Md_s96, Md_s97, Md_s98, Md_s99, Md_s100, Md_s101, Md_s102, Md_r81_0, Md_r81_1, Md_r81_2, Md_r81_4, Md_r81_5, Md_r81_13, Md_r81_14, Md_r81_15, Md_r81_18, Md_r81_20, Md_r81_21, Md_r81_22, Md_r81_23, Md_r81_24, Md_r81_25, Md_r81_26, Md_r81_27, Md_r81_28, Md_r81_29, Md_r81_30, Md_r81_31⟩, hc, ok⟩ := id hm
    have hw := sW_le ok (w := k) (by rw [gJ]; exact hk)
    rw [eW] at hw
    have k12 : k < 12 := by omega
    rw [w226_26]
    by_cases e : pv k = -nI 1000000005
    · have ep : pO pv m k = none := if_neg (fun q => q.2 e)
      have er : sPr (pO pv m) g (k + 1) = sPr (pO pv m) g k := by
        show (match pO pv m k with | none => _ | some c => _) = _
        rw [ep]
      have ec : sPc (pO pv m) g (k + 1) = sPc (pO pv m) g k := by
        show (match pO pv m k with | none => _ | some c => _) = _
        rw [ep]
      rw [ec, er] at ih
      simp (disch := omega) only [w226_0, w226_1, w226_4, w226_7, w226_9, w226_10, w226_11, w226_14, w226_15, w226_16, w226_19, w226_21, w226_22, w226_23, w226_24, w226_25, w226_27, w226_28, w226_31, w226_32, w226_33, w226_36, w226_37, w226_38, w226_41, w226_42, w226_43, w226_46, w226_47, w226_50, w226_52, w226_53, w226_54, w226_55, w226_56, w226_57, w226_59, w226_61, w226_63, w226_66, w226_67, w226_68, w226_71, w226_74, w226_76, w226_77, w226_79, w226_82, w226_84, w226_85, w226_86, w226_88, w226_89, w226_90, w226_91, w226_92, w226_93, w226_94, w226_96, w226_99, w226_101, w226_104, w226_105, w226_108, w226_109, w226_110, w226_111, w226_114, w226_117, w226_118, Md_s1, Md_s81, Md_s82, Md_s83, Md_s84, Md_s85, Md_s86, Md_s87, Md_s88, Md_s89, Md_s90, Md_s91, Md_s92, Md_s93, Md_s94, Md_s95, Md_s96, Md_s97, Md_s98, Md_s99, Md_s100, Md_s101, Md_s102, Md_r81_0, Md_r81_1, Md_r81_2, Md_r81_4, Md_r81_5, Md_r81_13, Md_r81_14, Md_r81_15, Md_r81_18, Md_r81_20, Md_r81_21, Md_r81_22, Md_r81_23, Md_r81_24, Md_r81_25, Md_r81_26, Md_r81_27, Md_r81_28, Md_r81_29, Md_r81_30, Md_r81_31, aPush_s, aPush_n, vrf_s, vrf_n, true_and, and_true, false_and, and_false, true_imp_iff, false_imp_iff, not_true_eq_false, not_false_eq_true, eq_self, true_or, or_true, and_self, if_true, if_false, n_lit, n_of, n_an, Nat.add_sub_cancel, nI_add, pk_mul, n_sub, n_ixT, n_cl, n_leT, n_leF, n_ltT, n_ltF, n_eqT, n_eqF, Nat.reduceAdd, Nat.reduceMul, Nat.reduceSub, Nat.reduceEqDiff, Nat.reduceLT, Nat.reduceLeDiff, Nat.mul_one, Nat.one_mul, Nat.add_zero, Nat.zero_add, le_T, c135b, bw_0, b2n_t, b2n_f, nz0, nz1, j95, G_eq J, gJ, j96, e, c145 hm k12, eW]
      refine c142 hm (by omega) ?_
      intro K hK
      rw [uN_nI (by omega), ← gW, gu_self] at hK
      rw [gW]
      simp (disch := omega) only [w226_0, w226_1, w226_4, w226_7, w226_9, w226_10, w226_11, w226_14, w226_15, w226_16, w226_19, w226_21, w226_22, w226_23, w226_24, w226_25, w226_27, w226_28, w226_31, w226_32, w226_33, w226_36, w226_37, w226_38, w226_41, w226_42, w226_43, w226_46, w226_47, w226_50, w226_52, w226_53, w226_54, w226_55, w226_56, w226_57, w226_59, w226_61, w226_63, w226_66, w226_67, w226_68, w226_71, w226_74, w226_76, w226_77, w226_79, w226_82, w226_84, w226_85, w226_86, w226_88, w226_89, w226_90, w226_91, w226_92, w226_93, w226_94, w226_96, w226_99, w226_101, w226_104, w226_105, w226_108, w226_109, w226_110, w226_111, w226_114, w226_117, w226_118, Md_s1, Md_s81, Md_s82, Md_s83, Md_s84, Md_s85, Md_s86, Md_s87, Md_s88, Md_s89, Md_s90, Md_s91, Md_s92, Md_s93, Md_s94, Md_s95, Md_s96, Md_s97, Md_s98, Md_s99, Md_s100, Md_s101, Md_s102, Md_r81_0, Md_r81_1, Md_r81_2, Md_r81_4, Md_r81_5, Md_r81_13, Md_r81_14, Md_r81_15, Md_r81_18, Md_r81_20, Md_r81_21, Md_r81_22, Md_r81_23, Md_r81_24, Md_r81_25, Md_r81_26, Md_r81_27, Md_r81_28, Md_r81_29, Md_r81_30, Md_r81_31, aPush_s, aPush_n, vrf_s, vrf_n, true_and, and_true, false_and, and_false, true_imp_iff, false_imp_iff, not_true_eq_false, not_false_eq_true, eq_self, true_or, or_true, and_self, if_true, if_false, n_lit, n_of, n_an, Nat.add_sub_cancel, nI_add, pk_mul, n_sub, n_ixT, n_cl, n_leT, n_leF, n_ltT, n_ltF, n_eqT, n_eqF, Nat.reduceAdd, Nat.reduceMul, Nat.reduceSub, Nat.reduceEqDiff, Nat.reduceLT, Nat.reduceLeDiff, Nat.mul_one, Nat.one_mul, Nat.add_zero, Nat.zero_add, le_T, c135b, bw_0, b2n_t, b2n_f, nz0, nz1]
      refine ih K _ _ (hm.sg hK ok) ?_
      rw [hJ.1] at hK
      exact hJ.trans hK
    · have ep : pO pv m k = some (cl1 (pv k)) := if_pos ⟨hkm, e⟩
      have er : sPr (pO pv m) g (k + 1) = sWgh (sPr (pO pv m) g k) k (cl1 (pv k)) := by
        show (match pO pv m k with | none => _ | some c => _) = _
        rw [ep]
      have ec : sPc (pO pv m) g (k + 1) = sPc (pO pv m) g k + if cl1 (pv k) = sW g k then 0 else 1 := by
        show (match pO pv m k with | none => _ | some c => _) = _
        rw [ep]
      rw [ec, er] at ih
      simp (disch := omega) only [w226_0, w226_1, w226_4, w226_7, w226_9, w226_10, w226_11, w226_14, w226_15, w226_16, w226_19, w226_21, w226_22, w226_23, w226_24, w226_25, w226_27, w226_28, w226_31, w226_32, w226_33, w226_36, w226_37, w226_38, w226_41, w226_42, w226_43, w226_46, w226_47, w226_50, w226_52, w226_53, w226_54, w226_55, w226_56, w226_57, w226_59, w226_61, w226_63, w226_66, w226_67, w226_68, w226_71, w226_74, w226_76, w226_77, w226_79, w226_82, w226_84, w226_85, w226_86, w226_88, w226_89, w226_90, w226_91, w226_92, w226_93, w226_94, w226_96, w226_99, w226_101, w226_104, w226_105, w226_108, w226_109, w226_110, w226_111, w226_114, w226_117, w226_118, Md_s1, Md_s81, Md_s82, Md_s83, Md_s84, Md_s85, Md_s86, Md_s87, Md_s88, Md_s89, Md_s90, Md_s91, Md_s92, Md_s93, Md_s94, Md_s95, Md_s96, Md_s97, Md_s98, Md_s99, Md_s100, Md_s101, Md_s102, Md_r81_0, Md_r81_1, Md_r81_2, Md_r81_4, Md_r81_5, Md_r81_13, Md_r81_14, Md_r81_15, Md_r81_18, Md_r81_20, Md_r81_21, Md_r81_22, Md_r81_23, Md_r81_24, Md_r81_25, Md_r81_26, Md_r81_27, Md_r81_28, Md_r81_29, Md_r81_30, Md_r81_31, aPush_s, aPush_n, vrf_s, vrf_n, true_and, and_true, false_and, and_false, true_imp_iff, false_imp_iff, not_true_eq_false, not_false_eq_true, eq_self, true_or, or_true, and_self, if_true, if_false, n_lit, n_of, n_an, Nat.add_sub_cancel, nI_add, pk_mul, n_sub, n_ixT, n_cl, n_leT, n_leF, n_ltT, n_ltF, n_eqT, n_eqF, Nat.reduceAdd, Nat.reduceMul, Nat.reduceSub, Nat.reduceEqDiff, Nat.reduceLT, Nat.reduceLeDiff, Nat.mul_one, Nat.one_mul, Nat.add_zero, Nat.zero_add, le_T, c135b, bw_0, b2n_t, b2n_f, nz0, nz1, j95, G_eq J, gJ, j96, e, c136, hcl.1]
      refine c142 hm (by omega) ?_
      intro K hK
      rw [uN_nI (by omega)] at hK
      rw [gW]
      have okK : Ok (gu (G J) (8 + 2 * k + 1) (cl1 (pv k))) := ok.wgh (by rw [gJ]; exact hk) hcl.2
      have mK := hm.sg hK okK
      rw [hJ.1] at hK
      have hK2 := hJ.trans hK
      by_cases f : cl1 (pv k) = sW g k
      · rw [if_pos f] at ih
        simp (disch := omega) only [w226_0, w226_1, w226_4, w226_7, w226_9, w226_10, w226_11, w226_14, w226_15, w226_16, w226_19, w226_21, w226_22, w226_23, w226_24, w226_25, w226_27, w226_28, w226_31, w226_32, w226_33, w226_36, w226_37, w226_38, w226_41, w226_42, w226_43, w226_46, w226_47, w226_50, w226_52, w226_53, w226_54, w226_55, w226_56, w226_57, w226_59, w226_61, w226_63, w226_66, w226_67, w226_68, w226_71, w226_74, w226_76, w226_77, w226_79, w226_82, w226_84, w226_85, w226_86, w226_88, w226_89, w226_90, w226_91, w226_92, w226_93, w226_94, w226_96, w226_99, w226_101, w226_104, w226_105, w226_108, w226_109, w226_110, w226_111, w226_114, w226_117, w226_118, Md_s1, Md_s81, Md_s82, Md_s83, Md_s84, Md_s85, Md_s86, Md_s87, Md_s88, Md_s89, Md_s90, Md_s91, Md_s92, Md_s93, Md_s94, Md_s95, Md_s96, Md_s97, Md_s98, Md_s99, Md_s100, Md_s101, Md_s102, Md_r81_0, Md_r81_1, Md_r81_2, Md_r81_4, Md_r81_5, Md_r81_13, Md_r81_14, Md_r81_15, Md_r81_18, Md_r81_20, Md_r81_21, Md_r81_22, Md_r81_23, Md_r81_24, Md_r81_25, Md_r81_26, Md_r81_27, Md_r81_28, Md_r81_29, Md_r81_30, Md_r81_31, aPush_s, aPush_n, vrf_s, vrf_n, true_and, and_true, false_and, and_false, true_imp_iff, false_imp_iff, not_true_eq_false, not_false_eq_true, eq_self, true_or, or_true, and_self, if_true, if_false, n_lit, n_of, n_an, Nat.add_sub_cancel, nI_add, pk_mul, n_sub, n_ixT, n_cl, n_leT, n_leF, n_ltT, n_ltF, n_eqT, n_eqF, Nat.reduceAdd, Nat.reduceMul, Nat.reduceSub, Nat.reduceEqDiff, Nat.reduceLT, Nat.reduceLeDiff, Nat.mul_one, Nat.one_mul, Nat.add_zero, Nat.zero_add, le_T, c135b, bw_0, b2n_t, b2n_f, nz0, nz1]
        exact ih K _ _ mK hK2
      · rw [if_neg f] at ih
        simp (disch := omega) only [w226_0, w226_1, w226_4, w226_7, w226_9, w226_10, w226_11, w226_14, w226_15, w226_16, w226_19, w226_21, w226_22, w226_23, w226_24, w226_25, w226_27, w226_28, w226_31, w226_32, w226_33, w226_36, w226_37, w226_38, w226_41, w226_42, w226_43, w226_46, w226_47, w226_50, w226_52, w226_53, w226_54, w226_55, w226_56, w226_57, w226_59, w226_61, w226_63, w226_66, w226_67, w226_68, w226_71, w226_74, w226_76, w226_77, w226_79, w226_82, w226_84, w226_85, w226_86, w226_88, w226_89, w226_90, w226_91, w226_92, w226_93, w226_94, w226_96, w226_99, w226_101, w226_104, w226_105, w226_108, w226_109, w226_110, w226_111, w226_114, w226_117, w226_118, Md_s1, Md_s81, Md_s82, Md_s83, Md_s84, Md_s85, Md_s86, Md_s87, Md_s88, Md_s89, Md_s90, Md_s91, Md_s92, Md_s93, Md_s94, Md_s95, Md_s96, Md_s97, Md_s98, Md_s99, Md_s100, Md_s101, Md_s102, Md_r81_0, Md_r81_1, Md_r81_2, Md_r81_4, Md_r81_5, Md_r81_13, Md_r81_14, Md_r81_15, Md_r81_18, Md_r81_20, Md_r81_21, Md_r81_22, Md_r81_23, Md_r81_24, Md_r81_25, Md_r81_26, Md_r81_27, Md_r81_28, Md_r81_29, Md_r81_30, Md_r81_31, aPush_s, aPush_n, vrf_s, vrf_n, true_and, and_true, false_and, and_false, true_imp_iff, false_imp_iff, not_true_eq_false, not_false_eq_true, eq_self, true_or, or_true, and_self, if_true, if_false, n_lit, n_of, n_an, Nat.add_sub_cancel, nI_add, pk_mul, n_sub, n_ixT, n_cl, n_leT, n_leF, n_ltT, n_ltF, n_eqT, n_eqF, Nat.reduceAdd, Nat.reduceMul, Nat.reduceSub, Nat.reduceEqDiff, Nat.reduceLT, Nat.reduceLeDiff, Nat.mul_one, Nat.one_mul, Nat.add_zero, Nat.zero_add, le_T, c135b, bw_0, b2n_t, b2n_f, nz0, nz1]
        exact ih K _ _ mK hK2
theorem p110 (h : Inv sc n S I R z) : RM (d + 300) 110 [.ref 16, .int x] (S, I, R, z) (Px d 226 [.int x] sc n) := by
  obtain ⟨⟨Hd_s16, Hd_s52, Hd_s53, Hd_s54, Hd_s55, Hd_s56, Hd_s57, Hd_s50, Hd_s51, Hd_s0, Hd_r16_0, Hd_r16_1, Hd_r16_2, Hd_r16_3, Hd_r16_4, Hd_r16_5, Hd_r16_6, Hd_r16_7, Hd_r54_0, Hd_r54_6, Hd_r50_0⟩, hs⟩ := id h.hr; obtain ⟨r, er⟩ : ∃ r, r = 17 := ⟨_, rfl⟩; rw [← er] at hs Hd_r16_0; obtain ⟨hr, ⟨Sd_sr, Sd_s_r___1_, Sd_s_r___2_, Sd_s_r___3_, Sd_s_r___4_, Sd_s_r___5_, Sd_s_r___6_, Sd_s_r___7_, Sd_s_r___8_, Sd_s_r___9_, Sd_s_r___10_, Sd_rr_0, Sd_rr_1, Sd_rr_2, Sd_rr_4, Sd_rr_5, Sd_rr_12, Sd_rr_14, Sd_rr_15, Sd_rr_16, Sd_rr_17⟩, ok, ⟨n3, n6, n7, n8, n9, n10, n11, n13⟩, ⟨a1, a2, a3, a4, a5, a7⟩, ct⟩ := id hs; have hm := h.mr; obtain ⟨⟨Md_s1, Md_s81, Md_s82, Md_s83, Md_s84, Md_s85, Md_s86, Md_s87, Md_s88, Md_s89, Md_s90, Md_s91, Md_s92, Md_s93, Md_s94, Md_s95, Md_s96, Md_s97, Md_s98, Md_s99, Md_s100, Md_s101, Md_s102, Md_r81_0, Md_r81_1, Md_r81_2, Md_r81_4, Md_r81_5, Md_r81_13, Md_r81_14, Md_r81_15, Md_r81_18, Md_r81_20, Md_r81_21, Md_r81_22, Md_r81_23, Md_r81_24, Md_r81_25, Md_r81_26, Md_r81_27, Md_r81_28, Md_r81_29, Md_r81_30, Md_r81_31⟩, hc, okm⟩ := id hm
  have hd := h.hr.1
  have h1 := ok.1
  rcases q1 : inN x 4 with _ | _
  · simp (disch := omega) only [e110, w110_0, w110_1, w110_4, w110_7, w110_9, w110_10, w110_11, w110_14, w110_15, w110_16, w110_16N, w110_17, w110_17N, w110_18, w110_21, w110_24, w110_26, w110_27, w110_28, w110_29, w110_30, w110_34, w110_35, w110_38, w110_41, w110_44, w110_44N, w110_45, w110_47, w110_50, w110_53, w110_53N, w110_54, w110_57, w110_59, w110_60, w110_61, w110_63, w110_66, w110_68, w110_69, w110_71, w110_72, w110_75, w110_78, w110_80, w110_81, w110_84, w110_85, w110_88, w110_89, w110_90, w110_91, w110_92, w110_95, w110_98, w110_100, w110_102, w110_103, w110_106, w110_109, w110_110, Hd_s16, Hd_s52, Hd_s53, Hd_s54, Hd_s55, Hd_s56, Hd_s57, Hd_s50, Hd_s51, Hd_s0, Hd_r16_0, Hd_r16_1, Hd_r16_2, Hd_r16_3, Hd_r16_4, Hd_r16_5, Hd_r16_6, Hd_r16_7, Hd_r54_0, Hd_r54_6, Hd_r50_0, Sd_sr, Sd_s_r___1_, Sd_s_r___2_, Sd_s_r___3_, Sd_s_r___4_, Sd_s_r___5_, Sd_s_r___6_, Sd_s_r___7_, Sd_s_r___8_, Sd_s_r___9_, Sd_s_r___10_, Sd_rr_0, Sd_rr_1, Sd_rr_2, Sd_rr_4, Sd_rr_5, Sd_rr_12, Sd_rr_14, Sd_rr_15, Sd_rr_16, Sd_rr_17, n3, n6, n7, n8, n9, n10, n11, n13, aPush_s, aPush_n, vrf_s, vrf_n, true_and, and_true, false_and, and_false, true_imp_iff, false_imp_iff, not_true_eq_false, not_false_eq_true, eq_self, true_or, or_true, and_self, if_true, if_false, n_lit, n_of, n_an, Nat.add_sub_cancel, nI_add, pk_mul, n_sub, n_ixT, n_cl, n_leT, n_leF, n_ltT, n_ltF, n_eqT, n_eqF, Nat.reduceAdd, Nat.reduceMul, Nat.reduceSub, Nat.reduceEqDiff, Nat.reduceLT, Nat.reduceLeDiff, Nat.mul_one, Nat.one_mul, Nat.add_zero, Nat.zero_add, le_T, b2n_t, b2n_f, nz0, nz1, c127, q1]
    refine Px.mk h.1 ?_
    simp (disch := omega) only [e226, w226_0, w226_1, w226_4, w226_7, w226_9, w226_10, w226_11, w226_14, w226_15, w226_16, w226_19, w226_21, w226_22, w226_23, w226_24, w226_25, w226_27, w226_28, w226_31, w226_32, w226_33, w226_36, w226_37, w226_38, w226_41, w226_42, w226_43, w226_46, w226_47, w226_50, w226_52, w226_53, w226_54, w226_55, w226_56, w226_57, w226_59, w226_61, w226_63, w226_66, w226_67, w226_68, w226_71, w226_74, w226_76, w226_77, w226_79, w226_82, w226_84, w226_85, w226_86, w226_88, w226_89, w226_90, w226_91, w226_92, w226_93, w226_94, w226_96, w226_99, w226_101, w226_104, w226_105, w226_108, w226_109, w226_110, w226_111, w226_114, w226_117, w226_118, Md_s1, Md_s81, Md_s82, Md_s83, Md_s84, Md_s85, Md_s86, Md_s87, Md_s88, Md_s89, Md_s90, Md_s91, Md_s92, Md_s93, Md_s94, Md_s95, Md_s96, Md_s97, Md_s98, Md_s99, Md_s100, Md_s101, Md_s102, Md_r81_0, Md_r81_1, Md_r81_2, Md_r81_4, Md_r81_5, Md_r81_13, Md_r81_14, Md_r81_15, Md_r81_18, Md_r81_20, Md_r81_21, Md_r81_22, Md_r81_23, Md_r81_24, Md_r81_25, Md_r81_26, Md_r81_27, Md_r81_28, Md_r81_29, Md_r81_30, Md_r81_31, aPush_s, aPush_n, vrf_s, vrf_n, true_and, and_true, false_and, and_false, true_imp_iff, false_imp_iff, not_true_eq_false, not_false_eq_true, eq_self, true_or, or_true, and_self, if_true, if_false, n_lit, n_of, n_an, Nat.add_sub_cancel, nI_add, pk_mul, n_sub, n_ixT, n_cl, n_leT, n_leF, n_ltT, n_ltF, n_eqT, n_eqF, Nat.reduceAdd, Nat.reduceMul, Nat.reduceSub, Nat.reduceEqDiff, Nat.reduceLT, Nat.reduceLeDiff, Nat.mul_one, Nat.one_mul, Nat.add_zero, Nat.zero_add, le_T, c135b, bw_0, b2n_t, b2n_f, nz0, nz1, c222, q1]
    exact Pe.mk h
  · obtain ⟨i, hi, rfl⟩ := inN_T (by decide) q1
    obtain ⟨m, sp, s1, u1, u2, u3, u4⟩ := h.sp hi
    obtain ⟨s2, s3, s4, s5, s6, -, -, -⟩ := id sp
    rcases u3 with ⟨u3, rfl⟩ | u3
    · have v1 : I (58 + 2 * i) 1 = -nI 1 := u2.trans u3
      simp (disch := omega) only [e110, w110_0, w110_1, w110_4, w110_7, w110_9, w110_10, w110_11, w110_14, w110_15, w110_16, w110_16N, w110_17, w110_17N, w110_18, w110_21, w110_24, w110_26, w110_27, w110_28, w110_29, w110_30, w110_34, w110_35, w110_38, w110_41, w110_44, w110_44N, w110_45, w110_47, w110_50, w110_53, w110_53N, w110_54, w110_57, w110_59, w110_60, w110_61, w110_63, w110_66, w110_68, w110_69, w110_71, w110_72, w110_75, w110_78, w110_80, w110_81, w110_84, w110_85, w110_88, w110_89, w110_90, w110_91, w110_92, w110_95, w110_98, w110_100, w110_102, w110_103, w110_106, w110_109, w110_110, Hd_s16, Hd_s52, Hd_s53, Hd_s54, Hd_s55, Hd_s56, Hd_s57, Hd_s50, Hd_s51, Hd_s0, Hd_r16_0, Hd_r16_1, Hd_r16_2, Hd_r16_3, Hd_r16_4, Hd_r16_5, Hd_r16_6, Hd_r16_7, Hd_r54_0, Hd_r54_6, Hd_r50_0, Sd_sr, Sd_s_r___1_, Sd_s_r___2_, Sd_s_r___3_, Sd_s_r___4_, Sd_s_r___5_, Sd_s_r___6_, Sd_s_r___7_, Sd_s_r___8_, Sd_s_r___9_, Sd_s_r___10_, Sd_rr_0, Sd_rr_1, Sd_rr_2, Sd_rr_4, Sd_rr_5, Sd_rr_12, Sd_rr_14, Sd_rr_15, Sd_rr_16, Sd_rr_17, n3, n6, n7, n8, n9, n10, n11, n13, aPush_s, aPush_n, vrf_s, vrf_n, true_and, and_true, false_and, and_false, true_imp_iff, false_imp_iff, not_true_eq_false, not_false_eq_true, eq_self, true_or, or_true, and_self, if_true, if_false, n_lit, n_of, n_an, Nat.add_sub_cancel, nI_add, pk_mul, n_sub, n_ixT, n_cl, n_leT, n_leF, n_ltT, n_ltF, n_eqT, n_eqF, Nat.reduceAdd, Nat.reduceMul, Nat.reduceSub, Nat.reduceEqDiff, Nat.reduceLT, Nat.reduceLeDiff, Nat.mul_one, Nat.one_mul, Nat.add_zero, Nat.zero_add, le_T, b2n_t, b2n_f, nz0, nz1, c127, q1, s1, s2, c1 s2, v1, decide_true]
      refine Px.mk h.1 ?_
      simp (disch := omega) only [e226, w226_0, w226_1, w226_4, w226_7, w226_9, w226_10, w226_11, w226_14, w226_15, w226_16, w226_19, w226_21, w226_22, w226_23, w226_24, w226_25, w226_27, w226_28, w226_31, w226_32, w226_33, w226_36, w226_37, w226_38, w226_41, w226_42, w226_43, w226_46, w226_47, w226_50, w226_52, w226_53, w226_54, w226_55, w226_56, w226_57, w226_59, w226_61, w226_63, w226_66, w226_67, w226_68, w226_71, w226_74, w226_76, w226_77, w226_79, w226_82, w226_84, w226_85, w226_86, w226_88, w226_89, w226_90, w226_91, w226_92, w226_93, w226_94, w226_96, w226_99, w226_101, w226_104, w226_105, w226_108, w226_109, w226_110, w226_111, w226_114, w226_117, w226_118, Md_s1, Md_s81, Md_s82, Md_s83, Md_s84, Md_s85, Md_s86, Md_s87, Md_s88, Md_s89, Md_s90, Md_s91, Md_s92, Md_s93, Md_s94, Md_s95, Md_s96, Md_s97, Md_s98, Md_s99, Md_s100, Md_s101, Md_s102, Md_r81_0, Md_r81_1, Md_r81_2, Md_r81_4, Md_r81_5, Md_r81_13, Md_r81_14, Md_r81_15, Md_r81_18, Md_r81_20, Md_r81_21, Md_r81_22, Md_r81_23, Md_r81_24, Md_r81_25, Md_r81_26, Md_r81_27, Md_r81_28, Md_r81_29, Md_r81_30, Md_r81_31, aPush_s, aPush_n, vrf_s, vrf_n, true_and, and_true, false_and, and_false, true_imp_iff, false_imp_iff, not_true_eq_false, not_false_eq_true, eq_self, true_or, or_true, and_self, if_true, if_false, n_lit, n_of, n_an, Nat.add_sub_cancel, nI_add, pk_mul, n_sub, n_ixT, n_cl, n_leT, n_leF, n_ltT, n_ltF, n_eqT, n_eqF, Nat.reduceAdd, Nat.reduceMul, Nat.reduceSub, Nat.reduceEqDiff, Nat.reduceLT, Nat.reduceLeDiff, Nat.mul_one, Nat.one_mul, Nat.add_zero, Nat.zero_add, le_T, c135b, bw_0, b2n_t, b2n_f, nz0, nz1, c222, q1, u3, n_m1le]
      exact Pe.mk h
    · have v0 : decide (I (58 + 2 * i) 1 = -nI 1) = false := by
        rw [u2]
        rcases u3 with e | e <;> rw [e] <;> decide
      have v2 : nI 0 ≤ I 94 i := by rcases u3 with e | e <;> rw [e] <;> decide
      have stop : sPr (pO (fun k => I 96 (24 * i + k)) m) (G I) (G I 1) = sPr (pO (fun k => I 96 (24 * i + k)) m) (G I) (min m (G I 1)) ∧ sPc (pO (fun k => I 96 (24 * i + k)) m) (G I) (G I 1) = sPc (pO (fun k => I 96 (24 * i + k)) m) (G I) (min m (G I 1)) := by
        by_cases c : m ≤ G I 1
        · have := sPr_stop (p := pO (fun k => I 96 (24 * i + k)) m) (g := G I) (m := m) (fun k hk => if_neg (fun q => by omega)) (G I 1 - m)
          rw [show m + (G I 1 - m) = G I 1 by omega] at this
          rw [show min m (G I 1) = m by omega]
          exact this
        · rw [show min m (G I 1) = G I 1 by omega]
          exact ⟨rfl, rfl⟩
      simp (disch := omega) only [e110, w110_0, w110_1, w110_4, w110_7, w110_9, w110_10, w110_11, w110_14, w110_15, w110_16, w110_16N, w110_17, w110_17N, w110_18, w110_21, w110_24, w110_26, w110_27, w110_28, w110_29, w110_30, w110_34, w110_35, w110_38, w110_41, w110_44, w110_44N, w110_45, w110_47, w110_50, w110_53, w110_53N, w110_54, w110_57, w110_59, w110_60, w110_61, w110_63, w110_66, w110_68, w110_69, w110_71, w110_72, w110_75, w110_78, w110_80, w110_81, w110_84, w110_85, w110_88, w110_89, w110_90, w110_91, w110_92, w110_95, w110_98, w110_100, w110_102, w110_103, w110_106, w110_109, w110_110, Hd_s16, Hd_s52, Hd_s53, Hd_s54, Hd_s55, Hd_s56, Hd_s57, Hd_s50, Hd_s51, Hd_s0, Hd_r16_0, Hd_r16_1, Hd_r16_2, Hd_r16_3, Hd_r16_4, Hd_r16_5, Hd_r16_6, Hd_r16_7, Hd_r54_0, Hd_r54_6, Hd_r50_0, Sd_sr, Sd_s_r___1_, Sd_s_r___2_, Sd_s_r___3_, Sd_s_r___4_, Sd_s_r___5_, Sd_s_r___6_, Sd_s_r___7_, Sd_s_r___8_, Sd_s_r___9_, Sd_s_r___10_, Sd_rr_0, Sd_rr_1, Sd_rr_2, Sd_rr_4, Sd_rr_5, Sd_rr_12, Sd_rr_14, Sd_rr_15, Sd_rr_16, Sd_rr_17, n3, n6, n7, n8, n9, n10, n11, n13, aPush_s, aPush_n, vrf_s, vrf_n, true_and, and_true, false_and, and_false, true_imp_iff, false_imp_iff, not_true_eq_false, not_false_eq_true, eq_self, true_or, or_true, and_self, if_true, if_false, n_lit, n_of, n_an, Nat.add_sub_cancel, nI_add, pk_mul, n_sub, n_ixT, n_cl, n_leT, n_leF, n_ltT, n_ltF, n_eqT, n_eqF, Nat.reduceAdd, Nat.reduceMul, Nat.reduceSub, Nat.reduceEqDiff, Nat.reduceLT, Nat.reduceLeDiff, Nat.mul_one, Nat.one_mul, Nat.add_zero, Nat.zero_add, le_T, b2n_t, b2n_f, nz0, nz1, c127, q1, s1, s2, c1 s2, v0]
      refine l110 (pv := fun k => I 96 (24 * i + k)) hd (by assumption) (by omega) (by omega) sp u4 h1 ?_ (G I 1) 0 I _ (Nat.zero_add _) (Fr.refl r I) hs
      intro J hJ hsJ
      subst er
      obtain ⟨hmJ, eG⟩ := h.mrJ hJ
      have j94 : J 94 i = I 94 i := by rw [hJ 94 (by omega)]
      have j95 : J 95 i = nI m := by rw [hJ 95 (by omega)]; exact u1
      refine Px.mk (h.k15 hJ) ?_
      simp (disch := omega) only [e226, w226_0, w226_1, w226_4, w226_7, w226_9, w226_10, w226_11, w226_14, w226_15, w226_16, w226_19, w226_21, w226_22, w226_23, w226_24, w226_25, w226_27, w226_28, w226_31, w226_32, w226_33, w226_36, w226_37, w226_38, w226_41, w226_42, w226_43, w226_46, w226_47, w226_50, w226_52, w226_53, w226_54, w226_55, w226_56, w226_57, w226_59, w226_61, w226_63, w226_66, w226_67, w226_68, w226_71, w226_74, w226_76, w226_77, w226_79, w226_82, w226_84, w226_85, w226_86, w226_88, w226_89, w226_90, w226_91, w226_92, w226_93, w226_94, w226_96, w226_99, w226_101, w226_104, w226_105, w226_108, w226_109, w226_110, w226_111, w226_114, w226_117, w226_118, Md_s1, Md_s81, Md_s82, Md_s83, Md_s84, Md_s85, Md_s86, Md_s87, Md_s88, Md_s89, Md_s90, Md_s91, Md_s92, Md_s93, Md_s94, Md_s95, Md_s96, Md_s97, Md_s98, Md_s99, Md_s100, Md_s101, Md_s102, Md_r81_0, Md_r81_1, Md_r81_2, Md_r81_4, Md_r81_5, Md_r81_13, Md_r81_14, Md_r81_15, Md_r81_18, Md_r81_20, Md_r81_21, Md_r81_22, Md_r81_23, Md_r81_24, Md_r81_25, Md_r81_26, Md_r81_27, Md_r81_28, Md_r81_29, Md_r81_30, Md_r81_31, aPush_s, aPush_n, vrf_s, vrf_n, true_and, and_true, false_and, and_false, true_imp_iff, false_imp_iff, not_true_eq_false, not_false_eq_true, eq_self, true_or, or_true, and_self, if_true, if_false, n_lit, n_of, n_an, Nat.add_sub_cancel, nI_add, pk_mul, n_sub, n_ixT, n_cl, n_leT, n_leF, n_ltT, n_ltF, n_eqT, n_eqF, Nat.reduceAdd, Nat.reduceMul, Nat.reduceSub, Nat.reduceEqDiff, Nat.reduceLT, Nat.reduceLeDiff, Nat.mul_one, Nat.one_mul, Nat.add_zero, Nat.zero_add, le_T, c135b, bw_0, b2n_t, b2n_f, nz0, nz1, c222, q1, j94, v2]
      rw [stop.1] at hsJ
      rw [stop.2]
      refine l226 (pv := fun k => I 96 (24 * i + k)) (g := G I) hi rfl h1 (fun k _ => by rw [hJ 96 (by omega)]) j95 s6 ?_ (min m (G I 1)) 0 J _ _ (Nat.zero_add _) hmJ ⟨eG, fun _ _ _ _ => rfl⟩
      intro K hK
      exact Pe.mk (h.st hJ hsJ hK)
/-- the first place of a sheet at which it is not so -/
def sRd (P : Nat → Bool) : Nat → Nat → Int32
  | 0, _ => -nI 1000000005
  | j + 1, k => if P k then nI k else sRd P j (k + 1)
def rdP (pv : Nat → Int32) (g : Nat → Nat) (a k : Nat) : Bool := !decide (pv k = -nI 1000000005) && (decide (g 1 ≤ k) || !decide (pv k = nI (sLines g k a)))
theorem l111 {r a b m q : Nat} {pv : Nat → Int32} {l1 : Value} {g : Nat → Nat} (hd : Hd S R) (hR : R 16 0 = some r) (ha : r + 10 < a) (hb : r + 10 < b) (sp : Sp S I R a b m) (hpv : ∀ k, k < 24 → I b k = pv k) (hs : Cs S I R r g) (hq : q < g 2) : ∀ (j k : Nat) (J : Nat → Nat → Int32), k + j = m → Sc r I J → (∀ J, Sc r I J → Q (some (.int (sRd (rdP pv g q) j k))) (S, J, R, z)) → RB (d + 7) 111 38 [.ref 16, l1, .int (nI q), .ref a, .int (nI k)] [] (S, J, R, z) Q
  | 0, k, J, h, hJ, hQ => by
    obtain rfl : k = m := by omega
    have spJ := sp.fr ha hb hJ.fr
    obtain ⟨s2, s3, s4, s5, s6, -, -, -⟩ := id spJ
    rw [w111_38]
    simp (disch := omega) only [w111_0, w111_1, w111_4, w111_7, w111_8, w111_9, w111_12, w111_15, w111_17, w111_18, w111_19, w111_22, w111_23, w111_24, w111_24N, w111_25, w111_25N, w111_26, w111_29, w111_32, w111_34, w111_35, w111_36, w111_40, w111_40N, w111_41, w111_44, w111_47, w111_47N, w111_48, w111_50, w111_53, w111_56, w111_58, w111_59, w111_62, w111_65, w111_68, w111_68N, w111_69, w111_72, w111_74, w111_75, w111_76, w111_79, w111_81, w111_82, w111_85, w111_88, w111_90, w111_91, w111_94, w111_97, w111_99, s2, s5, aPush_s, aPush_n, vrf_s, vrf_n, true_and, and_true, false_and, and_false, true_imp_iff, false_imp_iff, not_true_eq_false, not_false_eq_true, eq_self, true_or, or_true, and_self, if_true, if_false, n_lit, n_of, n_an, Nat.add_sub_cancel, nI_add, pk_mul, n_sub, n_ixT, n_cl, n_leT, n_leF, n_ltT, n_ltF, n_eqT, n_eqF, Nat.reduceAdd, Nat.reduceMul, Nat.reduceSub, Nat.reduceEqDiff, Nat.reduceLT, Nat.reduceLeDiff, Nat.mul_one, Nat.one_mul, Nat.add_zero, Nat.zero_add]
    exact hQ J hJ
  | j + 1, k, J, h, hJ, hQ => by
    have ih := fun J => l111 (l1 := l1) hd hR ha hb sp hpv hs hq j (k + 1) J (by omega)
    have spJ := sp.fr ha hb hJ.fr
    obtain ⟨s2, s3, s4, s5, s6, -, -, -⟩ := id spJ
    have hk24 : k < 24 := by omega
    have hpk : J b k = pv k := by rw [hJ b (by omega) (by omega) (by omega)]; exact hpv k hk24
    have hkm : decide (k < m) = true := decide_eq_true (by omega)
    have hk31 : k < 2147483648 := by omega
    have hsJ := hs.sc hJ
    obtain ⟨Hd_s16, Hd_s52, Hd_s53, Hd_s54, Hd_s55, Hd_s56, Hd_s57, Hd_s50, Hd_s51, Hd_s0, Hd_r16_0, Hd_r16_1, Hd_r16_2, Hd_r16_3, Hd_r16_4, Hd_r16_5, Hd_r16_6, Hd_r16_7, Hd_r54_0, Hd_r54_6, Hd_r50_0⟩ := id hd; clear Hd_r16_0; have Hd_r16_0 := hR
    obtain ⟨hr, ⟨Sd_sr, Sd_s_r___1_, Sd_s_r___2_, Sd_s_r___3_, Sd_s_r___4_, Sd_s_r___5_, Sd_s_r___6_, Sd_s_r___7_, Sd_s_r___8_, Sd_s_r___9_, Sd_s_r___10_, Sd_rr_0, Sd_rr_1, Sd_rr_2, Sd_rr_4, Sd_rr_5, Sd_rr_12, Sd_rr_14, Sd_rr_15, Sd_rr_16, Sd_rr_17⟩, ok, ⟨n3, n6, n7, n8, n9, n10, n11, n13⟩, ⟨a1, a2, a3, a4, a5, a7⟩, ct⟩ := id hsJ
    have h1 := ok.1
    unfold sRd at hQ
    rw [w111_38]
    by_cases e1 : pv k = -nI 1000000005
    · have eP : rdP pv g q k = false := by simp [rdP, e1]
      rw [eP] at hQ
      have hb4 : (decide (k < m) && !decide (pv k = -nI 1000000005)) = false := by rw [e1]; simp
      simp (disch := omega) only [w111_0, w111_1, w111_4, w111_7, w111_8, w111_9, w111_12, w111_15, w111_17, w111_18, w111_19, w111_22, w111_23, w111_24, w111_24N, w111_25, w111_25N, w111_26, w111_29, w111_32, w111_34, w111_35, w111_36, w111_40, w111_40N, w111_41, w111_44, w111_47, w111_47N, w111_48, w111_50, w111_53, w111_56, w111_58, w111_59, w111_62, w111_65, w111_68, w111_68N, w111_69, w111_72, w111_74, w111_75, w111_76, w111_79, w111_81, w111_82, w111_85, w111_88, w111_90, w111_91, w111_94, w111_97, w111_99, Hd_s16, Hd_s52, Hd_s53, Hd_s54, Hd_s55, Hd_s56, Hd_s57, Hd_s50, Hd_s51, Hd_s0, Hd_r16_0, Hd_r16_1, Hd_r16_2, Hd_r16_3, Hd_r16_4, Hd_r16_5, Hd_r16_6, Hd_r16_7, Hd_r54_0, Hd_r54_6, Hd_r50_0, Sd_sr, Sd_s_r___1_, Sd_s_r___2_, Sd_s_r___3_, Sd_s_r___4_, Sd_s_r___5_, Sd_s_r___6_, Sd_s_r___7_, Sd_s_r___8_, Sd_s_r___9_, Sd_s_r___10_, Sd_rr_0, Sd_rr_1, Sd_rr_2, Sd_rr_4, Sd_rr_5, Sd_rr_12, Sd_rr_14, Sd_rr_15, Sd_rr_16, Sd_rr_17, n3, n6, n7, n8, n9, n10, n11, n13, aPush_s, aPush_n, vrf_s, vrf_n, true_and, and_true, false_and, and_false, true_imp_iff, false_imp_iff, not_true_eq_false, not_false_eq_true, eq_self, true_or, or_true, and_self, if_true, if_false, n_lit, n_of, n_an, Nat.add_sub_cancel, nI_add, pk_mul, n_sub, n_ixT, n_cl, n_leT, n_leF, n_ltT, n_ltF, n_eqT, n_eqF, Nat.reduceAdd, Nat.reduceMul, Nat.reduceSub, Nat.reduceEqDiff, Nat.reduceLT, Nat.reduceLeDiff, Nat.mul_one, Nat.one_mul, Nat.add_zero, Nat.zero_add, le_T, b2n_t, b2n_f, nz0, nz1, s2, s5, c4 spJ hk31, hb4, hpk]
      exact ih J hJ hQ
    · have hb4 : (decide (k < m) && !decide (pv k = -nI 1000000005)) = true := by rw [hkm]; simp [e1]
      by_cases e2 : g 1 ≤ k
      · have eP : rdP pv g q k = true := by simp [rdP, e1, e2]
        rw [eP] at hQ
        simp (disch := omega) only [w111_0, w111_1, w111_4, w111_7, w111_8, w111_9, w111_12, w111_15, w111_17, w111_18, w111_19, w111_22, w111_23, w111_24, w111_24N, w111_25, w111_25N, w111_26, w111_29, w111_32, w111_34, w111_35, w111_36, w111_40, w111_40N, w111_41, w111_44, w111_47, w111_47N, w111_48, w111_50, w111_53, w111_56, w111_58, w111_59, w111_62, w111_65, w111_68, w111_68N, w111_69, w111_72, w111_74, w111_75, w111_76, w111_79, w111_81, w111_82, w111_85, w111_88, w111_90, w111_91, w111_94, w111_97, w111_99, Hd_s16, Hd_s52, Hd_s53, Hd_s54, Hd_s55, Hd_s56, Hd_s57, Hd_s50, Hd_s51, Hd_s0, Hd_r16_0, Hd_r16_1, Hd_r16_2, Hd_r16_3, Hd_r16_4, Hd_r16_5, Hd_r16_6, Hd_r16_7, Hd_r54_0, Hd_r54_6, Hd_r50_0, Sd_sr, Sd_s_r___1_, Sd_s_r___2_, Sd_s_r___3_, Sd_s_r___4_, Sd_s_r___5_, Sd_s_r___6_, Sd_s_r___7_, Sd_s_r___8_, Sd_s_r___9_, Sd_s_r___10_, Sd_rr_0, Sd_rr_1, Sd_rr_2, Sd_rr_4, Sd_rr_5, Sd_rr_12, Sd_rr_14, Sd_rr_15, Sd_rr_16, Sd_rr_17, n3, n6, n7, n8, n9, n10, n11, n13, aPush_s, aPush_n, vrf_s, vrf_n, true_and, and_true, false_and, and_false, true_imp_iff, false_imp_iff, not_true_eq_false, not_false_eq_true, eq_self, true_or, or_true, and_self, if_true, if_false, n_lit, n_of, n_an, Nat.add_sub_cancel, nI_add, pk_mul, n_sub, n_ixT, n_cl, n_leT, n_leF, n_ltT, n_ltF, n_eqT, n_eqF, Nat.reduceAdd, Nat.reduceMul, Nat.reduceSub, Nat.reduceEqDiff, Nat.reduceLT, Nat.reduceLeDiff, Nat.mul_one, Nat.one_mul, Nat.add_zero, Nat.zero_add, le_T, b2n_t, b2n_f, nz0, nz1, s2, s5, c4 spJ hk31, hb4, hpk]
        exact hQ J hJ
      · simp (disch := omega) only [w111_0, w111_1, w111_4, w111_7, w111_8, w111_9, w111_12, w111_15, w111_17, w111_18, w111_19, w111_22, w111_23, w111_24, w111_24N, w111_25, w111_25N, w111_26, w111_29, w111_32, w111_34, w111_35, w111_36, w111_40, w111_40N, w111_41, w111_44, w111_47, w111_47N, w111_48, w111_50, w111_53, w111_56, w111_58, w111_59, w111_62, w111_65, w111_68, w111_68N, w111_69, w111_72, w111_74, w111_75, w111_76, w111_79, w111_81, w111_82, w111_85, w111_88, w111_90, w111_91, w111_94, w111_97, w111_99, Hd_s16, Hd_s52, Hd_s53, Hd_s54, Hd_s55, Hd_s56, Hd_s57, Hd_s50, Hd_s51, Hd_s0, Hd_r16_0, Hd_r16_1, Hd_r16_2, Hd_r16_3, Hd_r16_4, Hd_r16_5, Hd_r16_6, Hd_r16_7, Hd_r54_0, Hd_r54_6, Hd_r50_0, Sd_sr, Sd_s_r___1_, Sd_s_r___2_, Sd_s_r___3_, Sd_s_r___4_, Sd_s_r___5_, Sd_s_r___6_, Sd_s_r___7_, Sd_s_r___8_, Sd_s_r___9_, Sd_s_r___10_, Sd_rr_0, Sd_rr_1, Sd_rr_2, Sd_rr_4, Sd_rr_5, Sd_rr_12, Sd_rr_14, Sd_rr_15, Sd_rr_16, Sd_rr_17, n3, n6, n7, n8, n9, n10, n11, n13, aPush_s, aPush_n, vrf_s, vrf_n, true_and, and_true, false_and, and_false, true_imp_iff, false_imp_iff, not_true_eq_false, not_false_eq_true, eq_self, true_or, or_true, and_self, if_true, if_false, n_lit, n_of, n_an, Nat.add_sub_cancel, nI_add, pk_mul, n_sub, n_ixT, n_cl, n_leT, n_leF, n_ltT, n_ltF, n_eqT, n_eqF, Nat.reduceAdd, Nat.reduceMul, Nat.reduceSub, Nat.reduceEqDiff, Nat.reduceLT, Nat.reduceLeDiff, Nat.mul_one, Nat.one_mul, Nat.add_zero, Nat.zero_add, le_T, b2n_t, b2n_f, nz0, nz1, s2, s3, s4, s5, c4 spJ hk31, hb4, hpk]
        refine c40 hsJ (show k < g 1 by omega) hq ?_
        intro K hK
        by_cases e3 : pv k = nI (sLines g k q)
        · have eP : rdP pv g q k = false := by simp [rdP, e2, ← e3]
          rw [eP] at hQ
          simp (disch := omega) only [w111_0, w111_1, w111_4, w111_7, w111_8, w111_9, w111_12, w111_15, w111_17, w111_18, w111_19, w111_22, w111_23, w111_24, w111_24N, w111_25, w111_25N, w111_26, w111_29, w111_32, w111_34, w111_35, w111_36, w111_40, w111_40N, w111_41, w111_44, w111_47, w111_47N, w111_48, w111_50, w111_53, w111_56, w111_58, w111_59, w111_62, w111_65, w111_68, w111_68N, w111_69, w111_72, w111_74, w111_75, w111_76, w111_79, w111_81, w111_82, w111_85, w111_88, w111_90, w111_91, w111_94, w111_97, w111_99, aPush_s, aPush_n, vrf_s, vrf_n, true_and, and_true, false_and, and_false, true_imp_iff, false_imp_iff, not_true_eq_false, not_false_eq_true, eq_self, true_or, or_true, and_self, if_true, if_false, n_lit, n_of, n_an, Nat.add_sub_cancel, nI_add, pk_mul, n_sub, n_ixT, n_cl, n_leT, n_leF, n_ltT, n_ltF, n_eqT, n_eqF, Nat.reduceAdd, Nat.reduceMul, Nat.reduceSub, Nat.reduceEqDiff, Nat.reduceLT, Nat.reduceLeDiff, Nat.mul_one, Nat.one_mul, Nat.add_zero, Nat.zero_add, e3]
          exact ih K (hJ.trans hK) hQ
        · have eP : rdP pv g q k = true := by simp [rdP, e1, e3]
          rw [eP] at hQ
          simp (disch := omega) only [w111_0, w111_1, w111_4, w111_7, w111_8, w111_9, w111_12, w111_15, w111_17, w111_18, w111_19, w111_22, w111_23, w111_24, w111_24N, w111_25, w111_25N, w111_26, w111_29, w111_32, w111_34, w111_35, w111_36, w111_40, w111_40N, w111_41, w111_44, w111_47, w111_47N, w111_48, w111_50, w111_53, w111_56, w111_58, w111_59, w111_62, w111_65, w111_68, w111_68N, w111_69, w111_72, w111_74, w111_75, w111_76, w111_79, w111_81, w111_82, w111_85, w111_88, w111_90, w111_91, w111_94, w111_97, w111_99, aPush_s, aPush_n, vrf_s, vrf_n, true_and, and_true, false_and, and_false, true_imp_iff, false_imp_iff, not_true_eq_false, not_false_eq_true, eq_self, true_or, or_true, and_self, if_true, if_false, n_lit, n_of, n_an, Nat.add_sub_cancel, nI_add, pk_mul, n_sub, n_ixT, n_cl, n_leT, n_leF, n_ltT, n_ltF, n_eqT, n_eqF, Nat.reduceAdd, Nat.reduceMul, Nat.reduceSub, Nat.reduceEqDiff, Nat.reduceLT, Nat.reduceLeDiff, Nat.mul_one, Nat.one_mul, Nat.add_zero, Nat.zero_add, e3]
          exact hQ K (hJ.trans hK)
theorem l227 {i m q : Nat} {pv : Nat → Int32} (hm : Mr S I R) (hi : i < 4) (hpv : ∀ k, k < 24 → I 96 (24 * i + k) = pv k) (h95 : I 95 i = nI m) (hm24 : m ≤ 24) (hq : q < G I 2) : ∀ (j k : Nat) (J : Nat → Nat → Int32) (v4 : Value), k + j = m → Si I J → (∀ J, Si I J → Q (some (.int (sRd (rdP pv (G I) q) j k))) (S, J, R, z)) → RB (d + 7) 227 32 [.ref 81, .int (nI i), .int (nI q), .int (nI k), v4] [] (S, J, R, z) Q
  | 0, k, J, v4, h, hJ, hQ => by
    obtain rfl : k = m := by omega
    have j95 : J 95 i = nI k := by rw [hJ 95 (by decide) (by decide)]; exact h95
    obtain ⟨⟨Md_s1, Md_s81, Md_s82, Md_s83, Md_s84, Md_s85, Md_s86, Md_s87, Md_s88, Md_s89, Md_s90, Md_s91, Md_s92, Md_s93, Md_s94, Md_s95, Md_s96, Md_s97, Md_s98, Md_s99, Md_s100, Md_s101, Md_s102, Md_r81_0, Md_r81_1, Md_r81_2, Md_r81_4, Md_r81_5, Md_r81_13, Md_r81_14, Md_r81_15, Md_r81_18, Md_r81_20, Md_r81_21, Md_r81_22, Md_r81_23, Md_r81_24, Md_r81_25, Md_r81_26, Md_r81_27, Md_r81_28, Md_r81_29, Md_r81_30, Md_r81_31⟩, hc, ok⟩ := id hm
    rw [w227_32]
    simp (disch := omega) only [w227_0, w227_1, w227_4, w227_7, w227_8, w227_9, w227_12, w227_15, w227_17, w227_18, w227_19, w227_22, w227_23, w227_24, w227_27, w227_29, w227_30, w227_31, w227_33, w227_34, w227_37, w227_38, w227_39, w227_42, w227_43, w227_46, w227_48, w227_49, w227_50, w227_51, w227_52, w227_53, w227_55, w227_57, w227_59, w227_62, w227_63, w227_64, w227_67, w227_70, w227_72, w227_73, w227_74, w227_75, w227_78, w227_81, w227_82, w227_83, w227_86, w227_89, w227_91, Md_s1, Md_s81, Md_s82, Md_s83, Md_s84, Md_s85, Md_s86, Md_s87, Md_s88, Md_s89, Md_s90, Md_s91, Md_s92, Md_s93, Md_s94, Md_s95, Md_s96, Md_s97, Md_s98, Md_s99, Md_s100, Md_s101, Md_s102, Md_r81_0, Md_r81_1, Md_r81_2, Md_r81_4, Md_r81_5, Md_r81_13, Md_r81_14, Md_r81_15, Md_r81_18, Md_r81_20, Md_r81_21, Md_r81_22, Md_r81_23, Md_r81_24, Md_r81_25, Md_r81_26, Md_r81_27, Md_r81_28, Md_r81_29, Md_r81_30, Md_r81_31, aPush_s, aPush_n, vrf_s, vrf_n, true_and, and_true, false_and, and_false, true_imp_iff, false_imp_iff, not_true_eq_false, not_false_eq_true, eq_self, true_or, or_true, and_self, if_true, if_false, n_lit, n_of, n_an, Nat.add_sub_cancel, nI_add, pk_mul, n_sub, n_ixT, n_cl, n_leT, n_leF, n_ltT, n_ltF, n_eqT, n_eqF, Nat.reduceAdd, Nat.reduceMul, Nat.reduceSub, Nat.reduceEqDiff, Nat.reduceLT, Nat.reduceLeDiff, Nat.mul_one, Nat.one_mul, Nat.add_zero, Nat.zero_add, le_T, c135b, bw_0, b2n_t, b2n_f, nz0, nz1, j95]
    exact hQ J hJ
  | j + 1, k, J, v4, h, hJ, hQ => by
    have ih := fun J v4 => l227 hm hi hpv h95 hm24 hq j (k + 1) J v4 (by omega)
    have hk24 : k < 24 := by omega
    have j95 : J 95 i = nI m := by rw [hJ 95 (by decide) (by decide)]; exact h95
    have j96 : J 96 (24 * i + k) = pv k := by rw [hJ 96 (by decide) (by decide)]; exact hpv k hk24
    have eG := hJ.G
    have hmJ := hm.si hJ
    obtain ⟨⟨Md_s1, Md_s81, Md_s82, Md_s83, Md_s84, Md_s85, Md_s86, Md_s87, Md_s88, Md_s89, Md_s90, Md_s91, Md_s92, Md_s93, Md_s94, Md_s95, Md_s96, Md_s97, Md_s98, Md_s99, Md_s100, Md_s101, Md_s102, Md_r81_0, Md_r81_1, Md_r81_2, Md_r81_4, Md_r81_5, Md_r81_13, Md_r81_14, Md_r81_15, Md_r81_18, Md_r81_20, Md_r81_21, Md_r81_22, Md_r81_23, Md_r81_24, Md_r81_25, Md_r81_26, Md_r81_27, Md_r81_28, Md_r81_29, Md_r81_30, Md_r81_31⟩, hc, ok⟩ := id hm
    have h1 := ok.1
    unfold sRd at hQ
    rw [w227_32]
    by_cases e1 : pv k = -nI 1000000005
    · have eP : rdP pv (G I) q k = false := by simp [rdP, e1]
      rw [eP] at hQ
      simp (disch := omega) only [w227_0, w227_1, w227_4, w227_7, w227_8, w227_9, w227_12, w227_15, w227_17, w227_18, w227_19, w227_22, w227_23, w227_24, w227_27, w227_29, w227_30, w227_31, w227_33, w227_34, w227_37, w227_38, w227_39, w227_42, w227_43, w227_46, w227_48, w227_49, w227_50, w227_51, w227_52, w227_53, w227_55, w227_57, w227_59, w227_62, w227_63, w227_64, w227_67, w227_70, w227_72, w227_73, w227_74, w227_75, w227_78, w227_81, w227_82, w227_83, w227_86, w227_89, w227_91, Md_s1, Md_s81, Md_s82, Md_s83, Md_s84, Md_s85, Md_s86, Md_s87, Md_s88, Md_s89, Md_s90, Md_s91, Md_s92, Md_s93, Md_s94, Md_s95, Md_s96, Md_s97, Md_s98, Md_s99, Md_s100, Md_s101, Md_s102, Md_r81_0, Md_r81_1, Md_r81_2, Md_r81_4, Md_r81_5, Md_r81_13, Md_r81_14, Md_r81_15, Md_r81_18, Md_r81_20, Md_r81_21, Md_r81_22, Md_r81_23, Md_r81_24, Md_r81_25, Md_r81_26, Md_r81_27, Md_r81_28, Md_r81_29, Md_r81_30, Md_r81_31, aPush_s, aPush_n, vrf_s, vrf_n, true_and, and_true, false_and, and_false, true_imp_iff, false_imp_iff, not_true_eq_false, not_false_eq_true, eq_self, true_or, or_true, and_self, if_true, if_false, n_lit, n_of, n_an, Nat.add_sub_cancel, nI_add, pk_mul, n_sub, n_ixT, n_cl, n_leT, n_leF, n_ltT, n_ltF, n_eqT, n_eqF, Nat.reduceAdd, Nat.reduceMul, Nat.reduceSub, Nat.reduceEqDiff, Nat.reduceLT, Nat.reduceLeDiff, Nat.mul_one, Nat.one_mul, Nat.add_zero, Nat.zero_add, le_T, c135b, bw_0, b2n_t, b2n_f, nz0, nz1, j95, j96, e1]
      exact ih J _ hJ hQ
    · by_cases e2 : G I 1 ≤ k
      · have eP : rdP pv (G I) q k = true := by simp [rdP, e1, e2]
        have hin : inN (nI k) (G I 1) = false := by
          unfold inN
          rw [decide_eq_false (show ¬ nI k < nI (G I 1) from nI_nlt e2 (by omega)), Bool.and_false]
        rw [eP] at hQ
        simp (disch := omega) only [w227_0, w227_1, w227_4, w227_7, w227_8, w227_9, w227_12, w227_15, w227_17, w227_18, w227_19, w227_22, w227_23, w227_24, w227_27, w227_29, w227_30, w227_31, w227_33, w227_34, w227_37, w227_38, w227_39, w227_42, w227_43, w227_46, w227_48, w227_49, w227_50, w227_51, w227_52, w227_53, w227_55, w227_57, w227_59, w227_62, w227_63, w227_64, w227_67, w227_70, w227_72, w227_73, w227_74, w227_75, w227_78, w227_81, w227_82, w227_83, w227_86, w227_89, w227_91, Md_s1, Md_s81, Md_s82, Md_s83, Md_s84, Md_s85, Md_s86, Md_s87, Md_s88, Md_s89, Md_s90, Md_s91, Md_s92, Md_s93, Md_s94, Md_s95, Md_s96, Md_s97, Md_s98, Md_s99, Md_s100, Md_s101, Md_s102, Md_r81_0, Md_r81_1, Md_r81_2, Md_r81_4, Md_r81_5, Md_r81_13, Md_r81_14, Md_r81_15, Md_r81_18, Md_r81_20, Md_r81_21, Md_r81_22, Md_r81_23, Md_r81_24, Md_r81_25, Md_r81_26, Md_r81_27, Md_r81_28, Md_r81_29, Md_r81_30, Md_r81_31, aPush_s, aPush_n, vrf_s, vrf_n, true_and, and_true, false_and, and_false, true_imp_iff, false_imp_iff, not_true_eq_false, not_false_eq_true, eq_self, true_or, or_true, and_self, if_true, if_false, n_lit, n_of, n_an, Nat.add_sub_cancel, nI_add, pk_mul, n_sub, n_ixT, n_cl, n_leT, n_leF, n_ltT, n_ltF, n_eqT, n_eqF, Nat.reduceAdd, Nat.reduceMul, Nat.reduceSub, Nat.reduceEqDiff, Nat.reduceLT, Nat.reduceLeDiff, Nat.mul_one, Nat.one_mul, Nat.add_zero, Nat.zero_add, le_T, c135b, bw_0, b2n_t, b2n_f, nz0, nz1, j95, j96, e1, c139 hmJ, eG, hin]
        exact hQ J hJ
      · have hin : inN (nI k) (G I 1) = true := inN_I (by omega) (by omega)
        simp (disch := omega) only [w227_0, w227_1, w227_4, w227_7, w227_8, w227_9, w227_12, w227_15, w227_17, w227_18, w227_19, w227_22, w227_23, w227_24, w227_27, w227_29, w227_30, w227_31, w227_33, w227_34, w227_37, w227_38, w227_39, w227_42, w227_43, w227_46, w227_48, w227_49, w227_50, w227_51, w227_52, w227_53, w227_55, w227_57, w227_59, w227_62, w227_63, w227_64, w227_67, w227_70, w227_72, w227_73, w227_74, w227_75, w227_78, w227_81, w227_82, w227_83, w227_86, w227_89, w227_91, Md_s1, Md_s81, Md_s82, Md_s83, Md_s84, Md_s85, Md_s86, Md_s87, Md_s88, Md_s89, Md_s90, Md_s91, Md_s92, Md_s93, Md_s94, Md_s95, Md_s96, Md_s97, Md_s98, Md_s99, Md_s100, Md_s101, Md_s102, Md_r81_0, Md_r81_1, Md_r81_2, Md_r81_4, Md_r81_5, Md_r81_13, Md_r81_14, Md_r81_15, Md_r81_18, Md_r81_20, Md_r81_21, Md_r81_22, Md_r81_23, Md_r81_24, Md_r81_25, Md_r81_26, Md_r81_27, Md_r81_28, Md_r81_29, Md_r81_30, Md_r81_31, aPush_s, aPush_n, vrf_s, vrf_n, true_and, and_true, false_and, and_false, true_imp_iff, false_imp_iff, not_true_eq_false, not_false_eq_true, eq_self, true_or, or_true, and_self, if_true, if_false, n_lit, n_of, n_an, Nat.add_sub_cancel, nI_add, pk_mul, n_sub, n_ixT, n_cl, n_leT, n_leF, n_ltT, n_ltF, n_eqT, n_eqF, Nat.reduceAdd, Nat.reduceMul, Nat.reduceSub, Nat.reduceEqDiff, Nat.reduceLT, Nat.reduceLeDiff, Nat.mul_one, Nat.one_mul, Nat.add_zero, Nat.zero_add, le_T, c135b, bw_0, b2n_t, b2n_f, nz0, nz1, j95, j96, e1, c139 hmJ, eG, hin]
        refine c187 (w := k) hmJ (by rw [eG]; omega) (by rw [eG]; exact hq) ?_
        intro K hK
        rw [eG]
        by_cases e3 : pv k = nI (sLines (G I) k q)
        · have eP : rdP pv (G I) q k = false := by simp [rdP, e2, ← e3]
          rw [eP] at hQ
          simp (disch := omega) only [w227_0, w227_1, w227_4, w227_7, w227_8, w227_9, w227_12, w227_15, w227_17, w227_18, w227_19, w227_22, w227_23, w227_24, w227_27, w227_29, w227_30, w227_31, w227_33, w227_34, w227_37, w227_38, w227_39, w227_42, w227_43, w227_46, w227_48, w227_49, w227_50, w227_51, w227_52, w227_53, w227_55, w227_57, w227_59, w227_62, w227_63, w227_64, w227_67, w227_70, w227_72, w227_73, w227_74, w227_75, w227_78, w227_81, w227_82, w227_83, w227_86, w227_89, w227_91, aPush_s, aPush_n, vrf_s, vrf_n, true_and, and_true, false_and, and_false, true_imp_iff, false_imp_iff, not_true_eq_false, not_false_eq_true, eq_self, true_or, or_true, and_self, if_true, if_false, n_lit, n_of, n_an, Nat.add_sub_cancel, nI_add, pk_mul, n_sub, n_ixT, n_cl, n_leT, n_leF, n_ltT, n_ltF, n_eqT, n_eqF, Nat.reduceAdd, Nat.reduceMul, Nat.reduceSub, Nat.reduceEqDiff, Nat.reduceLT, Nat.reduceLeDiff, Nat.mul_one, Nat.one_mul, Nat.add_zero, Nat.zero_add, e3]
          exact ih K _ (hJ.trans hK) hQ
        · have eP : rdP pv (G I) q k = true := by simp [rdP, e1, e3]
          rw [eP] at hQ
          simp (disch := omega) only [w227_0, w227_1, w227_4, w227_7, w227_8, w227_9, w227_12, w227_15, w227_17, w227_18, w227_19, w227_22, w227_23, w227_24, w227_27, w227_29, w227_30, w227_31, w227_33, w227_34, w227_37, w227_38, w227_39, w227_42, w227_43, w227_46, w227_48, w227_49, w227_50, w227_51, w227_52, w227_53, w227_55, w227_57, w227_59, w227_62, w227_63, w227_64, w227_67, w227_70, w227_72, w227_73, w227_74, w227_75, w227_78, w227_81, w227_82, w227_83, w227_86, w227_89, w227_91, aPush_s, aPush_n, vrf_s, vrf_n, true_and, and_true, false_and, and_false, true_imp_iff, false_imp_iff, not_true_eq_false, not_false_eq_true, eq_self, true_or, or_true, and_self, if_true, if_false, n_lit, n_of, n_an, Nat.add_sub_cancel, nI_add, pk_mul, n_sub, n_ixT, n_cl, n_leT, n_leF, n_ltT, n_ltF, n_eqT, n_eqF, Nat.reduceAdd, Nat.reduceMul, Nat.reduceSub, Nat.reduceEqDiff, Nat.reduceLT, Nat.reduceLeDiff, Nat.mul_one, Nat.one_mul, Nat.add_zero, Nat.zero_add, e3]
          exact hQ K (hJ.trans hK)
theorem p111 (h : Inv sc n S I R z) : RM (d + 300) 111 [.ref 16, .int x, .int y] (S, I, R, z) (Px d 227 [.int x, .int y] sc n) := by
  obtain ⟨⟨Hd_s16, Hd_s52, Hd_s53, Hd_s54, Hd_s55, Hd_s56, Hd_s57, Hd_s50, Hd_s51, Hd_s0, Hd_r16_0, Hd_r16_1, Hd_r16_2, Hd_r16_3, Hd_r16_4, Hd_r16_5, Hd_r16_6, Hd_r16_7, Hd_r54_0, Hd_r54_6, Hd_r50_0⟩, hs⟩ := id h.hr; obtain ⟨r, er⟩ : ∃ r, r = 17 := ⟨_, rfl⟩; rw [← er] at hs Hd_r16_0; obtain ⟨hr, ⟨Sd_sr, Sd_s_r___1_, Sd_s_r___2_, Sd_s_r___3_, Sd_s_r___4_, Sd_s_r___5_, Sd_s_r___6_, Sd_s_r___7_, Sd_s_r___8_, Sd_s_r___9_, Sd_s_r___10_, Sd_rr_0, Sd_rr_1, Sd_rr_2, Sd_rr_4, Sd_rr_5, Sd_rr_12, Sd_rr_14, Sd_rr_15, Sd_rr_16, Sd_rr_17⟩, ok, ⟨n3, n6, n7, n8, n9, n10, n11, n13⟩, ⟨a1, a2, a3, a4, a5, a7⟩, ct⟩ := id hs; have hm := h.mr; obtain ⟨⟨Md_s1, Md_s81, Md_s82, Md_s83, Md_s84, Md_s85, Md_s86, Md_s87, Md_s88, Md_s89, Md_s90, Md_s91, Md_s92, Md_s93, Md_s94, Md_s95, Md_s96, Md_s97, Md_s98, Md_s99, Md_s100, Md_s101, Md_s102, Md_r81_0, Md_r81_1, Md_r81_2, Md_r81_4, Md_r81_5, Md_r81_13, Md_r81_14, Md_r81_15, Md_r81_18, Md_r81_20, Md_r81_21, Md_r81_22, Md_r81_23, Md_r81_24, Md_r81_25, Md_r81_26, Md_r81_27, Md_r81_28, Md_r81_29, Md_r81_30, Md_r81_31⟩, hc, okm⟩ := id hm
  have hh := h.hr
  have hd := hh.1
  have h2 := ok.2.1
  rcases q1 : inN x 4 with _ | _
  · simp (disch := omega) only [e111, w111_0, w111_1, w111_4, w111_7, w111_8, w111_9, w111_12, w111_15, w111_17, w111_18, w111_19, w111_22, w111_23, w111_24, w111_24N, w111_25, w111_25N, w111_26, w111_29, w111_32, w111_34, w111_35, w111_36, w111_40, w111_40N, w111_41, w111_44, w111_47, w111_47N, w111_48, w111_50, w111_53, w111_56, w111_58, w111_59, w111_62, w111_65, w111_68, w111_68N, w111_69, w111_72, w111_74, w111_75, w111_76, w111_79, w111_81, w111_82, w111_85, w111_88, w111_90, w111_91, w111_94, w111_97, w111_99, Hd_s16, Hd_s52, Hd_s53, Hd_s54, Hd_s55, Hd_s56, Hd_s57, Hd_s50, Hd_s51, Hd_s0, Hd_r16_0, Hd_r16_1, Hd_r16_2, Hd_r16_3, Hd_r16_4, Hd_r16_5, Hd_r16_6, Hd_r16_7, Hd_r54_0, Hd_r54_6, Hd_r50_0, Sd_sr, Sd_s_r___1_, Sd_s_r___2_, Sd_s_r___3_, Sd_s_r___4_, Sd_s_r___5_, Sd_s_r___6_, Sd_s_r___7_, Sd_s_r___8_, Sd_s_r___9_, Sd_s_r___10_, Sd_rr_0, Sd_rr_1, Sd_rr_2, Sd_rr_4, Sd_rr_5, Sd_rr_12, Sd_rr_14, Sd_rr_15, Sd_rr_16, Sd_rr_17, n3, n6, n7, n8, n9, n10, n11, n13, aPush_s, aPush_n, vrf_s, vrf_n, true_and, and_true, false_and, and_false, true_imp_iff, false_imp_iff, not_true_eq_false, not_false_eq_true, eq_self, true_or, or_true, and_self, if_true, if_false, n_lit, n_of, n_an, Nat.add_sub_cancel, nI_add, pk_mul, n_sub, n_ixT, n_cl, n_leT, n_leF, n_ltT, n_ltF, n_eqT, n_eqF, Nat.reduceAdd, Nat.reduceMul, Nat.reduceSub, Nat.reduceEqDiff, Nat.reduceLT, Nat.reduceLeDiff, Nat.mul_one, Nat.one_mul, Nat.add_zero, Nat.zero_add, le_T, b2n_t, b2n_f, nz0, nz1, c127, q1]
    refine Px.mk h.1 ?_
    simp (disch := omega) only [e227, w227_0, w227_1, w227_4, w227_7, w227_8, w227_9, w227_12, w227_15, w227_17, w227_18, w227_19, w227_22, w227_23, w227_24, w227_27, w227_29, w227_30, w227_31, w227_33, w227_34, w227_37, w227_38, w227_39, w227_42, w227_43, w227_46, w227_48, w227_49, w227_50, w227_51, w227_52, w227_53, w227_55, w227_57, w227_59, w227_62, w227_63, w227_64, w227_67, w227_70, w227_72, w227_73, w227_74, w227_75, w227_78, w227_81, w227_82, w227_83, w227_86, w227_89, w227_91, Md_s1, Md_s81, Md_s82, Md_s83, Md_s84, Md_s85, Md_s86, Md_s87, Md_s88, Md_s89, Md_s90, Md_s91, Md_s92, Md_s93, Md_s94, Md_s95, Md_s96, Md_s97, Md_s98, Md_s99, Md_s100, Md_s101, Md_s102, Md_r81_0, Md_r81_1, Md_r81_2, Md_r81_4, Md_r81_5, Md_r81_13, Md_r81_14, Md_r81_15, Md_r81_18, Md_r81_20, Md_r81_21, Md_r81_22, Md_r81_23, Md_r81_24, Md_r81_25, Md_r81_26, Md_r81_27, Md_r81_28, Md_r81_29, Md_r81_30, Md_r81_31, aPush_s, aPush_n, vrf_s, vrf_n, true_and, and_true, false_and, and_false, true_imp_iff, false_imp_iff, not_true_eq_false, not_false_eq_true, eq_self, true_or, or_true, and_self, if_true, if_false, n_lit, n_of, n_an, Nat.add_sub_cancel, nI_add, pk_mul, n_sub, n_ixT, n_cl, n_leT, n_leF, n_ltT, n_ltF, n_eqT, n_eqF, Nat.reduceAdd, Nat.reduceMul, Nat.reduceSub, Nat.reduceEqDiff, Nat.reduceLT, Nat.reduceLeDiff, Nat.mul_one, Nat.one_mul, Nat.add_zero, Nat.zero_add, le_T, c135b, bw_0, b2n_t, b2n_f, nz0, nz1, c222, q1]
    exact Pe.mk h
  · obtain ⟨i, hi, rfl⟩ := inN_T (by decide) q1
    rcases q2 : inN y (G I 2) with _ | _
    · simp (disch := omega) only [e111, w111_0, w111_1, w111_4, w111_7, w111_8, w111_9, w111_12, w111_15, w111_17, w111_18, w111_19, w111_22, w111_23, w111_24, w111_24N, w111_25, w111_25N, w111_26, w111_29, w111_32, w111_34, w111_35, w111_36, w111_40, w111_40N, w111_41, w111_44, w111_47, w111_47N, w111_48, w111_50, w111_53, w111_56, w111_58, w111_59, w111_62, w111_65, w111_68, w111_68N, w111_69, w111_72, w111_74, w111_75, w111_76, w111_79, w111_81, w111_82, w111_85, w111_88, w111_90, w111_91, w111_94, w111_97, w111_99, Hd_s16, Hd_s52, Hd_s53, Hd_s54, Hd_s55, Hd_s56, Hd_s57, Hd_s50, Hd_s51, Hd_s0, Hd_r16_0, Hd_r16_1, Hd_r16_2, Hd_r16_3, Hd_r16_4, Hd_r16_5, Hd_r16_6, Hd_r16_7, Hd_r54_0, Hd_r54_6, Hd_r50_0, Sd_sr, Sd_s_r___1_, Sd_s_r___2_, Sd_s_r___3_, Sd_s_r___4_, Sd_s_r___5_, Sd_s_r___6_, Sd_s_r___7_, Sd_s_r___8_, Sd_s_r___9_, Sd_s_r___10_, Sd_rr_0, Sd_rr_1, Sd_rr_2, Sd_rr_4, Sd_rr_5, Sd_rr_12, Sd_rr_14, Sd_rr_15, Sd_rr_16, Sd_rr_17, n3, n6, n7, n8, n9, n10, n11, n13, aPush_s, aPush_n, vrf_s, vrf_n, true_and, and_true, false_and, and_false, true_imp_iff, false_imp_iff, not_true_eq_false, not_false_eq_true, eq_self, true_or, or_true, and_self, if_true, if_false, n_lit, n_of, n_an, Nat.add_sub_cancel, nI_add, pk_mul, n_sub, n_ixT, n_cl, n_leT, n_leF, n_ltT, n_ltF, n_eqT, n_eqF, Nat.reduceAdd, Nat.reduceMul, Nat.reduceSub, Nat.reduceEqDiff, Nat.reduceLT, Nat.reduceLeDiff, Nat.mul_one, Nat.one_mul, Nat.add_zero, Nat.zero_add, le_T, b2n_t, b2n_f, nz0, nz1, c127, q1, c123 hh, q2]
      refine Px.mk h.1 ?_
      simp (disch := omega) only [e227, w227_0, w227_1, w227_4, w227_7, w227_8, w227_9, w227_12, w227_15, w227_17, w227_18, w227_19, w227_22, w227_23, w227_24, w227_27, w227_29, w227_30, w227_31, w227_33, w227_34, w227_37, w227_38, w227_39, w227_42, w227_43, w227_46, w227_48, w227_49, w227_50, w227_51, w227_52, w227_53, w227_55, w227_57, w227_59, w227_62, w227_63, w227_64, w227_67, w227_70, w227_72, w227_73, w227_74, w227_75, w227_78, w227_81, w227_82, w227_83, w227_86, w227_89, w227_91, Md_s1, Md_s81, Md_s82, Md_s83, Md_s84, Md_s85, Md_s86, Md_s87, Md_s88, Md_s89, Md_s90, Md_s91, Md_s92, Md_s93, Md_s94, Md_s95, Md_s96, Md_s97, Md_s98, Md_s99, Md_s100, Md_s101, Md_s102, Md_r81_0, Md_r81_1, Md_r81_2, Md_r81_4, Md_r81_5, Md_r81_13, Md_r81_14, Md_r81_15, Md_r81_18, Md_r81_20, Md_r81_21, Md_r81_22, Md_r81_23, Md_r81_24, Md_r81_25, Md_r81_26, Md_r81_27, Md_r81_28, Md_r81_29, Md_r81_30, Md_r81_31, aPush_s, aPush_n, vrf_s, vrf_n, true_and, and_true, false_and, and_false, true_imp_iff, false_imp_iff, not_true_eq_false, not_false_eq_true, eq_self, true_or, or_true, and_self, if_true, if_false, n_lit, n_of, n_an, Nat.add_sub_cancel, nI_add, pk_mul, n_sub, n_ixT, n_cl, n_leT, n_leF, n_ltT, n_ltF, n_eqT, n_eqF, Nat.reduceAdd, Nat.reduceMul, Nat.reduceSub, Nat.reduceEqDiff, Nat.reduceLT, Nat.reduceLeDiff, Nat.mul_one, Nat.one_mul, Nat.add_zero, Nat.zero_add, le_T, c135b, bw_0, b2n_t, b2n_f, nz0, nz1, c222, q1, c140 hm, q2]
      exact Pe.mk h
    · obtain ⟨q, hq, rfl⟩ := inN_T (by omega) q2
      obtain ⟨m, sp, s1, u1, u2, u3, u4⟩ := h.sp hi
      obtain ⟨s2, s3, s4, s5, s6, -, -, -⟩ := id sp
      rcases u3 with ⟨u3, rfl⟩ | u3
      · have v1 : I (58 + 2 * i) 1 = -nI 1 := u2.trans u3
        simp (disch := omega) only [e111, w111_0, w111_1, w111_4, w111_7, w111_8, w111_9, w111_12, w111_15, w111_17, w111_18, w111_19, w111_22, w111_23, w111_24, w111_24N, w111_25, w111_25N, w111_26, w111_29, w111_32, w111_34, w111_35, w111_36, w111_40, w111_40N, w111_41, w111_44, w111_47, w111_47N, w111_48, w111_50, w111_53, w111_56, w111_58, w111_59, w111_62, w111_65, w111_68, w111_68N, w111_69, w111_72, w111_74, w111_75, w111_76, w111_79, w111_81, w111_82, w111_85, w111_88, w111_90, w111_91, w111_94, w111_97, w111_99, Hd_s16, Hd_s52, Hd_s53, Hd_s54, Hd_s55, Hd_s56, Hd_s57, Hd_s50, Hd_s51, Hd_s0, Hd_r16_0, Hd_r16_1, Hd_r16_2, Hd_r16_3, Hd_r16_4, Hd_r16_5, Hd_r16_6, Hd_r16_7, Hd_r54_0, Hd_r54_6, Hd_r50_0, Sd_sr, Sd_s_r___1_, Sd_s_r___2_, Sd_s_r___3_, Sd_s_r___4_, Sd_s_r___5_, Sd_s_r___6_, Sd_s_r___7_, Sd_s_r___8_, Sd_s_r___9_, Sd_s_r___10_, Sd_rr_0, Sd_rr_1, Sd_rr_2, Sd_rr_4, Sd_rr_5, Sd_rr_12, Sd_rr_14, Sd_rr_15, Sd_rr_16, Sd_rr_17, n3, n6, n7, n8, n9, n10, n11, n13, aPush_s, aPush_n, vrf_s, vrf_n, true_and, and_true, false_and, and_false, true_imp_iff, false_imp_iff, not_true_eq_false, not_false_eq_true, eq_self, true_or, or_true, and_self, if_true, if_false, n_lit, n_of, n_an, Nat.add_sub_cancel, nI_add, pk_mul, n_sub, n_ixT, n_cl, n_leT, n_leF, n_ltT, n_ltF, n_eqT, n_eqF, Nat.reduceAdd, Nat.reduceMul, Nat.reduceSub, Nat.reduceEqDiff, Nat.reduceLT, Nat.reduceLeDiff, Nat.mul_one, Nat.one_mul, Nat.add_zero, Nat.zero_add, le_T, b2n_t, b2n_f, nz0, nz1, c127, q1, c123 hh, q2, s1, s2, c1 s2, v1, decide_true]
        refine Px.mk h.1 ?_
        simp (disch := omega) only [e227, w227_0, w227_1, w227_4, w227_7, w227_8, w227_9, w227_12, w227_15, w227_17, w227_18, w227_19, w227_22, w227_23, w227_24, w227_27, w227_29, w227_30, w227_31, w227_33, w227_34, w227_37, w227_38, w227_39, w227_42, w227_43, w227_46, w227_48, w227_49, w227_50, w227_51, w227_52, w227_53, w227_55, w227_57, w227_59, w227_62, w227_63, w227_64, w227_67, w227_70, w227_72, w227_73, w227_74, w227_75, w227_78, w227_81, w227_82, w227_83, w227_86, w227_89, w227_91, Md_s1, Md_s81, Md_s82, Md_s83, Md_s84, Md_s85, Md_s86, Md_s87, Md_s88, Md_s89, Md_s90, Md_s91, Md_s92, Md_s93, Md_s94, Md_s95, Md_s96, Md_s97, Md_s98, Md_s99, Md_s100, Md_s101, Md_s102, Md_r81_0, Md_r81_1, Md_r81_2, Md_r81_4, Md_r81_5, Md_r81_13, Md_r81_14, Md_r81_15, Md_r81_18, Md_r81_20, Md_r81_21, Md_r81_22, Md_r81_23, Md_r81_24, Md_r81_25, Md_r81_26, Md_r81_27, Md_r81_28, Md_r81_29, Md_r81_30, Md_r81_31, aPush_s, aPush_n, vrf_s, vrf_n, true_and, and_true, false_and, and_false, true_imp_iff, false_imp_iff, not_true_eq_false, not_false_eq_true, eq_self, true_or, or_true, and_self, if_true, if_false, n_lit, n_of, n_an, Nat.add_sub_cancel, nI_add, pk_mul, n_sub, n_ixT, n_cl, n_leT, n_leF, n_ltT, n_ltF, n_eqT, n_eqF, Nat.reduceAdd, Nat.reduceMul, Nat.reduceSub, Nat.reduceEqDiff, Nat.reduceLT, Nat.reduceLeDiff, Nat.mul_one, Nat.one_mul, Nat.add_zero, Nat.zero_add, le_T, c135b, bw_0, b2n_t, b2n_f, nz0, nz1, c222, q1, c140 hm, q2, u3, n_m1le]
        exact Pe.mk h
      · have v0 : decide (I (58 + 2 * i) 1 = -nI 1) = false := by
          rw [u2]
          rcases u3 with e | e <;> rw [e] <;> decide
        have v2 : nI 0 ≤ I 94 i := by rcases u3 with e | e <;> rw [e] <;> decide
        simp (disch := omega) only [e111, w111_0, w111_1, w111_4, w111_7, w111_8, w111_9, w111_12, w111_15, w111_17, w111_18, w111_19, w111_22, w111_23, w111_24, w111_24N, w111_25, w111_25N, w111_26, w111_29, w111_32, w111_34, w111_35, w111_36, w111_40, w111_40N, w111_41, w111_44, w111_47, w111_47N, w111_48, w111_50, w111_53, w111_56, w111_58, w111_59, w111_62, w111_65, w111_68, w111_68N, w111_69, w111_72, w111_74, w111_75, w111_76, w111_79, w111_81, w111_82, w111_85, w111_88, w111_90, w111_91, w111_94, w111_97, w111_99, Hd_s16, Hd_s52, Hd_s53, Hd_s54, Hd_s55, Hd_s56, Hd_s57, Hd_s50, Hd_s51, Hd_s0, Hd_r16_0, Hd_r16_1, Hd_r16_2, Hd_r16_3, Hd_r16_4, Hd_r16_5, Hd_r16_6, Hd_r16_7, Hd_r54_0, Hd_r54_6, Hd_r50_0, Sd_sr, Sd_s_r___1_, Sd_s_r___2_, Sd_s_r___3_, Sd_s_r___4_, Sd_s_r___5_, Sd_s_r___6_, Sd_s_r___7_, Sd_s_r___8_, Sd_s_r___9_, Sd_s_r___10_, Sd_rr_0, Sd_rr_1, Sd_rr_2, Sd_rr_4, Sd_rr_5, Sd_rr_12, Sd_rr_14, Sd_rr_15, Sd_rr_16, Sd_rr_17, n3, n6, n7, n8, n9, n10, n11, n13, aPush_s, aPush_n, vrf_s, vrf_n, true_and, and_true, false_and, and_false, true_imp_iff, false_imp_iff, not_true_eq_false, not_false_eq_true, eq_self, true_or, or_true, and_self, if_true, if_false, n_lit, n_of, n_an, Nat.add_sub_cancel, nI_add, pk_mul, n_sub, n_ixT, n_cl, n_leT, n_leF, n_ltT, n_ltF, n_eqT, n_eqF, Nat.reduceAdd, Nat.reduceMul, Nat.reduceSub, Nat.reduceEqDiff, Nat.reduceLT, Nat.reduceLeDiff, Nat.mul_one, Nat.one_mul, Nat.add_zero, Nat.zero_add, le_T, b2n_t, b2n_f, nz0, nz1, c127, q1, c123 hh, q2, s1, s2, c1 s2, v0]
        refine l111 (pv := fun k => I 96 (24 * i + k)) hd (by assumption) (by omega) (by omega) sp u4 hs hq m 0 I (Nat.zero_add _) (Sc.refl r I) ?_
        intro J hJ
        subst er
        have hJf := hJ.fr
        obtain ⟨hmJ, eG⟩ := h.mrJ hJf
        have j94 : J 94 i = I 94 i := by rw [hJf 94 (by omega)]
        have j95 : J 95 i = nI m := by rw [hJf 95 (by omega)]; exact u1
        refine Px.mk (h.k15 hJf) ?_
        simp (disch := omega) only [e227, w227_0, w227_1, w227_4, w227_7, w227_8, w227_9, w227_12, w227_15, w227_17, w227_18, w227_19, w227_22, w227_23, w227_24, w227_27, w227_29, w227_30, w227_31, w227_33, w227_34, w227_37, w227_38, w227_39, w227_42, w227_43, w227_46, w227_48, w227_49, w227_50, w227_51, w227_52, w227_53, w227_55, w227_57, w227_59, w227_62, w227_63, w227_64, w227_67, w227_70, w227_72, w227_73, w227_74, w227_75, w227_78, w227_81, w227_82, w227_83, w227_86, w227_89, w227_91, Md_s1, Md_s81, Md_s82, Md_s83, Md_s84, Md_s85, Md_s86, Md_s87, Md_s88, Md_s89, Md_s90, Md_s91, Md_s92, Md_s93, Md_s94, Md_s95, Md_s96, Md_s97, Md_s98, Md_s99, Md_s100, Md_s101, Md_s102, Md_r81_0, Md_r81_1, Md_r81_2, Md_r81_4, Md_r81_5, Md_r81_13, Md_r81_14, Md_r81_15, Md_r81_18, Md_r81_20, Md_r81_21, Md_r81_22, Md_r81_23, Md_r81_24, Md_r81_25, Md_r81_26, Md_r81_27, Md_r81_28, Md_r81_29, Md_r81_30, Md_r81_31, aPush_s, aPush_n, vrf_s, vrf_n, true_and, and_true, false_and, and_false, true_imp_iff, false_imp_iff, not_true_eq_false, not_false_eq_true, eq_self, true_or, or_true, and_self, if_true, if_false, n_lit, n_of, n_an, Nat.add_sub_cancel, nI_add, pk_mul, n_sub, n_ixT, n_cl, n_leT, n_leF, n_ltT, n_ltF, n_eqT, n_eqF, Nat.reduceAdd, Nat.reduceMul, Nat.reduceSub, Nat.reduceEqDiff, Nat.reduceLT, Nat.reduceLeDiff, Nat.mul_one, Nat.one_mul, Nat.add_zero, Nat.zero_add, le_T, c135b, bw_0, b2n_t, b2n_f, nz0, nz1, c222, q1, c140 hmJ, eG, q2, j94, v2]
        refine l227 (pv := fun k => I 96 (24 * i + k)) hmJ hi (fun k _ => by rw [hJf 96 (by omega)]) j95 s6 (by rw [eG]; exact hq) m 0 J _ (Nat.zero_add _) (Si.refl J) ?_
        intro K hK
        rw [eG]
        exact Pe.mk ((h.scr hJ).si hK)
end
