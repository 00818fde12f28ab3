/-! even: both sides -/
theorem sLin_le (g : Nat → Nat) (w a : Nat) : ∀ f A n, sLin g w a f A n ≤ n + f
  | 0, A, n => Nat.le_refl _
  | f + 1, A, n => by
    unfold sLin
    split
    · omega
    · split
      · omega
      · have := sLin_le g w a f (A ||| 2 ^ (by assumption : Nat × Int32).1) (n + if sPl g w (by assumption : Nat × Int32).1 = 0 then 1 else 0)
        refine Nat.le_trans this ?_
        split <;> omega
theorem sLines_le (g : Nat → Nat) (w a : Nat) : sLines g w a ≤ 6 := by
  have := sLin_le g w a 6 0 0
  unfold sLines
  omega
def sHg (g : Nat → Nat) (a L k : Nat) : Nat := sm k (fun w => if L ≤ sLines g w a then sW g w else 0)
def sHw (g : Nat → Nat) (a i k : Nat) : Nat := sm k (fun w => if sLines g w a = i then sW g w else 0)
theorem sHg_split (g : Nat → Nat) (a L : Nat) : ∀ k, sHg g a L k = sHw g a L k + sHg g a (L + 1) k
  | 0 => rfl
  | k + 1 => by
    have ih := sHg_split g a L k
    show sHg g a L k + (if L ≤ sLines g k a then sW g k else 0) = sHw g a L k + (if sLines g k a = L then sW g k else 0) + (sHg g a (L + 1) k + (if L + 1 ≤ sLines g k a then sW g k else 0))
    by_cases e1 : sLines g k a = L
    · rw [if_pos (by omega), if_pos e1, if_neg (by omega)]
      omega
    · by_cases e2 : L + 1 ≤ sLines g k a
      · rw [if_pos (by omega), if_neg e1, if_pos e2]
        omega
      · rw [if_neg (by omega), if_neg e1, if_neg e2]
        omega
theorem sHw_7 (g : Nat → Nat) (a i : Nat) (hi : 7 ≤ i) : ∀ k, sHw g a i k = 0
  | 0 => rfl
  | k + 1 => by
    have ih := sHw_7 g a i hi k
    have := sLines_le g k a
    show sHw g a i k + (if sLines g k a = i then sW g k else 0) = 0
    rw [if_neg (by omega), ih]
theorem sHg_0 (g : Nat → Nat) (a : Nat) : sHg g a 0 (g 1) = sWt g (2 ^ g 1 - 1) := by
  apply sm_cong
  intro k hk
  rw [if_pos (Nat.zero_le _), Nat.testBit_two_pow_sub_one, decide_eq_true hk, if_pos rfl]
theorem sHg_le {g : Nat → Nat} (ok : Ok g) (a L : Nat) {k : Nat} (hk : k ≤ g 1) : sHg g a L k ≤ 1188 := by
  have h1 := ok.1
  have := sm_le (f := fun w => if L ≤ sLines g w a then sW g w else 0) (c := 99) (n := k) (fun w hw => by
    split
    · exact sW_le ok (by omega)
    · omega)
  unfold sHg
  omega
theorem sHw_le {g : Nat → Nat} (ok : Ok g) (a L : Nat) {k : Nat} (hk : k ≤ g 1) : sHw g a L k ≤ 1188 := by
  have := sHg_split g a L k
  have := sHg_le ok a L hk
  omega
def sEv (h : Nat → Nat) (all : Nat) : Nat → Nat → Int32
  | 0, _ => -nI 1000000005
  | j + 1, L => if 2 * h L ≤ all then nI L else sEv h all j (L + 1)
def sEven (g : Nat → Nat) (a : Nat) : Int32 := sEv (fun L => sHg g a L (g 1)) (sWt g (2 ^ g 1 - 1)) 9 1
/-- all but what a State only writes on, the third row too -/
def Sx (r : Nat) (I I' : Nat → Nat → Int32) : Prop := ∀ p, p ≠ r + 8 → p ≠ r + 9 → p ≠ r + 10 → I' p = I p
theorem Sx.refl (r : Nat) (I : Nat → Nat → Int32) : Sx r I I := fun _ _ _ _ => rfl
theorem Sx.trans {r : Nat} {A B C : Nat → Nat → Int32} (h : Sx r A B) (h2 : Sx r B C) : Sx r A C := fun q h3 h4 h5 => (h2 q h3 h4 h5).trans (h q h3 h4 h5)
theorem Sc.sx {r : Nat} {A B : Nat → Nat → Int32} (h : Sc r A B) : Sx r A B := fun q h3 h4 _ => h q h3 h4 h4
theorem Sx.w10 {r j : Nat} {v : Int32} {I : Nat → Nat → Int32} : Sx r I (aW I (r + 10) j v) := fun _ _ _ h => aW_o h
theorem Sx.fr {r : Nat} {A B : Nat → Nat → Int32} (h : Sx r A B) : Fr r A B := fun q h3 => h q (by omega) (by omega) (by omega)
theorem Cs.sx {r : Nat} {g : Nat → Nat} {S : Nat → Nat × Nat} {I I' : Nat → Nat → Int32} {R : Nat → Nat → Option Nat} (hs : Cs S I R r g) (h : Sx r I I') : Cs S I' R r g := hs.cong (fun q hq => h q (by have := hs.1; omega) (by have := hs.1; omega) (by have := hs.1; omega))
theorem Inv.sx {sc : (Nat × Nat) × (Nat → Int32)} {n : Nat} {S : Nat → Nat × Nat} {I J : Nat → Nat → Int32} {R : Nat → Nat → Option Nat} {z : Nat × Nat} (h : Inv sc n S I R z) (e : Sx 17 I J) : Inv sc n S J R z := by
  have eG : G J = G I := by
    unfold G
    rw [e 82 (by omega) (by omega) (by omega)]
  refine h.nw e.fr.nw (h.mr.cong (e 1 (by omega) (by omega) (by omega)) (e 82 (by omega) (by omega) (by omega))) ?_
  rw [eG]
  exact h.cs.sx e
section
variable {d r : Nat} {g : Nat → Nat} {S : Nat → Nat × Nat} {I : Nat → Nat → Int32} {R : Nat → Nat → Option Nat} {z : Nat × Nat} {Q : Option Value → HS → Prop}
theorem l41a {a : Nat} {v3 v4 : Value} (hs : Cs S I R r g) (hQ : ∀ J, Sx r I J → (∀ i, i < 7 → J (r + 10) i = nI 0) → RB (d + 6) 41 24 [.ref r, .int (nI a), .int (nI 7), v3, v4] [] (S, J, R, z) Q) : ∀ (j k : Nat) (J : Nat → Nat → Int32), k + j = 7 → Sx r I J → (∀ i, i < k → J (r + 10) i = nI 0) → RB (d + 6) 41 2 [.ref r, .int (nI a), .int (nI k), v3, v4] [] (S, J, R, z) Q
  | 0, k, J, h, hJ, h0 => by
    obtain rfl : k = 7 := by omega
    obtain ⟨hr, ⟨Sd_sr, Sd_s_r___1_, Sd_s_r___2_, Sd_s_r___3_, Sd_s_r___4_, Sd_s_r___5_, Sd_s_r___6_, Sd_s_r___7_, Sd_s_r___8_, Sd_s_r___9_, Sd_s_r___10_, Sd_rr_0, Sd_rr_1, Sd_rr_2, Sd_rr_4, Sd_rr_5, Sd_rr_12, Sd_rr_14, Sd_rr_15, Sd_rr_16, Sd_rr_17⟩, ok, ⟨n3, n6, n7, n8, n9, n10, n11, n13⟩, ⟨a1, a2, a3, a4, a5, a7⟩, ct⟩ := id (hs.sx hJ)
    rw [w41_2]
    simp (disch := omega) only [w41_3, w41_4, w41_7, w41_8, w41_11, w41_12, w41_15, w41_16, w41_17, w41_18, w41_21, Sd_sr, Sd_s_r___1_, Sd_s_r___2_, Sd_s_r___3_, Sd_s_r___4_, Sd_s_r___5_, Sd_s_r___6_, Sd_s_r___7_, Sd_s_r___8_, Sd_s_r___9_, Sd_s_r___10_, Sd_rr_0, Sd_rr_1, Sd_rr_2, Sd_rr_4, Sd_rr_5, Sd_rr_12, Sd_rr_14, Sd_rr_15, Sd_rr_16, Sd_rr_17, aPush_s, aPush_n, vrf_s, vrf_n, true_and, and_true, false_and, and_false, true_imp_iff, false_imp_iff, not_true_eq_false, not_false_eq_true, eq_self, true_or, or_true, and_self, if_true, if_false, n_lit, n_of, n_an, Nat.add_sub_cancel, nI_add, pk_mul, n_sub, n_ixT, n_cl, n_leT, n_leF, n_ltT, n_ltF, n_eqT, n_eqF, Nat.reduceAdd, Nat.reduceMul, Nat.reduceSub, Nat.reduceEqDiff, Nat.reduceLT, Nat.reduceLeDiff, Nat.mul_one, Nat.one_mul, Nat.add_zero, Nat.zero_add]
    exact hQ J hJ h0
  | j + 1, k, J, h, hJ, h0 => by
    have ih := fun J => l41a hs hQ j (k + 1) J (by omega)
    obtain ⟨hr, ⟨Sd_sr, Sd_s_r___1_, Sd_s_r___2_, Sd_s_r___3_, Sd_s_r___4_, Sd_s_r___5_, Sd_s_r___6_, Sd_s_r___7_, Sd_s_r___8_, Sd_s_r___9_, Sd_s_r___10_, Sd_rr_0, Sd_rr_1, Sd_rr_2, Sd_rr_4, Sd_rr_5, Sd_rr_12, Sd_rr_14, Sd_rr_15, Sd_rr_16, Sd_rr_17⟩, ok, ⟨n3, n6, n7, n8, n9, n10, n11, n13⟩, ⟨a1, a2, a3, a4, a5, a7⟩, ct⟩ := id (hs.sx hJ)
    rw [w41_2]
    simp (disch := omega) only [w41_3, w41_4, w41_7, w41_8, w41_11, w41_12, w41_15, w41_16, w41_17, w41_18, w41_21, Sd_sr, Sd_s_r___1_, Sd_s_r___2_, Sd_s_r___3_, Sd_s_r___4_, Sd_s_r___5_, Sd_s_r___6_, Sd_s_r___7_, Sd_s_r___8_, Sd_s_r___9_, Sd_s_r___10_, Sd_rr_0, Sd_rr_1, Sd_rr_2, Sd_rr_4, Sd_rr_5, Sd_rr_12, Sd_rr_14, Sd_rr_15, Sd_rr_16, Sd_rr_17, aPush_s, aPush_n, vrf_s, vrf_n, true_and, and_true, false_and, and_false, true_imp_iff, false_imp_iff, not_true_eq_false, not_false_eq_true, eq_self, true_or, or_true, and_self, if_true, if_false, n_lit, n_of, n_an, Nat.add_sub_cancel, nI_add, pk_mul, n_sub, n_ixT, n_cl, n_leT, n_leF, n_ltT, n_ltF, n_eqT, n_eqF, Nat.reduceAdd, Nat.reduceMul, Nat.reduceSub, Nat.reduceEqDiff, Nat.reduceLT, Nat.reduceLeDiff, Nat.mul_one, Nat.one_mul, Nat.add_zero, Nat.zero_add, le_T]
    refine ih _ (hJ.trans Sx.w10) ?_
    intro i hi
    by_cases e : i = k
    · subst e
      exact aW_e
    · exact (aW_i e).trans (h0 i (by omega))
theorem l41b {a : Nat} {v3 v4 : Value} (hs : Cs S I R r g) (ha : a < g 2) (hQ : ∀ J, Sx r I J → (∀ i, i < 7 → J (r + 10) i = nI (sHw g a i (g 1))) → RB (d + 6) 41 60 [.ref r, .int (nI a), .int (nI (g 1)), v3, v4] [] (S, J, R, z) Q) : ∀ (j k : Nat) (J : Nat → Nat → Int32), k + j = g 1 → Sx r I J → (∀ i, i < 7 → J (r + 10) i = nI (sHw g a i k)) → RB (d + 6) 41 26 [.ref r, .int (nI a), .int (nI k), v3, v4] [] (S, J, R, z) Q
  | 0, k, J, h, hJ, h0 => by
    obtain rfl : k = g 1 := by omega
    obtain ⟨hr, ⟨Sd_sr, Sd_s_r___1_, Sd_s_r___2_, Sd_s_r___3_, Sd_s_r___4_, Sd_s_r___5_, Sd_s_r___6_, Sd_s_r___7_, Sd_s_r___8_, Sd_s_r___9_, Sd_s_r___10_, Sd_rr_0, Sd_rr_1, Sd_rr_2, Sd_rr_4, Sd_rr_5, Sd_rr_12, Sd_rr_14, Sd_rr_15, Sd_rr_16, Sd_rr_17⟩, ok, ⟨n3, n6, n7, n8, n9, n10, n11, n13⟩, ⟨a1, a2, a3, a4, a5, a7⟩, ct⟩ := id (hs.sx hJ)
    have h1 := ok.1
    rw [w41_26]
    simp (disch := omega) only [w41_27, w41_28, w41_31, w41_34, w41_35, w41_38, w41_39, w41_40, w41_41, w41_44, w41_45, w41_46, w41_47, w41_50, w41_51, w41_52, w41_53, w41_54, w41_57, Sd_sr, Sd_s_r___1_, Sd_s_r___2_, Sd_s_r___3_, Sd_s_r___4_, Sd_s_r___5_, Sd_s_r___6_, Sd_s_r___7_, Sd_s_r___8_, Sd_s_r___9_, Sd_s_r___10_, Sd_rr_0, Sd_rr_1, Sd_rr_2, Sd_rr_4, Sd_rr_5, Sd_rr_12, Sd_rr_14, Sd_rr_15, Sd_rr_16, Sd_rr_17, n3, n6, n7, n8, n9, n10, n11, n13, aPush_s, aPush_n, vrf_s, vrf_n, true_and, and_true, false_and, and_false, true_imp_iff, false_imp_iff, not_true_eq_false, not_false_eq_true, eq_self, true_or, or_true, and_self, if_true, if_false, n_lit, n_of, n_an, Nat.add_sub_cancel, nI_add, pk_mul, n_sub, n_ixT, n_cl, n_leT, n_leF, n_ltT, n_ltF, n_eqT, n_eqF, Nat.reduceAdd, Nat.reduceMul, Nat.reduceSub, Nat.reduceEqDiff, Nat.reduceLT, Nat.reduceLeDiff, Nat.mul_one, Nat.one_mul, Nat.add_zero, Nat.zero_add]
    exact hQ J hJ h0
  | j + 1, k, J, h, hJ, h0 => by
    have ih := fun J => l41b hs ha hQ j (k + 1) J (by omega)
    have hk : k < g 1 := by omega
    obtain ⟨hr, ⟨Sd_sr, Sd_s_r___1_, Sd_s_r___2_, Sd_s_r___3_, Sd_s_r___4_, Sd_s_r___5_, Sd_s_r___6_, Sd_s_r___7_, Sd_s_r___8_, Sd_s_r___9_, Sd_s_r___10_, Sd_rr_0, Sd_rr_1, Sd_rr_2, Sd_rr_4, Sd_rr_5, Sd_rr_12, Sd_rr_14, Sd_rr_15, Sd_rr_16, Sd_rr_17⟩, ok, ⟨n3, n6, n7, n8, n9, n10, n11, n13⟩, ⟨a1, a2, a3, a4, a5, a7⟩, ct⟩ := id (hs.sx hJ)
    have h1 := ok.1
    have hl := sLines_le g k a
    rw [w41_26]
    simp (disch := omega) only [w41_27, w41_28, w41_31, w41_34, w41_35, w41_38, w41_39, w41_40, w41_41, w41_44, w41_45, w41_46, w41_47, w41_50, w41_51, w41_52, w41_53, w41_54, w41_57, Sd_sr, Sd_s_r___1_, Sd_s_r___2_, Sd_s_r___3_, Sd_s_r___4_, Sd_s_r___5_, Sd_s_r___6_, Sd_s_r___7_, Sd_s_r___8_, Sd_s_r___9_, Sd_s_r___10_, Sd_rr_0, Sd_rr_1, Sd_rr_2, Sd_rr_4, Sd_rr_5, Sd_rr_12, Sd_rr_14, Sd_rr_15, Sd_rr_16, Sd_rr_17, n3, n6, n7, n8, n9, n10, n11, n13, aPush_s, aPush_n, vrf_s, vrf_n, true_and, and_true, false_and, and_false, true_imp_iff, false_imp_iff, not_true_eq_false, not_false_eq_true, eq_self, true_or, or_true, and_self, if_true, if_false, n_lit, n_of, n_an, Nat.add_sub_cancel, nI_add, pk_mul, n_sub, n_ixT, n_cl, n_leT, n_leF, n_ltT, n_ltF, n_eqT, n_eqF, Nat.reduceAdd, Nat.reduceMul, Nat.reduceSub, Nat.reduceEqDiff, Nat.reduceLT, Nat.reduceLeDiff, Nat.mul_one, Nat.one_mul, Nat.add_zero, Nat.zero_add]
    refine c40 (hs.sx hJ) hk ha ?_
    intro K hK
    have q0 := h0 (sLines g k a) (by omega)
    have k10 : K (r + 10) = J (r + 10) := hK _ (by omega) (by omega) (by omega)
    have k2 : K (r + 2) k = nI (sW g k) := by
      rw [hK _ (by omega) (by omega) (by omega)]
      exact a2 k hk
    simp (disch := omega) only [w41_27, w41_28, w41_31, w41_34, w41_35, w41_38, w41_39, w41_40, w41_41, w41_44, w41_45, w41_46, w41_47, w41_50, w41_51, w41_52, w41_53, w41_54, w41_57, Sd_sr, Sd_s_r___1_, Sd_s_r___2_, Sd_s_r___3_, Sd_s_r___4_, Sd_s_r___5_, Sd_s_r___6_, Sd_s_r___7_, Sd_s_r___8_, Sd_s_r___9_, Sd_s_r___10_, Sd_rr_0, Sd_rr_1, Sd_rr_2, Sd_rr_4, Sd_rr_5, Sd_rr_12, Sd_rr_14, Sd_rr_15, Sd_rr_16, Sd_rr_17, aPush_s, aPush_n, vrf_s, vrf_n, true_and, and_true, false_and, and_false, true_imp_iff, false_imp_iff, not_true_eq_false, not_false_eq_true, eq_self, true_or, or_true, and_self, if_true, if_false, n_lit, n_of, n_an, Nat.add_sub_cancel, nI_add, pk_mul, n_sub, n_ixT, n_cl, n_leT, n_leF, n_ltT, n_ltF, n_eqT, n_eqF, Nat.reduceAdd, Nat.reduceMul, Nat.reduceSub, Nat.reduceEqDiff, Nat.reduceLT, Nat.reduceLeDiff, Nat.mul_one, Nat.one_mul, Nat.add_zero, Nat.zero_add, le_T, k10, q0, k2]
    refine ih _ ((hJ.trans hK.sx).trans Sx.w10) ?_
    intro i hi
    by_cases e : i = sLines g k a
    · subst e
      rw [aW_e]
      congr 1
      show _ = sHw g a (sLines g k a) k + if _ then _ else _
      rw [if_pos rfl]
    · rw [aW_i e, k10, h0 i hi]
      congr 1
      show _ = sHw g a i k + if _ then _ else _
      rw [if_neg (fun q => e q.symm), Nat.add_zero]
theorem l41c {a : Nat} (hs : Cs S I R r g) (h0 : ∀ i, i < 7 → I (r + 10) i = nI (sHw g a i (g 1))) : ∀ (j L : Nat), L + j = 10 → RB (d + 6) 41 81 [.ref r, .int (nI a), .int (nI (sWt g (2 ^ g 1 - 1))), .int (nI (sHg g a L (g 1))), .int (nI L)] [] (S, I, R, z) Q = Q (some (.int (sEv (fun L => sHg g a L (g 1)) (sWt g (2 ^ g 1 - 1)) j L))) (S, I, R, z)
  | 0, L, h => by
    obtain rfl : L = 10 := by omega
    rw [w41_81]
    simp (disch := omega) only [w41_0, w41_1, w41_3, w41_4, w41_7, w41_8, w41_11, w41_12, w41_15, w41_16, w41_17, w41_18, w41_21, w41_24, w41_25, w41_27, w41_28, w41_31, w41_34, w41_35, w41_38, w41_39, w41_40, w41_41, w41_44, w41_45, w41_46, w41_47, w41_50, w41_51, w41_52, w41_53, w41_54, w41_57, w41_60, w41_61, w41_62, w41_65, w41_68, w41_69, w41_70, w41_71, w41_74, w41_75, w41_76, w41_77, w41_78, w41_79, w41_83, w41_85, w41_88, w41_89, w41_90, w41_91, w41_92, w41_95, w41_97, w41_98, w41_99, w41_101, w41_102, w41_105, w41_106, w41_109, w41_110, w41_113, w41_115, w41_116, w41_119, w41_120, w41_121, w41_122, w41_125, w41_128, w41_130, aPush_s, aPush_n, vrf_s, vrf_n, true_and, and_true, false_and, and_false, true_imp_iff, false_imp_iff, not_true_eq_false, not_false_eq_true, eq_self, true_or, or_true, and_self, if_true, if_false, n_lit, n_of, n_an, Nat.add_sub_cancel, nI_add, pk_mul, n_sub, n_ixT, n_cl, n_leT, n_leF, n_ltT, n_ltF, n_eqT, n_eqF, Nat.reduceAdd, Nat.reduceMul, Nat.reduceSub, Nat.reduceEqDiff, Nat.reduceLT, Nat.reduceLeDiff, Nat.mul_one, Nat.one_mul, Nat.add_zero, Nat.zero_add, sEv]
  | j + 1, L, h => by
    have ih := l41c hs h0 j (L + 1) (by omega)
    obtain ⟨hr, ⟨Sd_sr, Sd_s_r___1_, Sd_s_r___2_, Sd_s_r___3_, Sd_s_r___4_, Sd_s_r___5_, Sd_s_r___6_, Sd_s_r___7_, Sd_s_r___8_, Sd_s_r___9_, Sd_s_r___10_, Sd_rr_0, Sd_rr_1, Sd_rr_2, Sd_rr_4, Sd_rr_5, Sd_rr_12, Sd_rr_14, Sd_rr_15, Sd_rr_16, Sd_rr_17⟩, ok, ⟨n3, n6, n7, n8, n9, n10, n11, n13⟩, ⟨a1, a2, a3, a4, a5, a7⟩, ct⟩ := id hs
    have w1 := sHg_le ok a L (Nat.le_refl (g 1))
    have w2 := sWt_le ok (2 ^ g 1 - 1)
    have w3 := sHg_split g a L (g 1)
    rw [w41_81]
    unfold sEv
    by_cases e : 2 * sHg g a L (g 1) ≤ sWt g (2 ^ g 1 - 1)
    · rw [if_pos e]
      simp (disch := omega) only [w41_0, w41_1, w41_3, w41_4, w41_7, w41_8, w41_11, w41_12, w41_15, w41_16, w41_17, w41_18, w41_21, w41_24, w41_25, w41_27, w41_28, w41_31, w41_34, w41_35, w41_38, w41_39, w41_40, w41_41, w41_44, w41_45, w41_46, w41_47, w41_50, w41_51, w41_52, w41_53, w41_54, w41_57, w41_60, w41_61, w41_62, w41_65, w41_68, w41_69, w41_70, w41_71, w41_74, w41_75, w41_76, w41_77, w41_78, w41_79, w41_83, w41_85, w41_88, w41_89, w41_90, w41_91, w41_92, w41_95, w41_97, w41_98, w41_99, w41_101, w41_102, w41_105, w41_106, w41_109, w41_110, w41_113, w41_115, w41_116, w41_119, w41_120, w41_121, w41_122, w41_125, w41_128, w41_130, Sd_sr, Sd_s_r___1_, Sd_s_r___2_, Sd_s_r___3_, Sd_s_r___4_, Sd_s_r___5_, Sd_s_r___6_, Sd_s_r___7_, Sd_s_r___8_, Sd_s_r___9_, Sd_s_r___10_, Sd_rr_0, Sd_rr_1, Sd_rr_2, Sd_rr_4, Sd_rr_5, Sd_rr_12, Sd_rr_14, Sd_rr_15, Sd_rr_16, Sd_rr_17, aPush_s, aPush_n, vrf_s, vrf_n, true_and, and_true, false_and, and_false, true_imp_iff, false_imp_iff, not_true_eq_false, not_false_eq_true, eq_self, true_or, or_true, and_self, if_true, if_false, n_lit, n_of, n_an, Nat.add_sub_cancel, nI_add, pk_mul, n_sub, n_ixT, n_cl, n_leT, n_leF, n_ltT, n_ltF, n_eqT, n_eqF, Nat.reduceAdd, Nat.reduceMul, Nat.reduceSub, Nat.reduceEqDiff, Nat.reduceLT, Nat.reduceLeDiff, Nat.mul_one, Nat.one_mul, Nat.add_zero, Nat.zero_add, e]
    · rw [if_neg e]
      by_cases f : L < 7
      · have q := h0 L f
        have w4 : sHg g a L (g 1) - sHw g a L (g 1) = sHg g a (L + 1) (g 1) := by omega
        simp (disch := omega) only [w41_0, w41_1, w41_3, w41_4, w41_7, w41_8, w41_11, w41_12, w41_15, w41_16, w41_17, w41_18, w41_21, w41_24, w41_25, w41_27, w41_28, w41_31, w41_34, w41_35, w41_38, w41_39, w41_40, w41_41, w41_44, w41_45, w41_46, w41_47, w41_50, w41_51, w41_52, w41_53, w41_54, w41_57, w41_60, w41_61, w41_62, w41_65, w41_68, w41_69, w41_70, w41_71, w41_74, w41_75, w41_76, w41_77, w41_78, w41_79, w41_83, w41_85, w41_88, w41_89, w41_90, w41_91, w41_92, w41_95, w41_97, w41_98, w41_99, w41_101, w41_102, w41_105, w41_106, w41_109, w41_110, w41_113, w41_115, w41_116, w41_119, w41_120, w41_121, w41_122, w41_125, w41_128, w41_130, Sd_sr, Sd_s_r___1_, Sd_s_r___2_, Sd_s_r___3_, Sd_s_r___4_, Sd_s_r___5_, Sd_s_r___6_, Sd_s_r___7_, Sd_s_r___8_, Sd_s_r___9_, Sd_s_r___10_, Sd_rr_0, Sd_rr_1, Sd_rr_2, Sd_rr_4, Sd_rr_5, Sd_rr_12, Sd_rr_14, Sd_rr_15, Sd_rr_16, Sd_rr_17, aPush_s, aPush_n, vrf_s, vrf_n, true_and, and_true, false_and, and_false, true_imp_iff, false_imp_iff, not_true_eq_false, not_false_eq_true, eq_self, true_or, or_true, and_self, if_true, if_false, n_lit, n_of, n_an, Nat.add_sub_cancel, nI_add, pk_mul, n_sub, n_ixT, n_cl, n_leT, n_leF, n_ltT, n_ltF, n_eqT, n_eqF, Nat.reduceAdd, Nat.reduceMul, Nat.reduceSub, Nat.reduceEqDiff, Nat.reduceLT, Nat.reduceLeDiff, Nat.mul_one, Nat.one_mul, Nat.add_zero, Nat.zero_add, q, w4]
        exact ih
      · have w5 := sHw_7 g a L (by omega) (g 1)
        have w4 : sHg g a L (g 1) = sHg g a (L + 1) (g 1) := by omega
        simp (disch := omega) only [w41_0, w41_1, w41_3, w41_4, w41_7, w41_8, w41_11, w41_12, w41_15, w41_16, w41_17, w41_18, w41_21, w41_24, w41_25, w41_27, w41_28, w41_31, w41_34, w41_35, w41_38, w41_39, w41_40, w41_41, w41_44, w41_45, w41_46, w41_47, w41_50, w41_51, w41_52, w41_53, w41_54, w41_57, w41_60, w41_61, w41_62, w41_65, w41_68, w41_69, w41_70, w41_71, w41_74, w41_75, w41_76, w41_77, w41_78, w41_79, w41_83, w41_85, w41_88, w41_89, w41_90, w41_91, w41_92, w41_95, w41_97, w41_98, w41_99, w41_101, w41_102, w41_105, w41_106, w41_109, w41_110, w41_113, w41_115, w41_116, w41_119, w41_120, w41_121, w41_122, w41_125, w41_128, w41_130, Sd_sr, Sd_s_r___1_, Sd_s_r___2_, Sd_s_r___3_, Sd_s_r___4_, Sd_s_r___5_, Sd_s_r___6_, Sd_s_r___7_, Sd_s_r___8_, Sd_s_r___9_, Sd_s_r___10_, Sd_rr_0, Sd_rr_1, Sd_rr_2, Sd_rr_4, Sd_rr_5, Sd_rr_12, Sd_rr_14, Sd_rr_15, Sd_rr_16, Sd_rr_17, aPush_s, aPush_n, vrf_s, vrf_n, true_and, and_true, false_and, and_false, true_imp_iff, false_imp_iff, not_true_eq_false, not_false_eq_true, eq_self, true_or, or_true, and_self, if_true, if_false, n_lit, n_of, n_an, Nat.add_sub_cancel, nI_add, pk_mul, n_sub, n_ixT, n_cl, n_leT, n_leF, n_ltT, n_ltF, n_eqT, n_eqF, Nat.reduceAdd, Nat.reduceMul, Nat.reduceSub, Nat.reduceEqDiff, Nat.reduceLT, Nat.reduceLeDiff, Nat.mul_one, Nat.one_mul, Nat.add_zero, Nat.zero_add, Nat.sub_zero]
        rw [w4]
        exact ih
theorem c41 {a : Nat} (hs : Cs S I R r g) (ha : a < g 2) (hQ : ∀ J, Sx r I J → Q (some (.int (sEven g a))) (S, J, R, z)) : RM (d + 7) 41 [.ref r, .int (nI a)] (S, I, R, z) Q := by
  simp (disch := omega) only [e41, w41_0, w41_1, w41_3, w41_4, w41_7, w41_8, w41_11, w41_12, w41_15, w41_16, w41_17, w41_18, w41_21, n_lit, n_of, n_an, Nat.add_sub_cancel, nI_add, pk_mul, n_sub, n_ixT, n_cl, n_leT, n_leF, n_ltT, n_ltF, n_eqT, n_eqF, Nat.reduceAdd, Nat.reduceMul, Nat.reduceSub, Nat.reduceEqDiff, Nat.reduceLT, Nat.reduceLeDiff, Nat.mul_one, Nat.one_mul, Nat.add_zero, Nat.zero_add]
  refine l41a hs ?_ 7 0 I rfl (Sx.refl r I) (fun i hi => absurd hi (Nat.not_lt_zero _))
  intro J hJ h0
  simp (disch := omega) only [w41_24, w41_25, n_lit, n_of, n_an, Nat.add_sub_cancel, nI_add, pk_mul, n_sub, n_ixT, n_cl, n_leT, n_leF, n_ltT, n_ltF, n_eqT, n_eqF, Nat.reduceAdd, Nat.reduceMul, Nat.reduceSub, Nat.reduceEqDiff, Nat.reduceLT, Nat.reduceLeDiff, Nat.mul_one, Nat.one_mul, Nat.add_zero, Nat.zero_add, aPush_s, aPush_n, vrf_s, vrf_n, true_and, and_true, false_and, and_false, true_imp_iff, false_imp_iff, not_true_eq_false, not_false_eq_true, eq_self, true_or, or_true, and_self, if_true, if_false]
  refine l41b hs ha ?_ (g 1) 0 J (Nat.zero_add _) hJ h0
  intro K hK h1
  have hsK := hs.sx hK
  obtain ⟨hr, ⟨Sd_sr, Sd_s_r___1_, Sd_s_r___2_, Sd_s_r___3_, Sd_s_r___4_, Sd_s_r___5_, Sd_s_r___6_, Sd_s_r___7_, Sd_s_r___8_, Sd_s_r___9_, Sd_s_r___10_, Sd_rr_0, Sd_rr_1, Sd_rr_2, Sd_rr_4, Sd_rr_5, Sd_rr_12, Sd_rr_14, Sd_rr_15, Sd_rr_16, Sd_rr_17⟩, ok, ⟨n3, n6, n7, n8, n9, n10, n11, n13⟩, ⟨a1, a2, a3, a4, a5, a7⟩, ct⟩ := id hsK
  have g1 := ok.1
  have hp1 : 1 ≤ 2 ^ g 1 := Nat.one_le_two_pow
  have hp2 := pow_12 g1
  have hal : 2 ^ g 1 - 1 < 2147483648 := by omega
  have q0 := h1 0 (by decide)
  have w3 : sWt g (2 ^ g 1 - 1) = sHw g a 0 (g 1) + sHg g a 1 (g 1) := by
    rw [← sHg_0 g a]
    exact sHg_split g a 0 (g 1)
  have w4 : sWt g (2 ^ g 1 - 1) - sHw g a 0 (g 1) = sHg g a 1 (g 1) := by omega
  have w5 : sHw g a 0 (g 1) ≤ sWt g (2 ^ g 1 - 1) := by omega
  simp (disch := omega) only [w41_0, w41_1, w41_3, w41_4, w41_7, w41_8, w41_11, w41_12, w41_15, w41_16, w41_17, w41_18, w41_21, w41_24, w41_25, w41_27, w41_28, w41_31, w41_34, w41_35, w41_38, w41_39, w41_40, w41_41, w41_44, w41_45, w41_46, w41_47, w41_50, w41_51, w41_52, w41_53, w41_54, w41_57, w41_60, w41_61, w41_62, w41_65, w41_68, w41_69, w41_70, w41_71, w41_74, w41_75, w41_76, w41_77, w41_78, w41_79, w41_83, w41_85, w41_88, w41_89, w41_90, w41_91, w41_92, w41_95, w41_97, w41_98, w41_99, w41_101, w41_102, w41_105, w41_106, w41_109, w41_110, w41_113, w41_115, w41_116, w41_119, w41_120, w41_121, w41_122, w41_125, w41_128, w41_130, Sd_sr, Sd_s_r___1_, Sd_s_r___2_, Sd_s_r___3_, Sd_s_r___4_, Sd_s_r___5_, Sd_s_r___6_, Sd_s_r___7_, Sd_s_r___8_, Sd_s_r___9_, Sd_s_r___10_, Sd_rr_0, Sd_rr_1, Sd_rr_2, Sd_rr_4, Sd_rr_5, Sd_rr_12, Sd_rr_14, Sd_rr_15, Sd_rr_16, Sd_rr_17, aPush_s, aPush_n, vrf_s, vrf_n, true_and, and_true, false_and, and_false, true_imp_iff, false_imp_iff, not_true_eq_false, not_false_eq_true, eq_self, true_or, or_true, and_self, if_true, if_false, n_lit, n_of, n_an, Nat.add_sub_cancel, nI_add, pk_mul, n_sub, n_ixT, n_cl, n_leT, n_leF, n_ltT, n_ltF, n_eqT, n_eqF, Nat.reduceAdd, Nat.reduceMul, Nat.reduceSub, Nat.reduceEqDiff, Nat.reduceLT, Nat.reduceLeDiff, Nat.mul_one, Nat.one_mul, Nat.add_zero, Nat.zero_add, c16 hsK, c17 hsK hal, q0, w4]
  rw [l41c hsK h1 9 1 rfl]
  exact hQ K hK
theorem l190b {a all L : Nat} (hm : Mr S I R) (ha : a < G I 2) (hL : L < 10) (hQ : ∀ J v5, Si I J → RB (d + 7) 190 83 [.ref 81, .int (nI a), .int (nI all), .int (nI L), .int (nI (sHg (G I) a L (G I 1))), v5] [] (S, J, R, z) Q) : ∀ (j k : Nat) (J : Nat → Nat → Int32), k + j = G I 1 → Si I J → RB (d + 7) 190 40 [.ref 81, .int (nI a), .int (nI all), .int (nI L), .int (nI (sHg (G I) a L k)), .int (nI k)] [] (S, J, R, z) Q
  | 0, k, J, h, hJ => by
    obtain rfl : k = G I 1 := by omega
    have eG := hJ.G
    obtain ⟨⟨Md_s1, Md_s81, Md_s82, Md_s83, Md_s84, Md_s85, Md_s86, Md_s87, Md_s88, Md_s89, Md_s90, Md_s91, Md_s92, Md_s93, Md_s94, Md_s95, Md_s96, Md_s97, Md_s98, Md_s99, Md_s100, Md_s101, Md_s102, Md_r81_0, Md_r81_1, Md_r81_2, Md_r81_4, Md_r81_5, Md_r81_13, Md_r81_14, Md_r81_15, Md_r81_18, Md_r81_20, Md_r81_21, Md_r81_22, Md_r81_23, Md_r81_24, Md_r81_25, Md_r81_26, Md_r81_27, Md_r81_28, Md_r81_29, Md_r81_30, Md_r81_31⟩, hc, ok⟩ := id hm
    have h1 := ok.1
    rw [w190_40]
    simp (disch := omega) only [w190_42, w190_43, w190_46, w190_47, w190_48, w190_51, w190_53, w190_54, w190_56, w190_57, w190_60, w190_61, w190_64, w190_65, w190_67, w190_70, w190_73, w190_74, w190_75, w190_77, w190_80, Md_s1, Md_s81, Md_s82, Md_s83, Md_s84, Md_s85, Md_s86, Md_s87, Md_s88, Md_s89, Md_s90, Md_s91, Md_s92, Md_s93, Md_s94, Md_s95, Md_s96, Md_s97, Md_s98, Md_s99, Md_s100, Md_s101, Md_s102, Md_r81_0, Md_r81_1, Md_r81_2, Md_r81_4, Md_r81_5, Md_r81_13, Md_r81_14, Md_r81_15, Md_r81_18, Md_r81_20, Md_r81_21, Md_r81_22, Md_r81_23, Md_r81_24, Md_r81_25, Md_r81_26, Md_r81_27, Md_r81_28, Md_r81_29, Md_r81_30, Md_r81_31, aPush_s, aPush_n, vrf_s, vrf_n, true_and, and_true, false_and, and_false, true_imp_iff, false_imp_iff, not_true_eq_false, not_false_eq_true, eq_self, true_or, or_true, and_self, if_true, if_false, n_lit, n_of, n_an, Nat.add_sub_cancel, nI_add, pk_mul, n_sub, n_ixT, n_cl, n_leT, n_leF, n_ltT, n_ltF, n_eqT, n_eqF, Nat.reduceAdd, Nat.reduceMul, Nat.reduceSub, Nat.reduceEqDiff, Nat.reduceLT, Nat.reduceLeDiff, Nat.mul_one, Nat.one_mul, Nat.add_zero, Nat.zero_add, G_eq J, eG]
    exact hQ J _ hJ
  | j + 1, k, J, h, hJ => by
    have ih := fun J => l190b hm ha hL hQ j (k + 1) J (by omega)
    have hk : k < G I 1 := by omega
    have eG := hJ.G
    obtain ⟨⟨Md_s1, Md_s81, Md_s82, Md_s83, Md_s84, Md_s85, Md_s86, Md_s87, Md_s88, Md_s89, Md_s90, Md_s91, Md_s92, Md_s93, Md_s94, Md_s95, Md_s96, Md_s97, Md_s98, Md_s99, Md_s100, Md_s101, Md_s102, Md_r81_0, Md_r81_1, Md_r81_2, Md_r81_4, Md_r81_5, Md_r81_13, Md_r81_14, Md_r81_15, Md_r81_18, Md_r81_20, Md_r81_21, Md_r81_22, Md_r81_23, Md_r81_24, Md_r81_25, Md_r81_26, Md_r81_27, Md_r81_28, Md_r81_29, Md_r81_30, Md_r81_31⟩, hc, ok⟩ := id hm
    have h1 := ok.1
    have hl := sLines_le (G I) k a
    have w1 := sHg_le ok a L (Nat.le_of_lt hk)
    have w2 := sW_le ok hk
    have k12 : k < 12 := by omega
    have e2 : sHg (G I) a L (k + 1) = sHg (G I) a L k + if L ≤ sLines (G I) k a then sW (G I) k else 0 := rfl
    rw [w190_40]
    simp (disch := omega) only [w190_42, w190_43, w190_46, w190_47, w190_48, w190_51, w190_53, w190_54, w190_56, w190_57, w190_60, w190_61, w190_64, w190_65, w190_67, w190_70, w190_73, w190_74, w190_75, w190_77, w190_80, Md_s1, Md_s81, Md_s82, Md_s83, Md_s84, Md_s85, Md_s86, Md_s87, Md_s88, Md_s89, Md_s90, Md_s91, Md_s92, Md_s93, Md_s94, Md_s95, Md_s96, Md_s97, Md_s98, Md_s99, Md_s100, Md_s101, Md_s102, Md_r81_0, Md_r81_1, Md_r81_2, Md_r81_4, Md_r81_5, Md_r81_13, Md_r81_14, Md_r81_15, Md_r81_18, Md_r81_20, Md_r81_21, Md_r81_22, Md_r81_23, Md_r81_24, Md_r81_25, Md_r81_26, Md_r81_27, Md_r81_28, Md_r81_29, Md_r81_30, Md_r81_31, aPush_s, aPush_n, vrf_s, vrf_n, true_and, and_true, false_and, and_false, true_imp_iff, false_imp_iff, not_true_eq_false, not_false_eq_true, eq_self, true_or, or_true, and_self, if_true, if_false, n_lit, n_of, n_an, Nat.add_sub_cancel, nI_add, pk_mul, n_sub, n_ixT, n_cl, n_leT, n_leF, n_ltT, n_ltF, n_eqT, n_eqF, Nat.reduceAdd, Nat.reduceMul, Nat.reduceSub, Nat.reduceEqDiff, Nat.reduceLT, Nat.reduceLeDiff, Nat.mul_one, Nat.one_mul, Nat.add_zero, Nat.zero_add, G_eq J, eG]
    refine c187 (hm.si hJ) (by rw [eG]; exact hk) (by rw [eG]; exact ha) ?_
    intro K hK
    rw [eG]
    have hK2 := hJ.trans hK
    have eK := hK2.G
    by_cases e : L ≤ sLines (G I) k a
    · rw [if_pos e] at e2
      rw [e2] at ih
      simp (disch := omega) only [w190_42, w190_43, w190_46, w190_47, w190_48, w190_51, w190_53, w190_54, w190_56, w190_57, w190_60, w190_61, w190_64, w190_65, w190_67, w190_70, w190_73, w190_74, w190_75, w190_77, w190_80, Md_s1, Md_s81, Md_s82, Md_s83, Md_s84, Md_s85, Md_s86, Md_s87, Md_s88, Md_s89, Md_s90, Md_s91, Md_s92, Md_s93, Md_s94, Md_s95, Md_s96, Md_s97, Md_s98, Md_s99, Md_s100, Md_s101, Md_s102, Md_r81_0, Md_r81_1, Md_r81_2, Md_r81_4, Md_r81_5, Md_r81_13, Md_r81_14, Md_r81_15, Md_r81_18, Md_r81_20, Md_r81_21, Md_r81_22, Md_r81_23, Md_r81_24, Md_r81_25, Md_r81_26, Md_r81_27, Md_r81_28, Md_r81_29, Md_r81_30, Md_r81_31, aPush_s, aPush_n, vrf_s, vrf_n, true_and, and_true, false_and, and_false, true_imp_iff, false_imp_iff, not_true_eq_false, not_false_eq_true, eq_self, true_or, or_true, and_self, if_true, if_false, n_lit, n_of, n_an, Nat.add_sub_cancel, nI_add, pk_mul, n_sub, n_ixT, n_cl, n_leT, n_leF, n_ltT, n_ltF, n_eqT, n_eqF, Nat.reduceAdd, Nat.reduceMul, Nat.reduceSub, Nat.reduceEqDiff, Nat.reduceLT, Nat.reduceLeDiff, Nat.mul_one, Nat.one_mul, Nat.add_zero, Nat.zero_add, c145 (hm.si hK2) k12, eK]
      exact ih K hK2
    · rw [if_neg e] at e2
      rw [e2] at ih
      simp (disch := omega) only [w190_42, w190_43, w190_46, w190_47, w190_48, w190_51, w190_53, w190_54, w190_56, w190_57, w190_60, w190_61, w190_64, w190_65, w190_67, w190_70, w190_73, w190_74, w190_75, w190_77, w190_80, Md_s1, Md_s81, Md_s82, Md_s83, Md_s84, Md_s85, Md_s86, Md_s87, Md_s88, Md_s89, Md_s90, Md_s91, Md_s92, Md_s93, Md_s94, Md_s95, Md_s96, Md_s97, Md_s98, Md_s99, Md_s100, Md_s101, Md_s102, Md_r81_0, Md_r81_1, Md_r81_2, Md_r81_4, Md_r81_5, Md_r81_13, Md_r81_14, Md_r81_15, Md_r81_18, Md_r81_20, Md_r81_21, Md_r81_22, Md_r81_23, Md_r81_24, Md_r81_25, Md_r81_26, Md_r81_27, Md_r81_28, Md_r81_29, Md_r81_30, Md_r81_31, aPush_s, aPush_n, vrf_s, vrf_n, true_and, and_true, false_and, and_false, true_imp_iff, false_imp_iff, not_true_eq_false, not_false_eq_true, eq_self, true_or, or_true, and_self, if_true, if_false, n_lit, n_of, n_an, Nat.add_sub_cancel, nI_add, pk_mul, n_sub, n_ixT, n_cl, n_leT, n_leF, n_ltT, n_ltF, n_eqT, n_eqF, Nat.reduceAdd, Nat.reduceMul, Nat.reduceSub, Nat.reduceEqDiff, Nat.reduceLT, Nat.reduceLeDiff, Nat.mul_one, Nat.one_mul, Nat.add_zero, Nat.zero_add]
      exact ih K hK2
theorem l190a {a : Nat} (hm : Mr S I R) (ha : a < G I 2) (hQ : ∀ J, Si I J → Q (some (.int (sEven (G I) a))) (S, J, R, z)) : ∀ (j L : Nat) (J : Nat → Nat → Int32) (v4 v5 : Value), L + j = 10 → Si I J → sEven (G I) a = sEv (fun L => sHg (G I) a L (G I 1)) (sWt (G I) (2 ^ G I 1 - 1)) j L → RB (d + 7) 190 28 [.ref 81, .int (nI a), .int (nI (sWt (G I) (2 ^ G I 1 - 1))), .int (nI L), v4, v5] [] (S, J, R, z) Q
  | 0, L, J, v4, v5, h, hJ, he => by
    obtain rfl : L = 10 := by omega
    have hq := hQ J hJ
    rw [he] at hq
    rw [w190_28]
    simp (disch := omega) only [w190_0, w190_1, w190_2, w190_5, w190_8, w190_10, w190_11, w190_12, w190_13, w190_14, w190_17, w190_18, w190_19, w190_20, w190_21, w190_22, w190_25, w190_26, w190_27, w190_29, w190_31, w190_34, w190_35, w190_37, w190_38, w190_42, w190_43, w190_46, w190_47, w190_48, w190_51, w190_53, w190_54, w190_56, w190_57, w190_60, w190_61, w190_64, w190_65, w190_67, w190_70, w190_73, w190_74, w190_75, w190_77, w190_80, w190_83, w190_84, w190_86, w190_87, w190_88, w190_91, w190_92, w190_93, w190_96, w190_99, w190_101, aPush_s, aPush_n, vrf_s, vrf_n, true_and, and_true, false_and, and_false, true_imp_iff, false_imp_iff, not_true_eq_false, not_false_eq_true, eq_self, true_or, or_true, and_self, if_true, if_false, n_lit, n_of, n_an, Nat.add_sub_cancel, nI_add, pk_mul, n_sub, n_ixT, n_cl, n_leT, n_leF, n_ltT, n_ltF, n_eqT, n_eqF, Nat.reduceAdd, Nat.reduceMul, Nat.reduceSub, Nat.reduceEqDiff, Nat.reduceLT, Nat.reduceLeDiff, Nat.mul_one, Nat.one_mul, Nat.add_zero, Nat.zero_add]
    exact hq
  | j + 1, L, J, v4, v5, h, hJ, he => by
    have ih := fun J v5 => l190a hm ha hQ j (L + 1) J (.int (nI (sHg (G I) a L (G I 1)))) v5 (by omega)
    have eG := hJ.G
    have ok := hm.2.2
    have w1 := sHg_le ok a L (Nat.le_refl (G I 1))
    have w2 := sWt_le ok (2 ^ G I 1 - 1)
    rw [w190_28]
    simp (disch := omega) only [w190_29, w190_31, w190_34, w190_35, w190_37, w190_38, aPush_s, aPush_n, vrf_s, vrf_n, true_and, and_true, false_and, and_false, true_imp_iff, false_imp_iff, not_true_eq_false, not_false_eq_true, eq_self, true_or, or_true, and_self, if_true, if_false, n_lit, n_of, n_an, Nat.add_sub_cancel, nI_add, pk_mul, n_sub, n_ixT, n_cl, n_leT, n_leF, n_ltT, n_ltF, n_eqT, n_eqF, Nat.reduceAdd, Nat.reduceMul, Nat.reduceSub, Nat.reduceEqDiff, Nat.reduceLT, Nat.reduceLeDiff, Nat.mul_one, Nat.one_mul, Nat.add_zero, Nat.zero_add]
    have lb := l190b (d := d) (z := z) (Q := Q) (all := sWt (G I) (2 ^ G I 1 - 1)) (L := L) hm ha (by omega) (fun K v5 hK => ?_) (G I 1) 0 J (Nat.zero_add _) hJ
    · exact lb
    · unfold sEv at he
      by_cases e : 2 * sHg (G I) a L (G I 1) ≤ sWt (G I) (2 ^ G I 1 - 1)
      · have hq := hQ K hK
        rw [he, if_pos e] at hq
        simp (disch := omega) only [w190_83, w190_84, w190_86, w190_87, w190_88, w190_91, w190_92, w190_93, w190_96, w190_99, w190_101, aPush_s, aPush_n, vrf_s, vrf_n, true_and, and_true, false_and, and_false, true_imp_iff, false_imp_iff, not_true_eq_false, not_false_eq_true, eq_self, true_or, or_true, and_self, if_true, if_false, n_lit, n_of, n_an, Nat.add_sub_cancel, nI_add, pk_mul, n_sub, n_ixT, n_cl, n_leT, n_leF, n_ltT, n_ltF, n_eqT, n_eqF, Nat.reduceAdd, Nat.reduceMul, Nat.reduceSub, Nat.reduceEqDiff, Nat.reduceLT, Nat.reduceLeDiff, Nat.mul_one, Nat.one_mul, Nat.add_zero, Nat.zero_add]
        exact hq
      · rw [if_neg e] at he
        simp (disch := omega) only [w190_83, w190_84, w190_86, w190_87, w190_88, w190_91, w190_92, w190_93, w190_96, w190_99, w190_101, aPush_s, aPush_n, vrf_s, vrf_n, true_and, and_true, false_and, and_false, true_imp_iff, false_imp_iff, not_true_eq_false, not_false_eq_true, eq_self, true_or, or_true, and_self, if_true, if_false, n_lit, n_of, n_an, Nat.add_sub_cancel, nI_add, pk_mul, n_sub, n_ixT, n_cl, n_leT, n_leF, n_ltT, n_ltF, n_eqT, n_eqF, Nat.reduceAdd, Nat.reduceMul, Nat.reduceSub, Nat.reduceEqDiff, Nat.reduceLT, Nat.reduceLeDiff, Nat.mul_one, Nat.one_mul, Nat.add_zero, Nat.zero_add]
        exact ih K v5 hK he
end
section
variable {d n : Nat} {sc : (Nat × Nat) × (Nat → Int32)} {S : Nat → Nat × Nat} {I : Nat → Nat → Int32} {R : Nat → Nat → Option Nat} {z : Nat × Nat} {x y : Int32} {Q : Option Value → HS → Prop}
theorem p96 (h : Inv sc n S I R z) : RM (d + 300) 96 [.ref 16, .int x] (S, I, R, z) (Px d 190 [.int x] sc n) := by
  obtain ⟨⟨Hd_s16, Hd_s52, Hd_s53, Hd_s54, Hd_s55, Hd_s56, Hd_s57, Hd_s50, Hd_s51, Hd_s0, Hd_r16_0, Hd_r16_1, Hd_r16_2, Hd_r16_3, Hd_r16_4, Hd_r16_5, Hd_r16_6, Hd_r16_7, Hd_r54_0, Hd_r54_6, Hd_r50_0⟩, hs⟩ := id h.hr; obtain ⟨r, er⟩ : ∃ r, r = 17 := ⟨_, rfl⟩; rw [← er] at hs Hd_r16_0; obtain ⟨hr, ⟨Sd_sr, Sd_s_r___1_, Sd_s_r___2_, Sd_s_r___3_, Sd_s_r___4_, Sd_s_r___5_, Sd_s_r___6_, Sd_s_r___7_, Sd_s_r___8_, Sd_s_r___9_, Sd_s_r___10_, Sd_rr_0, Sd_rr_1, Sd_rr_2, Sd_rr_4, Sd_rr_5, Sd_rr_12, Sd_rr_14, Sd_rr_15, Sd_rr_16, Sd_rr_17⟩, ok, ⟨n3, n6, n7, n8, n9, n10, n11, n13⟩, ⟨a1, a2, a3, a4, a5, a7⟩, ct⟩ := id hs; have hm := h.mr; obtain ⟨⟨Md_s1, Md_s81, Md_s82, Md_s83, Md_s84, Md_s85, Md_s86, Md_s87, Md_s88, Md_s89, Md_s90, Md_s91, Md_s92, Md_s93, Md_s94, Md_s95, Md_s96, Md_s97, Md_s98, Md_s99, Md_s100, Md_s101, Md_s102, Md_r81_0, Md_r81_1, Md_r81_2, Md_r81_4, Md_r81_5, Md_r81_13, Md_r81_14, Md_r81_15, Md_r81_18, Md_r81_20, Md_r81_21, Md_r81_22, Md_r81_23, Md_r81_24, Md_r81_25, Md_r81_26, Md_r81_27, Md_r81_28, Md_r81_29, Md_r81_30, Md_r81_31⟩, hc, okm⟩ := id hm
  have h2 := ok.2.1
  have h1 := ok.1
  have hh := h.hr
  have hp1 : 1 ≤ 2 ^ G I 1 := Nat.one_le_two_pow
  have hp2 := pow_12 h1
  have hal : 2 ^ G I 1 - 1 < 2147483648 := by omega
  rcases q1 : inN x (G I 2) with _ | _
  · simp (disch := omega) only [e96, w96_0, w96_1, w96_2, w96_5, w96_8, w96_10, w96_11, w96_12, w96_15, w96_16, w96_19, Hd_s16, Hd_s52, Hd_s53, Hd_s54, Hd_s55, Hd_s56, Hd_s57, Hd_s50, Hd_s51, Hd_s0, Hd_r16_0, Hd_r16_1, Hd_r16_2, Hd_r16_3, Hd_r16_4, Hd_r16_5, Hd_r16_6, Hd_r16_7, Hd_r54_0, Hd_r54_6, Hd_r50_0, Sd_sr, Sd_s_r___1_, Sd_s_r___2_, Sd_s_r___3_, Sd_s_r___4_, Sd_s_r___5_, Sd_s_r___6_, Sd_s_r___7_, Sd_s_r___8_, Sd_s_r___9_, Sd_s_r___10_, Sd_rr_0, Sd_rr_1, Sd_rr_2, Sd_rr_4, Sd_rr_5, Sd_rr_12, Sd_rr_14, Sd_rr_15, Sd_rr_16, Sd_rr_17, n3, n6, n7, n8, n9, n10, n11, n13, aPush_s, aPush_n, vrf_s, vrf_n, true_and, and_true, false_and, and_false, true_imp_iff, false_imp_iff, not_true_eq_false, not_false_eq_true, eq_self, true_or, or_true, and_self, if_true, if_false, n_lit, n_of, n_an, Nat.add_sub_cancel, nI_add, pk_mul, n_sub, n_ixT, n_cl, n_leT, n_leF, n_ltT, n_ltF, n_eqT, n_eqF, Nat.reduceAdd, Nat.reduceMul, Nat.reduceSub, Nat.reduceEqDiff, Nat.reduceLT, Nat.reduceLeDiff, Nat.mul_one, Nat.one_mul, Nat.add_zero, Nat.zero_add, le_T, b2n_t, b2n_f, nz0, nz1, c123 hh, q1]
    refine Px.mk h.1 ?_
    simp (disch := omega) only [e190, w190_0, w190_1, w190_2, w190_5, w190_8, w190_10, w190_11, w190_12, w190_13, w190_14, w190_17, w190_18, w190_19, w190_20, w190_21, w190_22, w190_25, w190_26, w190_27, w190_29, w190_31, w190_34, w190_35, w190_37, w190_38, w190_42, w190_43, w190_46, w190_47, w190_48, w190_51, w190_53, w190_54, w190_56, w190_57, w190_60, w190_61, w190_64, w190_65, w190_67, w190_70, w190_73, w190_74, w190_75, w190_77, w190_80, w190_83, w190_84, w190_86, w190_87, w190_88, w190_91, w190_92, w190_93, w190_96, w190_99, w190_101, Md_s1, Md_s81, Md_s82, Md_s83, Md_s84, Md_s85, Md_s86, Md_s87, Md_s88, Md_s89, Md_s90, Md_s91, Md_s92, Md_s93, Md_s94, Md_s95, Md_s96, Md_s97, Md_s98, Md_s99, Md_s100, Md_s101, Md_s102, Md_r81_0, Md_r81_1, Md_r81_2, Md_r81_4, Md_r81_5, Md_r81_13, Md_r81_14, Md_r81_15, Md_r81_18, Md_r81_20, Md_r81_21, Md_r81_22, Md_r81_23, Md_r81_24, Md_r81_25, Md_r81_26, Md_r81_27, Md_r81_28, Md_r81_29, Md_r81_30, Md_r81_31, aPush_s, aPush_n, vrf_s, vrf_n, true_and, and_true, false_and, and_false, true_imp_iff, false_imp_iff, not_true_eq_false, not_false_eq_true, eq_self, true_or, or_true, and_self, if_true, if_false, n_lit, n_of, n_an, Nat.add_sub_cancel, nI_add, pk_mul, n_sub, n_ixT, n_cl, n_leT, n_leF, n_ltT, n_ltF, n_eqT, n_eqF, Nat.reduceAdd, Nat.reduceMul, Nat.reduceSub, Nat.reduceEqDiff, Nat.reduceLT, Nat.reduceLeDiff, Nat.mul_one, Nat.one_mul, Nat.add_zero, Nat.zero_add, G_eq I, c135b, bw_0, b2n_t, b2n_f, nz0, nz1, c140 hm, q1]
    exact Pe.mk h
  · obtain ⟨k, hk, rfl⟩ := inN_T (by omega) q1
    simp (disch := omega) only [e96, w96_0, w96_1, w96_2, w96_5, w96_8, w96_10, w96_11, w96_12, w96_15, w96_16, w96_19, Hd_s16, Hd_s52, Hd_s53, Hd_s54, Hd_s55, Hd_s56, Hd_s57, Hd_s50, Hd_s51, Hd_s0, Hd_r16_0, Hd_r16_1, Hd_r16_2, Hd_r16_3, Hd_r16_4, Hd_r16_5, Hd_r16_6, Hd_r16_7, Hd_r54_0, Hd_r54_6, Hd_r50_0, Sd_sr, Sd_s_r___1_, Sd_s_r___2_, Sd_s_r___3_, Sd_s_r___4_, Sd_s_r___5_, Sd_s_r___6_, Sd_s_r___7_, Sd_s_r___8_, Sd_s_r___9_, Sd_s_r___10_, Sd_rr_0, Sd_rr_1, Sd_rr_2, Sd_rr_4, Sd_rr_5, Sd_rr_12, Sd_rr_14, Sd_rr_15, Sd_rr_16, Sd_rr_17, n3, n6, n7, n8, n9, n10, n11, n13, aPush_s, aPush_n, vrf_s, vrf_n, true_and, and_true, false_and, and_false, true_imp_iff, false_imp_iff, not_true_eq_false, not_false_eq_true, eq_self, true_or, or_true, and_self, if_true, if_false, n_lit, n_of, n_an, Nat.add_sub_cancel, nI_add, pk_mul, n_sub, n_ixT, n_cl, n_leT, n_leF, n_ltT, n_ltF, n_eqT, n_eqF, Nat.reduceAdd, Nat.reduceMul, Nat.reduceSub, Nat.reduceEqDiff, Nat.reduceLT, Nat.reduceLeDiff, Nat.mul_one, Nat.one_mul, Nat.add_zero, Nat.zero_add, le_T, b2n_t, b2n_f, nz0, nz1, c123 hh, q1]
    refine c41 hs hk ?_
    intro J hJ
    simp (disch := omega) only [w96_0, w96_1, w96_2, w96_5, w96_8, w96_10, w96_11, w96_12, w96_15, w96_16, w96_19, aPush_s, aPush_n, vrf_s, vrf_n, true_and, and_true, false_and, and_false, true_imp_iff, false_imp_iff, not_true_eq_false, not_false_eq_true, eq_self, true_or, or_true, and_self, if_true, if_false]
    subst er
    have hJf := hJ.fr
    obtain ⟨hmJ, eG⟩ := h.mrJ hJf
    have halJ : 2 ^ G J 1 - 1 < 2147483648 := by rw [eG]; exact hal
    refine Px.mk (h.k15 hJf) ?_
    simp (disch := omega) only [e190, w190_0, w190_1, w190_2, w190_5, w190_8, w190_10, w190_11, w190_12, w190_13, w190_14, w190_17, w190_18, w190_19, w190_20, w190_21, w190_22, w190_25, w190_26, w190_27, w190_29, w190_31, w190_34, w190_35, w190_37, w190_38, w190_42, w190_43, w190_46, w190_47, w190_48, w190_51, w190_53, w190_54, w190_56, w190_57, w190_60, w190_61, w190_64, w190_65, w190_67, w190_70, w190_73, w190_74, w190_75, w190_77, w190_80, w190_83, w190_84, w190_86, w190_87, w190_88, w190_91, w190_92, w190_93, w190_96, w190_99, w190_101, Md_s1, Md_s81, Md_s82, Md_s83, Md_s84, Md_s85, Md_s86, Md_s87, Md_s88, Md_s89, Md_s90, Md_s91, Md_s92, Md_s93, Md_s94, Md_s95, Md_s96, Md_s97, Md_s98, Md_s99, Md_s100, Md_s101, Md_s102, Md_r81_0, Md_r81_1, Md_r81_2, Md_r81_4, Md_r81_5, Md_r81_13, Md_r81_14, Md_r81_15, Md_r81_18, Md_r81_20, Md_r81_21, Md_r81_22, Md_r81_23, Md_r81_24, Md_r81_25, Md_r81_26, Md_r81_27, Md_r81_28, Md_r81_29, Md_r81_30, Md_r81_31, aPush_s, aPush_n, vrf_s, vrf_n, true_and, and_true, false_and, and_false, true_imp_iff, false_imp_iff, not_true_eq_false, not_false_eq_true, eq_self, true_or, or_true, and_self, if_true, if_false, n_lit, n_of, n_an, Nat.add_sub_cancel, nI_add, pk_mul, n_sub, n_ixT, n_cl, n_leT, n_leF, n_ltT, n_ltF, n_eqT, n_eqF, Nat.reduceAdd, Nat.reduceMul, Nat.reduceSub, Nat.reduceEqDiff, Nat.reduceLT, Nat.reduceLeDiff, Nat.mul_one, Nat.one_mul, Nat.add_zero, Nat.zero_add, G_eq J, eG, c135b, bw_0, b2n_t, b2n_f, nz0, nz1, c140 hmJ, q1, n_shl, c158 hmJ hal]
    have l := l190a (d := d + 292) (z := z) (Q := Pe sc n (sEven (G I) k)) hmJ (a := k) (by rw [eG]; exact hk) (fun K hK => by rw [eG]; exact Pe.mk ((h.sx hJ).si hK)) 9 1 J (.long 0) (.long 0) rfl (Si.refl J) rfl
    rw [eG] at l
    exact l
end
