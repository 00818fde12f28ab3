/-! constructors -/
def nS (S : Nat → Nat × Nat) (t κ n : Nat) : Nat → Nat × Nat := fun b => if b = t then (κ, n) else S b
def nZ (I : Nat → Nat → Int32) (t : Nat) : Nat → Nat → Int32 := fun b i => if b = t then 0 else I b i
def nN (R : Nat → Nat → Option Nat) (t : Nat) : Nat → Nat → Option Nat := fun b i => if b = t then none else R b i
theorem aNc_t {κ n t u : Nat} {S : Nat → Nat × Nat} {I : Nat → Nat → Int32} {R : Nat → Nat → Option Nat} : aNc κ n (S, I, R, (t, u)) = (nS S t κ n, nZ I t, nN R t, (t + 1, u + n)) := rfl
section
variable {S : Nat → Nat × Nat} {I : Nat → Nat → Int32} {R : Nat → Nat → Option Nat} {t κ n q i : Nat}
theorem nS_e : nS S t κ n t = (κ, n) := if_pos rfl
theorem nS_o (h : q ≠ t) : nS S t κ n q = S q := if_neg h
theorem nZ_e : nZ I t t i = nI 0 := if_pos rfl
theorem nZ_o (h : q ≠ t) : nZ I t q = I q := by
  funext i
  exact if_neg h
theorem nN_e : nN R t t i = none := if_pos rfl
theorem nN_o (h : q ≠ t) : nN R t q = R q := by
  funext i
  exact if_neg h
end
def IsNew (g : Nat → Nat) : Prop := g 0 = 1 ∧ g 1 = 0 ∧ g 2 = 0 ∧ g 3 = 4294967295 ∧ g 4 = 0 ∧ g 5 = 0 ∧ g 6 = 6 ∧ g 7 = 0
theorem IsNew.ok {g : Nat → Nat} (h : IsNew g) : Ok g := by
  obtain ⟨h0, h1, h2, h3, h4, h5, h6, h7⟩ := h
  refine ⟨by omega, by omega, Or.inl ⟨h3, h5⟩, by omega, by omega, by omega, fun w hw => by omega, fun a ha => by omega, fun t ht => by omega⟩
section
variable {d u : Nat} {S : Nat → Nat × Nat} {I : Nat → Nat → Int32} {R : Nat → Nat → Option Nat} {Q : Option Value → HS → Prop}
theorem c8_17 (hS : S 17 = (2, 18)) (hQ : ∀ S' I' R', (∀ q, q ≤ 17 → S' q = S q) → (∀ q, 28 ≤ q → S' q = S q) → (∀ q, q < 17 → I' q = I q) → (∀ q, q < 17 → R' q = R q) → (∀ g, IsNew g → Cs S' I' R' 17 g) → (∀ t, R' 23 t = none) → Q none (S', I', R', (28, u + 248))) : RM (d + 2) 8 [.ref 17] (S, I, R, (18, u)) Q := by
  simp (disch := omega) only [e8, w8_0, w8_1, w8_4, w8_5, w8_7, w8_9, w8_12, w8_13, w8_15, w8_17, w8_20, w8_21, w8_23, w8_25, w8_28, w8_29, w8_30, w8_33, w8_34, w8_36, w8_38, w8_41, w8_42, w8_44, w8_46, w8_49, w8_50, w8_51, w8_54, w8_55, w8_56, w8_59, w8_60, w8_61, w8_64, w8_65, w8_66, w8_69, w8_70, w8_72, w8_75, w8_76, w8_77, w8_80, w8_81, w8_83, w8_86, w8_89, w8_90, w8_91, w8_94, w8_95, w8_96, w8_98, w8_99, w8_100, w8_101, w8_102, w8_103, w8_104, w8_105, w8_106, w8_107, w8_108, w8_109, w8_110, w8_113, w8_114, w8_116, w8_118, w8_121, w8_122, w8_124, w8_126, w8_129, w8_130, w8_132, w8_134, w8_137, RM_obj, aNc_t, hS, nS_e, nS_o, aPush_s, aPush_n, vrf_s, vrf_n, true_and, and_true, false_and, and_false, true_imp_iff, false_imp_iff, not_true_eq_false, not_false_eq_true, eq_self, true_or, or_true, and_self, if_true, if_false, n_lit, n_cl, n_ltF, n_leT, n_ixT, Nat.reduceAdd, Nat.reduceLeDiff, Nat.reduceLT, Nat.reduceEqDiff, Nat.add_assoc]
  refine hQ _ _ _ (fun q hq => ?_) (fun q hq => ?_) (fun q hq => ?_) (fun q hq => ?_) ?_ ?_
  · simp (disch := omega) only [nS_o]
  · simp (disch := omega) only [nS_o]
  · simp (disch := omega) only [nZ_o, aW_o]
  · simp (disch := omega) only [nN_o, aR_o]
  · intro g hg
    have ok := hg.ok
    obtain ⟨h0, h1, h2, h3, h4, h5, h6, h7⟩ := hg
    refine ⟨⟨by decide, by decide⟩, ?_, ok, ?_, ⟨fun w hw => by omega, fun w hw => by omega, fun w hw => by omega, fun w hw => by omega, fun w hw => by omega, fun k hk => ?_⟩, fun t ht => by omega⟩
    · unfold Sd
      simp (disch := omega) only [nS_e, nS_o, hS, nN_o, nN_e, aR_o, aR_e, aR_i, Nat.reduceAdd, and_self]
    · unfold Cn
      simp (disch := omega) only [h0, h1, h2, h3, h4, h5, h6, h7, nZ_o, aW_o, aW_e, aW_i, and_self, true_and, and_true]
      decide
    · have k3 : k = 0 ∨ k = 1 ∨ k = 2 := by omega
      rw [h7]
      rcases k3 with rfl | rfl | rfl <;> simp (disch := omega) only [nZ_o, aW_o, aW_e, aW_i, sCt, Nat.reduceAdd]
  · intro t
    simp (disch := omega) only [nN_o, nN_e, aR_o]
theorem c8_28 (hS : S 28 = (2, 18)) (hQ : ∀ S' I' R', (∀ q, q ≤ 28 → S' q = S q) → (∀ q, 39 ≤ q → S' q = S q) → (∀ q, q < 28 → I' q = I q) → (∀ q, q < 28 → R' q = R q) → (∀ g, IsNew g → Cs S' I' R' 28 g) → (∀ t, R' 34 t = none) → Q none (S', I', R', (39, u + 248))) : RM (d + 2) 8 [.ref 28] (S, I, R, (29, u)) Q := by
  simp (disch := omega) only [e8, w8_0, w8_1, w8_4, w8_5, w8_7, w8_9, w8_12, w8_13, w8_15, w8_17, w8_20, w8_21, w8_23, w8_25, w8_28, w8_29, w8_30, w8_33, w8_34, w8_36, w8_38, w8_41, w8_42, w8_44, w8_46, w8_49, w8_50, w8_51, w8_54, w8_55, w8_56, w8_59, w8_60, w8_61, w8_64, w8_65, w8_66, w8_69, w8_70, w8_72, w8_75, w8_76, w8_77, w8_80, w8_81, w8_83, w8_86, w8_89, w8_90, w8_91, w8_94, w8_95, w8_96, w8_98, w8_99, w8_100, w8_101, w8_102, w8_103, w8_104, w8_105, w8_106, w8_107, w8_108, w8_109, w8_110, w8_113, w8_114, w8_116, w8_118, w8_121, w8_122, w8_124, w8_126, w8_129, w8_130, w8_132, w8_134, w8_137, RM_obj, aNc_t, hS, nS_e, nS_o, aPush_s, aPush_n, vrf_s, vrf_n, true_and, and_true, false_and, and_false, true_imp_iff, false_imp_iff, not_true_eq_false, not_false_eq_true, eq_self, true_or, or_true, and_self, if_true, if_false, n_lit, n_cl, n_ltF, n_leT, n_ixT, Nat.reduceAdd, Nat.reduceLeDiff, Nat.reduceLT, Nat.reduceEqDiff, Nat.add_assoc]
  refine hQ _ _ _ (fun q hq => ?_) (fun q hq => ?_) (fun q hq => ?_) (fun q hq => ?_) ?_ ?_
  · simp (disch := omega) only [nS_o]
  · simp (disch := omega) only [nS_o]
  · simp (disch := omega) only [nZ_o, aW_o]
  · simp (disch := omega) only [nN_o, aR_o]
  · intro g hg
    have ok := hg.ok
    obtain ⟨h0, h1, h2, h3, h4, h5, h6, h7⟩ := hg
    refine ⟨⟨by decide, by decide⟩, ?_, ok, ?_, ⟨fun w hw => by omega, fun w hw => by omega, fun w hw => by omega, fun w hw => by omega, fun w hw => by omega, fun k hk => ?_⟩, fun t ht => by omega⟩
    · unfold Sd
      simp (disch := omega) only [nS_e, nS_o, hS, nN_o, nN_e, aR_o, aR_e, aR_i, Nat.reduceAdd, and_self]
    · unfold Cn
      simp (disch := omega) only [h0, h1, h2, h3, h4, h5, h6, h7, nZ_o, aW_o, aW_e, aW_i, and_self, true_and, and_true]
      decide
    · have k3 : k = 0 ∨ k = 1 ∨ k = 2 := by omega
      rw [h7]
      rcases k3 with rfl | rfl | rfl <;> simp (disch := omega) only [nZ_o, aW_o, aW_e, aW_i, sCt, Nat.reduceAdd]
  · intro t
    simp (disch := omega) only [nN_o, nN_e, aR_o]
theorem c8_39 (hS : S 39 = (2, 18)) (hQ : ∀ S' I' R', (∀ q, q ≤ 39 → S' q = S q) → (∀ q, 50 ≤ q → S' q = S q) → (∀ q, q < 39 → I' q = I q) → (∀ q, q < 39 → R' q = R q) → (∀ g, IsNew g → Cs S' I' R' 39 g) → (∀ t, R' 45 t = none) → Q none (S', I', R', (50, u + 248))) : RM (d + 2) 8 [.ref 39] (S, I, R, (40, u)) Q := by
  simp (disch := omega) only [e8, w8_0, w8_1, w8_4, w8_5, w8_7, w8_9, w8_12, w8_13, w8_15, w8_17, w8_20, w8_21, w8_23, w8_25, w8_28, w8_29, w8_30, w8_33, w8_34, w8_36, w8_38, w8_41, w8_42, w8_44, w8_46, w8_49, w8_50, w8_51, w8_54, w8_55, w8_56, w8_59, w8_60, w8_61, w8_64, w8_65, w8_66, w8_69, w8_70, w8_72, w8_75, w8_76, w8_77, w8_80, w8_81, w8_83, w8_86, w8_89, w8_90, w8_91, w8_94, w8_95, w8_96, w8_98, w8_99, w8_100, w8_101, w8_102, w8_103, w8_104, w8_105, w8_106, w8_107, w8_108, w8_109, w8_110, w8_113, w8_114, w8_116, w8_118, w8_121, w8_122, w8_124, w8_126, w8_129, w8_130, w8_132, w8_134, w8_137, RM_obj, aNc_t, hS, nS_e, nS_o, aPush_s, aPush_n, vrf_s, vrf_n, true_and, and_true, false_and, and_false, true_imp_iff, false_imp_iff, not_true_eq_false, not_false_eq_true, eq_self, true_or, or_true, and_self, if_true, if_false, n_lit, n_cl, n_ltF, n_leT, n_ixT, Nat.reduceAdd, Nat.reduceLeDiff, Nat.reduceLT, Nat.reduceEqDiff, Nat.add_assoc]
  refine hQ _ _ _ (fun q hq => ?_) (fun q hq => ?_) (fun q hq => ?_) (fun q hq => ?_) ?_ ?_
  · simp (disch := omega) only [nS_o]
  · simp (disch := omega) only [nS_o]
  · simp (disch := omega) only [nZ_o, aW_o]
  · simp (disch := omega) only [nN_o, aR_o]
  · intro g hg
    have ok := hg.ok
    obtain ⟨h0, h1, h2, h3, h4, h5, h6, h7⟩ := hg
    refine ⟨⟨by decide, by decide⟩, ?_, ok, ?_, ⟨fun w hw => by omega, fun w hw => by omega, fun w hw => by omega, fun w hw => by omega, fun w hw => by omega, fun k hk => ?_⟩, fun t ht => by omega⟩
    · unfold Sd
      simp (disch := omega) only [nS_e, nS_o, hS, nN_o, nN_e, aR_o, aR_e, aR_i, Nat.reduceAdd, and_self]
    · unfold Cn
      simp (disch := omega) only [h0, h1, h2, h3, h4, h5, h6, h7, nZ_o, aW_o, aW_e, aW_i, and_self, true_and, and_true]
      decide
    · have k3 : k = 0 ∨ k = 1 ∨ k = 2 := by omega
      rw [h7]
      rcases k3 with rfl | rfl | rfl <;> simp (disch := omega) only [nZ_o, aW_o, aW_e, aW_i, sCt, Nat.reduceAdd]
  · intro t
    simp (disch := omega) only [nN_o, nN_e, aR_o]
end
