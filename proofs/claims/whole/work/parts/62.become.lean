/-! a State becomes another one; rows are copied -/
section
variable {d r : Nat} {g g' : Nat → Nat} {S : Nat → Nat × Nat} {I J : Nat → Nat → Int32} {R R' : Nat → Nat → Option Nat} {z : Nat × Nat} {Q : Option Value → HS → Prop}
theorem sD_cong {c c' : Nat → Int32} : ∀ {n}, (∀ k, k < n → c' k = c k) → sD c' n = sD c n
  | 0, _ => rfl
  | n + 1, h => by
    have ih := sD_cong (n := n) (fun k hk => h k (by omega))
    unfold sD
    rw [ih, h n (by omega)]
theorem oC_cong {c c' : Nat → Int32} {n m : Nat} (h : ∀ k, k < n → c' k = c k) (ho : oC c n m) : oC c' n m := by
  refine ⟨ho.1, by rw [sD_cong h]; exact ho.2.1, fun k hk => ?_⟩
  rw [h k hk, sD_cong (fun j hj => h j (by omega))]
  exact ho.2.2 k hk
/-- the same up to the end of the row -/
def E14 (g' g : Nat → Nat) : Prop := ∀ i, i < 1420 → g' i = g i
theorem Ok.gcong (ok : Ok g) (e : E14 g' g) : Ok g' := by
  obtain ⟨o1, o2, o3, o4, o5, o6, o7, o8, o9⟩ := ok
  refine ⟨?_, ?_, ?_, ?_, ?_, ?_, ?_, ?_, ?_⟩
  · rw [e 1 (by decide)]; exact o1
  · rw [e 2 (by decide)]; exact o2
  · rw [e 3 (by decide), e 5 (by decide), e 1 (by decide)]; exact o3
  · rw [e 4 (by decide)]; exact o4
  · rw [e 6 (by decide)]; exact o5
  · rw [e 7 (by decide)]; exact o6
  · intro w hw
    rw [e 1 (by decide)] at hw
    rw [e _ (by omega), e _ (by omega)]
    exact o7 w hw
  · intro a ha
    rw [e 2 (by decide)] at ha
    rw [e _ (by omega), e _ (by omega)]
    exact o8 a ha
  · intro t ht
    rw [e 7 (by decide)] at ht
    have o := o9 t ht
    have e1 : sLen g' t = sLen g t := by
      unfold sLen
      rw [e _ (by omega)]
    have e2 : sKey g' t = sKey g t := by
      unfold sKey
      rw [e _ (by omega)]
    have o96 := o.2.1
    rw [e _ (by omega), e1, e2]
    refine ⟨o.1, oC_cong (fun k hk => ?_) o.2⟩
    unfold sCode
    rw [e _ (by omega)]
theorem Cs.gcong (hs : Cs S I R r g) (e : E14 g' g) : Cs S I R r g' := by
  obtain ⟨hr, sd, ok, cn, ⟨a1, a2, a3, a4, a5, a7⟩, ct⟩ := hs
  have h1 := ok.1
  have h2 := ok.2.1
  have h7 := ok.2.2.2.2.2.1
  have ok9 := ok.2.2.2.2.2.2.2.2
  have hct : ∀ k n, n ≤ 14 → sCt g' k n = sCt g k n := by
    intro k n hn
    induction n with
    | zero => rfl
    | succ n ih =>
      show (if sKey g' n = k then _ else _) = if sKey g n = k then _ else _
      rw [ih (by omega), show sKey g' n = sKey g n by unfold sKey; rw [e _ (by omega)]]
  refine ⟨hr, sd, ok.gcong e, ?_, ⟨?_, ?_, ?_, ?_, ?_, ?_⟩, ?_⟩
  · unfold Cn
    rw [e 0 (by decide), e 1 (by decide), e 2 (by decide), e 3 (by decide), e 4 (by decide), e 5 (by decide), e 6 (by decide), e 7 (by decide)]
    exact cn
  · intro w hw
    rw [e 1 (by decide)] at hw
    rw [e _ (by omega)]
    exact a1 w hw
  · intro w hw
    rw [e 1 (by decide)] at hw
    unfold sW
    rw [e _ (by omega)]
    exact a2 w hw
  · intro w hw l hl
    rw [e 1 (by decide)] at hw
    rw [sPl_cong (e _ (by omega))]
    exact a3 w hw l hl
  · intro a ha
    rw [e 2 (by decide)] at ha
    rw [e _ (by omega)]
    exact a4 a ha
  · intro a ha
    rw [e 2 (by decide)] at ha
    rw [e _ (by omega)]
    exact a5 a ha
  · intro k hk
    rw [e 7 (by decide), hct _ _ h7]
    exact a7 k hk
  · intro t ht
    rw [e 7 (by decide)] at ht
    obtain ⟨c, hc, t1, t2, t3, t4, t5, t6, t7⟩ := ct t ht
    have o96 := (ok9 t ht).2.1
    have e1 : sLen g' t = sLen g t := by
      unfold sLen
      rw [e _ (by omega)]
    refine ⟨c, hc, t1, t2, ?_, t4, ?_, ?_, ?_⟩
    · rw [e1]; exact t3
    · rw [show sKey g' t = sKey g t by unfold sKey; rw [e _ (by omega)]]; exact t5
    · rw [e _ (by omega)]; exact t6
    · intro k hk
      rw [e1] at hk
      unfold sCode
      rw [e _ (by omega)]
      exact t7 k hk
/-- references change elsewhere -/
theorem Cs.congR (h : Cs S I R r g) (e : ∀ q, (r ≤ q ∧ q ≤ r + 7) ∨ 103 ≤ q → J q = I q) (eR : ∀ q, q = r ∨ q = r + 6 ∨ 103 ≤ q → R' q = R q) : Cs S J R' r g := by
  obtain ⟨hr, sd, ok, cn, ca, ct⟩ := h.cong e
  refine ⟨hr, ?_, ok, cn, ca, ?_⟩
  · unfold Sd at sd ⊢
    rw [eR r (by omega)]
    exact sd
  · intro t ht
    obtain ⟨c, hc, t1, t2, t3, t4, t5⟩ := ct t ht
    refine ⟨c, ?_, t1, t2, t3, ?_, t5⟩
    · rw [eR _ (by omega)]; exact hc
    · rw [eR c (by omega)]; exact t4
theorem Tr.cong (h : Tr S R r) (e : R' (r + 6) = R (r + 6)) : Tr S R' r := by
  intro t ht
  rw [e]
  exact h t ht
theorem aR_e {a j : Nat} {v : Option Nat} : aR R a j v a j = v := by
  show (if a = a then (if j = j then v else _) else _) = v
  rw [if_pos rfl, if_pos rfl]
theorem aR_i {a j i : Nat} {v : Option Nat} (h : i ≠ j) : aR R a j v a i = R a i := by
  show (if a = a then (if i = j then v else R a i) else _) = _
  rw [if_pos rfl, if_neg h]
theorem aR_o {a j q : Nat} {v : Option Nat} (h : q ≠ a) : aR R a j v q = R q := by
  funext i
  exact if_neg h
theorem l9 {r2 : Nat} (hS : S r = (2, 18)) (hS2 : S r2 = (2, 18)) (h6 : S (r + 6) = (13, 14)) (h62 : S (r2 + 6) = (13, 14)) (ne : r + 10 < r2 ∨ r2 + 10 < r) (hR : R r 12 = some (r + 6)) (hR2 : R r2 12 = some (r2 + 6)) (tr : Tr S R r2) (hQ : ∀ R', (∀ q, q ≠ r + 6 → R' q = R q) → (∀ t, t < 14 → R' (r + 6) t = R (r2 + 6) t) → RB d 9 115 [.ref r, .ref r2, .int (nI 14)] [] (S, I, R', z) Q) : ∀ (j k : Nat) (R' : Nat → Nat → Option Nat), k + j = 14 → (∀ q, q ≠ r + 6 → R' q = R q) → (∀ t, t < k → R' (r + 6) t = R (r2 + 6) t) → RB d 9 91 [.ref r, .ref r2, .int (nI k)] [] (S, I, R', z) Q
  | 0, k, R', h, h1, h2 => by
    obtain rfl : k = 14 := by omega
    rw [w9_91]
    simp (disch := omega) only [w9_92, w9_94, w9_97, w9_98, w9_101, w9_102, w9_102N, w9_103, w9_106, w9_107, w9_108, w9_108N, w9_109, w9_112, aPush_s, aPush_n, vrf_s, vrf_n, true_and, and_true, false_and, and_false, true_imp_iff, false_imp_iff, not_true_eq_false, not_false_eq_true, eq_self, true_or, or_true, and_self, if_true, if_false, n_lit, n_of, n_an, Nat.add_sub_cancel, nI_add, pk_mul, n_sub, n_ixT, n_cl, n_leT, n_leF, n_ltT, n_ltF, n_eqT, n_eqF, Nat.reduceAdd, Nat.reduceMul, Nat.reduceSub, Nat.reduceEqDiff, Nat.reduceLT, Nat.reduceLeDiff, Nat.mul_one, Nat.one_mul, Nat.add_zero, Nat.zero_add]
    exact hQ R' h1 h2
  | j + 1, k, R', h, h1, h2 => by
    have ih := fun R' => l9 hS hS2 h6 h62 ne hR hR2 tr hQ j (k + 1) R' (by omega)
    have q1 : R' r 12 = some (r + 6) := by rw [h1 r (by omega)]; exact hR
    have q2 : R' r2 12 = some (r2 + 6) := by rw [h1 r2 (by omega)]; exact hR2
    have q3 : R' (r2 + 6) k = R (r2 + 6) k := by rw [h1 _ (by omega)]
    have fin : ∀ v, v = R (r2 + 6) k → RB d 9 91 [.ref r, .ref r2, .int (nI (k + 1))] [] (S, I, aR R' (r + 6) k v, z) Q := by
      intro v hv
      refine ih _ (fun q hq => (aR_o hq).trans (h1 q hq)) ?_
      intro t ht
      by_cases e : t = k
      · subst e
        rw [aR_e, hv]
      · rw [aR_i e]
        exact h2 t (by omega)
    have o13 : aOfK 13 = 4 := by decide
    rw [w9_91]
    rcases tr k (by omega) with e | ⟨c, e, c1, c2⟩
    · simp (disch := omega) only [w9_92, w9_94, w9_97, w9_98, w9_101, w9_102, w9_102N, w9_103, w9_106, w9_107, w9_108, w9_108N, w9_109, w9_112, aPush_s, aPush_n, vrf_s, vrf_n, true_and, and_true, false_and, and_false, true_imp_iff, false_imp_iff, not_true_eq_false, not_false_eq_true, eq_self, true_or, or_true, and_self, if_true, if_false, n_lit, n_of, n_an, Nat.add_sub_cancel, nI_add, pk_mul, n_sub, n_ixT, n_cl, n_leT, n_leF, n_ltT, n_ltF, n_eqT, n_eqF, Nat.reduceAdd, Nat.reduceMul, Nat.reduceSub, Nat.reduceEqDiff, Nat.reduceLT, Nat.reduceLeDiff, Nat.mul_one, Nat.one_mul, Nat.add_zero, Nat.zero_add, le_T, hS, hS2, h6, h62, q1, q2, q3, e]
      exact fin none e.symm
    · simp (disch := omega) only [w9_92, w9_94, w9_97, w9_98, w9_101, w9_102, w9_102N, w9_103, w9_106, w9_107, w9_108, w9_108N, w9_109, w9_112, aPush_s, aPush_n, vrf_s, vrf_n, true_and, and_true, false_and, and_false, true_imp_iff, false_imp_iff, not_true_eq_false, not_false_eq_true, eq_self, true_or, or_true, and_self, if_true, if_false, n_lit, n_of, n_an, Nat.add_sub_cancel, nI_add, pk_mul, n_sub, n_ixT, n_cl, n_leT, n_leF, n_ltT, n_ltF, n_eqT, n_eqF, Nat.reduceAdd, Nat.reduceMul, Nat.reduceSub, Nat.reduceEqDiff, Nat.reduceLT, Nat.reduceLeDiff, Nat.mul_one, Nat.one_mul, Nat.add_zero, Nat.zero_add, le_T, hS, hS2, h6, h62, q1, q2, q3, e, c2, o13]
      exact fin (some c) e.symm
theorem c9 {r2 : Nat} (hs : Cs S I R r2 g) (tr : Tr S R r2) (sd : Sd S R r) (hr : 16 ≤ r ∧ r ≤ 39) (ne : r + 10 < r2 ∨ r2 + 10 < r) (hQ : ∀ J R', Fr r I J → (∀ q, q ≠ r + 6 → R' q = R q) → Cs S J R' r g → Tr S R' r → Q none (S, J, R', z)) : RM (d + 2) 9 [.ref r, .ref r2] (S, I, R, z) Q := by
  obtain ⟨hr2, sd2, ok, ⟨n3, n6, n7, n8, n9, n10, n11, n13⟩, ⟨a1, a2, a3, a4, a5, a7⟩, ct⟩ := id hs
  obtain ⟨x0, x1, x2, x3, x4, x5, x6, x7, x8, x9, x10, y0, y1, y2, y4, y5, y12, y14, y15, y16, y17⟩ := id sd2
  obtain ⟨u0, u1, u2, u3, u4, u5, u6, u7, u8, u9, u10, v0, v1, v2, v4, v5, v12, v14, v15, v16, v17⟩ := id sd
  have h1 := ok.1
  have h2 := ok.2.1
  simp (disch := omega) only [e9, w9_0, w9_0N, w9_1, w9_4, w9_5, w9_6, w9_9, w9_10, w9_12, w9_15, w9_15N, w9_16, w9_19, w9_20, w9_21, w9_24, w9_25, w9_27, w9_30, w9_30N, w9_31, w9_34, w9_35, w9_36, w9_39, w9_40, w9_42, w9_45, w9_45N, w9_46, w9_49, w9_50, w9_51, w9_54, w9_55, w9_57, w9_60, w9_60N, w9_61, w9_64, w9_65, w9_66, w9_69, w9_70, w9_72, w9_75, w9_75N, w9_76, w9_79, w9_80, w9_81, w9_84, w9_85, w9_86, w9_89, w9_90, w9_92, w9_94, w9_97, w9_98, w9_101, w9_102, w9_102N, w9_103, w9_106, w9_107, w9_108, w9_108N, w9_109, w9_112, w9_115, w9_116, w9_116N, w9_117, w9_120, w9_123, w9_124, w9_124N, w9_125, w9_128, w9_131, w9_132, w9_132N, w9_133, w9_136, w9_139, w9_140, w9_140N, w9_141, w9_144, w9_147, w9_148, w9_148N, w9_149, w9_152, w9_155, w9_156, w9_156N, w9_157, w9_160, w9_163, w9_164, w9_164N, w9_165, w9_168, w9_171, w9_172, w9_172N, w9_173, w9_176, w9_179, aPush_s, aPush_n, vrf_s, vrf_n, true_and, and_true, false_and, and_false, true_imp_iff, false_imp_iff, not_true_eq_false, not_false_eq_true, eq_self, true_or, or_true, and_self, if_true, if_false, n_lit, n_of, n_an, Nat.add_sub_cancel, nI_add, pk_mul, n_sub, n_ixT, n_cl, n_leT, n_leF, n_ltT, n_ltF, n_eqT, n_eqF, Nat.reduceAdd, Nat.reduceMul, Nat.reduceSub, Nat.reduceEqDiff, Nat.reduceLT, Nat.reduceLeDiff, Nat.mul_one, Nat.one_mul, Nat.add_zero, Nat.zero_add, le_T, x0, y0, y1, y2, y4, y5, y14, u0, v0, v1, v2, v4, v5, v14, RM_cp x1 u1, RM_cp x2 u2, RM_cp x3 u3, RM_cp x4 u4, RM_cp x5 u5, RM_cp x7 u7]
  refine l9 u0 x0 u6 x6 ne v12 y12 tr ?_ 14 0 R rfl (fun _ _ => rfl) (fun t ht => absurd ht (Nat.not_lt_zero _))
  intro R' r1 rt
  have er : R' r = R r := r1 r (by omega)
  have f0 : ∀ X : Nat → Nat → Int32, X = aC (aC (aC (aC (aC (aC I (r2 + 1) (r + 1) 0 0 12) (r2 + 2) (r + 2) 0 0 12) (r2 + 3) (r + 3) 0 0 72) (r2 + 4) (r + 4) 0 0 8) (r2 + 5) (r + 5) 0 0 8) (r2 + 7) (r + 7) 0 0 3 → (∀ q, q ≠ r + 1 → q ≠ r + 2 → q ≠ r + 3 → q ≠ r + 4 → q ≠ r + 5 → q ≠ r + 7 → X q = I q) ∧ (∀ k, k < 12 → X (r + 1) k = I (r2 + 1) k) ∧ (∀ k, k < 12 → X (r + 2) k = I (r2 + 2) k) ∧ (∀ k, k < 72 → X (r + 3) k = I (r2 + 3) k) ∧ (∀ k, k < 8 → X (r + 4) k = I (r2 + 4) k) ∧ (∀ k, k < 8 → X (r + 5) k = I (r2 + 5) k) ∧ (∀ k, k < 3 → X (r + 7) k = I (r2 + 7) k) := by
    intro X hX
    subst hX
    refine ⟨fun q q1 q2 q3 q4 q5 q7 => ?_, fun k hk => ?_, fun k hk => ?_, fun k hk => ?_, fun k hk => ?_, fun k hk => ?_, fun k hk => ?_⟩
    · rw [aC_o q7, aC_o q5, aC_o q4, aC_o q3, aC_o q2, aC_o q1]
    · rw [aC_o (by omega), aC_o (by omega), aC_o (by omega), aC_o (by omega), aC_o (by omega), aC_in (by omega) (by omega)]
      rw [show 0 + (k - 0) = k by omega]
    · rw [aC_o (by omega), aC_o (by omega), aC_o (by omega), aC_o (by omega), aC_in (by omega) (by omega)]
      rw [show 0 + (k - 0) = k by omega, aC_o (by omega)]
    · rw [aC_o (by omega), aC_o (by omega), aC_o (by omega), aC_in (by omega) (by omega)]
      rw [show 0 + (k - 0) = k by omega, aC_o (by omega), aC_o (by omega)]
    · rw [aC_o (by omega), aC_o (by omega), aC_in (by omega) (by omega)]
      rw [show 0 + (k - 0) = k by omega, aC_o (by omega), aC_o (by omega), aC_o (by omega)]
    · rw [aC_o (by omega), aC_in (by omega) (by omega)]
      rw [show 0 + (k - 0) = k by omega, aC_o (by omega), aC_o (by omega), aC_o (by omega), aC_o (by omega)]
    · rw [aC_in (by omega) (by omega)]
      rw [show 0 + (k - 0) = k by omega, aC_o (by omega), aC_o (by omega), aC_o (by omega), aC_o (by omega), aC_o (by omega)]
  obtain ⟨X, hX⟩ : ∃ X, X = aC (aC (aC (aC (aC (aC I (r2 + 1) (r + 1) 0 0 12) (r2 + 2) (r + 2) 0 0 12) (r2 + 3) (r + 3) 0 0 72) (r2 + 4) (r + 4) 0 0 8) (r2 + 5) (r + 5) 0 0 8) (r2 + 7) (r + 7) 0 0 3 := ⟨_, rfl⟩
  rw [← hX]
  obtain ⟨fo, f1, f2, f3, f4, f5, f7⟩ := f0 X hX
  have fr2 : X r2 = I r2 := fo r2 (by omega) (by omega) (by omega) (by omega) (by omega) (by omega)
  simp (disch := omega) only [w9_115, w9_116, w9_116N, w9_117, w9_120, w9_123, w9_124, w9_124N, w9_125, w9_128, w9_131, w9_132, w9_132N, w9_133, w9_136, w9_139, w9_140, w9_140N, w9_141, w9_144, w9_147, w9_148, w9_148N, w9_149, w9_152, w9_155, w9_156, w9_156N, w9_157, w9_160, w9_163, w9_164, w9_164N, w9_165, w9_168, w9_171, w9_172, w9_172N, w9_173, w9_176, w9_179, aPush_s, aPush_n, vrf_s, vrf_n, true_and, and_true, false_and, and_false, true_imp_iff, false_imp_iff, not_true_eq_false, not_false_eq_true, eq_self, true_or, or_true, and_self, if_true, if_false, n_lit, n_of, n_an, Nat.add_sub_cancel, nI_add, pk_mul, n_sub, n_ixT, n_cl, n_leT, n_leF, n_ltT, n_ltF, n_eqT, n_eqF, Nat.reduceAdd, Nat.reduceMul, Nat.reduceSub, Nat.reduceEqDiff, Nat.reduceLT, Nat.reduceLeDiff, Nat.mul_one, Nat.one_mul, Nat.add_zero, Nat.zero_add, le_T, u0, x0, aW_o, fr2, n3, n6, n7, n8, n9, n10, n11, n13]
  refine hQ _ R' (fun q hq => ?_) r1 ?_ ?_
  · simp (disch := omega) only [aW_o]
    exact fo q (by omega) (by omega) (by omega) (by omega) (by omega) (by omega)
  · refine ⟨hr, ?_, ok, ?_, ⟨?_, ?_, ?_, ?_, ?_, ?_⟩, ?_⟩
    · unfold Sd at sd ⊢
      rw [er]
      exact sd
    · unfold Cn
      simp (disch := omega) only [aW_e, aW_i, and_self]
    · intro w hw
      rw [aW_o (by omega), aW_o (by omega), aW_o (by omega), aW_o (by omega), aW_o (by omega), aW_o (by omega), aW_o (by omega), aW_o (by omega), f1 w (by omega)]
      exact a1 w hw
    · intro w hw
      rw [aW_o (by omega), aW_o (by omega), aW_o (by omega), aW_o (by omega), aW_o (by omega), aW_o (by omega), aW_o (by omega), aW_o (by omega), f2 w (by omega)]
      exact a2 w hw
    · intro w hw l hl
      rw [aW_o (by omega), aW_o (by omega), aW_o (by omega), aW_o (by omega), aW_o (by omega), aW_o (by omega), aW_o (by omega), aW_o (by omega), f3 _ (by omega)]
      exact a3 w hw l hl
    · intro a ha
      rw [aW_o (by omega), aW_o (by omega), aW_o (by omega), aW_o (by omega), aW_o (by omega), aW_o (by omega), aW_o (by omega), aW_o (by omega), f4 _ (by omega)]
      exact a4 a ha
    · intro a ha
      rw [aW_o (by omega), aW_o (by omega), aW_o (by omega), aW_o (by omega), aW_o (by omega), aW_o (by omega), aW_o (by omega), aW_o (by omega), f5 _ (by omega)]
      exact a5 a ha
    · intro k hk
      rw [aW_o (by omega), aW_o (by omega), aW_o (by omega), aW_o (by omega), aW_o (by omega), aW_o (by omega), aW_o (by omega), aW_o (by omega), f7 _ hk]
      exact a7 k hk
    · intro t ht
      obtain ⟨c, hc, t1, t2, t3, t4, t5, t6, t7⟩ := ct t ht
      have h7 := ok.2.2.2.2.2.1
      have w1 : ∀ q, 103 ≤ q → aW (aW (aW (aW (aW (aW (aW (aW X r 3 (nI (g 1))) r 6 (nI (g 2))) r 13 (nI (g 7))) r 7 (nI (g 3))) r 8 (nI (g 4))) r 9 (nI (g 5))) r 10 (nI (g 6))) r 11 (nI (g 0)) q = I q := fun q hq => by
        simp (disch := omega) only [aW_o]
        exact fo q (by omega) (by omega) (by omega) (by omega) (by omega) (by omega)
      refine ⟨c, ?_, t1, t2, t3, ?_, ?_, ?_, ?_⟩
      · rw [rt t (by omega)]; exact hc
      · rw [r1 c (by omega)]; exact t4
      · rw [w1 c t1]; exact t5
      · rw [w1 c t1]; exact t6
      · intro k hk
        rw [w1 (c + 1) (by omega)]
        exact t7 k hk
  · intro t ht
    rw [rt t ht]
    exact tr t ht
theorem l137 {a b : Nat} (ha : S a = (9, 1420)) (hb : S b = (9, 1420)) (b16 : 16 ≤ b) (ne : a ≠ b) (hQ : ∀ J, (∀ q, q ≠ b → J q = I q) → (∀ k, k < 1420 → J b k = I a k) → Q none (S, J, R, z)) : ∀ (j k : Nat) (J : Nat → Nat → Int32), k + j = 1420 → (∀ q, q ≠ b → J q = I q) → (∀ i, i < k → J b i = I a i) → RB d 137 2 [.ref a, .ref b, .int (nI k)] [] (S, J, R, z) Q
  | 0, k, J, h, h1, h2 => by
    obtain rfl : k = 1420 := by omega
    rw [w137_2]
    simp (disch := omega) only [w137_0, w137_1, w137_3, w137_6, w137_9, w137_9N, w137_10, w137_11, w137_11N, w137_12, w137_13, w137_14, w137_15, w137_18, w137_21, aPush_s, aPush_n, vrf_s, vrf_n, true_and, and_true, false_and, and_false, true_imp_iff, false_imp_iff, not_true_eq_false, not_false_eq_true, eq_self, true_or, or_true, and_self, if_true, if_false, n_lit, n_of, n_an, Nat.add_sub_cancel, nI_add, pk_mul, n_sub, n_ixT, n_cl, n_leT, n_leF, n_ltT, n_ltF, n_eqT, n_eqF, Nat.reduceAdd, Nat.reduceMul, Nat.reduceSub, Nat.reduceEqDiff, Nat.reduceLT, Nat.reduceLeDiff, Nat.mul_one, Nat.one_mul, Nat.add_zero, Nat.zero_add]
    exact hQ J h1 h2
  | j + 1, k, J, h, h1, h2 => by
    have ih := fun J => l137 ha hb b16 ne hQ j (k + 1) J (by omega)
    have e1 : J a k = I a k := by rw [h1 a ne]
    rw [w137_2]
    simp (disch := omega) only [w137_0, w137_1, w137_3, w137_6, w137_9, w137_9N, w137_10, w137_11, w137_11N, w137_12, w137_13, w137_14, w137_15, w137_18, w137_21, aPush_s, aPush_n, vrf_s, vrf_n, true_and, and_true, false_and, and_false, true_imp_iff, false_imp_iff, not_true_eq_false, not_false_eq_true, eq_self, true_or, or_true, and_self, if_true, if_false, n_lit, n_of, n_an, Nat.add_sub_cancel, nI_add, pk_mul, n_sub, n_ixT, n_cl, n_leT, n_leF, n_ltT, n_ltF, n_eqT, n_eqF, Nat.reduceAdd, Nat.reduceMul, Nat.reduceSub, Nat.reduceEqDiff, Nat.reduceLT, Nat.reduceLeDiff, Nat.mul_one, Nat.one_mul, Nat.add_zero, Nat.zero_add, le_T, ha, hb, e1]
    refine ih _ (fun q hq => (aW_o hq).trans (h1 q hq)) ?_
    intro i hi
    by_cases e : i = k
    · subst e
      exact aW_e
    · rw [aW_i e]
      exact h2 i (by omega)
theorem c137 {a b : Nat} (ha : S a = (9, 1420)) (hb : S b = (9, 1420)) (b16 : 16 ≤ b) (ne : a ≠ b) (hQ : ∀ J, (∀ q, q ≠ b → J q = I q) → (∀ k, k < 1420 → J b k = I a k) → Q none (S, J, R, z)) : RM (d + 1) 137 [.ref a, .ref b] (S, I, R, z) Q := by
  simp only [e137, w137_0, w137_1, w137_3, w137_6, w137_9, w137_9N, w137_10, w137_11, w137_11N, w137_12, w137_13, w137_14, w137_15, w137_18, w137_21, n_lit]
  exact l137 ha hb b16 ne hQ 1420 0 I rfl (fun _ _ => rfl) (fun i hi => absurd hi (Nat.not_lt_zero _))
theorem l197 (hm : Md S R) (hQ : ∀ J, (∀ q, q ≠ 85 → J q = I q) → (∀ k, k < 48 → J 85 k = I 82 k) → Q none (S, J, R, z)) : ∀ (j k : Nat) (J : Nat → Nat → Int32), k + j = 48 → (∀ q, q ≠ 85 → J q = I q) → (∀ i, i < k → J 85 i = I 82 i) → RB d 197 2 [.ref 81, .int (nI k)] [] (S, J, R, z) Q
  | 0, k, J, h, h1, h2 => by
    obtain rfl : k = 48 := by omega
    rw [w197_2]
    simp (disch := omega) only [w197_0, w197_1, w197_3, w197_5, w197_8, w197_9, w197_12, w197_13, w197_14, w197_17, w197_18, w197_19, w197_20, w197_23, w197_26, aPush_s, aPush_n, vrf_s, vrf_n, true_and, and_true, false_and, and_false, true_imp_iff, false_imp_iff, not_true_eq_false, not_false_eq_true, eq_self, true_or, or_true, and_self, if_true, if_false, n_lit, n_of, n_an, Nat.add_sub_cancel, nI_add, pk_mul, n_sub, n_ixT, n_cl, n_leT, n_leF, n_ltT, n_ltF, n_eqT, n_eqF, Nat.reduceAdd, Nat.reduceMul, Nat.reduceSub, Nat.reduceEqDiff, Nat.reduceLT, Nat.reduceLeDiff, Nat.mul_one, Nat.one_mul, Nat.add_zero, Nat.zero_add]
    exact hQ J h1 h2
  | j + 1, k, J, h, h1, h2 => by
    have ih := fun J => l197 hm hQ j (k + 1) J (by omega)
    have e1 : J 82 k = I 82 k := by rw [h1 82 (by decide)]
    obtain ⟨Md_s1, Md_s81, Md_s82, Md_s83, Md_s84, Md_s85, Md_s86, Md_s87, Md_s88, Md_s89, Md_s90, Md_s91, Md_s92, Md_s93, Md_s94, Md_s95, Md_s96, Md_s97, Md_s98, Md_s99, Md_s100, Md_s101, Md_s102, Md_r81_0, Md_r81_1, Md_r81_2, Md_r81_4, Md_r81_5, Md_r81_13, Md_r81_14, Md_r81_15, Md_r81_18, Md_r81_20, Md_r81_21, Md_r81_22, Md_r81_23, Md_r81_24, Md_r81_25, Md_r81_26, Md_r81_27, Md_r81_28, Md_r81_29, Md_r81_30, Md_r81_31⟩ := id hm
    rw [w197_2]
    simp (disch := omega) only [w197_0, w197_1, w197_3, w197_5, w197_8, w197_9, w197_12, w197_13, w197_14, w197_17, w197_18, w197_19, w197_20, w197_23, w197_26, Md_s1, Md_s81, Md_s82, Md_s83, Md_s84, Md_s85, Md_s86, Md_s87, Md_s88, Md_s89, Md_s90, Md_s91, Md_s92, Md_s93, Md_s94, Md_s95, Md_s96, Md_s97, Md_s98, Md_s99, Md_s100, Md_s101, Md_s102, Md_r81_0, Md_r81_1, Md_r81_2, Md_r81_4, Md_r81_5, Md_r81_13, Md_r81_14, Md_r81_15, Md_r81_18, Md_r81_20, Md_r81_21, Md_r81_22, Md_r81_23, Md_r81_24, Md_r81_25, Md_r81_26, Md_r81_27, Md_r81_28, Md_r81_29, Md_r81_30, Md_r81_31, aPush_s, aPush_n, vrf_s, vrf_n, true_and, and_true, false_and, and_false, true_imp_iff, false_imp_iff, not_true_eq_false, not_false_eq_true, eq_self, true_or, or_true, and_self, if_true, if_false, n_lit, n_of, n_an, Nat.add_sub_cancel, nI_add, pk_mul, n_sub, n_ixT, n_cl, n_leT, n_leF, n_ltT, n_ltF, n_eqT, n_eqF, Nat.reduceAdd, Nat.reduceMul, Nat.reduceSub, Nat.reduceEqDiff, Nat.reduceLT, Nat.reduceLeDiff, Nat.mul_one, Nat.one_mul, Nat.add_zero, Nat.zero_add, le_T, e1]
    refine ih _ (fun q hq => (aW_o hq).trans (h1 q hq)) ?_
    intro i hi
    by_cases e : i = k
    · subst e
      exact aW_e
    · rw [aW_i e]
      exact h2 i (by omega)
theorem c197 (hm : Md S R) (hQ : ∀ J, (∀ q, q ≠ 85 → J q = I q) → (∀ k, k < 48 → J 85 k = I 82 k) → Q none (S, J, R, z)) : RM (d + 1) 197 [.ref 81] (S, I, R, z) Q := by
  simp only [e197, w197_0, w197_1, w197_3, w197_5, w197_8, w197_9, w197_12, w197_13, w197_14, w197_17, w197_18, w197_19, w197_20, w197_23, w197_26, n_lit]
  exact l197 hm hQ 48 0 I rfl (fun _ _ => rfl) (fun i hi => absurd hi (Nat.not_lt_zero _))
theorem l198 (hm : Md S R) (hQ : ∀ J, (∀ q, q ≠ 82 → J q = I q) → (∀ k, k < 48 → J 82 k = I 85 k) → (∀ k, 48 ≤ k → J 82 k = I 82 k) → Q none (S, J, R, z)) : ∀ (j k : Nat) (J : Nat → Nat → Int32), k + j = 48 → (∀ q, q ≠ 82 → J q = I q) → (∀ i, i < k → J 82 i = I 85 i) → (∀ i, 48 ≤ i → J 82 i = I 82 i) → RB d 198 2 [.ref 81, .int (nI k)] [] (S, J, R, z) Q
  | 0, k, J, h, h1, h2, h3 => by
    obtain rfl : k = 48 := by omega
    rw [w198_2]
    simp (disch := omega) only [w198_0, w198_1, w198_3, w198_5, w198_8, w198_9, w198_12, w198_13, w198_14, w198_17, w198_18, w198_19, w198_20, w198_23, w198_26, aPush_s, aPush_n, vrf_s, vrf_n, true_and, and_true, false_and, and_false, true_imp_iff, false_imp_iff, not_true_eq_false, not_false_eq_true, eq_self, true_or, or_true, and_self, if_true, if_false, n_lit, n_of, n_an, Nat.add_sub_cancel, nI_add, pk_mul, n_sub, n_ixT, n_cl, n_leT, n_leF, n_ltT, n_ltF, n_eqT, n_eqF, Nat.reduceAdd, Nat.reduceMul, Nat.reduceSub, Nat.reduceEqDiff, Nat.reduceLT, Nat.reduceLeDiff, Nat.mul_one, Nat.one_mul, Nat.add_zero, Nat.zero_add]
    exact hQ J h1 h2 h3
  | j + 1, k, J, h, h1, h2, h3 => by
    have ih := fun J => l198 hm hQ j (k + 1) J (by omega)
    have e1 : J 85 k = I 85 k := by rw [h1 85 (by decide)]
    obtain ⟨Md_s1, Md_s81, Md_s82, Md_s83, Md_s84, Md_s85, Md_s86, Md_s87, Md_s88, Md_s89, Md_s90, Md_s91, Md_s92, Md_s93, Md_s94, Md_s95, Md_s96, Md_s97, Md_s98, Md_s99, Md_s100, Md_s101, Md_s102, Md_r81_0, Md_r81_1, Md_r81_2, Md_r81_4, Md_r81_5, Md_r81_13, Md_r81_14, Md_r81_15, Md_r81_18, Md_r81_20, Md_r81_21, Md_r81_22, Md_r81_23, Md_r81_24, Md_r81_25, Md_r81_26, Md_r81_27, Md_r81_28, Md_r81_29, Md_r81_30, Md_r81_31⟩ := id hm
    rw [w198_2]
    simp (disch := omega) only [w198_0, w198_1, w198_3, w198_5, w198_8, w198_9, w198_12, w198_13, w198_14, w198_17, w198_18, w198_19, w198_20, w198_23, w198_26, Md_s1, Md_s81, Md_s82, Md_s83, Md_s84, Md_s85, Md_s86, Md_s87, Md_s88, Md_s89, Md_s90, Md_s91, Md_s92, Md_s93, Md_s94, Md_s95, Md_s96, Md_s97, Md_s98, Md_s99, Md_s100, Md_s101, Md_s102, Md_r81_0, Md_r81_1, Md_r81_2, Md_r81_4, Md_r81_5, Md_r81_13, Md_r81_14, Md_r81_15, Md_r81_18, Md_r81_20, Md_r81_21, Md_r81_22, Md_r81_23, Md_r81_24, Md_r81_25, Md_r81_26, Md_r81_27, Md_r81_28, Md_r81_29, Md_r81_30, Md_r81_31, aPush_s, aPush_n, vrf_s, vrf_n, true_and, and_true, false_and, and_false, true_imp_iff, false_imp_iff, not_true_eq_false, not_false_eq_true, eq_self, true_or, or_true, and_self, if_true, if_false, n_lit, n_of, n_an, Nat.add_sub_cancel, nI_add, pk_mul, n_sub, n_ixT, n_cl, n_leT, n_leF, n_ltT, n_ltF, n_eqT, n_eqF, Nat.reduceAdd, Nat.reduceMul, Nat.reduceSub, Nat.reduceEqDiff, Nat.reduceLT, Nat.reduceLeDiff, Nat.mul_one, Nat.one_mul, Nat.add_zero, Nat.zero_add, le_T, e1]
    refine ih _ (fun q hq => (aW_o hq).trans (h1 q hq)) ?_ ?_
    · intro i hi
      by_cases e : i = k
      · subst e
        exact aW_e
      · rw [aW_i e]
        exact h2 i (by omega)
    · intro i hi
      rw [aW_i (show i ≠ k by omega)]
      exact h3 i hi
theorem c198 (hm : Md S R) (hQ : ∀ J, (∀ q, q ≠ 82 → J q = I q) → (∀ k, k < 48 → J 82 k = I 85 k) → (∀ k, 48 ≤ k → J 82 k = I 82 k) → Q none (S, J, R, z)) : RM (d + 1) 198 [.ref 81] (S, I, R, z) Q := by
  simp only [e198, w198_0, w198_1, w198_3, w198_5, w198_8, w198_9, w198_12, w198_13, w198_14, w198_17, w198_18, w198_19, w198_20, w198_23, w198_26, n_lit]
  exact l198 hm hQ 48 0 I rfl (fun _ _ => rfl) (fun i hi => absurd hi (Nat.not_lt_zero _)) (fun _ _ => rfl)
end
