/-! words and askers come and change -/
theorem le_T {a b : Nat} (h : a ≤ b) : (a ≤ b) = True := eq_true h
theorem Ok.wa {g g' : Nat → Nat} (ok : Ok g) (e : ∀ i, i = 0 ∨ (2 < i ∧ i < 8) ∨ 48 ≤ i → g' i = g i) (h1 : g' 1 ≤ 12) (h11 : g 1 ≤ g' 1) (h2 : g' 2 ≤ 8) (hw : ∀ w, w < g' 1 → g' (8 + 2 * w) < 1296 ∧ 1 ≤ g' (8 + 2 * w + 1) ∧ g' (8 + 2 * w + 1) ≤ 99) (ha : ∀ a, a < g' 2 → g' (32 + 2 * a) ≤ 5 ∧ g' (32 + 2 * a + 1) ≤ 5) : Ok g' := by
  obtain ⟨o1, o2, o3, o4, o5, o6, o7, o8, o9⟩ := ok
  refine ⟨h1, h2, ?_, ?_, ?_, ?_, hw, ha, ?_⟩
  · rw [e 3 (by omega), e 5 (by omega)]
    rcases o3 with q | q
    · exact Or.inl q
    · exact Or.inr (Nat.lt_of_lt_of_le q h11)
  · rw [e 4 (by omega)]; exact o4
  · rw [e 6 (by omega)]; exact o5
  · rw [e 7 (by omega)]; exact o6
  · intro t ht
    rw [e 7 (by omega)] at ht
    have h := o9 t ht
    rw [e _ (by omega)]
    refine ⟨h.1, ?_⟩
    have e1 : sCode g' t = sCode g t := by
      funext k
      unfold sCode
      rw [e _ (by omega)]
    have e2 : sLen g' t = sLen g t := by
      unfold sLen
      rw [e _ (by omega)]
    have e3 : sKey g' t = sKey g t := by
      unfold sKey
      rw [e _ (by omega)]
    rw [e1, e2, e3]
    exact h.2
theorem Cs.wa {r : Nat} {g g' : Nat → Nat} {S : Nat → Nat × Nat} {I J : Nat → Nat → Int32} {R : Nat → Nat → Option Nat} (hs : Cs S I R r g) (hJ : ∀ p, p < r ∨ r + 5 < p → J p = I p) (ok : Ok g') (e : ∀ i, i = 0 ∨ (2 < i ∧ i < 8) ∨ 48 ≤ i → g' i = g i) (hn : Cn J r g') (b1 : ∀ w, w < g' 1 → J (r + 1) w = nI (g' (8 + 2 * w))) (b2 : ∀ w, w < g' 1 → J (r + 2) w = nI (sW g' w)) (b3 : ∀ w, w < g' 1 → ∀ l, l < 6 → J (r + 3) (6 * w + l) = nI (sPl g' w l)) (b4 : ∀ a, a < g' 2 → J (r + 4) a = nI (g' (32 + 2 * a))) (b5 : ∀ a, a < g' 2 → J (r + 5) a = nI (g' (32 + 2 * a + 1))) : Cs S J R r g' := by
  obtain ⟨hr, sd, ok0, cn, ⟨a1, a2, a3, a4, a5, a7⟩, ct⟩ := hs
  have g7 := e 7 (by omega)
  have hk : ∀ t, sKey g' t = sKey g t := fun t => by
    unfold sKey
    rw [e _ (by omega)]
  have hct : ∀ k n, sCt g' k n = sCt g k n := by
    intro k n
    induction n with
    | zero => rfl
    | succ n ih =>
      show (if sKey g' n = k then _ else _) = if sKey g n = k then _ else _
      rw [hk, ih]
  refine ⟨hr, sd, ok, hn, ⟨b1, b2, b3, b4, b5, ?_⟩, ?_⟩
  · intro k hk3
    rw [hJ _ (by omega), hct, g7]
    exact a7 k hk3
  · intro t ht
    rw [g7] at ht
    obtain ⟨c, hc, t1, t2, t3, t4, t5, t6, t7⟩ := ct t ht
    have hl : sLen g' t = sLen g t := by
      unfold sLen
      rw [e _ (by omega)]
    refine ⟨c, hc, t1, t2, ?_, t4, ?_, ?_, ?_⟩
    · rw [hl]; exact t3
    · rw [hJ _ (by omega), hk]; exact t5
    · rw [hJ _ (by omega), e _ (by omega)]; exact t6
    · intro k hk2
      rw [hl] at hk2
      rw [hJ _ (by omega)]
      unfold sCode
      rw [e _ (by omega)]
      exact t7 k hk2
theorem Cn.cong {r : Nat} {g g' : Nat → Nat} {I J : Nat → Nat → Int32} (h : Cn I r g) (hJ : J r = I r) (e : ∀ i, i < 8 → g' i = g i) : Cn J r g' := by
  unfold Cn at h ⊢
  rw [hJ, e 0 (by decide), e 1 (by decide), e 2 (by decide), e 3 (by decide), e 4 (by decide), e 5 (by decide), e 6 (by decide), e 7 (by decide)]
  exact h
theorem sPl_cong {g g' : Nat → Nat} {w l : Nat} (h : g' (8 + 2 * w) = g (8 + 2 * w)) : sPl g' w l = sPl g w l := by
  apply bs_cong
  intro p _
  unfold sL
  rw [h]
def sWgh (g : Nat → Nat) (w v : Nat) : Nat → Nat := gu g (8 + 2 * w + 1) v
def sKnd (g : Nat → Nat) (a k : Nat) : Nat → Nat := gu g (32 + 2 * a) k
def sFst (g : Nat → Nat) (a k : Nat) : Nat → Nat := gu g (32 + 2 * a + 1) k
def sAddW (g : Nat → Nat) (L v : Nat) : Nat → Nat := gu (gu (gu g (8 + 2 * g 1) L) (8 + 2 * g 1 + 1) v) 1 (g 1 + 1)
def sAddA (g : Nat → Nat) (k f : Nat) : Nat → Nat := gu (gu (gu g (32 + 2 * g 2) k) (32 + 2 * g 2 + 1) f) 2 (g 2 + 1)
section
variable {r : Nat} {g : Nat → Nat} {S : Nat → Nat × Nat} {I : Nat → Nat → Int32} {R : Nat → Nat → Option Nat}
theorem Ok.wgh (ok : Ok g) {w v : Nat} (hw : w < g 1) (hv : 1 ≤ v ∧ v ≤ 99) : Ok (sWgh g w v) := by
  have h1 := ok.1
  have e : ∀ i, i ≠ 8 + 2 * w + 1 → sWgh g w v i = g i := fun i h => gu_n h
  refine ok.wa (fun i hi => e i (by omega)) (by rw [e 1 (by omega)]; exact h1) (by rw [e 1 (by omega)]; exact Nat.le_refl _) (by rw [e 2 (by omega)]; exact ok.2.1) ?_ ?_
  · intro x hx
    rw [e 1 (by omega)] at hx
    have o := ok.2.2.2.2.2.2.1 x hx
    rw [e (8 + 2 * x) (by omega)]
    by_cases q : x = w
    · subst q
      rw [show sWgh g x v (8 + 2 * x + 1) = v from gu_e]
      exact ⟨o.1, hv⟩
    · rw [e _ (by omega)]
      exact o
  · intro a ha
    rw [e 2 (by omega)] at ha
    rw [e _ (by omega), e _ (by omega)]
    exact ok.2.2.2.2.2.2.2.1 a ha
theorem Cs.wgh (hs : Cs S I R r g) {w v : Nat} (hw : w < g 1) (hv : 1 ≤ v ∧ v ≤ 99) : Cs S (aW I (r + 2) w (nI v)) R r (sWgh g w v) := by
  obtain ⟨hr, sd, ok, cn, ⟨a1, a2, a3, a4, a5, a7⟩, ct⟩ := id hs
  have h1 := ok.1
  have e : ∀ i, i ≠ 8 + 2 * w + 1 → sWgh g w v i = g i := fun i h => gu_n h
  have eJ : ∀ p, p ≠ r + 2 → aW I (r + 2) w (nI v) p = I p := fun p h => aW_o h
  refine hs.wa (fun p hp => eJ p (by omega)) (ok.wgh hw hv) (fun i hi => e i (by omega)) (cn.cong (eJ r (by omega)) (fun i hi => e i (by omega))) ?_ ?_ ?_ ?_ ?_
  · intro x hx
    rw [e 1 (by omega)] at hx
    rw [eJ _ (by omega), e _ (by omega)]
    exact a1 x hx
  · intro x hx
    rw [e 1 (by omega)] at hx
    unfold sW
    by_cases q : x = w
    · subst q
      rw [show sWgh g x v (8 + 2 * x + 1) = v from gu_e]
      exact aW_e
    · rw [e _ (by omega), aW_i q]
      exact a2 x hx
  · intro x hx l hl
    rw [e 1 (by omega)] at hx
    rw [eJ _ (by omega), sPl_cong (e _ (by omega))]
    exact a3 x hx l hl
  · intro a ha
    rw [e 2 (by omega)] at ha
    rw [eJ _ (by omega), e _ (by omega)]
    exact a4 a ha
  · intro a ha
    rw [e 2 (by omega)] at ha
    rw [eJ _ (by omega), e _ (by omega)]
    exact a5 a ha
theorem Ok.knd (ok : Ok g) {a k : Nat} (ha8 : a < g 2) (hk : k ≤ 5) : Ok (sKnd g a k) := by
  have h2 := ok.2.1
  have h1 := ok.1
  have e : ∀ i, i ≠ 32 + 2 * a → sKnd g a k i = g i := fun i h => gu_n h
  refine ok.wa (fun i hi => e i (by omega)) (by rw [e 1 (by omega)]; exact ok.1) (by rw [e 1 (by omega)]; exact Nat.le_refl _) (by rw [e 2 (by omega)]; exact ok.2.1) ?_ ?_
  · intro x hx
    rw [e 1 (by omega)] at hx
    rw [e _ (by omega), e _ (by omega)]
    exact ok.2.2.2.2.2.2.1 x hx
  · intro b hb
    rw [e 2 (by omega)] at hb
    have o := ok.2.2.2.2.2.2.2.1 b hb
    by_cases q : b = a
    · subst q
      rw [show sKnd g b k (32 + 2 * b) = k from gu_e, e _ (by omega)]
      exact ⟨hk, o.2⟩
    · rw [e _ (by omega), e _ (by omega)]
      exact o
theorem Cs.knd (hs : Cs S I R r g) {a k : Nat} (ha8 : a < g 2) (hk : k ≤ 5) : Cs S (aW I (r + 4) a (nI k)) R r (sKnd g a k) := by
  obtain ⟨hr, sd, ok, cn, ⟨a1, a2, a3, a4, a5, a7⟩, ct⟩ := id hs
  have h1 := ok.1
  have h2 := ok.2.1
  have e : ∀ i, i ≠ 32 + 2 * a → sKnd g a k i = g i := fun i h => gu_n h
  have eJ : ∀ p, p ≠ r + 4 → aW I (r + 4) a (nI k) p = I p := fun p h => aW_o h
  refine hs.wa (fun p hp => eJ p (by omega)) (ok.knd ha8 hk) (fun i hi => e i (by omega)) (cn.cong (eJ r (by omega)) (fun i hi => e i (by omega))) ?_ ?_ ?_ ?_ ?_
  · intro x hx
    rw [e 1 (by omega)] at hx
    rw [eJ _ (by omega), e _ (by omega)]
    exact a1 x hx
  · intro x hx
    rw [e 1 (by omega)] at hx
    unfold sW
    rw [eJ _ (by omega), e _ (by omega)]
    exact a2 x hx
  · intro x hx l hl
    rw [e 1 (by omega)] at hx
    rw [eJ _ (by omega), sPl_cong (e _ (by omega))]
    exact a3 x hx l hl
  · intro b hb
    rw [e 2 (by omega)] at hb
    by_cases q : b = a
    · subst q
      rw [show sKnd g b k (32 + 2 * b) = k from gu_e]
      exact aW_e
    · rw [e _ (by omega), aW_i q]
      exact a4 b hb
  · intro b hb
    rw [e 2 (by omega)] at hb
    rw [eJ _ (by omega), e _ (by omega)]
    exact a5 b hb
theorem Ok.fst (ok : Ok g) {a k : Nat} (ha8 : a < g 2) (hk : k ≤ 5) : Ok (sFst g a k) := by
  have h2 := ok.2.1
  have h1 := ok.1
  have e : ∀ i, i ≠ 32 + 2 * a + 1 → sFst g a k i = g i := fun i h => gu_n h
  refine ok.wa (fun i hi => e i (by omega)) (by rw [e 1 (by omega)]; exact ok.1) (by rw [e 1 (by omega)]; exact Nat.le_refl _) (by rw [e 2 (by omega)]; exact ok.2.1) ?_ ?_
  · intro x hx
    rw [e 1 (by omega)] at hx
    rw [e _ (by omega), e _ (by omega)]
    exact ok.2.2.2.2.2.2.1 x hx
  · intro b hb
    rw [e 2 (by omega)] at hb
    have o := ok.2.2.2.2.2.2.2.1 b hb
    by_cases q : b = a
    · subst q
      rw [show sFst g b k (32 + 2 * b + 1) = k from gu_e, e _ (by omega)]
      exact ⟨o.1, hk⟩
    · rw [e _ (by omega), e _ (by omega)]
      exact o
theorem Cs.fst (hs : Cs S I R r g) {a k : Nat} (ha8 : a < g 2) (hk : k ≤ 5) : Cs S (aW I (r + 5) a (nI k)) R r (sFst g a k) := by
  obtain ⟨hr, sd, ok, cn, ⟨a1, a2, a3, a4, a5, a7⟩, ct⟩ := id hs
  have h1 := ok.1
  have h2 := ok.2.1
  have e : ∀ i, i ≠ 32 + 2 * a + 1 → sFst g a k i = g i := fun i h => gu_n h
  have eJ : ∀ p, p ≠ r + 5 → aW I (r + 5) a (nI k) p = I p := fun p h => aW_o h
  refine hs.wa (fun p hp => eJ p (by omega)) (ok.fst ha8 hk) (fun i hi => e i (by omega)) (cn.cong (eJ r (by omega)) (fun i hi => e i (by omega))) ?_ ?_ ?_ ?_ ?_
  · intro x hx
    rw [e 1 (by omega)] at hx
    rw [eJ _ (by omega), e _ (by omega)]
    exact a1 x hx
  · intro x hx
    rw [e 1 (by omega)] at hx
    unfold sW
    rw [eJ _ (by omega), e _ (by omega)]
    exact a2 x hx
  · intro x hx l hl
    rw [e 1 (by omega)] at hx
    rw [eJ _ (by omega), sPl_cong (e _ (by omega))]
    exact a3 x hx l hl
  · intro b hb
    rw [e 2 (by omega)] at hb
    rw [eJ _ (by omega), e _ (by omega)]
    exact a4 b hb
  · intro b hb
    rw [e 2 (by omega)] at hb
    by_cases q : b = a
    · subst q
      rw [show sFst g b k (32 + 2 * b + 1) = k from gu_e]
      exact aW_e
    · rw [e _ (by omega), aW_i q]
      exact a5 b hb
theorem Ok.addW (ok : Ok g) {L v : Nat} (hg : g 1 < 12) (hL : L < 1296) (hv : 1 ≤ v ∧ v ≤ 99) : Ok (sAddW g L v) := by
  have e1 : sAddW g L v 1 = g 1 + 1 := gu_e
  have eL : sAddW g L v (8 + 2 * g 1) = L := (gu_n (by omega)).trans ((gu_n (by omega)).trans gu_e)
  have eV : sAddW g L v (8 + 2 * g 1 + 1) = v := (gu_n (by omega)).trans gu_e
  have e : ∀ i, i ≠ 1 → i ≠ 8 + 2 * g 1 → i ≠ 8 + 2 * g 1 + 1 → sAddW g L v i = g i := fun i h1 h2 h3 => (gu_n h1).trans ((gu_n h3).trans (gu_n h2))
  refine ok.wa (fun i hi => e i (by omega) (by omega) (by omega)) (by omega) (by omega) (by rw [e 2 (by omega) (by omega) (by omega)]; exact ok.2.1) ?_ ?_
  · intro x hx
    by_cases q : x = g 1
    · subst q
      rw [eL, eV]
      exact ⟨hL, hv⟩
    · rw [e _ (by omega) (by omega) (by omega), e _ (by omega) (by omega) (by omega)]
      exact ok.2.2.2.2.2.2.1 x (by omega)
  · intro b hb
    rw [e 2 (by omega) (by omega) (by omega)] at hb
    rw [e _ (by omega) (by omega) (by omega), e _ (by omega) (by omega) (by omega)]
    exact ok.2.2.2.2.2.2.2.1 b hb
theorem Ok.addA (ok : Ok g) {k f : Nat} (hg : g 2 < 8) (hk : k ≤ 5) (hf : f ≤ 5) : Ok (sAddA g k f) := by
  have h1 := ok.1
  have e2 : sAddA g k f 2 = g 2 + 1 := gu_e
  have eL : sAddA g k f (32 + 2 * g 2) = k := (gu_n (by omega)).trans ((gu_n (by omega)).trans gu_e)
  have eV : sAddA g k f (32 + 2 * g 2 + 1) = f := (gu_n (by omega)).trans gu_e
  have e : ∀ i, i ≠ 2 → i ≠ 32 + 2 * g 2 → i ≠ 32 + 2 * g 2 + 1 → sAddA g k f i = g i := fun i h1 h2 h3 => (gu_n h1).trans ((gu_n h3).trans (gu_n h2))
  refine ok.wa (fun i hi => e i (by omega) (by omega) (by omega)) (by rw [e 1 (by omega) (by omega) (by omega)]; exact ok.1) (by rw [e 1 (by omega) (by omega) (by omega)]; exact Nat.le_refl _) (by omega) ?_ ?_
  · intro x hx
    rw [e 1 (by omega) (by omega) (by omega)] at hx
    rw [e _ (by omega) (by omega) (by omega), e _ (by omega) (by omega) (by omega)]
    exact ok.2.2.2.2.2.2.1 x hx
  · intro b hb
    by_cases q : b = g 2
    · subst q
      rw [eL, eV]
      exact ⟨hk, hf⟩
    · rw [e _ (by omega) (by omega) (by omega), e _ (by omega) (by omega) (by omega)]
      exact ok.2.2.2.2.2.2.2.1 b (by omega)
end
section
variable {d r : Nat} {g : Nat → Nat} {S : Nat → Nat × Nat} {I : Nat → Nat → Int32} {R : Nat → Nat → Option Nat} {z : Nat × Nat} {Q : Option Value → HS → Prop}
theorem c11 {k f : Nat} (hs : Cs S I R r g) (hg : g 2 < 8) (hk : k ≤ 5) (hf : f ≤ 5) (hQ : ∀ J, Fr r I J → Cs S J R r (sAddA g k f) → Q (some (.int (nI (g 2)))) (S, J, R, z)) : RM (d + 1) 11 [.ref r, .int (nI k), .int (nI f)] (S, I, R, z) Q := by
  obtain ⟨hr, ⟨Sd_sr, Sd_s_r___1_, Sd_s_r___2_, Sd_s_r___3_, Sd_s_r___4_, Sd_s_r___5_, Sd_s_r___6_, Sd_s_r___7_, Sd_s_r___8_, Sd_s_r___9_, Sd_s_r___10_, Sd_rr_0, Sd_rr_1, Sd_rr_2, Sd_rr_4, Sd_rr_5, Sd_rr_12, Sd_rr_14, Sd_rr_15, Sd_rr_16, Sd_rr_17⟩, ok, ⟨n3, n6, n7, n8, n9, n10, n11, n13⟩, ⟨a1, a2, a3, a4, a5, a7⟩, ct⟩ := id hs
  have hr16 := hr.1
  have h1 := ok.1
  have h7 : 7 ≤ r := by omega
  simp (disch := omega) only [e11, w11_0, w11_1, w11_4, w11_6, w11_9, w11_11, w11_12, w11_13, w11_16, w11_17, w11_20, w11_21, w11_22, w11_23, w11_26, w11_27, w11_30, w11_31, w11_32, w11_33, w11_34, w11_37, w11_38, w11_39, w11_42, w11_43, w11_46, w11_47, w11_48, Sd_sr, Sd_s_r___1_, Sd_s_r___2_, Sd_s_r___3_, Sd_s_r___4_, Sd_s_r___5_, Sd_s_r___6_, Sd_s_r___7_, Sd_s_r___8_, Sd_s_r___9_, Sd_s_r___10_, Sd_rr_0, Sd_rr_1, Sd_rr_2, Sd_rr_4, Sd_rr_5, Sd_rr_12, Sd_rr_14, Sd_rr_15, Sd_rr_16, Sd_rr_17, aPush_s, aPush_n, vrf_s, vrf_n, true_and, and_true, false_and, and_false, true_imp_iff, false_imp_iff, not_true_eq_false, not_false_eq_true, eq_self, true_or, or_true, and_self, if_true, if_false, n_lit, n_of, n_an, Nat.add_sub_cancel, nI_add, pk_mul, n_sub, n_ixT, n_cl, n_leT, n_leF, n_ltT, n_ltF, n_eqT, n_eqF, Nat.reduceAdd, Nat.reduceMul, Nat.reduceSub, Nat.reduceEqDiff, Nat.reduceLT, Nat.reduceLeDiff, Nat.mul_one, Nat.one_mul, Nat.add_zero, Nat.zero_add, n3, n6, n7, n8, n9, n10, n11, n13, hr16, le_T, aW_o, aW_e]
  refine hQ _ (fun p hp => by simp (disch := omega) only [aW_o]) ?_
  have e2 : sAddA g k f 2 = g 2 + 1 := gu_e
  have eL : sAddA g k f (32 + 2 * g 2) = k := (gu_n (by omega)).trans ((gu_n (by omega)).trans gu_e)
  have eV : sAddA g k f (32 + 2 * g 2 + 1) = f := (gu_n (by omega)).trans gu_e
  have e : ∀ i, i ≠ 2 → i ≠ 32 + 2 * g 2 → i ≠ 32 + 2 * g 2 + 1 → sAddA g k f i = g i := fun i h1 h2 h3 => (gu_n h1).trans ((gu_n h3).trans (gu_n h2))
  have eg : ∀ i, i < 32 → i ≠ 2 → sAddA g k f i = g i := fun i h1 h2 => e i h2 (by omega) (by omega)
  refine hs.wa (fun p hp => by simp (disch := omega) only [aW_o]) (ok.addA hg hk hf) (fun i hi => e i (by omega) (by omega) (by omega)) ?_ ?_ ?_ ?_ ?_ ?_
  · unfold Cn
    rw [e2, eg 1 (by omega) (by omega), eg 3 (by omega) (by omega), eg 4 (by omega) (by omega), eg 5 (by omega) (by omega), eg 6 (by omega) (by omega), eg 0 (by omega) (by omega), eg 7 (by omega) (by omega)]
    simp (disch := omega) only [aW_e, aW_i, aW_o, n3, n6, n7, n8, n9, n10, n11, n13, and_self]
  · intro x hx
    rw [eg 1 (by omega) (by omega)] at hx
    rw [eg _ (by omega) (by omega)]
    simp (disch := omega) only [aW_o]
    exact a1 x hx
  · intro x hx
    rw [eg 1 (by omega) (by omega)] at hx
    unfold sW
    rw [eg _ (by omega) (by omega)]
    simp (disch := omega) only [aW_o]
    exact a2 x hx
  · intro x hx l hl
    rw [eg 1 (by omega) (by omega)] at hx
    rw [sPl_cong (eg _ (by omega) (by omega))]
    simp (disch := omega) only [aW_o]
    exact a3 x hx l hl
  · intro b hb
    by_cases q : b = g 2
    · subst q
      rw [eL]
      simp (disch := omega) only [aW_o, aW_e]
    · rw [e _ (by omega) (by omega) (by omega)]
      simp (disch := omega) only [aW_o, aW_i]
      exact a4 b (by omega)
  · intro b hb
    by_cases q : b = g 2
    · subst q
      rw [eV]
      simp (disch := omega) only [aW_o, aW_e]
    · rw [e _ (by omega) (by omega) (by omega)]
      simp (disch := omega) only [aW_o, aW_i]
      exact a5 b (by omega)
theorem c11F {x y : Int32} (hs : Cs S I R r g) (hg : g 2 = 8) : RM (d + 1) 11 [.ref r, .int x, .int y] (S, I, R, z) Q = Q (some (.int (-nI 1000000003))) (S, I, R, z) := by
  obtain ⟨hr, ⟨Sd_sr, Sd_s_r___1_, Sd_s_r___2_, Sd_s_r___3_, Sd_s_r___4_, Sd_s_r___5_, Sd_s_r___6_, Sd_s_r___7_, Sd_s_r___8_, Sd_s_r___9_, Sd_s_r___10_, Sd_rr_0, Sd_rr_1, Sd_rr_2, Sd_rr_4, Sd_rr_5, Sd_rr_12, Sd_rr_14, Sd_rr_15, Sd_rr_16, Sd_rr_17⟩, ok, ⟨n3, n6, n7, n8, n9, n10, n11, n13⟩, ⟨a1, a2, a3, a4, a5, a7⟩, ct⟩ := id hs
  simp (disch := omega) only [e11, w11_0, w11_1, w11_4, w11_6, w11_9, w11_11, w11_12, w11_13, w11_16, w11_17, w11_20, w11_21, w11_22, w11_23, w11_26, w11_27, w11_30, w11_31, w11_32, w11_33, w11_34, w11_37, w11_38, w11_39, w11_42, w11_43, w11_46, w11_47, w11_48, Sd_sr, Sd_s_r___1_, Sd_s_r___2_, Sd_s_r___3_, Sd_s_r___4_, Sd_s_r___5_, Sd_s_r___6_, Sd_s_r___7_, Sd_s_r___8_, Sd_s_r___9_, Sd_s_r___10_, Sd_rr_0, Sd_rr_1, Sd_rr_2, Sd_rr_4, Sd_rr_5, Sd_rr_12, Sd_rr_14, Sd_rr_15, Sd_rr_16, Sd_rr_17, aPush_s, aPush_n, vrf_s, vrf_n, true_and, and_true, false_and, and_false, true_imp_iff, false_imp_iff, not_true_eq_false, not_false_eq_true, eq_self, true_or, or_true, and_self, if_true, if_false, n_lit, n_of, n_an, Nat.add_sub_cancel, nI_add, pk_mul, n_sub, n_ixT, n_cl, n_leT, n_leF, n_ltT, n_ltF, n_eqT, n_eqF, Nat.reduceAdd, Nat.reduceMul, Nat.reduceSub, Nat.reduceEqDiff, Nat.reduceLT, Nat.reduceLeDiff, Nat.mul_one, Nat.one_mul, Nat.add_zero, Nat.zero_add, n3, n6, n7, n8, n9, n10, n11, n13, hg]
theorem c150 {L v : Nat} (hm : Mr S I R) (hg : G I 1 < 12) (hL : L < 1296) (hv : v ≤ 99) (hQ : ∀ J, Sg I (sAddW (G I) L v) J → Q (some (.int (nI (G I 1)))) (S, J, R, z)) : RM (d + 1) 150 [.ref 81, .int (nI L), .int (nI v)] (S, I, R, z) Q := by
  obtain ⟨⟨Md_s1, Md_s81, Md_s82, Md_s83, Md_s84, Md_s85, Md_s86, Md_s87, Md_s88, Md_s89, Md_s90, Md_s91, Md_s92, Md_s93, Md_s94, Md_s95, Md_s96, Md_s97, Md_s98, Md_s99, Md_s100, Md_s101, Md_s102, Md_r81_0, Md_r81_1, Md_r81_2, Md_r81_4, Md_r81_5, Md_r81_13, Md_r81_14, Md_r81_15, Md_r81_18, Md_r81_20, Md_r81_21, Md_r81_22, Md_r81_23, Md_r81_24, Md_r81_25, Md_r81_26, Md_r81_27, Md_r81_28, Md_r81_29, Md_r81_30, Md_r81_31⟩, hc, ok⟩ := id hm
  simp (disch := omega) only [e150, w150_0, w150_1, w150_4, w150_6, w150_7, w150_8, w150_11, w150_12, w150_13, w150_14, w150_15, w150_16, w150_17, w150_18, w150_21, w150_23, w150_24, w150_25, w150_28, w150_29, w150_30, w150_31, w150_32, w150_33, w150_34, w150_35, w150_36, w150_37, w150_40, w150_41, w150_42, w150_43, w150_44, w150_45, w150_46, w150_47, w150_50, w150_51, w150_52, w150_53, w150_54, Md_s1, Md_s81, Md_s82, Md_s83, Md_s84, Md_s85, Md_s86, Md_s87, Md_s88, Md_s89, Md_s90, Md_s91, Md_s92, Md_s93, Md_s94, Md_s95, Md_s96, Md_s97, Md_s98, Md_s99, Md_s100, Md_s101, Md_s102, Md_r81_0, Md_r81_1, Md_r81_2, Md_r81_4, Md_r81_5, Md_r81_13, Md_r81_14, Md_r81_15, Md_r81_18, Md_r81_20, Md_r81_21, Md_r81_22, Md_r81_23, Md_r81_24, Md_r81_25, Md_r81_26, Md_r81_27, Md_r81_28, Md_r81_29, Md_r81_30, Md_r81_31, aPush_s, aPush_n, vrf_s, vrf_n, true_and, and_true, false_and, and_false, true_imp_iff, false_imp_iff, not_true_eq_false, not_false_eq_true, eq_self, true_or, or_true, and_self, if_true, if_false, n_lit, n_of, n_an, Nat.add_sub_cancel, nI_add, pk_mul, n_sub, n_ixT, n_cl, n_leT, n_leF, n_ltT, n_ltF, n_eqT, n_eqF, Nat.reduceAdd, Nat.reduceMul, Nat.reduceSub, Nat.reduceEqDiff, Nat.reduceLT, Nat.reduceLeDiff, Nat.mul_one, Nat.one_mul, Nat.add_zero, Nat.zero_add, G_eq I, aW_i, aW_e]
  refine hQ _ ⟨?_, fun q a _ _ => (aW_o a).trans ((aW_o a).trans (aW_o a))⟩
  simp (disch := omega) only [G_w82, uN_nI]
  rfl
/-! a word comes to a State -/
theorem stPl {X : Nat → Nat → Int32} {a w q l b n : Nat} (h : X a (6 * w + l) = nI n) : aW X a (6 * w + q) (X a (6 * w + q) ||| nI b) a (6 * w + l) = nI (n ||| if q == l then b else 0) := by
  by_cases e : q = l
  · subst e
    rw [beq_self_eq_true, if_pos rfl, aW_e, h, n_or]
  · rw [beq_eq_false_iff_ne.2 e, aW_i (by omega), h, if_neg (by decide), Nat.or_zero]
theorem l10 {w : Nat} {l1 l2 : Value} (hr : 16 ≤ r) (hw : w < 12) (hS : S r = (2, 18)) (hR : R r 2 = some (r + 3)) (hS3 : S (r + 3) = (9, 72)) (hQ : ∀ J, (∀ p, p ≠ r + 3 → J p = I p) → (∀ i, i < 6 * w ∨ 6 * w + 6 ≤ i → J (r + 3) i = I (r + 3) i) → (∀ l, l < 6 → J (r + 3) (6 * w + l) = nI 0) → RB d 10 60 [.ref r, l1, l2, .int (nI w), .int (nI 6), .long 0] [] (S, J, R, z) Q) : ∀ (j k : Nat) (J : Nat → Nat → Int32), k + j = 6 → (∀ p, p ≠ r + 3 → J p = I p) → (∀ i, i < 6 * w ∨ 6 * w + 6 ≤ i → J (r + 3) i = I (r + 3) i) → (∀ l, l < k → J (r + 3) (6 * w + l) = nI 0) → RB d 10 34 [.ref r, l1, l2, .int (nI w), .int (nI k), .long 0] [] (S, J, R, z) Q
  | 0, k, J, h, h1, h2, h3 => by
    obtain rfl : k = 6 := by omega
    rw [w10_34]
    simp (disch := omega) only [w10_0, w10_1, w10_4, w10_6, w10_9, w10_11, w10_12, w10_13, w10_16, w10_17, w10_18, w10_21, w10_22, w10_23, w10_24, w10_25, w10_28, w10_29, w10_30, w10_31, w10_32, w10_36, w10_38, w10_41, w10_42, w10_45, w10_46, w10_48, w10_49, w10_51, w10_52, w10_53, w10_54, w10_57, w10_60, w10_61, w10_63, w10_64, w10_68, w10_71, w10_72, w10_75, w10_76, w10_78, w10_79, w10_81, w10_83, w10_84, w10_85, w10_86, w10_87, w10_88, w10_90, w10_91, w10_92, w10_93, w10_95, w10_97, w10_98, w10_100, w10_103, w10_106, w10_107, w10_108, w10_111, w10_112, w10_113, w10_116, w10_117, aPush_s, aPush_n, vrf_s, vrf_n, true_and, and_true, false_and, and_false, true_imp_iff, false_imp_iff, not_true_eq_false, not_false_eq_true, eq_self, true_or, or_true, and_self, if_true, if_false, n_lit, n_of, n_an, Nat.add_sub_cancel, nI_add, pk_mul, n_sub, n_ixT, n_cl, n_leT, n_leF, n_ltT, n_ltF, n_eqT, n_eqF, Nat.reduceAdd, Nat.reduceMul, Nat.reduceSub, Nat.reduceEqDiff, Nat.reduceLT, Nat.reduceLeDiff, Nat.mul_one, Nat.one_mul, Nat.add_zero, Nat.zero_add]
    exact hQ J h1 h2 h3
  | j + 1, k, J, h, h1, h2, h3 => by
    have ih := fun J => l10 (l1 := l1) (l2 := l2) hr hw hS hR hS3 hQ j (k + 1) J (by omega)
    have h7 : 7 ≤ r := by omega
    rw [w10_34]
    simp (disch := omega) only [w10_0, w10_1, w10_4, w10_6, w10_9, w10_11, w10_12, w10_13, w10_16, w10_17, w10_18, w10_21, w10_22, w10_23, w10_24, w10_25, w10_28, w10_29, w10_30, w10_31, w10_32, w10_36, w10_38, w10_41, w10_42, w10_45, w10_46, w10_48, w10_49, w10_51, w10_52, w10_53, w10_54, w10_57, w10_60, w10_61, w10_63, w10_64, w10_68, w10_71, w10_72, w10_75, w10_76, w10_78, w10_79, w10_81, w10_83, w10_84, w10_85, w10_86, w10_87, w10_88, w10_90, w10_91, w10_92, w10_93, w10_95, w10_97, w10_98, w10_100, w10_103, w10_106, w10_107, w10_108, w10_111, w10_112, w10_113, w10_116, w10_117, aPush_s, aPush_n, vrf_s, vrf_n, true_and, and_true, false_and, and_false, true_imp_iff, false_imp_iff, not_true_eq_false, not_false_eq_true, eq_self, true_or, or_true, and_self, if_true, if_false, n_lit, n_of, n_an, Nat.add_sub_cancel, nI_add, pk_mul, n_sub, n_ixT, n_cl, n_leT, n_leF, n_ltT, n_ltF, n_eqT, n_eqF, Nat.reduceAdd, Nat.reduceMul, Nat.reduceSub, Nat.reduceEqDiff, Nat.reduceLT, Nat.reduceLeDiff, Nat.mul_one, Nat.one_mul, Nat.add_zero, Nat.zero_add, hS, hR, hS3, hr, le_T, Nat.mul_comm w 6]
    refine ih _ (fun p hp => (aW_o hp).trans (h1 p hp)) (fun i hi => by rw [aW_i (show i ≠ 6 * w + k by omega)]; exact h2 i hi) ?_
    intro l hl
    by_cases e : l = k
    · subst e
      exact aW_e
    · exact (aW_i (by omega)).trans (h3 l (by omega))
theorem s10 {w p L : Nat} {l1 l2 : Value} (hr : 16 ≤ r) (hw : w < 12) (hS : S r = (2, 18)) (hR : R r 2 = some (r + 3)) (hS3 : S (r + 3) = (9, 72)) (hp : p < 4) (hL : L < 1296) : RB d 10 66 [.ref r, l1, l2, .int (nI w), .int (nI L), .int (nI p)] [] (S, I, R, z) Q = RB d 10 66 [.ref r, l1, l2, .int (nI w), .int (nI (L / 6)), .int (nI p - nI 1)] [] (S, aW I (r + 3) (6 * w + L % 6) (I (r + 3) (6 * w + L % 6) ||| nI (2 ^ p)), R, z) Q := by
  have k0 : L % 6 < 6 := Nat.mod_lt _ (by decide)
  rw [w10_66]
  simp (disch := omega) only [w10_0, w10_1, w10_4, w10_6, w10_9, w10_11, w10_12, w10_13, w10_16, w10_17, w10_18, w10_21, w10_22, w10_23, w10_24, w10_25, w10_28, w10_29, w10_30, w10_31, w10_32, w10_36, w10_38, w10_41, w10_42, w10_45, w10_46, w10_48, w10_49, w10_51, w10_52, w10_53, w10_54, w10_57, w10_60, w10_61, w10_63, w10_64, w10_68, w10_71, w10_72, w10_75, w10_76, w10_78, w10_79, w10_81, w10_83, w10_84, w10_85, w10_86, w10_87, w10_88, w10_90, w10_91, w10_92, w10_93, w10_95, w10_97, w10_98, w10_100, w10_103, w10_106, w10_107, w10_108, w10_111, w10_112, w10_113, w10_116, w10_117, aPush_s, aPush_n, vrf_s, vrf_n, true_and, and_true, false_and, and_false, true_imp_iff, false_imp_iff, not_true_eq_false, not_false_eq_true, eq_self, true_or, or_true, and_self, if_true, if_false, n_lit, n_of, n_an, nI_add, pk_mul, n_ixT, n_cl, n_ltT, n_ltF, n_eqT, n_eqF, Nat.reduceEqDiff, n_div, n_mod, n_shl, hS, hR, hS3, hr, le_T, Nat.mul_comm w 6]
theorem t10 {w L : Nat} {l1 l2 : Value} : RB d 10 66 [.ref r, l1, l2, .int (nI w), .int (nI L), .int (-nI 1)] [] (S, I, R, z) Q = RB d 10 106 [.ref r, l1, l2, .int (nI w), .int (nI L), .int (-nI 1)] [] (S, I, R, z) Q := by
  rw [w10_66]
  simp only [w10_68, aPush_s, aPush_n, vrf_s, vrf_n, true_and, and_true, false_and, and_false, true_imp_iff, false_imp_iff, not_true_eq_false, not_false_eq_true, eq_self, true_or, or_true, and_self, if_true, if_false, n_lit, n_m1lt]
theorem c10 {L v : Nat} (hs : Cs S I R r g) (hg : g 1 < 12) (hL : L < 1296) (hv : 1 ≤ v ∧ v ≤ 99) (hQ : ∀ J, Fr r I J → Cs S J R r (sAddW g L v) → Q (some (.int (nI (g 1)))) (S, J, R, z)) : RM (d + 1) 10 [.ref r, .int (nI L), .int (nI v)] (S, I, R, z) Q := by
  obtain ⟨hr, ⟨Sd_sr, Sd_s_r___1_, Sd_s_r___2_, Sd_s_r___3_, Sd_s_r___4_, Sd_s_r___5_, Sd_s_r___6_, Sd_s_r___7_, Sd_s_r___8_, Sd_s_r___9_, Sd_s_r___10_, Sd_rr_0, Sd_rr_1, Sd_rr_2, Sd_rr_4, Sd_rr_5, Sd_rr_12, Sd_rr_14, Sd_rr_15, Sd_rr_16, Sd_rr_17⟩, ok, ⟨n3, n6, n7, n8, n9, n10, n11, n13⟩, ⟨a1, a2, a3, a4, a5, a7⟩, ct⟩ := id hs
  have hr16 := hr.1
  have h7 : 7 ≤ r := by omega
  simp (disch := omega) only [e10, w10_0, w10_1, w10_4, w10_6, w10_9, w10_11, w10_12, w10_13, w10_16, w10_17, w10_18, w10_21, w10_22, w10_23, w10_24, w10_25, w10_28, w10_29, w10_30, w10_31, w10_32, w10_36, w10_38, w10_41, w10_42, w10_45, w10_46, w10_48, w10_49, w10_51, w10_52, w10_53, w10_54, w10_57, w10_60, w10_61, w10_63, w10_64, w10_68, w10_71, w10_72, w10_75, w10_76, w10_78, w10_79, w10_81, w10_83, w10_84, w10_85, w10_86, w10_87, w10_88, w10_90, w10_91, w10_92, w10_93, w10_95, w10_97, w10_98, w10_100, w10_103, w10_106, w10_107, w10_108, w10_111, w10_112, w10_113, w10_116, w10_117, Sd_sr, Sd_s_r___1_, Sd_s_r___2_, Sd_s_r___3_, Sd_s_r___4_, Sd_s_r___5_, Sd_s_r___6_, Sd_s_r___7_, Sd_s_r___8_, Sd_s_r___9_, Sd_s_r___10_, Sd_rr_0, Sd_rr_1, Sd_rr_2, Sd_rr_4, Sd_rr_5, Sd_rr_12, Sd_rr_14, Sd_rr_15, Sd_rr_16, Sd_rr_17, aPush_s, aPush_n, vrf_s, vrf_n, true_and, and_true, false_and, and_false, true_imp_iff, false_imp_iff, not_true_eq_false, not_false_eq_true, eq_self, true_or, or_true, and_self, if_true, if_false, n_lit, n_of, n_an, Nat.add_sub_cancel, nI_add, pk_mul, n_sub, n_ixT, n_cl, n_leT, n_leF, n_ltT, n_ltF, n_eqT, n_eqF, Nat.reduceAdd, Nat.reduceMul, Nat.reduceSub, Nat.reduceEqDiff, Nat.reduceLT, Nat.reduceLeDiff, Nat.mul_one, Nat.one_mul, Nat.add_zero, Nat.zero_add, n3, n6, n7, n8, n9, n10, n11, n13, hr16, le_T, aW_o]
  refine l10 hr16 hg (by assumption) (by assumption) (by assumption) ?_ 6 0 _ rfl (fun _ _ => rfl) (fun _ _ => rfl) (fun l hl => absurd hl (Nat.not_lt_zero _))
  intro J h1 h2 h3
  have k0 : L % 6 < 6 := Nat.mod_lt _ (by decide)
  have k1 : L / 6 % 6 < 6 := Nat.mod_lt _ (by decide)
  have k2 : L / 6 / 6 % 6 < 6 := Nat.mod_lt _ (by decide)
  have k3 : L / 6 / 6 / 6 % 6 < 6 := Nat.mod_lt _ (by decide)
  have d1 : L / 6 < 1296 := by omega
  have d2 : L / 6 / 6 < 1296 := by omega
  have d3 : L / 6 / 6 / 6 < 1296 := by omega
  have j3 : J r 3 = nI (g 1) := by
    rw [h1 r (by omega)]
    simp (disch := omega) only [aW_o, n3]
  simp (disch := omega) only [w10_60, w10_61, w10_63, w10_64, aPush_s, aPush_n, vrf_s, vrf_n, true_and, and_true, false_and, and_false, true_imp_iff, false_imp_iff, not_true_eq_false, not_false_eq_true, eq_self, true_or, or_true, and_self, if_true, if_false, n_lit]
  rw [s10 hr16 hg (by assumption) (by assumption) (by assumption) (by decide) hL, show nI 3 - nI 1 = nI 2 by decide, s10 hr16 hg (by assumption) (by assumption) (by assumption) (by decide) d1, show nI 2 - nI 1 = nI 1 by decide, s10 hr16 hg (by assumption) (by assumption) (by assumption) (by decide) d2, show nI 1 - nI 1 = nI 0 by decide, s10 hr16 hg (by assumption) (by assumption) (by assumption) (by decide) d3, show nI 0 - nI 1 = -nI 1 by decide, t10]
  simp (disch := omega) only [w10_106, w10_107, w10_108, w10_111, w10_112, w10_113, w10_116, w10_117, Sd_sr, Sd_s_r___1_, Sd_s_r___2_, Sd_s_r___3_, Sd_s_r___4_, Sd_s_r___5_, Sd_s_r___6_, Sd_s_r___7_, Sd_s_r___8_, Sd_s_r___9_, Sd_s_r___10_, Sd_rr_0, Sd_rr_1, Sd_rr_2, Sd_rr_4, Sd_rr_5, Sd_rr_12, Sd_rr_14, Sd_rr_15, Sd_rr_16, Sd_rr_17, aPush_s, aPush_n, vrf_s, vrf_n, true_and, and_true, false_and, and_false, true_imp_iff, false_imp_iff, not_true_eq_false, not_false_eq_true, eq_self, true_or, or_true, and_self, if_true, if_false, n_lit, n_of, n_an, Nat.add_sub_cancel, nI_add, pk_mul, n_sub, n_ixT, n_cl, n_leT, n_leF, n_ltT, n_ltF, n_eqT, n_eqF, Nat.reduceAdd, Nat.reduceMul, Nat.reduceSub, Nat.reduceEqDiff, Nat.reduceLT, Nat.reduceLeDiff, Nat.mul_one, Nat.one_mul, Nat.add_zero, Nat.zero_add, hr16, aW_o, j3]
  have e1 : sAddW g L v 1 = g 1 + 1 := gu_e
  have eL : sAddW g L v (8 + 2 * g 1) = L := (gu_n (by omega)).trans ((gu_n (by omega)).trans gu_e)
  have eV : sAddW g L v (8 + 2 * g 1 + 1) = v := (gu_n (by omega)).trans gu_e
  have e : ∀ i, i ≠ 1 → i ≠ 8 + 2 * g 1 → i ≠ 8 + 2 * g 1 + 1 → sAddW g L v i = g i := fun i h1 h2 h3 => (gu_n h1).trans ((gu_n h3).trans (gu_n h2))
  have f : ∀ p, p < r ∨ r + 3 < p → J p = I p := fun p hp => by
    rw [h1 p (by omega)]
    simp (disch := omega) only [aW_o]
  refine hQ _ (fun p hp => ?_) ?_
  · simp (disch := omega) only [aW_o]
    exact f p (by omega)
  have jr : J r = I r := (h1 r (by omega)).trans (by simp (disch := omega) only [aW_o])
  refine hs.wa (fun p hp => ?_) (ok.addW hg hL hv) (fun i hi => e i (by omega) (by omega) (by omega)) ?_ ?_ ?_ ?_ ?_ ?_
  · simp (disch := omega) only [aW_o]
    exact f p (by omega)
  · unfold Cn
    rw [e1, e 0 (by omega) (by omega) (by omega), e 2 (by omega) (by omega) (by omega), e 3 (by omega) (by omega) (by omega), e 4 (by omega) (by omega) (by omega), e 5 (by omega) (by omega) (by omega), e 6 (by omega) (by omega) (by omega), e 7 (by omega) (by omega) (by omega)]
    simp (disch := omega) only [aW_e, aW_i, aW_o, jr, n3, n6, n7, n8, n9, n10, n11, n13, and_self]
  · intro x hx
    rw [e1] at hx
    have q1 : J (r + 1) = aW I (r + 1) (g 1) (nI L) (r + 1) := (h1 _ (by omega)).trans (aW_o (by omega))
    simp (disch := omega) only [aW_o, q1]
    by_cases q : x = g 1
    · subst q
      rw [eL, aW_e]
    · rw [e _ (by omega) (by omega) (by omega), aW_i q]
      exact a1 x (by omega)
  · intro x hx
    rw [e1] at hx
    unfold sW
    have q1 : J (r + 2) = aW I (r + 2) (g 1) (nI v) (r + 2) := (h1 _ (by omega)).trans (by
      funext i
      by_cases q : i = g 1
      · subst q; rw [aW_e, aW_e]
      · rw [aW_i q, aW_i q, aW_o (by omega)])
    simp (disch := omega) only [aW_o, q1]
    by_cases q : x = g 1
    · subst q
      rw [eV, aW_e]
    · rw [e _ (by omega) (by omega) (by omega), aW_i q]
      exact a2 x (by omega)
  · intro x hx l hl
    rw [e1] at hx
    rw [aW_o (by omega)]
    by_cases q : x = g 1
    · subst q
      have z0 := stPl (w := g 1) (q := L % 6) (l := l) (b := 2 ^ 3) (h3 l hl)
      have z1 := stPl (w := g 1) (q := L / 6 % 6) (l := l) (b := 2 ^ 2) z0
      have z2 := stPl (w := g 1) (q := L / 6 / 6 % 6) (l := l) (b := 2 ^ 1) z1
      have z3 := stPl (w := g 1) (q := L / 6 / 6 / 6 % 6) (l := l) (b := 2 ^ 0) z2
      rw [z3]
      congr 1
      have s3 : sL (sAddW g L v) (g 1) 3 = L % 6 := by
        unfold sL
        rw [eL, show 6 ^ (3 - 3) = 1 from rfl, Nat.div_one]
      have s2 : sL (sAddW g L v) (g 1) 2 = L / 6 % 6 := by
        unfold sL
        rw [eL]
      have s1 : sL (sAddW g L v) (g 1) 1 = L / 6 / 6 % 6 := by
        unfold sL
        rw [eL, show 6 ^ (3 - 1) = 36 from rfl, Nat.div_div_eq_div_mul]
      have s0 : sL (sAddW g L v) (g 1) 0 = L / 6 / 6 / 6 % 6 := by
        unfold sL
        rw [eL, show 6 ^ (3 - 0) = 216 from rfl, Nat.div_div_eq_div_mul, Nat.div_div_eq_div_mul]
      unfold sPl bs bs bs bs bs
      simp only [s0, s1, s2, s3]
      generalize (if (L % 6 == l) = true then 2 ^ 3 else 0) = b3
      generalize (if (L / 6 % 6 == l) = true then 2 ^ 2 else 0) = b2
      generalize (if (L / 6 / 6 % 6 == l) = true then 2 ^ 1 else 0) = b1
      generalize (if (L / 6 / 6 / 6 % 6 == l) = true then 2 ^ 0 else 0) = b0
      simp only [Nat.zero_or]
      ac_rfl
    · rw [sPl_cong (e _ (by omega) (by omega) (by omega)), aW_i (by omega), aW_i (by omega), aW_i (by omega), aW_i (by omega), h2 _ (by omega)]
      simp (disch := omega) only [aW_o]
      exact a3 x (by omega) l hl
  · intro b hb
    rw [e 2 (by omega) (by omega) (by omega)] at hb
    rw [e _ (by omega) (by omega) (by omega)]
    simp (disch := omega) only [aW_o]
    rw [f _ (by omega)]
    exact a4 b hb
  · intro b hb
    rw [e 2 (by omega) (by omega) (by omega)] at hb
    rw [e _ (by omega) (by omega) (by omega)]
    simp (disch := omega) only [aW_o]
    rw [f _ (by omega)]
    exact a5 b hb
end
