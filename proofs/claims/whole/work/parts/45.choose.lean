/-! draws, choosing, playing by a State -/
/-- rows that differ in the numbers of a game alone -/
def E7 (g' g : Nat → Nat) : Prop := ∀ i, i = 1 ∨ i = 2 ∨ 7 ≤ i → g' i = g i
theorem E7.refl (g : Nat → Nat) : E7 g g := fun _ _ => rfl
theorem E7.trans {g1 g2 g3 : Nat → Nat} (h : E7 g1 g2) (h2 : E7 g2 g3) : E7 g1 g3 := fun i hi => (h i hi).trans (h2 i hi)
theorem e7_sCt {g' g : Nat → Nat} (h : E7 g' g) (k : Nat) : ∀ n, sCt g' k n = sCt g k n
  | 0 => rfl
  | n + 1 => by
    show (if sKey g' n = k then _ else _) = if sKey g n = k then _ else _
    rw [e7_sCt h k n, show sKey g' n = sKey g n by unfold sKey; rw [h _ (by omega)]]
theorem e7_sPl {g' g : Nat → Nat} (h : E7 g' g) (w l : Nat) : sPl g' w l = sPl g w l := by
  apply bs_cong
  intro p _
  unfold sL
  rw [h _ (by omega)]
theorem e7_sVal {g' g : Nat → Nat} (h : E7 g' g) (t : Nat) (f : Nat → Int32) : sVal g' t f = sVal g t f := by
  have e1 : sCode g' t = sCode g t := by
    funext k
    unfold sCode
    rw [h _ (by omega)]
  have e2 : sLen g' t = sLen g t := by
    unfold sLen
    rw [h _ (by omega)]
  unfold sVal
  rw [e1, e2]
def sTm (g : Nat → Nat) (w : Nat) : Nat := (sTimes g w).toNatClampNeg
theorem sTm_eq {g : Nat → Nat} (ok : Ok g) {w : Nat} (hw : w < g 1) : sTimes g w = nI (sTm g w) ∧ sTm g w ≤ 999 := by
  have hW := sW_le ok hw
  unfold sTm sTimes
  rcases sCt g 1 (g 7) with _ | t
  · dsimp only
    rw [n_cl (by omega)]
    exact ⟨rfl, by omega⟩
  · dsimp only
    unfold sClamp
    generalize sVal g t (sF (nI (sW g w)) (nI w) (nI 0)) = v
    by_cases h1 : v < 0
    · rw [if_pos h1]
      exact ⟨by decide, by decide⟩
    · rw [if_neg h1]
      by_cases h2 : 999 < v
      · rw [if_pos h2]
        exact ⟨by decide, by decide⟩
      · rw [if_neg h2]
        obtain ⟨j, hj, e⟩ := nI_of h1
        rw [e, n_lit, n_lt (by omega) hj] at h2
        rw [e, n_cl (by omega)]
        exact ⟨rfl, by omega⟩
theorem e7_sTm {g' g : Nat → Nat} (h : E7 g' g) : sTm g' = sTm g := by
  funext w
  unfold sTm sTimes
  have hW : sW g' w = sW g w := by
    unfold sW
    rw [h _ (by omega)]
  rw [e7_sCt h, h 7 (by omega), hW]
  rcases sCt g 1 (g 7) with _ | t
  · rfl
  · dsimp only
    rw [e7_sVal h]
def sDv (g : Nat → Nat) : Nat := uN (nI (g 0 * 1103515245 + 12345)) / 256
def sDraw (g : Nat → Nat) : Nat → Nat := gu g 0 (uN (nI (g 0 * 1103515245 + 12345)))
theorem sDraw_e7 (g : Nat → Nat) : E7 (sDraw g) g := fun i hi => gu_n (by omega)
theorem sHide_e7 (g : Nat → Nat) (w : Nat) : E7 (sHide g w) g := fun i hi => (gu_n (by omega)).trans ((gu_n (by omega)).trans (gu_n (by omega)))
theorem sDv_lt (g : Nat → Nat) : sDv g < 16777216 := by
  have := uN_lt (nI (g 0 * 1103515245 + 12345))
  unfold sDv
  omega
theorem Ok.draw {g : Nat → Nat} (ok : Ok g) : Ok (sDraw g) := by
  have e : ∀ i, i ≠ 0 → sDraw g i = g i := fun i h => gu_n h
  refine ok.num (fun i hi => e i (by omega)) ?_ ?_ ?_
  · rw [e 3 (by decide), e 5 (by decide)]
    exact ok.2.2.1
  · rw [e 4 (by decide)]
    exact ok.2.2.2.1
  · rw [e 6 (by decide)]
    exact ok.2.2.2.2.1
theorem sHide_0 (g : Nat → Nat) (w : Nat) : sHide g w 0 = g 0 := (gu_n (by decide)).trans ((gu_n (by decide)).trans (gu_n (by decide)))
theorem sDv_hide (g : Nat → Nat) (w : Nat) : sDv (sHide g w) = sDv g := by
  unfold sDv
  rw [sHide_0]
theorem sDraw_hide (g : Nat → Nat) (w : Nat) : sDraw (sHide g w) = gu (sHide g w) 0 (uN (nI (g 0 * 1103515245 + 12345))) := by
  unfold sDraw
  rw [sHide_0]
theorem gu_mix {g : Nat → Nat} {m w D : Nat} : gu (gu (gu (gu (gu g 3 m) 4 0) 5 0) 0 D) 3 w = gu (gu (gu (gu g 0 D) 3 w) 4 0) 5 0 := by
  funext i
  unfold gu
  by_cases i0 : i = 0
  · simp [i0]
  · by_cases i3 : i = 3
    · simp [i3]
    · by_cases i4 : i = 4
      · simp [i4]
      · by_cases i5 : i = 5
        · simp [i5]
        · simp [i0, i3, i4, i5]
theorem n_ush8 (x : Int32) : (x.toUInt32 >>> ((nI 8).toUInt32 &&& Int32.toUInt32 (nI 31))).toInt32 = nI (uN x / 256) := (nI_uN _).symm.trans (congrArg nI (pk_ushr x (nI 8) 8 (by decide)))
/-- the sum of the next j -/
def rs (t : Nat → Nat) : Nat → Nat → Nat
  | 0, _ => 0
  | j + 1, w => t w + rs t j (w + 1)
theorem rs_sm (t : Nat → Nat) : ∀ j k, sm k t + rs t j k = sm (k + j) t
  | 0, k => rfl
  | j + 1, k => by
    have := rs_sm t j (k + 1)
    rw [show k + (j + 1) = k + 1 + j by omega, ← this]
    show sm k t + (t k + rs t j (k + 1)) = sm k t + t k + rs t j (k + 1)
    omega
def sPk (t : Nat → Nat) : Nat → Nat → Nat → Nat
  | 0, w, _ => w
  | j + 1, w, n => if n < t w then w else sPk t j (w + 1) (n - t w)
theorem sPk_lt (t : Nat → Nat) : ∀ j w n, n < rs t j w → sPk t j w n < w + j
  | 0, w, n, h => absurd h (Nat.not_lt_zero _)
  | j + 1, w, n, h => by
    unfold sPk
    by_cases e : n < t w
    · rw [if_pos e]
      omega
    · rw [if_neg e]
      have h2 : n < t w + rs t j (w + 1) := h
      have := sPk_lt t j (w + 1) (n - t w) (by omega)
      omega
def sAll (g : Nat → Nat) : Nat := sm (g 1) (sTm g)
def sWho (g : Nat → Nat) : Nat := sPk (sTm g) (g 1) 0 (sDv g % sAll g)
def sChoose (g : Nat → Nat) : Nat → Nat := if sAll g = 0 then sHide g 4294967295 else sHide (sDraw g) (sWho g)
theorem sAll_le {g : Nat → Nat} (ok : Ok g) : sAll g ≤ 11988 := by
  have h1 := ok.1
  have := sm_le (f := sTm g) (c := 999) (n := g 1) (fun w hw => (sTm_eq ok hw).2)
  unfold sAll
  omega
theorem sWho_lt {g : Nat → Nat} (h : sAll g ≠ 0) : sWho g < g 1 := by
  have := rs_sm (sTm g) (g 1) 0
  rw [Nat.zero_add] at this
  have e : rs (sTm g) (g 1) 0 = sAll g := by
    unfold sAll
    rw [← this]
    exact (Nat.zero_add _).symm
  have h2 := sPk_lt (sTm g) (g 1) 0 (sDv g % sAll g) (by rw [e]; exact Nat.mod_lt _ (by omega))
  unfold sWho
  omega
theorem Ok.choose {g : Nat → Nat} (ok : Ok g) : Ok (sChoose g) := by
  unfold sChoose
  by_cases h : sAll g = 0
  · rw [if_pos h]
    exact ok.hide (Or.inl rfl)
  · rw [if_neg h]
    refine ok.draw.hide (Or.inr ?_)
    rw [show sDraw g 1 = g 1 from gu_n (by decide)]
    exact sWho_lt h
section
variable {d : Nat} {S : Nat → Nat × Nat} {I : Nat → Nat → Int32} {R : Nat → Nat → Option Nat} {z : Nat × Nat} {Q : Option Value → HS → Prop}
theorem c171 (hm : Mr S I R) (hQ : ∀ J, Sg I (sDraw (G I)) J → Q (some (.int (nI (sDv (G I))))) (S, J, R, z)) : RM (d + 1) 171 [.ref 81] (S, I, R, z) Q := by
  obtain ⟨⟨Md_s1, Md_s81, Md_s82, Md_s83, Md_s84, Md_s85, Md_s86, Md_s87, Md_s88, Md_s89, Md_s90, Md_s91, Md_s92, Md_s93, Md_s94, Md_s95, Md_s96, Md_s97, Md_s98, Md_s99, Md_s100, Md_s101, Md_s102, Md_r81_0, Md_r81_1, Md_r81_2, Md_r81_4, Md_r81_5, Md_r81_13, Md_r81_14, Md_r81_15, Md_r81_18, Md_r81_20, Md_r81_21, Md_r81_22, Md_r81_23, Md_r81_24, Md_r81_25, Md_r81_26, Md_r81_27, Md_r81_28, Md_r81_29, Md_r81_30, Md_r81_31⟩, hc, ok⟩ := id hm
  simp (disch := omega) only [e171, w171_0, w171_1, w171_4, w171_5, w171_6, w171_9, w171_10, w171_11, w171_13, w171_14, w171_17, w171_18, w171_19, w171_20, w171_23, w171_24, w171_25, w171_27, w171_28, Md_s1, Md_s81, Md_s82, Md_s83, Md_s84, Md_s85, Md_s86, Md_s87, Md_s88, Md_s89, Md_s90, Md_s91, Md_s92, Md_s93, Md_s94, Md_s95, Md_s96, Md_s97, Md_s98, Md_s99, Md_s100, Md_s101, Md_s102, Md_r81_0, Md_r81_1, Md_r81_2, Md_r81_4, Md_r81_5, Md_r81_13, Md_r81_14, Md_r81_15, Md_r81_18, Md_r81_20, Md_r81_21, Md_r81_22, Md_r81_23, Md_r81_24, Md_r81_25, Md_r81_26, Md_r81_27, Md_r81_28, Md_r81_29, Md_r81_30, Md_r81_31, aPush_s, aPush_n, vrf_s, vrf_n, true_and, and_true, false_and, and_false, true_imp_iff, false_imp_iff, not_true_eq_false, not_false_eq_true, eq_self, true_or, or_true, and_self, if_true, if_false, n_lit, n_of, n_an, Nat.add_sub_cancel, nI_add, pk_mul, n_sub, n_ixT, n_cl, n_leT, n_leF, n_ltT, n_ltF, n_eqT, n_eqF, Nat.reduceAdd, Nat.reduceMul, Nat.reduceSub, Nat.reduceEqDiff, Nat.reduceLT, Nat.reduceLeDiff, Nat.mul_one, Nat.one_mul, Nat.add_zero, Nat.zero_add, G_eq I, aW_e, n_ush8]
  exact hQ _ ⟨G_w82, fun q a _ _ => aW_o a⟩
theorem l183a (hm : Mr S I R) (hQ : ∀ J v3, Si I J → RB (d + 3) 183 28 [.ref 81, .int (nI (sAll (G I))), .int (nI (G I 1)), v3] [] (S, J, R, z) Q) : ∀ (j k : Nat) (J : Nat → Nat → Int32) (v3 : Value), k + j = G I 1 → Si I J → RB (d + 3) 183 4 [.ref 81, .int (nI (sm k (sTm (G I)))), .int (nI k), v3] [] (S, J, R, z) Q
  | 0, k, J, v3, h, hJ => by
    obtain rfl : k = G I 1 := by omega
    have hG := hJ.G
    obtain ⟨⟨Md_s1, Md_s81, Md_s82, Md_s83, Md_s84, Md_s85, Md_s86, Md_s87, Md_s88, Md_s89, Md_s90, Md_s91, Md_s92, Md_s93, Md_s94, Md_s95, Md_s96, Md_s97, Md_s98, Md_s99, Md_s100, Md_s101, Md_s102, Md_r81_0, Md_r81_1, Md_r81_2, Md_r81_4, Md_r81_5, Md_r81_13, Md_r81_14, Md_r81_15, Md_r81_18, Md_r81_20, Md_r81_21, Md_r81_22, Md_r81_23, Md_r81_24, Md_r81_25, Md_r81_26, Md_r81_27, Md_r81_28, Md_r81_29, Md_r81_30, Md_r81_31⟩, hc, ok⟩ := id (hm.si hJ)
    have h1 := ok.1
    rw [hG] at h1
    rw [w183_4]
    simp (disch := omega) only [w183_5, w183_6, w183_9, w183_10, w183_11, w183_14, w183_15, w183_16, w183_17, w183_20, w183_21, w183_22, w183_25, Md_s1, Md_s81, Md_s82, Md_s83, Md_s84, Md_s85, Md_s86, Md_s87, Md_s88, Md_s89, Md_s90, Md_s91, Md_s92, Md_s93, Md_s94, Md_s95, Md_s96, Md_s97, Md_s98, Md_s99, Md_s100, Md_s101, Md_s102, Md_r81_0, Md_r81_1, Md_r81_2, Md_r81_4, Md_r81_5, Md_r81_13, Md_r81_14, Md_r81_15, Md_r81_18, Md_r81_20, Md_r81_21, Md_r81_22, Md_r81_23, Md_r81_24, Md_r81_25, Md_r81_26, Md_r81_27, Md_r81_28, Md_r81_29, Md_r81_30, Md_r81_31, aPush_s, aPush_n, vrf_s, vrf_n, true_and, and_true, false_and, and_false, true_imp_iff, false_imp_iff, not_true_eq_false, not_false_eq_true, eq_self, true_or, or_true, and_self, if_true, if_false, n_lit, n_of, n_an, Nat.add_sub_cancel, nI_add, pk_mul, n_sub, n_ixT, n_cl, n_leT, n_leF, n_ltT, n_ltF, n_eqT, n_eqF, Nat.reduceAdd, Nat.reduceMul, Nat.reduceSub, Nat.reduceEqDiff, Nat.reduceLT, Nat.reduceLeDiff, Nat.mul_one, Nat.one_mul, Nat.add_zero, Nat.zero_add, G_eq J, hG]
    exact hQ J v3 hJ
  | j + 1, k, J, v3, h, hJ => by
    have ih := fun J' => l183a hm hQ j (k + 1) J' v3 (by omega)
    have hk : k < G I 1 := by omega
    have hG := hJ.G
    obtain ⟨⟨Md_s1, Md_s81, Md_s82, Md_s83, Md_s84, Md_s85, Md_s86, Md_s87, Md_s88, Md_s89, Md_s90, Md_s91, Md_s92, Md_s93, Md_s94, Md_s95, Md_s96, Md_s97, Md_s98, Md_s99, Md_s100, Md_s101, Md_s102, Md_r81_0, Md_r81_1, Md_r81_2, Md_r81_4, Md_r81_5, Md_r81_13, Md_r81_14, Md_r81_15, Md_r81_18, Md_r81_20, Md_r81_21, Md_r81_22, Md_r81_23, Md_r81_24, Md_r81_25, Md_r81_26, Md_r81_27, Md_r81_28, Md_r81_29, Md_r81_30, Md_r81_31⟩, hc, ok⟩ := id (hm.si hJ)
    have h1 := ok.1
    rw [hG] at h1
    rw [w183_4]
    simp (disch := omega) only [w183_5, w183_6, w183_9, w183_10, w183_11, w183_14, w183_15, w183_16, w183_17, w183_20, w183_21, w183_22, w183_25, Md_s1, Md_s81, Md_s82, Md_s83, Md_s84, Md_s85, Md_s86, Md_s87, Md_s88, Md_s89, Md_s90, Md_s91, Md_s92, Md_s93, Md_s94, Md_s95, Md_s96, Md_s97, Md_s98, Md_s99, Md_s100, Md_s101, Md_s102, Md_r81_0, Md_r81_1, Md_r81_2, Md_r81_4, Md_r81_5, Md_r81_13, Md_r81_14, Md_r81_15, Md_r81_18, Md_r81_20, Md_r81_21, Md_r81_22, Md_r81_23, Md_r81_24, Md_r81_25, Md_r81_26, Md_r81_27, Md_r81_28, Md_r81_29, Md_r81_30, Md_r81_31, aPush_s, aPush_n, vrf_s, vrf_n, true_and, and_true, false_and, and_false, true_imp_iff, false_imp_iff, not_true_eq_false, not_false_eq_true, eq_self, true_or, or_true, and_self, if_true, if_false, n_lit, n_of, n_an, Nat.add_sub_cancel, nI_add, pk_mul, n_sub, n_ixT, n_cl, n_leT, n_leF, n_ltT, n_ltF, n_eqT, n_eqF, Nat.reduceAdd, Nat.reduceMul, Nat.reduceSub, Nat.reduceEqDiff, Nat.reduceLT, Nat.reduceLeDiff, Nat.mul_one, Nat.one_mul, Nat.add_zero, Nat.zero_add, G_eq J, hG]
    refine c182 (hm.si hJ) (by rw [hG]; exact hk) ?_
    intro J' hJ'
    rw [hG, (sTm_eq hm.2.2 hk).1]
    simp (disch := omega) only [w183_5, w183_6, w183_9, w183_10, w183_11, w183_14, w183_15, w183_16, w183_17, w183_20, w183_21, w183_22, w183_25, aPush_s, aPush_n, vrf_s, vrf_n, true_and, and_true, false_and, and_false, true_imp_iff, false_imp_iff, not_true_eq_false, not_false_eq_true, eq_self, true_or, or_true, and_self, if_true, if_false, n_lit, n_of, n_an, Nat.add_sub_cancel, nI_add, pk_mul, n_sub, n_ixT, n_cl, n_leT, n_leF, n_ltT, n_ltF, n_eqT, n_eqF, Nat.reduceAdd, Nat.reduceMul, Nat.reduceSub, Nat.reduceEqDiff, Nat.reduceLT, Nat.reduceLeDiff, Nat.mul_one, Nat.one_mul, Nat.add_zero, Nat.zero_add]
    exact ih J' (hJ.trans hJ')
theorem l183b {all : Nat} : ∀ (j w n : Nat) (I : Nat → Nat → Int32), Mr S I R → w + j = G I 1 → n < rs (sTm (G I)) j w → n < 2147483648 → (∀ J v2, Si I J → RB (d + 3) 183 70 [.ref 81, .int (nI all), v2, .int (nI (sPk (sTm (G I)) j w n))] [] (S, J, R, z) Q) → RB (d + 3) 183 47 [.ref 81, .int (nI all), .int (nI n), .int (nI w)] [] (S, I, R, z) Q
  | 0, w, n, I, hm, h, hn, hb, hQ => absurd hn (Nat.not_lt_zero _)
  | j + 1, w, n, I, hm, h, hn, hb, hQ => by
    have hw : w < G I 1 := by omega
    have t1 := sTm_eq hm.2.2 hw
    have hn2 : n < sTm (G I) w + rs (sTm (G I)) j (w + 1) := hn
    obtain ⟨⟨Md_s1, Md_s81, Md_s82, Md_s83, Md_s84, Md_s85, Md_s86, Md_s87, Md_s88, Md_s89, Md_s90, Md_s91, Md_s92, Md_s93, Md_s94, Md_s95, Md_s96, Md_s97, Md_s98, Md_s99, Md_s100, Md_s101, Md_s102, Md_r81_0, Md_r81_1, Md_r81_2, Md_r81_4, Md_r81_5, Md_r81_13, Md_r81_14, Md_r81_15, Md_r81_18, Md_r81_20, Md_r81_21, Md_r81_22, Md_r81_23, Md_r81_24, Md_r81_25, Md_r81_26, Md_r81_27, Md_r81_28, Md_r81_29, Md_r81_30, Md_r81_31⟩, hc, ok⟩ := id hm
    rw [w183_47]
    simp (disch := omega) only [w183_48, w183_49, w183_50, w183_53, w183_56, w183_57, w183_58, w183_59, w183_62, w183_63, w183_64, w183_67, Md_s1, Md_s81, Md_s82, Md_s83, Md_s84, Md_s85, Md_s86, Md_s87, Md_s88, Md_s89, Md_s90, Md_s91, Md_s92, Md_s93, Md_s94, Md_s95, Md_s96, Md_s97, Md_s98, Md_s99, Md_s100, Md_s101, Md_s102, Md_r81_0, Md_r81_1, Md_r81_2, Md_r81_4, Md_r81_5, Md_r81_13, Md_r81_14, Md_r81_15, Md_r81_18, Md_r81_20, Md_r81_21, Md_r81_22, Md_r81_23, Md_r81_24, Md_r81_25, Md_r81_26, Md_r81_27, Md_r81_28, Md_r81_29, Md_r81_30, Md_r81_31, aPush_s, aPush_n, vrf_s, vrf_n, true_and, and_true, false_and, and_false, true_imp_iff, false_imp_iff, not_true_eq_false, not_false_eq_true, eq_self, true_or, or_true, and_self, if_true, if_false, n_lit, n_of, n_an, Nat.add_sub_cancel, nI_add, pk_mul, n_sub, n_ixT, n_cl, n_leT, n_leF, n_ltT, n_ltF, n_eqT, n_eqF, Nat.reduceAdd, Nat.reduceMul, Nat.reduceSub, Nat.reduceEqDiff, Nat.reduceLT, Nat.reduceLeDiff, Nat.mul_one, Nat.one_mul, Nat.add_zero, Nat.zero_add]
    refine c182 hm hw ?_
    intro J hJ
    have hG := hJ.G
    rw [t1.1]
    by_cases e : n < sTm (G I) w
    · have hq := hQ J (.int (nI n)) hJ
      rw [show sPk (sTm (G I)) (j + 1) w n = w from if_pos e] at hq
      simp (disch := omega) only [w183_48, w183_49, w183_50, w183_53, w183_56, w183_57, w183_58, w183_59, w183_62, w183_63, w183_64, w183_67, Md_s1, Md_s81, Md_s82, Md_s83, Md_s84, Md_s85, Md_s86, Md_s87, Md_s88, Md_s89, Md_s90, Md_s91, Md_s92, Md_s93, Md_s94, Md_s95, Md_s96, Md_s97, Md_s98, Md_s99, Md_s100, Md_s101, Md_s102, Md_r81_0, Md_r81_1, Md_r81_2, Md_r81_4, Md_r81_5, Md_r81_13, Md_r81_14, Md_r81_15, Md_r81_18, Md_r81_20, Md_r81_21, Md_r81_22, Md_r81_23, Md_r81_24, Md_r81_25, Md_r81_26, Md_r81_27, Md_r81_28, Md_r81_29, Md_r81_30, Md_r81_31, aPush_s, aPush_n, vrf_s, vrf_n, true_and, and_true, false_and, and_false, true_imp_iff, false_imp_iff, not_true_eq_false, not_false_eq_true, eq_self, true_or, or_true, and_self, if_true, if_false, n_lit, n_of, n_an, Nat.add_sub_cancel, nI_add, pk_mul, n_sub, n_ixT, n_cl, n_leT, n_leF, n_ltT, n_ltF, n_eqT, n_eqF, Nat.reduceAdd, Nat.reduceMul, Nat.reduceSub, Nat.reduceEqDiff, Nat.reduceLT, Nat.reduceLeDiff, Nat.mul_one, Nat.one_mul, Nat.add_zero, Nat.zero_add]
      exact hq
    · have hq := hQ
      rw [show sPk (sTm (G I)) (j + 1) w n = sPk (sTm (G I)) j (w + 1) (n - sTm (G I) w) from if_neg e] at hq
      simp (disch := omega) only [w183_48, w183_49, w183_50, w183_53, w183_56, w183_57, w183_58, w183_59, w183_62, w183_63, w183_64, w183_67, Md_s1, Md_s81, Md_s82, Md_s83, Md_s84, Md_s85, Md_s86, Md_s87, Md_s88, Md_s89, Md_s90, Md_s91, Md_s92, Md_s93, Md_s94, Md_s95, Md_s96, Md_s97, Md_s98, Md_s99, Md_s100, Md_s101, Md_s102, Md_r81_0, Md_r81_1, Md_r81_2, Md_r81_4, Md_r81_5, Md_r81_13, Md_r81_14, Md_r81_15, Md_r81_18, Md_r81_20, Md_r81_21, Md_r81_22, Md_r81_23, Md_r81_24, Md_r81_25, Md_r81_26, Md_r81_27, Md_r81_28, Md_r81_29, Md_r81_30, Md_r81_31, aPush_s, aPush_n, vrf_s, vrf_n, true_and, and_true, false_and, and_false, true_imp_iff, false_imp_iff, not_true_eq_false, not_false_eq_true, eq_self, true_or, or_true, and_self, if_true, if_false, n_lit, n_of, n_an, Nat.add_sub_cancel, nI_add, pk_mul, n_sub, n_ixT, n_cl, n_leT, n_leF, n_ltT, n_ltF, n_eqT, n_eqF, Nat.reduceAdd, Nat.reduceMul, Nat.reduceSub, Nat.reduceEqDiff, Nat.reduceLT, Nat.reduceLeDiff, Nat.mul_one, Nat.one_mul, Nat.add_zero, Nat.zero_add]
      refine c182 (hm.si hJ) (by rw [hG]; exact hw) ?_
      intro K hK
      have hS := hJ.trans hK
      have hG2 := hS.G
      rw [hG, t1.1]
      simp (disch := omega) only [w183_48, w183_49, w183_50, w183_53, w183_56, w183_57, w183_58, w183_59, w183_62, w183_63, w183_64, w183_67, Md_s1, Md_s81, Md_s82, Md_s83, Md_s84, Md_s85, Md_s86, Md_s87, Md_s88, Md_s89, Md_s90, Md_s91, Md_s92, Md_s93, Md_s94, Md_s95, Md_s96, Md_s97, Md_s98, Md_s99, Md_s100, Md_s101, Md_s102, Md_r81_0, Md_r81_1, Md_r81_2, Md_r81_4, Md_r81_5, Md_r81_13, Md_r81_14, Md_r81_15, Md_r81_18, Md_r81_20, Md_r81_21, Md_r81_22, Md_r81_23, Md_r81_24, Md_r81_25, Md_r81_26, Md_r81_27, Md_r81_28, Md_r81_29, Md_r81_30, Md_r81_31, aPush_s, aPush_n, vrf_s, vrf_n, true_and, and_true, false_and, and_false, true_imp_iff, false_imp_iff, not_true_eq_false, not_false_eq_true, eq_self, true_or, or_true, and_self, if_true, if_false, n_lit, n_of, n_an, Nat.add_sub_cancel, nI_add, pk_mul, n_sub, n_ixT, n_cl, n_leT, n_leF, n_ltT, n_ltF, n_eqT, n_eqF, Nat.reduceAdd, Nat.reduceMul, Nat.reduceSub, Nat.reduceEqDiff, Nat.reduceLT, Nat.reduceLeDiff, Nat.mul_one, Nat.one_mul, Nat.add_zero, Nat.zero_add]
      refine l183b j (w + 1) (n - sTm (G I) w) K (hm.si hS) (by rw [hG2]; omega) (by rw [hG2]; omega) (by omega) ?_
      intro L v2 hL
      rw [hG2]
      exact hq L v2 (hS.trans hL)
theorem c183 (hm : Mr S I R) (hQ : ∀ J, Sg I (sChoose (G I)) J → Q none (S, J, R, z)) : RM (d + 4) 183 [.ref 81] (S, I, R, z) Q := by
  have ok := hm.2.2
  have hle := sAll_le ok
  obtain ⟨⟨Md_s1, Md_s81, Md_s82, Md_s83, Md_s84, Md_s85, Md_s86, Md_s87, Md_s88, Md_s89, Md_s90, Md_s91, Md_s92, Md_s93, Md_s94, Md_s95, Md_s96, Md_s97, Md_s98, Md_s99, Md_s100, Md_s101, Md_s102, Md_r81_0, Md_r81_1, Md_r81_2, Md_r81_4, Md_r81_5, Md_r81_13, Md_r81_14, Md_r81_15, Md_r81_18, Md_r81_20, Md_r81_21, Md_r81_22, Md_r81_23, Md_r81_24, Md_r81_25, Md_r81_26, Md_r81_27, Md_r81_28, Md_r81_29, Md_r81_30, Md_r81_31⟩, hc, ok0⟩ := id hm
  simp only [e183, w183_0, w183_1, w183_2, w183_3, w183_5, w183_6, w183_9, w183_10, w183_11, w183_14, w183_15, w183_16, w183_17, w183_20, w183_21, w183_22, w183_25, w183_28, w183_29, w183_30, w183_33, w183_34, w183_37, w183_38, w183_39, w183_42, w183_43, w183_44, w183_45, w183_46, w183_48, w183_49, w183_50, w183_53, w183_56, w183_57, w183_58, w183_59, w183_62, w183_63, w183_64, w183_67, w183_70, w183_71, w183_74, w183_75, w183_76, w183_77, n_lit, n_of, n_an, Nat.add_sub_cancel, nI_add, pk_mul, n_sub, n_ixT, n_cl, n_leT, n_leF, n_ltT, n_ltF, n_eqT, n_eqF, Nat.reduceAdd, Nat.reduceMul, Nat.reduceSub, Nat.reduceEqDiff, Nat.reduceLT, Nat.reduceLeDiff, Nat.mul_one, Nat.one_mul, Nat.add_zero, Nat.zero_add]
  refine l183a hm ?_ (G I 1) 0 I _ (Nat.zero_add _) (Si.refl I)
  intro J v3 hJ
  have hG := hJ.G
  simp (disch := omega) only [w183_0, w183_1, w183_2, w183_3, w183_5, w183_6, w183_9, w183_10, w183_11, w183_14, w183_15, w183_16, w183_17, w183_20, w183_21, w183_22, w183_25, w183_28, w183_29, w183_30, w183_33, w183_34, w183_37, w183_38, w183_39, w183_42, w183_43, w183_44, w183_45, w183_46, w183_48, w183_49, w183_50, w183_53, w183_56, w183_57, w183_58, w183_59, w183_62, w183_63, w183_64, w183_67, w183_70, w183_71, w183_74, w183_75, w183_76, w183_77, Md_s1, Md_s81, Md_s82, Md_s83, Md_s84, Md_s85, Md_s86, Md_s87, Md_s88, Md_s89, Md_s90, Md_s91, Md_s92, Md_s93, Md_s94, Md_s95, Md_s96, Md_s97, Md_s98, Md_s99, Md_s100, Md_s101, Md_s102, Md_r81_0, Md_r81_1, Md_r81_2, Md_r81_4, Md_r81_5, Md_r81_13, Md_r81_14, Md_r81_15, Md_r81_18, Md_r81_20, Md_r81_21, Md_r81_22, Md_r81_23, Md_r81_24, Md_r81_25, Md_r81_26, Md_r81_27, Md_r81_28, Md_r81_29, Md_r81_30, Md_r81_31, aPush_s, aPush_n, vrf_s, vrf_n, true_and, and_true, false_and, and_false, true_imp_iff, false_imp_iff, not_true_eq_false, not_false_eq_true, eq_self, true_or, or_true, and_self, if_true, if_false, n_lit, n_of, n_an, Nat.add_sub_cancel, nI_add, pk_mul, n_sub, n_ixT, n_cl, n_leT, n_leF, n_ltT, n_ltF, n_eqT, n_eqF, Nat.reduceAdd, Nat.reduceMul, Nat.reduceSub, Nat.reduceEqDiff, Nat.reduceLT, Nat.reduceLeDiff, Nat.mul_one, Nat.one_mul, Nat.add_zero, Nat.zero_add]
  rw [show -nI 1 = nI 4294967295 by decide]
  refine c174 (w := 4294967295) (hm.si hJ) (by decide) ?_
  intro K hK
  rw [hG] at hK
  have hK2 := hJ.sg hK
  have okH : Ok (sHide (G I) 4294967295) := ok.hide (Or.inl rfl)
  have mK := hm.sg hK2 okH
  unfold sChoose at hQ
  by_cases e : sAll (G I) = 0
  · rw [if_pos e] at hQ
    simp (disch := omega) only [w183_0, w183_1, w183_2, w183_3, w183_5, w183_6, w183_9, w183_10, w183_11, w183_14, w183_15, w183_16, w183_17, w183_20, w183_21, w183_22, w183_25, w183_28, w183_29, w183_30, w183_33, w183_34, w183_37, w183_38, w183_39, w183_42, w183_43, w183_44, w183_45, w183_46, w183_48, w183_49, w183_50, w183_53, w183_56, w183_57, w183_58, w183_59, w183_62, w183_63, w183_64, w183_67, w183_70, w183_71, w183_74, w183_75, w183_76, w183_77, Md_s1, Md_s81, Md_s82, Md_s83, Md_s84, Md_s85, Md_s86, Md_s87, Md_s88, Md_s89, Md_s90, Md_s91, Md_s92, Md_s93, Md_s94, Md_s95, Md_s96, Md_s97, Md_s98, Md_s99, Md_s100, Md_s101, Md_s102, Md_r81_0, Md_r81_1, Md_r81_2, Md_r81_4, Md_r81_5, Md_r81_13, Md_r81_14, Md_r81_15, Md_r81_18, Md_r81_20, Md_r81_21, Md_r81_22, Md_r81_23, Md_r81_24, Md_r81_25, Md_r81_26, Md_r81_27, Md_r81_28, Md_r81_29, Md_r81_30, Md_r81_31, aPush_s, aPush_n, vrf_s, vrf_n, true_and, and_true, false_and, and_false, true_imp_iff, false_imp_iff, not_true_eq_false, not_false_eq_true, eq_self, true_or, or_true, and_self, if_true, if_false, n_lit, n_of, n_an, Nat.add_sub_cancel, nI_add, pk_mul, n_sub, n_ixT, n_cl, n_leT, n_leF, n_ltT, n_ltF, n_eqT, n_eqF, Nat.reduceAdd, Nat.reduceMul, Nat.reduceSub, Nat.reduceEqDiff, Nat.reduceLT, Nat.reduceLeDiff, Nat.mul_one, Nat.one_mul, Nat.add_zero, Nat.zero_add, e]
    exact hQ K hK2
  · rw [if_neg e] at hQ
    simp (disch := omega) only [w183_0, w183_1, w183_2, w183_3, w183_5, w183_6, w183_9, w183_10, w183_11, w183_14, w183_15, w183_16, w183_17, w183_20, w183_21, w183_22, w183_25, w183_28, w183_29, w183_30, w183_33, w183_34, w183_37, w183_38, w183_39, w183_42, w183_43, w183_44, w183_45, w183_46, w183_48, w183_49, w183_50, w183_53, w183_56, w183_57, w183_58, w183_59, w183_62, w183_63, w183_64, w183_67, w183_70, w183_71, w183_74, w183_75, w183_76, w183_77, Md_s1, Md_s81, Md_s82, Md_s83, Md_s84, Md_s85, Md_s86, Md_s87, Md_s88, Md_s89, Md_s90, Md_s91, Md_s92, Md_s93, Md_s94, Md_s95, Md_s96, Md_s97, Md_s98, Md_s99, Md_s100, Md_s101, Md_s102, Md_r81_0, Md_r81_1, Md_r81_2, Md_r81_4, Md_r81_5, Md_r81_13, Md_r81_14, Md_r81_15, Md_r81_18, Md_r81_20, Md_r81_21, Md_r81_22, Md_r81_23, Md_r81_24, Md_r81_25, Md_r81_26, Md_r81_27, Md_r81_28, Md_r81_29, Md_r81_30, Md_r81_31, aPush_s, aPush_n, vrf_s, vrf_n, true_and, and_true, false_and, and_false, true_imp_iff, false_imp_iff, not_true_eq_false, not_false_eq_true, eq_self, true_or, or_true, and_self, if_true, if_false, n_lit, n_of, n_an, Nat.add_sub_cancel, nI_add, pk_mul, n_sub, n_ixT, n_cl, n_leT, n_leF, n_ltT, n_ltF, n_eqT, n_eqF, Nat.reduceAdd, Nat.reduceMul, Nat.reduceSub, Nat.reduceEqDiff, Nat.reduceLT, Nat.reduceLeDiff, Nat.mul_one, Nat.one_mul, Nat.add_zero, Nat.zero_add, e]
    refine c171 mK ?_
    intro L hL
    rw [hK2.1] at hL ⊢
    have hL2 := hK2.trans hL
    have mL := hm.sg hL2 okH.draw
    have hdv : sDv (sHide (G I) 4294967295) = sDv (G I) := sDv_hide _ _
    have hlt := sDv_lt (G I)
    rw [hdv]
    simp (disch := omega) only [w183_0, w183_1, w183_2, w183_3, w183_5, w183_6, w183_9, w183_10, w183_11, w183_14, w183_15, w183_16, w183_17, w183_20, w183_21, w183_22, w183_25, w183_28, w183_29, w183_30, w183_33, w183_34, w183_37, w183_38, w183_39, w183_42, w183_43, w183_44, w183_45, w183_46, w183_48, w183_49, w183_50, w183_53, w183_56, w183_57, w183_58, w183_59, w183_62, w183_63, w183_64, w183_67, w183_70, w183_71, w183_74, w183_75, w183_76, w183_77, Md_s1, Md_s81, Md_s82, Md_s83, Md_s84, Md_s85, Md_s86, Md_s87, Md_s88, Md_s89, Md_s90, Md_s91, Md_s92, Md_s93, Md_s94, Md_s95, Md_s96, Md_s97, Md_s98, Md_s99, Md_s100, Md_s101, Md_s102, Md_r81_0, Md_r81_1, Md_r81_2, Md_r81_4, Md_r81_5, Md_r81_13, Md_r81_14, Md_r81_15, Md_r81_18, Md_r81_20, Md_r81_21, Md_r81_22, Md_r81_23, Md_r81_24, Md_r81_25, Md_r81_26, Md_r81_27, Md_r81_28, Md_r81_29, Md_r81_30, Md_r81_31, aPush_s, aPush_n, vrf_s, vrf_n, true_and, and_true, false_and, and_false, true_imp_iff, false_imp_iff, not_true_eq_false, not_false_eq_true, eq_self, true_or, or_true, and_self, if_true, if_false, n_lit, n_of, n_an, Nat.add_sub_cancel, nI_add, pk_mul, n_sub, n_ixT, n_cl, n_leT, n_leF, n_ltT, n_ltF, n_eqT, n_eqF, Nat.reduceAdd, Nat.reduceMul, Nat.reduceSub, Nat.reduceEqDiff, Nat.reduceLT, Nat.reduceLeDiff, Nat.mul_one, Nat.one_mul, Nat.add_zero, Nat.zero_add, n_mod]
    have hGL := hL2.1
    have h7 : E7 (G L) (G I) := by
      rw [hGL]
      exact (sDraw_e7 _).trans (sHide_e7 _ _)
    have h1L : G L 1 = G I 1 := h7 1 (Or.inl rfl)
    have htm : sTm (G L) = sTm (G I) := e7_sTm h7
    have hsum : rs (sTm (G I)) (G I 1) 0 = sAll (G I) := by
      have := rs_sm (sTm (G I)) (G I 1) 0
      rw [Nat.zero_add] at this
      unfold sAll
      rw [← this]
      exact (Nat.zero_add _).symm
    have hrem : sDv (G I) % sAll (G I) < sAll (G I) := Nat.mod_lt _ (by omega)
    refine l183b (G I 1) 0 (sDv (G I) % sAll (G I)) L mL (by omega) (by rw [htm, hsum]; exact hrem) (by omega) ?_
    intro M v2 hM
    rw [htm]
    have mM := mL.si hM
    have hw := sWho_lt e
    have h1 := ok.1
    have hGM := hM.G
    obtain ⟨⟨Md_s1, Md_s81, Md_s82, Md_s83, Md_s84, Md_s85, Md_s86, Md_s87, Md_s88, Md_s89, Md_s90, Md_s91, Md_s92, Md_s93, Md_s94, Md_s95, Md_s96, Md_s97, Md_s98, Md_s99, Md_s100, Md_s101, Md_s102, Md_r81_0, Md_r81_1, Md_r81_2, Md_r81_4, Md_r81_5, Md_r81_13, Md_r81_14, Md_r81_15, Md_r81_18, Md_r81_20, Md_r81_21, Md_r81_22, Md_r81_23, Md_r81_24, Md_r81_25, Md_r81_26, Md_r81_27, Md_r81_28, Md_r81_29, Md_r81_30, Md_r81_31⟩, hc, ok2⟩ := id mM
    simp (disch := omega) only [w183_0, w183_1, w183_2, w183_3, w183_5, w183_6, w183_9, w183_10, w183_11, w183_14, w183_15, w183_16, w183_17, w183_20, w183_21, w183_22, w183_25, w183_28, w183_29, w183_30, w183_33, w183_34, w183_37, w183_38, w183_39, w183_42, w183_43, w183_44, w183_45, w183_46, w183_48, w183_49, w183_50, w183_53, w183_56, w183_57, w183_58, w183_59, w183_62, w183_63, w183_64, w183_67, w183_70, w183_71, w183_74, w183_75, w183_76, w183_77, Md_s1, Md_s81, Md_s82, Md_s83, Md_s84, Md_s85, Md_s86, Md_s87, Md_s88, Md_s89, Md_s90, Md_s91, Md_s92, Md_s93, Md_s94, Md_s95, Md_s96, Md_s97, Md_s98, Md_s99, Md_s100, Md_s101, Md_s102, Md_r81_0, Md_r81_1, Md_r81_2, Md_r81_4, Md_r81_5, Md_r81_13, Md_r81_14, Md_r81_15, Md_r81_18, Md_r81_20, Md_r81_21, Md_r81_22, Md_r81_23, Md_r81_24, Md_r81_25, Md_r81_26, Md_r81_27, Md_r81_28, Md_r81_29, Md_r81_30, Md_r81_31, aPush_s, aPush_n, vrf_s, vrf_n, true_and, and_true, false_and, and_false, true_imp_iff, false_imp_iff, not_true_eq_false, not_false_eq_true, eq_self, true_or, or_true, and_self, if_true, if_false, n_lit, n_of, n_an, Nat.add_sub_cancel, nI_add, pk_mul, n_sub, n_ixT, n_cl, n_leT, n_leF, n_ltT, n_ltF, n_eqT, n_eqF, Nat.reduceAdd, Nat.reduceMul, Nat.reduceSub, Nat.reduceEqDiff, Nat.reduceLT, Nat.reduceLeDiff, Nat.mul_one, Nat.one_mul, Nat.add_zero, Nat.zero_add]
    refine hQ _ ⟨?_, fun q a b c => (aW_o a).trans ((hL2.si hM).2 q a b c)⟩
    rw [G_w82, hGM, hGL]
    rw [show sPk (sTm (G I)) (G I 1) 0 (sDv (G I) % sAll (G I)) = sWho (G I) from rfl, uN_nI (by omega)]
    rw [sDraw_hide]
    exact gu_mix
end
section
variable {d r : Nat} {g : Nat → Nat} {S : Nat → Nat × Nat} {I : Nat → Nat → Int32} {R : Nat → Nat → Option Nat} {z : Nat × Nat} {Q : Option Value → HS → Prop}
theorem c13 (hs : Cs S I R r g) (hQ : ∀ J, Fr r I J → Cs S J R r (sDraw g) → Q (some (.int (nI (sDv g)))) (S, J, R, z)) : RM (d + 1) 13 [.ref r] (S, I, R, z) Q := by
  obtain ⟨hr, ⟨Sd_sr, Sd_s_r___1_, Sd_s_r___2_, Sd_s_r___3_, Sd_s_r___4_, Sd_s_r___5_, Sd_s_r___6_, Sd_s_r___7_, Sd_s_r___8_, Sd_s_r___9_, Sd_s_r___10_, Sd_rr_0, Sd_rr_1, Sd_rr_2, Sd_rr_4, Sd_rr_5, Sd_rr_12, Sd_rr_14, Sd_rr_15, Sd_rr_16, Sd_rr_17⟩, ok, ⟨n3, n6, n7, n8, n9, n10, n11, n13⟩, ⟨a1, a2, a3, a4, a5, a7⟩, ct⟩ := id hs
  have hr16 := hr.1
  simp (disch := omega) only [e13, w13_0, w13_1, w13_2, w13_5, w13_7, w13_8, w13_11, w13_12, w13_15, w13_16, w13_19, w13_21, w13_22, Sd_sr, Sd_s_r___1_, Sd_s_r___2_, Sd_s_r___3_, Sd_s_r___4_, Sd_s_r___5_, Sd_s_r___6_, Sd_s_r___7_, Sd_s_r___8_, Sd_s_r___9_, Sd_s_r___10_, Sd_rr_0, Sd_rr_1, Sd_rr_2, Sd_rr_4, Sd_rr_5, Sd_rr_12, Sd_rr_14, Sd_rr_15, Sd_rr_16, Sd_rr_17, aPush_s, aPush_n, vrf_s, vrf_n, true_and, and_true, false_and, and_false, true_imp_iff, false_imp_iff, not_true_eq_false, not_false_eq_true, eq_self, true_or, or_true, and_self, if_true, if_false, n_lit, n_of, n_an, Nat.add_sub_cancel, nI_add, pk_mul, n_sub, n_ixT, n_cl, n_leT, n_leF, n_ltT, n_ltF, n_eqT, n_eqF, Nat.reduceAdd, Nat.reduceMul, Nat.reduceSub, Nat.reduceEqDiff, Nat.reduceLT, Nat.reduceLeDiff, Nat.mul_one, Nat.one_mul, Nat.add_zero, Nat.zero_add, n3, n6, n7, n8, n9, n10, n11, n13, hr16, aW_e, n_ush8]
  refine hQ _ (fun p hp => aW_o (by omega)) ?_
  have e : ∀ i, i ≠ 0 → sDraw g i = g i := fun i h => gu_n h
  refine hs.num (fun p hp => aW_o hp) ok.draw ?_ (fun i hi => e i (by omega))
  unfold Cn
  rw [e 1 (by decide), e 2 (by decide), e 3 (by decide), e 4 (by decide), e 5 (by decide), e 6 (by decide), e 7 (by decide), show sDraw g 0 = uN (nI (g 0 * 1103515245 + 12345)) from gu_e, nI_uN]
  simp (disch := omega) only [aW_e, aW_i, n3, n6, n7, n8, n9, n10, n11, n13, and_self]
theorem l37 : ∀ (j w n : Nat) (I : Nat → Nat → Int32) (v : Value), Cs S I R r g → w + j = g 1 → n < rs (sTm g) j w → n < 1000000000 → (∀ J, Sc r I J → Q (some (.int (nI (sPk (sTm g) j w n)))) (S, J, R, z)) → RB (d + 3) 37 4 [.ref r, v, .int (nI n), .int (nI w)] [] (S, I, R, z) Q
  | 0, w, n, I, v, hs, h, hn, hb, hQ => absurd hn (Nat.not_lt_zero _)
  | j + 1, w, n, I, v, hs, h, hn, hb, hQ => by
    have hw : w < g 1 := by omega
    obtain ⟨hr, ⟨Sd_sr, Sd_s_r___1_, Sd_s_r___2_, Sd_s_r___3_, Sd_s_r___4_, Sd_s_r___5_, Sd_s_r___6_, Sd_s_r___7_, Sd_s_r___8_, Sd_s_r___9_, Sd_s_r___10_, Sd_rr_0, Sd_rr_1, Sd_rr_2, Sd_rr_4, Sd_rr_5, Sd_rr_12, Sd_rr_14, Sd_rr_15, Sd_rr_16, Sd_rr_17⟩, ok, ⟨n3, n6, n7, n8, n9, n10, n11, n13⟩, ⟨a1, a2, a3, a4, a5, a7⟩, ct⟩ := id hs
    have h1 := ok.1
    have t1 := sTm_eq ok hw
    have hn2 : n < sTm g w + rs (sTm g) j (w + 1) := hn
    rw [w37_4]
    simp (disch := omega) only [w37_0, w37_1, w37_2, w37_3, w37_5, w37_6, w37_9, w37_12, w37_13, w37_14, w37_15, w37_18, w37_19, w37_20, w37_21, w37_24, w37_25, w37_26, w37_29, w37_32, w37_33, Sd_sr, Sd_s_r___1_, Sd_s_r___2_, Sd_s_r___3_, Sd_s_r___4_, Sd_s_r___5_, Sd_s_r___6_, Sd_s_r___7_, Sd_s_r___8_, Sd_s_r___9_, Sd_s_r___10_, Sd_rr_0, Sd_rr_1, Sd_rr_2, Sd_rr_4, Sd_rr_5, Sd_rr_12, Sd_rr_14, Sd_rr_15, Sd_rr_16, Sd_rr_17, aPush_s, aPush_n, vrf_s, vrf_n, true_and, and_true, false_and, and_false, true_imp_iff, false_imp_iff, not_true_eq_false, not_false_eq_true, eq_self, true_or, or_true, and_self, if_true, if_false, n_lit, n_of, n_an, Nat.add_sub_cancel, nI_add, pk_mul, n_sub, n_ixT, n_cl, n_leT, n_leF, n_ltT, n_ltF, n_eqT, n_eqF, Nat.reduceAdd, Nat.reduceMul, Nat.reduceSub, Nat.reduceEqDiff, Nat.reduceLT, Nat.reduceLeDiff, Nat.mul_one, Nat.one_mul, Nat.add_zero, Nat.zero_add, n3, n6, n7, n8, n9, n10, n11, n13]
    refine c36 hs hw ?_
    intro J hJ
    rw [t1.1]
    by_cases e : n < sTm g w
    · have hq := hQ J hJ
      rw [show sPk (sTm g) (j + 1) w n = w from if_pos e] at hq
      have hx : ¬ nI 0 ≤ nI n - nI (sTm g w) := Int32.not_le.2 (pk_sneg (by omega) e)
      simp (disch := omega) only [w37_0, w37_1, w37_2, w37_3, w37_5, w37_6, w37_9, w37_12, w37_13, w37_14, w37_15, w37_18, w37_19, w37_20, w37_21, w37_24, w37_25, w37_26, w37_29, w37_32, w37_33, aPush_s, aPush_n, vrf_s, vrf_n, true_and, and_true, false_and, and_false, true_imp_iff, false_imp_iff, not_true_eq_false, not_false_eq_true, eq_self, true_or, or_true, and_self, if_true, if_false, n_lit, n_of, n_an, Nat.add_sub_cancel, nI_add, pk_mul, n_sub, n_ixT, n_cl, n_leT, n_leF, n_ltT, n_ltF, n_eqT, n_eqF, Nat.reduceAdd, Nat.reduceMul, Nat.reduceSub, Nat.reduceEqDiff, Nat.reduceLT, Nat.reduceLeDiff, Nat.mul_one, Nat.one_mul, Nat.add_zero, Nat.zero_add, hx]
      exact hq
    · have hq := hQ
      rw [show sPk (sTm g) (j + 1) w n = sPk (sTm g) j (w + 1) (n - sTm g w) from if_neg e] at hq
      simp (disch := omega) only [w37_0, w37_1, w37_2, w37_3, w37_5, w37_6, w37_9, w37_12, w37_13, w37_14, w37_15, w37_18, w37_19, w37_20, w37_21, w37_24, w37_25, w37_26, w37_29, w37_32, w37_33, aPush_s, aPush_n, vrf_s, vrf_n, true_and, and_true, false_and, and_false, true_imp_iff, false_imp_iff, not_true_eq_false, not_false_eq_true, eq_self, true_or, or_true, and_self, if_true, if_false, n_lit, n_of, n_an, Nat.add_sub_cancel, nI_add, pk_mul, n_sub, n_ixT, n_cl, n_leT, n_leF, n_ltT, n_ltF, n_eqT, n_eqF, Nat.reduceAdd, Nat.reduceMul, Nat.reduceSub, Nat.reduceEqDiff, Nat.reduceLT, Nat.reduceLeDiff, Nat.mul_one, Nat.one_mul, Nat.add_zero, Nat.zero_add]
      exact l37 j (w + 1) (n - sTm g w) J v (hs.sc hJ) (by omega) (by omega) (by omega) (fun K hK => hq K (hJ.trans hK))
theorem c37 {n : Nat} (hs : Cs S I R r g) (hn : n < sAll g) (hQ : ∀ J, Sc r I J → Q (some (.int (nI (sPk (sTm g) (g 1) 0 n)))) (S, J, R, z)) : RM (d + 4) 37 [.ref r, .int (nI n)] (S, I, R, z) Q := by
  have hle := sAll_le hs.2.2.1
  simp only [e37, w37_0, w37_1, w37_2, w37_3, w37_5, w37_6, w37_9, w37_12, w37_13, w37_14, w37_15, w37_18, w37_19, w37_20, w37_21, w37_24, w37_25, w37_26, w37_29, w37_32, w37_33, n_lit, n_of, n_an, Nat.add_sub_cancel, nI_add, pk_mul, n_sub, n_ixT, n_cl, n_leT, n_leF, n_ltT, n_ltF, n_eqT, n_eqF, Nat.reduceAdd, Nat.reduceMul, Nat.reduceSub, Nat.reduceEqDiff, Nat.reduceLT, Nat.reduceLeDiff, Nat.mul_one, Nat.one_mul, Nat.add_zero, Nat.zero_add]
  have hsum : rs (sTm g) (g 1) 0 = sAll g := by
    have := rs_sm (sTm g) (g 1) 0
    rw [Nat.zero_add] at this
    unfold sAll
    rw [← this]
    exact (Nat.zero_add _).symm
  exact l37 (g 1) 0 n I _ hs (Nat.zero_add _) (by rw [hsum]; exact hn) (by omega) hQ
theorem l35 (hs : Cs S I R r g) (hQ : ∀ J, Sc r I J → RB (d + 4) 35 26 [.ref r, .int (nI (sAll g)), .int (nI (g 1))] [] (S, J, R, z) Q) : ∀ (j k : Nat) (J : Nat → Nat → Int32), k + j = g 1 → Sc r I J → RB (d + 4) 35 4 [.ref r, .int (nI (sm k (sTm g))), .int (nI k)] [] (S, J, R, z) Q
  | 0, k, J, h, hJ => by
    obtain rfl : k = g 1 := by omega
    obtain ⟨hr, ⟨Sd_sr, Sd_s_r___1_, Sd_s_r___2_, Sd_s_r___3_, Sd_s_r___4_, Sd_s_r___5_, Sd_s_r___6_, Sd_s_r___7_, Sd_s_r___8_, Sd_s_r___9_, Sd_s_r___10_, Sd_rr_0, Sd_rr_1, Sd_rr_2, Sd_rr_4, Sd_rr_5, Sd_rr_12, Sd_rr_14, Sd_rr_15, Sd_rr_16, Sd_rr_17⟩, ok, ⟨n3, n6, n7, n8, n9, n10, n11, n13⟩, ⟨a1, a2, a3, a4, a5, a7⟩, ct⟩ := id (hs.sc hJ)
    have h1 := ok.1
    rw [w35_4]
    simp (disch := omega) only [w35_5, w35_6, w35_9, w35_12, w35_13, w35_14, w35_15, w35_18, w35_19, w35_20, w35_23, Sd_sr, Sd_s_r___1_, Sd_s_r___2_, Sd_s_r___3_, Sd_s_r___4_, Sd_s_r___5_, Sd_s_r___6_, Sd_s_r___7_, Sd_s_r___8_, Sd_s_r___9_, Sd_s_r___10_, Sd_rr_0, Sd_rr_1, Sd_rr_2, Sd_rr_4, Sd_rr_5, Sd_rr_12, Sd_rr_14, Sd_rr_15, Sd_rr_16, Sd_rr_17, aPush_s, aPush_n, vrf_s, vrf_n, true_and, and_true, false_and, and_false, true_imp_iff, false_imp_iff, not_true_eq_false, not_false_eq_true, eq_self, true_or, or_true, and_self, if_true, if_false, n_lit, n_of, n_an, Nat.add_sub_cancel, nI_add, pk_mul, n_sub, n_ixT, n_cl, n_leT, n_leF, n_ltT, n_ltF, n_eqT, n_eqF, Nat.reduceAdd, Nat.reduceMul, Nat.reduceSub, Nat.reduceEqDiff, Nat.reduceLT, Nat.reduceLeDiff, Nat.mul_one, Nat.one_mul, Nat.add_zero, Nat.zero_add, n3, n6, n7, n8, n9, n10, n11, n13]
    exact hQ J hJ
  | j + 1, k, J, h, hJ => by
    have ih := fun J' => l35 hs hQ j (k + 1) J' (by omega)
    have hk : k < g 1 := by omega
    obtain ⟨hr, ⟨Sd_sr, Sd_s_r___1_, Sd_s_r___2_, Sd_s_r___3_, Sd_s_r___4_, Sd_s_r___5_, Sd_s_r___6_, Sd_s_r___7_, Sd_s_r___8_, Sd_s_r___9_, Sd_s_r___10_, Sd_rr_0, Sd_rr_1, Sd_rr_2, Sd_rr_4, Sd_rr_5, Sd_rr_12, Sd_rr_14, Sd_rr_15, Sd_rr_16, Sd_rr_17⟩, ok, ⟨n3, n6, n7, n8, n9, n10, n11, n13⟩, ⟨a1, a2, a3, a4, a5, a7⟩, ct⟩ := id (hs.sc hJ)
    have h1 := ok.1
    rw [w35_4]
    simp (disch := omega) only [w35_5, w35_6, w35_9, w35_12, w35_13, w35_14, w35_15, w35_18, w35_19, w35_20, w35_23, Sd_sr, Sd_s_r___1_, Sd_s_r___2_, Sd_s_r___3_, Sd_s_r___4_, Sd_s_r___5_, Sd_s_r___6_, Sd_s_r___7_, Sd_s_r___8_, Sd_s_r___9_, Sd_s_r___10_, Sd_rr_0, Sd_rr_1, Sd_rr_2, Sd_rr_4, Sd_rr_5, Sd_rr_12, Sd_rr_14, Sd_rr_15, Sd_rr_16, Sd_rr_17, aPush_s, aPush_n, vrf_s, vrf_n, true_and, and_true, false_and, and_false, true_imp_iff, false_imp_iff, not_true_eq_false, not_false_eq_true, eq_self, true_or, or_true, and_self, if_true, if_false, n_lit, n_of, n_an, Nat.add_sub_cancel, nI_add, pk_mul, n_sub, n_ixT, n_cl, n_leT, n_leF, n_ltT, n_ltF, n_eqT, n_eqF, Nat.reduceAdd, Nat.reduceMul, Nat.reduceSub, Nat.reduceEqDiff, Nat.reduceLT, Nat.reduceLeDiff, Nat.mul_one, Nat.one_mul, Nat.add_zero, Nat.zero_add, n3, n6, n7, n8, n9, n10, n11, n13]
    refine c36 (hs.sc hJ) hk ?_
    intro J' hJ'
    rw [(sTm_eq ok hk).1]
    simp (disch := omega) only [w35_5, w35_6, w35_9, w35_12, w35_13, w35_14, w35_15, w35_18, w35_19, w35_20, w35_23, aPush_s, aPush_n, vrf_s, vrf_n, true_and, and_true, false_and, and_false, true_imp_iff, false_imp_iff, not_true_eq_false, not_false_eq_true, eq_self, true_or, or_true, and_self, if_true, if_false, n_lit, n_of, n_an, Nat.add_sub_cancel, nI_add, pk_mul, n_sub, n_ixT, n_cl, n_leT, n_leF, n_ltT, n_ltF, n_eqT, n_eqF, Nat.reduceAdd, Nat.reduceMul, Nat.reduceSub, Nat.reduceEqDiff, Nat.reduceLT, Nat.reduceLeDiff, Nat.mul_one, Nat.one_mul, Nat.add_zero, Nat.zero_add]
    exact ih J' (hJ.trans hJ')
theorem c35 (hs : Cs S I R r g) (hQ : ∀ J, Fr r I J → Cs S J R r (sChoose g) → Q none (S, J, R, z)) : RM (d + 5) 35 [.ref r] (S, I, R, z) Q := by
  obtain ⟨hr, ⟨Sd_sr, Sd_s_r___1_, Sd_s_r___2_, Sd_s_r___3_, Sd_s_r___4_, Sd_s_r___5_, Sd_s_r___6_, Sd_s_r___7_, Sd_s_r___8_, Sd_s_r___9_, Sd_s_r___10_, Sd_rr_0, Sd_rr_1, Sd_rr_2, Sd_rr_4, Sd_rr_5, Sd_rr_12, Sd_rr_14, Sd_rr_15, Sd_rr_16, Sd_rr_17⟩, ok, ⟨n3, n6, n7, n8, n9, n10, n11, n13⟩, ⟨a1, a2, a3, a4, a5, a7⟩, ct⟩ := id hs
  have hle := sAll_le ok
  simp only [e35, w35_0, w35_1, w35_2, w35_3, w35_5, w35_6, w35_9, w35_12, w35_13, w35_14, w35_15, w35_18, w35_19, w35_20, w35_23, w35_26, w35_27, w35_28, w35_31, w35_32, w35_33, w35_36, w35_37, w35_38, w35_41, w35_44, w35_45, w35_48, n_lit, n_of, n_an, Nat.add_sub_cancel, nI_add, pk_mul, n_sub, n_ixT, n_cl, n_leT, n_leF, n_ltT, n_ltF, n_eqT, n_eqF, Nat.reduceAdd, Nat.reduceMul, Nat.reduceSub, Nat.reduceEqDiff, Nat.reduceLT, Nat.reduceLeDiff, Nat.mul_one, Nat.one_mul, Nat.add_zero, Nat.zero_add]
  refine l35 hs ?_ (g 1) 0 I (Nat.zero_add _) (Sc.refl r I)
  intro J hJ
  have hsJ := hs.sc hJ
  unfold sChoose at hQ
  by_cases e : sAll g = 0
  · rw [if_pos e] at hQ
    simp (disch := omega) only [w35_0, w35_1, w35_2, w35_3, w35_5, w35_6, w35_9, w35_12, w35_13, w35_14, w35_15, w35_18, w35_19, w35_20, w35_23, w35_26, w35_27, w35_28, w35_31, w35_32, w35_33, w35_36, w35_37, w35_38, w35_41, w35_44, w35_45, w35_48, Sd_sr, Sd_s_r___1_, Sd_s_r___2_, Sd_s_r___3_, Sd_s_r___4_, Sd_s_r___5_, Sd_s_r___6_, Sd_s_r___7_, Sd_s_r___8_, Sd_s_r___9_, Sd_s_r___10_, Sd_rr_0, Sd_rr_1, Sd_rr_2, Sd_rr_4, Sd_rr_5, Sd_rr_12, Sd_rr_14, Sd_rr_15, Sd_rr_16, Sd_rr_17, aPush_s, aPush_n, vrf_s, vrf_n, true_and, and_true, false_and, and_false, true_imp_iff, false_imp_iff, not_true_eq_false, not_false_eq_true, eq_self, true_or, or_true, and_self, if_true, if_false, n_lit, n_of, n_an, Nat.add_sub_cancel, nI_add, pk_mul, n_sub, n_ixT, n_cl, n_leT, n_leF, n_ltT, n_ltF, n_eqT, n_eqF, Nat.reduceAdd, Nat.reduceMul, Nat.reduceSub, Nat.reduceEqDiff, Nat.reduceLT, Nat.reduceLeDiff, Nat.mul_one, Nat.one_mul, Nat.add_zero, Nat.zero_add, e]
    rw [show -nI 1 = nI 4294967295 by decide]
    refine c29 hsJ (Or.inl rfl) ?_
    intro K hK hsK
    simp (disch := omega) only [w35_0, w35_1, w35_2, w35_3, w35_5, w35_6, w35_9, w35_12, w35_13, w35_14, w35_15, w35_18, w35_19, w35_20, w35_23, w35_26, w35_27, w35_28, w35_31, w35_32, w35_33, w35_36, w35_37, w35_38, w35_41, w35_44, w35_45, w35_48, Sd_sr, Sd_s_r___1_, Sd_s_r___2_, Sd_s_r___3_, Sd_s_r___4_, Sd_s_r___5_, Sd_s_r___6_, Sd_s_r___7_, Sd_s_r___8_, Sd_s_r___9_, Sd_s_r___10_, Sd_rr_0, Sd_rr_1, Sd_rr_2, Sd_rr_4, Sd_rr_5, Sd_rr_12, Sd_rr_14, Sd_rr_15, Sd_rr_16, Sd_rr_17, aPush_s, aPush_n, vrf_s, vrf_n, true_and, and_true, false_and, and_false, true_imp_iff, false_imp_iff, not_true_eq_false, not_false_eq_true, eq_self, true_or, or_true, and_self, if_true, if_false, n_lit, n_of, n_an, Nat.add_sub_cancel, nI_add, pk_mul, n_sub, n_ixT, n_cl, n_leT, n_leF, n_ltT, n_ltF, n_eqT, n_eqF, Nat.reduceAdd, Nat.reduceMul, Nat.reduceSub, Nat.reduceEqDiff, Nat.reduceLT, Nat.reduceLeDiff, Nat.mul_one, Nat.one_mul, Nat.add_zero, Nat.zero_add]
    exact hQ K (hJ.fr.trans hK) hsK
  · rw [if_neg e] at hQ
    simp (disch := omega) only [w35_0, w35_1, w35_2, w35_3, w35_5, w35_6, w35_9, w35_12, w35_13, w35_14, w35_15, w35_18, w35_19, w35_20, w35_23, w35_26, w35_27, w35_28, w35_31, w35_32, w35_33, w35_36, w35_37, w35_38, w35_41, w35_44, w35_45, w35_48, Sd_sr, Sd_s_r___1_, Sd_s_r___2_, Sd_s_r___3_, Sd_s_r___4_, Sd_s_r___5_, Sd_s_r___6_, Sd_s_r___7_, Sd_s_r___8_, Sd_s_r___9_, Sd_s_r___10_, Sd_rr_0, Sd_rr_1, Sd_rr_2, Sd_rr_4, Sd_rr_5, Sd_rr_12, Sd_rr_14, Sd_rr_15, Sd_rr_16, Sd_rr_17, aPush_s, aPush_n, vrf_s, vrf_n, true_and, and_true, false_and, and_false, true_imp_iff, false_imp_iff, not_true_eq_false, not_false_eq_true, eq_self, true_or, or_true, and_self, if_true, if_false, n_lit, n_of, n_an, Nat.add_sub_cancel, nI_add, pk_mul, n_sub, n_ixT, n_cl, n_leT, n_leF, n_ltT, n_ltF, n_eqT, n_eqF, Nat.reduceAdd, Nat.reduceMul, Nat.reduceSub, Nat.reduceEqDiff, Nat.reduceLT, Nat.reduceLeDiff, Nat.mul_one, Nat.one_mul, Nat.add_zero, Nat.zero_add]
    refine c13 hsJ ?_
    intro K hK hsK
    have hlt := sDv_lt g
    have hrem : sDv g % sAll g < sAll g := Nat.mod_lt _ (by omega)
    have htm : sTm (sDraw g) = sTm g := e7_sTm (sDraw_e7 g)
    have h1 : sDraw g 1 = g 1 := sDraw_e7 g 1 (Or.inl rfl)
    have hall : sAll (sDraw g) = sAll g := by
      unfold sAll
      rw [htm, h1]
    simp (disch := omega) only [w35_0, w35_1, w35_2, w35_3, w35_5, w35_6, w35_9, w35_12, w35_13, w35_14, w35_15, w35_18, w35_19, w35_20, w35_23, w35_26, w35_27, w35_28, w35_31, w35_32, w35_33, w35_36, w35_37, w35_38, w35_41, w35_44, w35_45, w35_48, Sd_sr, Sd_s_r___1_, Sd_s_r___2_, Sd_s_r___3_, Sd_s_r___4_, Sd_s_r___5_, Sd_s_r___6_, Sd_s_r___7_, Sd_s_r___8_, Sd_s_r___9_, Sd_s_r___10_, Sd_rr_0, Sd_rr_1, Sd_rr_2, Sd_rr_4, Sd_rr_5, Sd_rr_12, Sd_rr_14, Sd_rr_15, Sd_rr_16, Sd_rr_17, aPush_s, aPush_n, vrf_s, vrf_n, true_and, and_true, false_and, and_false, true_imp_iff, false_imp_iff, not_true_eq_false, not_false_eq_true, eq_self, true_or, or_true, and_self, if_true, if_false, n_lit, n_of, n_an, Nat.add_sub_cancel, nI_add, pk_mul, n_sub, n_ixT, n_cl, n_leT, n_leF, n_ltT, n_ltF, n_eqT, n_eqF, Nat.reduceAdd, Nat.reduceMul, Nat.reduceSub, Nat.reduceEqDiff, Nat.reduceLT, Nat.reduceLeDiff, Nat.mul_one, Nat.one_mul, Nat.add_zero, Nat.zero_add, n_mod, e]
    refine c37 hsK (by rw [hall]; exact hrem) ?_
    intro L hL
    rw [htm, h1]
    have hsL := hsK.sc hL
    simp (disch := omega) only [w35_0, w35_1, w35_2, w35_3, w35_5, w35_6, w35_9, w35_12, w35_13, w35_14, w35_15, w35_18, w35_19, w35_20, w35_23, w35_26, w35_27, w35_28, w35_31, w35_32, w35_33, w35_36, w35_37, w35_38, w35_41, w35_44, w35_45, w35_48, Sd_sr, Sd_s_r___1_, Sd_s_r___2_, Sd_s_r___3_, Sd_s_r___4_, Sd_s_r___5_, Sd_s_r___6_, Sd_s_r___7_, Sd_s_r___8_, Sd_s_r___9_, Sd_s_r___10_, Sd_rr_0, Sd_rr_1, Sd_rr_2, Sd_rr_4, Sd_rr_5, Sd_rr_12, Sd_rr_14, Sd_rr_15, Sd_rr_16, Sd_rr_17, aPush_s, aPush_n, vrf_s, vrf_n, true_and, and_true, false_and, and_false, true_imp_iff, false_imp_iff, not_true_eq_false, not_false_eq_true, eq_self, true_or, or_true, and_self, if_true, if_false, n_lit, n_of, n_an, Nat.add_sub_cancel, nI_add, pk_mul, n_sub, n_ixT, n_cl, n_leT, n_leF, n_ltT, n_ltF, n_eqT, n_eqF, Nat.reduceAdd, Nat.reduceMul, Nat.reduceSub, Nat.reduceEqDiff, Nat.reduceLT, Nat.reduceLeDiff, Nat.mul_one, Nat.one_mul, Nat.add_zero, Nat.zero_add]
    refine c29 hsL (Or.inr (by rw [h1]; exact sWho_lt e)) ?_
    intro M hM hsM
    simp (disch := omega) only [w35_0, w35_1, w35_2, w35_3, w35_5, w35_6, w35_9, w35_12, w35_13, w35_14, w35_15, w35_18, w35_19, w35_20, w35_23, w35_26, w35_27, w35_28, w35_31, w35_32, w35_33, w35_36, w35_37, w35_38, w35_41, w35_44, w35_45, w35_48, Sd_sr, Sd_s_r___1_, Sd_s_r___2_, Sd_s_r___3_, Sd_s_r___4_, Sd_s_r___5_, Sd_s_r___6_, Sd_s_r___7_, Sd_s_r___8_, Sd_s_r___9_, Sd_s_r___10_, Sd_rr_0, Sd_rr_1, Sd_rr_2, Sd_rr_4, Sd_rr_5, Sd_rr_12, Sd_rr_14, Sd_rr_15, Sd_rr_16, Sd_rr_17, aPush_s, aPush_n, vrf_s, vrf_n, true_and, and_true, false_and, and_false, true_imp_iff, false_imp_iff, not_true_eq_false, not_false_eq_true, eq_self, true_or, or_true, and_self, if_true, if_false, n_lit, n_of, n_an, Nat.add_sub_cancel, nI_add, pk_mul, n_sub, n_ixT, n_cl, n_leT, n_leF, n_ltT, n_ltF, n_eqT, n_eqF, Nat.reduceAdd, Nat.reduceMul, Nat.reduceSub, Nat.reduceEqDiff, Nat.reduceLT, Nat.reduceLeDiff, Nat.mul_one, Nat.one_mul, Nat.add_zero, Nat.zero_add]
    exact hQ M ((hJ.fr.trans hK).trans (hL.fr.trans hM)) hsM
theorem l34 {a : Nat} : ∀ (f k : Nat) (g : Nat → Nat) (I : Nat → Nat → Int32) (v3 : Value), k + f = 6 → Cs S I R r g → a < g 2 → (∀ J, Fr r I J → Cs S J R r (sPlay a f g) → Q none (S, J, R, z)) → RB (d + 5) 34 2 [.ref r, .int (nI a), .int (nI k), v3] [] (S, I, R, z) Q
  | 0, k, g, I, v3, h, hs, ha, hQ => by
    obtain rfl : k = 6 := by omega
    obtain ⟨hr, ⟨Sd_sr, Sd_s_r___1_, Sd_s_r___2_, Sd_s_r___3_, Sd_s_r___4_, Sd_s_r___5_, Sd_s_r___6_, Sd_s_r___7_, Sd_s_r___8_, Sd_s_r___9_, Sd_s_r___10_, Sd_rr_0, Sd_rr_1, Sd_rr_2, Sd_rr_4, Sd_rr_5, Sd_rr_12, Sd_rr_14, Sd_rr_15, Sd_rr_16, Sd_rr_17⟩, ok, ⟨n3, n6, n7, n8, n9, n10, n11, n13⟩, ⟨a1, a2, a3, a4, a5, a7⟩, ct⟩ := id hs
    rw [w34_2]
    simp (disch := omega) only [w34_0, w34_1, w34_3, w34_5, w34_8, w34_9, w34_10, w34_11, w34_14, w34_15, w34_18, w34_21, w34_22, w34_23, w34_26, w34_27, w34_28, w34_31, w34_34, w34_35, w34_36, w34_37, w34_40, w34_41, w34_44, w34_47, Sd_sr, Sd_s_r___1_, Sd_s_r___2_, Sd_s_r___3_, Sd_s_r___4_, Sd_s_r___5_, Sd_s_r___6_, Sd_s_r___7_, Sd_s_r___8_, Sd_s_r___9_, Sd_s_r___10_, Sd_rr_0, Sd_rr_1, Sd_rr_2, Sd_rr_4, Sd_rr_5, Sd_rr_12, Sd_rr_14, Sd_rr_15, Sd_rr_16, Sd_rr_17, aPush_s, aPush_n, vrf_s, vrf_n, true_and, and_true, false_and, and_false, true_imp_iff, false_imp_iff, not_true_eq_false, not_false_eq_true, eq_self, true_or, or_true, and_self, if_true, if_false, n_lit, n_of, n_an, Nat.add_sub_cancel, nI_add, pk_mul, n_sub, n_ixT, n_cl, n_leT, n_leF, n_ltT, n_ltF, n_eqT, n_eqF, Nat.reduceAdd, Nat.reduceMul, Nat.reduceSub, Nat.reduceEqDiff, Nat.reduceLT, Nat.reduceLeDiff, Nat.mul_one, Nat.one_mul, Nat.add_zero, Nat.zero_add]
    exact hQ I (Fr.refl r I) hs
  | f + 1, k, g, I, v3, h, hs, ha, hQ => by
    have hk : k < 6 := by omega
    obtain ⟨hr, ⟨Sd_sr, Sd_s_r___1_, Sd_s_r___2_, Sd_s_r___3_, Sd_s_r___4_, Sd_s_r___5_, Sd_s_r___6_, Sd_s_r___7_, Sd_s_r___8_, Sd_s_r___9_, Sd_s_r___10_, Sd_rr_0, Sd_rr_1, Sd_rr_2, Sd_rr_4, Sd_rr_5, Sd_rr_12, Sd_rr_14, Sd_rr_15, Sd_rr_16, Sd_rr_17⟩, ok, ⟨n3, n6, n7, n8, n9, n10, n11, n13⟩, ⟨a1, a2, a3, a4, a5, a7⟩, ct⟩ := id hs
    have h1 := ok.1
    have h4 := ok.2.2.2.1
    have hn := sNow_lt ok
    rw [w34_2]
    simp (disch := omega) only [w34_0, w34_1, w34_3, w34_5, w34_8, w34_9, w34_10, w34_11, w34_14, w34_15, w34_18, w34_21, w34_22, w34_23, w34_26, w34_27, w34_28, w34_31, w34_34, w34_35, w34_36, w34_37, w34_40, w34_41, w34_44, w34_47, Sd_sr, Sd_s_r___1_, Sd_s_r___2_, Sd_s_r___3_, Sd_s_r___4_, Sd_s_r___5_, Sd_s_r___6_, Sd_s_r___7_, Sd_s_r___8_, Sd_s_r___9_, Sd_s_r___10_, Sd_rr_0, Sd_rr_1, Sd_rr_2, Sd_rr_4, Sd_rr_5, Sd_rr_12, Sd_rr_14, Sd_rr_15, Sd_rr_16, Sd_rr_17, aPush_s, aPush_n, vrf_s, vrf_n, true_and, and_true, false_and, and_false, true_imp_iff, false_imp_iff, not_true_eq_false, not_false_eq_true, eq_self, true_or, or_true, and_self, if_true, if_false, n_lit, n_of, n_an, Nat.add_sub_cancel, nI_add, pk_mul, n_sub, n_ixT, n_cl, n_leT, n_leF, n_ltT, n_ltF, n_eqT, n_eqF, Nat.reduceAdd, Nat.reduceMul, Nat.reduceSub, Nat.reduceEqDiff, Nat.reduceLT, Nat.reduceLeDiff, Nat.mul_one, Nat.one_mul, Nat.add_zero, Nat.zero_add, n3, n6, n7, n8, n9, n10, n11, n13, c21 hs]
    refine c28 hs ha h4 (by omega) ?_
    intro J hJ
    have hsJ := hs.sc hJ
    unfold sPlay at hQ
    have hq := hQ J hJ.fr
    rcases q : sNxt g a (g 4) (sNow g) 6 with _ | ⟨l, m⟩
    · have hx : g 3 = 4294967295 ∨ sHad g = true ∨ sHung g = true := by
        by_cases e : g 3 = 4294967295
        · exact Or.inl e
        · refine Or.inr (Or.inl ?_)
          unfold sHad
          rw [n_all _ h4 (sNxt_none q), n_in63 _ (sLs_lt _ _), beq_self_eq_true]
          simp [e]
      rw [if_pos hx] at hq
      simp (disch := omega) only [w34_0, w34_1, w34_3, w34_5, w34_8, w34_9, w34_10, w34_11, w34_14, w34_15, w34_18, w34_21, w34_22, w34_23, w34_26, w34_27, w34_28, w34_31, w34_34, w34_35, w34_36, w34_37, w34_40, w34_41, w34_44, w34_47, Sd_sr, Sd_s_r___1_, Sd_s_r___2_, Sd_s_r___3_, Sd_s_r___4_, Sd_s_r___5_, Sd_s_r___6_, Sd_s_r___7_, Sd_s_r___8_, Sd_s_r___9_, Sd_s_r___10_, Sd_rr_0, Sd_rr_1, Sd_rr_2, Sd_rr_4, Sd_rr_5, Sd_rr_12, Sd_rr_14, Sd_rr_15, Sd_rr_16, Sd_rr_17, aPush_s, aPush_n, vrf_s, vrf_n, true_and, and_true, false_and, and_false, true_imp_iff, false_imp_iff, not_true_eq_false, not_false_eq_true, eq_self, true_or, or_true, and_self, if_true, if_false, n_lit, n_of, n_an, Nat.add_sub_cancel, nI_add, pk_mul, n_sub, n_ixT, n_cl, n_leT, n_leF, n_ltT, n_ltF, n_eqT, n_eqF, Nat.reduceAdd, Nat.reduceMul, Nat.reduceSub, Nat.reduceEqDiff, Nat.reduceLT, Nat.reduceLeDiff, Nat.mul_one, Nat.one_mul, Nat.add_zero, Nat.zero_add, nB, n_m1lt]
      exact hq hsJ
    · obtain ⟨hl, hb⟩ := sNxt_some q
      dsimp only at hl hb
      simp (disch := omega) only [w34_0, w34_1, w34_3, w34_5, w34_8, w34_9, w34_10, w34_11, w34_14, w34_15, w34_18, w34_21, w34_22, w34_23, w34_26, w34_27, w34_28, w34_31, w34_34, w34_35, w34_36, w34_37, w34_40, w34_41, w34_44, w34_47, Sd_sr, Sd_s_r___1_, Sd_s_r___2_, Sd_s_r___3_, Sd_s_r___4_, Sd_s_r___5_, Sd_s_r___6_, Sd_s_r___7_, Sd_s_r___8_, Sd_s_r___9_, Sd_s_r___10_, Sd_rr_0, Sd_rr_1, Sd_rr_2, Sd_rr_4, Sd_rr_5, Sd_rr_12, Sd_rr_14, Sd_rr_15, Sd_rr_16, Sd_rr_17, aPush_s, aPush_n, vrf_s, vrf_n, true_and, and_true, false_and, and_false, true_imp_iff, false_imp_iff, not_true_eq_false, not_false_eq_true, eq_self, true_or, or_true, and_self, if_true, if_false, n_lit, n_of, n_an, Nat.add_sub_cancel, nI_add, pk_mul, n_sub, n_ixT, n_cl, n_leT, n_leF, n_ltT, n_ltF, n_eqT, n_eqF, Nat.reduceAdd, Nat.reduceMul, Nat.reduceSub, Nat.reduceEqDiff, Nat.reduceLT, Nat.reduceLeDiff, Nat.mul_one, Nat.one_mul, Nat.add_zero, Nat.zero_add, nB, n_lt0, c32 hsJ hl, hb, Bool.not_false, Bool.true_and]
      by_cases hx : g 3 = 4294967295 ∨ sHad g = true ∨ sHung g = true
      · have hf : (g 3 != 4294967295 && (!sHad g && !sHung g)) = false := by
          rcases hx with e | e | e
          · simp [e]
          · simp [e]
          · simp [e]
        rw [if_pos hx] at hq
        simp (disch := omega) only [w34_0, w34_1, w34_3, w34_5, w34_8, w34_9, w34_10, w34_11, w34_14, w34_15, w34_18, w34_21, w34_22, w34_23, w34_26, w34_27, w34_28, w34_31, w34_34, w34_35, w34_36, w34_37, w34_40, w34_41, w34_44, w34_47, Sd_sr, Sd_s_r___1_, Sd_s_r___2_, Sd_s_r___3_, Sd_s_r___4_, Sd_s_r___5_, Sd_s_r___6_, Sd_s_r___7_, Sd_s_r___8_, Sd_s_r___9_, Sd_s_r___10_, Sd_rr_0, Sd_rr_1, Sd_rr_2, Sd_rr_4, Sd_rr_5, Sd_rr_12, Sd_rr_14, Sd_rr_15, Sd_rr_16, Sd_rr_17, aPush_s, aPush_n, vrf_s, vrf_n, true_and, and_true, false_and, and_false, true_imp_iff, false_imp_iff, not_true_eq_false, not_false_eq_true, eq_self, true_or, or_true, and_self, if_true, if_false, n_lit, n_of, n_an, Nat.add_sub_cancel, nI_add, pk_mul, n_sub, n_ixT, n_cl, n_leT, n_leF, n_ltT, n_ltF, n_eqT, n_eqF, Nat.reduceAdd, Nat.reduceMul, Nat.reduceSub, Nat.reduceEqDiff, Nat.reduceLT, Nat.reduceLeDiff, Nat.mul_one, Nat.one_mul, Nat.add_zero, Nat.zero_add, hf, b2n_f]
        exact hq hsJ
      · have hf : (g 3 != 4294967295 && (!sHad g && !sHung g)) = true := by
          simp only [not_or, Bool.not_eq_true] at hx
          simp [hx.1, hx.2.1, hx.2.2]
        have h3 : g 3 < g 1 := by
          rcases ok.2.2.1 with q | q
          · exact absurd (Or.inl q.1) hx
          · exact q
        simp (disch := omega) only [w34_0, w34_1, w34_3, w34_5, w34_8, w34_9, w34_10, w34_11, w34_14, w34_15, w34_18, w34_21, w34_22, w34_23, w34_26, w34_27, w34_28, w34_31, w34_34, w34_35, w34_36, w34_37, w34_40, w34_41, w34_44, w34_47, Sd_sr, Sd_s_r___1_, Sd_s_r___2_, Sd_s_r___3_, Sd_s_r___4_, Sd_s_r___5_, Sd_s_r___6_, Sd_s_r___7_, Sd_s_r___8_, Sd_s_r___9_, Sd_s_r___10_, Sd_rr_0, Sd_rr_1, Sd_rr_2, Sd_rr_4, Sd_rr_5, Sd_rr_12, Sd_rr_14, Sd_rr_15, Sd_rr_16, Sd_rr_17, aPush_s, aPush_n, vrf_s, vrf_n, true_and, and_true, false_and, and_false, true_imp_iff, false_imp_iff, not_true_eq_false, not_false_eq_true, eq_self, true_or, or_true, and_self, if_true, if_false, n_lit, n_of, n_an, Nat.add_sub_cancel, nI_add, pk_mul, n_sub, n_ixT, n_cl, n_leT, n_leF, n_ltT, n_ltF, n_eqT, n_eqF, Nat.reduceAdd, Nat.reduceMul, Nat.reduceSub, Nat.reduceEqDiff, Nat.reduceLT, Nat.reduceLeDiff, Nat.mul_one, Nat.one_mul, Nat.add_zero, Nat.zero_add, hf, b2n_t]
        refine c33 hsJ h3 hl ?_
        intro K hK hsK
        simp (disch := omega) only [w34_0, w34_1, w34_3, w34_5, w34_8, w34_9, w34_10, w34_11, w34_14, w34_15, w34_18, w34_21, w34_22, w34_23, w34_26, w34_27, w34_28, w34_31, w34_34, w34_35, w34_36, w34_37, w34_40, w34_41, w34_44, w34_47, Sd_sr, Sd_s_r___1_, Sd_s_r___2_, Sd_s_r___3_, Sd_s_r___4_, Sd_s_r___5_, Sd_s_r___6_, Sd_s_r___7_, Sd_s_r___8_, Sd_s_r___9_, Sd_s_r___10_, Sd_rr_0, Sd_rr_1, Sd_rr_2, Sd_rr_4, Sd_rr_5, Sd_rr_12, Sd_rr_14, Sd_rr_15, Sd_rr_16, Sd_rr_17, aPush_s, aPush_n, vrf_s, vrf_n, true_and, and_true, false_and, and_false, true_imp_iff, false_imp_iff, not_true_eq_false, not_false_eq_true, eq_self, true_or, or_true, and_self, if_true, if_false, n_lit, n_of, n_an, Nat.add_sub_cancel, nI_add, pk_mul, n_sub, n_ixT, n_cl, n_leT, n_leF, n_ltT, n_ltF, n_eqT, n_eqF, Nat.reduceAdd, Nat.reduceMul, Nat.reduceSub, Nat.reduceEqDiff, Nat.reduceLT, Nat.reduceLeDiff, Nat.mul_one, Nat.one_mul, Nat.add_zero, Nat.zero_add]
        refine l34 f (k + 1) _ K _ (by omega) hsK (by rw [show sAsk g l 2 = g 2 from (gu_n (by decide)).trans (gu_n (by decide))]; exact ha) ?_
        intro L hL hsL
        refine hQ L ((hJ.fr.trans hK).trans hL) ?_
        rw [if_neg hx, q]
        exact hsL
theorem c34 {a : Nat} (hs : Cs S I R r g) (ha : a < g 2) (hQ : ∀ J, Fr r I J → Cs S J R r (sPlay a 6 g) → Q none (S, J, R, z)) : RM (d + 6) 34 [.ref r, .int (nI a)] (S, I, R, z) Q := by
  simp only [e34, w34_0, w34_1, w34_3, w34_5, w34_8, w34_9, w34_10, w34_11, w34_14, w34_15, w34_18, w34_21, w34_22, w34_23, w34_26, w34_27, w34_28, w34_31, w34_34, w34_35, w34_36, w34_37, w34_40, w34_41, w34_44, w34_47, n_lit, n_of, n_an, Nat.add_sub_cancel, nI_add, pk_mul, n_sub, n_ixT, n_cl, n_leT, n_leF, n_ltT, n_ltF, n_eqT, n_eqF, Nat.reduceAdd, Nat.reduceMul, Nat.reduceSub, Nat.reduceEqDiff, Nat.reduceLT, Nat.reduceLeDiff, Nat.mul_one, Nat.one_mul, Nat.add_zero, Nat.zero_add]
  exact l34 6 0 g I _ (by decide) hs ha hQ
end
