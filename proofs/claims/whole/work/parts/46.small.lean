/-! arguments held within bounds; the small methods of both sides -/
/-- from 0, below n -/
def inN (x : Int32) (n : Nat) : Bool := !decide (x < nI 0) && decide (x < nI n)
def bw (x a b : Int32) : Bool := !decide (x < a) && !decide (b < x)
theorem inN_T {x : Int32} {n : Nat} (hn : n < 2147483648) (h : inN x n = true) : ∃ k, k < n ∧ x = nI k := by
  unfold inN at h
  simp only [Bool.and_eq_true, Bool.not_eq_true', decide_eq_false_iff_not, decide_eq_true_eq] at h
  obtain ⟨j, hj, e⟩ := nI_of h.1
  refine ⟨j, ?_, e⟩
  have := h.2
  rw [e, n_lt (by omega) hn] at this
  exact this
theorem inN_I {k n : Nat} (h : k < n) (hn : n < 2147483648) : inN (nI k) n = true := by
  unfold inN
  rw [decide_eq_false (nI_nlt (Nat.zero_le _) (by omega)), decide_eq_true (nI_lt h hn)]
  rfl
theorem bw_T {x : Int32} {a b : Nat} (ha : a < 2147483648) (hb : b < 2147483648) (h : bw x (nI a) (nI b) = true) : ∃ k, a ≤ k ∧ k ≤ b ∧ x = nI k := by
  unfold bw at h
  simp only [Bool.and_eq_true, Bool.not_eq_true', decide_eq_false_iff_not] at h
  have h0 : ¬ x < 0 := fun q => h.1 (Int32.lt_of_lt_of_le q (nI_le (Nat.zero_le a) ha))
  obtain ⟨j, hj, e⟩ := nI_of h0
  have h1 := h.1
  have h2 := h.2
  rw [e, n_lt (by omega) ha] at h1
  rw [e, n_lt hb (by omega)] at h2
  exact ⟨j, by omega, by omega, e⟩
theorem bw_0 {x : Int32} {m : Nat} (hm : m < 2147483647) : bw x (nI 0) (nI m) = inN x (m + 1) := by
  unfold bw inN
  by_cases h : x < nI 0
  · rw [decide_eq_true h]
    rfl
  · obtain ⟨j, hj, e⟩ := nI_of h
    rw [decide_eq_false h, e]
    by_cases h2 : j < m + 1
    · rw [decide_eq_true (nI_lt h2 (by omega)), decide_eq_false (nI_nlt (by omega) (by omega))]
      rfl
    · rw [decide_eq_false (show ¬ nI j < nI (m + 1) from nI_nlt (by omega) (by omega)), decide_eq_true (show nI m < nI j from nI_lt (by omega) (by omega))]
      rfl
theorem bw_1 {x : Int32} {n : Nat} (hn : n < 2147483647) : bw x (nI 0) (nI n - nI 1) = inN x n := by
  rcases n with _ | n
  · unfold bw inN
    by_cases h : x < nI 0
    · rw [decide_eq_true h]
      rfl
    · obtain ⟨j, hj, e⟩ := nI_of h
      rw [decide_eq_false h, e, show nI 0 - nI 1 = -nI 1 by decide]
      have h2 : (-nI 1 : Int32) < nI j := Int32.lt_of_lt_of_le (show -nI 1 < nI 0 by decide) (nI_le (Nat.zero_le _) (by omega))
      rw [decide_eq_true h2]
      rfl
  · rw [n_sub (by omega)]
    exact bw_0 (by omega)
section
variable {d r : Nat} {g : Nat → Nat} {S : Nat → Nat × Nat} {I : Nat → Nat → Int32} {R : Nat → Nat → Option Nat} {z : Nat × Nat} {Q : Option Value → HS → Prop}
theorem c135b {v a b : Int32} : RM (d + 1) 135 [.int v, .int a, .int b] (S, I, R, z) Q = Q (some (.int (nI (b2n (bw v a b))))) (S, I, R, z) := by
  rw [c135]
  unfold bw
  by_cases h1 : v < a
  · rw [if_pos h1, decide_eq_true h1]
    rfl
  · by_cases h2 : b < v
    · rw [if_neg h1, if_pos h2, decide_eq_false h1, decide_eq_true h2]
      rfl
    · rw [if_neg h1, if_neg h2, decide_eq_false h1, decide_eq_false h2]
      rfl
theorem nzb (b : Bool) : narrow .boolean (.int (nI (b2n b))) = .int (nI (b2n b)) := by
  cases b
  · exact nz0
  · exact nz1
theorem c139 {x : Int32} (hm : Mr S I R) : RM (d + 2) 139 [.ref 81, .int x] (S, I, R, z) Q = Q (some (.int (nI (b2n (inN x (G I 1)))))) (S, I, R, z) := by
  obtain ⟨⟨Md_s1, Md_s81, Md_s82, Md_s83, Md_s84, Md_s85, Md_s86, Md_s87, Md_s88, Md_s89, Md_s90, Md_s91, Md_s92, Md_s93, Md_s94, Md_s95, Md_s96, Md_s97, Md_s98, Md_s99, Md_s100, Md_s101, Md_s102, Md_r81_0, Md_r81_1, Md_r81_2, Md_r81_4, Md_r81_5, Md_r81_13, Md_r81_14, Md_r81_15, Md_r81_18, Md_r81_20, Md_r81_21, Md_r81_22, Md_r81_23, Md_r81_24, Md_r81_25, Md_r81_26, Md_r81_27, Md_r81_28, Md_r81_29, Md_r81_30, Md_r81_31⟩, hc, ok⟩ := id hm
  have h1 := ok.1
  simp (disch := omega) only [e139, w139_0, w139_1, w139_2, w139_3, w139_6, w139_7, w139_8, w139_9, w139_10, w139_13, Md_s1, Md_s81, Md_s82, Md_s83, Md_s84, Md_s85, Md_s86, Md_s87, Md_s88, Md_s89, Md_s90, Md_s91, Md_s92, Md_s93, Md_s94, Md_s95, Md_s96, Md_s97, Md_s98, Md_s99, Md_s100, Md_s101, Md_s102, Md_r81_0, Md_r81_1, Md_r81_2, Md_r81_4, Md_r81_5, Md_r81_13, Md_r81_14, Md_r81_15, Md_r81_18, Md_r81_20, Md_r81_21, Md_r81_22, Md_r81_23, Md_r81_24, Md_r81_25, Md_r81_26, Md_r81_27, Md_r81_28, Md_r81_29, Md_r81_30, Md_r81_31, aPush_s, aPush_n, vrf_s, vrf_n, true_and, and_true, false_and, and_false, true_imp_iff, false_imp_iff, not_true_eq_false, not_false_eq_true, eq_self, true_or, or_true, and_self, if_true, if_false, n_lit, n_cl, n_ixT, G_eq I, c135b]
  rw [bw_1 (by omega), nzb]
  simp only [aPush_s, aPush_n, vrf_s, vrf_n, true_and, and_true, false_and, and_false, true_imp_iff, false_imp_iff, not_true_eq_false, not_false_eq_true, eq_self, true_or, or_true, and_self, if_true, if_false]
theorem c140 {x : Int32} (hm : Mr S I R) : RM (d + 2) 140 [.ref 81, .int x] (S, I, R, z) Q = Q (some (.int (nI (b2n (inN x (G I 2)))))) (S, I, R, z) := by
  obtain ⟨⟨Md_s1, Md_s81, Md_s82, Md_s83, Md_s84, Md_s85, Md_s86, Md_s87, Md_s88, Md_s89, Md_s90, Md_s91, Md_s92, Md_s93, Md_s94, Md_s95, Md_s96, Md_s97, Md_s98, Md_s99, Md_s100, Md_s101, Md_s102, Md_r81_0, Md_r81_1, Md_r81_2, Md_r81_4, Md_r81_5, Md_r81_13, Md_r81_14, Md_r81_15, Md_r81_18, Md_r81_20, Md_r81_21, Md_r81_22, Md_r81_23, Md_r81_24, Md_r81_25, Md_r81_26, Md_r81_27, Md_r81_28, Md_r81_29, Md_r81_30, Md_r81_31⟩, hc, ok⟩ := id hm
  have h1 := ok.2.1
  simp (disch := omega) only [e140, w140_0, w140_1, w140_2, w140_3, w140_6, w140_7, w140_8, w140_9, w140_10, w140_13, Md_s1, Md_s81, Md_s82, Md_s83, Md_s84, Md_s85, Md_s86, Md_s87, Md_s88, Md_s89, Md_s90, Md_s91, Md_s92, Md_s93, Md_s94, Md_s95, Md_s96, Md_s97, Md_s98, Md_s99, Md_s100, Md_s101, Md_s102, Md_r81_0, Md_r81_1, Md_r81_2, Md_r81_4, Md_r81_5, Md_r81_13, Md_r81_14, Md_r81_15, Md_r81_18, Md_r81_20, Md_r81_21, Md_r81_22, Md_r81_23, Md_r81_24, Md_r81_25, Md_r81_26, Md_r81_27, Md_r81_28, Md_r81_29, Md_r81_30, Md_r81_31, aPush_s, aPush_n, vrf_s, vrf_n, true_and, and_true, false_and, and_false, true_imp_iff, false_imp_iff, not_true_eq_false, not_false_eq_true, eq_self, true_or, or_true, and_self, if_true, if_false, n_lit, n_cl, n_ixT, G_eq I, c135b]
  rw [bw_1 (by omega), nzb]
  simp only [aPush_s, aPush_n, vrf_s, vrf_n, true_and, and_true, false_and, and_false, true_imp_iff, false_imp_iff, not_true_eq_false, not_false_eq_true, eq_self, true_or, or_true, and_self, if_true, if_false]
theorem c141 {x : Int32} : RM (d + 2) 141 [.int x] (S, I, R, z) Q = Q (some (.int (nI (b2n (inN x 6))))) (S, I, R, z) := by
  simp (disch := omega) only [e141, w141_0, w141_1, w141_2, w141_3, w141_6, aPush_s, aPush_n, vrf_s, vrf_n, true_and, and_true, false_and, and_false, true_imp_iff, false_imp_iff, not_true_eq_false, not_false_eq_true, eq_self, true_or, or_true, and_self, if_true, if_false, n_lit, c135b]
  rw [bw_0 (by omega), nzb]
  simp only [aPush_s, aPush_n, vrf_s, vrf_n, true_and, and_true, false_and, and_false, true_imp_iff, false_imp_iff, not_true_eq_false, not_false_eq_true, eq_self, true_or, or_true, and_self, if_true, if_false]
theorem c222 {x : Int32} : RM (d + 2) 222 [.int x] (S, I, R, z) Q = Q (some (.int (nI (b2n (inN x 4))))) (S, I, R, z) := by
  simp (disch := omega) only [e222, w222_0, w222_1, w222_2, w222_3, w222_6, aPush_s, aPush_n, vrf_s, vrf_n, true_and, and_true, false_and, and_false, true_imp_iff, false_imp_iff, not_true_eq_false, not_false_eq_true, eq_self, true_or, or_true, and_self, if_true, if_false, n_lit, c135b]
  rw [bw_0 (by omega), nzb]
  simp only [aPush_s, aPush_n, vrf_s, vrf_n, true_and, and_true, false_and, and_false, true_imp_iff, false_imp_iff, not_true_eq_false, not_false_eq_true, eq_self, true_or, or_true, and_self, if_true, if_false]
theorem c223 {x : Int32} : RM (d + 2) 223 [.int x] (S, I, R, z) Q = Q (some (.int (nI (b2n (inN x 5))))) (S, I, R, z) := by
  simp (disch := omega) only [e223, w223_0, w223_1, w223_2, w223_3, w223_6, aPush_s, aPush_n, vrf_s, vrf_n, true_and, and_true, false_and, and_false, true_imp_iff, false_imp_iff, not_true_eq_false, not_false_eq_true, eq_self, true_or, or_true, and_self, if_true, if_false, n_lit, c135b]
  rw [bw_0 (by omega), nzb]
  simp only [aPush_s, aPush_n, vrf_s, vrf_n, true_and, and_true, false_and, and_false, true_imp_iff, false_imp_iff, not_true_eq_false, not_false_eq_true, eq_self, true_or, or_true, and_self, if_true, if_false]
theorem c138 {x : Int32} : RM (d + 1) 138 [.int x] (S, I, R, z) Q = Q (some (.int (if x < 0 then -1000000005 else x))) (S, I, R, z) := by
  by_cases h : x < 0
  · simp only [e138, w138_0, w138_1, w138_4, w138_6, w138_9, w138_10, aPush_s, aPush_n, vrf_s, vrf_n, true_and, and_true, false_and, and_false, true_imp_iff, false_imp_iff, not_true_eq_false, not_false_eq_true, eq_self, true_or, or_true, and_self, if_true, if_false, ← Int32.not_lt, h]
  · simp only [e138, w138_0, w138_1, w138_4, w138_6, w138_9, w138_10, aPush_s, aPush_n, vrf_s, vrf_n, true_and, and_true, false_and, and_false, true_imp_iff, false_imp_iff, not_true_eq_false, not_false_eq_true, eq_self, true_or, or_true, and_self, if_true, if_false, ← Int32.not_lt, h]
/-- what the object's methods stand on -/
def Hr (S : Nat → Nat × Nat) (I : Nat → Nat → Int32) (R : Nat → Nat → Option Nat) (g : Nat → Nat) : Prop := Hd S R ∧ Cs S I R 17 g
theorem c122 {x : Int32} (hh : Hr S I R g) : RM (d + 1) 122 [.ref 16, .int x] (S, I, R, z) Q = Q (some (.int (nI (b2n (inN x (g 1)))))) (S, I, R, z) := by
  obtain ⟨⟨Hd_s16, Hd_s52, Hd_s53, Hd_s54, Hd_s55, Hd_s56, Hd_s57, Hd_s50, Hd_s51, Hd_s0, Hd_r16_0, Hd_r16_1, Hd_r16_2, Hd_r16_3, Hd_r16_4, Hd_r16_5, Hd_r16_6, Hd_r16_7, Hd_r54_0, Hd_r54_6, Hd_r50_0⟩, hs⟩ := hh
  obtain ⟨hr, ⟨Sd_sr, Sd_s_r___1_, Sd_s_r___2_, Sd_s_r___3_, Sd_s_r___4_, Sd_s_r___5_, Sd_s_r___6_, Sd_s_r___7_, Sd_s_r___8_, Sd_s_r___9_, Sd_s_r___10_, Sd_rr_0, Sd_rr_1, Sd_rr_2, Sd_rr_4, Sd_rr_5, Sd_rr_12, Sd_rr_14, Sd_rr_15, Sd_rr_16, Sd_rr_17⟩, ok, ⟨n3, n6, n7, n8, n9, n10, n11, n13⟩, ⟨a1, a2, a3, a4, a5, a7⟩, ct⟩ := id hs
  unfold inN
  by_cases h1 : x < nI 0
  · simp (disch := omega) only [e122, w122_0, w122_1, w122_4, w122_5, w122_6, w122_9, w122_12, w122_15, w122_16, w122_19, w122_20, Hd_s16, Hd_s52, Hd_s53, Hd_s54, Hd_s55, Hd_s56, Hd_s57, Hd_s50, Hd_s51, Hd_s0, Hd_r16_0, Hd_r16_1, Hd_r16_2, Hd_r16_3, Hd_r16_4, Hd_r16_5, Hd_r16_6, Hd_r16_7, Hd_r54_0, Hd_r54_6, Hd_r50_0, Sd_sr, Sd_s_r___1_, Sd_s_r___2_, Sd_s_r___3_, Sd_s_r___4_, Sd_s_r___5_, Sd_s_r___6_, Sd_s_r___7_, Sd_s_r___8_, Sd_s_r___9_, Sd_s_r___10_, Sd_rr_0, Sd_rr_1, Sd_rr_2, Sd_rr_4, Sd_rr_5, Sd_rr_12, Sd_rr_14, Sd_rr_15, Sd_rr_16, Sd_rr_17, n3, n6, n7, n8, n9, n10, n11, n13, aPush_s, aPush_n, vrf_s, vrf_n, true_and, and_true, false_and, and_false, true_imp_iff, false_imp_iff, not_true_eq_false, not_false_eq_true, eq_self, true_or, or_true, and_self, if_true, if_false, n_lit, ← Int32.not_lt, h1, decide_true, Bool.not_true, Bool.false_and, b2n_f, nz0]
  · by_cases h2 : x < nI (g 1)
    · simp (disch := omega) only [e122, w122_0, w122_1, w122_4, w122_5, w122_6, w122_9, w122_12, w122_15, w122_16, w122_19, w122_20, Hd_s16, Hd_s52, Hd_s53, Hd_s54, Hd_s55, Hd_s56, Hd_s57, Hd_s50, Hd_s51, Hd_s0, Hd_r16_0, Hd_r16_1, Hd_r16_2, Hd_r16_3, Hd_r16_4, Hd_r16_5, Hd_r16_6, Hd_r16_7, Hd_r54_0, Hd_r54_6, Hd_r50_0, Sd_sr, Sd_s_r___1_, Sd_s_r___2_, Sd_s_r___3_, Sd_s_r___4_, Sd_s_r___5_, Sd_s_r___6_, Sd_s_r___7_, Sd_s_r___8_, Sd_s_r___9_, Sd_s_r___10_, Sd_rr_0, Sd_rr_1, Sd_rr_2, Sd_rr_4, Sd_rr_5, Sd_rr_12, Sd_rr_14, Sd_rr_15, Sd_rr_16, Sd_rr_17, n3, n6, n7, n8, n9, n10, n11, n13, aPush_s, aPush_n, vrf_s, vrf_n, true_and, and_true, false_and, and_false, true_imp_iff, false_imp_iff, not_true_eq_false, not_false_eq_true, eq_self, true_or, or_true, and_self, if_true, if_false, n_lit, ← Int32.not_lt, h1, h2, decide_true, decide_false, Bool.not_false, Bool.true_and, b2n_t, nz1]
    · simp (disch := omega) only [e122, w122_0, w122_1, w122_4, w122_5, w122_6, w122_9, w122_12, w122_15, w122_16, w122_19, w122_20, Hd_s16, Hd_s52, Hd_s53, Hd_s54, Hd_s55, Hd_s56, Hd_s57, Hd_s50, Hd_s51, Hd_s0, Hd_r16_0, Hd_r16_1, Hd_r16_2, Hd_r16_3, Hd_r16_4, Hd_r16_5, Hd_r16_6, Hd_r16_7, Hd_r54_0, Hd_r54_6, Hd_r50_0, Sd_sr, Sd_s_r___1_, Sd_s_r___2_, Sd_s_r___3_, Sd_s_r___4_, Sd_s_r___5_, Sd_s_r___6_, Sd_s_r___7_, Sd_s_r___8_, Sd_s_r___9_, Sd_s_r___10_, Sd_rr_0, Sd_rr_1, Sd_rr_2, Sd_rr_4, Sd_rr_5, Sd_rr_12, Sd_rr_14, Sd_rr_15, Sd_rr_16, Sd_rr_17, n3, n6, n7, n8, n9, n10, n11, n13, aPush_s, aPush_n, vrf_s, vrf_n, true_and, and_true, false_and, and_false, true_imp_iff, false_imp_iff, not_true_eq_false, not_false_eq_true, eq_self, true_or, or_true, and_self, if_true, if_false, n_lit, ← Int32.not_lt, h1, h2, decide_false, Bool.not_false, Bool.and_false, b2n_f, nz0]
theorem c123 {x : Int32} (hh : Hr S I R g) : RM (d + 1) 123 [.ref 16, .int x] (S, I, R, z) Q = Q (some (.int (nI (b2n (inN x (g 2)))))) (S, I, R, z) := by
  obtain ⟨⟨Hd_s16, Hd_s52, Hd_s53, Hd_s54, Hd_s55, Hd_s56, Hd_s57, Hd_s50, Hd_s51, Hd_s0, Hd_r16_0, Hd_r16_1, Hd_r16_2, Hd_r16_3, Hd_r16_4, Hd_r16_5, Hd_r16_6, Hd_r16_7, Hd_r54_0, Hd_r54_6, Hd_r50_0⟩, hs⟩ := hh
  obtain ⟨hr, ⟨Sd_sr, Sd_s_r___1_, Sd_s_r___2_, Sd_s_r___3_, Sd_s_r___4_, Sd_s_r___5_, Sd_s_r___6_, Sd_s_r___7_, Sd_s_r___8_, Sd_s_r___9_, Sd_s_r___10_, Sd_rr_0, Sd_rr_1, Sd_rr_2, Sd_rr_4, Sd_rr_5, Sd_rr_12, Sd_rr_14, Sd_rr_15, Sd_rr_16, Sd_rr_17⟩, ok, ⟨n3, n6, n7, n8, n9, n10, n11, n13⟩, ⟨a1, a2, a3, a4, a5, a7⟩, ct⟩ := id hs
  unfold inN
  by_cases h1 : x < nI 0
  · simp (disch := omega) only [e123, w123_0, w123_1, w123_4, w123_5, w123_6, w123_9, w123_12, w123_15, w123_16, w123_19, w123_20, Hd_s16, Hd_s52, Hd_s53, Hd_s54, Hd_s55, Hd_s56, Hd_s57, Hd_s50, Hd_s51, Hd_s0, Hd_r16_0, Hd_r16_1, Hd_r16_2, Hd_r16_3, Hd_r16_4, Hd_r16_5, Hd_r16_6, Hd_r16_7, Hd_r54_0, Hd_r54_6, Hd_r50_0, Sd_sr, Sd_s_r___1_, Sd_s_r___2_, Sd_s_r___3_, Sd_s_r___4_, Sd_s_r___5_, Sd_s_r___6_, Sd_s_r___7_, Sd_s_r___8_, Sd_s_r___9_, Sd_s_r___10_, Sd_rr_0, Sd_rr_1, Sd_rr_2, Sd_rr_4, Sd_rr_5, Sd_rr_12, Sd_rr_14, Sd_rr_15, Sd_rr_16, Sd_rr_17, n3, n6, n7, n8, n9, n10, n11, n13, aPush_s, aPush_n, vrf_s, vrf_n, true_and, and_true, false_and, and_false, true_imp_iff, false_imp_iff, not_true_eq_false, not_false_eq_true, eq_self, true_or, or_true, and_self, if_true, if_false, n_lit, ← Int32.not_lt, h1, decide_true, Bool.not_true, Bool.false_and, b2n_f, nz0]
  · by_cases h2 : x < nI (g 2)
    · simp (disch := omega) only [e123, w123_0, w123_1, w123_4, w123_5, w123_6, w123_9, w123_12, w123_15, w123_16, w123_19, w123_20, Hd_s16, Hd_s52, Hd_s53, Hd_s54, Hd_s55, Hd_s56, Hd_s57, Hd_s50, Hd_s51, Hd_s0, Hd_r16_0, Hd_r16_1, Hd_r16_2, Hd_r16_3, Hd_r16_4, Hd_r16_5, Hd_r16_6, Hd_r16_7, Hd_r54_0, Hd_r54_6, Hd_r50_0, Sd_sr, Sd_s_r___1_, Sd_s_r___2_, Sd_s_r___3_, Sd_s_r___4_, Sd_s_r___5_, Sd_s_r___6_, Sd_s_r___7_, Sd_s_r___8_, Sd_s_r___9_, Sd_s_r___10_, Sd_rr_0, Sd_rr_1, Sd_rr_2, Sd_rr_4, Sd_rr_5, Sd_rr_12, Sd_rr_14, Sd_rr_15, Sd_rr_16, Sd_rr_17, n3, n6, n7, n8, n9, n10, n11, n13, aPush_s, aPush_n, vrf_s, vrf_n, true_and, and_true, false_and, and_false, true_imp_iff, false_imp_iff, not_true_eq_false, not_false_eq_true, eq_self, true_or, or_true, and_self, if_true, if_false, n_lit, ← Int32.not_lt, h1, h2, decide_true, decide_false, Bool.not_false, Bool.true_and, b2n_t, nz1]
    · simp (disch := omega) only [e123, w123_0, w123_1, w123_4, w123_5, w123_6, w123_9, w123_12, w123_15, w123_16, w123_19, w123_20, Hd_s16, Hd_s52, Hd_s53, Hd_s54, Hd_s55, Hd_s56, Hd_s57, Hd_s50, Hd_s51, Hd_s0, Hd_r16_0, Hd_r16_1, Hd_r16_2, Hd_r16_3, Hd_r16_4, Hd_r16_5, Hd_r16_6, Hd_r16_7, Hd_r54_0, Hd_r54_6, Hd_r50_0, Sd_sr, Sd_s_r___1_, Sd_s_r___2_, Sd_s_r___3_, Sd_s_r___4_, Sd_s_r___5_, Sd_s_r___6_, Sd_s_r___7_, Sd_s_r___8_, Sd_s_r___9_, Sd_s_r___10_, Sd_rr_0, Sd_rr_1, Sd_rr_2, Sd_rr_4, Sd_rr_5, Sd_rr_12, Sd_rr_14, Sd_rr_15, Sd_rr_16, Sd_rr_17, n3, n6, n7, n8, n9, n10, n11, n13, aPush_s, aPush_n, vrf_s, vrf_n, true_and, and_true, false_and, and_false, true_imp_iff, false_imp_iff, not_true_eq_false, not_false_eq_true, eq_self, true_or, or_true, and_self, if_true, if_false, n_lit, ← Int32.not_lt, h1, h2, decide_false, Bool.not_false, Bool.and_false, b2n_f, nz0]
theorem c124 {x : Int32} : RM (d + 1) 124 [.int x] (S, I, R, z) Q = Q (some (.int (nI (b2n (inN x 6))))) (S, I, R, z) := by
  unfold inN
  by_cases h1 : x < nI 0
  · simp only [e124, w124_0, w124_1, w124_4, w124_5, w124_7, w124_10, w124_11, w124_14, w124_15, aPush_s, aPush_n, vrf_s, vrf_n, true_and, and_true, false_and, and_false, true_imp_iff, false_imp_iff, not_true_eq_false, not_false_eq_true, eq_self, true_or, or_true, and_self, if_true, if_false, n_lit, ← Int32.not_lt, h1, decide_true, Bool.not_true, Bool.false_and, b2n_f, nz0]
  · by_cases h2 : x < nI 6
    · simp only [e124, w124_0, w124_1, w124_4, w124_5, w124_7, w124_10, w124_11, w124_14, w124_15, aPush_s, aPush_n, vrf_s, vrf_n, true_and, and_true, false_and, and_false, true_imp_iff, false_imp_iff, not_true_eq_false, not_false_eq_true, eq_self, true_or, or_true, and_self, if_true, if_false, n_lit, ← Int32.not_lt, h1, h2, decide_true, decide_false, Bool.not_false, Bool.true_and, b2n_t, nz1]
    · simp only [e124, w124_0, w124_1, w124_4, w124_5, w124_7, w124_10, w124_11, w124_14, w124_15, aPush_s, aPush_n, vrf_s, vrf_n, true_and, and_true, false_and, and_false, true_imp_iff, false_imp_iff, not_true_eq_false, not_false_eq_true, eq_self, true_or, or_true, and_self, if_true, if_false, n_lit, ← Int32.not_lt, h1, h2, decide_false, Bool.not_false, Bool.and_false, b2n_f, nz0]
theorem c126 {x : Int32} : RM (d + 1) 126 [.int x] (S, I, R, z) Q = Q (some (.int (nI (b2n (inN x 6))))) (S, I, R, z) := by
  unfold inN
  by_cases h1 : x < nI 0
  · simp only [e126, w126_0, w126_1, w126_4, w126_5, w126_7, w126_10, w126_11, w126_14, w126_15, aPush_s, aPush_n, vrf_s, vrf_n, true_and, and_true, false_and, and_false, true_imp_iff, false_imp_iff, not_true_eq_false, not_false_eq_true, eq_self, true_or, or_true, and_self, if_true, if_false, n_lit, ← Int32.not_lt, h1, decide_true, Bool.not_true, Bool.false_and, b2n_f, nz0]
  · by_cases h2 : x < nI 6
    · simp only [e126, w126_0, w126_1, w126_4, w126_5, w126_7, w126_10, w126_11, w126_14, w126_15, aPush_s, aPush_n, vrf_s, vrf_n, true_and, and_true, false_and, and_false, true_imp_iff, false_imp_iff, not_true_eq_false, not_false_eq_true, eq_self, true_or, or_true, and_self, if_true, if_false, n_lit, ← Int32.not_lt, h1, h2, decide_true, decide_false, Bool.not_false, Bool.true_and, b2n_t, nz1]
    · simp only [e126, w126_0, w126_1, w126_4, w126_5, w126_7, w126_10, w126_11, w126_14, w126_15, aPush_s, aPush_n, vrf_s, vrf_n, true_and, and_true, false_and, and_false, true_imp_iff, false_imp_iff, not_true_eq_false, not_false_eq_true, eq_self, true_or, or_true, and_self, if_true, if_false, n_lit, ← Int32.not_lt, h1, h2, decide_false, Bool.not_false, Bool.and_false, b2n_f, nz0]
theorem c127 {x : Int32} : RM (d + 1) 127 [.int x] (S, I, R, z) Q = Q (some (.int (nI (b2n (inN x 4))))) (S, I, R, z) := by
  unfold inN
  by_cases h1 : x < nI 0
  · simp only [e127, w127_0, w127_1, w127_4, w127_5, w127_6, w127_9, w127_10, w127_13, w127_14, aPush_s, aPush_n, vrf_s, vrf_n, true_and, and_true, false_and, and_false, true_imp_iff, false_imp_iff, not_true_eq_false, not_false_eq_true, eq_self, true_or, or_true, and_self, if_true, if_false, n_lit, ← Int32.not_lt, h1, decide_true, Bool.not_true, Bool.false_and, b2n_f, nz0]
  · by_cases h2 : x < nI 4
    · simp only [e127, w127_0, w127_1, w127_4, w127_5, w127_6, w127_9, w127_10, w127_13, w127_14, aPush_s, aPush_n, vrf_s, vrf_n, true_and, and_true, false_and, and_false, true_imp_iff, false_imp_iff, not_true_eq_false, not_false_eq_true, eq_self, true_or, or_true, and_self, if_true, if_false, n_lit, ← Int32.not_lt, h1, h2, decide_true, decide_false, Bool.not_false, Bool.true_and, b2n_t, nz1]
    · simp only [e127, w127_0, w127_1, w127_4, w127_5, w127_6, w127_9, w127_10, w127_13, w127_14, aPush_s, aPush_n, vrf_s, vrf_n, true_and, and_true, false_and, and_false, true_imp_iff, false_imp_iff, not_true_eq_false, not_false_eq_true, eq_self, true_or, or_true, and_self, if_true, if_false, n_lit, ← Int32.not_lt, h1, h2, decide_false, Bool.not_false, Bool.and_false, b2n_f, nz0]
theorem c128 {x : Int32} : RM (d + 1) 128 [.int x] (S, I, R, z) Q = Q (some (.int (nI (b2n (inN x 5))))) (S, I, R, z) := by
  unfold inN
  by_cases h1 : x < nI 0
  · simp only [e128, w128_0, w128_1, w128_4, w128_5, w128_6, w128_9, w128_10, w128_13, w128_14, aPush_s, aPush_n, vrf_s, vrf_n, true_and, and_true, false_and, and_false, true_imp_iff, false_imp_iff, not_true_eq_false, not_false_eq_true, eq_self, true_or, or_true, and_self, if_true, if_false, n_lit, ← Int32.not_lt, h1, decide_true, Bool.not_true, Bool.false_and, b2n_f, nz0]
  · by_cases h2 : x < nI 5
    · simp only [e128, w128_0, w128_1, w128_4, w128_5, w128_6, w128_9, w128_10, w128_13, w128_14, aPush_s, aPush_n, vrf_s, vrf_n, true_and, and_true, false_and, and_false, true_imp_iff, false_imp_iff, not_true_eq_false, not_false_eq_true, eq_self, true_or, or_true, and_self, if_true, if_false, n_lit, ← Int32.not_lt, h1, h2, decide_true, decide_false, Bool.not_false, Bool.true_and, b2n_t, nz1]
    · simp only [e128, w128_0, w128_1, w128_4, w128_5, w128_6, w128_9, w128_10, w128_13, w128_14, aPush_s, aPush_n, vrf_s, vrf_n, true_and, and_true, false_and, and_false, true_imp_iff, false_imp_iff, not_true_eq_false, not_false_eq_true, eq_self, true_or, or_true, and_self, if_true, if_false, n_lit, ← Int32.not_lt, h1, h2, decide_false, Bool.not_false, Bool.and_false, b2n_f, nz0]
theorem c125 {x : Int32} : RM (d + 1) 125 [.int x] (S, I, R, z) Q = Q (some (.int (nI (b2n (bw x (nI 1) (nI 99)))))) (S, I, R, z) := by
  unfold bw
  by_cases h1 : x < nI 1
  · simp only [e125, w125_0, w125_1, w125_2, w125_5, w125_6, w125_8, w125_11, w125_12, w125_15, w125_16, aPush_s, aPush_n, vrf_s, vrf_n, true_and, and_true, false_and, and_false, true_imp_iff, false_imp_iff, not_true_eq_false, not_false_eq_true, eq_self, true_or, or_true, and_self, if_true, if_false, n_lit, ← Int32.not_lt, h1, decide_true, Bool.not_true, Bool.false_and, b2n_f, nz0]
  · by_cases h2 : nI 99 < x
    · simp only [e125, w125_0, w125_1, w125_2, w125_5, w125_6, w125_8, w125_11, w125_12, w125_15, w125_16, aPush_s, aPush_n, vrf_s, vrf_n, true_and, and_true, false_and, and_false, true_imp_iff, false_imp_iff, not_true_eq_false, not_false_eq_true, eq_self, true_or, or_true, and_self, if_true, if_false, n_lit, ← Int32.not_lt, h1, h2, decide_true, decide_false, Bool.not_false, Bool.not_true, Bool.and_false, b2n_f, nz0]
    · simp only [e125, w125_0, w125_1, w125_2, w125_5, w125_6, w125_8, w125_11, w125_12, w125_15, w125_16, aPush_s, aPush_n, vrf_s, vrf_n, true_and, and_true, false_and, and_false, true_imp_iff, false_imp_iff, not_true_eq_false, not_false_eq_true, eq_self, true_or, or_true, and_self, if_true, if_false, n_lit, ← Int32.not_lt, h1, h2, decide_false, Bool.not_false, Bool.and_self, b2n_t, nz1]
/-- kinds under one another; worth -/
def sUnd (k o : Nat) : Bool := o == 0 || (k == o || ((o == 1 && k == 3) || (o == 2 && k == 4)))
def sWor (k f : Nat) : Nat := if k = 1 then f + 10 else if k = 2 then 50 - f else if k = 3 then 2 * (f + 10) else if k = 4 then 44 - f else if k = 5 then 1 else f
theorem c167 {k o : Nat} (hk : k ≤ 5) (ho : o ≤ 5) : RM (d + 1) 167 [.int (nI k), .int (nI o)] (S, I, R, z) Q = Q (some (.int (nI (b2n (sUnd k o))))) (S, I, R, z) := by
  have k5 : k = 0 ∨ k = 1 ∨ k = 2 ∨ k = 3 ∨ k = 4 ∨ k = 5 := by omega
  have o5 : o = 0 ∨ o = 1 ∨ o = 2 ∨ o = 3 ∨ o = 4 ∨ o = 5 := by omega
  rcases k5 with e | e | e | e | e | e <;> subst e <;> rcases o5 with e | e | e | e | e | e <;> subst e <;> simp (disch := omega) only [e167, w167_0, w167_1, w167_4, w167_5, w167_6, w167_9, w167_10, w167_11, w167_14, w167_15, w167_16, w167_19, w167_20, w167_21, w167_24, w167_25, w167_26, w167_29, w167_30, w167_33, w167_34, aPush_s, aPush_n, vrf_s, vrf_n, true_and, and_true, false_and, and_false, true_imp_iff, false_imp_iff, not_true_eq_false, not_false_eq_true, eq_self, true_or, or_true, and_self, if_true, if_false, n_lit, n_of, n_an, Nat.add_sub_cancel, nI_add, pk_mul, n_sub, n_ixT, n_cl, n_leT, n_leF, n_ltT, n_ltF, n_eqT, n_eqF, Nat.reduceAdd, Nat.reduceMul, Nat.reduceSub, Nat.reduceEqDiff, Nat.reduceLT, Nat.reduceLeDiff, Nat.mul_one, Nat.one_mul, Nat.add_zero, Nat.zero_add, nz0, nz1] <;> rfl
theorem c164 {a : Nat} (hm : Mr S I R) (ha : a < G I 2) : RM (d + 2) 164 [.ref 81, .int (nI a)] (S, I, R, z) Q = Q (some (.int (nI (sWor (G I (32 + 2 * a)) (G I (32 + 2 * a + 1)))))) (S, I, R, z) := by
  have ok := hm.2.2
  have ha8 : a < 8 := by have := ok.2.1; omega
  have hk := (ok.2.2.2.2.2.2.2.1 a ha).1
  have hf := (ok.2.2.2.2.2.2.2.1 a ha).2
  have k5 : G I (32 + 2 * a) = 0 ∨ G I (32 + 2 * a) = 1 ∨ G I (32 + 2 * a) = 2 ∨ G I (32 + 2 * a) = 3 ∨ G I (32 + 2 * a) = 4 ∨ G I (32 + 2 * a) = 5 := by omega
  rcases k5 with e | e | e | e | e | e <;> simp (disch := omega) only [e164, w164_0, w164_1, w164_2, w164_5, w164_6, w164_7, w164_8, w164_11, w164_44, w164_45, w164_47, w164_48, w164_49, w164_51, w164_52, w164_53, w164_54, w164_55, w164_56, w164_58, w164_59, w164_60, w164_61, w164_63, w164_64, w164_65, w164_66, w164_67, w164_68, w164_69, aTsR, hm.1.2.1, aPush_s, aPush_n, vrf_s, vrf_n, true_and, and_true, false_and, and_false, true_imp_iff, false_imp_iff, not_true_eq_false, not_false_eq_true, eq_self, true_or, or_true, and_self, if_true, if_false, n_lit, n_of, n_an, Nat.add_sub_cancel, nI_add, pk_mul, n_sub, n_ixT, n_cl, n_leT, n_leF, n_ltT, n_ltF, n_eqT, n_eqF, Nat.reduceAdd, Nat.reduceMul, Nat.reduceSub, Nat.reduceEqDiff, Nat.reduceLT, Nat.reduceLeDiff, Nat.mul_one, Nat.one_mul, Nat.add_zero, Nat.zero_add, c155 hm ha8, c156 hm ha8, e] <;> rfl
theorem c132 {k f : Nat} (hk : k ≤ 5) (hf : f ≤ 5) : RM (d + 1) 132 [.int (nI k), .int (nI f)] (S, I, R, z) Q = Q (some (.int (nI (sWor k f)))) (S, I, R, z) := by
  have k5 : k = 0 ∨ k = 1 ∨ k = 2 ∨ k = 3 ∨ k = 4 ∨ k = 5 := by omega
  rcases k5 with e | e | e | e | e | e <;> subst e <;> simp (disch := omega) only [e132, w132_0, w132_1, w132_36, w132_37, w132_39, w132_40, w132_41, w132_42, w132_43, w132_45, w132_46, w132_47, w132_48, w132_50, w132_51, w132_52, w132_53, w132_55, w132_56, w132_57, w132_59, w132_60, w132_61, w132_62, w132_63, w132_64, aTsR, aPush_s, aPush_n, vrf_s, vrf_n, true_and, and_true, false_and, and_false, true_imp_iff, false_imp_iff, not_true_eq_false, not_false_eq_true, eq_self, true_or, or_true, and_self, if_true, if_false, n_lit, n_of, n_an, Nat.add_sub_cancel, nI_add, pk_mul, n_sub, n_ixT, n_cl, n_leT, n_leF, n_ltT, n_ltF, n_eqT, n_eqF, Nat.reduceAdd, Nat.reduceMul, Nat.reduceSub, Nat.reduceEqDiff, Nat.reduceLT, Nat.reduceLeDiff, Nat.mul_one, Nat.one_mul, Nat.add_zero, Nat.zero_add]
  · rfl
  · rfl
  · rfl
  · rfl
  · rw [show sWor 4 f = 50 - f - 6 from (show 44 - f = 50 - f - 6 by omega)]
  · rfl
/-- KIND_ABOVE -/
def Kb (S : Nat → Nat × Nat) (I : Nat → Nat → Int32) : Prop := S 0 = (9, 6) ∧ I 0 0 = -nI 1 ∧ I 0 1 = nI 0 ∧ I 0 2 = nI 0 ∧ I 0 3 = nI 1 ∧ I 0 4 = nI 2 ∧ I 0 5 = nI 0
theorem inN_m1 (n : Nat) : inN (-nI 1) n = false := by
  unfold inN
  rw [decide_eq_true (show -nI 1 < nI 0 by decide)]
  rfl
theorem inN_6 : inN (nI 0) 6 = true ∧ inN (nI 1) 6 = true ∧ inN (nI 2) 6 = true ∧ inN (nI 3) 6 = true ∧ inN (nI 4) 6 = true ∧ inN (nI 5) 6 = true := by decide
theorem s131 {a o i : Nat} {l0 : Value} (hS : S 0 = (9, 6)) (ha : a ≤ 5) (ho : o ≤ 5) (hi : i < 6) (hin : inN (nI a) 6 = true) : RB (d + 1) 131 4 [l0, .int (nI o), .int (nI a), .int (nI i)] [] (S, I, R, z) Q = if a = o then Q (some (.int (nI 1))) (S, I, R, z) else RB (d + 1) 131 4 [l0, .int (nI o), .int (I 0 a), .int (nI (i + 1))] [] (S, I, R, z) Q := by
  rw [w131_4]
  by_cases e : a = o
  · rw [if_pos e]
    subst e
    simp (disch := omega) only [w131_0, w131_1, w131_2, w131_3, w131_5, w131_7, w131_10, w131_11, w131_14, w131_17, w131_18, w131_19, w131_22, w131_23, w131_24, w131_27, w131_28, w131_29, w131_30, w131_33, w131_36, w131_37, c126, aPush_s, aPush_n, vrf_s, vrf_n, true_and, and_true, false_and, and_false, true_imp_iff, false_imp_iff, not_true_eq_false, not_false_eq_true, eq_self, true_or, or_true, and_self, if_true, if_false, n_lit, n_of, n_an, Nat.add_sub_cancel, nI_add, pk_mul, n_sub, n_ixT, n_cl, n_leT, n_leF, n_ltT, n_ltF, n_eqT, n_eqF, Nat.reduceAdd, Nat.reduceMul, Nat.reduceSub, Nat.reduceEqDiff, Nat.reduceLT, Nat.reduceLeDiff, Nat.mul_one, Nat.one_mul, Nat.add_zero, Nat.zero_add, nz0, nz1, hin, b2n_t]
  · rw [if_neg e]
    simp (disch := omega) only [w131_0, w131_1, w131_2, w131_3, w131_5, w131_7, w131_10, w131_11, w131_14, w131_17, w131_18, w131_19, w131_22, w131_23, w131_24, w131_27, w131_28, w131_29, w131_30, w131_33, w131_36, w131_37, c126, aPush_s, aPush_n, vrf_s, vrf_n, true_and, and_true, false_and, and_false, true_imp_iff, false_imp_iff, not_true_eq_false, not_false_eq_true, eq_self, true_or, or_true, and_self, if_true, if_false, n_lit, n_of, n_an, Nat.add_sub_cancel, nI_add, pk_mul, n_sub, n_ixT, n_cl, n_leT, n_leF, n_ltT, n_ltF, n_eqT, n_eqF, Nat.reduceAdd, Nat.reduceMul, Nat.reduceSub, Nat.reduceEqDiff, Nat.reduceLT, Nat.reduceLeDiff, Nat.mul_one, Nat.one_mul, Nat.add_zero, Nat.zero_add, nz0, nz1, hin, b2n_t, hS, e]
theorem t131 {o i : Nat} {l0 : Value} (hi : i < 6) : RB (d + 1) 131 4 [l0, .int (nI o), .int (-nI 1), .int (nI i)] [] (S, I, R, z) Q = Q (some (.int (nI 0))) (S, I, R, z) := by
  rw [w131_4]
  simp (disch := omega) only [w131_0, w131_1, w131_2, w131_3, w131_5, w131_7, w131_10, w131_11, w131_14, w131_17, w131_18, w131_19, w131_22, w131_23, w131_24, w131_27, w131_28, w131_29, w131_30, w131_33, w131_36, w131_37, c126, aPush_s, aPush_n, vrf_s, vrf_n, true_and, and_true, false_and, and_false, true_imp_iff, false_imp_iff, not_true_eq_false, not_false_eq_true, eq_self, true_or, or_true, and_self, if_true, if_false, n_lit, n_of, n_an, Nat.add_sub_cancel, nI_add, pk_mul, n_sub, n_ixT, n_cl, n_leT, n_leF, n_ltT, n_ltF, n_eqT, n_eqF, Nat.reduceAdd, Nat.reduceMul, Nat.reduceSub, Nat.reduceEqDiff, Nat.reduceLT, Nat.reduceLeDiff, Nat.mul_one, Nat.one_mul, Nat.add_zero, Nat.zero_add, nz0, nz1, inN_m1, b2n_f]
theorem c131 {k o : Nat} (hb : Kb S I) (hk : k ≤ 5) (ho : o ≤ 5) : RM (d + 2) 131 [.int (nI k), .int (nI o)] (S, I, R, z) Q = Q (some (.int (nI (b2n (sUnd k o))))) (S, I, R, z) := by
  obtain ⟨hS, i0, i1, i2, i3, i4, i5⟩ := hb
  obtain ⟨q0, q1, q2, q3, q4, q5⟩ := inN_6
  have k5 : k = 0 ∨ k = 1 ∨ k = 2 ∨ k = 3 ∨ k = 4 ∨ k = 5 := by omega
  have o5 : o = 0 ∨ o = 1 ∨ o = 2 ∨ o = 3 ∨ o = 4 ∨ o = 5 := by omega
  rcases k5 with e | e | e | e | e | e <;> subst e <;> simp only [e131, w131_0, w131_1, w131_2, w131_3, w131_5, w131_7, w131_10, w131_11, w131_14, w131_17, w131_18, w131_19, w131_22, w131_23, w131_24, w131_27, w131_28, w131_29, w131_30, w131_33, w131_36, w131_37, aPush_s, aPush_n, vrf_s, vrf_n, true_and, and_true, false_and, and_false, true_imp_iff, false_imp_iff, not_true_eq_false, not_false_eq_true, eq_self, true_or, or_true, and_self, if_true, if_false, n_lit, n_of, n_an, Nat.add_sub_cancel, nI_add, pk_mul, n_sub, n_ixT, n_cl, n_leT, n_leF, n_ltT, n_ltF, n_eqT, n_eqF, Nat.reduceAdd, Nat.reduceMul, Nat.reduceSub, Nat.reduceEqDiff, Nat.reduceLT, Nat.reduceLeDiff, Nat.mul_one, Nat.one_mul, Nat.add_zero, Nat.zero_add]
  · rw [s131 hS (by decide) ho (by decide) q0, i0, t131 (by decide)]
    rcases o5 with e | e | e | e | e | e <;> subst e <;> rfl
  · rw [s131 hS (by decide) ho (by decide) q1, i1, s131 hS (by decide) ho (by decide) q0, i0, t131 (by decide)]
    rcases o5 with e | e | e | e | e | e <;> subst e <;> rfl
  · rw [s131 hS (by decide) ho (by decide) q2, i2, s131 hS (by decide) ho (by decide) q0, i0, t131 (by decide)]
    rcases o5 with e | e | e | e | e | e <;> subst e <;> rfl
  · rw [s131 hS (by decide) ho (by decide) q3, i3, s131 hS (by decide) ho (by decide) q1, i1, s131 hS (by decide) ho (by decide) q0, i0, t131 (by decide)]
    rcases o5 with e | e | e | e | e | e <;> subst e <;> rfl
  · rw [s131 hS (by decide) ho (by decide) q4, i4, s131 hS (by decide) ho (by decide) q2, i2, s131 hS (by decide) ho (by decide) q0, i0, t131 (by decide)]
    rcases o5 with e | e | e | e | e | e <;> subst e <;> rfl
  · rw [s131 hS (by decide) ho (by decide) q5, i5, s131 hS (by decide) ho (by decide) q0, i0, t131 (by decide)]
    rcases o5 with e | e | e | e | e | e <;> subst e <;> rfl
theorem c142 {k v : Nat} (hm : Mr S I R) (hk : k < 1420) (hQ : ∀ J, Sg I (gu (G I) k (uN (nI v))) J → Q (some (.int (nI (G I k)))) (S, J, R, z)) : RM (d + 1) 142 [.ref 81, .int (nI k), .int (nI v)] (S, I, R, z) Q := by
  obtain ⟨⟨Md_s1, Md_s81, Md_s82, Md_s83, Md_s84, Md_s85, Md_s86, Md_s87, Md_s88, Md_s89, Md_s90, Md_s91, Md_s92, Md_s93, Md_s94, Md_s95, Md_s96, Md_s97, Md_s98, Md_s99, Md_s100, Md_s101, Md_s102, Md_r81_0, Md_r81_1, Md_r81_2, Md_r81_4, Md_r81_5, Md_r81_13, Md_r81_14, Md_r81_15, Md_r81_18, Md_r81_20, Md_r81_21, Md_r81_22, Md_r81_23, Md_r81_24, Md_r81_25, Md_r81_26, Md_r81_27, Md_r81_28, Md_r81_29, Md_r81_30, Md_r81_31⟩, hc, ok⟩ := id hm
  simp (disch := omega) only [e142, w142_0, w142_1, w142_4, w142_5, w142_6, w142_7, w142_8, w142_11, w142_12, w142_13, w142_14, w142_15, Md_s1, Md_s81, Md_s82, Md_s83, Md_s84, Md_s85, Md_s86, Md_s87, Md_s88, Md_s89, Md_s90, Md_s91, Md_s92, Md_s93, Md_s94, Md_s95, Md_s96, Md_s97, Md_s98, Md_s99, Md_s100, Md_s101, Md_s102, Md_r81_0, Md_r81_1, Md_r81_2, Md_r81_4, Md_r81_5, Md_r81_13, Md_r81_14, Md_r81_15, Md_r81_18, Md_r81_20, Md_r81_21, Md_r81_22, Md_r81_23, Md_r81_24, Md_r81_25, Md_r81_26, Md_r81_27, Md_r81_28, Md_r81_29, Md_r81_30, Md_r81_31, aPush_s, aPush_n, vrf_s, vrf_n, true_and, and_true, false_and, and_false, true_imp_iff, false_imp_iff, not_true_eq_false, not_false_eq_true, eq_self, true_or, or_true, and_self, if_true, if_false, n_lit, n_cl, n_ixT, G_eq I, Nat.reduceLeDiff]
  exact hQ _ ⟨G_w82, fun q a _ _ => aW_o a⟩
end
