/-! TEXT: text, both sides -/
section
variable {sc : (Nat × Nat) × (Nat → Int32)} {d n m r t u len k c a : Nat} {T : Nat → Nat} {g g' : Nat → Nat} {cc : Nat → Int32} {S S' : Nat → Nat × Nat} {I J K : Nat → Nat → Int32} {R R' : Nat → Nat → Option Nat} {z : Nat × Nat}
/-- the row with one text more -/
def Gt (g g' : Nat → Nat) (c k a len : Nat) (cc : Nat → Int32) : Prop := c < 14 ∧ g 7 = c ∧ g' 7 = c + 1 ∧ g' (48 + 2 * c) = 1000 * k + len ∧ g' (48 + 2 * c + 1) = a ∧ (∀ j, j < len → sCode g' c j = cc j) ∧ ∀ j, j ≠ 7 → j ≠ 48 + 2 * c → j ≠ 48 + 2 * c + 1 → (j < 76 + 96 * c ∨ 76 + 96 * c + len ≤ j) → g' j = g j
theorem Gt.key {t0 : Nat} (h : Gt g g' c k a len cc) (ht : t0 < c) : sKey g' t0 = sKey g t0 ∧ sLen g' t0 = sLen g t0 := by
  obtain ⟨h1, h2, h3, h4, h5, h6, h7⟩ := h
  unfold sKey sLen
  rw [h7 (48 + 2 * t0) (by omega) (by omega) (by omega) (by omega)]
  exact ⟨rfl, rfl⟩
theorem Gt.code {t0 j : Nat} (h : Gt g g' c k a len cc) (ht : t0 < c) (hj : j < 96) : sCode g' t0 j = sCode g t0 j := by
  obtain ⟨h1, h2, h3, h4, h5, h6, h7⟩ := h
  unfold sCode
  rw [h7 (76 + 96 * t0 + j) (by omega) (by omega) (by omega) (by omega)]
theorem Gt.ok (h : Gt g g' c k a len cc) (ok : Ok g) (hk : k < 3) (hl : len ≤ 96) (oc : oC cc len (sNm k)) : Ok g' := by
  have hkey := fun t0 => h.key (t0 := t0)
  have hcode := fun t0 j => h.code (t0 := t0) (j := j)
  obtain ⟨h1, h2, h3, h4, h5, h6, h7⟩ := h
  obtain ⟨o1, o2, o3, o4, o5, o6, o7, o8, o9⟩ := ok
  have e : ∀ j, j < 48 → j ≠ 7 → g' j = g j := fun j q1 q2 => h7 j q2 (by omega) (by omega) (by omega)
  refine ⟨?_, ?_, ?_, ?_, ?_, ?_, ?_, ?_, ?_⟩
  · rw [e 1 (by decide) (by decide)]; exact o1
  · rw [e 2 (by decide) (by decide)]; exact o2
  · rw [e 3 (by decide) (by decide), e 5 (by decide) (by decide), e 1 (by decide) (by decide)]; exact o3
  · rw [e 4 (by decide) (by decide)]; exact o4
  · rw [e 6 (by decide) (by decide)]; exact o5
  · omega
  · intro w hw
    rw [e 1 (by decide) (by decide)] at hw
    rw [e _ (by omega) (by omega), e _ (by omega) (by omega)]
    exact o7 w hw
  · intro w hw
    rw [e 2 (by decide) (by decide)] at hw
    rw [e _ (by omega) (by omega), e _ (by omega) (by omega)]
    exact o8 w hw
  · intro t0 ht0
    by_cases et : t0 = c
    · subst et
      obtain ⟨q1, q2⟩ := sKey_c hk hl h4
      rw [q1, q2]
      exact ⟨by omega, oC_cong h6 oc⟩
    · have ht : t0 < c := by omega
      have o := o9 t0 (by omega)
      obtain ⟨q1, q2⟩ := hkey t0 ht
      rw [q1, q2, h7 (48 + 2 * t0) (by omega) (by omega) (by omega) (by omega)]
      exact ⟨o.1, oC_cong (fun j hj => hcode t0 j ht (by have := o.2.1; omega)) o.2⟩
theorem Cs.tx (hs : Cs S I R 17 g) (h : Gt g g' c k a len cc) (hk : k < 3) (hl : len ≤ 96) (oc : oC cc len (sNm k))
    (hI : ∀ q, q ≠ 17 → q ≠ 24 → ((17 ≤ q ∧ q ≤ 24) ∨ 103 ≤ q) → J q = I q) (h17 : ∀ j, j ≠ 13 → J 17 j = I 17 j) (j13 : J 17 13 = nI (c + 1)) (h24 : ∀ j, j ≠ k → J 24 j = I 24 j) (j24 : J 24 k = nI c)
    (hR : ∀ q, q ≠ 23 → R' q = R q) (r23 : ∀ j, j ≠ c → R' 23 j = R 23 j) (r23c : R' 23 c = some t) (ht : 103 ≤ t) (s1 : S t = (4, 3)) (s2 : S (t + 1) = (9, len)) (r2 : R t 2 = some (t + 1)) (i0 : I t 0 = nI k) (i1 : I t 1 = nI a) (ij : ∀ j, j < len → I (t + 1) j = tr (cc j)) : Cs S J R' 17 g' := by
  have ok' := h.ok hs.2.2.1 hk hl oc
  have hkey := fun t0 => h.key (t0 := t0)
  have hcode := fun t0 j => h.code (t0 := t0) (j := j)
  obtain ⟨h1, h2, h3, h4, h5, h6, h7⟩ := h
  obtain ⟨hr, sd, ok, ⟨n3, n6, n7, n8, n9, n10, n11, n13⟩, ⟨a1, a2, a3, a4, a5, a7⟩, ct⟩ := hs
  have hsub := ok
  obtain ⟨o1, o2, o3, o4, o5, o6, o7, o8, o9⟩ := ok
  have e : ∀ j, j < 48 → j ≠ 7 → g' j = g j := fun j q1 q2 => h7 j q2 (by omega) (by omega) (by omega)
  refine ⟨hr, ?_, ok', ⟨?_, ?_, ?_, ?_, ?_, ?_, ?_, ?_⟩, ⟨?_, ?_, ?_, ?_, ?_, ?_⟩, ?_⟩
  · unfold Sd at sd ⊢
    rw [hR 17 (by decide)]
    exact sd
  · rw [h17 3 (by decide), e 1 (by decide) (by decide)]; exact n3
  · rw [h17 6 (by decide), e 2 (by decide) (by decide)]; exact n6
  · rw [h17 7 (by decide), e 3 (by decide) (by decide)]; exact n7
  · rw [h17 8 (by decide), e 4 (by decide) (by decide)]; exact n8
  · rw [h17 9 (by decide), e 5 (by decide) (by decide)]; exact n9
  · rw [h17 10 (by decide), e 6 (by decide) (by decide)]; exact n10
  · rw [h17 11 (by decide), e 0 (by decide) (by decide)]; exact n11
  · rw [j13, h3]
  · intro w hw
    rw [e 1 (by decide) (by decide)] at hw
    rw [hI _ (by decide) (by decide) (by decide), e _ (by omega) (by omega)]
    exact a1 w hw
  · intro w hw
    rw [e 1 (by decide) (by decide)] at hw
    unfold sW
    rw [hI _ (by decide) (by decide) (by decide), e _ (by omega) (by omega)]
    exact a2 w hw
  · intro w hw l hl
    rw [e 1 (by decide) (by decide)] at hw
    rw [hI _ (by decide) (by decide) (by decide), sPl_cong (e _ (by omega) (by omega))]
    exact a3 w hw l hl
  · intro w hw
    rw [e 2 (by decide) (by decide)] at hw
    rw [hI _ (by decide) (by decide) (by decide), e _ (by omega) (by omega)]
    exact a4 w hw
  · intro w hw
    rw [e 2 (by decide) (by decide)] at hw
    rw [hI _ (by decide) (by decide) (by decide), e _ (by omega) (by omega)]
    exact a5 w hw
  · intro k' hk'
    rw [h3]
    have a7 := a7 k' hk'
    rw [h2] at a7
    obtain ⟨q1, q2⟩ := sKey_c hk hl h4
    have es : sCt g' k' (c + 1) = if k = k' then some c else sCt g k' c := by
      show (if sKey g' c = k' then some c else sCt g' k' c) = _
      rw [q1, sCt_cong (fun t0 ht0 => (hkey t0 ht0).1)]
    rw [es]
    by_cases ek : k = k'
    · subst ek
      rw [if_pos rfl]
      exact j24
    · rw [if_neg ek, show (17 + 7 : Nat) = 24 from rfl, h24 k' (fun q => ek q.symm)]
      exact a7
  · intro t0 ht0
    rw [h3] at ht0
    by_cases et : t0 = c
    · subst et
      obtain ⟨q1, q2⟩ := sKey_c hk hl h4
      refine ⟨t, r23c, ht, s1, ?_, ?_, ?_, ?_, fun j hj => ?_⟩
      · rw [q2]; exact s2
      · rw [hR t (by omega)]; exact r2
      · rw [hI t (by omega) (by omega) (Or.inr ht), q1]; exact i0
      · rw [hI t (by omega) (by omega) (Or.inr ht), h5]; exact i1
      · rw [q2] at hj
        rw [hI (t + 1) (by omega) (by omega) (Or.inr (by omega)), h6 j hj]
        exact ij j hj
    · have ht1 : t0 < c := by omega
      obtain ⟨q1, q2⟩ := hkey t0 ht1
      obtain ⟨x, hx, t1, t2, t3, t4, t5, t6, t7⟩ := ct t0 (by omega)
      have o := o9 t0 (by omega)
      refine ⟨x, ?_, t1, t2, ?_, ?_, ?_, ?_, fun j hj => ?_⟩
      · show R' 23 t0 = _
        rw [r23 t0 et]; exact hx
      · rw [q2]; exact t3
      · rw [hR x (by omega)]; exact t4
      · rw [hI x (by omega) (by omega) (Or.inr t1), q1]; exact t5
      · rw [hI x (by omega) (by omega) (Or.inr t1), h7 (48 + 2 * t0 + 1) (by omega) (by omega) (by omega) (by omega)]; exact t6
      · rw [q2] at hj
        rw [hI (x + 1) (by omega) (by omega) (Or.inr (by omega)), hcode t0 j ht1 (by have := o.2.1; omega)]
        exact t7 j hj
theorem Inv.i47 (h : Inv sc n S I R z) (f : F47 I J) (j10 : J 54 10 = nI 0) (j11 : J 54 11 = nI 0) : Inv sc n S J R z := by
  obtain ⟨-, k, k96, ta1, ta2, ta3⟩ := h.ta
  have e : ∀ q, q ≠ 54 → q ≠ 56 → J q = I q := f.1
  refine h.ow (fun q hq => e q (by omega) (by omega)) (by rw [e 16 (by decide) (by decide)]) (by rw [e 81 (by decide) (by decide)]) (h.wa.cong (by rw [e 16 (by decide) (by decide)]) (by rw [e 81 (by decide) (by decide)]) (e 57 (by decide) (by decide)) (e 102 (by decide) (by decide))) ⟨⟨j10, j11⟩, k, k96, f.2.trans ta1, ?_, ?_⟩ (h.sh.cong (fun q hq => e q (by omega) (by omega))) (h.sl.cong (fun q hq => e q (by omega) (by omega)))
  · rw [e 81 (by decide) (by decide)]
    exact ta2
  · rw [e 55 (by decide) (by decide), e 86 (by decide) (by decide)]
    exact ta3
/-- the tape empty on the class's side -/
theorem Inv.txf (h : Inv sc n S I R z) (tq : Tq I T m) : Tq (aW I 54 1 (nI 0)) T m ∧ Kk (aW I 54 1 (nI 0)) ∧ (aW I 54 1 (nI 0)) 15 = sc.2 ∧ ∀ K, K 81 6 = nI 0 → FT (aW I 54 1 (nI 0)) K → Inv sc n S K R z := by
  obtain ⟨tz1, tz2⟩ := h.ta.1
  refine ⟨⟨tq.1, by rw [aW_o (by decide)]; exact tq.2.1, by rw [aW_o (by decide)]; exact tq.2.2.1, tq.2.2.2⟩, ?_, by rw [aW_o (by decide)]; exact h.1.2, fun K k6 fK => ?_⟩
  · have kk := h.kk
    unfold Kk
    rw [aW_o (by decide), aW_o (by decide)]
    exact kk
  · have e54 : K 54 = aW I 54 1 (nI 0) 54 := fK.1 54 (by decide) (by decide) (by decide) (by decide)
    refine h.tx (fun q q1 q2 q3 q4 q5 q6 => (fK.1 q q3 q4 q5 q6).trans (aW_o q1)) (fun j hj => (fK.2 j hj).trans (by rw [aW_o (by decide)])) ?_ ?_ ?_ k6
    · rw [e54, aW_e]
    · rw [e54, aW_i (by decide)]
      exact tz1
    · rw [e54, aW_i (by decide)]
      exact tz2
/-- both hold one text more -/
theorem Inv.add (h : Inv sc n S I R z) (hk : k < 3) (hl : len ≤ 96) (oc : oC cc len (sNm k)) (hg : Gt (G I) (G K) c k a len cc)
    (eK : ∀ q, q ≠ 17 → q ≠ 24 → q ≠ 54 → q ≠ 81 → q ≠ 82 → q ≠ 89 → q ≠ 90 → q ≠ 91 → K q = I q) (e81 : ∀ j, j < 6 ∨ 20 ≤ j → K 81 j = I 81 j)
    (h17 : ∀ j, j ≠ 13 → K 17 j = I 17 j) (j13 : K 17 13 = nI (c + 1)) (h24 : ∀ j, j ≠ k → K 24 j = I 24 j) (j24 : K 24 k = nI c)
    (k1 : K 54 1 = nI 0) (k10 : K 54 10 = nI 0) (k11 : K 54 11 = nI 0) (k6 : K 81 6 = nI 0)
    (ht : 103 ≤ t) (s1 : S t = (4, 3)) (s2 : S (t + 1) = (9, len)) (r2 : R t 2 = some (t + 1)) (i0 : I t 0 = nI k) (i1 : I t 1 = nI a) (ij : ∀ j, j < len → I (t + 1) j = tr (cc j)) : Inv sc n S K (aR R 23 c (some t)) z := by
  have hs := h.cs
  have hs' : Cs S K (aR R 23 c (some t)) 17 (G K) := hs.tx (t := t) hg hk hl oc (fun q q1 q2 q3 => eK q q1 q2 (by omega) (by omega) (by omega) (by omega) (by omega) (by omega)) h17 j13 h24 j24 (fun q hq => aR_o hq) (fun j hj => aR_i hj) aR_e ht s1 s2 r2 i0 i1 ij
  have e0 : ∀ q, q ≠ 17 → q ≠ 24 → q ≠ 54 → (q < 81 ∨ 91 < q ∨ (82 < q ∧ q < 89)) → K q = I q := fun q q1 q2 q3 q4 => eK q q1 q2 q3 (by omega) (by omega) (by omega) (by omega) (by omega)
  refine h.chR (fun q a _ _ => aR_o a) (fun q hq => e0 q (by omega) (by omega) (by omega) (by omega)) hs'.2.2.1 hs' (fun t0 ht0 => ?_) (h.t28.cong (aR_o (by decide))) ⟨?_, ?_⟩ (h.wa.cong ?_ (e81 32 (by decide)) ?_ ?_) ⟨⟨k10, k11⟩, 0, by decide, k1, k6, fun j hj => absurd hj (Nat.not_lt_zero _)⟩ (h.sh.cong (fun q hq => e0 q (by omega) (by omega) (by omega) (by omega))) (h.sl.cong (fun q hq => e0 q (by omega) (by omega) (by omega) (by omega)))
  · show aR R 23 c (some t) 23 t0 = none ∨ ∃ x, aR R 23 c (some t) 23 t0 = some x ∧ 103 ≤ x ∧ S x = (4, 3)
    by_cases et : t0 = c
    · subst et
      exact Or.inr ⟨t, aR_e, ht, s1⟩
    · rw [aR_i et]
      exact h.t17 t0 ht0
  · rw [e0 16 (by decide) (by decide) (by decide) (by decide), e81 3 (by decide)]
    exact h.im.1
  · rw [e81 3 (by decide)]
    rcases h.im.2 with q | q
    · exact Or.inl q
    · refine Or.inr ⟨q.1, ?_⟩
      have : Gi K = Gi I := by
        unfold Gi
        rw [e0 83 (by decide) (by decide) (by decide) (by decide)]
      rw [this]
      exact q.2.congR (fun q hq => e0 q (by omega) (by omega) (by omega) (by omega)) (fun q hq => aR_o (by omega))
  · rw [e0 16 (by decide) (by decide) (by decide) (by decide)]
  · exact e0 57 (by decide) (by decide) (by decide) (by decide)
  · exact e0 102 (by decide) (by decide) (by decide) (by decide)
end
