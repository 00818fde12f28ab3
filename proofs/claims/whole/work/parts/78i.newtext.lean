/-! TEXT: what holds of both objects behind a new text -/
section
variable {sc : (Nat × Nat) × (Nat → Int32)} {n r t u len k : Nat} {g g' : Nat → Nat} {S S' : Nat → Nat × Nat} {I J K : Nat → Nat → Int32} {R R' : Nat → Nat → Option Nat} {z : Nat × Nat}
/-- the same below t -/
def Bl (t : Nat) (S S' : Nat → Nat × Nat) (I J : Nat → Nat → Int32) (R R' : Nat → Nat → Option Nat) : Prop := (∀ q, q < t → S' q = S q) ∧ (∀ q, q < t → J q = I q) ∧ ∀ q, q < t → R' q = R q
theorem old4 {c : Nat} (fr : ∀ k, t ≤ k → S k = (99, 0)) {m : Nat} (h : S c = (4, m)) : c < t := by
  rcases Nat.lt_or_ge c t with q | q
  · exact q
  · rw [fr c q] at h
    cases h
theorem old9 {c : Nat} (fr : ∀ k, t ≤ k → S k = (99, 0)) {m : Nat} (h : S c = (9, m)) : c < t := by
  rcases Nat.lt_or_ge c t with q | q
  · exact q
  · rw [fr c q] at h
    cases h
theorem Tx.nu {t0 c : Nat} (h : Tx S I R g t0 c) (fr : ∀ k, t ≤ k → S k = (99, 0)) (b : Bl t S S' I J R R') : Tx S' J R' g t0 c ∧ c < t := by
  obtain ⟨t1, t2, t3, t4, t5, t6, t7⟩ := h
  have h1 := old4 fr t2
  have h2 := old9 fr t3
  refine ⟨⟨t1, ?_, ?_, ?_, ?_, ?_, fun k hk => ?_⟩, h1⟩
  · rw [b.1 _ h1]; exact t2
  · rw [b.1 _ h2]; exact t3
  · rw [b.2.2 _ h1]; exact t4
  · rw [b.2.1 _ h1]; exact t5
  · rw [b.2.1 _ h1]; exact t6
  · rw [b.2.1 _ h2]; exact t7 k hk
theorem Sd.nu (h : Sd S R r) (hr : r ≤ 39) (eS : ∀ q, q < 103 → S' q = S q) (eR : R' r = R r) : Sd S' R' r := by
  unfold Sd at h ⊢
  rw [eS r (by omega), eS (r + 1) (by omega), eS (r + 2) (by omega), eS (r + 3) (by omega), eS (r + 4) (by omega), eS (r + 5) (by omega), eS (r + 6) (by omega), eS (r + 7) (by omega), eS (r + 8) (by omega), eS (r + 9) (by omega), eS (r + 10) (by omega), eR]
  exact h
theorem Cs.nu (h : Cs S I R r g) (ht : 103 ≤ t) (fr : ∀ k, t ≤ k → S k = (99, 0)) (b : Bl t S S' I J R R') : Cs S' J R' r g := by
  obtain ⟨hr, sd, ok, cn, ⟨a1, a2, a3, a4, a5, a7⟩, ct⟩ := h
  refine ⟨hr, sd.nu hr.2 (fun q hq => b.1 q (by omega)) (b.2.2 r (by omega)), ok, ?_, ⟨?_, ?_, ?_, ?_, ?_, ?_⟩, ?_⟩
  · unfold Cn
    rw [b.2.1 r (by omega)]
    exact cn
  · rw [b.2.1 _ (by omega)]; exact a1
  · rw [b.2.1 _ (by omega)]; exact a2
  · rw [b.2.1 _ (by omega)]; exact a3
  · rw [b.2.1 _ (by omega)]; exact a4
  · rw [b.2.1 _ (by omega)]; exact a5
  · rw [b.2.1 _ (by omega)]; exact a7
  · intro t0 ht0
    obtain ⟨c, hc, tx⟩ := ct t0 ht0
    refine ⟨c, ?_, (tx.nu fr b).1⟩
    rw [b.2.2 _ (by omega)]
    exact hc
theorem Tr.nu (h : Tr S R r) (hr : r ≤ 39) (ht : 103 ≤ t) (fr : ∀ k, t ≤ k → S k = (99, 0)) (b : Bl t S S' I J R R') : Tr S' R' r := by
  intro t0 ht0
  rw [b.2.2 _ (by omega)]
  rcases h t0 ht0 with q | ⟨c, h1, h2, h3⟩
  · exact Or.inl q
  · exact Or.inr ⟨c, h1, h2, (b.1 c (old4 fr h3)).trans h3⟩
theorem Hd.nu (h : Hd S R) (eS : ∀ q, q < 103 → S' q = S q) (eR : ∀ q, q < 103 → R' q = R q) : Hd S' R' := by
  unfold Hd at h ⊢
  simp (disch := omega) only [eS, eR]
  exact h
theorem Md.nu (h : Md S R) (eS : ∀ q, q < 103 → S' q = S q) (eR : ∀ q, q < 103 → R' q = R q) : Md S' R' := by
  unfold Md at h ⊢
  simp (disch := omega) only [eS, eR]
  exact h
theorem Fs.nu (h : Fs S R) (eS : ∀ q, q < 103 → S' q = S q) (eR : ∀ q, q < 103 → R' q = R q) : Fs S' R' := by
  obtain ⟨h1, h2, h3, h4, h5, h6, h7⟩ := h
  refine ⟨h1.nu eS eR, h2.nu eS eR, h3.nu (by decide) eS (eR _ (by decide)), h4.nu (by decide) eS (eR _ (by decide)), h5.nu (by decide) eS (eR _ (by decide)), fun i hi => ?_, fun i hi => ?_⟩
  · rw [eS (58 + 2 * i) (by omega), eS (59 + 2 * i) (by omega), eR 52 (by omega), eR (58 + 2 * i) (by omega)]
    exact h6 i hi
  · rw [eS (66 + 3 * i) (by omega), eS (67 + 3 * i) (by omega), eS (68 + 3 * i) (by omega), eR 53 (by omega), eR (66 + 3 * i) (by omega), eR (67 + 3 * i) (by omega)]
    exact h7 i hi
theorem Kx.nu (h : Kx S I R) (eS : ∀ q, q < 103 → S' q = S q) (eI : ∀ q, q < 103 → J q = I q) (eR : ∀ q, q < 103 → R' q = R q) : Kx S' J R' := by
  obtain ⟨kb, ks, kk⟩ := h
  refine ⟨?_, fun i hi => ?_, ?_⟩
  · unfold Kb at kb ⊢
    rw [eS 0 (by decide), eI 0 (by decide)]
    exact kb
  · rw [eS (2 + i) (by omega), eR (2 + i) (by omega), eI (2 + i) (by omega), eS (8 + i) (by omega), eI (8 + i) (by omega)]
    exact ks i hi
  · unfold Kk
    rw [eI 87 (by decide), eI 88 (by decide)]
    exact kk
/-- two new cells -/
theorem Inv.nu (h : Inv sc n S I R (t, u)) (b : Bl t S S' I J R R') (hl : len ≤ 96) (h2 : ∀ k, t + 2 ≤ k → S' k = (99, 0)) : Inv sc (n + 1) S' J R' (t + 2, u + 3 + len) := by
  obtain ⟨⟨⟨p1, p2, p3⟩, p4⟩, ⟨r1, r2, r3, r4⟩, kx, fs, ⟨m1, m2, m3⟩, cs, ⟨t17, t28⟩, im, wa, ta, sh, sl⟩ := h
  have r1 : 103 ≤ t := r1
  have r2 : t ≤ 103 + 2 * n := r2
  have r3 : u ≤ 20000 + 99 * n := r3
  have r4 : ∀ k, t ≤ k → S k = (99, 0) := r4
  have eS : ∀ q, q < 103 → S' q = S q := fun q hq => b.1 q (by omega)
  have eI : ∀ q, q < 103 → J q = I q := fun q hq => b.2.1 q (by omega)
  have eR : ∀ q, q < 103 → R' q = R q := fun q hq => b.2.2 q (by omega)
  have eG : G J = G I := by
    unfold G
    rw [eI 82 (by decide)]
  refine ⟨⟨⟨?_, ?_, ?_⟩, ?_⟩, ⟨?_, ?_, ?_, h2⟩, kx.nu eS eI eR, fs.nu eS eR, ⟨m1.nu eS eR, ?_, ?_⟩, ?_, ⟨t17.nu (by decide) r1 r4 b, t28.nu (by decide) r1 r4 b⟩, ⟨?_, ?_⟩, ?_, ?_, ?_, ?_⟩
  · rw [eS 15 (by decide)]; exact p1
  · rw [eS 16 (by decide)]; exact p2
  · rw [eS 81 (by decide)]; exact p3
  · rw [eI 15 (by decide)]; exact p4
  · show 103 ≤ t + 2
    omega
  · show t + 2 ≤ 103 + 2 * (n + 1)
    omega
  · show u + 3 + len ≤ 20000 + 99 * (n + 1)
    omega
  · rw [eI 1 (by decide)]; exact m2
  · rw [eG]; exact m3
  · rw [eG]; exact cs.nu r1 r4 b
  · rw [eI 16 (by decide), eI 81 (by decide)]; exact im.1
  · rw [eI 81 (by decide)]
    rcases im.2 with q | q
    · exact Or.inl q
    · refine Or.inr ⟨q.1, ?_⟩
      have : Gi J = Gi I := by
        unfold Gi
        rw [eI 83 (by decide)]
      rw [this]
      exact q.2.nu r1 r4 b
  · exact wa.cong (by rw [eI 16 (by decide)]) (by rw [eI 81 (by decide)]) (eI 57 (by decide)) (eI 102 (by decide))
  · exact ta.cong (eI 54 (by decide)) (by rw [eI 81 (by decide)]) (eI 55 (by decide)) (eI 86 (by decide))
  · exact sh.cong (fun q hq => eI q (by omega))
  · exact sl.cong (fun q hq => eI q (by omega))
/-- no text: only the tape is empty again -/
theorem Inv.tx (h : Inv sc n S I R z) (e : ∀ q, q ≠ 54 → q ≠ 56 → q ≠ 81 → q ≠ 89 → q ≠ 90 → q ≠ 91 → J q = I q) (e81 : ∀ j, j < 6 ∨ 20 ≤ j → J 81 j = I 81 j) (j1 : J 54 1 = nI 0) (j10 : J 54 10 = nI 0) (j11 : J 54 11 = nI 0) (j6 : J 81 6 = nI 0) : Inv sc n S J R z := by
  refine h.ow (fun q hq => e q (by omega) (by omega) (by omega) (by omega) (by omega) (by omega)) (by rw [e 16 (by decide) (by decide) (by decide) (by decide) (by decide) (by decide)]) (e81 3 (by decide)) (h.wa.cong ?_ (e81 32 (by decide)) ?_ ?_) ⟨⟨j10, j11⟩, 0, by decide, j1, j6, fun j hj => absurd hj (Nat.not_lt_zero _)⟩ (h.sh.cong (fun q hq => e q (by omega) (by omega) (by omega) (by omega) (by omega) (by omega))) (h.sl.cong (fun q hq => e q (by omega) (by omega) (by omega) (by omega) (by omega) (by omega)))
  · rw [e 16 (by decide) (by decide) (by decide) (by decide) (by decide) (by decide)]
  · exact e 57 (by decide) (by decide) (by decide) (by decide) (by decide) (by decide)
  · exact e 102 (by decide) (by decide) (by decide) (by decide) (by decide) (by decide)
/-! the code of a text -/
theorem sD_stk : ∀ {C : List Int32}, tStk I r C → sD (I r) C.length = cDp C
  | [], _ => rfl
  | x :: l, h => by
    have ih := sD_stk h.2
    show (if 0 ≤ I r l.length then sD (I r) l.length + 1 else if I r l.length = -10 then sD (I r) l.length else sD (I r) l.length - 1) = if 0 ≤ x then cDp l + 1 else if x = -10 then cDp l else cDp l - 1
    rw [ih, h.1]
theorem oC_stk {m : Nat} : ∀ {C : List Int32}, tStk I r C → cOk m C → ∀ k, k < C.length → (if 0 ≤ I r k then I r k < nI (10000 + m) else if I r k = -10 then 1 ≤ sD (I r) k else (2 ≤ sD (I r) k ∧ -10 < I r k))
  | [], _, _, k, hk => absurd hk (Nat.not_lt_zero _)
  | x :: l, h, hc, k, hk => by
    by_cases e : k = l.length
    · subst e
      rw [sD_stk h.2, h.1]
      exact hc.2
    · exact oC_stk h.2 hc.1 k (by rw [List.length_cons] at hk; omega)
theorem tr_stk {r2 : Nat} : ∀ {C : List Int32}, tStk J r (C.map tr) → tStk I r2 C → ∀ k, k < C.length → J r k = tr (I r2 k)
  | [], _, _, k, hk => absurd hk (Nat.not_lt_zero _)
  | x :: l, h, h2, k, hk => by
    by_cases e : k = l.length
    · subst e
      have g := h.1
      rw [List.length_map] at g
      rw [g, h2.1]
    · exact tr_stk h.2 h2.2 k (by rw [List.length_cons] at hk; omega)
theorem sKey_c {c : Nat} (hk : k < 3) (hl : len ≤ 96) (e : g (48 + 2 * c) = 1000 * k + len) : sKey g c = k ∧ sLen g c = len := by
  unfold sKey sLen
  rw [e]
  omega
theorem sCt_cong : ∀ {m : Nat}, (∀ t, t < m → sKey g' t = sKey g t) → sCt g' k m = sCt g k m
  | 0, _ => rfl
  | m + 1, h => by
    show (if sKey g' m = k then _ else _) = if sKey g m = k then _ else _
    rw [h m (Nat.lt_succ_self _), sCt_cong (fun t ht => h t (Nat.lt_succ_of_lt ht))]
end
