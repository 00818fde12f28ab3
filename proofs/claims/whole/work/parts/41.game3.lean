/-! a State changes: begin, askFor, isOpenTo -/
/-- all outside the State stays -/
def Fr (r : Nat) (I J : Nat → Nat → Int32) : Prop := ∀ p, p < r ∨ r + 10 < p → J p = I p
theorem Fr.refl (r : Nat) (I : Nat → Nat → Int32) : Fr r I I := fun _ _ => rfl
theorem Fr.trans {r : Nat} {A B C : Nat → Nat → Int32} (h : Fr r A B) (h2 : Fr r B C) : Fr r A C := fun q h3 => (h2 q h3).trans (h q h3)
theorem Sc.fr {r : Nat} {A B : Nat → Nat → Int32} (h : Sc r A B) : Fr r A B := fun q h3 => h q (by omega) (by omega) (by omega)
/-- only numbers of the State change -/
theorem Cs.num {r : Nat} {g g' : Nat → Nat} {S : Nat → Nat × Nat} {I J : Nat → Nat → Int32} {R : Nat → Nat → Option Nat} (hs : Cs S I R r g) (hJ : ∀ p, p ≠ r → J p = I p) (ok : Ok g') (hn : Cn J r g') (hg : ∀ i, i = 1 ∨ i = 2 ∨ 7 ≤ i → g' i = g i) : Cs S J R r g' := by
  obtain ⟨hr, sd, ok0, cn, ⟨a1, a2, a3, a4, a5, a7⟩, ct⟩ := hs
  have g1 := hg 1 (Or.inl rfl)
  have g2 := hg 2 (Or.inr (Or.inl rfl))
  have g7 := hg 7 (Or.inr (Or.inr (Nat.le_refl _)))
  have hk : ∀ t, sKey g' t = sKey g t := fun t => by
    unfold sKey
    rw [hg _ (by omega)]
  have hct : ∀ k n, sCt g' k n = sCt g k n := by
    intro k n
    induction n with
    | zero => rfl
    | succ n ih =>
      show (if sKey g' n = k then _ else _) = if sKey g n = k then _ else _
      rw [hk, ih]
  have hpl : ∀ w l, sPl g' w l = sPl g w l := fun w l => by
    unfold sPl
    apply bs_cong
    intro p _
    unfold sL
    rw [hg _ (by omega)]
  refine ⟨hr, sd, ok, hn, ⟨?_, ?_, ?_, ?_, ?_, ?_⟩, ?_⟩
  · intro w hw
    rw [g1] at hw
    rw [hJ _ (by omega), hg _ (by omega)]
    exact a1 w hw
  · intro w hw
    rw [g1] at hw
    rw [hJ _ (by omega)]
    unfold sW
    rw [hg _ (by omega)]
    exact a2 w hw
  · intro w hw l hl
    rw [g1] at hw
    rw [hJ _ (by omega), hpl]
    exact a3 w hw l hl
  · intro a ha
    rw [g2] at ha
    rw [hJ _ (by omega), hg _ (by omega)]
    exact a4 a ha
  · intro a ha
    rw [g2] at ha
    rw [hJ _ (by omega), hg _ (by omega)]
    exact a5 a ha
  · intro k hk3
    rw [hJ _ (by omega), hct, g7]
    exact a7 k hk3
  · intro t ht
    rw [g7] at ht
    obtain ⟨c, hc, t1, t2, t3, t4, t5, t6, t7⟩ := ct t ht
    have hl : sLen g' t = sLen g t := by
      unfold sLen
      rw [hg _ (by omega)]
    refine ⟨c, hc, t1, t2, ?_, t4, ?_, ?_, ?_⟩
    · rw [hl]; exact t3
    · rw [hJ _ (by omega), hk]; exact t5
    · rw [hJ _ (by omega), hg _ (by omega)]; exact t6
    · intro k hk2
      rw [hl] at hk2
      rw [hJ _ (by omega)]
      unfold sCode
      rw [hg _ (by omega)]
      exact t7 k hk2
