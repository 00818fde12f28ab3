section
variable {d r : Nat} {g : Nat → Nat} {S : Nat → Nat × Nat} {I : Nat → Nat → Int32} {R : Nat → Nat → Option Nat} {z : Nat × Nat} {Q : Option Value → HS → Prop}
theorem c180 {a : Nat} (hm : Mr S I R) (ha : a < G I 2) (hQ : ∀ J, Sg I (sPlay a 6 (G I)) J → Q none (S, J, R, z)) : RM (d + 7) 180 [.ref 81, .int (nI a)] (S, I, R, z) Q := by
  simp only [e180]
  exact l180 6 I _ hm ha (Nat.le_add_right _ _) hQ
theorem Ok.num {g' : Nat → Nat} (ok : Ok g) (e : ∀ i, i = 1 ∨ i = 2 ∨ 7 ≤ i → g' i = g i) (h3 : (g' 3 = 4294967295 ∧ g' 5 = 0) ∨ g' 3 < g 1) (h4 : g' 4 < 64) (h6 : 1 ≤ g' 6 ∧ g' 6 ≤ 9) : Ok g' := by
  obtain ⟨o1, o2, o3, o4, o5, o6, o7, o8, o9⟩ := ok
  refine ⟨?_, ?_, ?_, h4, h6, ?_, ?_, ?_, ?_⟩
  · rw [e 1 (by omega)]; exact o1
  · rw [e 2 (by omega)]; exact o2
  · rw [e 1 (by omega)]; exact h3
  · rw [e 7 (by omega)]; exact o6
  · intro w hw
    rw [e 1 (by omega)] at hw
    rw [e _ (by omega), e _ (by omega)]
    exact o7 w hw
  · intro a ha
    rw [e 2 (by omega)] at ha
    rw [e _ (by omega), e _ (by omega)]
    exact o8 a ha
  · intro t ht
    rw [e 7 (by omega)] at ht
    have h := o9 t ht
    rw [e _ (by omega)]
    refine ⟨h.1, ?_⟩
    have e1 : sCode g' t = sCode g t := by
      funext k
      unfold sCode
      rw [e _ (by omega)]
    have e2 : sLen g' t = sLen g t := by
      unfold sLen
      rw [e _ (by omega)]
    have e3 : sKey g' t = sKey g t := by
      unfold sKey
      rw [e _ (by omega)]
    rw [e1, e2, e3]
    exact h.2
end
