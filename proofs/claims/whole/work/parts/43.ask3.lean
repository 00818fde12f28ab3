section
variable {d r : Nat} {g : Nat → Nat} {S : Nat → Nat × Nat} {I : Nat → Nat → Int32} {R : Nat → Nat → Option Nat} {z : Nat × Nat} {Q : Option Value → HS → Prop}
/-- asked is written -/
theorem Cs.w8 {v : Nat} (hs : Cs S I R r g) (h3 : g 3 < g 1) (hv : v < 64) : Cs S (aW I r 8 (nI v)) R r (gu g 4 v) := by
  have ok := hs.2.2.1
  obtain ⟨n3, n6, n7, n8, n9, n10, n11, n13⟩ := hs.2.2.2.1
  have e : ∀ i, i ≠ 4 → gu g 4 v i = g i := fun i h => gu_n h
  refine hs.num (fun p hp => aW_o hp) (ok.num (fun i hi => e i (by omega)) (by rw [e 3 (by decide)]; exact Or.inr h3) (by rw [gu_e]; exact hv) (by rw [e 6 (by decide)]; exact ok.2.2.2.2.1)) ?_ (fun i hi => e i (by omega))
  unfold Cn
  rw [aW_i (by decide), aW_i (by decide), aW_i (by decide), aW_e, aW_i (by decide), aW_i (by decide), aW_i (by decide), aW_i (by decide), gu_e, e 1 (by decide), e 2 (by decide), e 3 (by decide), e 5 (by decide), e 6 (by decide), e 0 (by decide), e 7 (by decide)]
  exact ⟨n3, n6, n7, rfl, n9, n10, n11, n13⟩
end
