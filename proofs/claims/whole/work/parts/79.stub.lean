section
variable {d n : Nat} {sc : (Nat × Nat) × (Nat → Int32)} {S : Nat → Nat × Nat} {I : Nat → Nat → Int32} {R : Nat → Nat → Option Nat} {z : Nat × Nat}
theorem p105 (h : Inv sc n S I R z) : RM (d + 300) 105 [.ref 16] (S, I, R, z) (Px d 216 [] sc n) := sorry
end
