/-! Integer.bitCount -/
def bS (x y : Int32) : Int32 := (x.toUInt32 >>> (y.toUInt32 &&& Int32.toUInt32 31)).toInt32
def bc1 (x : Int32) : Int32 := x - (bS x 1 &&& 1431655765)
def bc2 (x : Int32) : Int32 := (x &&& 858993459) + (bS x 2 &&& 858993459)
def bc3 (x : Int32) : Int32 := (x + bS x 4) &&& 252645135
def bc4 (x : Int32) : Int32 := x + bS x 8
def bc5 (x : Int32) : Int32 := x + bS x 16
def bc (x : Int32) : Int32 := bc5 (bc4 (bc3 (bc2 (bc1 x)))) &&& 63
theorem bc_eq0 : ∀ a, a < 64 → ∀ b, b < 64 → bc (nI (64 * a + b)) = nI (sPop 12 (64 * a + b)) := by decide +kernel
theorem bc_eq (s : Nat) (h : s < 4096) : bc (nI s) = nI (sPop 12 s) := by
  have e : s = 64 * (s / 64) + s % 64 := by omega
  rw [e]
  exact bc_eq0 _ (by omega) _ (by omega)
section
variable {d : Nat} {S : Nat → Nat × Nat} {I : Nat → Nat → Int32} {R : Nat → Nat → Option Nat} {z : Nat × Nat} {Q : Option Value → HS → Prop}
theorem c250 {s : Nat} (hs : s < 4096) : RM (d + 1) 250 [.int (nI s)] (S, I, R, z) Q = Q (some (.int (nI (sPop 12 s)))) (S, I, R, z) := by
  rw [← bc_eq s hs]
  simp only [e250, w250_0, w250_1, w250_2, w250_3, w250_4, w250_7, w250_8, w250_9, w250_10, w250_11, w250_14, w250_15, w250_16, w250_17, w250_18, w250_21, w250_22, w250_23, w250_24, w250_25, w250_26, w250_27, w250_28, w250_29, w250_32, w250_33, w250_34, w250_35, w250_36, w250_38, w250_39, w250_40, w250_41, w250_42, w250_43, w250_45, w250_46, w250_47, w250_48, w250_49, w250_51, w250_52]
  rfl
end
