/-! rows that change -/
def gu (g : Nat → Nat) (k v : Nat) : Nat → Nat := fun i => if i = k then v else g i
theorem gu_e {g : Nat → Nat} {k v : Nat} : gu g k v k = v := if_pos rfl
theorem gu_n {g : Nat → Nat} {k v i : Nat} (h : i ≠ k) : gu g k v i = g i := if_neg h
theorem G_w82 {I : Nat → Nat → Int32} {j : Nat} {v : Int32} : G (aW I 82 j v) = gu (G I) j (uN v) := by
  funext k
  show uN (aW I 82 j v 82 k) = if k = j then uN v else uN (I 82 k)
  by_cases e : k = j
  · rw [if_pos e, e, aW_e]
  · rw [if_neg e, aW_i e]
/-- the row becomes g, all else but scratch stays -/
def Sg (I : Nat → Nat → Int32) (g : Nat → Nat) (J : Nat → Nat → Int32) : Prop := G J = g ∧ ∀ q, q ≠ 82 → q ≠ 92 → q ≠ 93 → J q = I q
def sHide (g : Nat → Nat) (w : Nat) : Nat → Nat := gu (gu (gu g 3 w) 4 0) 5 0
def sAsk (g : Nat → Nat) (l : Nat) : Nat → Nat := gu (gu g 4 (g 4 ||| 2 ^ l)) 5 (uN (nI (g 5 + if sPl g (g 3) l = 0 then 1 else 0)))
def sPlay (a : Nat) : Nat → (Nat → Nat) → (Nat → Nat)
  | 0, g => g
  | f + 1, g => if g 3 = 4294967295 ∨ sHad g = true ∨ sHung g = true then g else match sNxt g a (g 4) (sNow g) 6 with
    | none => g
    | some e => sPlay a f (sAsk g e.1)
