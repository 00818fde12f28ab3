/-! from the entry: the constants as the tables and the premises have them, and the mini-machine's run carried over -/
section
variable {args : Array Value} {s : State}
theorem an_arr {ty : FieldType} (h : (Cond.arrayClass ty).before args s = true) (hp : ty = .int ∨ ty = .char ∨ ty = .boolean) : ∃ cA, ArrOfT s cA ty ∧ va_RA s cA ty := by
  obtain ⟨c, k, comp, h1, h2, h3⟩ := Cond.arrayClass_spec (args := args) (first := s) (o := none) (s := s) (idx := []) h
  rcases hp with rfl | rfl | rfl <;> exact ⟨c, fun n z => ⟨fun k h => (by cases h), k, h2, comp, h3⟩, h1⟩
theorem an_obj {C : String} (h : (Cond.arrayOver (.object C)).before args s = true) : ∃ cA, ArrOfT s cA (.object C) ∧ va_RA s cA (.object C) := by
  obtain ⟨comp, c, k, h1, h2, h3, h4, h5⟩ := Cond.arrayOver_spec (args := args) (first := s) (o := none) (s := s) (idx := []) h
  exact ⟨c, fun n z => ⟨fun k h => (by cases h), k, h3, comp, h4⟩, k, comp, h3, h4, h1, h5⟩
end
def kaI (j : Nat) : Int32 := ([-1, 0, 0, 1, 2, 0] : List Int32).getD j 0
def paI (j : Nat) : Int32 := ([216, 36, 6, 1] : List Int32).getD j 0
def stN (i : Nat) : Nat := ([66, 72, 74, 76, 78, 80] : List Nat).getD i 0
def stX (i : Nat) : String := (["ask", "draw", "fine", "nwf", "wn", "lk"] : List String).getD i ""
abbrev stT (i : Nat) : Term := Term.string "HangedWord$Tape" (stN i)
def stLn : List Nat := [3, 4, 4, 3, 2, 2]
def stBy : List (List Int32) := [[97, 115, 107], [100, 114, 97, 119], [102, 105, 110, 101], [110, 119, 102], [119, 110], [108, 107]]
def sn_S (L k : Nat) : Nat × Nat := if k = 0 then (9, 6) else if k = 1 then (9, 4) else if k < 8 then (14, 2) else if k < 14 then (15, strL (k - 8)) else if k = 14 then (98, 0) else if k = 15 then (9, L) else (99, 0)
def sn_I (xs : Nat → Int32) (k j : Nat) : Int32 := if k = 0 then kaI j else if k = 1 then paI j else if k < 8 then 0 else if k < 14 then (stBy.getD (k - 8) []).getD j 0 else if k = 14 then 0 else xs j
def sn_R (k j : Nat) : Option Nat := if 2 ≤ k ∧ k < 8 ∧ j = 0 then some (k + 6) else none
theorem sn_K {L : Nat} {xs : Nat → Int32} : C0 (sn_S L) (sn_I xs) sn_R := by
  refine ⟨⟨rfl, rfl, rfl, rfl, rfl, rfl, rfl⟩, fun i hi => ?_, rfl, fun p hp => ?_⟩
  · rcases (show i = 0 ∨ i = 1 ∨ i = 2 ∨ i = 3 ∨ i = 4 ∨ i = 5 by omega) with rfl | rfl | rfl | rfl | rfl | rfl <;> refine ⟨rfl, rfl, rfl, rfl, ?_⟩ <;> (show ∀ j, j < _ → (stBy.getD _ []).getD j 0 = _) <;> decide
  · show paI p = _
    have key : ∀ p, p < 4 → paI p = nI (6 ^ (3 - p)) := by decide +kernel
    exact key p hp
theorem sn_in1 : ∀ i, i < 6 → Cond.exactly (stT i) "java/lang/String" ∈ flatC (Jvm.Cond.and given_1 narrow_1) := by decide +kernel
theorem sn_in2 : ∀ i, i < 6 → Cond.eq (.field (stT i) "java/lang/String" "coder" "B") (.int 0) ∈ flatC (Jvm.Cond.and given_1 narrow_1) := by decide +kernel
theorem sn_in3 : ∀ i, i < 6 → Cond.arrayOf (.field (stT i) "java/lang/String" "value" "[B") .byte ∈ flatC (Jvm.Cond.and given_1 narrow_1) := by decide +kernel
theorem sn_in4 : ∀ i, i < 6 → Cond.eq (.length (.field (stT i) "java/lang/String" "value" "[B")) (.int (Int32.ofNat (stLn.getD i 0))) ∈ flatC (Jvm.Cond.and given_1 narrow_1) := by decide +kernel
theorem sn_in5 : ∀ i, i < 6 → ∀ j, j < stLn.getD i 0 → Cond.eq (.elem (.field (stT i) "java/lang/String" "value" "[B") (.int (Int32.ofNat j))) (.int ((stBy.getD i []).getD j 0)) ∈ flatC (Jvm.Cond.and given_1 narrow_1) := by decide +kernel
theorem sn_in6 : ∀ i, i < 6 → ∀ j, j < 6 → i ≠ j → Cond.not (Cond.eq (stT i) (stT j)) ∈ flatC (Jvm.Cond.and given_1 narrow_1) ∨ Cond.not (Cond.eq (stT j) (stT i)) ∈ flatC (Jvm.Cond.and given_1 narrow_1) := by decide +kernel
theorem sn_in7 : ∀ j, j < 6 → Cond.eq (.elem (.static "HangedWord" "KIND_ABOVE" "[I") (.int (Int32.ofNat j))) (.int (kaI j)) ∈ flatC (Jvm.Cond.and given_1 narrow_1) := by decide +kernel
theorem sn_in8 : ∀ j, j < 4 → Cond.eq (.elem (.static "HangedWordModel" "PARTS6" "[I") (.int (Int32.ofNat j))) (.int (paI j)) ∈ flatC (Jvm.Cond.and given_1 narrow_1) := by decide +kernel
theorem sn_lit : ∀ i, i < 6 → Cond.stringRef "HangedWord$Tape" (stN i) (stX i) ∈ lw_tbl := by decide +kernel
theorem sn_lay : ∀ k, k < 8 → ∀ w ∈ u_ws (aGet "" aCn k) (aTT k) (aNf k), w ∈ lw_tbl := by decide +kernel
theorem sn_cls : ∀ k, k < 8 → Cond.instantiable (aGet "" aCn k) (aNf k) ∈ lw_tbl := by decide +kernel
theorem sn_nest : ∀ e ∈ aMl, aNe.contains e.1 = true → Cond.methodLinkNest (aCs e.1.1) e.1.2 (aNm e.2.2.1) "HangedWord" ∈ lw_tbl := by decide +kernel
theorem sn_cl : ∀ (k : Nat) (q : vw_C), aCl[k]? = some q → k < 8 ∧ q = (aGet "" aCn k, aTT k, aNf k) := by
  intro k q h
  have hk : k < 8 := (List.getElem?_eq_some_iff.mp h).1
  refine ⟨hk, ?_⟩
  rcases (show k = 0 ∨ k = 1 ∨ k = 2 ∨ k = 3 ∨ k = 4 ∨ k = 5 ∨ k = 6 ∨ k = 7 by omega) with rfl | rfl | rfl | rfl | rfl | rfl | rfl | rfl <;> cases h <;> rfl
