/-! TEXT: words and signs, and the machine of the reference, as plain functions -/
def tSo (T : Nat → Nat) (n p : Nat) : Nat := if p < n then (if 97 ≤ T p ∧ T p ≤ 122 then 1 else if 48 ≤ T p ∧ T p ≤ 57 then 2 else 3) else 0
def tSk (T : Nat → Nat) (n : Nat) : Nat → Nat → Nat
  | 0, p => p
  | f + 1, p => if p < n ∧ T p = 32 then tSk T n f (p + 1) else p
def tRn (T : Nat → Nat) (n s : Nat) : Nat → Nat → Nat
  | 0, p => p
  | f + 1, p => if p < n ∧ tSo T n p = s then tRn T n s f (p + 1) else p
/-- where the next one begins; where one of a kind ends that begins at p -/
def tP (T : Nat → Nat) (n q : Nat) : Nat := tSk T n (n - q) q
def tE (T : Nat → Nat) (n s p : Nat) : Nat := if s = 0 then p else if s = 3 then p + 1 else tRn T n s (n - (p + 1)) (p + 1)
/-- a word or sign: where it begins, where it ends, what it is, whether it is right behind a word -/
abbrev Tok : Type := Nat × Nat × Nat × Bool
def tNx (T : Nat → Nat) (n : Nat) (t : Tok) : Tok := (tP T n t.2.1, tE T n (tSo T n (tP T n t.2.1)) (tP T n t.2.1), tSo T n (tP T n t.2.1), decide (t.2.2.1 = 1 ∨ t.2.2.1 = 2) && decide (tP T n t.2.1 = t.2.1))
def tNum (T : Nat → Nat) (p : Nat) : Nat → Nat
  | 0 => 0
  | k + 1 => tNum T p k * 10 + T (p + k) - 48
def tNm (k c : Nat) : Option Nat := if k = 0 then (if c = 110 then some 0 else if c = 119 then some 1 else if c = 102 then some 2 else none) else if k = 1 then (if c = 119 then some 0 else if c = 110 then some 1 else none) else (if c = 108 then some 0 else if c = 107 then some 1 else none)
/-- what a piece is; what an operator is (1 to 9: | & < = > + - * /) -/
def tPc (T : Nat → Nat) (k : Nat) (t : Tok) : Option Nat := if t.2.2.2 = true then none else if t.2.2.1 = 2 ∧ t.2.1 - t.1 ≤ 4 then some (tNum T t.1 (t.2.1 - t.1)) else if t.2.2.1 = 1 ∧ t.2.1 - t.1 = 1 then (tNm k (T t.1)).map (fun i => 10000 + i) else none
def tOc (c : Nat) : Nat := if c = 124 then 1 else if c = 38 then 2 else if c = 60 then 3 else if c = 61 then 4 else if c = 62 then 5 else if c = 43 then 6 else if c = 45 then 7 else if c = 42 then 8 else if c = 47 then 9 else 0
def tOp (T : Nat → Nat) (t : Tok) : Nat := if t.2.2.1 = 3 then tOc (T t.1) else 0
abbrev tSg (T : Nat → Nat) (c : Nat) (t : Tok) : Prop := t.2.2.1 = 3 ∧ T t.1 = c
/-- the rank of what waits: 10 is NOT, 11 an open bracket -/
def tRk (c : Nat) : Nat := if c = 1 then 1 else if c = 2 then 2 else if c ≤ 5 then 3 else if c ≤ 7 then 4 else if c ≤ 9 then 5 else 6
/-- settle: what waits (the last first), the code (the last first; an operator c is -c there) -/
def stl (r : Nat) : List Nat → List Int32 → List Nat × List Int32
  | [], C => ([], C)
  | h :: H, C => if h = 11 ∨ tRk h < r then (h :: H, C) else stl r H (-nI h :: C)
def cNo : List Nat → Nat
  | [] => 0
  | h :: H => (if h = 10 then 1 else 0) + cNo H
def cOp : List Nat → Nat
  | [] => 0
  | h :: H => (if h = 11 then 1 else 0) + cOp H
/-- where it stands: the word at hand, what waits, the code, whether a piece is wanted, the tests of the brackets (the innermost first), how many pieces -/
abbrev MS : Type := Tok × List Nat × List Int32 × Bool × List Bool × Nat
def mSt (T : Nat → Nat) (n k : Nat) (M : MS) : Option MS :=
  match M with
  | (t, H, C, true, te, a) =>
    if tSg T 33 t ∧ cNo H < 8 then some (tNx T n t, 10 :: H, C, true, te, a)
    else if tSg T 40 t ∧ cOp H < 8 then some (tNx T n t, 11 :: H, C, true, false :: te, a)
    else match tPc T k t with
      | none => none
      | some c => some (tNx T n t, (stl 6 H (nI c :: C)).1, (stl 6 H (nI c :: C)).2, false, te, a + 1)
  | (t, H, C, false, te, a) =>
    if tSg T 41 t ∧ 0 < cOp H then some (tNx T n t, (stl 6 (stl 0 H C).1.tail (stl 0 H C).2).1, (stl 6 (stl 0 H C).1.tail (stl 0 H C).2).2, false, te.tail, a)
    else if tOp T t = 0 ∨ (tRk (tOp T t) = 3 ∧ te.headD false = true) then none
    else some (tNx T n t, tOp T t :: (stl (tRk (tOp T t)) H C).1, (stl (tRk (tOp T t)) H C).2, true, (if tRk (tOp T t) = 3 then true else if tRk (tOp T t) < 3 then false else te.headD false) :: te.tail, a)
def mIt (T : Nat → Nat) (n k : Nat) : Nat → MS → Option MS
  | 0, M => some M
  | j + 1, M => (mSt T n k M).bind (mIt T n k j)
def mTo (T : Nat → Nat) (n k : Nat) (M M' : MS) : Prop := ∃ j, mIt T n k j M = some M'
/-- it ends there with no text -/
def mNo (T : Nat → Nat) (n k : Nat) (M : MS) : Prop := (M.2.2.2.1 = false ∧ M.1.2.2.1 = 0 ∧ 0 < cOp M.2.1) ∨ (¬ (M.2.2.2.1 = false ∧ M.1.2.2.1 = 0) ∧ mSt T n k M = none)
section
variable {T : Nat → Nat} {n k : Nat}
theorem mTo.rf {M : MS} : mTo T n k M M := ⟨0, rfl⟩
theorem mIt_add : ∀ (i j : Nat) (M M' : MS), mIt T n k i M = some M' → mIt T n k (i + j) M = mIt T n k j M'
  | 0, j, M, M', h => by
    cases h
    rw [Nat.zero_add]
  | i + 1, j, M, M', h => by
    rw [show i + 1 + j = (i + j) + 1 by omega]
    show (mSt T n k M).bind (mIt T n k (i + j)) = _
    have h : (mSt T n k M).bind (mIt T n k i) = some M' := h
    cases e : mSt T n k M with
    | none => rw [e] at h; cases h
    | some M1 =>
      rw [e] at h
      exact mIt_add i j M1 M' h
theorem mTo.tr {M M' M2 : MS} (h : mTo T n k M M') (h2 : mTo T n k M' M2) : mTo T n k M M2 := by
  obtain ⟨i, hi⟩ := h
  obtain ⟨j, hj⟩ := h2
  exact ⟨i + j, (mIt_add i j _ _ hi).trans hj⟩
theorem mTo.st {M M' : MS} (h : mSt T n k M = some M') : mTo T n k M M' := ⟨1, by show (mSt T n k M).bind _ = _; rw [h]; rfl⟩
theorem tSk_s {p : Nat} (h : p < n) (h2 : T p = 32) : tSk T n (n - p) p = tSk T n (n - (p + 1)) (p + 1) := by
  rw [show n - p = (n - (p + 1)) + 1 by omega]
  show (if p < n ∧ T p = 32 then _ else _) = _
  rw [if_pos ⟨h, h2⟩]
theorem tSk_e {p f : Nat} (h : ¬ (p < n ∧ T p = 32)) : tSk T n f p = p := by
  cases f with
  | zero => rfl
  | succ f =>
    show (if p < n ∧ T p = 32 then _ else _) = _
    rw [if_neg h]
theorem tRn_s {p s : Nat} (h : p < n) (h2 : tSo T n p = s) : tRn T n s (n - p) p = tRn T n s (n - (p + 1)) (p + 1) := by
  rw [show n - p = (n - (p + 1)) + 1 by omega]
  show (if p < n ∧ tSo T n p = s then _ else _) = _
  rw [if_pos ⟨h, h2⟩]
theorem tRn_e {p f s : Nat} (h : ¬ (p < n ∧ tSo T n p = s)) : tRn T n s f p = p := by
  cases f with
  | zero => rfl
  | succ f =>
    show (if p < n ∧ tSo T n p = s then _ else _) = _
    rw [if_neg h]
theorem tSk_le : ∀ (f p : Nat), p ≤ tSk T n f p ∧ (p ≤ n → tSk T n f p ≤ n)
  | 0, p => ⟨Nat.le_refl _, fun h => h⟩
  | f + 1, p => by
    show p ≤ (if p < n ∧ T p = 32 then _ else _) ∧ (p ≤ n → (if p < n ∧ T p = 32 then _ else _) ≤ n)
    split
    · rename_i h
      have := tSk_le f (p + 1)
      exact ⟨by omega, fun _ => this.2 h.1⟩
    · exact ⟨Nat.le_refl _, fun h => h⟩
theorem tRn_le {s : Nat} : ∀ (f p : Nat), p ≤ tRn T n s f p ∧ (p ≤ n → tRn T n s f p ≤ n)
  | 0, p => ⟨Nat.le_refl _, fun h => h⟩
  | f + 1, p => by
    show p ≤ (if p < n ∧ tSo T n p = s then _ else _) ∧ (p ≤ n → (if p < n ∧ tSo T n p = s then _ else _) ≤ n)
    split
    · rename_i h
      have := tRn_le (s := s) f (p + 1)
      exact ⟨by omega, fun _ => this.2 h.1⟩
    · exact ⟨Nat.le_refl _, fun h => h⟩
theorem tSo_3 (p : Nat) : tSo T n p ≤ 3 := by
  unfold tSo
  repeat' split
  all_goals omega
theorem tSo_n {p : Nat} (h : tSo T n p ≠ 0) : p < n := by
  unfold tSo at h
  split at h
  · assumption
  · exact absurd rfl h
theorem tSo_0 {p : Nat} (h : p < n) : tSo T n p ≠ 0 := by
  unfold tSo
  rw [if_pos h]
  repeat' split
  all_goals omega
/-- a word or sign lies in the tape -/
def tOk (n : Nat) (t : Tok) : Prop := t.1 ≤ t.2.1 ∧ t.2.1 ≤ n ∧ t.2.2.1 ≤ 3 ∧ (t.2.2.1 ≠ 0 → t.1 < t.2.1)
theorem tNx_ok {t : Tok} (h : t.2.1 ≤ n) : tOk n (tNx T n t) ∧ t.2.1 ≤ (tNx T n t).1 := by
  have h1 := tSk_le (T := T) (n := n) (n - t.2.1) t.2.1
  have hp : tP T n t.2.1 ≤ n := h1.2 h
  have hs := tSo_3 (T := T) (n := n) (tP T n t.2.1)
  refine ⟨?_, h1.1⟩
  show tP T n t.2.1 ≤ tE T n _ _ ∧ tE T n _ _ ≤ n ∧ tSo T n _ ≤ 3 ∧ (tSo T n _ ≠ 0 → tP T n t.2.1 < tE T n _ _)
  unfold tE
  by_cases e0 : tSo T n (tP T n t.2.1) = 0
  · rw [if_pos e0]
    exact ⟨Nat.le_refl _, hp, hs, fun q => absurd e0 q⟩
  · have hl := tSo_n e0
    rw [if_neg e0]
    by_cases e3 : tSo T n (tP T n t.2.1) = 3
    · rw [if_pos e3]
      exact ⟨by omega, by omega, hs, fun _ => by omega⟩
    · rw [if_neg e3]
      have h2 := tRn_le (T := T) (n := n) (s := tSo T n (tP T n t.2.1)) (n - (tP T n t.2.1 + 1)) (tP T n t.2.1 + 1)
      exact ⟨by omega, h2.2 hl, hs, fun _ => by omega⟩
theorem stl_stl {a b : Nat} (h : a ≤ b) : ∀ (H : List Nat) (C : List Int32), stl a (stl b H C).1 (stl b H C).2 = stl a H C
  | [], C => rfl
  | x :: H, C => by
    show stl a (if x = 11 ∨ tRk x < b then (x :: H, C) else stl b H (-nI x :: C)).1 (if x = 11 ∨ tRk x < b then (x :: H, C) else stl b H (-nI x :: C)).2 = _
    by_cases e : x = 11 ∨ tRk x < b
    · rw [if_pos e]
    · rw [if_neg e, stl_stl h]
      show _ = if x = 11 ∨ tRk x < a then (x :: H, C) else stl a H (-nI x :: C)
      rw [if_neg (fun q => e (q.imp id (fun q => by omega)))]
theorem stl_len {a : Nat} : ∀ (H : List Nat) (C : List Int32), (stl a H C).1.length + (stl a H C).2.length = H.length + C.length
  | [], C => rfl
  | x :: H, C => by
    show (if x = 11 ∨ tRk x < a then (x :: H, C) else stl a H (-nI x :: C)).1.length + (if x = 11 ∨ tRk x < a then (x :: H, C) else stl a H (-nI x :: C)).2.length = _
    split
    · rfl
    · rw [stl_len]
      simp only [List.length_cons]
      omega
theorem stl_len2 {a : Nat} : ∀ (H : List Nat) (C : List Int32), C.length ≤ (stl a H C).2.length
  | [], C => Nat.le_refl _
  | x :: H, C => by
    show _ ≤ (if x = 11 ∨ tRk x < a then (x :: H, C) else stl a H (-nI x :: C)).2.length
    split
    · exact Nat.le_refl _
    · have := stl_len2 (a := a) H (-nI x :: C)
      simp only [List.length_cons] at this
      omega
theorem stl_op {a : Nat} : ∀ (H : List Nat) (C : List Int32), cOp (stl a H C).1 = cOp H ∧ cNo (stl a H C).1 ≤ cNo H
  | [], C => ⟨rfl, Nat.le_refl _⟩
  | x :: H, C => by
    show cOp (if x = 11 ∨ tRk x < a then (x :: H, C) else stl a H (-nI x :: C)).1 = (if x = 11 then 1 else 0) + cOp H ∧ cNo (if x = 11 ∨ tRk x < a then (x :: H, C) else stl a H (-nI x :: C)).1 ≤ (if x = 10 then 1 else 0) + cNo H
    by_cases e : x = 11 ∨ tRk x < a
    · rw [if_pos e]
      exact ⟨rfl, Nat.le_refl _⟩
    · rw [if_neg e]
      have := stl_op (a := a) H (-nI x :: C)
      rw [if_neg (fun q => e (Or.inl q))]
      exact ⟨by omega, by omega⟩
theorem stl_0 : ∀ (H : List Nat) (C : List Int32), 0 < cOp H → ∃ H' C', stl 0 H C = (11 :: H', C') ∧ cOp H = cOp H' + 1 ∧ cNo H' ≤ cNo H
  | [], C, h => absurd h (Nat.not_lt_zero _)
  | x :: H, C, h => by
    have h : 0 < (if x = 11 then 1 else 0) + cOp H := h
    show ∃ H' C', (if x = 11 ∨ tRk x < 0 then (x :: H, C) else stl 0 H (-nI x :: C)) = (11 :: H', C') ∧ (if x = 11 then 1 else 0) + cOp H = cOp H' + 1 ∧ cNo H' ≤ (if x = 10 then 1 else 0) + cNo H
    by_cases e : x = 11
    · subst e
      rw [if_pos (Or.inl rfl), if_pos rfl]
      exact ⟨H, C, rfl, by omega, by omega⟩
    · rw [if_neg (fun q => q.elim e (by omega)), if_neg e]
      rw [if_neg e] at h
      obtain ⟨H', C', h1, h2, h3⟩ := stl_0 H (-nI x :: C) (by omega)
      exact ⟨H', C', h1, by omega, by omega⟩
/-- what waits on top is no business of rank a -/
def blk (a : Nat) (H : List Nat) : Prop := ∀ h r, H = h :: r → h = 11 ∨ tRk h < a
theorem stl_blk {a : Nat} {H : List Nat} {C : List Int32} (h : blk a H) : stl a H C = (H, C) := by
  cases H with
  | nil => rfl
  | cons x H =>
    show (if x = 11 ∨ tRk x < a then _ else _) = _
    rw [if_pos (h x H rfl)]
theorem blk.le {a b : Nat} {H : List Nat} (h : blk a H) (hab : a ≤ b) : blk b H := fun x r e => (h x r e).imp id (fun q => by omega)
/-- what holds of the machine wherever it comes -/
def mOk (n : Nat) (M : MS) : Prop := tOk n M.1 ∧ M.2.1.length + M.2.2.1.length ≤ M.1.1 ∧ cNo M.2.1 ≤ 8 ∧ cOp M.2.1 ≤ 8 ∧ M.2.2.2.2.1.length = cOp M.2.1 + 1 ∧ M.2.2.2.2.2 ≤ M.2.2.1.length
end
