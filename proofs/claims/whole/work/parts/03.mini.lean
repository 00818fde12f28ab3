/-! THE MINI-MACHINE. A heap: of each cell (by its number) its shape (kind, how many places), the numbers in it, the references in it; how many cells there are; how many places were made. Kinds 0 to 7: objects of aCl's classes; 8 rows of chars, 9 of ints, 10 of truth values, 11 to 13 of references to objects of the classes 0, 1, 4; 14 texts, 15 rows of bytes (constants). -/
abbrev HS : Type := (Nat → Nat × Nat) × (Nat → Nat → Int32) × (Nat → Nat → Option Nat) × Nat × Nat
abbrev HR : Type := Option Value × HS
/-- what an instruction does: on it goes; a call (which, with what, what stays below); the end -/
abbrev HA : Type := (Nat × List Value × List Value × HS) ⊕ (Nat × List Value × List Value) ⊕ HR
abbrev aIx (i : Int32) (n : Nat) : Prop := 0 ≤ i ∧ i.toNatClampNeg < n
theorem aIx_in {i : Int32} {n : Nat} (h : aIx i n) : vp_in i n := fun q => q.elim (fun a => absurd h.1 (Int32.not_le.mpr a)) (fun b => absurd h.2 (Nat.not_lt.mpr b))
def aLg : List Value → Nat → Value
  | [], _ => .long 0
  | v :: _, 0 => v
  | _ :: r, n + 1 => aLg r n
def aLs : List Value → Nat → Value → List Value
  | [], _, _ => []
  | _ :: r, 0, v => v :: r
  | a :: r, n + 1, v => a :: aLs r n v
def aW (I : Nat → Nat → Int32) (a j : Nat) (v : Int32) : Nat → Nat → Int32 := fun b i => if b = a then (if i = j then v else I b i) else I b i
def aR (R : Nat → Nat → Option Nat) (a j : Nat) (v : Option Nat) : Nat → Nat → Option Nat := fun b i => if b = a then (if i = j then v else R b i) else R b i
def aLk {α : Type} : List ((Nat × Nat) × α) → Nat → Nat → Option α
  | [], _, _ => none
  | e :: r, a, b => bif Nat.beq e.1.1 a && Nat.beq e.1.2 b then some e.2 else aLk r a b
def aPl : List (Nat × Instr × Nat) → Nat → Option (Instr × Nat)
  | [], _ => none
  | e :: r, pc => bif Nat.beq e.1 pc then some e.2 else aPl r pc
def aGet {α : Type} (d : α) : List α → Nat → α
  | [], _ => d
  | a :: _, 0 => a
  | _ :: r, n + 1 => aGet d r n
def aPi : List (Nat × Instr × Nat) → Nat → Option Instr
  | [], _ => none
  | e :: r, pc => bif Nat.beq e.1 pc then some e.2.1 else aPi r pc
def aP (m pc : Nat) : Option Instr := aPi (aGet [] aGs m) pc
def aM (m : Nat) : MethodName × ByteArray × Nat × Option FieldType × Nat := aGet (aN0, ⟨#[]⟩, 0, none, 0) aMt m
def aNm (m : Nat) : MethodName := (aM m).1
def aBy (m : Nat) : ByteArray := (aM m).2.1
def aNL (m : Nat) : Nat := (aM m).2.2.1
def aRt (m : Nat) : Option FieldType := (aM m).2.2.2.1
def aOw (m : Nat) : Nat := (aM m).2.2.2.2
def aIn (m : Nat) : Bool := (aNm m).name == "<init>"
def aTg (pc : Nat) (off : Int) (ls st : List Value) (σ : HS) : Option HA := if 0 ≤ (pc : Int) + off then some (.inl (((pc : Int) + off).toNat, ls, st, σ)) else none
/-- a table's cases, one by one -/
def aTs (pc : Nat) (x : Int32) (d : Int) (ls st : List Value) (σ : HS) : Int → List Int → Option HA
  | _, [] => aTg pc d ls st σ
  | lo, o :: r => if x = Int32.ofInt lo then aTg pc o ls st σ else aTs pc x d ls st σ (lo + 1) r
def aTl (pc : Nat) (x : Int32) (d : Int) (ls st : List Value) (σ : HS) : List (Int × Int) → Option HA
  | [] => aTg pc d ls st σ
  | e :: r => if x = Int32.ofInt e.1 then aTg pc e.2 ls st σ else aTl pc x d ls st σ r
def aNx (pc : Nat) (ls st : List Value) (σ : HS) : Option HA := some (.inl (pc, ls, st, σ))
/-- a field is written -/
def aPf (κ a j t : Nat) (v : Value) (σ : HS) (g : HS → Option HA) : Option HA :=
  if (σ.1 a).1 = κ ∧ κ < 8 ∧ 16 ≤ a then
    match t, v with
    | 0, .int x => g (σ.1, aW σ.2.1 a j x, σ.2.2.1, σ.2.2.2)
    | 2, .int x => if x = 0 ∨ x = 1 then g (σ.1, aW σ.2.1 a j x, σ.2.2.1, σ.2.2.2) else none
    | 1, .ref b => g (σ.1, σ.2.1, aR σ.2.2.1 a j (some b), σ.2.2.2)
    | _, _ => none
  else none
/-- a new cell -/
def aNc (κ n : Nat) (σ : HS) : HS := ((fun b => if b = σ.2.2.2.1 then (κ, n) else σ.1 b), (fun b i => if b = σ.2.2.2.1 then 0 else σ.2.1 b i), (fun b i => if b = σ.2.2.2.1 then none else σ.2.2.1 b i), σ.2.2.2.1 + 1, σ.2.2.2.2 + n)
def aNr (κ : Nat) (n : Int32) (pc : Nat) (ls st : List Value) (σ : HS) : Option HA := if ¬ n < 0 ∧ n.toNatClampNeg ≤ 5000 then aNx pc ls (.ref σ.2.2.2.1 :: st) (aNc κ n.toNatClampNeg σ) else none
/-- a place of a row is written -/
def aSt1 (κ a : Nat) (i x : Int32) (pc : Nat) (ls st : List Value) (σ : HS) : Option HA := if (σ.1 a).1 = κ ∧ aIx i (σ.1 a).2 ∧ 16 ≤ a then aNx pc ls st (σ.1, aW σ.2.1 a i.toNatClampNeg x, σ.2.2.1, σ.2.2.2) else none
def aOfK (k : Nat) : Nat := if k = 11 then 0 else if k = 12 then 1 else 4
def aCall1 (t : Nat) (m idx : Nat) (st : List Value) (σ : HS) : Option HA :=
  match aLk aMl (aOw m) idx with
  | some (t', c, n, κ) => if t' = t ∧ n ≤ st.length ∧ (st.drop n).length ≤ 8 then
      (if κ = 99 then some (.inr (.inl (c, (st.take n).reverse, st.drop n)))
       else match (st.take n).reverse with
        | .ref a :: _ => if (σ.1 a).1 = κ then some (.inr (.inl (c, (st.take n).reverse, st.drop n))) else none
        | _ => none) else none
  | none => none
/-- one instruction -/
def aEx (m pc : Nat) (i : Instr) (ls st : List Value) (σ : HS) : Option HA :=
  match i with
  | .iconst n => aNx (pc + 1) ls (.int (Int32.ofInt n) :: st) σ
  | .bipush n => aNx (pc + 2) ls (.int (Int8.ofInt n).toInt32 :: st) σ
  | .sipush n => aNx (pc + 3) ls (.int (Int16.ofInt n).toInt32 :: st) σ
  | .ldc k => match aLk aKl (aOw m) k with
    | some x => aNx (pc + 2) ls (.int x :: st) σ
    | none => match aLk aSl (aOw m) k with
      | some a => aNx (pc + 2) ls (.ref a :: st) σ
      | none => none
  | .ldc_w k => match aLk aKl (aOw m) k with
    | some x => aNx (pc + 3) ls (.int x :: st) σ
    | none => none
  | .aconst_null => aNx (pc + 1) ls (.null :: st) σ
  | .iload k => match aLg ls k with | .int x => aNx (pc + 2) ls (.int x :: st) σ | _ => none
  | .iload_n k => match aLg ls k with | .int x => aNx (pc + 1) ls (.int x :: st) σ | _ => none
  | .aload k => match aLg ls k with | .ref x => aNx (pc + 2) ls (.ref x :: st) σ | .null => aNx (pc + 2) ls (.null :: st) σ | _ => none
  | .aload_n k => match aLg ls k with | .ref x => aNx (pc + 1) ls (.ref x :: st) σ | .null => aNx (pc + 1) ls (.null :: st) σ | _ => none
  | .istore k => match st with | .int x :: r => if k < ls.length then aNx (pc + 2) (aLs ls k (.int x)) r σ else none | _ => none
  | .istore_n k => match st with | .int x :: r => if (k : Nat) < ls.length then aNx (pc + 1) (aLs ls k (.int x)) r σ else none | _ => none
  | .astore k => match st with | .ref x :: r => if k < ls.length then aNx (pc + 2) (aLs ls k (.ref x)) r σ else none | .null :: r => if k < ls.length then aNx (pc + 2) (aLs ls k .null) r σ else none | _ => none
  | .astore_n k => match st with | .ref x :: r => if (k : Nat) < ls.length then aNx (pc + 1) (aLs ls k (.ref x)) r σ else none | .null :: r => if (k : Nat) < ls.length then aNx (pc + 1) (aLs ls k .null) r σ else none | _ => none
  | .iinc k n => match aLg ls k with | .int x => if k < ls.length then aNx (pc + 3) (aLs ls k (.int (x + Int32.ofInt n))) st σ else none | _ => none
  | .iadd => match st with | .int y :: .int x :: r => aNx (pc + 1) ls (.int (x + y) :: r) σ | _ => none
  | .isub => match st with | .int y :: .int x :: r => aNx (pc + 1) ls (.int (x - y) :: r) σ | _ => none
  | .imul => match st with | .int y :: .int x :: r => aNx (pc + 1) ls (.int (x * y) :: r) σ | _ => none
  | .iand => match st with | .int y :: .int x :: r => aNx (pc + 1) ls (.int (x &&& y) :: r) σ | _ => none
  | .ior => match st with | .int y :: .int x :: r => aNx (pc + 1) ls (.int (x ||| y) :: r) σ | _ => none
  | .ixor => match st with | .int y :: .int x :: r => aNx (pc + 1) ls (.int (x ^^^ y) :: r) σ | _ => none
  | .ishl => match st with | .int y :: .int x :: r => aNx (pc + 1) ls (.int (x <<< (y &&& 31)) :: r) σ | _ => none
  | .ishr => match st with | .int y :: .int x :: r => aNx (pc + 1) ls (.int (x >>> (y &&& 31)) :: r) σ | _ => none
  | .iushr => match st with | .int y :: .int x :: r => aNx (pc + 1) ls (.int ((x.toUInt32 >>> (y.toUInt32 &&& Int32.toUInt32 31)).toInt32) :: r) σ | _ => none
  | .idiv => match st with | .int y :: .int x :: r => if ¬ y = 0 then aNx (pc + 1) ls (.int (x / y) :: r) σ else none | _ => none
  | .irem => match st with | .int y :: .int x :: r => if ¬ y = 0 then aNx (pc + 1) ls (.int (x % y) :: r) σ else none | _ => none
  | .ineg => match st with | .int x :: r => aNx (pc + 1) ls (.int (-x) :: r) σ | _ => none
  | .i2b => match st with | .int x :: r => aNx (pc + 1) ls (.int x.toInt8.toInt32 :: r) σ | _ => none
  | .i2s => match st with | .int x :: r => aNx (pc + 1) ls (.int x.toInt16.toInt32 :: r) σ | _ => none
  | .i2c => match st with | .int x :: r => aNx (pc + 1) ls (.int (x.toUInt32 % 65536).toInt32 :: r) σ | _ => none
  | .dup => match st with | v :: r => aNx (pc + 1) ls (v :: v :: r) σ | _ => none
  | .dup2 => match st with | v :: w :: r => aNx (pc + 1) ls (v :: w :: v :: w :: r) σ | _ => none
  | .pop => match st with | _ :: r => aNx (pc + 1) ls r σ | _ => none
  | .ifCond c off => match st with
    | .int x :: r => match c with
      | .eq => if x = 0 then aTg pc off ls r σ else aNx (pc + 3) ls r σ
      | .ne => if x = 0 then aNx (pc + 3) ls r σ else aTg pc off ls r σ
      | .lt => if x < 0 then aTg pc off ls r σ else aNx (pc + 3) ls r σ
      | .ge => if 0 ≤ x then aTg pc off ls r σ else aNx (pc + 3) ls r σ
      | .gt => if 0 < x then aTg pc off ls r σ else aNx (pc + 3) ls r σ
      | .le => if x ≤ 0 then aTg pc off ls r σ else aNx (pc + 3) ls r σ
    | _ => none
  | .if_icmp c off => match st with
    | .int y :: .int x :: r => match c with
      | .eq => if x = y then aTg pc off ls r σ else aNx (pc + 3) ls r σ
      | .ne => if x = y then aNx (pc + 3) ls r σ else aTg pc off ls r σ
      | .lt => if x < y then aTg pc off ls r σ else aNx (pc + 3) ls r σ
      | .ge => if y ≤ x then aTg pc off ls r σ else aNx (pc + 3) ls r σ
      | .gt => if y < x then aTg pc off ls r σ else aNx (pc + 3) ls r σ
      | .le => if x ≤ y then aTg pc off ls r σ else aNx (pc + 3) ls r σ
    | _ => none
  | .ifnonnull off => match st with | .ref a :: r => if ¬ a = 14 then aTg pc off ls r σ else none | .null :: r => aNx (pc + 3) ls r σ | _ => none
  | .goto off => aTg pc off ls st σ
  | .tableswitch d lo hi offs => match st with
    | .int x :: r => if (hi - lo + 1 = offs.size ∧ -2147483648 ≤ lo ∧ hi < 2147483648) then aTs pc x d ls r σ lo offs.toList else none
    | _ => none
  | .lookupswitch d ps => match st with
    | .int x :: r => if (ps.toList.zip (ps.toList.drop 1)).all (fun (a, next) => a.1 < next.1) = true ∧ ps.toList.all (fun e => decide (-2147483648 ≤ e.1 ∧ e.1 < 2147483648)) = true then aTl pc x d ls r σ ps.toList else none
    | _ => none
  | .getfield k => match st with
    | .ref a :: r => match aLk aFl (aOw m) k with
      | some (κ, j, t, _) => if (σ.1 a).1 = κ then aNx (pc + 3) ls ((match t with | 1 => va_rf (σ.2.2.1 a j) | _ => .int (σ.2.1 a j)) :: r) σ else none
      | none => none
    | _ => none
  | .putfield k => match st with
    | v :: .ref a :: r => match aLk aFl (aOw m) k with
      | some (κ, j, t, f) => if f = false ∨ (aIn m = true ∧ aOw m = κ) then aPf κ a j t v σ (fun τ => aNx (pc + 3) ls r τ) else none
      | none => none
    | _ => none
  | .getstatic k => match aLk aGl (aOw m) k with | some v => aNx (pc + 3) ls (v :: st) σ | none => none
  | .iaload => match st with | .int i :: .ref a :: r => if (σ.1 a).1 = 9 ∧ aIx i (σ.1 a).2 then aNx (pc + 1) ls (.int (σ.2.1 a i.toNatClampNeg) :: r) σ else none | _ => none
  | .baload => match st with | .int i :: .ref a :: r => if ((σ.1 a).1 = 10 ∨ (σ.1 a).1 = 15) ∧ aIx i (σ.1 a).2 then aNx (pc + 1) ls (.int (σ.2.1 a i.toNatClampNeg) :: r) σ else none | _ => none
  | .caload => match st with | .int i :: .ref a :: r => if (σ.1 a).1 = 8 ∧ aIx i (σ.1 a).2 then aNx (pc + 1) ls (.int (σ.2.1 a i.toNatClampNeg) :: r) σ else none | _ => none
  | .aaload => match st with | .int i :: .ref a :: r => if (11 ≤ (σ.1 a).1 ∧ (σ.1 a).1 ≤ 13) ∧ aIx i (σ.1 a).2 then aNx (pc + 1) ls (va_rf (σ.2.2.1 a i.toNatClampNeg) :: r) σ else none | _ => none
  | .iastore => match st with | .int x :: .int i :: .ref a :: r => aSt1 9 a i x (pc + 1) ls r σ | _ => none
  | .castore => match st with | .int x :: .int i :: .ref a :: r => aSt1 8 a i (vp_nar .char x) (pc + 1) ls r σ | _ => none
  | .bastore => match st with | .int x :: .int i :: .ref a :: r => aSt1 10 a i (vp_nar .boolean x) (pc + 1) ls r σ | _ => none
  | .aastore => match st with
    | .ref v :: .int i :: .ref a :: r => if (11 ≤ (σ.1 a).1 ∧ (σ.1 a).1 ≤ 13) ∧ aIx i (σ.1 a).2 ∧ (σ.1 v).1 = aOfK (σ.1 a).1 then aNx (pc + 1) ls r (σ.1, σ.2.1, aR σ.2.2.1 a i.toNatClampNeg (some v), σ.2.2.2) else none
    | .null :: .int i :: .ref a :: r => if (11 ≤ (σ.1 a).1 ∧ (σ.1 a).1 ≤ 13) ∧ aIx i (σ.1 a).2 then aNx (pc + 1) ls r (σ.1, σ.2.1, aR σ.2.2.1 a i.toNatClampNeg none, σ.2.2.2) else none
    | _ => none
  | .arraylength => match st with | .ref a :: r => if (8 ≤ (σ.1 a).1 ∧ (σ.1 a).1 ≤ 13) ∨ (σ.1 a).1 = 15 then aNx (pc + 1) ls (.int (Int32.ofNat (σ.1 a).2) :: r) σ else none | _ => none
  | .newarray t => match st with
    | .int n :: r => match t with
      | .int => aNr 9 n (pc + 2) ls r σ
      | .char => aNr 8 n (pc + 2) ls r σ
      | .boolean => aNr 10 n (pc + 2) ls r σ
      | _ => none
    | _ => none
  | .anewarray k => match st with
    | .int n :: r => match aLk aAl (aOw m) k with | some κ => aNr κ n (pc + 3) ls r σ | none => none
    | _ => none
  | .new k => match aLk aNl (aOw m) k with | some κ => aNx (pc + 3) ls (.ref σ.2.2.2.1 :: st) (aNc κ (aFk.getD κ []).length σ) | none => none
  | .invokevirtual k => aCall1 0 m k st σ
  | .invokestatic k => aCall1 1 m k st σ
  | .invokespecial k => aCall1 2 m k st σ
  | .ireturn => match st, aRt m with
    | [.int x], some ty => if narrow ty (.int x) = .int x ∧ (ty = .int ∨ ty = .boolean ∨ ty = .char ∨ ty = .byte) then some (.inr (.inr (some (.int x), σ))) else none
    | _, _ => none
  | .areturn => match st, aRt m with
    | [.ref a], some (.object _) => some (.inr (.inr (some (.ref a), σ)))
    | [.null], some (.object _) => some (.inr (.inr (some .null, σ)))
    | _, _ => none
  | .return_ => match st, aRt m with
    | [], none => some (.inr (.inr (none, σ)))
    | _, _ => none
  | _ => none
/-- System.arraycopy of rows of ints -/
def aCopy : List Value → HS → Option HR
  | [.ref a0, .int sp, .ref a, .int dp, .int n], σ => if (σ.1 a0).1 = 9 ∧ (σ.1 a).1 = 9 ∧ 16 ≤ a0 ∧ 16 ≤ a ∧ ¬ sp < 0 ∧ ¬ dp < 0 ∧ ¬ n < 0 ∧ sp.toNatClampNeg + n.toNatClampNeg ≤ (σ.1 a0).2 ∧ dp.toNatClampNeg + n.toNatClampNeg ≤ (σ.1 a).2 then some (none, (σ.1, (fun b => if b = a then va_cpy (σ.2.1 a0) (σ.2.1 a) sp.toNatClampNeg dp.toNatClampNeg n.toNatClampNeg else σ.2.1 b), σ.2.2)) else none
  | _, _ => none
/-- a call, with d frames left -/
def aMax : List Value → HS → Option HR
  | [.int x, .int y], σ => some (some (.int (if x < y then y else x)), σ)
  | _, _ => none
def aMin : List Value → HS → Option HR
  | [.int x, .int y], σ => some (some (.int (if y < x then y else x)), σ)
  | _, _ => none
def aObj : List Value → HS → Option HR
  | [.ref a], σ => if 16 ≤ a then some (none, σ) else none
  | _, _ => none
/-- Object(), arraycopy, Math.max, Math.min -/
def aBi (c : Nat) (as : List Value) (σ : HS) : Option HR := if c = 1000 then aObj as σ else if c = 1001 then aCopy as σ else if c = 1002 then aMax as σ else if c = 1003 then aMin as σ else none
def aCall (run : Nat → Nat → List Value → HS → Option HR) : Nat → Nat → List Value → HS → Option HR
  | 0, _, _, _ => none
  | d + 1, c, as, σ => if 1000 ≤ c then aBi c as σ else if as.length ≤ aNL c then run d c (as ++ List.replicate (aNL c - as.length) (.long 0)) σ else none
def aPush : Option Value → List Value → List Value
  | some v, r => v :: r
  | none, r => r
/-- n steps at most, d frames at most above this one -/
def aRun : Nat → Nat → Nat → Nat → List Value → List Value → HS → Option HR
  | 0, _, _, _, _, _, _ => none
  | n + 1, d, m, pc, ls, st, σ => match (aP m pc).bind (fun i => aEx m pc i ls st σ) with
    | some (.inl (pc', ls', st', σ')) => aRun n d m pc' ls' st' σ'
    | some (.inr (.inl (c, as, r))) => match aCall (fun d' c' ls' σ' => aRun n d' c' 0 ls' [] σ') d c as σ with
      | some (v, τ) => aRun n d m (pc + 3) ls (aPush v r) τ
      | none => none
    | some (.inr (.inr x)) => some x
    | none => none
theorem aCall_mono {f g : Nat → Nat → List Value → HS → Option HR} (h : ∀ d c ls σ x, f d c ls σ = some x → g d c ls σ = some x) : ∀ (d c : Nat) (as : List Value) (σ : HS) (x : HR), aCall f d c as σ = some x → aCall g d c as σ = some x := by
  intro d c as σ x hx
  cases d with
  | zero => exact hx
  | succ d =>
    simp only [aCall] at hx ⊢
    by_cases h1 : 1000 ≤ c
    · rw [if_pos h1] at hx ⊢; exact hx
    · rw [if_neg h1] at hx ⊢
      by_cases h3 : as.length ≤ aNL c
      · rw [if_pos h3] at hx ⊢; exact h _ _ _ _ _ hx
      · rw [if_neg h3] at hx; cases hx
theorem aRun_mono1 : ∀ (n d m pc : Nat) (ls st : List Value) (σ : HS) (x : HR), aRun n d m pc ls st σ = some x → aRun (n + 1) d m pc ls st σ = some x := by
  intro n
  induction n with
  | zero => intro d m pc ls st σ x h; cases h
  | succ n ih =>
    intro d m pc ls st σ x h
    rw [aRun] at h ⊢
    cases ha : (aP m pc).bind (fun i => aEx m pc i ls st σ) with
    | none => rw [ha] at h; cases h
    | some act =>
      rw [ha] at h
      rcases act with ⟨pc', ls', st', σ'⟩ | ⟨c, as, r⟩ | y
      · exact ih _ _ _ _ _ _ _ h
      · dsimp only at h ⊢
        cases hc : aCall (fun d' c' ls' σ' => aRun n d' c' 0 ls' [] σ') d c as σ with
        | none => rw [hc] at h; cases h
        | some z =>
          rw [hc] at h
          have h2 := aCall_mono (g := fun d' c' ls' σ' => aRun (n + 1) d' c' 0 ls' [] σ') (fun d' c' ls' σ' y hy => ih _ _ _ _ _ _ _ hy) d c as σ z hc
          rw [h2]
          exact ih _ _ _ _ _ _ _ h
      · exact h
theorem aRun_mono {n n' : Nat} (hn : n ≤ n') {d m pc : Nat} {ls st : List Value} {σ : HS} {x : HR} (h : aRun n d m pc ls st σ = some x) : aRun n' d m pc ls st σ = some x := by
  induction n' with
  | zero =>
    obtain rfl : n = 0 := by omega
    exact h
  | succ k ih =>
    by_cases e : n = k + 1
    · subst e; exact h
    · exact aRun_mono1 _ _ _ _ _ _ _ _ (ih (by omega))
/-- it comes to its end, and Q holds there -/
def RB (d m pc : Nat) (ls st : List Value) (σ : HS) (Q : Option Value → HS → Prop) : Prop := ∃ (n : Nat) (v : Option Value) (τ : HS), aRun n d m pc ls st σ = some (v, τ) ∧ Q v τ
def RM (d c : Nat) (as : List Value) (σ : HS) (Q : Option Value → HS → Prop) : Prop := ∃ (n : Nat) (v : Option Value) (τ : HS), aCall (fun d' c' ls' σ' => aRun n d' c' 0 ls' [] σ') d c as σ = some (v, τ) ∧ Q v τ
def RA (d m pc : Nat) (ls : List Value) (σ : HS) (Q : Option Value → HS → Prop) : Option HA → Prop
  | some (.inl (pc', ls', st', σ')) => RB d m pc' ls' st' σ' Q
  | some (.inr (.inl (c, as, r))) => RM d c as σ (fun v τ => RB d m (pc + 3) ls (aPush v r) τ Q)
  | some (.inr (.inr x)) => Q x.1 x.2
  | none => False
theorem RB_eq (d m pc : Nat) (ls st : List Value) (σ : HS) (Q : Option Value → HS → Prop) : RB d m pc ls st σ Q = RA d m pc ls σ Q ((aP m pc).bind (fun i => aEx m pc i ls st σ)) := by
  apply propext
  constructor
  · rintro ⟨n, v, τ, h, hQ⟩
    cases n with
    | zero => cases h
    | succ n =>
      rw [aRun] at h
      cases ha : (aP m pc).bind (fun i => aEx m pc i ls st σ) with
      | none => rw [ha] at h; cases h
      | some act =>
        rw [ha] at h
        rcases act with ⟨pc', ls', st', σ'⟩ | ⟨c, as, r⟩ | y
        · exact ⟨n, v, τ, h, hQ⟩
        · dsimp only at h
          cases hc : aCall (fun d' c' ls' σ' => aRun n d' c' 0 ls' [] σ') d c as σ with
          | none => rw [hc] at h; cases h
          | some z =>
            rw [hc] at h
            exact ⟨n, z.1, z.2, hc, n, v, τ, h, hQ⟩
        · dsimp only at h
          cases h
          exact hQ
  · intro h
    cases ha : (aP m pc).bind (fun i => aEx m pc i ls st σ) with
    | none => rw [ha] at h; exact h.elim
    | some act =>
      rw [ha] at h
      rcases act with ⟨pc', ls', st', σ'⟩ | ⟨c, as, r⟩ | y
      · obtain ⟨n, v, τ, h, hQ⟩ := h
        exact ⟨n + 1, v, τ, by rw [aRun, ha]; exact h, hQ⟩
      · obtain ⟨n1, z1, z2, hc, n2, v, τ, h, hQ⟩ := h
        refine ⟨max n1 n2 + 1, v, τ, ?_, hQ⟩
        rw [aRun, ha]
        dsimp only
        have h2 := aCall_mono (g := fun d' c' ls' σ' => aRun (max n1 n2) d' c' 0 ls' [] σ') (fun d' c' ls' σ' y hy => aRun_mono (Nat.le_max_left _ _) hy) d c as σ _ hc
        rw [h2]
        exact aRun_mono (Nat.le_max_right _ _) h
      · exact ⟨1, y.1, y.2, by rw [aRun, ha], h⟩
theorem RM_eq (d c : Nat) (as : List Value) (σ : HS) (Q : Option Value → HS → Prop) (h1 : c < 1000) (h2 : as.length ≤ aNL c) : RM (d + 1) c as σ Q = RB d c 0 (as ++ List.replicate (aNL c - as.length) (.long 0)) [] σ Q := by
  have e : ∀ n, aCall (fun d' c' ls' σ' => aRun n d' c' 0 ls' [] σ') (d + 1) c as σ = aRun n d c 0 (as ++ List.replicate (aNL c - as.length) (.long 0)) [] σ := by
    intro n
    rw [aCall, if_neg (by omega), if_pos h2]
  unfold RM RB
  simp only [e]
theorem RM_mono {d c : Nat} {as : List Value} {σ : HS} {Q Q' : Option Value → HS → Prop} (h : RM d c as σ Q) (hq : ∀ v τ, Q v τ → Q' v τ) : RM d c as σ Q' := by
  obtain ⟨n, v, τ, h1, h2⟩ := h
  exact ⟨n, v, τ, h1, hq _ _ h2⟩
theorem RB_mono {d m pc : Nat} {ls st : List Value} {σ : HS} {Q Q' : Option Value → HS → Prop} (h : RB d m pc ls st σ Q) (hq : ∀ v τ, Q v τ → Q' v τ) : RB d m pc ls st σ Q' := by
  obtain ⟨n, v, τ, h1, h2⟩ := h
  exact ⟨n, v, τ, h1, hq _ _ h2⟩
/-- more frames do no harm -/
theorem aRun_deep : ∀ (n d m pc : Nat) (ls st : List Value) (σ : HS) (x : HR), aRun n d m pc ls st σ = some x → aRun n (d + 1) m pc ls st σ = some x := by
  intro n
  induction n with
  | zero => intro d m pc ls st σ x h; cases h
  | succ n ih =>
    intro d m pc ls st σ x h
    rw [aRun] at h ⊢
    cases ha : (aP m pc).bind (fun i => aEx m pc i ls st σ) with
    | none => rw [ha] at h; cases h
    | some act =>
      rw [ha] at h
      rcases act with ⟨pc', ls', st', σ'⟩ | ⟨c, as, r⟩ | y
      · exact ih _ _ _ _ _ _ _ h
      · dsimp only at h ⊢
        cases hc : aCall (fun d' c' ls' σ' => aRun n d' c' 0 ls' [] σ') d c as σ with
        | none => rw [hc] at h; cases h
        | some z =>
          rw [hc] at h
          have h2 : aCall (fun d' c' ls' σ' => aRun n d' c' 0 ls' [] σ') (d + 1) c as σ = some z := by
            cases d with
            | zero => cases hc
            | succ d =>
              simp only [aCall] at hc ⊢
              by_cases h1 : 1000 ≤ c
              · rw [if_pos h1] at hc ⊢; exact hc
              · rw [if_neg h1] at hc ⊢
                by_cases h3 : as.length ≤ aNL c
                · rw [if_pos h3] at hc ⊢; exact ih _ _ _ _ _ _ _ hc
                · rw [if_neg h3] at hc; cases hc
          rw [h2]
          exact ih _ _ _ _ _ _ _ h
      · exact h
