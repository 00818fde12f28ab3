/-! one equation an instruction -/
section
variable {d m pc t k : Nat} {ls st : List Value} {σ : HS} {Q : Option Value → HS → Prop} {x y v : Int32} {n off : Int} {a b : Nat}
theorem RA_if {c : Prop} [Decidable c] {A B : Option HA} : RA d m pc ls σ Q (if c then A else B) = ((c → RA d m pc ls σ Q A) ∧ (¬ c → RA d m pc ls σ Q B)) := by
  by_cases h : c
  · rw [if_pos h]; exact propext ⟨fun q => ⟨fun _ => q, fun q2 => absurd h q2⟩, fun q => q.1 h⟩
  · rw [if_neg h]; exact propext ⟨fun q => ⟨fun q2 => absurd q2 h, fun _ => q⟩, fun q => q.2 h⟩
theorem RA_g {c : Prop} [Decidable c] {A : Option HA} : RA d m pc ls σ Q (if c then A else none) = (c ∧ RA d m pc ls σ Q A) := by
  by_cases h : c
  · rw [if_pos h]; exact propext ⟨fun q => ⟨h, q⟩, fun q => q.2⟩
  · rw [if_neg h]; exact propext ⟨fun q => q.elim, fun q => h q.1⟩
theorem RA_nx {ls' : List Value} {σ' : HS} {pc' : Nat} : RA d m pc ls σ Q (aNx pc' ls' st σ') = RB d m pc' ls' st σ' Q := rfl
theorem RA_tg {ls' : List Value} {σ' : HS} {pc' : Nat} (h : 0 ≤ (pc' : Int) + off) (ht : ((pc' : Int) + off).toNat = t) : RA d m pc ls σ Q (aTg pc' off ls' st σ') = RB d m t ls' st σ' Q := by
  subst ht
  unfold aTg
  rw [if_pos h]
  rfl
theorem RB_iconst (h : aP m pc = some (.iconst n)) (hv : Int32.ofInt n = v) : RB d m pc ls st σ Q = RB d m (pc + 1) ls (.int v :: st) σ Q := by rw [RB_eq, h, ← hv]; rfl
theorem RB_bipush (h : aP m pc = some (.bipush n)) (hv : (Int8.ofInt n).toInt32 = v) : RB d m pc ls st σ Q = RB d m (pc + 2) ls (.int v :: st) σ Q := by rw [RB_eq, h, ← hv]; rfl
theorem RB_sipush (h : aP m pc = some (.sipush n)) (hv : (Int16.ofInt n).toInt32 = v) : RB d m pc ls st σ Q = RB d m (pc + 3) ls (.int v :: st) σ Q := by rw [RB_eq, h, ← hv]; rfl
theorem RB_ldc (h : aP m pc = some (.ldc k)) (hv : aLk aKl (aOw m) k = some v) : RB d m pc ls st σ Q = RB d m (pc + 2) ls (.int v :: st) σ Q := by rw [RB_eq, h]; dsimp only [Option.bind_some, aEx]; rw [hv]; rfl
theorem RB_ldcS (h : aP m pc = some (.ldc k)) (hv : aLk aKl (aOw m) k = none) (hs : aLk aSl (aOw m) k = some a) : RB d m pc ls st σ Q = RB d m (pc + 2) ls (.ref a :: st) σ Q := by rw [RB_eq, h]; dsimp only [Option.bind_some, aEx]; rw [hv, hs]; rfl
theorem RB_ldcw (h : aP m pc = some (.ldc_w k)) (hv : aLk aKl (aOw m) k = some v) : RB d m pc ls st σ Q = RB d m (pc + 3) ls (.int v :: st) σ Q := by rw [RB_eq, h]; dsimp only [Option.bind_some, aEx]; rw [hv]; rfl
theorem RB_null (h : aP m pc = some .aconst_null) : RB d m pc ls st σ Q = RB d m (pc + 1) ls (.null :: st) σ Q := by rw [RB_eq, h]; rfl
theorem RB_iload (h : aP m pc = some (.iload k)) (hl : aLg ls k = .int x) : RB d m pc ls st σ Q = RB d m (pc + 2) ls (.int x :: st) σ Q := by rw [RB_eq, h]; dsimp only [Option.bind_some, aEx]; rw [hl]; rfl
theorem RB_iloadn {k : Fin 4} (h : aP m pc = some (.iload_n k)) (hl : aLg ls k = .int x) : RB d m pc ls st σ Q = RB d m (pc + 1) ls (.int x :: st) σ Q := by rw [RB_eq, h]; dsimp only [Option.bind_some, aEx]; rw [hl]; rfl
theorem RB_aload (h : aP m pc = some (.aload k)) (hl : aLg ls k = .ref a) : RB d m pc ls st σ Q = RB d m (pc + 2) ls (.ref a :: st) σ Q := by rw [RB_eq, h]; dsimp only [Option.bind_some, aEx]; rw [hl]; rfl
theorem RB_aloadn {k : Fin 4} (h : aP m pc = some (.aload_n k)) (hl : aLg ls k = .ref a) : RB d m pc ls st σ Q = RB d m (pc + 1) ls (.ref a :: st) σ Q := by rw [RB_eq, h]; dsimp only [Option.bind_some, aEx]; rw [hl]; rfl
theorem RB_aloadN (h : aP m pc = some (.aload k)) (hl : aLg ls k = .null) : RB d m pc ls st σ Q = RB d m (pc + 2) ls (.null :: st) σ Q := by rw [RB_eq, h]; dsimp only [Option.bind_some, aEx]; rw [hl]; rfl
theorem RB_aloadnN {k : Fin 4} (h : aP m pc = some (.aload_n k)) (hl : aLg ls k = .null) : RB d m pc ls st σ Q = RB d m (pc + 1) ls (.null :: st) σ Q := by rw [RB_eq, h]; dsimp only [Option.bind_some, aEx]; rw [hl]; rfl
theorem RB_istore {ls' : List Value} (h : aP m pc = some (.istore k)) (hk : k < ls.length) (hl : aLs ls k (.int x) = ls') : RB d m pc ls (.int x :: st) σ Q = RB d m (pc + 2) ls' st σ Q := by rw [RB_eq, h]; dsimp only [Option.bind_some, aEx]; rw [if_pos hk, hl]; rfl
theorem RB_istoren {k : Fin 4} {ls' : List Value} (h : aP m pc = some (.istore_n k)) (hk : (k : Nat) < ls.length) (hl : aLs ls k (.int x) = ls') : RB d m pc ls (.int x :: st) σ Q = RB d m (pc + 1) ls' st σ Q := by rw [RB_eq, h]; dsimp only [Option.bind_some, aEx]; rw [if_pos hk, hl]; rfl
theorem RB_astore {ls' : List Value} (h : aP m pc = some (.astore k)) (hk : k < ls.length) (hl : aLs ls k (.ref a) = ls') : RB d m pc ls (.ref a :: st) σ Q = RB d m (pc + 2) ls' st σ Q := by rw [RB_eq, h]; dsimp only [Option.bind_some, aEx]; rw [if_pos hk, hl]; rfl
theorem RB_astoren {k : Fin 4} {ls' : List Value} (h : aP m pc = some (.astore_n k)) (hk : (k : Nat) < ls.length) (hl : aLs ls k (.ref a) = ls') : RB d m pc ls (.ref a :: st) σ Q = RB d m (pc + 1) ls' st σ Q := by rw [RB_eq, h]; dsimp only [Option.bind_some, aEx]; rw [if_pos hk, hl]; rfl
theorem RB_astoreN {ls' : List Value} (h : aP m pc = some (.astore k)) (hk : k < ls.length) (hl : aLs ls k .null = ls') : RB d m pc ls (.null :: st) σ Q = RB d m (pc + 2) ls' st σ Q := by rw [RB_eq, h]; dsimp only [Option.bind_some, aEx]; rw [if_pos hk, hl]; rfl
theorem RB_astorenN {k : Fin 4} {ls' : List Value} (h : aP m pc = some (.astore_n k)) (hk : (k : Nat) < ls.length) (hl : aLs ls k .null = ls') : RB d m pc ls (.null :: st) σ Q = RB d m (pc + 1) ls' st σ Q := by rw [RB_eq, h]; dsimp only [Option.bind_some, aEx]; rw [if_pos hk, hl]; rfl
theorem RB_iinc {ls' : List Value} (h : aP m pc = some (.iinc k n)) (hg : aLg ls k = .int x) (hk : k < ls.length) (hv : Int32.ofInt n = v) (hl : aLs ls k (.int (x + v)) = ls') : RB d m pc ls st σ Q = RB d m (pc + 3) ls' st σ Q := by rw [RB_eq, h]; dsimp only [Option.bind_some, aEx]; rw [hg]; dsimp only; rw [if_pos hk, hv, hl]; rfl
theorem RB_iadd (h : aP m pc = some .iadd) : RB d m pc ls (.int y :: .int x :: st) σ Q = RB d m (pc + 1) ls (.int (x + y) :: st) σ Q := by rw [RB_eq, h]; rfl
theorem RB_isub (h : aP m pc = some .isub) : RB d m pc ls (.int y :: .int x :: st) σ Q = RB d m (pc + 1) ls (.int (x - y) :: st) σ Q := by rw [RB_eq, h]; rfl
theorem RB_imul (h : aP m pc = some .imul) : RB d m pc ls (.int y :: .int x :: st) σ Q = RB d m (pc + 1) ls (.int (x * y) :: st) σ Q := by rw [RB_eq, h]; rfl
theorem RB_iand (h : aP m pc = some .iand) : RB d m pc ls (.int y :: .int x :: st) σ Q = RB d m (pc + 1) ls (.int (x &&& y) :: st) σ Q := by rw [RB_eq, h]; rfl
theorem RB_ior (h : aP m pc = some .ior) : RB d m pc ls (.int y :: .int x :: st) σ Q = RB d m (pc + 1) ls (.int (x ||| y) :: st) σ Q := by rw [RB_eq, h]; rfl
theorem RB_ixor (h : aP m pc = some .ixor) : RB d m pc ls (.int y :: .int x :: st) σ Q = RB d m (pc + 1) ls (.int (x ^^^ y) :: st) σ Q := by rw [RB_eq, h]; rfl
theorem RB_ishl (h : aP m pc = some .ishl) : RB d m pc ls (.int y :: .int x :: st) σ Q = RB d m (pc + 1) ls (.int (x <<< (y &&& 31)) :: st) σ Q := by rw [RB_eq, h]; rfl
theorem RB_ishr (h : aP m pc = some .ishr) : RB d m pc ls (.int y :: .int x :: st) σ Q = RB d m (pc + 1) ls (.int (x >>> (y &&& 31)) :: st) σ Q := by rw [RB_eq, h]; rfl
theorem RB_iushr (h : aP m pc = some .iushr) : RB d m pc ls (.int y :: .int x :: st) σ Q = RB d m (pc + 1) ls (.int ((x.toUInt32 >>> (y.toUInt32 &&& Int32.toUInt32 31)).toInt32) :: st) σ Q := by rw [RB_eq, h]; rfl
theorem RB_idiv (h : aP m pc = some .idiv) : RB d m pc ls (.int y :: .int x :: st) σ Q = (¬ y = 0 ∧ RB d m (pc + 1) ls (.int (x / y) :: st) σ Q) := by rw [RB_eq, h]; exact RA_g
theorem RB_irem (h : aP m pc = some .irem) : RB d m pc ls (.int y :: .int x :: st) σ Q = (¬ y = 0 ∧ RB d m (pc + 1) ls (.int (x % y) :: st) σ Q) := by rw [RB_eq, h]; exact RA_g
theorem RB_ineg (h : aP m pc = some .ineg) : RB d m pc ls (.int x :: st) σ Q = RB d m (pc + 1) ls (.int (-x) :: st) σ Q := by rw [RB_eq, h]; rfl
theorem RB_i2b (h : aP m pc = some .i2b) : RB d m pc ls (.int x :: st) σ Q = RB d m (pc + 1) ls (.int x.toInt8.toInt32 :: st) σ Q := by rw [RB_eq, h]; rfl
theorem RB_i2s (h : aP m pc = some .i2s) : RB d m pc ls (.int x :: st) σ Q = RB d m (pc + 1) ls (.int x.toInt16.toInt32 :: st) σ Q := by rw [RB_eq, h]; rfl
theorem RB_i2c (h : aP m pc = some .i2c) : RB d m pc ls (.int x :: st) σ Q = RB d m (pc + 1) ls (.int (x.toUInt32 % 65536).toInt32 :: st) σ Q := by rw [RB_eq, h]; rfl
theorem RB_dup {v : Value} (h : aP m pc = some .dup) : RB d m pc ls (v :: st) σ Q = RB d m (pc + 1) ls (v :: v :: st) σ Q := by rw [RB_eq, h]; rfl
theorem RB_dup2 {v w : Value} (h : aP m pc = some .dup2) : RB d m pc ls (v :: w :: st) σ Q = RB d m (pc + 1) ls (v :: w :: v :: w :: st) σ Q := by rw [RB_eq, h]; rfl
theorem RB_pop {v : Value} (h : aP m pc = some .pop) : RB d m pc ls (v :: st) σ Q = RB d m (pc + 1) ls st σ Q := by rw [RB_eq, h]; rfl
theorem RB_goto (h : aP m pc = some (.goto off)) (h1 : 0 ≤ (pc : Int) + off) (ht : ((pc : Int) + off).toNat = t) : RB d m pc ls st σ Q = RB d m t ls st σ Q := by rw [RB_eq, h]; exact RA_tg h1 ht
theorem RB_eq0 (h : aP m pc = some (.ifCond .eq off)) (h1 : 0 ≤ (pc : Int) + off) (ht : ((pc : Int) + off).toNat = t) : RB d m pc ls (.int x :: st) σ Q = ((x = 0 → RB d m t ls st σ Q) ∧ (¬ x = 0 → RB d m (pc + 3) ls st σ Q)) := by rw [RB_eq, h]; refine RA_if.trans ?_; rw [RA_tg h1 ht]; rfl
theorem RB_ne0 (h : aP m pc = some (.ifCond .ne off)) (h1 : 0 ≤ (pc : Int) + off) (ht : ((pc : Int) + off).toNat = t) : RB d m pc ls (.int x :: st) σ Q = ((x = 0 → RB d m (pc + 3) ls st σ Q) ∧ (¬ x = 0 → RB d m t ls st σ Q)) := by rw [RB_eq, h]; refine RA_if.trans ?_; rw [RA_tg h1 ht]; rfl
theorem RB_lt0 (h : aP m pc = some (.ifCond .lt off)) (h1 : 0 ≤ (pc : Int) + off) (ht : ((pc : Int) + off).toNat = t) : RB d m pc ls (.int x :: st) σ Q = ((x < 0 → RB d m t ls st σ Q) ∧ (¬ x < 0 → RB d m (pc + 3) ls st σ Q)) := by rw [RB_eq, h]; refine RA_if.trans ?_; rw [RA_tg h1 ht]; rfl
theorem RB_ge0 (h : aP m pc = some (.ifCond .ge off)) (h1 : 0 ≤ (pc : Int) + off) (ht : ((pc : Int) + off).toNat = t) : RB d m pc ls (.int x :: st) σ Q = ((0 ≤ x → RB d m t ls st σ Q) ∧ (¬ 0 ≤ x → RB d m (pc + 3) ls st σ Q)) := by rw [RB_eq, h]; refine RA_if.trans ?_; rw [RA_tg h1 ht]; rfl
theorem RB_gt0 (h : aP m pc = some (.ifCond .gt off)) (h1 : 0 ≤ (pc : Int) + off) (ht : ((pc : Int) + off).toNat = t) : RB d m pc ls (.int x :: st) σ Q = ((0 < x → RB d m t ls st σ Q) ∧ (¬ 0 < x → RB d m (pc + 3) ls st σ Q)) := by rw [RB_eq, h]; refine RA_if.trans ?_; rw [RA_tg h1 ht]; rfl
theorem RB_le0 (h : aP m pc = some (.ifCond .le off)) (h1 : 0 ≤ (pc : Int) + off) (ht : ((pc : Int) + off).toNat = t) : RB d m pc ls (.int x :: st) σ Q = ((x ≤ 0 → RB d m t ls st σ Q) ∧ (¬ x ≤ 0 → RB d m (pc + 3) ls st σ Q)) := by rw [RB_eq, h]; refine RA_if.trans ?_; rw [RA_tg h1 ht]; rfl
theorem RB_ieq (h : aP m pc = some (.if_icmp .eq off)) (h1 : 0 ≤ (pc : Int) + off) (ht : ((pc : Int) + off).toNat = t) : RB d m pc ls (.int y :: .int x :: st) σ Q = ((x = y → RB d m t ls st σ Q) ∧ (¬ x = y → RB d m (pc + 3) ls st σ Q)) := by rw [RB_eq, h]; refine RA_if.trans ?_; rw [RA_tg h1 ht]; rfl
theorem RB_ine (h : aP m pc = some (.if_icmp .ne off)) (h1 : 0 ≤ (pc : Int) + off) (ht : ((pc : Int) + off).toNat = t) : RB d m pc ls (.int y :: .int x :: st) σ Q = ((x = y → RB d m (pc + 3) ls st σ Q) ∧ (¬ x = y → RB d m t ls st σ Q)) := by rw [RB_eq, h]; refine RA_if.trans ?_; rw [RA_tg h1 ht]; rfl
theorem RB_ilt (h : aP m pc = some (.if_icmp .lt off)) (h1 : 0 ≤ (pc : Int) + off) (ht : ((pc : Int) + off).toNat = t) : RB d m pc ls (.int y :: .int x :: st) σ Q = ((x < y → RB d m t ls st σ Q) ∧ (¬ x < y → RB d m (pc + 3) ls st σ Q)) := by rw [RB_eq, h]; refine RA_if.trans ?_; rw [RA_tg h1 ht]; rfl
theorem RB_ige (h : aP m pc = some (.if_icmp .ge off)) (h1 : 0 ≤ (pc : Int) + off) (ht : ((pc : Int) + off).toNat = t) : RB d m pc ls (.int y :: .int x :: st) σ Q = ((y ≤ x → RB d m t ls st σ Q) ∧ (¬ y ≤ x → RB d m (pc + 3) ls st σ Q)) := by rw [RB_eq, h]; refine RA_if.trans ?_; rw [RA_tg h1 ht]; rfl
theorem RB_igt (h : aP m pc = some (.if_icmp .gt off)) (h1 : 0 ≤ (pc : Int) + off) (ht : ((pc : Int) + off).toNat = t) : RB d m pc ls (.int y :: .int x :: st) σ Q = ((y < x → RB d m t ls st σ Q) ∧ (¬ y < x → RB d m (pc + 3) ls st σ Q)) := by rw [RB_eq, h]; refine RA_if.trans ?_; rw [RA_tg h1 ht]; rfl
theorem RB_ile (h : aP m pc = some (.if_icmp .le off)) (h1 : 0 ≤ (pc : Int) + off) (ht : ((pc : Int) + off).toNat = t) : RB d m pc ls (.int y :: .int x :: st) σ Q = ((x ≤ y → RB d m t ls st σ Q) ∧ (¬ x ≤ y → RB d m (pc + 3) ls st σ Q)) := by rw [RB_eq, h]; refine RA_if.trans ?_; rw [RA_tg h1 ht]; rfl
theorem RB_nn (h : aP m pc = some (.ifnonnull off)) (h1 : 0 ≤ (pc : Int) + off) (ht : ((pc : Int) + off).toNat = t) : RB d m pc ls (.ref a :: st) σ Q = (¬ a = 14 ∧ RB d m t ls st σ Q) := by rw [RB_eq, h]; refine RA_g.trans ?_; rw [RA_tg h1 ht]
theorem RB_nnN (h : aP m pc = some (.ifnonnull off)) : RB d m pc ls (.null :: st) σ Q = RB d m (pc + 3) ls st σ Q := by rw [RB_eq, h]; rfl
def aTsR (d m pc : Nat) (x : Int32) (df : Nat) (ls st : List Value) (σ : HS) (Q : Option Value → HS → Prop) : List (Int32 × Nat) → Prop
  | [] => RB d m df ls st σ Q
  | e :: r => (x = e.1 → RB d m e.2 ls st σ Q) ∧ (¬ x = e.1 → aTsR d m pc x df ls st σ Q r)
theorem RA_ts {df : Int} (h1 : 0 ≤ (pc : Int) + df) : ∀ (offs : List Int) (lo : Int), (∀ o ∈ offs, 0 ≤ (pc : Int) + o) → RA d m pc ls σ Q (aTs pc x df ls st σ lo offs) = aTsR d m pc x ((pc : Int) + df).toNat ls st σ Q (offs.zipIdx.map (fun e => (Int32.ofInt (lo + e.2), ((pc : Int) + e.1).toNat)))
  | [], lo, _ => RA_tg h1 rfl
  | o :: r, lo, h => by
    rw [aTs, RA_if, RA_tg (h o List.mem_cons_self) rfl, RA_ts h1 r (lo + 1) (fun o' ho' => h o' (List.mem_cons_of_mem _ ho'))]
    rw [List.zipIdx_cons, List.map_cons, aTsR]
    simp only [Int.natCast_zero, Int.add_zero]
    congr 3
    rw [List.zipIdx_succ, List.map_map]
    congr 1
    funext e
    simp only [Function.comp]
    congr 2
    omega
theorem RB_ts {df lo hi : Int} {offs : Array Int} {l : List (Int32 × Nat)} {t : Nat} (h : aP m pc = some (.tableswitch df lo hi offs)) (hg : hi - lo + 1 = offs.size ∧ -2147483648 ≤ lo ∧ hi < 2147483648) (h1 : 0 ≤ (pc : Int) + df) (h2 : ∀ o ∈ offs.toList, 0 ≤ (pc : Int) + o) (hl : offs.toList.zipIdx.map (fun e => (Int32.ofInt (lo + e.2), ((pc : Int) + e.1).toNat)) = l) (ht : ((pc : Int) + df).toNat = t) : RB d m pc ls (.int x :: st) σ Q = aTsR d m pc x t ls st σ Q l := by
  subst hl
  subst ht
  rw [RB_eq, h]
  show RA d m pc ls σ Q (if _ then _ else none) = _
  rw [if_pos hg]
  exact RA_ts h1 _ _ h2
theorem RA_tl {df : Int} (h1 : 0 ≤ (pc : Int) + df) : ∀ (ps : List (Int × Int)), (∀ o ∈ ps, 0 ≤ (pc : Int) + o.2) → RA d m pc ls σ Q (aTl pc x df ls st σ ps) = aTsR d m pc x ((pc : Int) + df).toNat ls st σ Q (ps.map (fun e => (Int32.ofInt e.1, ((pc : Int) + e.2).toNat)))
  | [], _ => RA_tg h1 rfl
  | o :: r, h => by
    rw [aTl, RA_if, RA_tg (h o List.mem_cons_self) rfl, RA_tl h1 r (fun o' ho' => h o' (List.mem_cons_of_mem _ ho'))]
    rfl
theorem RB_tl {df : Int} {ps : Array (Int × Int)} {l : List (Int32 × Nat)} {t : Nat} (h : aP m pc = some (.lookupswitch df ps)) (hg : (ps.toList.zip (ps.toList.drop 1)).all (fun (a, next) => a.1 < next.1) = true ∧ ps.toList.all (fun e => decide (-2147483648 ≤ e.1 ∧ e.1 < 2147483648)) = true) (h1 : 0 ≤ (pc : Int) + df) (h2 : ∀ o ∈ ps.toList, 0 ≤ (pc : Int) + o.2) (hl : ps.toList.map (fun e => (Int32.ofInt e.1, ((pc : Int) + e.2).toNat)) = l) (ht : ((pc : Int) + df).toNat = t) : RB d m pc ls (.int x :: st) σ Q = aTsR d m pc x t ls st σ Q l := by
  subst hl
  subst ht
  rw [RB_eq, h]
  show RA d m pc ls σ Q (if _ then _ else none) = _
  rw [if_pos hg]
  exact RA_tl h1 _ h2
section
variable {S : Nat → Nat × Nat} {I : Nat → Nat → Int32} {R : Nat → Nat → Option Nat} {z : Nat × Nat} {κ j : Nat} {f : Bool} {i : Int32}
theorem RB_getI (h : aP m pc = some (.getfield k)) (hk : aLk aFl (aOw m) k = some (κ, j, 0, f)) : RB d m pc ls (.ref a :: st) (S, I, R, z) Q = ((S a).1 = κ ∧ RB d m (pc + 3) ls (.int (I a j) :: st) (S, I, R, z) Q) := by rw [RB_eq, h]; dsimp only [Option.bind_some, aEx]; rw [hk]; exact RA_g
theorem RB_getZ (h : aP m pc = some (.getfield k)) (hk : aLk aFl (aOw m) k = some (κ, j, 2, f)) : RB d m pc ls (.ref a :: st) (S, I, R, z) Q = ((S a).1 = κ ∧ RB d m (pc + 3) ls (.int (I a j) :: st) (S, I, R, z) Q) := by rw [RB_eq, h]; dsimp only [Option.bind_some, aEx]; rw [hk]; exact RA_g
theorem RB_getR (h : aP m pc = some (.getfield k)) (hk : aLk aFl (aOw m) k = some (κ, j, 1, f)) : RB d m pc ls (.ref a :: st) (S, I, R, z) Q = ((S a).1 = κ ∧ RB d m (pc + 3) ls (va_rf (R a j) :: st) (S, I, R, z) Q) := by rw [RB_eq, h]; dsimp only [Option.bind_some, aEx]; rw [hk]; exact RA_g
theorem RB_putI (h : aP m pc = some (.putfield k)) (hk : aLk aFl (aOw m) k = some (κ, j, 0, f)) (hf : f = false ∨ (aIn m = true ∧ aOw m = κ)) : RB d m pc ls (.int x :: .ref a :: st) (S, I, R, z) Q = (((S a).1 = κ ∧ κ < 8 ∧ 16 ≤ a) ∧ RB d m (pc + 3) ls st (S, aW I a j x, R, z) Q) := by
  rw [RB_eq, h]; dsimp only [Option.bind_some, aEx]; rw [hk]; dsimp only; rw [if_pos hf]; exact RA_g
theorem RB_putZ (h : aP m pc = some (.putfield k)) (hk : aLk aFl (aOw m) k = some (κ, j, 2, f)) (hf : f = false ∨ (aIn m = true ∧ aOw m = κ)) : RB d m pc ls (.int x :: .ref a :: st) (S, I, R, z) Q = (((S a).1 = κ ∧ κ < 8 ∧ 16 ≤ a) ∧ (x = 0 ∨ x = 1) ∧ RB d m (pc + 3) ls st (S, aW I a j x, R, z) Q) := by
  rw [RB_eq, h]; dsimp only [Option.bind_some, aEx]; rw [hk]; dsimp only; rw [if_pos hf]; exact RA_g.trans (congrArg (And _) RA_g)
theorem RB_putR (h : aP m pc = some (.putfield k)) (hk : aLk aFl (aOw m) k = some (κ, j, 1, f)) (hf : f = false ∨ (aIn m = true ∧ aOw m = κ)) : RB d m pc ls (.ref b :: .ref a :: st) (S, I, R, z) Q = (((S a).1 = κ ∧ κ < 8 ∧ 16 ≤ a) ∧ RB d m (pc + 3) ls st (S, I, aR R a j (some b), z) Q) := by
  rw [RB_eq, h]; dsimp only [Option.bind_some, aEx]; rw [hk]; dsimp only; rw [if_pos hf]; exact RA_g
theorem RB_gets {v : Value} (h : aP m pc = some (.getstatic k)) (hk : aLk aGl (aOw m) k = some v) : RB d m pc ls st σ Q = RB d m (pc + 3) ls (v :: st) σ Q := by rw [RB_eq, h]; dsimp only [Option.bind_some, aEx]; rw [hk]; rfl
theorem RB_iald (h : aP m pc = some .iaload) : RB d m pc ls (.int i :: .ref a :: st) (S, I, R, z) Q = (((S a).1 = 9 ∧ aIx i (S a).2) ∧ RB d m (pc + 1) ls (.int (I a i.toNatClampNeg) :: st) (S, I, R, z) Q) := by rw [RB_eq, h]; exact RA_g
theorem RB_bald (h : aP m pc = some .baload) : RB d m pc ls (.int i :: .ref a :: st) (S, I, R, z) Q = ((((S a).1 = 10 ∨ (S a).1 = 15) ∧ aIx i (S a).2) ∧ RB d m (pc + 1) ls (.int (I a i.toNatClampNeg) :: st) (S, I, R, z) Q) := by rw [RB_eq, h]; exact RA_g
theorem RB_cald (h : aP m pc = some .caload) : RB d m pc ls (.int i :: .ref a :: st) (S, I, R, z) Q = (((S a).1 = 8 ∧ aIx i (S a).2) ∧ RB d m (pc + 1) ls (.int (I a i.toNatClampNeg) :: st) (S, I, R, z) Q) := by rw [RB_eq, h]; exact RA_g
theorem RB_aald (h : aP m pc = some .aaload) : RB d m pc ls (.int i :: .ref a :: st) (S, I, R, z) Q = (((11 ≤ (S a).1 ∧ (S a).1 ≤ 13) ∧ aIx i (S a).2) ∧ RB d m (pc + 1) ls (va_rf (R a i.toNatClampNeg) :: st) (S, I, R, z) Q) := by rw [RB_eq, h]; exact RA_g
theorem RB_iast (h : aP m pc = some .iastore) : RB d m pc ls (.int x :: .int i :: .ref a :: st) (S, I, R, z) Q = (((S a).1 = 9 ∧ aIx i (S a).2 ∧ 16 ≤ a) ∧ RB d m (pc + 1) ls st (S, aW I a i.toNatClampNeg x, R, z) Q) := by rw [RB_eq, h]; exact RA_g
theorem RB_cast (h : aP m pc = some .castore) : RB d m pc ls (.int x :: .int i :: .ref a :: st) (S, I, R, z) Q = (((S a).1 = 8 ∧ aIx i (S a).2 ∧ 16 ≤ a) ∧ RB d m (pc + 1) ls st (S, aW I a i.toNatClampNeg (vp_nar .char x), R, z) Q) := by rw [RB_eq, h]; exact RA_g
theorem RB_bast (h : aP m pc = some .bastore) : RB d m pc ls (.int x :: .int i :: .ref a :: st) (S, I, R, z) Q = (((S a).1 = 10 ∧ aIx i (S a).2 ∧ 16 ≤ a) ∧ RB d m (pc + 1) ls st (S, aW I a i.toNatClampNeg (vp_nar .boolean x), R, z) Q) := by rw [RB_eq, h]; exact RA_g
theorem RB_aast (h : aP m pc = some .aastore) : RB d m pc ls (.ref b :: .int i :: .ref a :: st) (S, I, R, z) Q = (((11 ≤ (S a).1 ∧ (S a).1 ≤ 13) ∧ aIx i (S a).2 ∧ (S b).1 = aOfK (S a).1) ∧ RB d m (pc + 1) ls st (S, I, aR R a i.toNatClampNeg (some b), z) Q) := by rw [RB_eq, h]; exact RA_g
theorem RB_aastN (h : aP m pc = some .aastore) : RB d m pc ls (.null :: .int i :: .ref a :: st) (S, I, R, z) Q = (((11 ≤ (S a).1 ∧ (S a).1 ≤ 13) ∧ aIx i (S a).2) ∧ RB d m (pc + 1) ls st (S, I, aR R a i.toNatClampNeg none, z) Q) := by rw [RB_eq, h]; exact RA_g
theorem RB_alen (h : aP m pc = some .arraylength) : RB d m pc ls (.ref a :: st) (S, I, R, z) Q = (((8 ≤ (S a).1 ∧ (S a).1 ≤ 13) ∨ (S a).1 = 15) ∧ RB d m (pc + 1) ls (.int (Int32.ofNat (S a).2) :: st) (S, I, R, z) Q) := by rw [RB_eq, h]; exact RA_g
theorem RB_newI (h : aP m pc = some (.newarray .int)) : RB d m pc ls (.int i :: st) σ Q = ((¬ i < 0 ∧ i.toNatClampNeg ≤ 5000) ∧ RB d m (pc + 2) ls (.ref σ.2.2.2.1 :: st) (aNc 9 i.toNatClampNeg σ) Q) := by rw [RB_eq, h]; exact RA_g
theorem RB_newC (h : aP m pc = some (.newarray .char)) : RB d m pc ls (.int i :: st) σ Q = ((¬ i < 0 ∧ i.toNatClampNeg ≤ 5000) ∧ RB d m (pc + 2) ls (.ref σ.2.2.2.1 :: st) (aNc 8 i.toNatClampNeg σ) Q) := by rw [RB_eq, h]; exact RA_g
theorem RB_newZ (h : aP m pc = some (.newarray .boolean)) : RB d m pc ls (.int i :: st) σ Q = ((¬ i < 0 ∧ i.toNatClampNeg ≤ 5000) ∧ RB d m (pc + 2) ls (.ref σ.2.2.2.1 :: st) (aNc 10 i.toNatClampNeg σ) Q) := by rw [RB_eq, h]; exact RA_g
theorem RB_newQ (h : aP m pc = some (.anewarray k)) (hk : aLk aAl (aOw m) k = some κ) : RB d m pc ls (.int i :: st) σ Q = ((¬ i < 0 ∧ i.toNatClampNeg ≤ 5000) ∧ RB d m (pc + 3) ls (.ref σ.2.2.2.1 :: st) (aNc κ i.toNatClampNeg σ) Q) := by rw [RB_eq, h]; dsimp only [Option.bind_some, aEx]; rw [hk]; exact RA_g
theorem RB_new {n : Nat} (h : aP m pc = some (.new k)) (hk : aLk aNl (aOw m) k = some κ) (hn : (aFk.getD κ []).length = n) : RB d m pc ls st σ Q = RB d m (pc + 3) ls (.ref σ.2.2.2.1 :: st) (aNc κ n σ) Q := by rw [RB_eq, h]; dsimp only [Option.bind_some, aEx]; rw [hk, ← hn]; rfl
/-- a call: a static one, and one with a receiver -/
theorem RB_callS {t c n : Nat} {as r : List Value} {ins : Instr} (h : aP m pc = some ins) (hi : aEx m pc ins ls st (S, I, R, z) = aCall1 t m k st (S, I, R, z)) (hk : aLk aMl (aOw m) k = some (t, c, n, 99)) (hn : n ≤ st.length) (hr : (st.drop n).length ≤ 8) (has : (st.take n).reverse = as) (hr2 : st.drop n = r) : RB d m pc ls st (S, I, R, z) Q = RM d c as (S, I, R, z) (fun v τ => RB d m (pc + 3) ls (aPush v r) τ Q) := by
  rw [RB_eq, h]
  subst has
  subst hr2
  dsimp only [Option.bind_some]
  rw [hi]
  unfold aCall1
  rw [hk]
  dsimp only
  rw [if_pos ⟨rfl, hn, hr⟩, if_pos rfl]
  rfl
theorem RB_callV {t c n : Nat} {as r : List Value} {ins : Instr} (h : aP m pc = some ins) (hi : aEx m pc ins ls st (S, I, R, z) = aCall1 t m k st (S, I, R, z)) (hk : aLk aMl (aOw m) k = some (t, c, n, κ)) (hκ : ¬ κ = 99) (hn : n ≤ st.length) (hr : (st.drop n).length ≤ 8) (has : (st.take n).reverse = .ref a :: as) (hr2 : st.drop n = r) : RB d m pc ls st (S, I, R, z) Q = ((S a).1 = κ ∧ RM d c (.ref a :: as) (S, I, R, z) (fun v τ => RB d m (pc + 3) ls (aPush v r) τ Q)) := by
  rw [RB_eq, h]
  subst hr2
  dsimp only [Option.bind_some]
  rw [hi]
  unfold aCall1
  rw [hk]
  dsimp only
  rw [if_pos ⟨rfl, hn, hr⟩, if_neg hκ, has]
  dsimp only
  exact RA_g
end
theorem RB_iret {ty : FieldType} (h : aP m pc = some .ireturn) (hr : aRt m = some ty) (ht : ty = .int) : RB d m pc ls [.int x] σ Q = Q (some (.int x)) σ := by
  subst ht
  rw [RB_eq, h]; dsimp only [Option.bind_some, aEx]; rw [hr]; dsimp only; rw [if_pos ⟨rfl, Or.inl rfl⟩]; rfl
theorem RB_zret {ty : FieldType} (h : aP m pc = some .ireturn) (hr : aRt m = some ty) (ht : ty = .boolean ∨ ty = .char ∨ ty = .byte) : RB d m pc ls [.int x] σ Q = (narrow ty (.int x) = .int x ∧ Q (some (.int x)) σ) := by
  rw [RB_eq, h]; dsimp only [Option.bind_some, aEx]; rw [hr]; dsimp only; rw [RA_g]
  apply propext
  exact ⟨fun q => ⟨q.1.1, q.2⟩, fun q => ⟨⟨q.1, Or.inr ht⟩, q.2⟩⟩
theorem RB_aret {C : String} (h : aP m pc = some .areturn) (hr : aRt m = some (.object C)) : RB d m pc ls [.ref a] σ Q = Q (some (.ref a)) σ := by
  rw [RB_eq, h]; dsimp only [Option.bind_some, aEx]; rw [hr]; rfl
theorem RB_aretN {C : String} (h : aP m pc = some .areturn) (hr : aRt m = some (.object C)) : RB d m pc ls [.null] σ Q = Q (some .null) σ := by
  rw [RB_eq, h]; dsimp only [Option.bind_some, aEx]; rw [hr]; rfl
theorem RB_ret (h : aP m pc = some .return_) (hr : aRt m = none) : RB d m pc ls [] σ Q = Q none σ := by
  rw [RB_eq, h]; dsimp only [Option.bind_some, aEx]; rw [hr]; rfl
theorem RM_obj : RM (d + 1) 1000 [.ref a] σ Q = (16 ≤ a ∧ Q none σ) := by
  apply propext
  constructor
  · rintro ⟨n, v, τ, h, hQ⟩
    rw [aCall, if_pos (by decide), aBi, if_pos rfl, aObj] at h
    by_cases h1 : 16 ≤ a
    · rw [if_pos h1] at h; cases h; exact ⟨h1, hQ⟩
    · rw [if_neg h1] at h; cases h
  · rintro ⟨h1, hQ⟩
    exact ⟨0, none, σ, by rw [aCall, if_pos (by decide), aBi, if_pos rfl, aObj, if_pos h1], hQ⟩
theorem RM_cpy {S : Nat → Nat × Nat} {I : Nat → Nat → Int32} {R : Nat → Nat → Option Nat} {z : Nat × Nat} {sp dp n : Int32} : RM (d + 1) 1001 [.ref a, .int sp, .ref b, .int dp, .int n] (S, I, R, z) Q = (((S a).1 = 9 ∧ (S b).1 = 9 ∧ 16 ≤ a ∧ 16 ≤ b ∧ ¬ sp < 0 ∧ ¬ dp < 0 ∧ ¬ n < 0 ∧ sp.toNatClampNeg + n.toNatClampNeg ≤ (S a).2 ∧ dp.toNatClampNeg + n.toNatClampNeg ≤ (S b).2) ∧ Q none (S, (fun q => if q = b then va_cpy (I a) (I b) sp.toNatClampNeg dp.toNatClampNeg n.toNatClampNeg else I q), R, z)) := by
  apply propext
  constructor
  · rintro ⟨n', v, τ, h, hQ⟩
    rw [aCall, if_pos (by decide), aBi, if_neg (by decide), if_pos rfl, aCopy] at h
    split at h
    · rename_i h1; cases h; exact ⟨h1, hQ⟩
    · cases h
  · rintro ⟨h1, hQ⟩
    exact ⟨0, none, _, by rw [aCall, if_pos (by decide), aBi, if_neg (by decide), if_pos rfl, aCopy, if_pos h1], hQ⟩
theorem RM_max : RM (d + 1) 1002 [.int x, .int y] σ Q = Q (some (.int (if x < y then y else x))) σ := by
  apply propext
  constructor
  · rintro ⟨n, v, τ, h, hQ⟩
    rw [aCall, if_pos (by decide), aBi, if_neg (by decide), if_neg (by decide), if_pos rfl, aMax] at h
    cases h; exact hQ
  · intro hQ
    exact ⟨0, _, _, by rw [aCall, if_pos (by decide), aBi, if_neg (by decide), if_neg (by decide), if_pos rfl, aMax], hQ⟩
theorem RM_min : RM (d + 1) 1003 [.int x, .int y] σ Q = Q (some (.int (if y < x then y else x))) σ := by
  apply propext
  constructor
  · rintro ⟨n, v, τ, h, hQ⟩
    rw [aCall, if_pos (by decide), aBi, if_neg (by decide), if_neg (by decide), if_neg (by decide), if_pos rfl, aMin] at h
    cases h; exact hQ
  · intro hQ
    exact ⟨0, _, _, by rw [aCall, if_pos (by decide), aBi, if_neg (by decide), if_neg (by decide), if_neg (by decide), if_pos rfl, aMin], hQ⟩
theorem aPush_s {v : Value} {r : List Value} : aPush (some v) r = v :: r := rfl
theorem aPush_n {r : List Value} : aPush none r = r := rfl
theorem vrf_s {a : Nat} : va_rf (some a) = .ref a := rfl
theorem vrf_n : va_rf none = .null := rfl
end
