/-! what the rows of numbers mean -/
/-- an int as a number below 2^32 -/
def uN (x : Int32) : Nat := x.toBitVec.toNat
theorem uN_lt (x : Int32) : uN x < 4294967296 := x.toBitVec.isLt
theorem nI_uN (x : Int32) : nI (uN x) = x := by
  apply Int32.toBitVec_inj.1
  show BitVec.ofNat 32 x.toBitVec.toNat = x.toBitVec
  simp
theorem uN_nI {n : Nat} (h : n < 4294967296) : uN (nI n) = n := pk_tn h
/-- the row that the reference keeps all in -/
def G (I : Nat → Nat → Int32) : Nat → Nat := fun k => uN (I 82 k)
theorem G_eq (I : Nat → Nat → Int32) (k : Nat) : I 82 k = nI (G I k) := (nI_uN _).symm
def sL (g : Nat → Nat) (w p : Nat) : Nat := g (8 + 2 * w) / 6 ^ (3 - p) % 6
def sW (g : Nat → Nat) (w : Nat) : Nat := g (8 + 2 * w + 1)
def sPl (g : Nat → Nat) (w l : Nat) : Nat := bs 4 (fun p => sL g w p == l)
def sLs (g : Nat → Nat) (w : Nat) : Nat := bs 6 (fun l => sPl g w l != 0)
def sFit (g : Nat → Nat) (h a w : Nat) : Bool := al 4 (fun p => sL g w p == sL g h p || (!a.testBit (sL g w p) && !a.testBit (sL g h p)))
def sFits (g : Nat → Nat) (h a : Nat) : Nat := bs (g 1) (fun w => sFit g h a w)
def sNow (g : Nat → Nat) : Nat := if g 3 = 4294967295 then 0 else sFits g (g 3) (g 4)
def sHav (g : Nat → Nat) (s l : Nat) : Nat := bs (g 1) (fun w => s.testBit w && sPl g w l != 0)
def sCls (g : Nat → Nat) (s l q : Nat) : Nat := bs (g 1) (fun w => s.testBit w && sPl g w l == q)
def sWt (g : Nat → Nat) (s : Nat) : Nat := sm (g 1) (fun w => if s.testBit w then sW g w else 0)
def sGr (g : Nat → Nat) (s l : Nat) : Nat → Nat
  | 0 => 0
  | n + 1 => if sWt g (sCls g s l (sGr g s l n)) < sWt g (sCls g s l (n + 1)) then n + 1 else sGr g s l n
def sPop (n s : Nat) : Nat := sm n (fun k => b2n (s.testBit k))
/-! texts: code numbers (below 10000), names (10000 ..), -10 not, the others signs -/
def sTwo (s x y : Int32) : Int32 := if s = -1 then (if x = 0 then (if y = 0 then 0 else 1) else 1) else if s = -2 then (if x = 0 then 0 else if y = 0 then 0 else 1) else if s = -3 then (if x < y then 1 else 0) else if s = -4 then (if x = y then 1 else 0) else if s = -5 then (if y < x then 1 else 0) else if s = -6 then x + y else if s = -7 then x - y else if s = -8 then x * y else if y = 0 then 0 else x / y
def sStep (f : Nat → Int32) (s : Int32) (st : List Int32) : List Int32 :=
  if 0 ≤ s then (if s < 10000 then s else f (s - 10000).toNatClampNeg) :: st
  else if s = -10 then (match st with | x :: r => (if x = 0 then 1 else 0) :: r | [] => [])
  else (match st with | y :: x :: r => sTwo s x y :: r | _ => [])
def sRun (c f : Nat → Int32) : Nat → List Int32
  | 0 => []
  | k + 1 => sStep f (c k) (sRun c f k)
def sD (c : Nat → Int32) : Nat → Nat
  | 0 => 0
  | k + 1 => if 0 ≤ c k then sD c k + 1 else if c k = -10 then sD c k else sD c k - 1
/-- a code of n steps with m names -/
def oC (c : Nat → Int32) (n m : Nat) : Prop := n ≤ 96 ∧ sD c n = 1 ∧ ∀ k, k < n → (if 0 ≤ c k then c k < nI (10000 + m) else if c k = -10 then 1 ≤ sD c k else (2 ≤ sD c k ∧ -10 < c k))
def sCode (g : Nat → Nat) (t : Nat) : Nat → Int32 := fun k => nI (g (76 + 96 * t + k))
def sKey (g : Nat → Nat) (t : Nat) : Nat := g (48 + 2 * t) / 1000
def sLen (g : Nat → Nat) (t : Nat) : Nat := g (48 + 2 * t) % 1000
def sNm (k : Nat) : Nat := if k = 0 then 3 else 2
def sVal (g : Nat → Nat) (t : Nat) (f : Nat → Int32) : Int32 := (sRun (sCode g t) f (sLen g t)).headD 0
/-- the text that counts for a key -/
def sCt (g : Nat → Nat) (key : Nat) : Nat → Option Nat
  | 0 => none
  | n + 1 => if sKey g n = key then some n else sCt g key n
/-- what holds of a row at all times -/
def Ok (g : Nat → Nat) : Prop := g 1 ≤ 12 ∧ g 2 ≤ 8 ∧ ((g 3 = 4294967295 ∧ g 5 = 0) ∨ g 3 < g 1) ∧ g 4 < 64 ∧ (1 ≤ g 6 ∧ g 6 ≤ 9) ∧ g 7 ≤ 14 ∧ (∀ w, w < g 1 → g (8 + 2 * w) < 1296 ∧ 1 ≤ g (8 + 2 * w + 1) ∧ g (8 + 2 * w + 1) ≤ 99) ∧ (∀ a, a < g 2 → g (32 + 2 * a) ≤ 5 ∧ g (32 + 2 * a + 1) ≤ 5) ∧ (∀ t, t < g 7 → g (48 + 2 * t) < 3000 ∧ oC (sCode g t) (sLen g t) (sNm (sKey g t)))
theorem sL_lt (g : Nat → Nat) (w p : Nat) : sL g w p < 6 := Nat.mod_lt _ (by decide)
theorem sPl_lt (g : Nat → Nat) (w l : Nat) : sPl g w l < 16 := bs_lt _ 4
theorem sLs_lt (g : Nat → Nat) (w : Nat) : sLs g w < 64 := bs_lt _ 6
theorem pow_12 {n : Nat} (h : n ≤ 12) : 2 ^ n ≤ 4096 := Nat.pow_le_pow_right (by decide) h
theorem sFits_lt {g : Nat → Nat} (ok : Ok g) (h a : Nat) : sFits g h a < 4096 := Nat.lt_of_lt_of_le (bs_lt _ _) (pow_12 ok.1)
theorem sHav_lt {g : Nat → Nat} (ok : Ok g) (s l : Nat) : sHav g s l < 4096 := Nat.lt_of_lt_of_le (bs_lt _ _) (pow_12 ok.1)
theorem sCls_lt {g : Nat → Nat} (ok : Ok g) (s l q : Nat) : sCls g s l q < 4096 := Nat.lt_of_lt_of_le (bs_lt _ _) (pow_12 ok.1)
theorem sNow_lt {g : Nat → Nat} (ok : Ok g) : sNow g < 4096 := by
  unfold sNow
  split
  · decide
  · exact sFits_lt ok _ _
theorem sW_le {g : Nat → Nat} (ok : Ok g) {w : Nat} (h : w < g 1) : sW g w ≤ 99 := (ok.2.2.2.2.2.2.1 w h).2.2
theorem sWt_le {g : Nat → Nat} (ok : Ok g) (s : Nat) : sWt g s ≤ 1188 := by
  have h1 := ok.1
  have h := sm_le (f := fun w => if s.testBit w then sW g w else 0) (c := 99) (n := g 1) (fun w hw => by
    split
    · exact sW_le ok hw
    · omega)
  unfold sWt
  omega
theorem sGr_le (g : Nat → Nat) (s l : Nat) : ∀ n, sGr g s l n ≤ n
  | 0 => Nat.le_refl 0
  | n + 1 => by
    have := sGr_le g s l n
    unfold sGr
    split <;> omega
theorem sRun_len {c f : Nat → Int32} {n m : Nat} (h : oC c n m) : ∀ k, k ≤ n → (sRun c f k).length = sD c k
  | 0, _ => rfl
  | k + 1, hk => by
    have ih := sRun_len (f := f) h k (by omega)
    have h1 := h.2.2 k (by omega)
    show (sStep f (c k) (sRun c f k)).length = if 0 ≤ c k then sD c k + 1 else if c k = -10 then sD c k else sD c k - 1
    unfold sStep
    by_cases e1 : 0 ≤ c k
    · rw [if_pos e1, if_pos e1, List.length_cons, ih]
    · rw [if_neg e1] at h1
      rw [if_neg e1, if_neg e1]
      by_cases e2 : c k = -10
      · rw [if_pos e2] at h1
        rw [if_pos e2, if_pos e2, ← ih]
        rcases sRun c f k with _ | ⟨x, r⟩
        · rfl
        · rfl
      · rw [if_neg e2] at h1
        rw [if_neg e2, if_neg e2, ← ih]
        rcases sRun c f k with _ | ⟨y, _ | ⟨x, r⟩⟩
        · rfl
        · rfl
        · rfl
theorem sRun_cong {c f f' : Nat → Int32} {n m : Nat} (h : oC c n m) (hf : ∀ j, j < m → f j = f' j) (hm : m ≤ 3) : ∀ k, k ≤ n → sRun c f k = sRun c f' k
  | 0, _ => rfl
  | k + 1, hk => by
    have ih := sRun_cong h hf hm k (by omega)
    have h1 := h.2.2 k (by omega)
    show sStep f (c k) (sRun c f k) = sStep f' (c k) (sRun c f' k)
    rw [ih]
    unfold sStep
    by_cases e1 : 0 ≤ c k
    · rw [if_pos e1] at h1
      rw [if_pos e1, if_pos e1]
      by_cases e2 : c k < 10000
      · rw [if_pos e2, if_pos e2]
      · rw [if_neg e2, if_neg e2]
        rcases nI_of (Int32.not_lt.2 e1) with ⟨j, hj, ej⟩
        rw [ej] at h1 e2 ⊢
        rw [n_lt hj (by omega)] at h1
        rw [n_lit, n_lt hj (by omega)] at e2
        rw [n_lit, n_sub (by omega), n_cl (by omega), hf _ (by omega)]
    · rw [if_neg e1, if_neg e1]
