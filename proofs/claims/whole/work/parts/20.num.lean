/-! numbers: nI against Nat; sets as bits -/
theorem n_lit (n : Nat) : (OfNat.ofNat n : Int32) = nI (OfNat.ofNat n) := rfl
theorem n_of (n : Nat) : Int32.ofNat n = nI n := rfl
theorem n_one : (1 : Int32) = nI 1 := rfl
theorem n_an {x y : Int32} : x + -y = x - y := (Int32.sub_eq_add_neg ..).symm
theorem n_le {a b : Nat} (ha : a < 2147483648) (hb : b < 2147483648) : (nI a ≤ nI b) = (a ≤ b) := propext (nI_leI ha hb)
theorem n_lt {a b : Nat} (ha : a < 2147483648) (hb : b < 2147483648) : (nI a < nI b) = (a < b) := propext (nI_ltI ha hb)
theorem n_eq {a b : Nat} (ha : a < 2147483648) (hb : b < 2147483648) : (nI a = nI b) = (a = b) := propext (nI_eq ha hb)
theorem n_lt0 {a : Nat} (ha : a < 2147483648) : (nI a < 0) = False := by
  rw [← nI_0, n_lt ha (by omega)]
  simp
theorem n_le0 {a : Nat} (ha : a < 2147483648) : (0 ≤ nI a) = True := by
  rw [← nI_0, n_le (by omega) ha]
  simp
theorem n_eq0 {a : Nat} (ha : a < 2147483648) : (nI a = 0) = (a = 0) := by
  rw [← nI_0, n_eq ha (by omega)]
theorem n_cl {a : Nat} (ha : a < 2147483648) : (nI a).toNatClampNeg = a := nI_clamp ha
theorem n_ix {a n : Nat} (ha : a < 2147483648) : aIx (nI a) n = (a < n) := by
  unfold aIx
  rw [n_le0 ha, n_cl ha]
  simp
theorem n_ixT {a n : Nat} (h : a < n) (hn : n ≤ 2147483648) : aIx (nI a) n = True := by
  rw [n_ix (Nat.lt_of_lt_of_le h hn)]
  exact eq_true h
theorem n_leT {a b : Nat} (h : a ≤ b) (hb : b < 2147483648) : (nI a ≤ nI b) = True := eq_true (nI_le h hb)
theorem n_leF {a b : Nat} (h : b < a) (ha : a < 2147483648) : (nI a ≤ nI b) = False := eq_false (nI_ge h ha)
theorem n_ltT {a b : Nat} (h : a < b) (hb : b < 2147483648) : (nI a < nI b) = True := eq_true (nI_lt h hb)
theorem n_ltF {a b : Nat} (h : b ≤ a) (ha : a < 2147483648) : (nI a < nI b) = False := eq_false (nI_nlt h ha)
theorem n_eqT {a b : Nat} (h : a = b) : (nI a = nI b) = True := eq_true (congrArg nI h)
theorem n_eqF {a b : Nat} (h : a ≠ b) (ha : a < 2147483648) (hb : b < 2147483648) : (nI a = nI b) = False := eq_false (fun e => h ((nI_eq ha hb).1 e))
theorem nz0 : narrow .boolean (.int (nI 0)) = .int (nI 0) := rfl
theorem nz1 : narrow .boolean (.int (nI 1)) = .int (nI 1) := rfl
theorem n_sub {a b : Nat} (h : b ≤ a) : nI a - nI b = nI (a - b) := pk_sub h
theorem n_div {a d : Nat} (ha : a < 2147483648) (h0 : 0 < d) (hd : d < 2147483648) : nI a / nI d = nI (a / d) := pk_div ha h0 hd
theorem n_mod {a d : Nat} (ha : a < 2147483648) (h0 : 0 < d) (hd : d < 2147483648) : nI a % nI d = nI (a % d) := by
  rw [← irem_eq_mod]
  exact pk_rem ha h0 hd
theorem n_or (a b : Nat) : nI a ||| nI b = nI (a ||| b) := by
  apply Int32.toBitVec_inj.1
  show BitVec.ofNat 32 a ||| BitVec.ofNat 32 b = BitVec.ofNat 32 (a ||| b)
  apply BitVec.eq_of_getLsbD_eq
  intro i hi
  simp [hi]
theorem n_and (a b : Nat) : nI a &&& nI b = nI (a &&& b) := by
  apply Int32.toBitVec_inj.1
  show BitVec.ofNat 32 a &&& BitVec.ofNat 32 b = BitVec.ofNat 32 (a &&& b)
  apply BitVec.eq_of_getLsbD_eq
  intro i hi
  simp [hi]
theorem n_m31 : ∀ w, w < 31 → nI w &&& nI 31 = nI w := by decide +kernel
theorem n_smod : ∀ w, w < 31 → ((nI w).toBitVec.smod 32).toNat = w := by decide +kernel
theorem n_shl {w : Nat} (h : w < 31) : nI 1 <<< (nI w &&& nI 31) = nI (2 ^ w) := by
  rw [n_m31 w h]
  have h2 : (2 : Nat) ^ w < 2 ^ 31 := Nat.pow_lt_pow_right (by decide) h
  rw [pk_shlN _ w (n_smod w h) (by omega), Nat.one_mul]
theorem n_shr {s w : Nat} (hs : s < 2147483648) (h : w < 31) : nI s >>> (nI w &&& nI 31) = nI (s / 2 ^ w) := by
  rw [n_m31 w h]
  exact pk_shrN hs _ w (n_smod w h)
def b2n (b : Bool) : Nat := if b then 1 else 0
theorem n_bit {s w : Nat} (hs : s < 2147483648) (h : w < 31) : (nI s >>> (nI w &&& nI 31)) &&& nI 1 = nI (b2n (s.testBit w)) := by
  rw [n_shr hs h, n_and]
  congr 1
  rw [Nat.and_one_is_mod, Nat.testBit_eq_decide_div_mod_eq]
  unfold b2n
  by_cases e : s / 2 ^ w % 2 = 1
  · simp [e]
  · simp [e]; omega
theorem b2n_1 {b : Bool} : (nI (b2n b) = nI 1) = (b = true) := by cases b <;> decide
theorem b2n_0 {b : Bool} : (nI (b2n b) = nI 0) = (b = false) := by cases b <;> decide
theorem b2n_t : b2n true = 1 := rfl
theorem b2n_f : b2n false = 0 := rfl
def al : Nat → (Nat → Bool) → Bool
  | 0, _ => true
  | n + 1, p => al n p && p n
theorem al_iff {p : Nat → Bool} : ∀ {n}, al n p = true ↔ ∀ k, k < n → p k = true
  | 0 => by simp [al]
  | n + 1 => by
    rw [al, Bool.and_eq_true, al_iff]
    constructor
    · rintro ⟨h1, h2⟩ k hk
      by_cases e : k = n
      · exact e ▸ h2
      · exact h1 k (by omega)
    · intro h
      exact ⟨fun k hk => h k (by omega), h n (by omega)⟩
theorem al_F {p : Nat → Bool} {n k : Nat} (hk : k < n) (h : p k = false) : al n p = false := by
  rcases e : al n p with _ | _
  · rfl
  · rw [al_iff.1 e k hk] at h
    cases h
/-- bits of a predicate -/
def bs : Nat → (Nat → Bool) → Nat
  | 0, _ => 0
  | n + 1, p => bs n p ||| (if p n then 2 ^ n else 0)
def sm : Nat → (Nat → Nat) → Nat
  | 0, _ => 0
  | n + 1, f => sm n f + f n
theorem bs_T {p : Nat → Bool} {n : Nat} (h : p n = true) : bs (n + 1) p = bs n p ||| 2 ^ n := by
  show (bs n p ||| if p n then 2 ^ n else 0) = _
  rw [if_pos h]
theorem bs_F {p : Nat → Bool} {n : Nat} (h : p n = false) : bs (n + 1) p = bs n p := by
  show (bs n p ||| if p n then 2 ^ n else 0) = _
  rw [h]
  exact Nat.or_zero _
theorem bs_lt (p : Nat → Bool) : ∀ n, bs n p < 2 ^ n
  | 0 => Nat.zero_lt_one
  | n + 1 => by
    have h := bs_lt p n
    have h2 : (2 : Nat) ^ n < 2 ^ (n + 1) := Nat.pow_lt_pow_right (by decide) (by omega)
    unfold bs
    apply Nat.or_lt_two_pow
    · omega
    · split <;> omega
theorem bs_bit (p : Nat → Bool) : ∀ n k, (bs n p).testBit k = (decide (k < n) && p k)
  | 0, k => by simp [bs]
  | n + 1, k => by
    unfold bs
    rw [Nat.testBit_or, bs_bit p n k]
    by_cases hk : k = n
    · subst hk
      by_cases hp : p k = true
      · simp [hp, Nat.testBit_two_pow_self]
      · simp [hp]
    · by_cases hp : p n = true
      · rw [if_pos hp, Nat.testBit_two_pow_of_ne (by omega)]
        by_cases h1 : k < n
        · simp [h1, show k < n + 1 by omega]
        · simp [h1, show ¬ k < n + 1 by omega]
      · rw [if_neg hp, Nat.zero_testBit]
        by_cases h1 : k < n
        · simp [h1, show k < n + 1 by omega]
        · simp [h1, show ¬ k < n + 1 by omega]
theorem bs_cong {p q : Nat → Bool} : ∀ {n}, (∀ k, k < n → p k = q k) → bs n p = bs n q
  | 0, _ => rfl
  | n + 1, h => by
    unfold bs
    rw [bs_cong (fun k hk => h k (by omega)), h n (by omega)]
theorem sm_cong {f g : Nat → Nat} : ∀ {n}, (∀ k, k < n → f k = g k) → sm n f = sm n g
  | 0, _ => rfl
  | n + 1, h => by
    unfold sm
    rw [sm_cong (fun k hk => h k (by omega)), h n (by omega)]
theorem sm_le {f : Nat → Nat} {c : Nat} : ∀ {n}, (∀ k, k < n → f k ≤ c) → sm n f ≤ n * c
  | 0, _ => by simp [sm]
  | n + 1, h => by
    have := sm_le (n := n) (fun k hk => h k (by omega))
    have h2 := h n (by omega)
    unfold sm
    rw [Nat.add_mul, Nat.one_mul]
    omega
