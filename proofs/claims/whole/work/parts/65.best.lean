/-! the best way of asking, by sets and by words -/
def mx (v : Nat → Nat) : Nat → Nat
  | 0 => 0
  | k + 1 => if mx v k < v k then v k else mx v k
theorem mx_iff {v : Nat → Nat} {X : Nat} : ∀ {n}, mx v n ≤ X ↔ ∀ k, k < n → v k ≤ X
  | 0 => ⟨fun _ k hk => absurd hk (Nat.not_lt_zero _), fun _ => Nat.zero_le _⟩
  | n + 1 => by
    have ih := mx_iff (v := v) (X := X) (n := n)
    unfold mx
    by_cases c : mx v n < v n
    · rw [if_pos c]
      constructor
      · intro h k hk
        by_cases e : k = n
        · exact e ▸ h
        · exact ih.1 (by omega) k (by omega)
      · intro h
        exact h n (by omega)
    · rw [if_neg c]
      constructor
      · intro h k hk
        by_cases e : k = n
        · subst e; omega
        · exact ih.1 h k (by omega)
      · intro h
        exact ih.2 (fun k hk => h k (by omega))
def mnS (c : Nat) (p : Nat → Bool) (v : Nat → Nat) : Nat → Nat
  | 0 => c
  | k + 1 => if p k then mnS c p v k else if v k < mnS c p v k then v k else mnS c p v k
theorem mn_iff {c X : Nat} {p : Nat → Bool} {v : Nat → Nat} : ∀ {n}, X ≤ mnS c p v n ↔ X ≤ c ∧ ∀ k, k < n → p k = false → X ≤ v k
  | 0 => ⟨fun h => ⟨h, fun k hk => absurd hk (Nat.not_lt_zero _)⟩, fun h => h.1⟩
  | n + 1 => by
    have ih := mn_iff (c := c) (p := p) (v := v) (X := X) (n := n)
    unfold mnS
    by_cases b : p n = true
    · rw [if_pos b, ih]
      constructor
      · intro h
        refine ⟨h.1, fun k hk hp => ?_⟩
        by_cases e : k = n
        · rw [e, b] at hp; cases hp
        · exact h.2 k (by omega) hp
      · intro h
        exact ⟨h.1, fun k hk => h.2 k (by omega)⟩
    · have b' : p n = false := by simpa using b
      rw [if_neg b]
      by_cases e : v n < mnS c p v n
      · rw [if_pos e]
        constructor
        · intro h
          have h2 := ih.1 (by omega)
          refine ⟨h2.1, fun k hk hp => ?_⟩
          by_cases e2 : k = n
          · exact e2 ▸ h
          · exact h2.2 k (by omega) hp
        · intro h
          exact h.2 n (by omega) b'
      · rw [if_neg e, ih]
        constructor
        · intro h
          refine ⟨h.1, fun k hk hp => ?_⟩
          by_cases e2 : k = n
          · subst e2
            have := ih.2 h
            omega
          · exact h.2 k (by omega) hp
        · intro h
          exact ⟨h.1, fun k hk => h.2 k (by omega)⟩
def vQ (g : Nat → Nat) (B : Nat → Nat → Nat) (s A l q : Nat) : Nat := if sCls g s l q = 0 then 0 else b2n (q == 0) + B (sCls g s l q) (A ||| 2 ^ l)
def sWb (g : Nat → Nat) (B : Nat → Nat → Nat) (s A l : Nat) : Nat := mx (vQ g B s A l) 16
def sB (g : Nat → Nat) : Nat → Nat → Nat → Nat
  | 0, _, _ => 0
  | f + 1, s, A => if sDone g s A = true then 0 else mnS 99 (fun l => A.testBit l) (fun l => sWb g (sB g f) s A l) 6
theorem un_ex {A : Nat} (hA : A < 64) (h : A ≠ 63) : ∃ l, l < 6 ∧ A.testBit l = false := by
  by_cases e : ∃ l, l < 6 ∧ A.testBit l = false
  · exact e
  · exact absurd (n_all A hA (fun l hl => by
      rcases b : A.testBit l with _ | _
      · exact absurd ⟨l, hl, b⟩ e
      · rfl)) h
theorem b2n_le (b : Bool) : b2n b ≤ 1 := by cases b <;> decide
theorem sB_le (g : Nat → Nat) : ∀ f s A, A < 64 → 6 ≤ f + sPop 6 A → sB g f s A ≤ f
  | 0, _, _, _, _ => Nat.le_refl 0
  | f + 1, s, A, hA, hp => by
    unfold sB
    by_cases e : sDone g s A = true
    · rw [if_pos e]
      exact Nat.zero_le _
    · rw [if_neg e]
      have h63 : A ≠ 63 := fun q => by rw [q, sDone_63] at e; exact e rfl
      obtain ⟨l, hl, hb⟩ := un_ex hA h63
      have h1 := (mn_iff.1 (Nat.le_refl (mnS 99 (fun l => A.testBit l) (fun l => sWb g (sB g f) s A l) 6))).2 l hl hb
      have hp2 := n_add1 A hA l hl hb
      have h2 : sWb g (sB g f) s A l ≤ f + 1 := by
        unfold sWb
        rw [mx_iff]
        intro q _
        unfold vQ
        split
        · exact Nat.zero_le _
        · have := sB_le g f (sCls g s l q) (A ||| 2 ^ l) (n_or64 hA hl) (by omega)
          have := b2n_le (q == 0)
          omega
      omega
theorem sB_le99 (g : Nat → Nat) : ∀ f s A, sB g f s A ≤ 99
  | 0, _, _ => Nat.zero_le _
  | f + 1, s, A => by
    unfold sB
    split
    · exact Nat.zero_le _
    · exact (mn_iff.1 (Nat.le_refl _)).1
theorem sWb_le (g : Nat → Nat) (f s A l : Nat) : sWb g (sB g f) s A l ≤ 100 := by
  unfold sWb
  rw [mx_iff]
  intro q _
  unfold vQ
  split
  · exact Nat.zero_le _
  · have := sB_le99 g f (sCls g s l q) (A ||| 2 ^ l)
    have := b2n_le (q == 0)
    omega
theorem sFit_iff {g : Nat → Nat} {h a k : Nat} : sFit g h a k = true ↔ ∀ l, l < 6 → a.testBit l = true → sPl g h l = sPl g k l := by
  rw [← fT_eq, al_iff]
  constructor
  · intro H l hl hb
    have := H l hl
    unfold fT at this
    rw [hb] at this
    simpa using this
  · intro H l hl
    unfold fT
    rcases b : a.testBit l with _ | _
    · rfl
    · rw [H l hl b]
      simp
theorem sFits_bit {g : Nat → Nat} {h a k : Nat} (hk : k < g 1) : (sFits g h a).testBit k = sFit g h a k := by
  unfold sFits
  rw [bs_bit, decide_eq_true hk, Bool.true_and]
theorem or_bit {A l j : Nat} : (A ||| 2 ^ l).testBit j = (A.testBit j || decide (l = j)) := by
  rw [Nat.testBit_or, Nat.testBit_two_pow]
theorem fit_cls {g : Nat → Nat} {w w' A l : Nat} (hl : l < 6) (hf : sFit g w A w' = true) : sCls g (sFits g w A) l (sPl g w' l) = sFits g w' (A ||| 2 ^ l) := by
  unfold sCls
  show _ = bs (g 1) _
  apply bs_cong
  intro k hk
  rw [sFits_bit hk, Bool.eq_iff_iff, Bool.and_eq_true, beq_iff_eq, sFit_iff, sFit_iff]
  rw [sFit_iff] at hf
  constructor
  · rintro ⟨h1, h2⟩ j hj hb
    rw [or_bit, Bool.or_eq_true, decide_eq_true_eq] at hb
    rcases hb with hb | hb
    · rw [← hf j hj hb, h1 j hj hb]
    · rw [← hb, h2]
  · intro h
    refine ⟨fun j hj hb => ?_, ?_⟩
    · rw [hf j hj hb]
      exact h j hj (by rw [or_bit, hb]; rfl)
    · exact (h l hl (by rw [or_bit]; simp)).symm
theorem sLs_bit {g : Nat → Nat} {w l : Nat} (hl : l < 6) : (sLs g w).testBit l = (sPl g w l != 0) := by
  unfold sLs
  rw [bs_bit, decide_eq_true hl, Bool.true_and]
theorem done_fit {g : Nat → Nat} {w A : Nat} (hw : w < g 1) : sDone g (sFits g w A) A = true ↔ sLs g w &&& A = sLs g w := by
  unfold sDone
  rw [al_iff]
  constructor
  · intro h
    have h1 := h w hw
    unfold fD at h1
    rw [sFits_bit hw, sFit_iff.2 (fun _ _ _ => rfl)] at h1
    simpa using h1
  · intro h k hk
    unfold fD
    rw [sFits_bit hk]
    rcases b : sFit g w A k with _ | _
    · rfl
    · rw [sFit_iff] at b
      have hp : ∀ p, p < 4 → sL g k p = sL g w p := by
        intro p hp
        have x6 := sL_lt g w p
        have b1 : (sPl g w (sL g w p)).testBit p = true := by
          rw [sPl_bit g w _ p hp]
          simp
        have b2 : (sLs g w).testBit (sL g w p) = true := by
          rw [sLs_bit x6, bne_iff_ne]
          intro e
          rw [e, Nat.zero_testBit] at b1
          cases b1
        have b3 : A.testBit (sL g w p) = true := by
          have := congrArg (fun x => x.testBit (sL g w p)) h
          rw [Nat.testBit_and, b2, Bool.true_and] at this
          exact this
        rw [b _ x6 b3, sPl_bit g k _ p hp] at b1
        simpa using b1
      have hpl : ∀ l, sPl g k l = sPl g w l := fun l => by
        apply bs_cong
        intro p hp4
        rw [hp p hp4]
      have hls : sLs g k = sLs g w := by
        apply bs_cong
        intro l _
        rw [hpl l]
      rw [hls, h]
      simp
def sFv (g : Nat → Nat) (A w : Nat) : Nat := sB g (6 - sPop 6 A) (sFits g w A) A
def vW (g T : Nat → Nat) (s l w : Nat) : Nat := if s.testBit w then b2n (sPl g w l == 0) + T w else 0
theorem mx_eq {g : Nat → Nat} {w A l f : Nat} (hA : A < 64) (hl : l < 6) (hb : A.testBit l = false) (hf : f + 1 = 6 - sPop 6 A) : mx (vW g (sFv g (A ||| 2 ^ l)) (sFits g w A) l) (g 1) = sWb g (sB g f) (sFits g w A) A l := by
  have hp2 := n_add1 A hA l hl hb
  have key : ∀ k, k < g 1 → sFit g w A k = true → vW g (sFv g (A ||| 2 ^ l)) (sFits g w A) l k = vQ g (sB g f) (sFits g w A) A l (sPl g k l) := by
    intro k hk hfit
    unfold vW vQ
    rw [sFits_bit hk, hfit, if_pos rfl, fit_cls hl hfit]
    have hne : sFits g k (A ||| 2 ^ l) ≠ 0 := by
      intro e
      have h1 : (sFits g k (A ||| 2 ^ l)).testBit k = true := by
        rw [sFits_bit hk]
        exact sFit_iff.2 (fun _ _ _ => rfl)
      rw [e, Nat.zero_testBit] at h1
      cases h1
    rw [if_neg hne]
    unfold sFv
    rw [show 6 - sPop 6 (A ||| 2 ^ l) = f by omega]
  apply Nat.le_antisymm
  · rw [mx_iff]
    intro k hk
    rcases b : sFit g w A k with _ | _
    · unfold vW
      rw [sFits_bit hk, b]
      exact Nat.zero_le _
    · rw [key k hk b]
      exact mx_iff.1 (Nat.le_refl _) (sPl g k l) (sPl_lt g k l)
  · unfold sWb
    rw [mx_iff]
    intro q hq
    by_cases e : sCls g (sFits g w A) l q = 0
    · unfold vQ
      rw [if_pos e]
      exact Nat.zero_le _
    · obtain ⟨k, hk⟩ := Nat.exists_testBit_of_ne_zero e
      unfold sCls at hk
      rw [bs_bit, Bool.and_eq_true, decide_eq_true_eq, Bool.and_eq_true, beq_iff_eq] at hk
      obtain ⟨k1, k2, k3⟩ := hk
      rw [sFits_bit k1] at k2
      rw [← k3, ← key k k1 k2]
      exact mx_iff.1 (Nat.le_refl _) k k1
theorem sFv_eq {g : Nat → Nat} {w A f : Nat} (hw : w < g 1) (hA : A < 64) (hf : f + 1 = 6 - sPop 6 A) (hd : ¬ sLs g w &&& A = sLs g w) : sFv g A w = mnS 6 (fun l => A.testBit l) (fun l => mx (vW g (sFv g (A ||| 2 ^ l)) (sFits g w A) l) (g 1)) 6 := by
  have hnd : ¬ sDone g (sFits g w A) A = true := fun q => hd ((done_fit hw).1 q)
  have h63 : A ≠ 63 := fun q => by rw [q] at hnd; exact hnd (sDone_63 _ _)
  unfold sFv
  rw [← hf]
  show (if sDone g (sFits g w A) A = true then 0 else _) = _
  rw [if_neg hnd]
  have ev : ∀ l, l < 6 → A.testBit l = false → mx (vW g (sFv g (A ||| 2 ^ l)) (sFits g w A) l) (g 1) = sWb g (sB g f) (sFits g w A) A l := fun l hl hb => mx_eq hA hl hb hf
  obtain ⟨l0, hl0, hb0⟩ := un_ex hA h63
  have hle : sWb g (sB g f) (sFits g w A) A l0 ≤ 6 := by
    unfold sWb
    rw [mx_iff]
    intro q _
    unfold vQ
    have hp2 := n_add1 A hA l0 hl0 hb0
    split
    · exact Nat.zero_le _
    · have := sB_le g f (sCls g (sFits g w A) l0 q) (A ||| 2 ^ l0) (n_or64 hA hl0) (by omega)
      have := b2n_le (q == 0)
      omega
  apply Nat.le_antisymm
  · have h1 := mn_iff.1 (Nat.le_refl (mnS 99 (fun l => A.testBit l) (fun l => sWb g (sB g f) (sFits g w A) A l) 6))
    rw [mn_iff]
    refine ⟨Nat.le_trans (h1.2 l0 hl0 hb0) hle, fun l hl hb => ?_⟩
    exact Nat.le_trans (h1.2 l hl hb) (Nat.le_of_eq (ev l hl hb).symm)
  · have h1 := mn_iff.1 (Nat.le_refl (mnS 6 (fun l => A.testBit l) (fun l => mx (vW g (sFv g (A ||| 2 ^ l)) (sFits g w A) l) (g 1)) 6))
    refine mn_iff.2 ⟨Nat.le_trans h1.1 (by decide), fun l hl hb => ?_⟩
    have := h1.2 l hl hb
    rw [ev l hl hb] at this
    exact this
/-- who fits behind more letters fits -/
theorem fit_mono {g : Nat → Nat} {h w k A0 A : Nat} (h1 : sFit g h A0 w = true) (hA : ∀ l, l < 6 → A0.testBit l = true → A.testBit l = true) (h2 : sFit g w A k = true) : sFit g h A0 k = true := by
  rw [sFit_iff] at h1 h2 ⊢
  intro l hl hb
  rw [h1 l hl hb]
  exact h2 l hl (hA l hl hb)
