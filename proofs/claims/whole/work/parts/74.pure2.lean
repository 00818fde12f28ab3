/-! what holds along the machine's way -/
def cDp : List Int32 → Nat
  | [] => 0
  | c :: C => if 0 ≤ c then cDp C + 1 else if c = -10 then cDp C else cDp C - 1
def cOk (m : Nat) : List Int32 → Prop
  | [] => True
  | c :: C => cOk m C ∧ (if 0 ≤ c then c < nI (10000 + m) else if c = -10 then 1 ≤ cDp C else (2 ≤ cDp C ∧ -10 < c))
def cBn : List Nat → Nat
  | [] => 0
  | h :: H => (if h ≤ 9 then 1 else 0) + cBn H
def cEl (H : List Nat) : Prop := ∀ h, h ∈ H → 1 ≤ h ∧ h ≤ 11
def mCd (m : Nat) (M : MS) : Prop := cOk m M.2.2.1 ∧ cDp M.2.2.1 = (if M.2.2.2.1 = true then 0 else 1) + cBn M.2.1 ∧ cEl M.2.1
section
variable {T : Nat → Nat} {n k : Nat}
theorem neg_facts : ∀ h, h < 12 → 1 ≤ h → ¬ (0 : Int32) ≤ -nI h ∧ (-nI h = -10 ↔ h = 10) ∧ (h ≤ 9 → (-10 : Int32) < -nI h) := by decide
theorem stl_cd {a m : Nat} : ∀ (H : List Nat) (C : List Int32), cOk m C → cDp C = 1 + cBn H → cEl H → cOk m (stl a H C).2 ∧ cDp (stl a H C).2 = 1 + cBn (stl a H C).1 ∧ cEl (stl a H C).1
  | [], C, h1, h2, h3 => ⟨h1, h2, h3⟩
  | x :: H, C, h1, h2, h3 => by
    have h2 : cDp C = 1 + ((if x ≤ 9 then 1 else 0) + cBn H) := h2
    show cOk m (if x = 11 ∨ tRk x < a then (x :: H, C) else stl a H (-nI x :: C)).2 ∧ cDp (if x = 11 ∨ tRk x < a then (x :: H, C) else stl a H (-nI x :: C)).2 = 1 + cBn (if x = 11 ∨ tRk x < a then (x :: H, C) else stl a H (-nI x :: C)).1 ∧ cEl (if x = 11 ∨ tRk x < a then (x :: H, C) else stl a H (-nI x :: C)).1
    by_cases e : x = 11 ∨ tRk x < a
    · rw [if_pos e]
      exact ⟨h1, h2, h3⟩
    · rw [if_neg e]
      have hx := h3 x List.mem_cons_self
      have h11 : x ≠ 11 := fun q => e (Or.inl q)
      obtain ⟨f1, f2, f3⟩ := neg_facts x (by omega) hx.1
      refine stl_cd H (-nI x :: C) ⟨h1, ?_⟩ ?_ (fun y hy => h3 y (List.mem_cons_of_mem _ hy))
      · rw [if_neg f1]
        by_cases e10 : x = 10
        · rw [if_pos (f2.mpr e10)]
          omega
        · rw [if_neg (fun q => e10 (f2.mp q))]
          rw [if_pos (by omega)] at h2
          exact ⟨by omega, f3 (by omega)⟩
      · show (if 0 ≤ -nI x then cDp C + 1 else if -nI x = -10 then cDp C else cDp C - 1) = _
        rw [if_neg f1]
        by_cases e10 : x = 10
        · rw [if_pos (f2.mpr e10)]
          rw [if_neg (by omega)] at h2
          omega
        · rw [if_neg (fun q => e10 (f2.mp q))]
          rw [if_pos (by omega)] at h2
          omega
theorem tOc_9 (c : Nat) : tOc c ≤ 9 := by
  unfold tOc
  repeat' split
  all_goals omega
theorem tOp_9 (t : Tok) : tOp T t ≤ 9 := by
  unfold tOp
  split
  · exact tOc_9 _
  · omega
theorem tOp_3 {t : Tok} (h : tOp T t ≠ 0) : t.2.2.1 = 3 := by
  unfold tOp at h
  split at h
  · assumption
  · exact absurd rfl h
theorem tNm_lt {c i : Nat} (h : tNm k c = some i) : i < sNm k := by
  unfold tNm at h
  unfold sNm
  split at h
  · rename_i e
    rw [if_pos e]
    repeat' split at h
    all_goals first | (cases h; omega) | cases h
  · rename_i e
    rw [if_neg e]
    repeat' split at h
    all_goals first | (cases h; omega) | cases h
theorem tNum_lt {p : Nat} (h : ∀ j, T (p + j) < 256) : ∀ k, k ≤ 4 → (∀ j, j < k → 48 ≤ T (p + j) ∧ T (p + j) ≤ 57) → tNum T p k < 10 ^ k
  | 0, _, _ => (show 0 < 10 ^ 0 from by decide)
  | k + 1, hk, hd => by
    have h1 := tNum_lt h k (by omega) (fun j hj => hd j (by omega))
    have h2 := hd k (by omega)
    show tNum T p k * 10 + T (p + k) - 48 < 10 ^ (k + 1)
    rw [Nat.pow_succ]
    omega
/-- one step: the word at hand is one, what holds goes on -/
theorem mSt_tok {M M' : MS} (h : mSt T n k M = some M') : M.1.2.2.1 ≠ 0 ∧ M'.1 = tNx T n M.1 := by
  obtain ⟨t, H, C, w, te, a⟩ := M
  cases w
  · unfold mSt at h
    dsimp only at h
    split at h
    · rename_i e
      cases h
      exact ⟨by rw [e.1.1]; decide, rfl⟩
    · split at h
      · cases h
      · rename_i e
        cases h
        refine ⟨?_, rfl⟩
        have := tOp_3 (T := T) (t := t) (fun q => e (Or.inl q))
        rw [this]
        decide
  · unfold mSt at h
    dsimp only at h
    split at h
    · rename_i e
      cases h
      exact ⟨by rw [e.1.1]; decide, rfl⟩
    · split at h
      · rename_i e
        cases h
        exact ⟨by rw [e.1.1]; decide, rfl⟩
      · cases e : tPc T k t with
        | none => rw [e] at h; cases h
        | some c =>
          rw [e] at h
          cases h
          refine ⟨fun q => ?_, rfl⟩
          have q : t.2.2.1 = 0 := q
          unfold tPc at e
          rw [q] at e
          simp at e
theorem mSt_ok {M M' : MS} (h : mSt T n k M = some M') (ok : mOk n M) : mOk n M' := by
  obtain ⟨h0, h1⟩ := mSt_tok h
  obtain ⟨tk, o1, o2, o3, o4, o5⟩ := ok
  have hq := tk.2.2.2 h0
  obtain ⟨k1, k2⟩ := tNx_ok (T := T) (n := n) (t := M.1) tk.2.1
  obtain ⟨t, H, C, w, te, a⟩ := M
  obtain ⟨t', H', C', w', te', a'⟩ := M'
  dsimp only at h0 h1 o1 o2 o3 o4 o5 hq k1 k2
  subst h1
  refine ⟨k1, ?_⟩
  show H'.length + C'.length ≤ _ ∧ cNo H' ≤ 8 ∧ cOp H' ≤ 8 ∧ te'.length = cOp H' + 1 ∧ a' ≤ C'.length
  dsimp only
  have hp : t.1 < (tNx T n t).1 := by omega
  have l6 := fun (C : List Int32) => stl_len (a := 6) H C
  have m6 := fun (C : List Int32) => stl_len2 (a := 6) H C
  cases w
  · unfold mSt at h
    dsimp only at h
    split at h
    · rename_i e
      obtain ⟨H1, C1, f1, f2, f3⟩ := stl_0 H C e.2
      rw [f1] at h
      cases h
      have g1 := stl_len (a := 6) H1 C1
      have g2 := stl_len (a := 0) H C
      have g3 := stl_op (a := 6) H1 C1
      have g4 := stl_len2 (a := 6) H1 C1
      have g5 := stl_len2 (a := 0) H C
      rw [f1] at g2 g5
      simp only [List.tail_cons, List.length_cons, List.length_tail] at *
      exact ⟨by omega, by omega, by omega, by omega, by omega⟩
    · split at h
      · cases h
      · rename_i e
        have h9 := tOp_9 (T := T) t
        cases h
        have g1 := stl_len (a := tRk (tOp T t)) H C
        have g2 := stl_len2 (a := tRk (tOp T t)) H C
        have g3 := stl_op (a := tRk (tOp T t)) H C
        show (tOp T t :: _).length + _ ≤ _ ∧ (if tOp T t = 10 then 1 else 0) + cNo _ ≤ 8 ∧ (if tOp T t = 11 then 1 else 0) + cOp _ ≤ 8 ∧ (_ :: te.tail).length = (if tOp T t = 11 then 1 else 0) + cOp _ + 1 ∧ _
        rw [if_neg (by omega), if_neg (by omega)]
        simp only [List.length_cons, List.length_tail]
        exact ⟨by omega, by omega, by omega, by omega, by omega⟩
  · unfold mSt at h
    dsimp only at h
    split at h
    · rename_i e
      cases h
      show (10 :: H).length + _ ≤ _ ∧ (if 10 = 10 then 1 else 0) + cNo H ≤ 8 ∧ (if 10 = 11 then 1 else 0) + cOp H ≤ 8 ∧ te.length = (if 10 = 11 then 1 else 0) + cOp H + 1 ∧ _
      rw [if_pos rfl, if_neg (by decide)]
      simp only [List.length_cons]
      exact ⟨by omega, by omega, by omega, by omega, by omega⟩
    · split at h
      · rename_i e
        cases h
        show (11 :: H).length + _ ≤ _ ∧ (if 11 = 10 then 1 else 0) + cNo H ≤ 8 ∧ (if 11 = 11 then 1 else 0) + cOp H ≤ 8 ∧ (false :: te).length = (if 11 = 11 then 1 else 0) + cOp H + 1 ∧ _
        rw [if_neg (by decide), if_pos rfl]
        simp only [List.length_cons]
        exact ⟨by omega, by omega, by omega, by omega, by omega⟩
      · cases e : tPc T k t with
        | none => rw [e] at h; cases h
        | some c =>
          rw [e] at h
          cases h
          have g1 := stl_len (a := 6) H (nI c :: C)
          have g2 := stl_len2 (a := 6) H (nI c :: C)
          have g3 := stl_op (a := 6) H (nI c :: C)
          simp only [List.length_cons] at g1 g2
          exact ⟨by omega, by omega, by omega, by omega, by omega⟩
/-- the bytes of a word or number are of its kind -/
def tDg (T : Nat → Nat) (n : Nat) (t : Tok) : Prop := ∀ j, t.1 ≤ j → j < t.2.1 → tSo T n j = t.2.2.1
theorem tRn_all {s : Nat} : ∀ (f p j : Nat), p ≤ j → j < tRn T n s f p → tSo T n j = s
  | 0, p, j, h1, h2 => absurd h2 (Nat.not_lt.mpr h1)
  | f + 1, p, j, h1, h2 => by
    have h2 : j < (if p < n ∧ tSo T n p = s then tRn T n s f (p + 1) else p) := h2
    split at h2
    · rename_i e
      by_cases ej : j = p
      · rw [ej]
        exact e.2
      · exact tRn_all f (p + 1) j (by omega) h2
    · omega
theorem tNx_dg (t : Tok) : tDg T n (tNx T n t) := by
  intro j h1 h2
  have h1 : tP T n t.2.1 ≤ j := h1
  have h2 : j < tE T n (tSo T n (tP T n t.2.1)) (tP T n t.2.1) := h2
  show tSo T n j = tSo T n (tP T n t.2.1)
  by_cases ej : j = tP T n t.2.1
  · rw [ej]
  · unfold tE at h2
    split at h2
    · omega
    · split at h2
      · omega
      · exact tRn_all _ _ j (by omega) h2
theorem tSo_2 {p : Nat} (h : tSo T n p = 2) : 48 ≤ T p ∧ T p ≤ 57 := by
  unfold tSo at h
  repeat' split at h
  all_goals first | omega | assumption
theorem tPc_lt {t : Tok} {c : Nat} (hb : ∀ j, T j < 256) (hd : tDg T n t) (h : tPc T k t = some c) : c < 10000 + sNm k := by
  unfold tPc at h
  split at h
  · cases h
  · split at h
    · rename_i e
      cases h
      have := tNum_lt (T := T) (p := t.1) (fun j => hb _) (t.2.1 - t.1) e.2 (fun j hj => tSo_2 (n := n) ((hd (t.1 + j) (by omega) (by omega)).trans e.1))
      have h4 : 10 ^ (t.2.1 - t.1) ≤ 10 ^ 4 := Nat.pow_le_pow_right (by decide) e.2
      omega
    · split at h
      · cases e : tNm k (T t.1) with
        | none => rw [e] at h; cases h
        | some i =>
          rw [e] at h
          cases h
          have := tNm_lt e
          show 10000 + i < 10000 + sNm k
          omega
      · cases h
theorem mSt_cd {M M' : MS} (h : mSt T n k M = some M') (hb : ∀ j, T j < 256) (hd : tDg T n M.1) (cd : mCd (sNm k) M) : mCd (sNm k) M' := by
  obtain ⟨t, H, C, w, te, a⟩ := M
  obtain ⟨c1, c2, c3⟩ := cd
  dsimp only at c1 c2 c3 hd
  cases w
  · rw [if_neg (by decide)] at c2
    unfold mSt at h
    dsimp only at h
    split at h
    · rename_i e
      obtain ⟨H1, C1, f1, f2, f3⟩ := stl_0 H C e.2
      obtain ⟨g1, g2, g3⟩ := stl_cd (a := 0) H C c1 c2 c3
      rw [f1] at h g1 g2 g3
      cases h
      have g2 : cDp C1 = 1 + ((if 11 ≤ 9 then 1 else 0) + cBn H1) := g2
      rw [if_neg (by decide), Nat.zero_add] at g2
      exact stl_cd (a := 6) H1 C1 g1 g2 (fun y hy => g3 y (List.mem_cons_of_mem _ hy))
    · split at h
      · cases h
      · rename_i e
        have h9 := tOp_9 (T := T) t
        cases h
        obtain ⟨g1, g2, g3⟩ := stl_cd (a := tRk (tOp T t)) H C c1 c2 c3
        refine ⟨g1, ?_, fun y hy => ?_⟩
        · show cDp _ = (if true = true then 0 else 1) + ((if tOp T t ≤ 9 then 1 else 0) + cBn _)
          rw [if_pos rfl, if_pos h9, g2]
          omega
        · rcases List.mem_cons.mp hy with q | q
          · exact ⟨by have := fun q => e (Or.inl q); omega, by omega⟩
          · exact g3 y q
  · rw [if_pos rfl, Nat.zero_add] at c2
    unfold mSt at h
    dsimp only at h
    split at h
    · cases h
      refine ⟨c1, ?_, fun y hy => ?_⟩
      · show cDp C = (if true = true then 0 else 1) + ((if 10 ≤ 9 then 1 else 0) + cBn H)
        rw [if_pos rfl, if_neg (by decide), c2]
        omega
      · rcases List.mem_cons.mp hy with q | q
        · exact ⟨by omega, by omega⟩
        · exact c3 y q
    · split at h
      · cases h
        refine ⟨c1, ?_, fun y hy => ?_⟩
        · show cDp C = (if true = true then 0 else 1) + ((if 11 ≤ 9 then 1 else 0) + cBn H)
          rw [if_pos rfl, if_neg (by decide), c2]
          omega
        · rcases List.mem_cons.mp hy with q | q
          · exact ⟨by omega, by omega⟩
          · exact c3 y q
      · cases e : tPc T k t with
        | none => rw [e] at h; cases h
        | some c =>
          rw [e] at h
          cases h
          have hc := tPc_lt (n := n) hb hd e
          have hm : sNm k ≤ 3 := by
            unfold sNm
            split <;> omega
          have h0 : (0 : Int32) ≤ nI c := by rw [← nI_0]; exact nI_le (Nat.zero_le _) (by omega)
          refine stl_cd (a := 6) H (nI c :: C) ⟨c1, ?_⟩ ?_ c3
          · rw [if_pos h0]
            exact nI_lt hc (by omega)
          · show (if 0 ≤ nI c then cDp C + 1 else _) = _
            rw [if_pos h0, c2]
            omega
end
