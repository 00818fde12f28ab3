section
variable {E : aEnv} {M : Nat} {p : Program} {l : Launch} {e : Env} {R : Room} {s : State} {m : MethodId} {args : Array Value} {below : List Frame} {meth : Method} {c : Code} {H : Heap} {locs : List Loc} {cells slots : Nat} {Q : State → Prop}
variable {pc : Nat} {ls st : List Value} {lsC : Array Slot} {σ : HS} {pc' : Nat} {ls' st' : List Value} {σ' : HS}
/-- which acts go on -/
def aGo (act : HA) (σ : HS) : Prop := ∃ pc' ls' st' σ', act = .inl (pc', ls', st', σ') ∧ σ.2.2.2.1 ≤ σ'.2.2.2.1 ∧ σ.2.2.2.2 ≤ σ'.2.2.2.2
theorem go_nx {act : HA} {σ σ' : HS} (ht : σ.2.2.2.1 ≤ σ'.2.2.2.1 ∧ σ.2.2.2.2 ≤ σ'.2.2.2.2) (h : aNx pc ls st σ' = some act) : aGo act σ := by
  unfold aNx at h
  cases h
  exact ⟨_, _, _, _, rfl, ht⟩
theorem go_tg {act : HA} {off : Int} (h : aTg pc off ls st σ = some act) : aGo act σ := by
  unfold aTg at h
  split at h
  · cases h
    exact ⟨_, _, _, _, rfl, Nat.le_refl _, Nat.le_refl _⟩
  · cases h
theorem go_ts {act : HA} {x : Int32} {d : Int} : ∀ {offs : List Int} {lo : Int}, aTs pc x d ls st σ lo offs = some act → aGo act σ
  | [], _, h => go_tg h
  | o :: r, lo, h => by
    unfold aTs at h
    split at h
    · exact go_tg h
    · exact go_ts h
theorem go_tl {act : HA} {x : Int32} {d : Int} : ∀ {ps : List (Int × Int)}, aTl pc x d ls st σ ps = some act → aGo act σ
  | [], h => go_tg h
  | o :: r, h => by
    unfold aTl at h
    split at h
    · exact go_tg h
    · exact go_tl h
theorem go_nr {act : HA} {κ : Nat} {n : Int32} (h : aNr κ n pc ls st σ = some act) : aGo act σ := by
  unfold aNr at h
  split at h
  · exact go_nx ⟨Nat.le_succ _, Nat.le_add_right _ _⟩ h
  · cases h
theorem go_st {act : HA} {κ a : Nat} {i x : Int32} (h : aSt1 κ a i x pc ls st σ = some act) : aGo act σ := by
  unfold aSt1 at h
  split at h
  · refine go_nx ?_ h
    exact ⟨Nat.le_refl _, Nat.le_refl _⟩
  · cases h
theorem go_pf {act : HA} {κ a j t : Nat} {v : Value} (h : aPf κ a j t v σ (fun τ => aNx pc ls st τ) = some act) : aGo act σ := by
  unfold aPf at h
  split at h
  · split at h
    · exact go_nx (by exact ⟨Nat.le_refl _, Nat.le_refl _⟩) h
    · split at h
      · exact go_nx (by exact ⟨Nat.le_refl _, Nat.le_refl _⟩) h
      · cases h
    · exact go_nx (by exact ⟨Nat.le_refl _, Nat.le_refl _⟩) h
    · cases h
  · cases h
def aInv (i : Instr) : Bool := match i with | .invokevirtual _ | .invokestatic _ | .invokespecial _ => true | _ => false
def aRts (i : Instr) : Bool := match i with | .ireturn | .areturn | .return_ => true | _ => false
theorem ex_kind {i : Instr} {act : HA} (h : aEx M pc i ls st σ = some act) : aGo act σ ∨ aInv i = true ∨ aRts i = true := by
  cases i
  all_goals first
    | exact Or.inr (Or.inl rfl)
    | exact Or.inr (Or.inr rfl)
    | (refine Or.inl ?_
       dsimp only [aEx] at h
       first
         | (cases h; done)
         | exact go_nx ⟨Nat.le_refl _, Nat.le_refl _⟩ h
         | exact go_tg h
         | (repeat' split at h
            all_goals first
              | (cases h; done)
              | exact go_nx ⟨Nat.le_refl _, Nat.le_refl _⟩ h
              | exact go_nx ⟨Nat.le_succ _, Nat.le_add_right _ _⟩ h
              | (refine go_nx ?_ h; exact ⟨Nat.le_refl _, Nat.le_refl _⟩)
              | exact go_tg h
              | exact go_ts h
              | exact go_tl h
              | exact go_nr h
              | exact go_st h
              | exact go_pf h))
/-- a call's act -/
theorem call_inv {t k : Nat} {act : HA} (h : aCall1 t M k st σ = some act) : ∃ cal n κ, aLk aMl (aOw M) k = some (t, cal, n, κ) ∧ n ≤ st.length ∧ (st.drop n).length ≤ 8 ∧ act = .inr (.inl (cal, (st.take n).reverse, st.drop n)) ∧ (κ = 99 ∨ (κ ≠ 99 ∧ ∃ a r, (st.take n).reverse = .ref a :: r ∧ (σ.1 a).1 = κ)) := by
  unfold aCall1 at h
  split at h
  · rename_i t' cal n κ hk
    split at h
    · rename_i hg
      obtain ⟨rfl, h1, h2⟩ := hg
      split at h
      · rename_i h3
        cases h
        exact ⟨_, _, _, hk, h1, h2, rfl, Or.inl h3⟩
      · rename_i h3
        split at h
        · rename_i a r h4
          split at h
          · rename_i h5
            cases h
            exact ⟨_, _, _, hk, h1, h2, rfl, Or.inr ⟨h3, a, r, h4, h5⟩⟩
          · cases h
        · cases h
    · cases h
  · cases h
theorem bi_top {cal : Nat} {as : List Value} {x : HR} (h : aBi cal as σ = some x) : x.2.2.2.2 = σ.2.2.2 ∧ ∀ w, x.1 = some w → w.category = 1 := by
  unfold aBi at h
  split at h
  · unfold aObj at h
    repeat' split at h
    all_goals first | (cases h; done) | (cases h; exact ⟨rfl, fun w hw => by cases hw⟩)
  · split at h
    · unfold aCopy at h
      repeat' split at h
      all_goals first | (cases h; done) | (cases h; exact ⟨rfl, fun w hw => by cases hw⟩)
    · split at h
      · unfold aMax at h
        repeat' split at h
        all_goals first | (cases h; done) | (cases h; exact ⟨rfl, fun w hw => by cases hw; rfl⟩)
      · split at h
        · unfold aMin at h
          repeat' split at h
          all_goals first | (cases h; done) | (cases h; exact ⟨rfl, fun w hw => by cases hw; rfl⟩)
        · cases h
/-- the act of a return -/
def aRe (M pc : Nat) (st : List Value) (v : Option Value) : Prop := (aP M pc = some .ireturn ∧ ∃ (x : Int32) (ty : FieldType), st = [.int x] ∧ v = some (.int x) ∧ aRt M = some ty ∧ narrow ty (.int x) = .int x ∧ (ty = .int ∨ ty = .boolean ∨ ty = .char ∨ ty = .byte)) ∨ (aP M pc = some .areturn ∧ ∃ (o : Value) (n : String), st = [o] ∧ v = some o ∧ aRt M = some (.object n) ∧ (o = .null ∨ ∃ a, o = .ref a)) ∨ (aP M pc = some .return_ ∧ st = [] ∧ v = none ∧ aRt M = none)
theorem ret_inv {i : Instr} {act : HA} (hi : aP M pc = some i) (hr : aRts i = true) (h : aEx M pc i ls st σ = some act) : ∃ v, act = .inr (.inr (v, σ)) ∧ aRe M pc st v ∧ ∀ w, v = some w → w.category = 1 := by
  cases i
  all_goals first
    | (cases hr; done)
    | skip
  · dsimp only [aEx] at h
    split at h
    · rename_i a n hn
      cases h
      exact ⟨_, rfl, Or.inr (Or.inl ⟨hi, _, _, rfl, rfl, hn, Or.inr ⟨_, rfl⟩⟩), fun w hw => by cases hw; rfl⟩
    · rename_i n hn
      cases h
      exact ⟨_, rfl, Or.inr (Or.inl ⟨hi, _, _, rfl, rfl, hn, Or.inl rfl⟩), fun w hw => by cases hw; rfl⟩
    · cases h
  · dsimp only [aEx] at h
    split at h
    · rename_i x ty hty
      split at h
      · rename_i hg
        cases h
        exact ⟨_, rfl, Or.inl ⟨hi, _, _, rfl, rfl, hty, hg.1, hg.2⟩, fun w hw => by cases hw; rfl⟩
      · cases h
    · cases h
  · dsimp only [aEx] at h
    split at h
    · rename_i hn
      cases h
      exact ⟨_, rfl, Or.inr (Or.inr ⟨hi, rfl, rfl, hn⟩), fun w hw => by cases hw⟩
    · cases h
theorem inv_inv {i : Instr} {act : HA} (hv : aInv i = true) (h : aEx M pc i ls st σ = some act) : ∃ k t, i = (if t = 0 then .invokevirtual k else if t = 1 then .invokestatic k else .invokespecial k) ∧ t ≤ 2 ∧ aCall1 t M k st σ = some act := by
  cases i
  all_goals first
    | (cases hv; done)
    | skip
  · exact ⟨_, 2, rfl, by decide, h⟩
  · exact ⟨_, 1, rfl, by decide, h⟩
  · exact ⟨_, 0, rfl, by decide, h⟩
/-- what a run leaves: at least as many cells; an answer of one slot -/
theorem aRun_top : ∀ (n d M pc : Nat) (ls st : List Value) (σ : HS) (x : HR), aRun n d M pc ls st σ = some x → σ.2.2.2.1 ≤ x.2.2.2.2.1 ∧ σ.2.2.2.2 ≤ x.2.2.2.2.2 ∧ ∀ w, x.1 = some w → w.category = 1 := by
  intro n
  induction n with
  | zero => intro d M pc ls st σ x h; cases h
  | succ n ih =>
    intro d M pc ls st σ x h
    rw [aRun] at h
    cases hp : aP M pc with
    | none => rw [hp] at h; cases h
    | some i =>
      rw [hp, Option.bind_some] at h
      cases ha : aEx M pc i ls st σ with
      | none => rw [ha] at h; cases h
      | some act =>
        rw [ha] at h
        rcases ex_kind ha with hg | hg | hg
        · obtain ⟨pc', ls', st', σ', rfl, h1, h2⟩ := hg
          have := ih _ _ _ _ _ _ _ h
          exact ⟨Nat.le_trans h1 this.1, Nat.le_trans h2 this.2.1, this.2.2⟩
        · obtain ⟨k, t, -, -, hc⟩ := inv_inv hg ha
          obtain ⟨cal, nn, κ, -, -, -, rfl, -⟩ := call_inv hc
          dsimp only at h
          cases hcc : aCall (fun d' c' ls' σ' => aRun n d' c' 0 ls' [] σ') d cal (st.take nn).reverse σ with
          | none => rw [hcc] at h; cases h
          | some z =>
            rw [hcc] at h
            have h2 := ih _ _ _ _ _ _ _ h
            have h3 : σ.2.2.2.1 ≤ z.2.2.2.2.1 ∧ σ.2.2.2.2 ≤ z.2.2.2.2.2 := by
              cases d with
              | zero => cases hcc
              | succ d =>
                rw [aCall] at hcc
                split at hcc
                · have := (bi_top hcc).1
                  rw [this]
                  exact ⟨Nat.le_refl _, Nat.le_refl _⟩
                · split at hcc
                  · have := ih _ _ _ _ _ _ _ hcc
                    exact ⟨this.1, this.2.1⟩
                  · cases hcc
            exact ⟨Nat.le_trans h3.1 h2.1, Nat.le_trans h3.2 h2.2.1, h2.2.2⟩
        · obtain ⟨v, rfl, -, hcat⟩ := ret_inv hp hg ha
          cases h
          exact ⟨Nat.le_refl _, Nat.le_refl _, hcat⟩
end
section
variable {E : aEnv} {M : Nat} {p : Program} {l : Launch} {e : Env} {R : Room} {s : State} {m : MethodId} {args : Array Value} {below : List Frame} {meth : Method} {c : Code} {H : Heap} {locs : List Loc} {cells slots : Nat} {Q : State → Prop}
variable {pc : Nat} {ls st : List Value} {lsC : Array Slot} {σ : HS} {pc' : Nat} {ls' st' : List Value} {σ' : HS}
theorem eKs (kk : eK E M p l e R s m args below meth c Q (cells + (σ.2.2.2.1 - σ.2.2.2.1)) (slots + (σ.2.2.2.2 - σ.2.2.2.2)) pc' ls' st' σ') : eK E M p l e R s m args below meth c Q cells slots pc' ls' st' σ' := by
  rw [Nat.sub_self, Nat.sub_self] at kk
  exact kk
theorem ts_inv {x : Int32} {d : Int} : ∀ {offs : List Int} {lo : Int}, aTs pc x d ls st σ lo offs = some (.inl (pc', ls', st', σ')) → (∃ (j : Nat) (o : Int), offs[j]? = some o ∧ x = Int32.ofInt (lo + j) ∧ aTg pc o ls st σ = some (.inl (pc', ls', st', σ'))) ∨ ((∀ j : Nat, j < offs.length → ¬ x = Int32.ofInt (lo + j)) ∧ aTg pc d ls st σ = some (.inl (pc', ls', st', σ')))
  | [], lo, h => Or.inr ⟨fun j hj => absurd hj (Nat.not_lt_zero j), h⟩
  | o :: r, lo, h => by
    unfold aTs at h
    split at h
    · rename_i hx
      exact Or.inl ⟨0, o, rfl, by simpa using hx, h⟩
    · rename_i hx
      rcases ts_inv h with ⟨j, o', h1, h2, h3⟩ | ⟨h1, h2⟩
      · exact Or.inl ⟨j + 1, o', h1, by rw [h2]; congr 1; omega, h3⟩
      · refine Or.inr ⟨fun j hj => ?_, h2⟩
        cases j with
        | zero => simpa using hx
        | succ j =>
          have := h1 j (by simpa using hj)
          rw [show lo + ((j + 1 : Nat) : Int) = lo + 1 + (j : Int) by omega]
          exact this
theorem ofI_toInt {z : Int} (h1 : -2147483648 ≤ z) (h2 : z < 2147483648) : (Int32.ofInt z).toInt = z := Int32.toInt_ofInt_of_le (by simpa using h1) (by simpa using h2)
theorem ofI_eq {x : Int32} {z : Int} (h1 : -2147483648 ≤ z) (h2 : z < 2147483648) : x = Int32.ofInt z ↔ x.toInt = z := by
  constructor
  · rintro rfl
    exact ofI_toInt h1 h2
  · intro h
    rw [← h, Int32.ofInt_toInt]
theorem tl_inv {x : Int32} {d : Int} : ∀ {ps : List (Int × Int)}, (ps.all (fun e => decide (-2147483648 ≤ e.1 ∧ e.1 < 2147483648)) = true) → aTl pc x d ls st σ ps = some (.inl (pc', ls', st', σ')) → aTg pc (Op.lookupswitch.offset ps d x.toInt) ls st σ = some (.inl (pc', ls', st', σ'))
  | [], _, h => h
  | o :: r, hr, h => by
    simp only [List.all_cons, Bool.and_eq_true, decide_eq_true_eq] at hr
    unfold aTl at h
    rw [show (o :: r) = (o.1, o.2) :: r from rfl, Op.lookupswitch.offset_cons]
    split at h
    · rename_i hx
      rw [if_pos ((ofI_eq hr.1.1 hr.1.2).mp hx).symm]
      exact h
    · rename_i hx
      rw [if_neg (fun q => hx ((ofI_eq hr.1.1 hr.1.2).mpr q.symm))]
      exact tl_inv hr.2 h
theorem aG_zip : ∀ e ∈ aGl, (∃ q ∈ aGl.zip aGn, q.1 = e) ∧ e.2.category = 1 := by decide +kernel
theorem ln1 {n : Nat} (h : (n == 1) = true) : n = 1 := by simpa using h
theorem ln2 {n : Nat} (h : (n == 2) = true) : n = 2 := by simpa using h
theorem ln3 {n : Nat} (h : (n == 3) = true) : n = 3 := by simpa using h
theorem aFk_get : ∀ k, k < 8 → (aFk.getD k []).length = aNf k := by decide +kernel
theorem aP_mem {i : Instr} (h : aP M pc = some i) : ∃ n, (pc, i, n) ∈ aGet [] aGs M := by
  unfold aP at h
  generalize aGet [] aGs M = g at h
  induction g with
  | nil => cases h
  | cons x r ih =>
    unfold aPi at h
    cases hb : Nat.beq x.1 pc with
    | false =>
      rw [hb] at h
      obtain ⟨n, hn⟩ := ih h
      exact ⟨n, List.mem_cons_of_mem _ hn⟩
    | true =>
      rw [hb] at h
      simp only [cond_true, Option.some.injEq] at h
      obtain ⟨a, b, d⟩ := x
      have := Nat.beq_eq.mp hb
      dsimp only at this h
      subst this
      subst h
      exact ⟨d, List.mem_cons_self⟩
theorem aGet_mem {α : Type} {d : α} : ∀ {l : List α} {k : Nat}, aGet d l k ∈ l ∨ aGet d l k = d
  | [], _ => Or.inr rfl
  | a :: _, 0 => Or.inl List.mem_cons_self
  | _ :: r, k + 1 => by
    rcases aGet_mem (l := r) (k := k) with h | h
    · exact Or.inl (List.mem_cons_of_mem _ h)
    · exact Or.inr h
def aJk (e : Nat × Instr × Nat) : Bool := match e.2.1 with | .ifCond _ off => decide (0 ≤ (e.1 : Int) + off) | .if_icmp _ off => decide (0 ≤ (e.1 : Int) + off) | _ => true
theorem aJk_ok : ∀ g ∈ aGs, ∀ e ∈ g, aJk e = true := by decide +kernel
def aOff (i : Instr) : Option Int := match i with | .ifCond _ off => some off | .if_icmp _ off => some off | _ => none
theorem aJ_ok {i : Instr} {off : Int} (hp : aP M pc = some i) (h : aOff i = some off) : ∃ tg : Nat, (pc : Int) + off = (tg : Int) := by
  obtain ⟨n, hn⟩ := aP_mem hp
  have hk : aJk (pc, i, n) = true := by
    rcases aGet_mem (d := ([] : List (Nat × Instr × Nat))) (l := aGs) (k := M) with q | q
    · exact aJk_ok _ q _ hn
    · rw [q] at hn
      exact absurd hn List.not_mem_nil
  unfold aJk at hk
  unfold aOff at h
  cases i <;> first | (cases h; done) | (cases h; dsimp only at hk; exact ⟨((pc : Int) + off).toNat, by have := of_decide_eq_true hk; omega⟩)
set_option maxHeartbeats 4000000 in
theorem ex_next {i : Instr} (hC : eCx E M p s m args meth c) (hI : eIn E M s ls st lsC σ H locs) (hp : aP M pc = some i) (ha : aEx M pc i ls st σ = some (.inl (pc', ls', st', σ'))) (hc1 : cells + (σ'.2.2.2.1 - σ.2.2.2.1) ≤ R.cells) (hc2 : slots + (σ'.2.2.2.2 - σ.2.2.2.2) ≤ R.slots)
    (kk : eK E M p l e R s m args below meth c Q (cells + (σ'.2.2.2.1 - σ.2.2.2.1)) (slots + (σ'.2.2.2.2 - σ.2.2.2.2)) pc' ls' st' σ') : W p l e R s m args below meth c H locs cells slots Q (F0 m pc lsC (st.map (eCv E))) := by
  obtain ⟨hx, hb, hr, hml, hown, hts, hlk, hin, hK, hSt, hbase, hM⟩ := id hC
  obtain ⟨n, hd, hn⟩ := dec_at hM hp
  cases i
  case iadd =>
    dsimp only [aEx] at ha
    split at ha
    case h_2 => cases ha
    obtain ⟨rfl, rfl, rfl, rfl⟩ := nx_inv ha
    obtain rfl := ln1 hn
    exact lv_iadd hx hb hd (eKs kk H locs lsC (eIn_st hI rfl rfl (cat_cons rfl (cat_tl (cat_tl hI.2.2.2)))))
  case isub =>
    dsimp only [aEx] at ha
    split at ha
    case h_2 => cases ha
    obtain ⟨rfl, rfl, rfl, rfl⟩ := nx_inv ha
    obtain rfl := ln1 hn
    exact lv_isub hx hb hd (eKs kk H locs lsC (eIn_st hI rfl rfl (cat_cons rfl (cat_tl (cat_tl hI.2.2.2)))))
  case imul =>
    dsimp only [aEx] at ha
    split at ha
    case h_2 => cases ha
    obtain ⟨rfl, rfl, rfl, rfl⟩ := nx_inv ha
    obtain rfl := ln1 hn
    exact lv_imul hx hb hd (eKs kk H locs lsC (eIn_st hI rfl rfl (cat_cons rfl (cat_tl (cat_tl hI.2.2.2)))))
  case iand =>
    dsimp only [aEx] at ha
    split at ha
    case h_2 => cases ha
    obtain ⟨rfl, rfl, rfl, rfl⟩ := nx_inv ha
    obtain rfl := ln1 hn
    exact lv_iand hx hb hd (eKs kk H locs lsC (eIn_st hI rfl rfl (cat_cons rfl (cat_tl (cat_tl hI.2.2.2)))))
  case ior =>
    dsimp only [aEx] at ha
    split at ha
    case h_2 => cases ha
    obtain ⟨rfl, rfl, rfl, rfl⟩ := nx_inv ha
    obtain rfl := ln1 hn
    exact lv_ior hx hb hd (eKs kk H locs lsC (eIn_st hI rfl rfl (cat_cons rfl (cat_tl (cat_tl hI.2.2.2)))))
  case ixor =>
    dsimp only [aEx] at ha
    split at ha
    case h_2 => cases ha
    obtain ⟨rfl, rfl, rfl, rfl⟩ := nx_inv ha
    obtain rfl := ln1 hn
    exact lv_ixor hx hb hd (eKs kk H locs lsC (eIn_st hI rfl rfl (cat_cons rfl (cat_tl (cat_tl hI.2.2.2)))))
  case ishl =>
    dsimp only [aEx] at ha
    split at ha
    case h_2 => cases ha
    obtain ⟨rfl, rfl, rfl, rfl⟩ := nx_inv ha
    obtain rfl := ln1 hn
    exact lv_ishl hx hb hd (eKs kk H locs lsC (eIn_st hI rfl rfl (cat_cons rfl (cat_tl (cat_tl hI.2.2.2)))))
  case ishr =>
    dsimp only [aEx] at ha
    split at ha
    case h_2 => cases ha
    obtain ⟨rfl, rfl, rfl, rfl⟩ := nx_inv ha
    obtain rfl := ln1 hn
    exact lv_ishr hx hb hd (eKs kk H locs lsC (eIn_st hI rfl rfl (cat_cons rfl (cat_tl (cat_tl hI.2.2.2)))))
  case iushr =>
    dsimp only [aEx] at ha
    split at ha
    case h_2 => cases ha
    obtain ⟨rfl, rfl, rfl, rfl⟩ := nx_inv ha
    obtain rfl := ln1 hn
    exact lv_iushr hx hb hd rfl (eKs kk H locs lsC (eIn_st hI rfl rfl (cat_cons rfl (cat_tl (cat_tl hI.2.2.2)))))
  case idiv =>
    dsimp only [aEx] at ha
    split at ha
    case h_2 => cases ha
    split at ha
    case isFalse => cases ha
    rename_i hy
    obtain ⟨rfl, rfl, rfl, rfl⟩ := nx_inv ha
    obtain rfl := ln1 hn
    exact lv_idiv hx hb hd hy (eKs kk H locs lsC (eIn_st hI rfl rfl (cat_cons rfl (cat_tl (cat_tl hI.2.2.2)))))
  case irem =>
    dsimp only [aEx] at ha
    split at ha
    case h_2 => cases ha
    rename_i y x r
    split at ha
    case isFalse => cases ha
    rename_i hy
    obtain ⟨rfl, rfl, rfl, rfl⟩ := nx_inv ha
    obtain rfl := ln1 hn
    have k0 := eKs kk H locs lsC (eIn_st hI rfl rfl (cat_cons rfl (cat_tl (cat_tl hI.2.2.2))))
    rw [← irem_eq_mod] at k0
    exact lv_irem hx hb hd hy k0
  case ineg =>
    dsimp only [aEx] at ha
    split at ha
    case h_2 => cases ha
    obtain ⟨rfl, rfl, rfl, rfl⟩ := nx_inv ha
    obtain rfl := ln1 hn
    exact lv_ineg hx hb hd (eKs kk H locs lsC (eIn_st hI rfl rfl (cat_cons rfl (cat_tl hI.2.2.2))))
  case i2b =>
    dsimp only [aEx] at ha
    split at ha
    case h_2 => cases ha
    obtain ⟨rfl, rfl, rfl, rfl⟩ := nx_inv ha
    obtain rfl := ln1 hn
    exact lv_i2b hx hb hd rfl (eKs kk H locs lsC (eIn_st hI rfl rfl (cat_cons rfl (cat_tl hI.2.2.2))))
  case i2s =>
    dsimp only [aEx] at ha
    split at ha
    case h_2 => cases ha
    obtain ⟨rfl, rfl, rfl, rfl⟩ := nx_inv ha
    obtain rfl := ln1 hn
    exact lv_i2s hx hb hd rfl (eKs kk H locs lsC (eIn_st hI rfl rfl (cat_cons rfl (cat_tl hI.2.2.2))))
  case i2c =>
    dsimp only [aEx] at ha
    split at ha
    case h_2 => cases ha
    obtain ⟨rfl, rfl, rfl, rfl⟩ := nx_inv ha
    obtain rfl := ln1 hn
    exact lv_i2c hx hb hd rfl (eKs kk H locs lsC (eIn_st hI rfl rfl (cat_cons rfl (cat_tl hI.2.2.2))))
  case iconst v =>
    dsimp only [aEx] at ha
    obtain ⟨rfl, rfl, rfl, rfl⟩ := nx_inv ha
    obtain rfl := ln1 hn
    exact lv_iconst hx hb hd rfl (eKs kk H locs lsC (eIn_st hI rfl rfl (cat_cons rfl hI.2.2.2)))
  case bipush v =>
    dsimp only [aEx] at ha
    obtain ⟨rfl, rfl, rfl, rfl⟩ := nx_inv ha
    obtain rfl := ln2 hn
    exact lv_bipush hx hb hd rfl (eKs kk H locs lsC (eIn_st hI rfl rfl (cat_cons rfl hI.2.2.2)))
  case sipush v =>
    dsimp only [aEx] at ha
    obtain ⟨rfl, rfl, rfl, rfl⟩ := nx_inv ha
    obtain rfl := ln3 hn
    exact lv_sipush hx hb hd rfl (eKs kk H locs lsC (eIn_st hI rfl rfl (cat_cons rfl hI.2.2.2)))
  case aconst_null =>
    dsimp only [aEx] at ha
    obtain ⟨rfl, rfl, rfl, rfl⟩ := nx_inv ha
    obtain rfl := ln1 hn
    exact lv_null hx hb hd (eKs kk H locs lsC (eIn_st hI rfl rfl (cat_cons rfl hI.2.2.2)))
  case ldc k =>
    dsimp only [aEx] at ha
    obtain rfl := ln2 hn
    split at ha
    · rename_i x hk
      obtain ⟨rfl, rfl, rfl, rfl⟩ := nx_inv ha
      exact W.ldc hx hb hown (hts _ (aK_w _ (List.mem_map.mpr ⟨_, aLk_mem hk, rfl⟩))) rfl hd (eKs kk H locs lsC (eIn_st hI rfl rfl (cat_cons rfl hI.2.2.2)))
    · split at ha
      · rename_i a hk
        obtain ⟨rfl, rfl, rfl, rfl⟩ := nx_inv ha
        obtain ⟨tx, h14, hR⟩ := hSt.2.2.2.1 _ (aLk_mem hk)
        dsimp only at h14 hR
        have k0 := eKs kk H locs lsC (eIn_st hI rfl rfl (cat_cons rfl hI.2.2.2))
        rw [List.map_cons, cv_const (by omega) (by omega)] at k0
        exact va_ldcS hx hb hown hR hd k0
      · cases ha
  case ldc_w k =>
    dsimp only [aEx] at ha
    obtain rfl := ln3 hn
    split at ha
    · rename_i x hk
      obtain ⟨rfl, rfl, rfl, rfl⟩ := nx_inv ha
      exact lv_ldcw hx hb hown (hts _ (aK_w _ (List.mem_map.mpr ⟨_, aLk_mem hk, rfl⟩))) hd (eKs kk H locs lsC (eIn_st hI rfl rfl (cat_cons rfl hI.2.2.2)))
    · cases ha
  case iload k =>
    dsimp only [aEx] at ha
    obtain rfl := ln2 hn
    split at ha
    case h_2 => cases ha
    rename_i x hl
    obtain ⟨rfl, rfl, rfl, rfl⟩ := nx_inv ha
    exact lv_iload hx hb hd (eLr_get hI.2.2.1 hl rfl) (eKs kk H locs lsC (eIn_st hI rfl rfl (cat_cons rfl hI.2.2.2)))
  case iload_n k =>
    dsimp only [aEx] at ha
    obtain rfl := ln1 hn
    split at ha
    case h_2 => cases ha
    rename_i x hl
    obtain ⟨rfl, rfl, rfl, rfl⟩ := nx_inv ha
    exact lv_iload_n hx hb hd rfl (eLr_get hI.2.2.1 hl rfl) (eKs kk H locs lsC (eIn_st hI rfl rfl (cat_cons rfl hI.2.2.2)))
  case aload k =>
    dsimp only [aEx] at ha
    obtain rfl := ln2 hn
    split at ha
    · rename_i x hl
      obtain ⟨rfl, rfl, rfl, rfl⟩ := nx_inv ha
      have h1 := eLr_get hI.2.2.1 hl rfl
      have k0 := eKs kk H locs lsC (eIn_st hI rfl rfl (cat_cons rfl hI.2.2.2))
      rw [List.map_cons] at k0
      rw [show eCv E (.ref x) = va_rf (eAo E x) from rfl] at h1 k0
      cases ho : eAo E x with
      | none =>
        rw [ho] at h1 k0
        exact lv_aloadN hx hb hd h1 k0
      | some y =>
        rw [ho] at h1 k0
        exact lv_aload hx hb hd h1 k0
    · rename_i hl
      obtain ⟨rfl, rfl, rfl, rfl⟩ := nx_inv ha
      exact lv_aloadN hx hb hd (eLr_get hI.2.2.1 hl rfl) (eKs kk H locs lsC (eIn_st hI rfl rfl (cat_cons rfl hI.2.2.2)))
    · cases ha
  case aload_n k =>
    dsimp only [aEx] at ha
    obtain rfl := ln1 hn
    split at ha
    · rename_i x hl
      obtain ⟨rfl, rfl, rfl, rfl⟩ := nx_inv ha
      have h1 := eLr_get hI.2.2.1 hl rfl
      have k0 := eKs kk H locs lsC (eIn_st hI rfl rfl (cat_cons rfl hI.2.2.2))
      rw [List.map_cons] at k0
      rw [show eCv E (.ref x) = va_rf (eAo E x) from rfl] at h1 k0
      cases ho : eAo E x with
      | none =>
        rw [ho] at h1 k0
        exact lv_aload_nN hx hb hd rfl h1 k0
      | some y =>
        rw [ho] at h1 k0
        exact lv_aload_n hx hb hd rfl h1 k0
    · rename_i hl
      obtain ⟨rfl, rfl, rfl, rfl⟩ := nx_inv ha
      exact lv_aload_nN hx hb hd rfl (eLr_get hI.2.2.1 hl rfl) (eKs kk H locs lsC (eIn_st hI rfl rfl (cat_cons rfl hI.2.2.2)))
    · cases ha
  case istore k =>
    dsimp only [aEx] at ha
    obtain rfl := ln2 hn
    split at ha
    case h_2 => cases ha
    split at ha
    case isFalse => cases ha
    rename_i hk
    obtain ⟨rfl, rfl, rfl, rfl⟩ := nx_inv ha
    exact sx_store hI hk (fun lv h1 h2 h3 => lv_istore hx hb hd h1 h2 rfl h3) (eKs kk)
  case istore_n k =>
    dsimp only [aEx] at ha
    obtain rfl := ln1 hn
    split at ha
    case h_2 => cases ha
    split at ha
    case isFalse => cases ha
    rename_i hk
    obtain ⟨rfl, rfl, rfl, rfl⟩ := nx_inv ha
    exact sx_store hI hk (fun lv h1 h2 h3 => lv_istore_n hx hb hd rfl h1 h2 rfl h3) (eKs kk)
  case astore k =>
    dsimp only [aEx] at ha
    obtain rfl := ln2 hn
    split at ha
    · rename_i x r
      split at ha
      case isFalse => cases ha
      rename_i hk
      obtain ⟨rfl, rfl, rfl, rfl⟩ := nx_inv ha
      refine sx_store hI hk (fun lv h1 h2 h3 => ?_) (eKs kk)
      rw [List.map_cons]
      rw [show eCv E (.ref x) = va_rf (eAo E x) from rfl] at h3 ⊢
      cases ho : eAo E x with
      | none =>
        rw [ho] at h3
        exact lv_astoreN hx hb hd h1 h2 rfl h3
      | some y =>
        rw [ho] at h3
        exact lv_astore hx hb hd h1 h2 rfl h3
    · split at ha
      case isFalse => cases ha
      rename_i hk
      obtain ⟨rfl, rfl, rfl, rfl⟩ := nx_inv ha
      exact sx_store hI hk (fun lv h1 h2 h3 => lv_astoreN hx hb hd h1 h2 rfl h3) (eKs kk)
    · cases ha
  case astore_n k =>
    dsimp only [aEx] at ha
    obtain rfl := ln1 hn
    split at ha
    · rename_i x r
      split at ha
      case isFalse => cases ha
      rename_i hk
      obtain ⟨rfl, rfl, rfl, rfl⟩ := nx_inv ha
      refine sx_store hI hk (fun lv h1 h2 h3 => ?_) (eKs kk)
      rw [List.map_cons]
      rw [show eCv E (.ref x) = va_rf (eAo E x) from rfl] at h3 ⊢
      cases ho : eAo E x with
      | none =>
        rw [ho] at h3
        exact lv_astore_nN hx hb hd rfl h1 h2 rfl h3
      | some y =>
        rw [ho] at h3
        exact lv_astore_n hx hb hd rfl h1 h2 rfl h3
    · split at ha
      case isFalse => cases ha
      rename_i hk
      obtain ⟨rfl, rfl, rfl, rfl⟩ := nx_inv ha
      exact sx_store hI hk (fun lv h1 h2 h3 => lv_astore_nN hx hb hd rfl h1 h2 rfl h3) (eKs kk)
    · cases ha
  case iinc k v =>
    dsimp only [aEx] at ha
    obtain rfl := ln3 hn
    split at ha
    case h_2 => cases ha
    rename_i x hl
    split at ha
    case isFalse => cases ha
    rename_i hk
    obtain ⟨rfl, rfl, rfl, rfl⟩ := nx_inv ha
    obtain ⟨h1, h2, ⟨h3, lv, h4, h5⟩, h6⟩ := hI
    have hm := h5 k (by rw [hl]; rfl)
    rw [hl] at hm
    obtain ⟨j, hj⟩ := List.getElem?_of_mem hm
    exact lv_iinc hx hb hd h4 hj rfl (by omega) rfl (fun ls' hls => eKs kk H locs ls' ⟨h1, h2, eLr_set (v := .int (x + Int32.ofInt v)) h3 hk h5 hls, h6⟩)
  case dup =>
    dsimp only [aEx] at ha
    obtain rfl := ln1 hn
    split at ha
    case h_2 => cases ha
    obtain ⟨rfl, rfl, rfl, rfl⟩ := nx_inv ha
    have hv := hI.2.2.2 _ List.mem_cons_self
    exact lv_dup hx hb hd (eCv_cat hv) (eKs kk H locs lsC (eIn_st hI rfl rfl (cat_cons hv hI.2.2.2)))
  case dup2 =>
    dsimp only [aEx] at ha
    obtain rfl := ln1 hn
    split at ha
    case h_2 => cases ha
    obtain ⟨rfl, rfl, rfl, rfl⟩ := nx_inv ha
    have hv := hI.2.2.2 _ List.mem_cons_self
    have hw := hI.2.2.2 _ (List.mem_cons_of_mem _ List.mem_cons_self)
    exact lv_dup2_11 hx hb hd (eCv_cat hv) (eCv_cat hw) (eKs kk H locs lsC (eIn_st hI rfl rfl (cat_cons hv (cat_cons hw hI.2.2.2))))
  case pop =>
    dsimp only [aEx] at ha
    obtain rfl := ln1 hn
    split at ha
    case h_2 => cases ha
    obtain ⟨rfl, rfl, rfl, rfl⟩ := nx_inv ha
    have hv := hI.2.2.2 _ List.mem_cons_self
    exact lv_pop hx hb hd (eCv_cat hv) (eKs kk H locs lsC (eIn_st hI rfl rfl (cat_tl hI.2.2.2)))
  case ifCond cd off =>
    dsimp only [aEx] at ha
    obtain rfl := ln3 hn
    split at ha
    case h_2 => cases ha
    cases cd
    · dsimp only at ha
      split at ha
      · rename_i hc
        obtain ⟨ht, rfl, rfl, rfl⟩ := tg_inv ha
        exact lv_if_eq hx hb hd ht (fun _ => eKs kk H locs lsC (eIn_st hI rfl rfl (cat_tl hI.2.2.2))) (fun q => absurd hc q)
      · rename_i hc
        obtain ⟨rfl, rfl, rfl, rfl⟩ := nx_inv ha
        obtain ⟨tg, ht⟩ := aJ_ok hp rfl
        exact lv_if_eq hx hb hd ht (fun q => absurd q hc) (fun _ => eKs kk H locs lsC (eIn_st hI rfl rfl (cat_tl hI.2.2.2)))
    · dsimp only at ha
      split at ha
      · rename_i hc
        obtain ⟨rfl, rfl, rfl, rfl⟩ := nx_inv ha
        obtain ⟨tg, ht⟩ := aJ_ok hp rfl
        exact lv_if_ne hx hb hd ht (fun q => absurd hc q) (fun _ => eKs kk H locs lsC (eIn_st hI rfl rfl (cat_tl hI.2.2.2)))
      · rename_i hc
        obtain ⟨ht, rfl, rfl, rfl⟩ := tg_inv ha
        exact lv_if_ne hx hb hd ht (fun _ => eKs kk H locs lsC (eIn_st hI rfl rfl (cat_tl hI.2.2.2))) (fun q => absurd q hc)
    · dsimp only at ha
      split at ha
      · rename_i hc
        obtain ⟨ht, rfl, rfl, rfl⟩ := tg_inv ha
        exact lv_if_lt hx hb hd ht (fun _ => eKs kk H locs lsC (eIn_st hI rfl rfl (cat_tl hI.2.2.2))) (fun q => absurd hc q)
      · rename_i hc
        obtain ⟨rfl, rfl, rfl, rfl⟩ := nx_inv ha
        obtain ⟨tg, ht⟩ := aJ_ok hp rfl
        exact lv_if_lt hx hb hd ht (fun q => absurd q hc) (fun _ => eKs kk H locs lsC (eIn_st hI rfl rfl (cat_tl hI.2.2.2)))
    · dsimp only at ha
      split at ha
      · rename_i hc
        obtain ⟨ht, rfl, rfl, rfl⟩ := tg_inv ha
        exact lv_if_ge hx hb hd ht (fun _ => eKs kk H locs lsC (eIn_st hI rfl rfl (cat_tl hI.2.2.2))) (fun q => absurd hc q)
      · rename_i hc
        obtain ⟨rfl, rfl, rfl, rfl⟩ := nx_inv ha
        obtain ⟨tg, ht⟩ := aJ_ok hp rfl
        exact lv_if_ge hx hb hd ht (fun q => absurd q hc) (fun _ => eKs kk H locs lsC (eIn_st hI rfl rfl (cat_tl hI.2.2.2)))
    · dsimp only at ha
      split at ha
      · rename_i hc
        obtain ⟨ht, rfl, rfl, rfl⟩ := tg_inv ha
        exact lv_if_gt hx hb hd ht (fun _ => eKs kk H locs lsC (eIn_st hI rfl rfl (cat_tl hI.2.2.2))) (fun q => absurd hc q)
      · rename_i hc
        obtain ⟨rfl, rfl, rfl, rfl⟩ := nx_inv ha
        obtain ⟨tg, ht⟩ := aJ_ok hp rfl
        exact lv_if_gt hx hb hd ht (fun q => absurd q hc) (fun _ => eKs kk H locs lsC (eIn_st hI rfl rfl (cat_tl hI.2.2.2)))
    · dsimp only at ha
      split at ha
      · rename_i hc
        obtain ⟨ht, rfl, rfl, rfl⟩ := tg_inv ha
        exact lv_if_le hx hb hd ht (fun _ => eKs kk H locs lsC (eIn_st hI rfl rfl (cat_tl hI.2.2.2))) (fun q => absurd hc q)
      · rename_i hc
        obtain ⟨rfl, rfl, rfl, rfl⟩ := nx_inv ha
        obtain ⟨tg, ht⟩ := aJ_ok hp rfl
        exact lv_if_le hx hb hd ht (fun q => absurd q hc) (fun _ => eKs kk H locs lsC (eIn_st hI rfl rfl (cat_tl hI.2.2.2)))
  case if_icmp cd off =>
    dsimp only [aEx] at ha
    obtain rfl := ln3 hn
    split at ha
    case h_2 => cases ha
    cases cd
    · dsimp only at ha
      split at ha
      · rename_i hc
        obtain ⟨ht, rfl, rfl, rfl⟩ := tg_inv ha
        exact lv_icmp_eq hx hb hd ht (fun _ => eKs kk H locs lsC (eIn_st hI rfl rfl (cat_tl (cat_tl hI.2.2.2)))) (fun q => absurd hc q)
      · rename_i hc
        obtain ⟨rfl, rfl, rfl, rfl⟩ := nx_inv ha
        obtain ⟨tg, ht⟩ := aJ_ok hp rfl
        exact lv_icmp_eq hx hb hd ht (fun q => absurd q hc) (fun _ => eKs kk H locs lsC (eIn_st hI rfl rfl (cat_tl (cat_tl hI.2.2.2))))
    · dsimp only at ha
      split at ha
      · rename_i hc
        obtain ⟨rfl, rfl, rfl, rfl⟩ := nx_inv ha
        obtain ⟨tg, ht⟩ := aJ_ok hp rfl
        exact lv_icmp_ne hx hb hd ht (fun q => absurd hc q) (fun _ => eKs kk H locs lsC (eIn_st hI rfl rfl (cat_tl (cat_tl hI.2.2.2))))
      · rename_i hc
        obtain ⟨ht, rfl, rfl, rfl⟩ := tg_inv ha
        exact lv_icmp_ne hx hb hd ht (fun _ => eKs kk H locs lsC (eIn_st hI rfl rfl (cat_tl (cat_tl hI.2.2.2)))) (fun q => absurd q hc)
    · dsimp only at ha
      split at ha
      · rename_i hc
        obtain ⟨ht, rfl, rfl, rfl⟩ := tg_inv ha
        exact lv_icmp_lt hx hb hd ht (fun _ => eKs kk H locs lsC (eIn_st hI rfl rfl (cat_tl (cat_tl hI.2.2.2)))) (fun q => absurd hc q)
      · rename_i hc
        obtain ⟨rfl, rfl, rfl, rfl⟩ := nx_inv ha
        obtain ⟨tg, ht⟩ := aJ_ok hp rfl
        exact lv_icmp_lt hx hb hd ht (fun q => absurd q hc) (fun _ => eKs kk H locs lsC (eIn_st hI rfl rfl (cat_tl (cat_tl hI.2.2.2))))
    · dsimp only at ha
      split at ha
      · rename_i hc
        obtain ⟨ht, rfl, rfl, rfl⟩ := tg_inv ha
        exact lv_icmp_ge hx hb hd ht (fun _ => eKs kk H locs lsC (eIn_st hI rfl rfl (cat_tl (cat_tl hI.2.2.2)))) (fun q => absurd hc q)
      · rename_i hc
        obtain ⟨rfl, rfl, rfl, rfl⟩ := nx_inv ha
        obtain ⟨tg, ht⟩ := aJ_ok hp rfl
        exact lv_icmp_ge hx hb hd ht (fun q => absurd q hc) (fun _ => eKs kk H locs lsC (eIn_st hI rfl rfl (cat_tl (cat_tl hI.2.2.2))))
    · dsimp only at ha
      split at ha
      · rename_i hc
        obtain ⟨ht, rfl, rfl, rfl⟩ := tg_inv ha
        exact lv_icmp_gt hx hb hd ht (fun _ => eKs kk H locs lsC (eIn_st hI rfl rfl (cat_tl (cat_tl hI.2.2.2)))) (fun q => absurd hc q)
      · rename_i hc
        obtain ⟨rfl, rfl, rfl, rfl⟩ := nx_inv ha
        obtain ⟨tg, ht⟩ := aJ_ok hp rfl
        exact lv_icmp_gt hx hb hd ht (fun q => absurd q hc) (fun _ => eKs kk H locs lsC (eIn_st hI rfl rfl (cat_tl (cat_tl hI.2.2.2))))
    · dsimp only at ha
      split at ha
      · rename_i hc
        obtain ⟨ht, rfl, rfl, rfl⟩ := tg_inv ha
        exact lv_icmp_le hx hb hd ht (fun _ => eKs kk H locs lsC (eIn_st hI rfl rfl (cat_tl (cat_tl hI.2.2.2)))) (fun q => absurd hc q)
      · rename_i hc
        obtain ⟨rfl, rfl, rfl, rfl⟩ := nx_inv ha
        obtain ⟨tg, ht⟩ := aJ_ok hp rfl
        exact lv_icmp_le hx hb hd ht (fun q => absurd q hc) (fun _ => eKs kk H locs lsC (eIn_st hI rfl rfl (cat_tl (cat_tl hI.2.2.2))))
  case goto off =>
    dsimp only [aEx] at ha
    obtain rfl := ln3 hn
    obtain ⟨ht, rfl, rfl, rfl⟩ := tg_inv ha
    exact lv_goto hx hb hd ht (eKs kk H locs lsC hI)
  case ifnonnull off =>
    dsimp only [aEx] at ha
    obtain rfl := ln3 hn
    split at ha
    · rename_i a r
      split at ha
      case isFalse => cases ha
      rename_i h14
      obtain ⟨ht, rfl, rfl, rfl⟩ := tg_inv ha
      have ho : eCv E (.ref a) = .ref (eAd E a) := by
        show va_rf (eAo E a) = _
        unfold eAo
        rw [if_neg h14]
        rfl
      rw [List.map_cons, ho]
      exact lv_ifnonnull hx hb hd ht (eKs kk H locs lsC (eIn_st hI rfl rfl (cat_tl hI.2.2.2)))
    · obtain ⟨rfl, rfl, rfl, rfl⟩ := nx_inv ha
      exact lv_ifnonnullN hx hb hd (eKs kk H locs lsC (eIn_st hI rfl rfl (cat_tl hI.2.2.2)))
    · cases ha
  case tableswitch df lo hi offs =>
    dsimp only [aEx] at ha
    split at ha
    case h_2 => cases ha
    rename_i x r
    split at ha
    case isFalse => cases ha
    rename_i hg
    obtain ⟨g1, g2, g3⟩ := hg
    have hl := eIn_st (st2 := r) hI rfl rfl (cat_tl hI.2.2.2)
    rcases ts_inv ha with ⟨j, o, h1, h2, h3⟩ | ⟨h1, h2⟩
    · obtain ⟨ht, rfl, rfl, rfl⟩ := tg_inv h3
      have hj : j < offs.toList.length := (List.getElem?_eq_some_iff.mp h1).1
      rw [Array.length_toList] at hj
      have hxi : x.toInt = lo + j := (ofI_eq (by omega) (by omega)).mp h2
      refine lv_tableIn hx hb hd (by omega) (by omega) (off := o) ?_ ht (eKs kk H locs lsC hl)
      rw [hxi, show (lo + (j : Int) - lo).toNat = j by omega, ← Array.getElem?_toList]
      exact h1
    · obtain ⟨ht, rfl, rfl, rfl⟩ := tg_inv h2
      refine lv_tableOut hx hb hd ?_ ht (eKs kk H locs lsC hl)
      rcases Int.lt_or_le x.toInt lo with q | q
      · exact Or.inl q
      · rcases Int.lt_or_le hi x.toInt with q2 | q2
        · exact Or.inr q2
        · refine absurd ?_ (h1 (x.toInt - lo).toNat (by rw [Array.length_toList]; omega))
          rw [show lo + ((x.toInt - lo).toNat : Int) = x.toInt by omega, Int32.ofInt_toInt]
  case lookupswitch df ps =>
    dsimp only [aEx] at ha
    split at ha
    case h_2 => cases ha
    rename_i x r
    split at ha
    case isFalse => cases ha
    rename_i hg
    have hl := eIn_st (st2 := r) hI rfl rfl (cat_tl hI.2.2.2)
    obtain ⟨ht, rfl, rfl, rfl⟩ := tg_inv (tl_inv hg.2 ha)
    exact lv_lookup hx hb hd hg.1 rfl ht (eKs kk H locs lsC hl)
  case getfield k =>
    dsimp only [aEx] at ha
    obtain rfl := ln3 hn
    split at ha
    case h_2 => cases ha
    split at ha
    case h_2 => cases ha
    rename_i κ j t f hk
    split at ha
    case isFalse => cases ha
    rename_i hκ
    obtain ⟨rfl, rfl, rfl, rfl⟩ := nx_inv ha
    exact sx_get hC hI hk hκ hd (eKs kk)
  case putfield k =>
    dsimp only [aEx] at ha
    obtain rfl := ln3 hn
    split at ha
    case h_2 => cases ha
    split at ha
    case h_2 => cases ha
    rename_i κ j t f hk
    split at ha
    case isFalse => cases ha
    rename_i hf
    refine sx_put hC hI hk hf hd ha ?_
    have ht : σ'.2.2.2 = σ.2.2.2 := by
      unfold aPf at ha
      repeat' split at ha
      all_goals first
        | (cases ha; done)
        | (obtain ⟨-, -, -, rfl⟩ := nx_inv ha; rfl)
    rw [ht] at kk
    exact eKs kk
  case getstatic k =>
    dsimp only [aEx] at ha
    obtain rfl := ln3 hn
    split at ha
    case h_2 => cases ha
    rename_i v hk
    obtain ⟨rfl, rfl, rfl, rfl⟩ := nx_inv ha
    have hm := aLk_mem hk
    obtain ⟨⟨q, hq, hq1⟩, hcat⟩ := aG_zip _ hm
    have hw := hts _ (aG_w _ (List.mem_map.mpr ⟨_, hq, rfl⟩))
    have hZ := hSt.2.2.1 _ hq
    rw [hq1] at hw hZ
    dsimp only at hw hZ hcat
    exact va_gets hx hb hZ hI.2.1 hown hw (fun _ h9 => h9) hd (eKs kk H locs lsC (eIn_st hI rfl rfl (cat_cons hcat hI.2.2.2)))
  case iaload =>
    dsimp only [aEx] at ha
    obtain rfl := ln1 hn
    split at ha
    case h_2 => cases ha
    split at ha
    case isFalse => cases ha
    rename_i hg
    obtain ⟨rfl, rfl, rfl, rfl⟩ := nx_inv ha
    exact sx_iald hC hI hg.1 hg.2 hd (eKs kk)
  case baload =>
    dsimp only [aEx] at ha
    obtain rfl := ln1 hn
    split at ha
    case h_2 => cases ha
    split at ha
    case isFalse => cases ha
    rename_i hg
    obtain ⟨rfl, rfl, rfl, rfl⟩ := nx_inv ha
    exact sx_bald hC hI hg.1 hg.2 hd (eKs kk)
  case caload =>
    dsimp only [aEx] at ha
    obtain rfl := ln1 hn
    split at ha
    case h_2 => cases ha
    split at ha
    case isFalse => cases ha
    rename_i hg
    obtain ⟨rfl, rfl, rfl, rfl⟩ := nx_inv ha
    exact sx_ald (by decide) (by decide) rfl hC hI hg.1 hg.2 (Or.inl (by decide)) (fun hat ht hin k => va_cald hx hb hK hat 0 0 rfl ht hin hd k) (eKs kk)
  case aaload =>
    dsimp only [aEx] at ha
    obtain rfl := ln1 hn
    split at ha
    case h_2 => cases ha
    split at ha
    case isFalse => cases ha
    rename_i hg
    obtain ⟨rfl, rfl, rfl, rfl⟩ := nx_inv ha
    exact sx_aald hC hI hg.1 hg.2 hd (eKs kk)
  case iastore =>
    dsimp only [aEx] at ha
    obtain rfl := ln1 hn
    split at ha
    case h_2 => cases ha
    have ht : σ'.2.2.2 = σ.2.2.2 := by
      unfold aSt1 at ha
      split at ha
      · obtain ⟨-, -, -, rfl⟩ := nx_inv ha; rfl
      · cases ha
    rw [ht] at kk
    exact sx_ast (κ := 9) (by decide) (by decide) rfl hC hI ha (fun h1 h2 h3 h4 h5 => x_iast hx hb h2 h1 h3 hI.2.1 h4 hd h5) (eKs kk)
  case castore =>
    dsimp only [aEx] at ha
    obtain rfl := ln1 hn
    split at ha
    case h_2 => cases ha
    have ht : σ'.2.2.2 = σ.2.2.2 := by
      unfold aSt1 at ha
      split at ha
      · obtain ⟨-, -, -, rfl⟩ := nx_inv ha; rfl
      · cases ha
    rw [ht] at kk
    exact sx_ast (κ := 8) (by decide) (by decide) rfl hC hI ha (fun h1 h2 h3 h4 h5 => x_cast hx hb h2 h1 h3 hI.2.1 h4 hd h5) (eKs kk)
  case bastore =>
    dsimp only [aEx] at ha
    obtain rfl := ln1 hn
    split at ha
    case h_2 => cases ha
    have ht : σ'.2.2.2 = σ.2.2.2 := by
      unfold aSt1 at ha
      split at ha
      · obtain ⟨-, -, -, rfl⟩ := nx_inv ha; rfl
      · cases ha
    rw [ht] at kk
    exact sx_ast (κ := 10) (by decide) (by decide) rfl hC hI ha (fun h1 h2 h3 h4 h5 => x_zast hx hb h2 h1 h3 hI.2.1 h4 hd h5) (eKs kk)
  case aastore =>
    dsimp only [aEx] at ha
    obtain rfl := ln1 hn
    split at ha
    · split at ha
      case isFalse => cases ha
      rename_i hg
      obtain ⟨rfl, rfl, rfl, rfl⟩ := nx_inv ha
      exact sx_aast (o := some _) hC hI hg.1 hg.2.1 rfl (fun b hb => by cases hb; exact hg.2.2) hd (eKs kk)
    · split at ha
      case isFalse => cases ha
      rename_i hg
      obtain ⟨rfl, rfl, rfl, rfl⟩ := nx_inv ha
      exact sx_aast (o := none) hC hI hg.1 hg.2 rfl (fun b hb => by cases hb) hd (eKs kk)
    · cases ha
  case arraylength =>
    dsimp only [aEx] at ha
    obtain rfl := ln1 hn
    split at ha
    case h_2 => cases ha
    split at ha
    case isFalse => cases ha
    rename_i hg
    obtain ⟨rfl, rfl, rfl, rfl⟩ := nx_inv ha
    exact sx_alen hC hI hg hd (eKs kk)
  case newarray t =>
    dsimp only [aEx] at ha
    obtain rfl := ln2 hn
    split at ha
    case h_2 => cases ha
    cases t
    all_goals dsimp only at ha
    all_goals first
      | (cases ha; done)
      | (unfold aNr at ha
         split at ha
         case isFalse => cases ha
         rename_i hg
         obtain ⟨rfl, rfl, rfl, rfl⟩ := nx_inv ha
         rw [top_nc] at hc1 hc2 kk
         dsimp only at hc1 hc2 kk
         rw [Nat.add_sub_cancel_left] at hc1 hc2
         rw [Nat.add_sub_cancel_left, Nat.add_sub_cancel_left] at kk
         first
           | exact sx_newarr (κ := 9) (ty := .int) (by decide) (by decide) rfl rfl rfl (by decide) rfl (aR_w _ (by simp)) hC hI hg.1 hg.2 rfl hd hc1 hc2 kk
           | exact sx_newarr (κ := 8) (ty := .char) (by decide) (by decide) rfl rfl rfl (by decide) rfl (aR_w _ (by simp)) hC hI hg.1 hg.2 rfl hd hc1 hc2 kk
           | exact sx_newarr (κ := 10) (ty := .boolean) (by decide) (by decide) rfl rfl rfl (by decide) rfl (aR_w _ (by simp)) hC hI hg.1 hg.2 rfl hd hc1 hc2 kk)
  case anewarray k =>
    dsimp only [aEx] at ha
    obtain rfl := ln3 hn
    split at ha
    case h_2 => cases ha
    split at ha
    case h_2 => cases ha
    rename_i κ hk
    unfold aNr at ha
    split at ha
    case isFalse => cases ha
    rename_i hg
    obtain ⟨rfl, rfl, rfl, rfl⟩ := nx_inv ha
    rw [top_nc] at hc1 hc2 kk
    dsimp only at hc1 hc2 kk
    rw [Nat.add_sub_cancel_left] at hc1 hc2
    rw [Nat.add_sub_cancel_left, Nat.add_sub_cancel_left] at kk
    exact sx_anew hk hC hI hg.1 hg.2 hd hc1 hc2 kk
  case new k =>
    dsimp only [aEx] at ha
    obtain rfl := ln3 hn
    split at ha
    case h_2 => cases ha
    rename_i κ hk
    obtain ⟨rfl, rfl, rfl, rfl⟩ := nx_inv ha
    have h8 := aN_ok _ (aLk_mem hk)
    dsimp only at h8
    rw [aFk_get κ h8] at hc1 hc2 kk
    rw [top_nc] at hc1 hc2 kk
    dsimp only at hc1 hc2 kk
    rw [Nat.add_sub_cancel_left] at hc1 hc2
    rw [Nat.add_sub_cancel_left, Nat.add_sub_cancel_left] at kk
    exact sx_new hk hC hI hd hc1 hc2 kk
  case invokevirtual k =>
    obtain ⟨_, _, _, _, _, _, q, _⟩ := call_inv ha
    cases q
  case invokestatic k =>
    obtain ⟨_, _, _, _, _, _, q, _⟩ := call_inv ha
    cases q
  case invokespecial k =>
    obtain ⟨_, _, _, _, _, _, q, _⟩ := call_inv ha
    cases q
  case ireturn =>
    obtain ⟨_, q, _⟩ := ret_inv hp rfl ha
    cases q
  case areturn =>
    obtain ⟨_, q, _⟩ := ret_inv hp rfl ha
    cases q
  case return_ =>
    obtain ⟨_, q, _⟩ := ret_inv hp rfl ha
    cases q
  all_goals (dsimp only [aEx] at ha; cases ha)
end
