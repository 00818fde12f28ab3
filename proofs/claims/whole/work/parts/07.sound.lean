/-! SOUNDNESS: what the mini-machine does, the machine does. -/
/-- addresses of the constants' cells; the first address of ours; what String.checkIndex hands on; the numbers of classes, of rows' classes; the constants' cells -/
abbrev aEnv : Type := (Nat → Nat) × Nat × Option Nat × va_G × (Nat → ClassId) × HS
def eAd (E : aEnv) (k : Nat) : Nat := if k < 16 then E.1 k else E.2.1 + (k - 16)
def eAo (E : aEnv) (k : Nat) : Option Nat := if k = 14 then E.2.2.1 else some (eAd E k)
def eCv (E : aEnv) : Value → Value
  | .ref k => va_rf (eAo E k)
  | v => v
def eA (E : aEnv) : Nat → Prop := fun q => E.2.1 ≤ q
def eFv (E : aEnv) (σ : HS) (κ k j : Nat) : Value := if aGet 9 (aGet [] aFk κ) j = 1 then va_rf ((σ.2.2.1 k j).bind (eAo E)) else .int (σ.2.1 k j)
def eFs (E : aEnv) (σ : HS) (κ k : Nat) : List Value := (List.range (aNf κ)).map (eFv E σ κ k)
def eCe (E : aEnv) (σ : HS) (k : Nat) : va_E := if (σ.1 k).1 < 8 then .inr ((σ.1 k).1, eFs E σ (σ.1 k).1 k) else if (σ.1 k).1 < 11 then .inl (E.2.2.2.2.1 (σ.1 k).1, (σ.1 k).2, .inl (σ.2.1 k)) else .inl (E.2.2.2.2.1 (σ.1 k).1, (σ.1 k).2, .inr (.inr (.inr (.inr (fun j => (σ.2.2.1 k j).bind (eAo E))))))
def eHo (E : aEnv) (σ : HS) (H : Heap) : Prop := 16 ≤ σ.2.2.2.1 ∧ H.size = E.2.1 + (σ.2.2.2.1 - 16) ∧ (∀ k, k < 16 → σ.1 k = E.2.2.2.2.2.1 k ∧ σ.2.1 k = E.2.2.2.2.2.2.1 k ∧ σ.2.2.1 k = E.2.2.2.2.2.2.2.1 k) ∧ (∀ k, σ.2.2.2.1 ≤ k → σ.1 k = (99, 0)) ∧ (∀ k, 16 ≤ k → k < σ.2.2.2.1 → (σ.1 k).1 ≤ 13 ∧ va_at E.2.2.2.1 aCl (eAd E k, eCe E σ k) H)
/-- the constants, as the start has them -/
def eSt (E : aEnv) (U : State) (H : Heap) : Prop :=
  (∀ k, k < 16 → ((E.2.2.2.2.2.1 k).1 = 9 ∧ va_T .int (E.1 k) (E.2.2.2.2.2.1 k).2 (fun j => .int (E.2.2.2.2.2.2.1 k j)) (eA E) U H) ∨ ((E.2.2.2.2.2.1 k).1 = 15 ∧ va_T .byte (E.1 k) (E.2.2.2.2.2.1 k).2 (fun j => .int (E.2.2.2.2.2.2.1 k j)) (eA E) U H) ∨ ((E.2.2.2.2.2.1 k).1 = 14 ∧ va_O "java/lang/String" (E.1 k) (eA E) U H ∧ va_OF "java/lang/String" "coder" "B" (.int (E.2.2.2.2.2.2.1 k 1)) (E.1 k) (eA E) U H ∧ va_OF "java/lang/String" "value" "[B" (va_rf ((E.2.2.2.2.2.2.2.1 k 0).bind (eAo E))) (E.1 k) (eA E) U H) ∨ (E.2.2.2.2.2.1 k).1 = 98)
  ∧ (E.2.2.2.2.2.1 14).1 = 98
  ∧ (∀ e ∈ aGl.zip aGn, va_Z e.2.1 e.2.2.1 e.2.2.2 (eCv E e.1.2) (eA E) U H)
  ∧ (∀ e ∈ aSl, ∃ tx, e.2 < 14 ∧ vk_R (aCs e.1.1) e.1.2 tx (E.1 e.2) U)
  ∧ (∀ k, 11 ≤ k → k ≤ 13 → va_AO (aEl k) U)
  ∧ (∀ e ∈ aMl, aNe.contains e.1 = true → va_Nw (.methodLinkNest (aCs e.1.1) e.1.2 (aNm e.2.2.1) "HangedWord") U)
def eTy (E : aEnv) : List (ClassId × FieldType) := [(E.2.2.2.2.1 8, .char), (E.2.2.2.2.1 9, .int), (E.2.2.2.2.1 10, .boolean), (E.2.2.2.2.1 11, .object (aEl 11)), (E.2.2.2.2.1 12, .object (aEl 12)), (E.2.2.2.2.1 13, .object (aEl 13))]
def eCx (E : aEnv) (M : Nat) (p : Program) (s : State) (m : MethodId) (args : Array Value) (meth : Method) (c : Code) : Prop := p.tables.exec = Jvm.exec ∧ c.code = aBy M ∧ meth.sig.returnType = aRt M ∧ c.maxLocals = aNL M ∧ s.vm.findClass (aCs (aOw M)) = some m.cls ∧ (∀ w ∈ aTb, w.before args s = true) ∧ meth.locks = false ∧ (aIn M = true → meth.name = "<init>") ∧ va_K E.2.2.2.1 aCl (eTy E) s ∧ eSt E s s.heap ∧ E.2.1 ≤ s.heap.size ∧ M < 252
def eLr (E : aEnv) (n : Nat) (ls : List Value) (lsC : Array Slot) : Prop := ls.length = n ∧ ∃ lv : List (Nat × Value), lv_has lsC n lv ∧ ∀ i, (aLg ls i).category = 1 → (i, eCv E (aLg ls i)) ∈ lv
theorem eCv_cat {E : aEnv} {v : Value} (h : v.category = 1) : (eCv E v).category = 1 := by
  cases v with
  | ref k =>
    show (va_rf (eAo E k)).category = 1
    cases eAo E k <;> rfl
  | _ => exact h
theorem vrf_cat (r : Option Nat) : (va_rf r).category = 1 := by cases r <;> rfl
theorem aLg_over : ∀ (ls : List Value) (i : Nat), ls.length ≤ i → aLg ls i = .long 0
  | [], _, _ => rfl
  | _ :: r, 0, h => absurd h (by simp)
  | _ :: r, i + 1, h => aLg_over r i (by simpa using h)
theorem aLs_len : ∀ (ls : List Value) (i : Nat) (v : Value), (aLs ls i v).length = ls.length
  | [], _, _ => rfl
  | _ :: r, 0, _ => rfl
  | _ :: r, i + 1, v => by simp [aLs, aLs_len r i v]
theorem aLs_get : ∀ (ls : List Value) (i j : Nat) (v : Value), i < ls.length → aLg (aLs ls i v) j = if j = i then v else aLg ls j
  | [], _, _, _, h => absurd h (by simp)
  | _ :: r, 0, 0, v, _ => rfl
  | _ :: r, 0, j + 1, v, _ => rfl
  | _ :: r, i + 1, 0, v, _ => rfl
  | _ :: r, i + 1, j + 1, v, h => by
    show aLg (aLs r i v) j = _
    rw [aLs_get r i j v (by simpa using h)]
    simp [aLg]
theorem eLr_get {E : aEnv} {n i : Nat} {ls : List Value} {lsC : Array Slot} {v : Value} (h : eLr E n ls lsC) (hv : aLg ls i = v) (hc : v.category = 1) : lsC[i]? = some (.val (eCv E v)) := by
  obtain ⟨-, lv, h1, h2⟩ := h
  subst hv
  exact h1.2.2 _ (h2 i hc)
theorem eLr_set {E : aEnv} {n i : Nat} {ls : List Value} {lv : List (Nat × Value)} {lsC' : Array Slot} {v : Value} (hn : ls.length = n) (hi : i < ls.length) (h2 : ∀ i, (aLg ls i).category = 1 → (i, eCv E (aLg ls i)) ∈ lv) (h : lv_has lsC' n ((i, eCv E v) :: lv.filter (fun q => !(q.1 == i) && !(q.1 + 1 == i && q.2.category == 2)))) : eLr E n (aLs ls i v) lsC' := by
  refine ⟨by rw [aLs_len]; exact hn, _, h, fun j hj => ?_⟩
  rw [aLs_get ls i j v hi] at hj ⊢
  by_cases e : j = i
  · subst e
    simp
  · rw [if_neg e] at hj ⊢
    refine List.mem_cons_of_mem _ (List.mem_filter.mpr ⟨h2 j hj, ?_⟩)
    have := eCv_cat (E := E) hj
    simp [e, this]
theorem eCe_congr {E : aEnv} {σ σ' : HS} {k : Nat} (h1 : σ'.1 k = σ.1 k) (h2 : σ'.2.1 k = σ.2.1 k) (h3 : σ'.2.2.1 k = σ.2.2.1 k) : eCe E σ' k = eCe E σ k := by
  have e : ∀ κ, eFs E σ' κ k = eFs E σ κ k := by
    intro κ
    unfold eFs
    refine List.map_congr_left fun j _ => ?_
    unfold eFv
    rw [h2, h3]
  unfold eCe
  rw [h1, h2, h3, e]
theorem eAd_inj {E : aEnv} {a b : Nat} (ha : 16 ≤ a) (hb : 16 ≤ b) (h : a ≠ b) : eAd E a ≠ eAd E b := by
  unfold eAd
  rw [if_neg (by omega), if_neg (by omega)]
  omega
theorem eHo_upd {E : aEnv} {σ σ' : HS} {H H1 : Heap} {a : Nat} (h : eHo E σ H) (ha : 16 ≤ a) (hS : σ'.1 = σ.1) (ht : σ'.2.2.2.1 = σ.2.2.2.1) (hI : ∀ k, k ≠ a → σ'.2.1 k = σ.2.1 k) (hR : ∀ k, k ≠ a → σ'.2.2.1 k = σ.2.2.1 k) (z : H1.size = H.size) (oq : ∀ q : Nat, q ≠ eAd E a → H1[q]? = H[q]?) (hat : va_at E.2.2.2.1 aCl (eAd E a, eCe E σ' a) H1) : eHo E σ' H1 := by
  obtain ⟨h1, h2, h3, h4, h5⟩ := h
  refine ⟨by rw [ht]; exact h1, by rw [z, ht]; exact h2, fun k hk => ?_, fun k hk => ?_, fun k hk hk2 => ?_⟩
  · have hne : k ≠ a := by omega
    rw [hS, hI k hne, hR k hne]
    exact h3 k hk
  · rw [hS]
    exact h4 k (by rw [← ht]; exact hk)
  · rw [ht] at hk2
    obtain ⟨g1, g2⟩ := h5 k hk hk2
    refine ⟨by rw [hS]; exact g1, ?_⟩
    by_cases e : k = a
    · subst e; exact hat
    · rw [eCe_congr (E := E) (by rw [hS]) (hI k e) (hR k e)]
      exact g2.kept (oq _ (eAd_inj hk ha e))
theorem eHo_new {E : aEnv} {σ : HS} {H H1 : Heap} {κ n : Nat} (h : eHo E σ H) (hκ : κ ≤ 13) (z : H1.size = H.size + 1) (oq : ∀ q : Nat, q < H.size → H1[q]? = H[q]?) (hat : va_at E.2.2.2.1 aCl (H.size, eCe E (aNc κ n σ) σ.2.2.2.1) H1) : eHo E (aNc κ n σ) H1 ∧ eCv E (.ref σ.2.2.2.1) = .ref H.size := by
  obtain ⟨h1, h2, h3, h4, h5⟩ := h
  have hadr : eAd E σ.2.2.2.1 = H.size := by
    unfold eAd
    rw [if_neg (by omega), h2]
  have s1 : ∀ k, k ≠ σ.2.2.2.1 → (aNc κ n σ).1 k = σ.1 k := fun k e => by simp [aNc, e]
  have s2 : ∀ k, k ≠ σ.2.2.2.1 → (aNc κ n σ).2.1 k = σ.2.1 k := fun k e => by simp [aNc, e]
  have s3 : ∀ k, k ≠ σ.2.2.2.1 → (aNc κ n σ).2.2.1 k = σ.2.2.1 k := fun k e => by simp [aNc, e]
  have s4 : (aNc κ n σ).2.2.2.1 = σ.2.2.2.1 + 1 := rfl
  refine ⟨⟨by omega, by omega, fun k hk => ?_, fun k hk => ?_, fun k hk hk2 => ?_⟩, ?_⟩
  · have hne : k ≠ σ.2.2.2.1 := by omega
    rw [s1 k hne, s2 k hne, s3 k hne]
    exact h3 k hk
  · rw [s1 k (by omega)]
    exact h4 k (by omega)
  · by_cases e : k = σ.2.2.2.1
    · subst e
      refine ⟨by simp [aNc]; exact hκ, by rw [hadr]; exact hat⟩
    · obtain ⟨g1, g2⟩ := h5 k hk (by omega)
      refine ⟨by rw [s1 k e]; exact g1, ?_⟩
      rw [eCe_congr (s1 k e) (s2 k e) (s3 k e)]
      exact g2.kept (oq _ g2.lt)
  · show va_rf (eAo E _) = _
    unfold eAo
    rw [if_neg (by omega), hadr]
    rfl
section
variable {E : aEnv} {σ : HS} {H : Heap} {U : State} {a κ : Nat}
theorem eSt_kinds (hs : eSt E U H) (k : Nat) (hk : k < 16) : (E.2.2.2.2.2.1 k).1 = 9 ∨ (E.2.2.2.2.2.1 k).1 = 15 ∨ (E.2.2.2.2.2.1 k).1 = 14 ∨ (E.2.2.2.2.2.1 k).1 = 98 := by
  rcases hs.1 k hk with h | h | h | h
  · exact Or.inl h.1
  · exact Or.inr (Or.inl h.1)
  · exact Or.inr (Or.inr (Or.inl h.1))
  · exact Or.inr (Or.inr (Or.inr h))
/-- a cell of ours -/
theorem eHo_at {H0 : Heap} (h : eHo E σ H) (hs : eSt E U H0) (hk : (σ.1 a).1 = κ) (h13 : κ ≤ 13) (h9 : κ ≠ 9 ∨ 16 ≤ a) : 16 ≤ a ∧ a < σ.2.2.2.1 ∧ va_at E.2.2.2.1 aCl (eAd E a, eCe E σ a) H ∧ eCv E (.ref a) = .ref (eAd E a) := by
  have h16 : 16 ≤ a := by
    rcases h9 with h9 | h9
    · rcases Nat.lt_or_ge a 16 with q | q
      · have e := (h.2.2.1 a q).1
        rw [e] at hk
        rcases eSt_kinds hs a q with g | g | g | g <;> omega
      · exact q
    · exact h9
  have hlt : a < σ.2.2.2.1 := by
    rcases Nat.lt_or_ge a σ.2.2.2.1 with q | q
    · exact q
    · have e := h.2.2.2.1 a q
      rw [e] at hk
      simp at hk
      omega
  refine ⟨h16, hlt, (h.2.2.2.2 a h16 hlt).2, ?_⟩
  show va_rf (eAo E a) = _
  unfold eAo
  rw [if_neg (by omega)]
  rfl
theorem eP1 {D : va_G} {cl : List vw_C} {q : Nat × va_E} (h : va_at D cl q H) : va_P D cl [q] H := by
  intro k x hx
  cases k with
  | zero => simp at hx; subst hx; exact h
  | succ k => simp at hx
theorem eCe_obj (hk : (σ.1 a).1 = κ) (h8 : κ < 8) : eCe E σ a = .inr (κ, eFs E σ κ a) := by
  unfold eCe
  rw [hk, if_pos h8]
theorem eCe_int (hk : (σ.1 a).1 = κ) (h8 : 8 ≤ κ) (h11 : κ < 11) : eCe E σ a = .inl (E.2.2.2.2.1 κ, (σ.1 a).2, .inl (σ.2.1 a)) := by
  unfold eCe
  rw [hk, if_neg (by omega), if_pos h11]
theorem eCe_ref (hk : (σ.1 a).1 = κ) (h11 : 11 ≤ κ) : eCe E σ a = .inl (E.2.2.2.2.1 κ, (σ.1 a).2, .inr (.inr (.inr (.inr (fun j => (σ.2.2.1 a j).bind (eAo E)))))) := by
  unfold eCe
  rw [hk, if_neg (by omega), if_neg (by omega)]
theorem eCv_rf (r : Option Nat) : eCv E (va_rf r) = va_rf (r.bind (eAo E)) := by
  cases r <;> rfl
theorem eTy_at (h8 : 8 ≤ κ) (h13 : κ ≤ 13) : (eTy E)[κ - 8]? = some (E.2.2.2.2.1 κ, if κ = 8 then .char else if κ = 9 then .int else if κ = 10 then .boolean else .object (aEl κ)) := by
  rcases (show κ = 8 ∨ κ = 9 ∨ κ = 10 ∨ κ = 11 ∨ κ = 12 ∨ κ = 13 by omega) with rfl | rfl | rfl | rfl | rfl | rfl <;> rfl
end
